theorem mDW_fr (σ : AH) (b np nt : Nat) (L : Nat → Nat) (z : Int) (c j : Nat) (h : c ≠ 295 ∧ (c < 316 ∨ 337 < c)) : mDW σ b np nt L z c j = σ c j := by
  unfold mDW
  rw [mDay_fr _ _ _ _ _ _ _ _ (by omega), mHW_fr _ _ _ _ _ (by omega), cpN_fr _ _ _ _ _ _ (by omega)]
theorem mDW_M (σ : AH) (b np nt : Nat) (L : Nat → Nat) (z : Int) (j : Nat) (h : j ≠ 46) : mDW σ b np nt L z 295 j = σ 295 j := by
  unfold mDW
  rw [mDay_M _ _ _ _ _ _ _ h, mHW_fr _ _ _ _ _ (by decide), cpN_fr _ _ _ _ _ _ (by decide)]
theorem mDW_l (σ : AH) (b np nt : Nat) (L : Nat → Nat) (z : Int) : mDW σ b np nt L z 295 46 = ((1 : Nat) : Int) := mDay_l _ _ _ _ _ _
theorem shl1 (np : Nat) (h : np ≤ 10) : aShl 1 ((np : Nat) : Int) = ((2 ^ np : Nat) : Int) := by
  have : ∀ k : Fin 11, aShl 1 ((k.val : Nat) : Int) = ((2 ^ k.val : Nat) : Int) := by decide
  exact this ⟨np, by omega⟩
theorem pw10 (np : Nat) (h : np ≤ 10) : 2 ^ np ≤ 1024 := Nat.pow_le_pow_right (by decide) h
def stLs (b np nt : Nat) (L : Nat → Nat) (p : Nat) (n : Nat) (S : Int × Int × AH) : Int × Int × AH :=
  if aAnd (aShr ((n : Nat) : Int) ((p : Nat) : Int)) 1 = 1 then S else if mCanC S.2.2 b np ((n : Nat) : Int) then (if mCoin S.2.2 b np ((n : Nat) : Int) < S.2.1 then (if mDW S.2.2 b np nt L ((n : Nat) : Int) 334 p = mDW S.2.2 b np nt L ((n : Nat) : Int) 321 (10 * 1 + p) then (((n : Nat) : Int), mCoin (mDW S.2.2 b np nt L ((n : Nat) : Int)) b np ((n : Nat) : Int), mDW S.2.2 b np nt L ((n : Nat) : Int)) else (S.1, S.2.1, mDW S.2.2 b np nt L ((n : Nat) : Int))) else S) else S
def mLs (σ : AH) (b np nt : Nat) (L : Nat → Nat) (p : Nat) : Nat → Int × Int × AH
  | 0 => (-1, 1000000, σ)
  | n + 1 => stLs b np nt L p n (mLs σ b np nt L p n)
theorem stLs_fr (b np nt : Nat) (L : Nat → Nat) (p : Nat) (n : Nat) (S : Int × Int × AH) (c j : Nat) (h : c ≠ 295 ∧ (c < 316 ∨ 337 < c)) : (stLs b np nt L p n S).2.2 c j = S.2.2 c j := by
    unfold stLs
    repeat' split
    all_goals first | rfl | exact mDW_fr _ _ _ _ _ _ _ _ h
theorem stLs_M (b np nt : Nat) (L : Nat → Nat) (p : Nat) (n : Nat) (S : Int × Int × AH) (j : Nat) (h : j ≠ 46) : (stLs b np nt L p n S).2.2 295 j = S.2.2 295 j := by
    unfold stLs
    repeat' split
    all_goals first | rfl | exact mDW_M _ _ _ _ _ _ _ h
theorem mLs_fr (σ : AH) (b np nt : Nat) (L : Nat → Nat) (p : Nat) (n c j : Nat) (h : c ≠ 295 ∧ (c < 316 ∨ 337 < c)) : (mLs σ b np nt L p n).2.2 c j = σ c j := by
  induction n with
  | zero => rfl
  | succ n ih => rw [mLs, stLs_fr _ _ _ _ _ _ _ _ _ h, ih]
theorem mLs_M (σ : AH) (b np nt : Nat) (L : Nat → Nat) (p : Nat) (n j : Nat) (h : j ≠ 46) : (mLs σ b np nt L p n).2.2 295 j = σ 295 j := by
  induction n with
  | zero => rfl
  | succ n ih => rw [mLs, stLs_M _ _ _ _ _ _ _ _ h, ih]
theorem l_Ls (X : AX) (Q : Option AV → AH → Prop) (p : Nat) (np nt : Nat) (L : Nat → Nat) (σ : AH) {b : Nat} (hb : σ 295 13 = (b : Int)) (hb2 : b < 2) (hnp : σ 307 b = (np : Int)) (hnp2 : np ≤ 10) (hnt : σ 300 b = (nt : Int)) (hnt2 : nt ≤ 6) (hL : ∀ t, t < nt → σ 304 (6 * b + t) = (L t : Int) ∧ 2 ≤ L t ∧ L t ≤ 8) (w : Int) (hp : p < np) (x0 : AV) (kk : ∀ x y : AV, TT X 220 (63, [(2, 295), (0, ((p : Nat) : Int)), (0, w), (0, (mLs σ b np nt L p (2 ^ np)).1), (0, (mLs σ b np nt L p (2 ^ np)).2.1), x], [], (mLs σ b np nt L p (2 ^ np)).2.2) Q) : ∀ (d n : Nat), n + d = 2 ^ np → ∀ y : AV, TT X 220 (17, [(2, 295), (0, ((p : Nat) : Int)), (0, w), (0, (mLs σ b np nt L p n).1), (0, (mLs σ b np nt L p n).2.1), (0, ((n : Nat) : Int))], [], (mLs σ b np nt L p n).2.2) Q := by
  intro d
  have hN : 2 ^ np ≤ 1024 := pw10 np hnp2
  induction d with
  | zero =>
    intro n hn y
    have hnn : n = 2 ^ np := by omega
    have hfr := fun c j h => mLs_fr σ b np nt L p n c j h
    have hfM := fun j h => mLs_M σ b np nt L p n j h
    subst hnn
    obtain ⟨⟨s0, s1, τ⟩, hS⟩ : ∃ S, mLs σ b np nt L p (2 ^ np) = S := ⟨_, rfl⟩
    rw [hS] at hfr hfM ⊢
    rw [hS] at kk
    dsimp only at hfr hfM ⊢ kk
    refine TT.steps (cd := cd220) 6 (c' := (23, [(2, 295), (0, ((p : Nat) : Int)), (0, w), (0, s0), (0, s1), (0, (((2 ^ np) : Nat) : Int))], [(0, (τ 295 13)), (2, 307), (0, 1), (0, (((2 ^ np) : Nat) : Int))], τ)) rfl rfl ?_
    refine TT.top0 (z := ((b : Nat) : Int)) ((hfM (13) (by decide)).trans hb) ?_
    refine TT.aldN (cd := cd220) (307) (b) rfl rfl rfl rfl (show b < 2 by omega) ?_
    refine TT.top0 (z := ((np : Nat) : Int)) ((hfr 307 (b) (by decide)).trans hnp) ?_
    refine TT.steps (cd := cd220) 1 (c' := (25, [(2, 295), (0, ((p : Nat) : Int)), (0, w), (0, s0), (0, s1), (0, (((2 ^ np) : Nat) : Int))], [(0, (aShl 1 ((np : Nat) : Int))), (0, (((2 ^ np) : Nat) : Int))], τ)) rfl rfl ?_
    refine TT.top0 (z := (((2 ^ np) : Nat) : Int)) (shl1 np hnp2) ?_
    refine TT.steps (cd := cd220) 1 (c' := ((if decide ((((2 ^ np) : Nat) : Int) ≤ (((2 ^ np) : Nat) : Int)) = true then 63 else 26), [(2, 295), (0, ((p : Nat) : Int)), (0, w), (0, s0), (0, s1), (0, (((2 ^ np) : Nat) : Int))], [], τ)) rfl rfl ?_
    refine TT.br (p := (((2 ^ np) : Nat) : Int) ≤ (((2 ^ np) : Nat) : Int)) (fun h1 => ?_) (fun h1 => absurd (show (((2 ^ np) : Nat) : Int) ≤ (((2 ^ np) : Nat) : Int) by omega) h1)
    exact kk _ (0, 0)
  | succ d ih =>
    intro n hn y
    have hfr := fun c j h => mLs_fr σ b np nt L p n c j h
    have hfM := fun j h => mLs_M σ b np nt L p n j h
    obtain ⟨⟨s0, s1, τ⟩, hS⟩ : ∃ S, mLs σ b np nt L p n = S := ⟨_, rfl⟩
    rw [hS] at hfr hfM ⊢
    dsimp only at hfr hfM ⊢
    refine TT.steps (cd := cd220) 6 (c' := (23, [(2, 295), (0, ((p : Nat) : Int)), (0, w), (0, s0), (0, s1), (0, ((n : Nat) : Int))], [(0, (τ 295 13)), (2, 307), (0, 1), (0, ((n : Nat) : Int))], τ)) rfl rfl ?_
    refine TT.top0 (z := ((b : Nat) : Int)) ((hfM (13) (by decide)).trans hb) ?_
    refine TT.aldN (cd := cd220) (307) (b) rfl rfl rfl rfl (show b < 2 by omega) ?_
    refine TT.top0 (z := ((np : Nat) : Int)) ((hfr 307 (b) (by decide)).trans hnp) ?_
    refine TT.steps (cd := cd220) 1 (c' := (25, [(2, 295), (0, ((p : Nat) : Int)), (0, w), (0, s0), (0, s1), (0, ((n : Nat) : Int))], [(0, (aShl 1 ((np : Nat) : Int))), (0, ((n : Nat) : Int))], τ)) rfl rfl ?_
    refine TT.top0 (z := (((2 ^ np) : Nat) : Int)) (shl1 np hnp2) ?_
    refine TT.steps (cd := cd220) 1 (c' := ((if decide ((((2 ^ np) : Nat) : Int) ≤ ((n : Nat) : Int)) = true then 63 else 26), [(2, 295), (0, ((p : Nat) : Int)), (0, w), (0, s0), (0, s1), (0, ((n : Nat) : Int))], [], τ)) rfl rfl ?_
    refine TT.br (p := (((2 ^ np) : Nat) : Int) ≤ ((n : Nat) : Int)) (fun h1 => absurd h1 (show ¬ ((((2 ^ np) : Nat) : Int) ≤ ((n : Nat) : Int)) by omega)) (fun h1 => ?_)
    refine TT.steps (cd := cd220) 7 (c' := ((if decide ((aAnd (aShr ((n : Nat) : Int) ((p : Nat) : Int)) 1) = 1) = true then 61 else 33), [(2, 295), (0, ((p : Nat) : Int)), (0, w), (0, s0), (0, s1), (0, ((n : Nat) : Int))], [], τ)) rfl rfl ?_
    refine TT.br (p := (aAnd (aShr ((n : Nat) : Int) ((p : Nat) : Int)) 1) = 1) (fun h2 => ?_) (fun h2 => ?_)
    · refine TT.inc (cd := cd220) ((n + 1 : Nat) : Int) rfl rfl rfl rfl (fun h => absurd h.2 (show ¬ (0 = 1) by decide)) (aAdd_n (a := n) (b := 1) (by omega)) (ls' := [(2, 295), (0, ((p : Nat) : Int)), (0, w), (0, s0), (0, s1), (0, ((n + 1 : Nat) : Int))]) rfl ?_
      refine TT.steps (cd := cd220) 1 (c' := (17, [(2, 295), (0, ((p : Nat) : Int)), (0, w), (0, s0), (0, s1), (0, ((n + 1 : Nat) : Int))], [], τ)) rfl rfl ?_
      have e1 : mLs σ b np nt L p (n + 1) = (s0, s1, τ) := by
        rw [mLs, hS]
        unfold stLs
        dsimp only
        first | (rw [if_pos (by first | assumption | omega)]; done) | (rw [if_neg (by first | assumption | omega), if_neg (by first | assumption | omega)]; done) | (rw [if_neg (by first | assumption | omega), if_pos (by first | assumption | omega), if_neg (by first | assumption | omega)]; done) | (rw [if_neg (by first | assumption | omega), if_pos (by first | assumption | omega), if_pos (by first | assumption | omega), if_neg (by first | assumption | omega)]; done) | (rw [if_neg (by first | assumption | omega), if_pos (by first | assumption | omega), if_pos (by first | assumption | omega), if_pos (by first | assumption | omega)]; done)
      have := ih (n + 1) (by omega) (0, 0)
      rw [e1] at this
      exact this
    · refine TT.steps (cd := cd220) 2 (c' := (35, [(2, 295), (0, ((p : Nat) : Int)), (0, w), (0, s0), (0, s1), (0, ((n : Nat) : Int))], [(0, ((n : Nat) : Int)), (2, 295)], τ)) rfl rfl ?_
      refine TT.call (cd := cd220) rfl rfl rfl (by decide) rfl (t_canHire X ((n : Nat) : Int) np τ ((hfM (13) (by decide)).trans hb) hb2 ((hfr 307 (b) (by decide)).trans hnp) hnp2) (fun r3 σ3 hq => ?_)
      rw [hq.1, hq.2]
      refine TT.steps (cd := cd220) 1 (c' := ((if decide (((if mCanC τ b np ((n : Nat) : Int) then 1 else 0) : Int) = 0) = true then 61 else 37), [(2, 295), (0, ((p : Nat) : Int)), (0, w), (0, s0), (0, s1), (0, ((n : Nat) : Int))], [], τ)) rfl rfl ?_
      refine TT.br (p := ((if mCanC τ b np ((n : Nat) : Int) then 1 else 0) : Int) = 0) (fun h4 => ?_) (fun h4 => ?_)
      · replace h4 := ite_f h4
        refine TT.inc (cd := cd220) ((n + 1 : Nat) : Int) rfl rfl rfl rfl (fun h => absurd h.2 (show ¬ (0 = 1) by decide)) (aAdd_n (a := n) (b := 1) (by omega)) (ls' := [(2, 295), (0, ((p : Nat) : Int)), (0, w), (0, s0), (0, s1), (0, ((n + 1 : Nat) : Int))]) rfl ?_
        refine TT.steps (cd := cd220) 1 (c' := (17, [(2, 295), (0, ((p : Nat) : Int)), (0, w), (0, s0), (0, s1), (0, ((n + 1 : Nat) : Int))], [], τ)) rfl rfl ?_
        have e1 : mLs σ b np nt L p (n + 1) = (s0, s1, τ) := by
          rw [mLs, hS]
          unfold stLs
          dsimp only
          first | (rw [if_pos (by first | assumption | omega)]; done) | (rw [if_neg (by first | assumption | omega), if_neg (by first | assumption | omega)]; done) | (rw [if_neg (by first | assumption | omega), if_pos (by first | assumption | omega), if_neg (by first | assumption | omega)]; done) | (rw [if_neg (by first | assumption | omega), if_pos (by first | assumption | omega), if_pos (by first | assumption | omega), if_neg (by first | assumption | omega)]; done) | (rw [if_neg (by first | assumption | omega), if_pos (by first | assumption | omega), if_pos (by first | assumption | omega), if_pos (by first | assumption | omega)]; done)
        have := ih (n + 1) (by omega) (0, 0)
        rw [e1] at this
        exact this
      · replace h4 := ite_t h4
        refine TT.steps (cd := cd220) 2 (c' := (39, [(2, 295), (0, ((p : Nat) : Int)), (0, w), (0, s0), (0, s1), (0, ((n : Nat) : Int))], [(0, ((n : Nat) : Int)), (2, 295)], τ)) rfl rfl ?_
        refine TT.call (cd := cd220) rfl rfl rfl (by decide) rfl (t_coinOf X ((n : Nat) : Int) np τ ((hfM (13) (by decide)).trans hb) hb2 ((hfr 307 (b) (by decide)).trans hnp) hnp2) (fun r5 σ5 hq => ?_)
        rw [hq.1, hq.2]
        refine TT.steps (cd := cd220) 2 (c' := ((if decide ((mCoin τ b np ((n : Nat) : Int)) < s1) = true then 43 else 42), [(2, 295), (0, ((p : Nat) : Int)), (0, w), (0, s0), (0, s1), (0, ((n : Nat) : Int))], [], τ)) rfl rfl ?_
        refine TT.br (p := (mCoin τ b np ((n : Nat) : Int)) < s1) (fun h6 => ?_) (fun h6 => ?_)
        · refine TT.steps (cd := cd220) 2 (c' := (45, [(2, 295), (0, ((p : Nat) : Int)), (0, w), (0, s0), (0, s1), (0, ((n : Nat) : Int))], [(0, ((n : Nat) : Int)), (2, 295)], τ)) rfl rfl ?_
          refine TT.call (cd := cd220) rfl rfl rfl (by decide) rfl (t_dayWith X ((n : Nat) : Int) np nt L τ ((hfM (13) (by decide)).trans hb) hb2 ((hfr 307 (b) (by decide)).trans hnp) hnp2 ((hfr 300 (b) (by decide)).trans hnt) hnt2 (fun t ht => ⟨(show ∀ j, τ 304 j = σ 304 j from fun j => (hfr 304 (j) (by decide))) _ |>.trans (hL t ht).1, (hL t ht).2⟩)) (fun r7 σ7 hq => ?_)
          rw [hq.1, hq.2]
          refine TT.steps (cd := cd220) 3 (c' := (49, [(2, 295), (0, ((p : Nat) : Int)), (0, w), (0, s0), (0, s1), (0, ((n : Nat) : Int))], [(0, ((p : Nat) : Int)), (2, 334)], (mDW τ b np nt L ((n : Nat) : Int)))) rfl rfl ?_
          refine TT.aldN (cd := cd220) (334) (p) rfl rfl rfl rfl (show p < 10 by omega) ?_
          refine TT.steps (cd := cd220) 2 (c' := (52, [(2, 295), (0, ((p : Nat) : Int)), (0, w), (0, s0), (0, s1), (0, ((n : Nat) : Int))], [(0, ((p : Nat) : Int)), (2, 295), (0, ((mDW τ b np nt L ((n : Nat) : Int)) 334 p))], (mDW τ b np nt L ((n : Nat) : Int)))) rfl rfl ?_
          refine TT.call (cd := cd220) rfl rfl rfl (by decide) rfl (t_wishOf X p (by omega) (mDW τ b np nt L ((n : Nat) : Int)) (mDW_l _ _ _ _ _ _) (by decide)) (fun r8 σ8 hq => ?_)
          rw [hq.1, hq.2]
          refine TT.steps (cd := cd220) 1 (c' := ((if decide (((mDW τ b np nt L ((n : Nat) : Int)) 334 p) = ((mDW τ b np nt L ((n : Nat) : Int)) 321 (10 * 1 + p))) = true then 55 else 54), [(2, 295), (0, ((p : Nat) : Int)), (0, w), (0, s0), (0, s1), (0, ((n : Nat) : Int))], [], (mDW τ b np nt L ((n : Nat) : Int)))) rfl rfl ?_
          refine TT.br (p := ((mDW τ b np nt L ((n : Nat) : Int)) 334 p) = ((mDW τ b np nt L ((n : Nat) : Int)) 321 (10 * 1 + p))) (fun h9 => ?_) (fun h9 => ?_)
          · refine TT.steps (cd := cd220) 4 (c' := (59, [(2, 295), (0, ((p : Nat) : Int)), (0, w), (0, ((n : Nat) : Int)), (0, s1), (0, ((n : Nat) : Int))], [(0, ((n : Nat) : Int)), (2, 295)], (mDW τ b np nt L ((n : Nat) : Int)))) rfl rfl ?_
            refine TT.call (cd := cd220) rfl rfl rfl (by decide) rfl (t_coinOf X ((n : Nat) : Int) np (mDW τ b np nt L ((n : Nat) : Int)) (((mDW_M _ _ _ _ _ _ (13) (by decide)).trans (hfM (13) (by decide))).trans hb) hb2 (((mDW_fr _ _ _ _ _ _ 307 (b) (by decide)).trans (hfr 307 (b) (by decide))).trans hnp) hnp2) (fun r10 σ10 hq => ?_)
            rw [hq.1, hq.2]
            refine TT.steps (cd := cd220) 1 (c' := (61, [(2, 295), (0, ((p : Nat) : Int)), (0, w), (0, ((n : Nat) : Int)), (0, (mCoin (mDW τ b np nt L ((n : Nat) : Int)) b np ((n : Nat) : Int))), (0, ((n : Nat) : Int))], [], (mDW τ b np nt L ((n : Nat) : Int)))) rfl rfl ?_
            refine TT.inc (cd := cd220) ((n + 1 : Nat) : Int) rfl rfl rfl rfl (fun h => absurd h.2 (show ¬ (0 = 1) by decide)) (aAdd_n (a := n) (b := 1) (by omega)) (ls' := [(2, 295), (0, ((p : Nat) : Int)), (0, w), (0, ((n : Nat) : Int)), (0, (mCoin (mDW τ b np nt L ((n : Nat) : Int)) b np ((n : Nat) : Int))), (0, ((n + 1 : Nat) : Int))]) rfl ?_
            refine TT.steps (cd := cd220) 1 (c' := (17, [(2, 295), (0, ((p : Nat) : Int)), (0, w), (0, ((n : Nat) : Int)), (0, (mCoin (mDW τ b np nt L ((n : Nat) : Int)) b np ((n : Nat) : Int))), (0, ((n + 1 : Nat) : Int))], [], (mDW τ b np nt L ((n : Nat) : Int)))) rfl rfl ?_
            have e1 : mLs σ b np nt L p (n + 1) = (((n : Nat) : Int), (mCoin (mDW τ b np nt L ((n : Nat) : Int)) b np ((n : Nat) : Int)), (mDW τ b np nt L ((n : Nat) : Int))) := by
              rw [mLs, hS]
              unfold stLs
              dsimp only
              first | (rw [if_pos (by first | assumption | omega)]; done) | (rw [if_neg (by first | assumption | omega), if_neg (by first | assumption | omega)]; done) | (rw [if_neg (by first | assumption | omega), if_pos (by first | assumption | omega), if_neg (by first | assumption | omega)]; done) | (rw [if_neg (by first | assumption | omega), if_pos (by first | assumption | omega), if_pos (by first | assumption | omega), if_neg (by first | assumption | omega)]; done) | (rw [if_neg (by first | assumption | omega), if_pos (by first | assumption | omega), if_pos (by first | assumption | omega), if_pos (by first | assumption | omega)]; done)
            have := ih (n + 1) (by omega) (0, 0)
            rw [e1] at this
            exact this
          · refine TT.steps (cd := cd220) 1 (c' := (61, [(2, 295), (0, ((p : Nat) : Int)), (0, w), (0, s0), (0, s1), (0, ((n : Nat) : Int))], [], (mDW τ b np nt L ((n : Nat) : Int)))) rfl rfl ?_
            refine TT.inc (cd := cd220) ((n + 1 : Nat) : Int) rfl rfl rfl rfl (fun h => absurd h.2 (show ¬ (0 = 1) by decide)) (aAdd_n (a := n) (b := 1) (by omega)) (ls' := [(2, 295), (0, ((p : Nat) : Int)), (0, w), (0, s0), (0, s1), (0, ((n + 1 : Nat) : Int))]) rfl ?_
            refine TT.steps (cd := cd220) 1 (c' := (17, [(2, 295), (0, ((p : Nat) : Int)), (0, w), (0, s0), (0, s1), (0, ((n + 1 : Nat) : Int))], [], (mDW τ b np nt L ((n : Nat) : Int)))) rfl rfl ?_
            have e1 : mLs σ b np nt L p (n + 1) = (s0, s1, (mDW τ b np nt L ((n : Nat) : Int))) := by
              rw [mLs, hS]
              unfold stLs
              dsimp only
              first | (rw [if_pos (by first | assumption | omega)]; done) | (rw [if_neg (by first | assumption | omega), if_neg (by first | assumption | omega)]; done) | (rw [if_neg (by first | assumption | omega), if_pos (by first | assumption | omega), if_neg (by first | assumption | omega)]; done) | (rw [if_neg (by first | assumption | omega), if_pos (by first | assumption | omega), if_pos (by first | assumption | omega), if_neg (by first | assumption | omega)]; done) | (rw [if_neg (by first | assumption | omega), if_pos (by first | assumption | omega), if_pos (by first | assumption | omega), if_pos (by first | assumption | omega)]; done)
            have := ih (n + 1) (by omega) (0, 0)
            rw [e1] at this
            exact this
        · refine TT.steps (cd := cd220) 1 (c' := (61, [(2, 295), (0, ((p : Nat) : Int)), (0, w), (0, s0), (0, s1), (0, ((n : Nat) : Int))], [], τ)) rfl rfl ?_
          refine TT.inc (cd := cd220) ((n + 1 : Nat) : Int) rfl rfl rfl rfl (fun h => absurd h.2 (show ¬ (0 = 1) by decide)) (aAdd_n (a := n) (b := 1) (by omega)) (ls' := [(2, 295), (0, ((p : Nat) : Int)), (0, w), (0, s0), (0, s1), (0, ((n + 1 : Nat) : Int))]) rfl ?_
          refine TT.steps (cd := cd220) 1 (c' := (17, [(2, 295), (0, ((p : Nat) : Int)), (0, w), (0, s0), (0, s1), (0, ((n + 1 : Nat) : Int))], [], τ)) rfl rfl ?_
          have e1 : mLs σ b np nt L p (n + 1) = (s0, s1, τ) := by
            rw [mLs, hS]
            unfold stLs
            dsimp only
            first | (rw [if_pos (by first | assumption | omega)]; done) | (rw [if_neg (by first | assumption | omega), if_neg (by first | assumption | omega)]; done) | (rw [if_neg (by first | assumption | omega), if_pos (by first | assumption | omega), if_neg (by first | assumption | omega)]; done) | (rw [if_neg (by first | assumption | omega), if_pos (by first | assumption | omega), if_pos (by first | assumption | omega), if_neg (by first | assumption | omega)]; done) | (rw [if_neg (by first | assumption | omega), if_pos (by first | assumption | omega), if_pos (by first | assumption | omega), if_pos (by first | assumption | omega)]; done)
          have := ih (n + 1) (by omega) (0, 0)
          rw [e1] at this
          exact this
