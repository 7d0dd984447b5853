/-- the first fault is kept -/
def mBl (σ : AH) (k p : Int) : AH := if 0 < σ 295 8 then σ else up2 (up2 σ 295 8 k) 295 9 p
theorem mBl_fr (σ : AH) (k p : Int) (c j : Nat) (h : c ≠ 295 ∨ (j ≠ 8 ∧ j ≠ 9)) : mBl σ k p c j = σ c j := by
  unfold mBl
  split
  · rfl
  · simp only [up2]
    rw [if_neg (by omega), if_neg (by omega)]
def mLex (σ : AH) : AH := if σ 295 12 = -1 then σ else mBl σ 1 (σ 295 12)
theorem mLex_fr (σ : AH) (c j : Nat) (h : c ≠ 295 ∨ (j ≠ 8 ∧ j ≠ 9)) : mLex σ c j = σ c j := by
  unfold mLex
  split
  · rfl
  · exact mBl_fr _ _ _ _ _ h
abbrev mLet (c : Int) : Prop := 97 ≤ c ∧ c ≤ 122
abbrev mDig (c : Int) : Prop := 48 ≤ c ∧ c ≤ 57
theorem t_blame (X : AX) (k p : Int) (σ : AH)  : TT X 4 (0, [(2, 295), (0, k), (0, p)], [], σ) (fun r σ' => r = none ∧ σ' = mBl σ k p) := by
  refine TT.steps (cd := cd4) 3 (c' := ((if decide ((σ 295 8) ≤ 0) = true then 4 else 3), [(2, 295), (0, k), (0, p)], [], σ)) rfl rfl ?_
  refine TT.br (p := (σ 295 8) ≤ 0) (fun h1 => ?_) (fun h1 => ?_)
  · refine TT.steps (cd := cd4) 6 (c' := (10, [(2, 295), (0, k), (0, p)], [], (up2 (up2 σ 295 8 k) 295 9 p))) rfl rfl ?_
    exact TT.ret (cd := cd4) rfl rfl rfl rfl (⟨rfl, by unfold mBl; first | (rw [if_pos (by omega)]; done) | (rw [if_neg (by omega)]; done)⟩)
  · exact TT.ret (cd := cd4) rfl rfl rfl rfl (⟨rfl, by unfold mBl; first | (rw [if_pos (by omega)]; done) | (rw [if_neg (by omega)]; done)⟩)
theorem t_lex (X : AX) (σ : AH)  : TT X 7 (0, [(2, 295)], [], σ) (fun r σ' => r = none ∧ σ' = mLex σ) := by
  refine TT.steps (cd := cd7) 4 (c' := ((if decide ((σ 295 12) = (-1)) = true then 9 else 4), [(2, 295)], [], σ)) rfl rfl ?_
  refine TT.br (p := (σ 295 12) = (-1)) (fun h1 => ?_) (fun h1 => ?_)
  · exact TT.ret (cd := cd7) rfl rfl rfl rfl (⟨rfl, by unfold mLex; first | (rw [if_pos (by omega)]; done) | (rw [if_neg (by omega)]; done)⟩)
  · refine TT.steps (cd := cd7) 4 (c' := (8, [(2, 295)], [(0, (σ 295 12)), (0, 1), (2, 295)], σ)) rfl rfl ?_
    refine TT.call (cd := cd7) rfl rfl rfl (by decide) rfl (t_blame X 1 (σ 295 12) σ) (fun r2 σ2 hq => ?_)
    rw [hq.1, hq.2]
    exact TT.ret (cd := cd7) rfl rfl rfl rfl (⟨rfl, by unfold mLex; first | (rw [if_pos (by omega)]; done) | (rw [if_neg (by omega)]; done)⟩)
theorem t_isLetter (X : AX) (c : Int) (σ : AH)  : TT X 5 (0, [(0, c)], [], σ) (fun r σ' => r = some (0, if mLet c then 1 else 0) ∧ σ' = σ) := by
  refine TT.steps (cd := cd5) 3 (c' := ((if decide (c < 97) = true then 8 else 3), [(0, c)], [], σ)) rfl rfl ?_
  refine TT.br (p := c < 97) (fun h1 => ?_) (fun h1 => ?_)
  · refine TT.steps (cd := cd5) 1 (c' := (9, [(0, c)], [(0, 0)], σ)) rfl rfl ?_
    exact TT.ret (cd := cd5) rfl rfl rfl rfl (⟨by first | (rw [if_pos (by omega)]; done) | (rw [if_neg (by omega)]; done), rfl⟩)
  · refine TT.steps (cd := cd5) 3 (c' := ((if decide (122 < c) = true then 8 else 6), [(0, c)], [], σ)) rfl rfl ?_
    refine TT.br (p := 122 < c) (fun h2 => ?_) (fun h2 => ?_)
    · refine TT.steps (cd := cd5) 1 (c' := (9, [(0, c)], [(0, 0)], σ)) rfl rfl ?_
      exact TT.ret (cd := cd5) rfl rfl rfl rfl (⟨by first | (rw [if_pos (by omega)]; done) | (rw [if_neg (by omega)]; done), rfl⟩)
    · refine TT.steps (cd := cd5) 2 (c' := (9, [(0, c)], [(0, 1)], σ)) rfl rfl ?_
      exact TT.ret (cd := cd5) rfl rfl rfl rfl (⟨by first | (rw [if_pos (by omega)]; done) | (rw [if_neg (by omega)]; done), rfl⟩)
theorem t_isDigit (X : AX) (c : Int) (σ : AH)  : TT X 6 (0, [(0, c)], [], σ) (fun r σ' => r = some (0, if mDig c then 1 else 0) ∧ σ' = σ) := by
  refine TT.steps (cd := cd6) 3 (c' := ((if decide (c < 48) = true then 8 else 3), [(0, c)], [], σ)) rfl rfl ?_
  refine TT.br (p := c < 48) (fun h1 => ?_) (fun h1 => ?_)
  · refine TT.steps (cd := cd6) 1 (c' := (9, [(0, c)], [(0, 0)], σ)) rfl rfl ?_
    exact TT.ret (cd := cd6) rfl rfl rfl rfl (⟨by first | (rw [if_pos (by omega)]; done) | (rw [if_neg (by omega)]; done), rfl⟩)
  · refine TT.steps (cd := cd6) 3 (c' := ((if decide (57 < c) = true then 8 else 6), [(0, c)], [], σ)) rfl rfl ?_
    refine TT.br (p := 57 < c) (fun h2 => ?_) (fun h2 => ?_)
    · refine TT.steps (cd := cd6) 1 (c' := (9, [(0, c)], [(0, 0)], σ)) rfl rfl ?_
      exact TT.ret (cd := cd6) rfl rfl rfl rfl (⟨by first | (rw [if_pos (by omega)]; done) | (rw [if_neg (by omega)]; done), rfl⟩)
    · refine TT.steps (cd := cd6) 2 (c' := (9, [(0, c)], [(0, 1)], σ)) rfl rfl ?_
      exact TT.ret (cd := cd6) rfl rfl rfl rfl (⟨by first | (rw [if_pos (by omega)]; done) | (rw [if_neg (by omega)]; done), rfl⟩)
theorem t_isSign (X : AX) (c : Int) (σ : AH)  : TT X 9 (0, [(2, 295), (0, c)], [], σ) (fun r σ' => r = some (0, if σ 295 3 = 3 ∧ σ 295 6 = c then 1 else 0) ∧ σ' = σ) := by
  refine TT.steps (cd := cd9) 4 (c' := ((if decide (¬ (σ 295 3) = 3) = true then 10 else 4), [(2, 295), (0, c)], [], σ)) rfl rfl ?_
  refine TT.br (p := ¬ (σ 295 3) = 3) (fun h1 => ?_) (fun h1 => ?_)
  · refine TT.steps (cd := cd9) 1 (c' := (11, [(2, 295), (0, c)], [(0, 0)], σ)) rfl rfl ?_
    exact TT.ret (cd := cd9) rfl rfl rfl rfl (⟨by first | (rw [if_pos (by omega)]; done) | (rw [if_neg (by omega)]; done), rfl⟩)
  · refine TT.steps (cd := cd9) 4 (c' := ((if decide (¬ (σ 295 6) = c) = true then 10 else 8), [(2, 295), (0, c)], [], σ)) rfl rfl ?_
    refine TT.br (p := ¬ (σ 295 6) = c) (fun h2 => ?_) (fun h2 => ?_)
    · refine TT.steps (cd := cd9) 1 (c' := (11, [(2, 295), (0, c)], [(0, 0)], σ)) rfl rfl ?_
      exact TT.ret (cd := cd9) rfl rfl rfl rfl (⟨by first | (rw [if_pos (by omega)]; done) | (rw [if_neg (by omega)]; done), rfl⟩)
    · refine TT.steps (cd := cd9) 2 (c' := (11, [(2, 295), (0, c)], [(0, 1)], σ)) rfl rfl ?_
      exact TT.ret (cd := cd9) rfl rfl rfl rfl (⟨by first | (rw [if_pos (by omega)]; done) | (rw [if_neg (by omega)]; done), rfl⟩)
theorem t_isWord (X : AX) (w : Int) (σ : AH)  : TT X 10 (0, [(2, 295), (1, w), (9, 0)], [], σ) (fun r σ' => r = some (0, if σ 295 3 = 1 ∧ bCmp (σ 295 7) w = 0 then 1 else 0) ∧ σ' = σ) := by
  refine TT.steps (cd := cd10) 4 (c' := ((if decide (¬ (σ 295 3) = 1) = true then 11 else 4), [(2, 295), (1, w), (9, 0)], [], σ)) rfl rfl ?_
  refine TT.br (p := ¬ (σ 295 3) = 1) (fun h1 => ?_) (fun h1 => ?_)
  · refine TT.steps (cd := cd10) 1 (c' := (12, [(2, 295), (1, w), (9, 0)], [(0, 0)], σ)) rfl rfl ?_
    exact TT.ret (cd := cd10) rfl rfl rfl rfl (⟨by first | (rw [if_pos (by omega)]; done) | (rw [if_neg (by omega)]; done), rfl⟩)
  · refine TT.steps (cd := cd10) 5 (c' := ((if decide (¬ (bCmp (σ 295 7) w) = 0) = true then 11 else 9), [(2, 295), (1, w), (9, 0)], [], σ)) rfl rfl ?_
    refine TT.br (p := ¬ (bCmp (σ 295 7) w) = 0) (fun h2 => ?_) (fun h2 => ?_)
    · refine TT.steps (cd := cd10) 1 (c' := (12, [(2, 295), (1, w), (9, 0)], [(0, 0)], σ)) rfl rfl ?_
      exact TT.ret (cd := cd10) rfl rfl rfl rfl (⟨by first | (rw [if_pos (by omega)]; done) | (rw [if_neg (by omega)]; done), rfl⟩)
    · refine TT.steps (cd := cd10) 2 (c' := (12, [(2, 295), (1, w), (9, 0)], [(0, 1)], σ)) rfl rfl ?_
      exact TT.ret (cd := cd10) rfl rfl rfl rfl (⟨by first | (rw [if_pos (by omega)]; done) | (rw [if_neg (by omega)]; done), rfl⟩)
abbrev mOwn (w : Int) : Prop := bCmp w 32497584235442030 = 0 ∨ bCmp w 1937010544 = 0 ∨ bCmp w 500135192942 = 0 ∨ bCmp w 1718775661 = 0 ∨ bCmp w 495622124659 = 0 ∨ bCmp w 426836257907 = 0 ∨ bCmp w 418330731890 = 0 ∨ bCmp w 123581014175598 = 0 ∨ bCmp w 6383461 = 0 ∨ bCmp w 1651470958 = 0 ∨ bCmp w 24948 = 0 ∨ bCmp w 29807 = 0 ∨ bCmp w 482955846501 = 0
theorem t_isOwn (X : AX) (w : Int) (σ : AH)  : TT X 12 (0, [(2, 295), (1, w), (9, 0)], [], σ) (fun r σ' => r = some (0, if mOwn w then 1 else 0) ∧ σ' = σ) := by
  refine TT.steps (cd := cd12) 4 (c' := ((if decide ((bCmp w 32497584235442030) = 0) = true then 20 else 4), [(2, 295), (1, w), (9, 0)], [], σ)) rfl rfl ?_
  refine TT.br (p := (bCmp w 32497584235442030) = 0) (fun h1 => ?_) (fun h1 => ?_)
  · refine TT.steps (cd := cd12) 1 (c' := (21, [(2, 295), (1, w), (9, 0)], [(0, 1)], σ)) rfl rfl ?_
    exact TT.ret (cd := cd12) rfl rfl rfl rfl (⟨by first | (rw [if_pos (by omega)]; done) | (rw [if_neg (by omega)]; done), rfl⟩)
  · refine TT.steps (cd := cd12) 4 (c' := ((if decide ((bCmp w 1937010544) = 0) = true then 20 else 8), [(2, 295), (1, w), (9, 0)], [], σ)) rfl rfl ?_
    refine TT.br (p := (bCmp w 1937010544) = 0) (fun h2 => ?_) (fun h2 => ?_)
    · refine TT.steps (cd := cd12) 1 (c' := (21, [(2, 295), (1, w), (9, 0)], [(0, 1)], σ)) rfl rfl ?_
      exact TT.ret (cd := cd12) rfl rfl rfl rfl (⟨by first | (rw [if_pos (by omega)]; done) | (rw [if_neg (by omega)]; done), rfl⟩)
    · refine TT.steps (cd := cd12) 4 (c' := ((if decide ((bCmp w 500135192942) = 0) = true then 20 else 12), [(2, 295), (1, w), (9, 0)], [], σ)) rfl rfl ?_
      refine TT.br (p := (bCmp w 500135192942) = 0) (fun h3 => ?_) (fun h3 => ?_)
      · refine TT.steps (cd := cd12) 1 (c' := (21, [(2, 295), (1, w), (9, 0)], [(0, 1)], σ)) rfl rfl ?_
        exact TT.ret (cd := cd12) rfl rfl rfl rfl (⟨by first | (rw [if_pos (by omega)]; done) | (rw [if_neg (by omega)]; done), rfl⟩)
      · refine TT.steps (cd := cd12) 4 (c' := ((if decide ((bCmp w 1718775661) = 0) = true then 20 else 16), [(2, 295), (1, w), (9, 0)], [], σ)) rfl rfl ?_
        refine TT.br (p := (bCmp w 1718775661) = 0) (fun h4 => ?_) (fun h4 => ?_)
        · refine TT.steps (cd := cd12) 1 (c' := (21, [(2, 295), (1, w), (9, 0)], [(0, 1)], σ)) rfl rfl ?_
          exact TT.ret (cd := cd12) rfl rfl rfl rfl (⟨by first | (rw [if_pos (by omega)]; done) | (rw [if_neg (by omega)]; done), rfl⟩)
        · refine TT.steps (cd := cd12) 4 (c' := ((if decide (¬ (bCmp w 495622124659) = 0) = true then 22 else 20), [(2, 295), (1, w), (9, 0)], [], σ)) rfl rfl ?_
          refine TT.br (p := ¬ (bCmp w 495622124659) = 0) (fun h5 => ?_) (fun h5 => ?_)
          · refine TT.steps (cd := cd12) 4 (c' := ((if decide ((bCmp w 426836257907) = 0) = true then 42 else 26), [(2, 295), (1, w), (9, 0)], [], σ)) rfl rfl ?_
            refine TT.br (p := (bCmp w 426836257907) = 0) (fun h6 => ?_) (fun h6 => ?_)
            · refine TT.steps (cd := cd12) 1 (c' := (43, [(2, 295), (1, w), (9, 0)], [(0, 1)], σ)) rfl rfl ?_
              exact TT.ret (cd := cd12) rfl rfl rfl rfl (⟨by first | (rw [if_pos (by omega)]; done) | (rw [if_neg (by omega)]; done), rfl⟩)
            · refine TT.steps (cd := cd12) 4 (c' := ((if decide ((bCmp w 418330731890) = 0) = true then 42 else 30), [(2, 295), (1, w), (9, 0)], [], σ)) rfl rfl ?_
              refine TT.br (p := (bCmp w 418330731890) = 0) (fun h7 => ?_) (fun h7 => ?_)
              · refine TT.steps (cd := cd12) 1 (c' := (43, [(2, 295), (1, w), (9, 0)], [(0, 1)], σ)) rfl rfl ?_
                exact TT.ret (cd := cd12) rfl rfl rfl rfl (⟨by first | (rw [if_pos (by omega)]; done) | (rw [if_neg (by omega)]; done), rfl⟩)
              · refine TT.steps (cd := cd12) 4 (c' := ((if decide ((bCmp w 123581014175598) = 0) = true then 42 else 34), [(2, 295), (1, w), (9, 0)], [], σ)) rfl rfl ?_
                refine TT.br (p := (bCmp w 123581014175598) = 0) (fun h8 => ?_) (fun h8 => ?_)
                · refine TT.steps (cd := cd12) 1 (c' := (43, [(2, 295), (1, w), (9, 0)], [(0, 1)], σ)) rfl rfl ?_
                  exact TT.ret (cd := cd12) rfl rfl rfl rfl (⟨by first | (rw [if_pos (by omega)]; done) | (rw [if_neg (by omega)]; done), rfl⟩)
                · refine TT.steps (cd := cd12) 4 (c' := ((if decide ((bCmp w 6383461) = 0) = true then 42 else 38), [(2, 295), (1, w), (9, 0)], [], σ)) rfl rfl ?_
                  refine TT.br (p := (bCmp w 6383461) = 0) (fun h9 => ?_) (fun h9 => ?_)
                  · refine TT.steps (cd := cd12) 1 (c' := (43, [(2, 295), (1, w), (9, 0)], [(0, 1)], σ)) rfl rfl ?_
                    exact TT.ret (cd := cd12) rfl rfl rfl rfl (⟨by first | (rw [if_pos (by omega)]; done) | (rw [if_neg (by omega)]; done), rfl⟩)
                  · refine TT.steps (cd := cd12) 4 (c' := ((if decide (¬ (bCmp w 1651470958) = 0) = true then 44 else 42), [(2, 295), (1, w), (9, 0)], [], σ)) rfl rfl ?_
                    refine TT.br (p := ¬ (bCmp w 1651470958) = 0) (fun h10 => ?_) (fun h10 => ?_)
                    · refine TT.steps (cd := cd12) 4 (c' := ((if decide ((bCmp w 24948) = 0) = true then 56 else 48), [(2, 295), (1, w), (9, 0)], [], σ)) rfl rfl ?_
                      refine TT.br (p := (bCmp w 24948) = 0) (fun h11 => ?_) (fun h11 => ?_)
                      · refine TT.steps (cd := cd12) 1 (c' := (57, [(2, 295), (1, w), (9, 0)], [(0, 1)], σ)) rfl rfl ?_
                        exact TT.ret (cd := cd12) rfl rfl rfl rfl (⟨by first | (rw [if_pos (by omega)]; done) | (rw [if_neg (by omega)]; done), rfl⟩)
                      · refine TT.steps (cd := cd12) 4 (c' := ((if decide ((bCmp w 29807) = 0) = true then 56 else 52), [(2, 295), (1, w), (9, 0)], [], σ)) rfl rfl ?_
                        refine TT.br (p := (bCmp w 29807) = 0) (fun h12 => ?_) (fun h12 => ?_)
                        · refine TT.steps (cd := cd12) 1 (c' := (57, [(2, 295), (1, w), (9, 0)], [(0, 1)], σ)) rfl rfl ?_
                          exact TT.ret (cd := cd12) rfl rfl rfl rfl (⟨by first | (rw [if_pos (by omega)]; done) | (rw [if_neg (by omega)]; done), rfl⟩)
                        · refine TT.steps (cd := cd12) 4 (c' := ((if decide (¬ (bCmp w 482955846501) = 0) = true then 58 else 56), [(2, 295), (1, w), (9, 0)], [], σ)) rfl rfl ?_
                          refine TT.br (p := ¬ (bCmp w 482955846501) = 0) (fun h13 => ?_) (fun h13 => ?_)
                          · refine TT.steps (cd := cd12) 1 (c' := (59, [(2, 295), (1, w), (9, 0)], [(0, 0)], σ)) rfl rfl ?_
                            exact TT.ret (cd := cd12) rfl rfl rfl rfl (⟨by first | (rw [if_pos (by omega)]; done) | (rw [if_neg (by omega)]; done), rfl⟩)
                          · refine TT.steps (cd := cd12) 1 (c' := (57, [(2, 295), (1, w), (9, 0)], [(0, 1)], σ)) rfl rfl ?_
                            exact TT.ret (cd := cd12) rfl rfl rfl rfl (⟨by first | (rw [if_pos (by omega)]; done) | (rw [if_neg (by omega)]; done), rfl⟩)
                    · refine TT.steps (cd := cd12) 1 (c' := (43, [(2, 295), (1, w), (9, 0)], [(0, 1)], σ)) rfl rfl ?_
                      exact TT.ret (cd := cd12) rfl rfl rfl rfl (⟨by first | (rw [if_pos (by omega)]; done) | (rw [if_neg (by omega)]; done), rfl⟩)
          · refine TT.steps (cd := cd12) 1 (c' := (21, [(2, 295), (1, w), (9, 0)], [(0, 1)], σ)) rfl rfl ?_
            exact TT.ret (cd := cd12) rfl rfl rfl rfl (⟨by first | (rw [if_pos (by omega)]; done) | (rw [if_neg (by omega)]; done), rfl⟩)
