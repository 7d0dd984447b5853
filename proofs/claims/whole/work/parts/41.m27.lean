/-- blanks are passed -/
def skipF (f : Nat → Int) : Nat → Nat → Nat
  | 0, a => a
  | d + 1, a => if f a = 32 ∨ f a = 10 then skipF f d (a + 1) else a
theorem skipF_le (f : Nat → Int) : ∀ d a, skipF f d a ≤ a + d := by
  intro d
  induction d with
  | zero => intro a; exact Nat.le_refl _
  | succ d ih =>
    intro a
    rw [skipF]
    split
    · have := ih (a + 1); omega
    · omega
/-- a heap with three fields of the reference's parser anew -/
def hp3 (σ : AH) (l w v : Int) : AH := fun k j => if k = 295 ∧ j = 12 then l else if k = 295 ∧ j = 7 then w else if k = 295 ∧ j = 6 then v else σ k j
theorem hp3_fr (σ : AH) (l w v : Int) (k j : Nat) (h : k ≠ 295 ∨ (j ≠ 12 ∧ j ≠ 7 ∧ j ≠ 6)) : hp3 σ l w v k j = σ k j := by
  unfold hp3
  rw [if_neg (by omega), if_neg (by omega), if_neg (by omega)]
theorem hp3_l (σ : AH) (l w v : Int) : hp3 σ l w v 295 12 = l := by simp [hp3]
theorem hp3_w (σ : AH) (l w v : Int) : hp3 σ l w v 295 7 = w := by simp [hp3]
theorem hp3_v (σ : AH) (l w v : Int) : hp3 σ l w v 295 6 = v := by simp [hp3]
theorem hp3_12 (σ : AH) (l w v x : Int) : up2 (hp3 σ l w v) 295 12 x = hp3 σ x w v := by
  funext k j
  unfold up2 hp3
  by_cases h : k = 295 ∧ j = 12
  · rw [if_pos h, if_pos h]
  · rw [if_neg h, if_neg h, if_neg h]
theorem hp3_7 (σ : AH) (l w v x : Int) : up2 (hp3 σ l w v) 295 7 x = hp3 σ l x v := by
  funext k j
  unfold up2 hp3
  by_cases h : k = 295 ∧ j = 7
  · rw [if_pos h, if_neg (by omega), if_pos h]
  · rw [if_neg h, if_neg h, if_neg h]
theorem hp3_6 (σ : AH) (l w v x : Int) : up2 (hp3 σ l w v) 295 6 x = hp3 σ l w x := by
  funext k j
  unfold up2 hp3
  by_cases h : k = 295 ∧ j = 6
  · rw [if_pos h, if_neg (by omega), if_neg (by omega), if_pos h]
  · rw [if_neg h, if_neg h, if_neg h]
/-- letters of a word, digits of a number: place, how many, what is wrong, word or value -/
def scL (f : Nat → Int) : Nat → Nat × Nat × Int × Int → Nat × Nat × Int × Int
  | 0, S => S
  | d + 1, S => if mLet (f S.1) then scL f d (S.1 + 1, S.2.1 + 1, if S.2.1 = 6 ∧ S.2.2.1 = -1 then ((S.1 : Nat) : Int) else S.2.2.1, if S.2.1 < 8 then bOr (bShl S.2.2.2 8) (bI2l (f S.1)) else S.2.2.2) else S
def scD (f : Nat → Int) : Nat → Nat × Nat × Int × Int → Nat × Nat × Int × Int
  | 0, S => S
  | d + 1, S => if mDig (f S.1) then scD f d (S.1 + 1, S.2.1 + 1, if S.2.1 = 4 ∧ S.2.2.1 = -1 then ((S.1 : Nat) : Int) else S.2.2.1, if S.2.1 < 4 then aSub (aAdd (aMul 10 S.2.2.2) (f S.1)) 48 else S.2.2.2) else S
theorem l_skip (X : AX) (Q : Option AV → AH → Prop) (sz : Nat) (σ : AH) (hsz : σ 295 2 = (sz : Int)) (hsz2 : sz ≤ 1600) : ∀ (d a : Nat), a + d = sz → TT X 8 (21, [(2, 295), (0, (((skipF (fun k => σ 296 k) d a) : Nat) : Int)), (9, 0), (9, 0), (9, 0), (9, 0)], [], σ) Q → TT X 8 (3, [(2, 295), (0, ((a : Nat) : Int)), (9, 0), (9, 0), (9, 0), (9, 0)], [], σ) Q := by
  intro d
  induction d with
  | zero =>
    intro a hn kk
    refine TT.steps (cd := cd8) 3 (c' := (6, [(2, 295), (0, ((a : Nat) : Int)), (9, 0), (9, 0), (9, 0), (9, 0)], [(0, (σ 295 2)), (0, ((a : Nat) : Int))], σ)) rfl rfl ?_
    refine TT.top0 (z := ((sz : Nat) : Int)) hsz ?_
    refine TT.steps (cd := cd8) 1 (c' := ((if decide (((sz : Nat) : Int) ≤ ((a : Nat) : Int)) = true then 21 else 7), [(2, 295), (0, ((a : Nat) : Int)), (9, 0), (9, 0), (9, 0), (9, 0)], [], σ)) rfl rfl ?_
    refine TT.br (p := ((sz : Nat) : Int) ≤ ((a : Nat) : Int)) (fun h1 => ?_) (fun h1 => absurd (show ((sz : Nat) : Int) ≤ ((a : Nat) : Int) by omega) h1)
    exact kk
  | succ d ih =>
    intro a hn kk
    rw [skipF] at kk
    refine TT.steps (cd := cd8) 3 (c' := (6, [(2, 295), (0, ((a : Nat) : Int)), (9, 0), (9, 0), (9, 0), (9, 0)], [(0, (σ 295 2)), (0, ((a : Nat) : Int))], σ)) rfl rfl ?_
    refine TT.top0 (z := ((sz : Nat) : Int)) hsz ?_
    refine TT.steps (cd := cd8) 1 (c' := ((if decide (((sz : Nat) : Int) ≤ ((a : Nat) : Int)) = true then 21 else 7), [(2, 295), (0, ((a : Nat) : Int)), (9, 0), (9, 0), (9, 0), (9, 0)], [], σ)) rfl rfl ?_
    refine TT.br (p := ((sz : Nat) : Int) ≤ ((a : Nat) : Int)) (fun h1 => absurd h1 (show ¬ (((sz : Nat) : Int) ≤ ((a : Nat) : Int)) by omega)) (fun h1 => ?_)
    refine TT.steps (cd := cd8) 3 (c' := (10, [(2, 295), (0, ((a : Nat) : Int)), (9, 0), (9, 0), (9, 0), (9, 0)], [(0, ((a : Nat) : Int)), (2, 296)], σ)) rfl rfl ?_
    refine TT.aldN (cd := cd8) (296) (a) rfl rfl rfl rfl (show a < 1800 by omega) ?_
    refine TT.steps (cd := cd8) 2 (c' := ((if decide ((σ 296 a) = 32) = true then 19 else 13), [(2, 295), (0, ((a : Nat) : Int)), (9, 0), (9, 0), (9, 0), (9, 0)], [], σ)) rfl rfl ?_
    refine TT.br (p := (σ 296 a) = 32) (fun h2 => ?_) (fun h2 => ?_)
    · refine TT.inc (cd := cd8) ((a + 1 : Nat) : Int) rfl rfl rfl rfl (fun h => absurd h.2 (show ¬ (2 = 1) by decide)) (aAdd_n (a := a) (b := 1) (by omega)) (ls' := [(2, 295), (0, ((a + 1 : Nat) : Int)), (9, 0), (9, 0), (9, 0), (9, 0)]) rfl ?_
      refine TT.steps (cd := cd8) 1 (c' := (3, [(2, 295), (0, ((a + 1 : Nat) : Int)), (9, 0), (9, 0), (9, 0), (9, 0)], [], σ)) rfl rfl ?_
      rw [if_pos (by omega)] at kk
      exact ih (a + 1) (by omega) kk
    · refine TT.steps (cd := cd8) 3 (c' := (16, [(2, 295), (0, ((a : Nat) : Int)), (9, 0), (9, 0), (9, 0), (9, 0)], [(0, ((a : Nat) : Int)), (2, 296)], σ)) rfl rfl ?_
      refine TT.aldN (cd := cd8) (296) (a) rfl rfl rfl rfl (show a < 1800 by omega) ?_
      refine TT.steps (cd := cd8) 2 (c' := ((if decide (¬ (σ 296 a) = 10) = true then 21 else 19), [(2, 295), (0, ((a : Nat) : Int)), (9, 0), (9, 0), (9, 0), (9, 0)], [], σ)) rfl rfl ?_
      refine TT.br (p := ¬ (σ 296 a) = 10) (fun h3 => ?_) (fun h3 => ?_)
      · rw [if_neg (by omega)] at kk
        exact kk
      · refine TT.inc (cd := cd8) ((a + 1 : Nat) : Int) rfl rfl rfl rfl (fun h => absurd h.2 (show ¬ (2 = 1) by decide)) (aAdd_n (a := a) (b := 1) (by omega)) (ls' := [(2, 295), (0, ((a + 1 : Nat) : Int)), (9, 0), (9, 0), (9, 0), (9, 0)]) rfl ?_
        refine TT.steps (cd := cd8) 1 (c' := (3, [(2, 295), (0, ((a + 1 : Nat) : Int)), (9, 0), (9, 0), (9, 0), (9, 0)], [], σ)) rfl rfl ?_
        rw [if_pos (by omega)] at kk
        exact ih (a + 1) (by omega) kk
theorem l_scL (X : AX) (Q : Option AV → AH → Prop) (sz : Nat) (σ : AH) (hsz : σ 295 2 = (sz : Int)) (hsz2 : sz ≤ 1600) : ∀ (d a n : Nat) (l w v : Int), a + d = sz → n ≤ a → TT X 8 (182, [(2, 295), (0, (((scL (fun k => σ 296 k) d (a, n, l, w)).1 : Nat) : Int)), (0, 1), (0, 0), (0, 6), (0, (((scL (fun k => σ 296 k) d (a, n, l, w)).2.1 : Nat) : Int))], [], hp3 σ (scL (fun k => σ 296 k) d (a, n, l, w)).2.2.1 (scL (fun k => σ 296 k) d (a, n, l, w)).2.2.2 v) Q → TT X 8 (115, [(2, 295), (0, ((a : Nat) : Int)), (0, 1), (0, 0), (0, 6), (0, ((n : Nat) : Int))], [], (hp3 σ l w v)) Q := by
  intro d
  induction d with
  | zero =>
    intro a n l w v hn hna kk
    refine TT.steps (cd := cd8) 3 (c' := (118, [(2, 295), (0, ((a : Nat) : Int)), (0, 1), (0, 0), (0, 6), (0, ((n : Nat) : Int))], [(0, ((hp3 σ l w v) 295 2)), (0, ((a : Nat) : Int))], (hp3 σ l w v))) rfl rfl ?_
    refine TT.top0 (z := ((sz : Nat) : Int)) ((hp3_fr _ _ _ _ _ (2) (Or.inr (by decide))).trans hsz) ?_
    refine TT.steps (cd := cd8) 1 (c' := ((if decide (((sz : Nat) : Int) ≤ ((a : Nat) : Int)) = true then 182 else 119), [(2, 295), (0, ((a : Nat) : Int)), (0, 1), (0, 0), (0, 6), (0, ((n : Nat) : Int))], [], (hp3 σ l w v))) rfl rfl ?_
    refine TT.br (p := ((sz : Nat) : Int) ≤ ((a : Nat) : Int)) (fun h1 => ?_) (fun h1 => absurd (show ((sz : Nat) : Int) ≤ ((a : Nat) : Int) by omega) h1)
    exact kk
  | succ d ih =>
    intro a n l w v hn hna kk
    rw [scL] at kk
    dsimp only at kk
    obtain ⟨x9, hx9⟩ : ∃ z, bOr (bShl w 8) (bI2l (σ 296 a)) = z := ⟨_, rfl⟩
    rw [hx9] at kk
    refine TT.steps (cd := cd8) 3 (c' := (118, [(2, 295), (0, ((a : Nat) : Int)), (0, 1), (0, 0), (0, 6), (0, ((n : Nat) : Int))], [(0, ((hp3 σ l w v) 295 2)), (0, ((a : Nat) : Int))], (hp3 σ l w v))) rfl rfl ?_
    refine TT.top0 (z := ((sz : Nat) : Int)) ((hp3_fr _ _ _ _ _ (2) (Or.inr (by decide))).trans hsz) ?_
    refine TT.steps (cd := cd8) 1 (c' := ((if decide (((sz : Nat) : Int) ≤ ((a : Nat) : Int)) = true then 182 else 119), [(2, 295), (0, ((a : Nat) : Int)), (0, 1), (0, 0), (0, 6), (0, ((n : Nat) : Int))], [], (hp3 σ l w v))) rfl rfl ?_
    refine TT.br (p := ((sz : Nat) : Int) ≤ ((a : Nat) : Int)) (fun h1 => absurd h1 (show ¬ (((sz : Nat) : Int) ≤ ((a : Nat) : Int)) by omega)) (fun h1 => ?_)
    refine TT.steps (cd := cd8) 5 (c' := (124, [(2, 295), (0, ((a : Nat) : Int)), (0, 1), (0, 0), (0, 6), (0, ((n : Nat) : Int))], [(0, ((a : Nat) : Int)), (2, 296)], (hp3 σ l w v))) rfl rfl ?_
    refine TT.aldN (cd := cd8) (296) (a) rfl rfl rfl rfl (show a < 1800 by omega) ?_
    refine TT.top0 (z := (σ 296 a)) (hp3_fr _ _ _ _ 296 (a) (Or.inl (by decide))) ?_
    refine TT.call (cd := cd8) rfl rfl rfl (by decide) rfl (t_isLetter X (σ 296 a) (hp3 σ l w v)) (fun r2 σ2 hq => ?_)
    rw [hq.1, hq.2]
    refine TT.steps (cd := cd8) 1 (c' := ((if decide (((if mLet (σ 296 a) then 1 else 0) : Int) = 0) = true then 182 else 127), [(2, 295), (0, ((a : Nat) : Int)), (0, 1), (0, 0), (0, 6), (0, ((n : Nat) : Int))], [], (hp3 σ l w v))) rfl rfl ?_
    refine TT.br (p := ((if mLet (σ 296 a) then 1 else 0) : Int) = 0) (fun h3 => ?_) (fun h3 => ?_)
    · replace h3 := ite_f h3
      rw [if_neg (by first | assumption | omega)] at kk
      exact kk
    · replace h3 := ite_t h3
      refine TT.steps (cd := cd8) 4 (c' := ((if decide (¬ ((n : Nat) : Int) = 6) = true then 144 else 137), [(2, 295), (0, ((a : Nat) : Int)), (0, 1), (0, 0), (0, 6), (0, ((n : Nat) : Int))], [], (hp3 σ l w v))) rfl rfl ?_
      refine TT.br (p := ¬ ((n : Nat) : Int) = 6) (fun h4 => ?_) (fun h4 => ?_)
      · refine TT.steps (cd := cd8) 3 (c' := ((if decide (8 ≤ ((n : Nat) : Int)) = true then 161 else 147), [(2, 295), (0, ((a : Nat) : Int)), (0, 1), (0, 0), (0, 6), (0, ((n : Nat) : Int))], [], (hp3 σ l w v))) rfl rfl ?_
        refine TT.br (p := 8 ≤ ((n : Nat) : Int)) (fun h5 => ?_) (fun h5 => ?_)
        · refine TT.steps (cd := cd8) 3 (c' := ((if decide (6 ≤ ((n : Nat) : Int)) = true then 179 else 164), [(2, 295), (0, ((a : Nat) : Int)), (0, 1), (0, 0), (0, 6), (0, ((n : Nat) : Int))], [], (hp3 σ l w v))) rfl rfl ?_
          refine TT.br (p := 6 ≤ ((n : Nat) : Int)) (fun h6 => ?_) (fun h6 => ?_)
          · refine TT.inc (cd := cd8) ((n + 1 : Nat) : Int) rfl rfl rfl rfl (fun h => absurd h.2 (show ¬ (0 = 1) by decide)) (aAdd_n (a := n) (b := 1) (by omega)) (ls' := [(2, 295), (0, ((a : Nat) : Int)), (0, 1), (0, 0), (0, 6), (0, ((n + 1 : Nat) : Int))]) rfl ?_
            refine TT.inc (cd := cd8) ((a + 1 : Nat) : Int) rfl rfl rfl rfl (fun h => absurd h.2 (show ¬ (2 = 1) by decide)) (aAdd_n (a := a) (b := 1) (by omega)) (ls' := [(2, 295), (0, ((a + 1 : Nat) : Int)), (0, 1), (0, 0), (0, 6), (0, ((n + 1 : Nat) : Int))]) rfl ?_
            refine TT.steps (cd := cd8) 1 (c' := (115, [(2, 295), (0, ((a + 1 : Nat) : Int)), (0, 1), (0, 0), (0, 6), (0, ((n + 1 : Nat) : Int))], [], (hp3 σ l w v))) rfl rfl ?_
            try (exfalso; omega)
            all_goals
              try simp only [hp3_12, hp3_7, hp3_6]
              rw [if_pos (by first | assumption | omega)] at kk
              first | rw [if_pos (by first | assumption | omega), if_pos (by first | assumption | omega)] at kk | rw [if_pos (by first | assumption | omega), if_neg (by first | assumption | omega)] at kk | rw [if_neg (by first | assumption | omega), if_pos (by first | assumption | omega)] at kk | rw [if_neg (by first | assumption | omega), if_neg (by first | assumption | omega)] at kk
              exact ih (a + 1) (n + 1) _ _ _ (by omega) (by omega) kk
          · refine TT.steps (cd := cd8) 2 (c' := (179, [(2, 295), (0, ((a : Nat) : Int)), (0, 1), (0, 0), (0, 6), (0, ((n : Nat) : Int))], [], (hp3 σ l w v))) rfl rfl ?_
            refine TT.inc (cd := cd8) ((n + 1 : Nat) : Int) rfl rfl rfl rfl (fun h => absurd h.2 (show ¬ (0 = 1) by decide)) (aAdd_n (a := n) (b := 1) (by omega)) (ls' := [(2, 295), (0, ((a : Nat) : Int)), (0, 1), (0, 0), (0, 6), (0, ((n + 1 : Nat) : Int))]) rfl ?_
            refine TT.inc (cd := cd8) ((a + 1 : Nat) : Int) rfl rfl rfl rfl (fun h => absurd h.2 (show ¬ (2 = 1) by decide)) (aAdd_n (a := a) (b := 1) (by omega)) (ls' := [(2, 295), (0, ((a + 1 : Nat) : Int)), (0, 1), (0, 0), (0, 6), (0, ((n + 1 : Nat) : Int))]) rfl ?_
            refine TT.steps (cd := cd8) 1 (c' := (115, [(2, 295), (0, ((a + 1 : Nat) : Int)), (0, 1), (0, 0), (0, 6), (0, ((n + 1 : Nat) : Int))], [], (hp3 σ l w v))) rfl rfl ?_
            try (exfalso; omega)
            all_goals
              try simp only [hp3_12, hp3_7, hp3_6]
              rw [if_pos (by first | assumption | omega)] at kk
              first | rw [if_pos (by first | assumption | omega), if_pos (by first | assumption | omega)] at kk | rw [if_pos (by first | assumption | omega), if_neg (by first | assumption | omega)] at kk | rw [if_neg (by first | assumption | omega), if_pos (by first | assumption | omega)] at kk | rw [if_neg (by first | assumption | omega), if_neg (by first | assumption | omega)] at kk
              exact ih (a + 1) (n + 1) _ _ _ (by omega) (by omega) kk
        · refine TT.steps (cd := cd8) 5 (c' := (152, [(2, 295), (0, ((a : Nat) : Int)), (0, 1), (0, 0), (0, 6), (0, ((n : Nat) : Int))], [(1, ((hp3 σ l w v) 295 7)), (2, 295)], (hp3 σ l w v))) rfl rfl ?_
          refine TT.top0 (z := w) (hp3_w _ _ _ _) ?_
          refine TT.steps (cd := cd8) 5 (c' := (157, [(2, 295), (0, ((a : Nat) : Int)), (0, 1), (0, 0), (0, 6), (0, ((n : Nat) : Int))], [(0, ((a : Nat) : Int)), (2, 296), (1, (bShl w 8)), (2, 295)], (hp3 σ l w v))) rfl rfl ?_
          refine TT.aldN (cd := cd8) (296) (a) rfl rfl rfl rfl (show a < 1800 by omega) ?_
          refine TT.top0 (z := (σ 296 a)) (hp3_fr _ _ _ _ 296 (a) (Or.inl (by decide))) ?_
          refine TT.steps (cd := cd8) 2 (c' := (160, [(2, 295), (0, ((a : Nat) : Int)), (0, 1), (0, 0), (0, 6), (0, ((n : Nat) : Int))], [(1, (bOr (bShl w 8) (bI2l (σ 296 a)))), (2, 295)], (hp3 σ l w v))) rfl rfl ?_
          refine TT.top0 (z := x9) hx9 ?_
          refine TT.put (cd := cd8) rfl rfl rfl rfl rfl rfl (fun h => absurd h (by decide)) ?_
          refine TT.sg (σ' := (up2 (hp3 σ l w v) 295 7 x9)) rfl ?_
          refine TT.steps (cd := cd8) 3 (c' := ((if decide (6 ≤ ((n : Nat) : Int)) = true then 179 else 164), [(2, 295), (0, ((a : Nat) : Int)), (0, 1), (0, 0), (0, 6), (0, ((n : Nat) : Int))], [], (up2 (hp3 σ l w v) 295 7 x9))) rfl rfl ?_
          refine TT.br (p := 6 ≤ ((n : Nat) : Int)) (fun h7 => ?_) (fun h7 => ?_)
          · refine TT.inc (cd := cd8) ((n + 1 : Nat) : Int) rfl rfl rfl rfl (fun h => absurd h.2 (show ¬ (0 = 1) by decide)) (aAdd_n (a := n) (b := 1) (by omega)) (ls' := [(2, 295), (0, ((a : Nat) : Int)), (0, 1), (0, 0), (0, 6), (0, ((n + 1 : Nat) : Int))]) rfl ?_
            refine TT.inc (cd := cd8) ((a + 1 : Nat) : Int) rfl rfl rfl rfl (fun h => absurd h.2 (show ¬ (2 = 1) by decide)) (aAdd_n (a := a) (b := 1) (by omega)) (ls' := [(2, 295), (0, ((a + 1 : Nat) : Int)), (0, 1), (0, 0), (0, 6), (0, ((n + 1 : Nat) : Int))]) rfl ?_
            refine TT.steps (cd := cd8) 1 (c' := (115, [(2, 295), (0, ((a + 1 : Nat) : Int)), (0, 1), (0, 0), (0, 6), (0, ((n + 1 : Nat) : Int))], [], (up2 (hp3 σ l w v) 295 7 x9))) rfl rfl ?_
            try (exfalso; omega)
            all_goals
              try simp only [hp3_12, hp3_7, hp3_6]
              rw [if_pos (by first | assumption | omega)] at kk
              first | rw [if_pos (by first | assumption | omega), if_pos (by first | assumption | omega)] at kk | rw [if_pos (by first | assumption | omega), if_neg (by first | assumption | omega)] at kk | rw [if_neg (by first | assumption | omega), if_pos (by first | assumption | omega)] at kk | rw [if_neg (by first | assumption | omega), if_neg (by first | assumption | omega)] at kk
              exact ih (a + 1) (n + 1) _ _ _ (by omega) (by omega) kk
          · refine TT.steps (cd := cd8) 2 (c' := (179, [(2, 295), (0, ((a : Nat) : Int)), (0, 1), (0, 0), (0, 6), (0, ((n : Nat) : Int))], [], (up2 (hp3 σ l w v) 295 7 x9))) rfl rfl ?_
            refine TT.inc (cd := cd8) ((n + 1 : Nat) : Int) rfl rfl rfl rfl (fun h => absurd h.2 (show ¬ (0 = 1) by decide)) (aAdd_n (a := n) (b := 1) (by omega)) (ls' := [(2, 295), (0, ((a : Nat) : Int)), (0, 1), (0, 0), (0, 6), (0, ((n + 1 : Nat) : Int))]) rfl ?_
            refine TT.inc (cd := cd8) ((a + 1 : Nat) : Int) rfl rfl rfl rfl (fun h => absurd h.2 (show ¬ (2 = 1) by decide)) (aAdd_n (a := a) (b := 1) (by omega)) (ls' := [(2, 295), (0, ((a + 1 : Nat) : Int)), (0, 1), (0, 0), (0, 6), (0, ((n + 1 : Nat) : Int))]) rfl ?_
            refine TT.steps (cd := cd8) 1 (c' := (115, [(2, 295), (0, ((a + 1 : Nat) : Int)), (0, 1), (0, 0), (0, 6), (0, ((n + 1 : Nat) : Int))], [], (up2 (hp3 σ l w v) 295 7 x9))) rfl rfl ?_
            try (exfalso; omega)
            all_goals
              try simp only [hp3_12, hp3_7, hp3_6]
              rw [if_pos (by first | assumption | omega)] at kk
              first | rw [if_pos (by first | assumption | omega), if_pos (by first | assumption | omega)] at kk | rw [if_pos (by first | assumption | omega), if_neg (by first | assumption | omega)] at kk | rw [if_neg (by first | assumption | omega), if_pos (by first | assumption | omega)] at kk | rw [if_neg (by first | assumption | omega), if_neg (by first | assumption | omega)] at kk
              exact ih (a + 1) (n + 1) _ _ _ (by omega) (by omega) kk
      · refine TT.steps (cd := cd8) 2 (c' := (139, [(2, 295), (0, ((a : Nat) : Int)), (0, 1), (0, 0), (0, 6), (0, ((n : Nat) : Int))], [(0, ((hp3 σ l w v) 295 12))], (hp3 σ l w v))) rfl rfl ?_
        refine TT.top0 (z := l) (hp3_l _ _ _ _) ?_
        refine TT.steps (cd := cd8) 2 (c' := ((if decide (¬ l = (-1)) = true then 144 else 141), [(2, 295), (0, ((a : Nat) : Int)), (0, 1), (0, 0), (0, 6), (0, ((n : Nat) : Int))], [], (hp3 σ l w v))) rfl rfl ?_
        refine TT.br (p := ¬ l = (-1)) (fun h8 => ?_) (fun h8 => ?_)
        · refine TT.steps (cd := cd8) 3 (c' := ((if decide (8 ≤ ((n : Nat) : Int)) = true then 161 else 147), [(2, 295), (0, ((a : Nat) : Int)), (0, 1), (0, 0), (0, 6), (0, ((n : Nat) : Int))], [], (hp3 σ l w v))) rfl rfl ?_
          refine TT.br (p := 8 ≤ ((n : Nat) : Int)) (fun h9 => ?_) (fun h9 => ?_)
          · refine TT.steps (cd := cd8) 3 (c' := ((if decide (6 ≤ ((n : Nat) : Int)) = true then 179 else 164), [(2, 295), (0, ((a : Nat) : Int)), (0, 1), (0, 0), (0, 6), (0, ((n : Nat) : Int))], [], (hp3 σ l w v))) rfl rfl ?_
            refine TT.br (p := 6 ≤ ((n : Nat) : Int)) (fun h10 => ?_) (fun h10 => ?_)
            · refine TT.inc (cd := cd8) ((n + 1 : Nat) : Int) rfl rfl rfl rfl (fun h => absurd h.2 (show ¬ (0 = 1) by decide)) (aAdd_n (a := n) (b := 1) (by omega)) (ls' := [(2, 295), (0, ((a : Nat) : Int)), (0, 1), (0, 0), (0, 6), (0, ((n + 1 : Nat) : Int))]) rfl ?_
              refine TT.inc (cd := cd8) ((a + 1 : Nat) : Int) rfl rfl rfl rfl (fun h => absurd h.2 (show ¬ (2 = 1) by decide)) (aAdd_n (a := a) (b := 1) (by omega)) (ls' := [(2, 295), (0, ((a + 1 : Nat) : Int)), (0, 1), (0, 0), (0, 6), (0, ((n + 1 : Nat) : Int))]) rfl ?_
              refine TT.steps (cd := cd8) 1 (c' := (115, [(2, 295), (0, ((a + 1 : Nat) : Int)), (0, 1), (0, 0), (0, 6), (0, ((n + 1 : Nat) : Int))], [], (hp3 σ l w v))) rfl rfl ?_
              try (exfalso; omega)
              all_goals
                try simp only [hp3_12, hp3_7, hp3_6]
                rw [if_pos (by first | assumption | omega)] at kk
                first | rw [if_pos (by first | assumption | omega), if_pos (by first | assumption | omega)] at kk | rw [if_pos (by first | assumption | omega), if_neg (by first | assumption | omega)] at kk | rw [if_neg (by first | assumption | omega), if_pos (by first | assumption | omega)] at kk | rw [if_neg (by first | assumption | omega), if_neg (by first | assumption | omega)] at kk
                exact ih (a + 1) (n + 1) _ _ _ (by omega) (by omega) kk
            · refine TT.steps (cd := cd8) 2 (c' := (179, [(2, 295), (0, ((a : Nat) : Int)), (0, 1), (0, 0), (0, 6), (0, ((n : Nat) : Int))], [], (hp3 σ l w v))) rfl rfl ?_
              refine TT.inc (cd := cd8) ((n + 1 : Nat) : Int) rfl rfl rfl rfl (fun h => absurd h.2 (show ¬ (0 = 1) by decide)) (aAdd_n (a := n) (b := 1) (by omega)) (ls' := [(2, 295), (0, ((a : Nat) : Int)), (0, 1), (0, 0), (0, 6), (0, ((n + 1 : Nat) : Int))]) rfl ?_
              refine TT.inc (cd := cd8) ((a + 1 : Nat) : Int) rfl rfl rfl rfl (fun h => absurd h.2 (show ¬ (2 = 1) by decide)) (aAdd_n (a := a) (b := 1) (by omega)) (ls' := [(2, 295), (0, ((a + 1 : Nat) : Int)), (0, 1), (0, 0), (0, 6), (0, ((n + 1 : Nat) : Int))]) rfl ?_
              refine TT.steps (cd := cd8) 1 (c' := (115, [(2, 295), (0, ((a + 1 : Nat) : Int)), (0, 1), (0, 0), (0, 6), (0, ((n + 1 : Nat) : Int))], [], (hp3 σ l w v))) rfl rfl ?_
              try (exfalso; omega)
              all_goals
                try simp only [hp3_12, hp3_7, hp3_6]
                rw [if_pos (by first | assumption | omega)] at kk
                first | rw [if_pos (by first | assumption | omega), if_pos (by first | assumption | omega)] at kk | rw [if_pos (by first | assumption | omega), if_neg (by first | assumption | omega)] at kk | rw [if_neg (by first | assumption | omega), if_pos (by first | assumption | omega)] at kk | rw [if_neg (by first | assumption | omega), if_neg (by first | assumption | omega)] at kk
                exact ih (a + 1) (n + 1) _ _ _ (by omega) (by omega) kk
          · refine TT.steps (cd := cd8) 5 (c' := (152, [(2, 295), (0, ((a : Nat) : Int)), (0, 1), (0, 0), (0, 6), (0, ((n : Nat) : Int))], [(1, ((hp3 σ l w v) 295 7)), (2, 295)], (hp3 σ l w v))) rfl rfl ?_
            refine TT.top0 (z := w) (hp3_w _ _ _ _) ?_
            refine TT.steps (cd := cd8) 5 (c' := (157, [(2, 295), (0, ((a : Nat) : Int)), (0, 1), (0, 0), (0, 6), (0, ((n : Nat) : Int))], [(0, ((a : Nat) : Int)), (2, 296), (1, (bShl w 8)), (2, 295)], (hp3 σ l w v))) rfl rfl ?_
            refine TT.aldN (cd := cd8) (296) (a) rfl rfl rfl rfl (show a < 1800 by omega) ?_
            refine TT.top0 (z := (σ 296 a)) (hp3_fr _ _ _ _ 296 (a) (Or.inl (by decide))) ?_
            refine TT.steps (cd := cd8) 2 (c' := (160, [(2, 295), (0, ((a : Nat) : Int)), (0, 1), (0, 0), (0, 6), (0, ((n : Nat) : Int))], [(1, (bOr (bShl w 8) (bI2l (σ 296 a)))), (2, 295)], (hp3 σ l w v))) rfl rfl ?_
            refine TT.top0 (z := x9) hx9 ?_
            refine TT.put (cd := cd8) rfl rfl rfl rfl rfl rfl (fun h => absurd h (by decide)) ?_
            refine TT.sg (σ' := (up2 (hp3 σ l w v) 295 7 x9)) rfl ?_
            refine TT.steps (cd := cd8) 3 (c' := ((if decide (6 ≤ ((n : Nat) : Int)) = true then 179 else 164), [(2, 295), (0, ((a : Nat) : Int)), (0, 1), (0, 0), (0, 6), (0, ((n : Nat) : Int))], [], (up2 (hp3 σ l w v) 295 7 x9))) rfl rfl ?_
            refine TT.br (p := 6 ≤ ((n : Nat) : Int)) (fun h11 => ?_) (fun h11 => ?_)
            · refine TT.inc (cd := cd8) ((n + 1 : Nat) : Int) rfl rfl rfl rfl (fun h => absurd h.2 (show ¬ (0 = 1) by decide)) (aAdd_n (a := n) (b := 1) (by omega)) (ls' := [(2, 295), (0, ((a : Nat) : Int)), (0, 1), (0, 0), (0, 6), (0, ((n + 1 : Nat) : Int))]) rfl ?_
              refine TT.inc (cd := cd8) ((a + 1 : Nat) : Int) rfl rfl rfl rfl (fun h => absurd h.2 (show ¬ (2 = 1) by decide)) (aAdd_n (a := a) (b := 1) (by omega)) (ls' := [(2, 295), (0, ((a + 1 : Nat) : Int)), (0, 1), (0, 0), (0, 6), (0, ((n + 1 : Nat) : Int))]) rfl ?_
              refine TT.steps (cd := cd8) 1 (c' := (115, [(2, 295), (0, ((a + 1 : Nat) : Int)), (0, 1), (0, 0), (0, 6), (0, ((n + 1 : Nat) : Int))], [], (up2 (hp3 σ l w v) 295 7 x9))) rfl rfl ?_
              try (exfalso; omega)
              all_goals
                try simp only [hp3_12, hp3_7, hp3_6]
                rw [if_pos (by first | assumption | omega)] at kk
                first | rw [if_pos (by first | assumption | omega), if_pos (by first | assumption | omega)] at kk | rw [if_pos (by first | assumption | omega), if_neg (by first | assumption | omega)] at kk | rw [if_neg (by first | assumption | omega), if_pos (by first | assumption | omega)] at kk | rw [if_neg (by first | assumption | omega), if_neg (by first | assumption | omega)] at kk
                exact ih (a + 1) (n + 1) _ _ _ (by omega) (by omega) kk
            · refine TT.steps (cd := cd8) 2 (c' := (179, [(2, 295), (0, ((a : Nat) : Int)), (0, 1), (0, 0), (0, 6), (0, ((n : Nat) : Int))], [], (up2 (hp3 σ l w v) 295 7 x9))) rfl rfl ?_
              refine TT.inc (cd := cd8) ((n + 1 : Nat) : Int) rfl rfl rfl rfl (fun h => absurd h.2 (show ¬ (0 = 1) by decide)) (aAdd_n (a := n) (b := 1) (by omega)) (ls' := [(2, 295), (0, ((a : Nat) : Int)), (0, 1), (0, 0), (0, 6), (0, ((n + 1 : Nat) : Int))]) rfl ?_
              refine TT.inc (cd := cd8) ((a + 1 : Nat) : Int) rfl rfl rfl rfl (fun h => absurd h.2 (show ¬ (2 = 1) by decide)) (aAdd_n (a := a) (b := 1) (by omega)) (ls' := [(2, 295), (0, ((a + 1 : Nat) : Int)), (0, 1), (0, 0), (0, 6), (0, ((n + 1 : Nat) : Int))]) rfl ?_
              refine TT.steps (cd := cd8) 1 (c' := (115, [(2, 295), (0, ((a + 1 : Nat) : Int)), (0, 1), (0, 0), (0, 6), (0, ((n + 1 : Nat) : Int))], [], (up2 (hp3 σ l w v) 295 7 x9))) rfl rfl ?_
              try (exfalso; omega)
              all_goals
                try simp only [hp3_12, hp3_7, hp3_6]
                rw [if_pos (by first | assumption | omega)] at kk
                first | rw [if_pos (by first | assumption | omega), if_pos (by first | assumption | omega)] at kk | rw [if_pos (by first | assumption | omega), if_neg (by first | assumption | omega)] at kk | rw [if_neg (by first | assumption | omega), if_pos (by first | assumption | omega)] at kk | rw [if_neg (by first | assumption | omega), if_neg (by first | assumption | omega)] at kk
                exact ih (a + 1) (n + 1) _ _ _ (by omega) (by omega) kk
        · refine TT.steps (cd := cd8) 6 (c' := ((if decide (8 ≤ ((n : Nat) : Int)) = true then 161 else 147), [(2, 295), (0, ((a : Nat) : Int)), (0, 1), (0, 0), (0, 6), (0, ((n : Nat) : Int))], [], (up2 (hp3 σ l w v) 295 12 ((a : Nat) : Int)))) rfl rfl ?_
          refine TT.br (p := 8 ≤ ((n : Nat) : Int)) (fun h12 => ?_) (fun h12 => ?_)
          · refine TT.steps (cd := cd8) 3 (c' := ((if decide (6 ≤ ((n : Nat) : Int)) = true then 179 else 164), [(2, 295), (0, ((a : Nat) : Int)), (0, 1), (0, 0), (0, 6), (0, ((n : Nat) : Int))], [], (up2 (hp3 σ l w v) 295 12 ((a : Nat) : Int)))) rfl rfl ?_
            refine TT.br (p := 6 ≤ ((n : Nat) : Int)) (fun h13 => ?_) (fun h13 => ?_)
            · refine TT.inc (cd := cd8) ((n + 1 : Nat) : Int) rfl rfl rfl rfl (fun h => absurd h.2 (show ¬ (0 = 1) by decide)) (aAdd_n (a := n) (b := 1) (by omega)) (ls' := [(2, 295), (0, ((a : Nat) : Int)), (0, 1), (0, 0), (0, 6), (0, ((n + 1 : Nat) : Int))]) rfl ?_
              refine TT.inc (cd := cd8) ((a + 1 : Nat) : Int) rfl rfl rfl rfl (fun h => absurd h.2 (show ¬ (2 = 1) by decide)) (aAdd_n (a := a) (b := 1) (by omega)) (ls' := [(2, 295), (0, ((a + 1 : Nat) : Int)), (0, 1), (0, 0), (0, 6), (0, ((n + 1 : Nat) : Int))]) rfl ?_
              refine TT.steps (cd := cd8) 1 (c' := (115, [(2, 295), (0, ((a + 1 : Nat) : Int)), (0, 1), (0, 0), (0, 6), (0, ((n + 1 : Nat) : Int))], [], (up2 (hp3 σ l w v) 295 12 ((a : Nat) : Int)))) rfl rfl ?_
              try (exfalso; omega)
              all_goals
                try simp only [hp3_12, hp3_7, hp3_6]
                rw [if_pos (by first | assumption | omega)] at kk
                first | rw [if_pos (by first | assumption | omega), if_pos (by first | assumption | omega)] at kk | rw [if_pos (by first | assumption | omega), if_neg (by first | assumption | omega)] at kk | rw [if_neg (by first | assumption | omega), if_pos (by first | assumption | omega)] at kk | rw [if_neg (by first | assumption | omega), if_neg (by first | assumption | omega)] at kk
                exact ih (a + 1) (n + 1) _ _ _ (by omega) (by omega) kk
            · refine TT.steps (cd := cd8) 2 (c' := (179, [(2, 295), (0, ((a : Nat) : Int)), (0, 1), (0, 0), (0, 6), (0, ((n : Nat) : Int))], [], (up2 (hp3 σ l w v) 295 12 ((a : Nat) : Int)))) rfl rfl ?_
              refine TT.inc (cd := cd8) ((n + 1 : Nat) : Int) rfl rfl rfl rfl (fun h => absurd h.2 (show ¬ (0 = 1) by decide)) (aAdd_n (a := n) (b := 1) (by omega)) (ls' := [(2, 295), (0, ((a : Nat) : Int)), (0, 1), (0, 0), (0, 6), (0, ((n + 1 : Nat) : Int))]) rfl ?_
              refine TT.inc (cd := cd8) ((a + 1 : Nat) : Int) rfl rfl rfl rfl (fun h => absurd h.2 (show ¬ (2 = 1) by decide)) (aAdd_n (a := a) (b := 1) (by omega)) (ls' := [(2, 295), (0, ((a + 1 : Nat) : Int)), (0, 1), (0, 0), (0, 6), (0, ((n + 1 : Nat) : Int))]) rfl ?_
              refine TT.steps (cd := cd8) 1 (c' := (115, [(2, 295), (0, ((a + 1 : Nat) : Int)), (0, 1), (0, 0), (0, 6), (0, ((n + 1 : Nat) : Int))], [], (up2 (hp3 σ l w v) 295 12 ((a : Nat) : Int)))) rfl rfl ?_
              try (exfalso; omega)
              all_goals
                try simp only [hp3_12, hp3_7, hp3_6]
                rw [if_pos (by first | assumption | omega)] at kk
                first | rw [if_pos (by first | assumption | omega), if_pos (by first | assumption | omega)] at kk | rw [if_pos (by first | assumption | omega), if_neg (by first | assumption | omega)] at kk | rw [if_neg (by first | assumption | omega), if_pos (by first | assumption | omega)] at kk | rw [if_neg (by first | assumption | omega), if_neg (by first | assumption | omega)] at kk
                exact ih (a + 1) (n + 1) _ _ _ (by omega) (by omega) kk
          · refine TT.steps (cd := cd8) 5 (c' := (152, [(2, 295), (0, ((a : Nat) : Int)), (0, 1), (0, 0), (0, 6), (0, ((n : Nat) : Int))], [(1, ((up2 (hp3 σ l w v) 295 12 ((a : Nat) : Int)) 295 7)), (2, 295)], (up2 (hp3 σ l w v) 295 12 ((a : Nat) : Int)))) rfl rfl ?_
            refine TT.top0 (z := w) ((up2_by _ _ (j := 12) (j' := 7) _ (by decide)).trans (hp3_w _ _ _ _)) ?_
            refine TT.steps (cd := cd8) 5 (c' := (157, [(2, 295), (0, ((a : Nat) : Int)), (0, 1), (0, 0), (0, 6), (0, ((n : Nat) : Int))], [(0, ((a : Nat) : Int)), (2, 296), (1, (bShl w 8)), (2, 295)], (up2 (hp3 σ l w v) 295 12 ((a : Nat) : Int)))) rfl rfl ?_
            refine TT.aldN (cd := cd8) (296) (a) rfl rfl rfl rfl (show a < 1800 by omega) ?_
            refine TT.top0 (z := (σ 296 a)) ((up2_far (k := 295) (k' := 296) _ _ _ _ (by decide)).trans (hp3_fr _ _ _ _ 296 (a) (Or.inl (by decide)))) ?_
            refine TT.steps (cd := cd8) 2 (c' := (160, [(2, 295), (0, ((a : Nat) : Int)), (0, 1), (0, 0), (0, 6), (0, ((n : Nat) : Int))], [(1, (bOr (bShl w 8) (bI2l (σ 296 a)))), (2, 295)], (up2 (hp3 σ l w v) 295 12 ((a : Nat) : Int)))) rfl rfl ?_
            refine TT.top0 (z := x9) hx9 ?_
            refine TT.put (cd := cd8) rfl rfl rfl rfl rfl rfl (fun h => absurd h (by decide)) ?_
            refine TT.sg (σ' := (up2 (up2 (hp3 σ l w v) 295 12 ((a : Nat) : Int)) 295 7 x9)) rfl ?_
            refine TT.steps (cd := cd8) 3 (c' := ((if decide (6 ≤ ((n : Nat) : Int)) = true then 179 else 164), [(2, 295), (0, ((a : Nat) : Int)), (0, 1), (0, 0), (0, 6), (0, ((n : Nat) : Int))], [], (up2 (up2 (hp3 σ l w v) 295 12 ((a : Nat) : Int)) 295 7 x9))) rfl rfl ?_
            refine TT.br (p := 6 ≤ ((n : Nat) : Int)) (fun h14 => ?_) (fun h14 => ?_)
            · refine TT.inc (cd := cd8) ((n + 1 : Nat) : Int) rfl rfl rfl rfl (fun h => absurd h.2 (show ¬ (0 = 1) by decide)) (aAdd_n (a := n) (b := 1) (by omega)) (ls' := [(2, 295), (0, ((a : Nat) : Int)), (0, 1), (0, 0), (0, 6), (0, ((n + 1 : Nat) : Int))]) rfl ?_
              refine TT.inc (cd := cd8) ((a + 1 : Nat) : Int) rfl rfl rfl rfl (fun h => absurd h.2 (show ¬ (2 = 1) by decide)) (aAdd_n (a := a) (b := 1) (by omega)) (ls' := [(2, 295), (0, ((a + 1 : Nat) : Int)), (0, 1), (0, 0), (0, 6), (0, ((n + 1 : Nat) : Int))]) rfl ?_
              refine TT.steps (cd := cd8) 1 (c' := (115, [(2, 295), (0, ((a + 1 : Nat) : Int)), (0, 1), (0, 0), (0, 6), (0, ((n + 1 : Nat) : Int))], [], (up2 (up2 (hp3 σ l w v) 295 12 ((a : Nat) : Int)) 295 7 x9))) rfl rfl ?_
              try (exfalso; omega)
              all_goals
                try simp only [hp3_12, hp3_7, hp3_6]
                rw [if_pos (by first | assumption | omega)] at kk
                first | rw [if_pos (by first | assumption | omega), if_pos (by first | assumption | omega)] at kk | rw [if_pos (by first | assumption | omega), if_neg (by first | assumption | omega)] at kk | rw [if_neg (by first | assumption | omega), if_pos (by first | assumption | omega)] at kk | rw [if_neg (by first | assumption | omega), if_neg (by first | assumption | omega)] at kk
                exact ih (a + 1) (n + 1) _ _ _ (by omega) (by omega) kk
            · refine TT.steps (cd := cd8) 2 (c' := (179, [(2, 295), (0, ((a : Nat) : Int)), (0, 1), (0, 0), (0, 6), (0, ((n : Nat) : Int))], [], (up2 (up2 (hp3 σ l w v) 295 12 ((a : Nat) : Int)) 295 7 x9))) rfl rfl ?_
              refine TT.inc (cd := cd8) ((n + 1 : Nat) : Int) rfl rfl rfl rfl (fun h => absurd h.2 (show ¬ (0 = 1) by decide)) (aAdd_n (a := n) (b := 1) (by omega)) (ls' := [(2, 295), (0, ((a : Nat) : Int)), (0, 1), (0, 0), (0, 6), (0, ((n + 1 : Nat) : Int))]) rfl ?_
              refine TT.inc (cd := cd8) ((a + 1 : Nat) : Int) rfl rfl rfl rfl (fun h => absurd h.2 (show ¬ (2 = 1) by decide)) (aAdd_n (a := a) (b := 1) (by omega)) (ls' := [(2, 295), (0, ((a + 1 : Nat) : Int)), (0, 1), (0, 0), (0, 6), (0, ((n + 1 : Nat) : Int))]) rfl ?_
              refine TT.steps (cd := cd8) 1 (c' := (115, [(2, 295), (0, ((a + 1 : Nat) : Int)), (0, 1), (0, 0), (0, 6), (0, ((n + 1 : Nat) : Int))], [], (up2 (up2 (hp3 σ l w v) 295 12 ((a : Nat) : Int)) 295 7 x9))) rfl rfl ?_
              try (exfalso; omega)
              all_goals
                try simp only [hp3_12, hp3_7, hp3_6]
                rw [if_pos (by first | assumption | omega)] at kk
                first | rw [if_pos (by first | assumption | omega), if_pos (by first | assumption | omega)] at kk | rw [if_pos (by first | assumption | omega), if_neg (by first | assumption | omega)] at kk | rw [if_neg (by first | assumption | omega), if_pos (by first | assumption | omega)] at kk | rw [if_neg (by first | assumption | omega), if_neg (by first | assumption | omega)] at kk
                exact ih (a + 1) (n + 1) _ _ _ (by omega) (by omega) kk
theorem l_scD (X : AX) (Q : Option AV → AH → Prop) (sz : Nat) (σ : AH) (hsz : σ 295 2 = (sz : Int)) (hsz2 : sz ≤ 1600) : ∀ (d a n : Nat) (l w v : Int), a + d = sz → n ≤ a → TT X 8 (182, [(2, 295), (0, (((scD (fun k => σ 296 k) d (a, n, l, v)).1 : Nat) : Int)), (0, 0), (0, 1), (0, 4), (0, (((scD (fun k => σ 296 k) d (a, n, l, v)).2.1 : Nat) : Int))], [], hp3 σ (scD (fun k => σ 296 k) d (a, n, l, v)).2.2.1 w (scD (fun k => σ 296 k) d (a, n, l, v)).2.2.2) Q → TT X 8 (115, [(2, 295), (0, ((a : Nat) : Int)), (0, 0), (0, 1), (0, 4), (0, ((n : Nat) : Int))], [], (hp3 σ l w v)) Q := by
  intro d
  induction d with
  | zero =>
    intro a n l w v hn hna kk
    refine TT.steps (cd := cd8) 3 (c' := (118, [(2, 295), (0, ((a : Nat) : Int)), (0, 0), (0, 1), (0, 4), (0, ((n : Nat) : Int))], [(0, ((hp3 σ l w v) 295 2)), (0, ((a : Nat) : Int))], (hp3 σ l w v))) rfl rfl ?_
    refine TT.top0 (z := ((sz : Nat) : Int)) ((hp3_fr _ _ _ _ _ (2) (Or.inr (by decide))).trans hsz) ?_
    refine TT.steps (cd := cd8) 1 (c' := ((if decide (((sz : Nat) : Int) ≤ ((a : Nat) : Int)) = true then 182 else 119), [(2, 295), (0, ((a : Nat) : Int)), (0, 0), (0, 1), (0, 4), (0, ((n : Nat) : Int))], [], (hp3 σ l w v))) rfl rfl ?_
    refine TT.br (p := ((sz : Nat) : Int) ≤ ((a : Nat) : Int)) (fun h1 => ?_) (fun h1 => absurd (show ((sz : Nat) : Int) ≤ ((a : Nat) : Int) by omega) h1)
    exact kk
  | succ d ih =>
    intro a n l w v hn hna kk
    rw [scD] at kk
    dsimp only at kk
    refine TT.steps (cd := cd8) 3 (c' := (118, [(2, 295), (0, ((a : Nat) : Int)), (0, 0), (0, 1), (0, 4), (0, ((n : Nat) : Int))], [(0, ((hp3 σ l w v) 295 2)), (0, ((a : Nat) : Int))], (hp3 σ l w v))) rfl rfl ?_
    refine TT.top0 (z := ((sz : Nat) : Int)) ((hp3_fr _ _ _ _ _ (2) (Or.inr (by decide))).trans hsz) ?_
    refine TT.steps (cd := cd8) 1 (c' := ((if decide (((sz : Nat) : Int) ≤ ((a : Nat) : Int)) = true then 182 else 119), [(2, 295), (0, ((a : Nat) : Int)), (0, 0), (0, 1), (0, 4), (0, ((n : Nat) : Int))], [], (hp3 σ l w v))) rfl rfl ?_
    refine TT.br (p := ((sz : Nat) : Int) ≤ ((a : Nat) : Int)) (fun h1 => absurd h1 (show ¬ (((sz : Nat) : Int) ≤ ((a : Nat) : Int)) by omega)) (fun h1 => ?_)
    refine TT.steps (cd := cd8) 5 (c' := (131, [(2, 295), (0, ((a : Nat) : Int)), (0, 0), (0, 1), (0, 4), (0, ((n : Nat) : Int))], [(0, ((a : Nat) : Int)), (2, 296)], (hp3 σ l w v))) rfl rfl ?_
    refine TT.aldN (cd := cd8) (296) (a) rfl rfl rfl rfl (show a < 1800 by omega) ?_
    refine TT.top0 (z := (σ 296 a)) (hp3_fr _ _ _ _ 296 (a) (Or.inl (by decide))) ?_
    refine TT.call (cd := cd8) rfl rfl rfl (by decide) rfl (t_isDigit X (σ 296 a) (hp3 σ l w v)) (fun r2 σ2 hq => ?_)
    rw [hq.1, hq.2]
    refine TT.steps (cd := cd8) 1 (c' := ((if decide (((if mDig (σ 296 a) then 1 else 0) : Int) = 0) = true then 182 else 134), [(2, 295), (0, ((a : Nat) : Int)), (0, 0), (0, 1), (0, 4), (0, ((n : Nat) : Int))], [], (hp3 σ l w v))) rfl rfl ?_
    refine TT.br (p := ((if mDig (σ 296 a) then 1 else 0) : Int) = 0) (fun h3 => ?_) (fun h3 => ?_)
    · replace h3 := ite_f h3
      rw [if_neg (by first | assumption | omega)] at kk
      exact kk
    · replace h3 := ite_t h3
      refine TT.steps (cd := cd8) 3 (c' := ((if decide (¬ ((n : Nat) : Int) = 4) = true then 144 else 137), [(2, 295), (0, ((a : Nat) : Int)), (0, 0), (0, 1), (0, 4), (0, ((n : Nat) : Int))], [], (hp3 σ l w v))) rfl rfl ?_
      refine TT.br (p := ¬ ((n : Nat) : Int) = 4) (fun h4 => ?_) (fun h4 => ?_)
      · refine TT.steps (cd := cd8) 3 (c' := ((if decide (8 ≤ ((n : Nat) : Int)) = true then 161 else 147), [(2, 295), (0, ((a : Nat) : Int)), (0, 0), (0, 1), (0, 4), (0, ((n : Nat) : Int))], [], (hp3 σ l w v))) rfl rfl ?_
        refine TT.br (p := 8 ≤ ((n : Nat) : Int)) (fun h5 => ?_) (fun h5 => ?_)
        · refine TT.steps (cd := cd8) 3 (c' := ((if decide (4 ≤ ((n : Nat) : Int)) = true then 179 else 164), [(2, 295), (0, ((a : Nat) : Int)), (0, 0), (0, 1), (0, 4), (0, ((n : Nat) : Int))], [], (hp3 σ l w v))) rfl rfl ?_
          refine TT.br (p := 4 ≤ ((n : Nat) : Int)) (fun h6 => ?_) (fun h6 => ?_)
          · refine TT.inc (cd := cd8) ((n + 1 : Nat) : Int) rfl rfl rfl rfl (fun h => absurd h.2 (show ¬ (0 = 1) by decide)) (aAdd_n (a := n) (b := 1) (by omega)) (ls' := [(2, 295), (0, ((a : Nat) : Int)), (0, 0), (0, 1), (0, 4), (0, ((n + 1 : Nat) : Int))]) rfl ?_
            refine TT.inc (cd := cd8) ((a + 1 : Nat) : Int) rfl rfl rfl rfl (fun h => absurd h.2 (show ¬ (2 = 1) by decide)) (aAdd_n (a := a) (b := 1) (by omega)) (ls' := [(2, 295), (0, ((a + 1 : Nat) : Int)), (0, 0), (0, 1), (0, 4), (0, ((n + 1 : Nat) : Int))]) rfl ?_
            refine TT.steps (cd := cd8) 1 (c' := (115, [(2, 295), (0, ((a + 1 : Nat) : Int)), (0, 0), (0, 1), (0, 4), (0, ((n + 1 : Nat) : Int))], [], (hp3 σ l w v))) rfl rfl ?_
            try (exfalso; omega)
            all_goals
              try simp only [hp3_12, hp3_7, hp3_6]
              rw [if_pos (by first | assumption | omega)] at kk
              first | rw [if_pos (by first | assumption | omega), if_pos (by first | assumption | omega)] at kk | rw [if_pos (by first | assumption | omega), if_neg (by first | assumption | omega)] at kk | rw [if_neg (by first | assumption | omega), if_pos (by first | assumption | omega)] at kk | rw [if_neg (by first | assumption | omega), if_neg (by first | assumption | omega)] at kk
              exact ih (a + 1) (n + 1) _ _ _ (by omega) (by omega) kk
          · refine TT.steps (cd := cd8) 6 (c' := (170, [(2, 295), (0, ((a : Nat) : Int)), (0, 0), (0, 1), (0, 4), (0, ((n : Nat) : Int))], [(0, ((hp3 σ l w v) 295 6)), (0, 10), (2, 295)], (hp3 σ l w v))) rfl rfl ?_
            refine TT.top0 (z := v) (hp3_v _ _ _ _) ?_
            refine TT.steps (cd := cd8) 1 (c' := (171, [(2, 295), (0, ((a : Nat) : Int)), (0, 0), (0, 1), (0, 4), (0, ((n : Nat) : Int))], [(0, (aMul 10 v)), (2, 295)], (hp3 σ l w v))) rfl rfl ?_
            refine TT.steps (cd := cd8) 3 (c' := (174, [(2, 295), (0, ((a : Nat) : Int)), (0, 0), (0, 1), (0, 4), (0, ((n : Nat) : Int))], [(0, ((a : Nat) : Int)), (2, 296), (0, (aMul 10 v)), (2, 295)], (hp3 σ l w v))) rfl rfl ?_
            refine TT.aldN (cd := cd8) (296) (a) rfl rfl rfl rfl (show a < 1800 by omega) ?_
            refine TT.top0 (z := (σ 296 a)) (hp3_fr _ _ _ _ 296 (a) (Or.inl (by decide))) ?_
            refine TT.steps (cd := cd8) 1 (c' := (176, [(2, 295), (0, ((a : Nat) : Int)), (0, 0), (0, 1), (0, 4), (0, ((n : Nat) : Int))], [(0, (aAdd (aMul 10 v) (σ 296 a))), (2, 295)], (hp3 σ l w v))) rfl rfl ?_
            refine TT.steps (cd := cd8) 2 (c' := (178, [(2, 295), (0, ((a : Nat) : Int)), (0, 0), (0, 1), (0, 4), (0, ((n : Nat) : Int))], [(0, (aSub (aAdd (aMul 10 v) (σ 296 a)) 48)), (2, 295)], (hp3 σ l w v))) rfl rfl ?_
            refine TT.steps (cd := cd8) 1 (c' := (179, [(2, 295), (0, ((a : Nat) : Int)), (0, 0), (0, 1), (0, 4), (0, ((n : Nat) : Int))], [], (up2 (hp3 σ l w v) 295 6 (aSub (aAdd (aMul 10 v) (σ 296 a)) 48)))) rfl rfl ?_
            refine TT.inc (cd := cd8) ((n + 1 : Nat) : Int) rfl rfl rfl rfl (fun h => absurd h.2 (show ¬ (0 = 1) by decide)) (aAdd_n (a := n) (b := 1) (by omega)) (ls' := [(2, 295), (0, ((a : Nat) : Int)), (0, 0), (0, 1), (0, 4), (0, ((n + 1 : Nat) : Int))]) rfl ?_
            refine TT.inc (cd := cd8) ((a + 1 : Nat) : Int) rfl rfl rfl rfl (fun h => absurd h.2 (show ¬ (2 = 1) by decide)) (aAdd_n (a := a) (b := 1) (by omega)) (ls' := [(2, 295), (0, ((a + 1 : Nat) : Int)), (0, 0), (0, 1), (0, 4), (0, ((n + 1 : Nat) : Int))]) rfl ?_
            refine TT.steps (cd := cd8) 1 (c' := (115, [(2, 295), (0, ((a + 1 : Nat) : Int)), (0, 0), (0, 1), (0, 4), (0, ((n + 1 : Nat) : Int))], [], (up2 (hp3 σ l w v) 295 6 (aSub (aAdd (aMul 10 v) (σ 296 a)) 48)))) rfl rfl ?_
            try (exfalso; omega)
            all_goals
              try simp only [hp3_12, hp3_7, hp3_6]
              rw [if_pos (by first | assumption | omega)] at kk
              first | rw [if_pos (by first | assumption | omega), if_pos (by first | assumption | omega)] at kk | rw [if_pos (by first | assumption | omega), if_neg (by first | assumption | omega)] at kk | rw [if_neg (by first | assumption | omega), if_pos (by first | assumption | omega)] at kk | rw [if_neg (by first | assumption | omega), if_neg (by first | assumption | omega)] at kk
              exact ih (a + 1) (n + 1) _ _ _ (by omega) (by omega) kk
        · refine TT.steps (cd := cd8) 5 (c' := ((if decide (4 ≤ ((n : Nat) : Int)) = true then 179 else 164), [(2, 295), (0, ((a : Nat) : Int)), (0, 0), (0, 1), (0, 4), (0, ((n : Nat) : Int))], [], (hp3 σ l w v))) rfl rfl ?_
          refine TT.br (p := 4 ≤ ((n : Nat) : Int)) (fun h7 => ?_) (fun h7 => ?_)
          · refine TT.inc (cd := cd8) ((n + 1 : Nat) : Int) rfl rfl rfl rfl (fun h => absurd h.2 (show ¬ (0 = 1) by decide)) (aAdd_n (a := n) (b := 1) (by omega)) (ls' := [(2, 295), (0, ((a : Nat) : Int)), (0, 0), (0, 1), (0, 4), (0, ((n + 1 : Nat) : Int))]) rfl ?_
            refine TT.inc (cd := cd8) ((a + 1 : Nat) : Int) rfl rfl rfl rfl (fun h => absurd h.2 (show ¬ (2 = 1) by decide)) (aAdd_n (a := a) (b := 1) (by omega)) (ls' := [(2, 295), (0, ((a + 1 : Nat) : Int)), (0, 0), (0, 1), (0, 4), (0, ((n + 1 : Nat) : Int))]) rfl ?_
            refine TT.steps (cd := cd8) 1 (c' := (115, [(2, 295), (0, ((a + 1 : Nat) : Int)), (0, 0), (0, 1), (0, 4), (0, ((n + 1 : Nat) : Int))], [], (hp3 σ l w v))) rfl rfl ?_
            try (exfalso; omega)
            all_goals
              try simp only [hp3_12, hp3_7, hp3_6]
              rw [if_pos (by first | assumption | omega)] at kk
              first | rw [if_pos (by first | assumption | omega), if_pos (by first | assumption | omega)] at kk | rw [if_pos (by first | assumption | omega), if_neg (by first | assumption | omega)] at kk | rw [if_neg (by first | assumption | omega), if_pos (by first | assumption | omega)] at kk | rw [if_neg (by first | assumption | omega), if_neg (by first | assumption | omega)] at kk
              exact ih (a + 1) (n + 1) _ _ _ (by omega) (by omega) kk
          · refine TT.steps (cd := cd8) 6 (c' := (170, [(2, 295), (0, ((a : Nat) : Int)), (0, 0), (0, 1), (0, 4), (0, ((n : Nat) : Int))], [(0, ((hp3 σ l w v) 295 6)), (0, 10), (2, 295)], (hp3 σ l w v))) rfl rfl ?_
            refine TT.top0 (z := v) (hp3_v _ _ _ _) ?_
            refine TT.steps (cd := cd8) 1 (c' := (171, [(2, 295), (0, ((a : Nat) : Int)), (0, 0), (0, 1), (0, 4), (0, ((n : Nat) : Int))], [(0, (aMul 10 v)), (2, 295)], (hp3 σ l w v))) rfl rfl ?_
            refine TT.steps (cd := cd8) 3 (c' := (174, [(2, 295), (0, ((a : Nat) : Int)), (0, 0), (0, 1), (0, 4), (0, ((n : Nat) : Int))], [(0, ((a : Nat) : Int)), (2, 296), (0, (aMul 10 v)), (2, 295)], (hp3 σ l w v))) rfl rfl ?_
            refine TT.aldN (cd := cd8) (296) (a) rfl rfl rfl rfl (show a < 1800 by omega) ?_
            refine TT.top0 (z := (σ 296 a)) (hp3_fr _ _ _ _ 296 (a) (Or.inl (by decide))) ?_
            refine TT.steps (cd := cd8) 1 (c' := (176, [(2, 295), (0, ((a : Nat) : Int)), (0, 0), (0, 1), (0, 4), (0, ((n : Nat) : Int))], [(0, (aAdd (aMul 10 v) (σ 296 a))), (2, 295)], (hp3 σ l w v))) rfl rfl ?_
            refine TT.steps (cd := cd8) 2 (c' := (178, [(2, 295), (0, ((a : Nat) : Int)), (0, 0), (0, 1), (0, 4), (0, ((n : Nat) : Int))], [(0, (aSub (aAdd (aMul 10 v) (σ 296 a)) 48)), (2, 295)], (hp3 σ l w v))) rfl rfl ?_
            refine TT.steps (cd := cd8) 1 (c' := (179, [(2, 295), (0, ((a : Nat) : Int)), (0, 0), (0, 1), (0, 4), (0, ((n : Nat) : Int))], [], (up2 (hp3 σ l w v) 295 6 (aSub (aAdd (aMul 10 v) (σ 296 a)) 48)))) rfl rfl ?_
            refine TT.inc (cd := cd8) ((n + 1 : Nat) : Int) rfl rfl rfl rfl (fun h => absurd h.2 (show ¬ (0 = 1) by decide)) (aAdd_n (a := n) (b := 1) (by omega)) (ls' := [(2, 295), (0, ((a : Nat) : Int)), (0, 0), (0, 1), (0, 4), (0, ((n + 1 : Nat) : Int))]) rfl ?_
            refine TT.inc (cd := cd8) ((a + 1 : Nat) : Int) rfl rfl rfl rfl (fun h => absurd h.2 (show ¬ (2 = 1) by decide)) (aAdd_n (a := a) (b := 1) (by omega)) (ls' := [(2, 295), (0, ((a + 1 : Nat) : Int)), (0, 0), (0, 1), (0, 4), (0, ((n + 1 : Nat) : Int))]) rfl ?_
            refine TT.steps (cd := cd8) 1 (c' := (115, [(2, 295), (0, ((a + 1 : Nat) : Int)), (0, 0), (0, 1), (0, 4), (0, ((n + 1 : Nat) : Int))], [], (up2 (hp3 σ l w v) 295 6 (aSub (aAdd (aMul 10 v) (σ 296 a)) 48)))) rfl rfl ?_
            try (exfalso; omega)
            all_goals
              try simp only [hp3_12, hp3_7, hp3_6]
              rw [if_pos (by first | assumption | omega)] at kk
              first | rw [if_pos (by first | assumption | omega), if_pos (by first | assumption | omega)] at kk | rw [if_pos (by first | assumption | omega), if_neg (by first | assumption | omega)] at kk | rw [if_neg (by first | assumption | omega), if_pos (by first | assumption | omega)] at kk | rw [if_neg (by first | assumption | omega), if_neg (by first | assumption | omega)] at kk
              exact ih (a + 1) (n + 1) _ _ _ (by omega) (by omega) kk
      · refine TT.steps (cd := cd8) 2 (c' := (139, [(2, 295), (0, ((a : Nat) : Int)), (0, 0), (0, 1), (0, 4), (0, ((n : Nat) : Int))], [(0, ((hp3 σ l w v) 295 12))], (hp3 σ l w v))) rfl rfl ?_
        refine TT.top0 (z := l) (hp3_l _ _ _ _) ?_
        refine TT.steps (cd := cd8) 2 (c' := ((if decide (¬ l = (-1)) = true then 144 else 141), [(2, 295), (0, ((a : Nat) : Int)), (0, 0), (0, 1), (0, 4), (0, ((n : Nat) : Int))], [], (hp3 σ l w v))) rfl rfl ?_
        refine TT.br (p := ¬ l = (-1)) (fun h8 => ?_) (fun h8 => ?_)
        · refine TT.steps (cd := cd8) 3 (c' := ((if decide (8 ≤ ((n : Nat) : Int)) = true then 161 else 147), [(2, 295), (0, ((a : Nat) : Int)), (0, 0), (0, 1), (0, 4), (0, ((n : Nat) : Int))], [], (hp3 σ l w v))) rfl rfl ?_
          refine TT.br (p := 8 ≤ ((n : Nat) : Int)) (fun h9 => ?_) (fun h9 => ?_)
          · refine TT.steps (cd := cd8) 3 (c' := ((if decide (4 ≤ ((n : Nat) : Int)) = true then 179 else 164), [(2, 295), (0, ((a : Nat) : Int)), (0, 0), (0, 1), (0, 4), (0, ((n : Nat) : Int))], [], (hp3 σ l w v))) rfl rfl ?_
            refine TT.br (p := 4 ≤ ((n : Nat) : Int)) (fun h10 => ?_) (fun h10 => ?_)
            · refine TT.inc (cd := cd8) ((n + 1 : Nat) : Int) rfl rfl rfl rfl (fun h => absurd h.2 (show ¬ (0 = 1) by decide)) (aAdd_n (a := n) (b := 1) (by omega)) (ls' := [(2, 295), (0, ((a : Nat) : Int)), (0, 0), (0, 1), (0, 4), (0, ((n + 1 : Nat) : Int))]) rfl ?_
              refine TT.inc (cd := cd8) ((a + 1 : Nat) : Int) rfl rfl rfl rfl (fun h => absurd h.2 (show ¬ (2 = 1) by decide)) (aAdd_n (a := a) (b := 1) (by omega)) (ls' := [(2, 295), (0, ((a + 1 : Nat) : Int)), (0, 0), (0, 1), (0, 4), (0, ((n + 1 : Nat) : Int))]) rfl ?_
              refine TT.steps (cd := cd8) 1 (c' := (115, [(2, 295), (0, ((a + 1 : Nat) : Int)), (0, 0), (0, 1), (0, 4), (0, ((n + 1 : Nat) : Int))], [], (hp3 σ l w v))) rfl rfl ?_
              try (exfalso; omega)
              all_goals
                try simp only [hp3_12, hp3_7, hp3_6]
                rw [if_pos (by first | assumption | omega)] at kk
                first | rw [if_pos (by first | assumption | omega), if_pos (by first | assumption | omega)] at kk | rw [if_pos (by first | assumption | omega), if_neg (by first | assumption | omega)] at kk | rw [if_neg (by first | assumption | omega), if_pos (by first | assumption | omega)] at kk | rw [if_neg (by first | assumption | omega), if_neg (by first | assumption | omega)] at kk
                exact ih (a + 1) (n + 1) _ _ _ (by omega) (by omega) kk
            · refine TT.steps (cd := cd8) 6 (c' := (170, [(2, 295), (0, ((a : Nat) : Int)), (0, 0), (0, 1), (0, 4), (0, ((n : Nat) : Int))], [(0, ((hp3 σ l w v) 295 6)), (0, 10), (2, 295)], (hp3 σ l w v))) rfl rfl ?_
              refine TT.top0 (z := v) (hp3_v _ _ _ _) ?_
              refine TT.steps (cd := cd8) 1 (c' := (171, [(2, 295), (0, ((a : Nat) : Int)), (0, 0), (0, 1), (0, 4), (0, ((n : Nat) : Int))], [(0, (aMul 10 v)), (2, 295)], (hp3 σ l w v))) rfl rfl ?_
              refine TT.steps (cd := cd8) 3 (c' := (174, [(2, 295), (0, ((a : Nat) : Int)), (0, 0), (0, 1), (0, 4), (0, ((n : Nat) : Int))], [(0, ((a : Nat) : Int)), (2, 296), (0, (aMul 10 v)), (2, 295)], (hp3 σ l w v))) rfl rfl ?_
              refine TT.aldN (cd := cd8) (296) (a) rfl rfl rfl rfl (show a < 1800 by omega) ?_
              refine TT.top0 (z := (σ 296 a)) (hp3_fr _ _ _ _ 296 (a) (Or.inl (by decide))) ?_
              refine TT.steps (cd := cd8) 1 (c' := (176, [(2, 295), (0, ((a : Nat) : Int)), (0, 0), (0, 1), (0, 4), (0, ((n : Nat) : Int))], [(0, (aAdd (aMul 10 v) (σ 296 a))), (2, 295)], (hp3 σ l w v))) rfl rfl ?_
              refine TT.steps (cd := cd8) 2 (c' := (178, [(2, 295), (0, ((a : Nat) : Int)), (0, 0), (0, 1), (0, 4), (0, ((n : Nat) : Int))], [(0, (aSub (aAdd (aMul 10 v) (σ 296 a)) 48)), (2, 295)], (hp3 σ l w v))) rfl rfl ?_
              refine TT.steps (cd := cd8) 1 (c' := (179, [(2, 295), (0, ((a : Nat) : Int)), (0, 0), (0, 1), (0, 4), (0, ((n : Nat) : Int))], [], (up2 (hp3 σ l w v) 295 6 (aSub (aAdd (aMul 10 v) (σ 296 a)) 48)))) rfl rfl ?_
              refine TT.inc (cd := cd8) ((n + 1 : Nat) : Int) rfl rfl rfl rfl (fun h => absurd h.2 (show ¬ (0 = 1) by decide)) (aAdd_n (a := n) (b := 1) (by omega)) (ls' := [(2, 295), (0, ((a : Nat) : Int)), (0, 0), (0, 1), (0, 4), (0, ((n + 1 : Nat) : Int))]) rfl ?_
              refine TT.inc (cd := cd8) ((a + 1 : Nat) : Int) rfl rfl rfl rfl (fun h => absurd h.2 (show ¬ (2 = 1) by decide)) (aAdd_n (a := a) (b := 1) (by omega)) (ls' := [(2, 295), (0, ((a + 1 : Nat) : Int)), (0, 0), (0, 1), (0, 4), (0, ((n + 1 : Nat) : Int))]) rfl ?_
              refine TT.steps (cd := cd8) 1 (c' := (115, [(2, 295), (0, ((a + 1 : Nat) : Int)), (0, 0), (0, 1), (0, 4), (0, ((n + 1 : Nat) : Int))], [], (up2 (hp3 σ l w v) 295 6 (aSub (aAdd (aMul 10 v) (σ 296 a)) 48)))) rfl rfl ?_
              try (exfalso; omega)
              all_goals
                try simp only [hp3_12, hp3_7, hp3_6]
                rw [if_pos (by first | assumption | omega)] at kk
                first | rw [if_pos (by first | assumption | omega), if_pos (by first | assumption | omega)] at kk | rw [if_pos (by first | assumption | omega), if_neg (by first | assumption | omega)] at kk | rw [if_neg (by first | assumption | omega), if_pos (by first | assumption | omega)] at kk | rw [if_neg (by first | assumption | omega), if_neg (by first | assumption | omega)] at kk
                exact ih (a + 1) (n + 1) _ _ _ (by omega) (by omega) kk
          · refine TT.steps (cd := cd8) 5 (c' := ((if decide (4 ≤ ((n : Nat) : Int)) = true then 179 else 164), [(2, 295), (0, ((a : Nat) : Int)), (0, 0), (0, 1), (0, 4), (0, ((n : Nat) : Int))], [], (hp3 σ l w v))) rfl rfl ?_
            refine TT.br (p := 4 ≤ ((n : Nat) : Int)) (fun h11 => ?_) (fun h11 => ?_)
            · refine TT.inc (cd := cd8) ((n + 1 : Nat) : Int) rfl rfl rfl rfl (fun h => absurd h.2 (show ¬ (0 = 1) by decide)) (aAdd_n (a := n) (b := 1) (by omega)) (ls' := [(2, 295), (0, ((a : Nat) : Int)), (0, 0), (0, 1), (0, 4), (0, ((n + 1 : Nat) : Int))]) rfl ?_
              refine TT.inc (cd := cd8) ((a + 1 : Nat) : Int) rfl rfl rfl rfl (fun h => absurd h.2 (show ¬ (2 = 1) by decide)) (aAdd_n (a := a) (b := 1) (by omega)) (ls' := [(2, 295), (0, ((a + 1 : Nat) : Int)), (0, 0), (0, 1), (0, 4), (0, ((n + 1 : Nat) : Int))]) rfl ?_
              refine TT.steps (cd := cd8) 1 (c' := (115, [(2, 295), (0, ((a + 1 : Nat) : Int)), (0, 0), (0, 1), (0, 4), (0, ((n + 1 : Nat) : Int))], [], (hp3 σ l w v))) rfl rfl ?_
              try (exfalso; omega)
              all_goals
                try simp only [hp3_12, hp3_7, hp3_6]
                rw [if_pos (by first | assumption | omega)] at kk
                first | rw [if_pos (by first | assumption | omega), if_pos (by first | assumption | omega)] at kk | rw [if_pos (by first | assumption | omega), if_neg (by first | assumption | omega)] at kk | rw [if_neg (by first | assumption | omega), if_pos (by first | assumption | omega)] at kk | rw [if_neg (by first | assumption | omega), if_neg (by first | assumption | omega)] at kk
                exact ih (a + 1) (n + 1) _ _ _ (by omega) (by omega) kk
            · refine TT.steps (cd := cd8) 6 (c' := (170, [(2, 295), (0, ((a : Nat) : Int)), (0, 0), (0, 1), (0, 4), (0, ((n : Nat) : Int))], [(0, ((hp3 σ l w v) 295 6)), (0, 10), (2, 295)], (hp3 σ l w v))) rfl rfl ?_
              refine TT.top0 (z := v) (hp3_v _ _ _ _) ?_
              refine TT.steps (cd := cd8) 1 (c' := (171, [(2, 295), (0, ((a : Nat) : Int)), (0, 0), (0, 1), (0, 4), (0, ((n : Nat) : Int))], [(0, (aMul 10 v)), (2, 295)], (hp3 σ l w v))) rfl rfl ?_
              refine TT.steps (cd := cd8) 3 (c' := (174, [(2, 295), (0, ((a : Nat) : Int)), (0, 0), (0, 1), (0, 4), (0, ((n : Nat) : Int))], [(0, ((a : Nat) : Int)), (2, 296), (0, (aMul 10 v)), (2, 295)], (hp3 σ l w v))) rfl rfl ?_
              refine TT.aldN (cd := cd8) (296) (a) rfl rfl rfl rfl (show a < 1800 by omega) ?_
              refine TT.top0 (z := (σ 296 a)) (hp3_fr _ _ _ _ 296 (a) (Or.inl (by decide))) ?_
              refine TT.steps (cd := cd8) 1 (c' := (176, [(2, 295), (0, ((a : Nat) : Int)), (0, 0), (0, 1), (0, 4), (0, ((n : Nat) : Int))], [(0, (aAdd (aMul 10 v) (σ 296 a))), (2, 295)], (hp3 σ l w v))) rfl rfl ?_
              refine TT.steps (cd := cd8) 2 (c' := (178, [(2, 295), (0, ((a : Nat) : Int)), (0, 0), (0, 1), (0, 4), (0, ((n : Nat) : Int))], [(0, (aSub (aAdd (aMul 10 v) (σ 296 a)) 48)), (2, 295)], (hp3 σ l w v))) rfl rfl ?_
              refine TT.steps (cd := cd8) 1 (c' := (179, [(2, 295), (0, ((a : Nat) : Int)), (0, 0), (0, 1), (0, 4), (0, ((n : Nat) : Int))], [], (up2 (hp3 σ l w v) 295 6 (aSub (aAdd (aMul 10 v) (σ 296 a)) 48)))) rfl rfl ?_
              refine TT.inc (cd := cd8) ((n + 1 : Nat) : Int) rfl rfl rfl rfl (fun h => absurd h.2 (show ¬ (0 = 1) by decide)) (aAdd_n (a := n) (b := 1) (by omega)) (ls' := [(2, 295), (0, ((a : Nat) : Int)), (0, 0), (0, 1), (0, 4), (0, ((n + 1 : Nat) : Int))]) rfl ?_
              refine TT.inc (cd := cd8) ((a + 1 : Nat) : Int) rfl rfl rfl rfl (fun h => absurd h.2 (show ¬ (2 = 1) by decide)) (aAdd_n (a := a) (b := 1) (by omega)) (ls' := [(2, 295), (0, ((a + 1 : Nat) : Int)), (0, 0), (0, 1), (0, 4), (0, ((n + 1 : Nat) : Int))]) rfl ?_
              refine TT.steps (cd := cd8) 1 (c' := (115, [(2, 295), (0, ((a + 1 : Nat) : Int)), (0, 0), (0, 1), (0, 4), (0, ((n + 1 : Nat) : Int))], [], (up2 (hp3 σ l w v) 295 6 (aSub (aAdd (aMul 10 v) (σ 296 a)) 48)))) rfl rfl ?_
              try (exfalso; omega)
              all_goals
                try simp only [hp3_12, hp3_7, hp3_6]
                rw [if_pos (by first | assumption | omega)] at kk
                first | rw [if_pos (by first | assumption | omega), if_pos (by first | assumption | omega)] at kk | rw [if_pos (by first | assumption | omega), if_neg (by first | assumption | omega)] at kk | rw [if_neg (by first | assumption | omega), if_pos (by first | assumption | omega)] at kk | rw [if_neg (by first | assumption | omega), if_neg (by first | assumption | omega)] at kk
                exact ih (a + 1) (n + 1) _ _ _ (by omega) (by omega) kk
        · refine TT.steps (cd := cd8) 6 (c' := ((if decide (8 ≤ ((n : Nat) : Int)) = true then 161 else 147), [(2, 295), (0, ((a : Nat) : Int)), (0, 0), (0, 1), (0, 4), (0, ((n : Nat) : Int))], [], (up2 (hp3 σ l w v) 295 12 ((a : Nat) : Int)))) rfl rfl ?_
          refine TT.br (p := 8 ≤ ((n : Nat) : Int)) (fun h12 => ?_) (fun h12 => ?_)
          · refine TT.steps (cd := cd8) 3 (c' := ((if decide (4 ≤ ((n : Nat) : Int)) = true then 179 else 164), [(2, 295), (0, ((a : Nat) : Int)), (0, 0), (0, 1), (0, 4), (0, ((n : Nat) : Int))], [], (up2 (hp3 σ l w v) 295 12 ((a : Nat) : Int)))) rfl rfl ?_
            refine TT.br (p := 4 ≤ ((n : Nat) : Int)) (fun h13 => ?_) (fun h13 => ?_)
            · refine TT.inc (cd := cd8) ((n + 1 : Nat) : Int) rfl rfl rfl rfl (fun h => absurd h.2 (show ¬ (0 = 1) by decide)) (aAdd_n (a := n) (b := 1) (by omega)) (ls' := [(2, 295), (0, ((a : Nat) : Int)), (0, 0), (0, 1), (0, 4), (0, ((n + 1 : Nat) : Int))]) rfl ?_
              refine TT.inc (cd := cd8) ((a + 1 : Nat) : Int) rfl rfl rfl rfl (fun h => absurd h.2 (show ¬ (2 = 1) by decide)) (aAdd_n (a := a) (b := 1) (by omega)) (ls' := [(2, 295), (0, ((a + 1 : Nat) : Int)), (0, 0), (0, 1), (0, 4), (0, ((n + 1 : Nat) : Int))]) rfl ?_
              refine TT.steps (cd := cd8) 1 (c' := (115, [(2, 295), (0, ((a + 1 : Nat) : Int)), (0, 0), (0, 1), (0, 4), (0, ((n + 1 : Nat) : Int))], [], (up2 (hp3 σ l w v) 295 12 ((a : Nat) : Int)))) rfl rfl ?_
              try (exfalso; omega)
              all_goals
                try simp only [hp3_12, hp3_7, hp3_6]
                rw [if_pos (by first | assumption | omega)] at kk
                first | rw [if_pos (by first | assumption | omega), if_pos (by first | assumption | omega)] at kk | rw [if_pos (by first | assumption | omega), if_neg (by first | assumption | omega)] at kk | rw [if_neg (by first | assumption | omega), if_pos (by first | assumption | omega)] at kk | rw [if_neg (by first | assumption | omega), if_neg (by first | assumption | omega)] at kk
                exact ih (a + 1) (n + 1) _ _ _ (by omega) (by omega) kk
            · refine TT.steps (cd := cd8) 6 (c' := (170, [(2, 295), (0, ((a : Nat) : Int)), (0, 0), (0, 1), (0, 4), (0, ((n : Nat) : Int))], [(0, ((up2 (hp3 σ l w v) 295 12 ((a : Nat) : Int)) 295 6)), (0, 10), (2, 295)], (up2 (hp3 σ l w v) 295 12 ((a : Nat) : Int)))) rfl rfl ?_
              refine TT.top0 (z := v) ((up2_by _ _ (j := 12) (j' := 6) _ (by decide)).trans (hp3_v _ _ _ _)) ?_
              refine TT.steps (cd := cd8) 1 (c' := (171, [(2, 295), (0, ((a : Nat) : Int)), (0, 0), (0, 1), (0, 4), (0, ((n : Nat) : Int))], [(0, (aMul 10 v)), (2, 295)], (up2 (hp3 σ l w v) 295 12 ((a : Nat) : Int)))) rfl rfl ?_
              refine TT.steps (cd := cd8) 3 (c' := (174, [(2, 295), (0, ((a : Nat) : Int)), (0, 0), (0, 1), (0, 4), (0, ((n : Nat) : Int))], [(0, ((a : Nat) : Int)), (2, 296), (0, (aMul 10 v)), (2, 295)], (up2 (hp3 σ l w v) 295 12 ((a : Nat) : Int)))) rfl rfl ?_
              refine TT.aldN (cd := cd8) (296) (a) rfl rfl rfl rfl (show a < 1800 by omega) ?_
              refine TT.top0 (z := (σ 296 a)) ((up2_far (k := 295) (k' := 296) _ _ _ _ (by decide)).trans (hp3_fr _ _ _ _ 296 (a) (Or.inl (by decide)))) ?_
              refine TT.steps (cd := cd8) 1 (c' := (176, [(2, 295), (0, ((a : Nat) : Int)), (0, 0), (0, 1), (0, 4), (0, ((n : Nat) : Int))], [(0, (aAdd (aMul 10 v) (σ 296 a))), (2, 295)], (up2 (hp3 σ l w v) 295 12 ((a : Nat) : Int)))) rfl rfl ?_
              refine TT.steps (cd := cd8) 2 (c' := (178, [(2, 295), (0, ((a : Nat) : Int)), (0, 0), (0, 1), (0, 4), (0, ((n : Nat) : Int))], [(0, (aSub (aAdd (aMul 10 v) (σ 296 a)) 48)), (2, 295)], (up2 (hp3 σ l w v) 295 12 ((a : Nat) : Int)))) rfl rfl ?_
              refine TT.steps (cd := cd8) 1 (c' := (179, [(2, 295), (0, ((a : Nat) : Int)), (0, 0), (0, 1), (0, 4), (0, ((n : Nat) : Int))], [], (up2 (up2 (hp3 σ l w v) 295 12 ((a : Nat) : Int)) 295 6 (aSub (aAdd (aMul 10 v) (σ 296 a)) 48)))) rfl rfl ?_
              refine TT.inc (cd := cd8) ((n + 1 : Nat) : Int) rfl rfl rfl rfl (fun h => absurd h.2 (show ¬ (0 = 1) by decide)) (aAdd_n (a := n) (b := 1) (by omega)) (ls' := [(2, 295), (0, ((a : Nat) : Int)), (0, 0), (0, 1), (0, 4), (0, ((n + 1 : Nat) : Int))]) rfl ?_
              refine TT.inc (cd := cd8) ((a + 1 : Nat) : Int) rfl rfl rfl rfl (fun h => absurd h.2 (show ¬ (2 = 1) by decide)) (aAdd_n (a := a) (b := 1) (by omega)) (ls' := [(2, 295), (0, ((a + 1 : Nat) : Int)), (0, 0), (0, 1), (0, 4), (0, ((n + 1 : Nat) : Int))]) rfl ?_
              refine TT.steps (cd := cd8) 1 (c' := (115, [(2, 295), (0, ((a + 1 : Nat) : Int)), (0, 0), (0, 1), (0, 4), (0, ((n + 1 : Nat) : Int))], [], (up2 (up2 (hp3 σ l w v) 295 12 ((a : Nat) : Int)) 295 6 (aSub (aAdd (aMul 10 v) (σ 296 a)) 48)))) rfl rfl ?_
              try (exfalso; omega)
              all_goals
                try simp only [hp3_12, hp3_7, hp3_6]
                rw [if_pos (by first | assumption | omega)] at kk
                first | rw [if_pos (by first | assumption | omega), if_pos (by first | assumption | omega)] at kk | rw [if_pos (by first | assumption | omega), if_neg (by first | assumption | omega)] at kk | rw [if_neg (by first | assumption | omega), if_pos (by first | assumption | omega)] at kk | rw [if_neg (by first | assumption | omega), if_neg (by first | assumption | omega)] at kk
                exact ih (a + 1) (n + 1) _ _ _ (by omega) (by omega) kk
          · refine TT.steps (cd := cd8) 5 (c' := ((if decide (4 ≤ ((n : Nat) : Int)) = true then 179 else 164), [(2, 295), (0, ((a : Nat) : Int)), (0, 0), (0, 1), (0, 4), (0, ((n : Nat) : Int))], [], (up2 (hp3 σ l w v) 295 12 ((a : Nat) : Int)))) rfl rfl ?_
            refine TT.br (p := 4 ≤ ((n : Nat) : Int)) (fun h14 => ?_) (fun h14 => ?_)
            · refine TT.inc (cd := cd8) ((n + 1 : Nat) : Int) rfl rfl rfl rfl (fun h => absurd h.2 (show ¬ (0 = 1) by decide)) (aAdd_n (a := n) (b := 1) (by omega)) (ls' := [(2, 295), (0, ((a : Nat) : Int)), (0, 0), (0, 1), (0, 4), (0, ((n + 1 : Nat) : Int))]) rfl ?_
              refine TT.inc (cd := cd8) ((a + 1 : Nat) : Int) rfl rfl rfl rfl (fun h => absurd h.2 (show ¬ (2 = 1) by decide)) (aAdd_n (a := a) (b := 1) (by omega)) (ls' := [(2, 295), (0, ((a + 1 : Nat) : Int)), (0, 0), (0, 1), (0, 4), (0, ((n + 1 : Nat) : Int))]) rfl ?_
              refine TT.steps (cd := cd8) 1 (c' := (115, [(2, 295), (0, ((a + 1 : Nat) : Int)), (0, 0), (0, 1), (0, 4), (0, ((n + 1 : Nat) : Int))], [], (up2 (hp3 σ l w v) 295 12 ((a : Nat) : Int)))) rfl rfl ?_
              try (exfalso; omega)
              all_goals
                try simp only [hp3_12, hp3_7, hp3_6]
                rw [if_pos (by first | assumption | omega)] at kk
                first | rw [if_pos (by first | assumption | omega), if_pos (by first | assumption | omega)] at kk | rw [if_pos (by first | assumption | omega), if_neg (by first | assumption | omega)] at kk | rw [if_neg (by first | assumption | omega), if_pos (by first | assumption | omega)] at kk | rw [if_neg (by first | assumption | omega), if_neg (by first | assumption | omega)] at kk
                exact ih (a + 1) (n + 1) _ _ _ (by omega) (by omega) kk
            · refine TT.steps (cd := cd8) 6 (c' := (170, [(2, 295), (0, ((a : Nat) : Int)), (0, 0), (0, 1), (0, 4), (0, ((n : Nat) : Int))], [(0, ((up2 (hp3 σ l w v) 295 12 ((a : Nat) : Int)) 295 6)), (0, 10), (2, 295)], (up2 (hp3 σ l w v) 295 12 ((a : Nat) : Int)))) rfl rfl ?_
              refine TT.top0 (z := v) ((up2_by _ _ (j := 12) (j' := 6) _ (by decide)).trans (hp3_v _ _ _ _)) ?_
              refine TT.steps (cd := cd8) 1 (c' := (171, [(2, 295), (0, ((a : Nat) : Int)), (0, 0), (0, 1), (0, 4), (0, ((n : Nat) : Int))], [(0, (aMul 10 v)), (2, 295)], (up2 (hp3 σ l w v) 295 12 ((a : Nat) : Int)))) rfl rfl ?_
              refine TT.steps (cd := cd8) 3 (c' := (174, [(2, 295), (0, ((a : Nat) : Int)), (0, 0), (0, 1), (0, 4), (0, ((n : Nat) : Int))], [(0, ((a : Nat) : Int)), (2, 296), (0, (aMul 10 v)), (2, 295)], (up2 (hp3 σ l w v) 295 12 ((a : Nat) : Int)))) rfl rfl ?_
              refine TT.aldN (cd := cd8) (296) (a) rfl rfl rfl rfl (show a < 1800 by omega) ?_
              refine TT.top0 (z := (σ 296 a)) ((up2_far (k := 295) (k' := 296) _ _ _ _ (by decide)).trans (hp3_fr _ _ _ _ 296 (a) (Or.inl (by decide)))) ?_
              refine TT.steps (cd := cd8) 1 (c' := (176, [(2, 295), (0, ((a : Nat) : Int)), (0, 0), (0, 1), (0, 4), (0, ((n : Nat) : Int))], [(0, (aAdd (aMul 10 v) (σ 296 a))), (2, 295)], (up2 (hp3 σ l w v) 295 12 ((a : Nat) : Int)))) rfl rfl ?_
              refine TT.steps (cd := cd8) 2 (c' := (178, [(2, 295), (0, ((a : Nat) : Int)), (0, 0), (0, 1), (0, 4), (0, ((n : Nat) : Int))], [(0, (aSub (aAdd (aMul 10 v) (σ 296 a)) 48)), (2, 295)], (up2 (hp3 σ l w v) 295 12 ((a : Nat) : Int)))) rfl rfl ?_
              refine TT.steps (cd := cd8) 1 (c' := (179, [(2, 295), (0, ((a : Nat) : Int)), (0, 0), (0, 1), (0, 4), (0, ((n : Nat) : Int))], [], (up2 (up2 (hp3 σ l w v) 295 12 ((a : Nat) : Int)) 295 6 (aSub (aAdd (aMul 10 v) (σ 296 a)) 48)))) rfl rfl ?_
              refine TT.inc (cd := cd8) ((n + 1 : Nat) : Int) rfl rfl rfl rfl (fun h => absurd h.2 (show ¬ (0 = 1) by decide)) (aAdd_n (a := n) (b := 1) (by omega)) (ls' := [(2, 295), (0, ((a : Nat) : Int)), (0, 0), (0, 1), (0, 4), (0, ((n + 1 : Nat) : Int))]) rfl ?_
              refine TT.inc (cd := cd8) ((a + 1 : Nat) : Int) rfl rfl rfl rfl (fun h => absurd h.2 (show ¬ (2 = 1) by decide)) (aAdd_n (a := a) (b := 1) (by omega)) (ls' := [(2, 295), (0, ((a + 1 : Nat) : Int)), (0, 0), (0, 1), (0, 4), (0, ((n + 1 : Nat) : Int))]) rfl ?_
              refine TT.steps (cd := cd8) 1 (c' := (115, [(2, 295), (0, ((a + 1 : Nat) : Int)), (0, 0), (0, 1), (0, 4), (0, ((n + 1 : Nat) : Int))], [], (up2 (up2 (hp3 σ l w v) 295 12 ((a : Nat) : Int)) 295 6 (aSub (aAdd (aMul 10 v) (σ 296 a)) 48)))) rfl rfl ?_
              try (exfalso; omega)
              all_goals
                try simp only [hp3_12, hp3_7, hp3_6]
                rw [if_pos (by first | assumption | omega)] at kk
                first | rw [if_pos (by first | assumption | omega), if_pos (by first | assumption | omega)] at kk | rw [if_pos (by first | assumption | omega), if_neg (by first | assumption | omega)] at kk | rw [if_neg (by first | assumption | omega), if_pos (by first | assumption | omega)] at kk | rw [if_neg (by first | assumption | omega), if_neg (by first | assumption | omega)] at kk
                exact ih (a + 1) (n + 1) _ _ _ (by omega) (by omega) kk
