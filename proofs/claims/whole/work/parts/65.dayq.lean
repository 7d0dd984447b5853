theorem ul_str_36 (X : AX) (Q : Option AV → AH → Prop) (np : Nat) (σ : AH) (hpe : σ 198 12 = 36) (hc : σ 36 0 = (np : Int)) (hnp2 : np ≤ 10)  (kk : TT X 125 (33, [(2, 198), (0, ((bs (fun p => decide (¬ σ 248 p = -1 ∧ ¬ σ 247 p = σ 41 p)) np : Nat) : Int)), (0, ((np : Nat) : Int))], [], σ) Q) : ∀ (d n : Nat), n + d = np → TT X 125 (4, [(2, 198), (0, ((bs (fun p => decide (¬ σ 248 p = -1 ∧ ¬ σ 247 p = σ 41 p)) n : Nat) : Int)), (0, ((n : Nat) : Int))], [], σ) Q := by
  intro d
  induction d with
  | zero =>
    intro n hn
    have hnn : n = np := by omega
    rw [hnn]
    refine TT.steps (cd := cd125) 3 (c' := (7, [(2, 198), (0, ((bs (fun p => decide (¬ σ 248 p = -1 ∧ ¬ σ 247 p = σ 41 p)) np : Nat) : Int)), (0, ((np : Nat) : Int))], [(2, (σ 198 12)), (0, ((np : Nat) : Int))], σ)) rfl rfl ?_
    refine TT.top0 (z := 36) hpe ?_
    refine TT.steps (cd := cd125) 1 (c' := (8, [(2, 198), (0, ((bs (fun p => decide (¬ σ 248 p = -1 ∧ ¬ σ 247 p = σ 41 p)) np : Nat) : Int)), (0, ((np : Nat) : Int))], [(0, (σ 36 0)), (0, ((np : Nat) : Int))], σ)) rfl rfl ?_
    refine TT.top0 (z := ((np : Nat) : Int)) hc ?_
    refine TT.steps (cd := cd125) 1 (c' := ((if decide (((np : Nat) : Int) ≤ ((np : Nat) : Int)) = true then 33 else 9), [(2, 198), (0, ((bs (fun p => decide (¬ σ 248 p = -1 ∧ ¬ σ 247 p = σ 41 p)) np : Nat) : Int)), (0, ((np : Nat) : Int))], [], σ)) rfl rfl ?_
    refine TT.br (p := ((np : Nat) : Int) ≤ ((np : Nat) : Int)) (fun h1 => ?_) (fun h1 => absurd (show ((np : Nat) : Int) ≤ ((np : Nat) : Int) by omega) h1)
    exact kk
  | succ d ih =>
    intro n hn
    refine TT.steps (cd := cd125) 3 (c' := (7, [(2, 198), (0, ((bs (fun p => decide (¬ σ 248 p = -1 ∧ ¬ σ 247 p = σ 41 p)) n : Nat) : Int)), (0, ((n : Nat) : Int))], [(2, (σ 198 12)), (0, ((n : Nat) : Int))], σ)) rfl rfl ?_
    refine TT.top0 (z := 36) hpe ?_
    refine TT.steps (cd := cd125) 1 (c' := (8, [(2, 198), (0, ((bs (fun p => decide (¬ σ 248 p = -1 ∧ ¬ σ 247 p = σ 41 p)) n : Nat) : Int)), (0, ((n : Nat) : Int))], [(0, (σ 36 0)), (0, ((n : Nat) : Int))], σ)) rfl rfl ?_
    refine TT.top0 (z := ((np : Nat) : Int)) hc ?_
    refine TT.steps (cd := cd125) 1 (c' := ((if decide (((np : Nat) : Int) ≤ ((n : Nat) : Int)) = true then 33 else 9), [(2, 198), (0, ((bs (fun p => decide (¬ σ 248 p = -1 ∧ ¬ σ 247 p = σ 41 p)) n : Nat) : Int)), (0, ((n : Nat) : Int))], [], σ)) rfl rfl ?_
    refine TT.br (p := ((np : Nat) : Int) ≤ ((n : Nat) : Int)) (fun h1 => absurd h1 (show ¬ (((np : Nat) : Int) ≤ ((n : Nat) : Int)) by omega)) (fun h1 => ?_)
    refine TT.steps (cd := cd125) 3 (c' := (12, [(2, 198), (0, ((bs (fun p => decide (¬ σ 248 p = -1 ∧ ¬ σ 247 p = σ 41 p)) n : Nat) : Int)), (0, ((n : Nat) : Int))], [(0, ((n : Nat) : Int)), (2, 248)], σ)) rfl rfl ?_
    refine TT.aldN (cd := cd125) (248) (n) rfl rfl rfl rfl (show n < 10 by omega) ?_
    refine TT.steps (cd := cd125) 2 (c' := ((if decide ((σ 248 n) = (-1)) = true then 31 else 15), [(2, 198), (0, ((bs (fun p => decide (¬ σ 248 p = -1 ∧ ¬ σ 247 p = σ 41 p)) n : Nat) : Int)), (0, ((n : Nat) : Int))], [], σ)) rfl rfl ?_
    refine TT.br (p := (σ 248 n) = (-1)) (fun h2 => ?_) (fun h2 => ?_)
    · refine TT.inc (cd := cd125) ((n + 1 : Nat) : Int) rfl rfl rfl rfl (fun h => absurd h.2 (show ¬ (0 = 1) by decide)) (aAdd_n (a := n) (b := 1) (by omega)) (ls' := [(2, 198), (0, ((bs (fun p => decide (¬ σ 248 p = -1 ∧ ¬ σ 247 p = σ 41 p)) n : Nat) : Int)), (0, ((n + 1 : Nat) : Int))]) rfl ?_
      refine TT.steps (cd := cd125) 1 (c' := (4, [(2, 198), (0, ((bs (fun p => decide (¬ σ 248 p = -1 ∧ ¬ σ 247 p = σ 41 p)) n : Nat) : Int)), (0, ((n + 1 : Nat) : Int))], [], σ)) rfl rfl ?_
      have e1 : ((bs (fun p => decide (¬ σ 248 p = -1 ∧ ¬ σ 247 p = σ 41 p)) n : Nat) : Int) = ((bs (fun p => decide (¬ σ 248 p = -1 ∧ ¬ σ 247 p = σ 41 p)) (n + 1) : Nat) : Int) := by first | exact bs_t (decide_eq_true (by omega)) (by omega) | exact bs_f (decide_eq_false (by omega))
      rw [e1]
      clear e1
      have e2 : ((n + 1 : Nat) : Int) = (((n + 1) : Nat) : Int) := by omega
      rw [e2]
      clear e2
      exact ih (n + 1) (by omega)
    · refine TT.steps (cd := cd125) 3 (c' := (18, [(2, 198), (0, ((bs (fun p => decide (¬ σ 248 p = -1 ∧ ¬ σ 247 p = σ 41 p)) n : Nat) : Int)), (0, ((n : Nat) : Int))], [(0, ((n : Nat) : Int)), (2, 247)], σ)) rfl rfl ?_
      refine TT.aldN (cd := cd125) (247) (n) rfl rfl rfl rfl (show n < 10 by omega) ?_
      refine TT.steps (cd := cd125) 2 (c' := (21, [(2, 198), (0, ((bs (fun p => decide (¬ σ 248 p = -1 ∧ ¬ σ 247 p = σ 41 p)) n : Nat) : Int)), (0, ((n : Nat) : Int))], [(2, (σ 198 12)), (0, (σ 247 n))], σ)) rfl rfl ?_
      refine TT.top0 (z := 36) hpe ?_
      refine TT.steps (cd := cd125) 2 (c' := (23, [(2, 198), (0, ((bs (fun p => decide (¬ σ 248 p = -1 ∧ ¬ σ 247 p = σ 41 p)) n : Nat) : Int)), (0, ((n : Nat) : Int))], [(0, ((n : Nat) : Int)), (2, 41), (0, (σ 247 n))], σ)) rfl rfl ?_
      refine TT.aldN (cd := cd125) (41) (n) rfl rfl rfl rfl (show n < 10 by omega) ?_
      refine TT.steps (cd := cd125) 1 (c' := ((if decide ((σ 247 n) = (σ 41 n)) = true then 31 else 25), [(2, 198), (0, ((bs (fun p => decide (¬ σ 248 p = -1 ∧ ¬ σ 247 p = σ 41 p)) n : Nat) : Int)), (0, ((n : Nat) : Int))], [], σ)) rfl rfl ?_
      refine TT.br (p := (σ 247 n) = (σ 41 n)) (fun h3 => ?_) (fun h3 => ?_)
      · refine TT.inc (cd := cd125) ((n + 1 : Nat) : Int) rfl rfl rfl rfl (fun h => absurd h.2 (show ¬ (0 = 1) by decide)) (aAdd_n (a := n) (b := 1) (by omega)) (ls' := [(2, 198), (0, ((bs (fun p => decide (¬ σ 248 p = -1 ∧ ¬ σ 247 p = σ 41 p)) n : Nat) : Int)), (0, ((n + 1 : Nat) : Int))]) rfl ?_
        refine TT.steps (cd := cd125) 1 (c' := (4, [(2, 198), (0, ((bs (fun p => decide (¬ σ 248 p = -1 ∧ ¬ σ 247 p = σ 41 p)) n : Nat) : Int)), (0, ((n + 1 : Nat) : Int))], [], σ)) rfl rfl ?_
        have e1 : ((bs (fun p => decide (¬ σ 248 p = -1 ∧ ¬ σ 247 p = σ 41 p)) n : Nat) : Int) = ((bs (fun p => decide (¬ σ 248 p = -1 ∧ ¬ σ 247 p = σ 41 p)) (n + 1) : Nat) : Int) := by first | exact bs_t (decide_eq_true (by omega)) (by omega) | exact bs_f (decide_eq_false (by omega))
        rw [e1]
        clear e1
        have e2 : ((n + 1 : Nat) : Int) = (((n + 1) : Nat) : Int) := by omega
        rw [e2]
        clear e2
        exact ih (n + 1) (by omega)
      · refine TT.steps (cd := cd125) 6 (c' := (31, [(2, 198), (0, (aOr ((bs (fun p => decide (¬ σ 248 p = -1 ∧ ¬ σ 247 p = σ 41 p)) n : Nat) : Int) (aShl 1 ((n : Nat) : Int)))), (0, ((n : Nat) : Int))], [], σ)) rfl rfl ?_
        refine TT.inc (cd := cd125) ((n + 1 : Nat) : Int) rfl rfl rfl rfl (fun h => absurd h.2 (show ¬ (0 = 1) by decide)) (aAdd_n (a := n) (b := 1) (by omega)) (ls' := [(2, 198), (0, (aOr ((bs (fun p => decide (¬ σ 248 p = -1 ∧ ¬ σ 247 p = σ 41 p)) n : Nat) : Int) (aShl 1 ((n : Nat) : Int)))), (0, ((n + 1 : Nat) : Int))]) rfl ?_
        refine TT.steps (cd := cd125) 1 (c' := (4, [(2, 198), (0, (aOr ((bs (fun p => decide (¬ σ 248 p = -1 ∧ ¬ σ 247 p = σ 41 p)) n : Nat) : Int) (aShl 1 ((n : Nat) : Int)))), (0, ((n + 1 : Nat) : Int))], [], σ)) rfl rfl ?_
        have e1 : (aOr ((bs (fun p => decide (¬ σ 248 p = -1 ∧ ¬ σ 247 p = σ 41 p)) n : Nat) : Int) (aShl 1 ((n : Nat) : Int))) = ((bs (fun p => decide (¬ σ 248 p = -1 ∧ ¬ σ 247 p = σ 41 p)) (n + 1) : Nat) : Int) := by first | exact bs_t (decide_eq_true (by omega)) (by omega) | exact bs_f (decide_eq_false (by omega))
        rw [e1]
        clear e1
        have e2 : ((n + 1 : Nat) : Int) = (((n + 1) : Nat) : Int) := by omega
        rw [e2]
        clear e2
        exact ih (n + 1) (by omega)
theorem u_stranded_36 (X : AX) (H : Nat → Bool) (np : Nat) (σ : AH) (hpe : σ 198 12 = 36) (hc : σ 36 0 = (np : Int)) (hnp2 : np ≤ 10) (hH : σ 198 13 = ((bs H np : Nat) : Int))  : TT X 125 (0, [(2, 198), (9, 0), (9, 0)], [], σ) (fun r σ' => r = some (0, ((bs (fun p => decide (¬ σ 248 p = -1 ∧ ¬ σ 247 p = σ 41 p) && !(H p)) np : Nat) : Int)) ∧ σ' = σ) := by
  refine TT.steps (cd := cd125) 4 (c' := (4, [(2, 198), (0, 0), (0, 0)], [], σ)) rfl rfl ?_
  refine ul_str_36 X _ np σ hpe hc hnp2 ?_ np 0 (by omega)
  refine TT.steps (cd := cd125) 3 (c' := (36, [(2, 198), (0, ((bs (fun p => decide (¬ σ 248 p = -1 ∧ ¬ σ 247 p = σ 41 p)) np : Nat) : Int)), (0, ((np : Nat) : Int))], [(0, (σ 198 13)), (0, ((bs (fun p => decide (¬ σ 248 p = -1 ∧ ¬ σ 247 p = σ 41 p)) np : Nat) : Int))], σ)) rfl rfl ?_
  refine TT.top0 (z := ((bs H np : Nat) : Int)) hH ?_
  refine TT.steps (cd := cd125) 3 (c' := (39, [(2, 198), (0, ((bs (fun p => decide (¬ σ 248 p = -1 ∧ ¬ σ 247 p = σ 41 p)) np : Nat) : Int)), (0, ((np : Nat) : Int))], [(0, (aAnd ((bs (fun p => decide (¬ σ 248 p = -1 ∧ ¬ σ 247 p = σ 41 p)) np : Nat) : Int) (aXor ((bs H np : Nat) : Int) (-1))))], σ)) rfl rfl ?_
  refine TT.top0 (z := ((bs (fun p => (decide (¬ σ 248 p = -1 ∧ ¬ σ 247 p = σ 41 p)) && !(H p)) np : Nat) : Int)) (bs_sub (fun p => decide (¬ σ 248 p = -1 ∧ ¬ σ 247 p = σ 41 p)) H (by omega)) ?_
  exact TT.ret (cd := cd125) rfl rfl rfl rfl (⟨rfl, rfl⟩)
theorem ul_str_42 (X : AX) (Q : Option AV → AH → Prop) (np : Nat) (σ : AH) (hpe : σ 198 12 = 42) (hc : σ 42 0 = (np : Int)) (hnp2 : np ≤ 10)  (kk : TT X 125 (33, [(2, 198), (0, ((bs (fun p => decide (¬ σ 248 p = -1 ∧ ¬ σ 247 p = σ 47 p)) np : Nat) : Int)), (0, ((np : Nat) : Int))], [], σ) Q) : ∀ (d n : Nat), n + d = np → TT X 125 (4, [(2, 198), (0, ((bs (fun p => decide (¬ σ 248 p = -1 ∧ ¬ σ 247 p = σ 47 p)) n : Nat) : Int)), (0, ((n : Nat) : Int))], [], σ) Q := by
  intro d
  induction d with
  | zero =>
    intro n hn
    have hnn : n = np := by omega
    rw [hnn]
    refine TT.steps (cd := cd125) 3 (c' := (7, [(2, 198), (0, ((bs (fun p => decide (¬ σ 248 p = -1 ∧ ¬ σ 247 p = σ 47 p)) np : Nat) : Int)), (0, ((np : Nat) : Int))], [(2, (σ 198 12)), (0, ((np : Nat) : Int))], σ)) rfl rfl ?_
    refine TT.top0 (z := 42) hpe ?_
    refine TT.steps (cd := cd125) 1 (c' := (8, [(2, 198), (0, ((bs (fun p => decide (¬ σ 248 p = -1 ∧ ¬ σ 247 p = σ 47 p)) np : Nat) : Int)), (0, ((np : Nat) : Int))], [(0, (σ 42 0)), (0, ((np : Nat) : Int))], σ)) rfl rfl ?_
    refine TT.top0 (z := ((np : Nat) : Int)) hc ?_
    refine TT.steps (cd := cd125) 1 (c' := ((if decide (((np : Nat) : Int) ≤ ((np : Nat) : Int)) = true then 33 else 9), [(2, 198), (0, ((bs (fun p => decide (¬ σ 248 p = -1 ∧ ¬ σ 247 p = σ 47 p)) np : Nat) : Int)), (0, ((np : Nat) : Int))], [], σ)) rfl rfl ?_
    refine TT.br (p := ((np : Nat) : Int) ≤ ((np : Nat) : Int)) (fun h1 => ?_) (fun h1 => absurd (show ((np : Nat) : Int) ≤ ((np : Nat) : Int) by omega) h1)
    exact kk
  | succ d ih =>
    intro n hn
    refine TT.steps (cd := cd125) 3 (c' := (7, [(2, 198), (0, ((bs (fun p => decide (¬ σ 248 p = -1 ∧ ¬ σ 247 p = σ 47 p)) n : Nat) : Int)), (0, ((n : Nat) : Int))], [(2, (σ 198 12)), (0, ((n : Nat) : Int))], σ)) rfl rfl ?_
    refine TT.top0 (z := 42) hpe ?_
    refine TT.steps (cd := cd125) 1 (c' := (8, [(2, 198), (0, ((bs (fun p => decide (¬ σ 248 p = -1 ∧ ¬ σ 247 p = σ 47 p)) n : Nat) : Int)), (0, ((n : Nat) : Int))], [(0, (σ 42 0)), (0, ((n : Nat) : Int))], σ)) rfl rfl ?_
    refine TT.top0 (z := ((np : Nat) : Int)) hc ?_
    refine TT.steps (cd := cd125) 1 (c' := ((if decide (((np : Nat) : Int) ≤ ((n : Nat) : Int)) = true then 33 else 9), [(2, 198), (0, ((bs (fun p => decide (¬ σ 248 p = -1 ∧ ¬ σ 247 p = σ 47 p)) n : Nat) : Int)), (0, ((n : Nat) : Int))], [], σ)) rfl rfl ?_
    refine TT.br (p := ((np : Nat) : Int) ≤ ((n : Nat) : Int)) (fun h1 => absurd h1 (show ¬ (((np : Nat) : Int) ≤ ((n : Nat) : Int)) by omega)) (fun h1 => ?_)
    refine TT.steps (cd := cd125) 3 (c' := (12, [(2, 198), (0, ((bs (fun p => decide (¬ σ 248 p = -1 ∧ ¬ σ 247 p = σ 47 p)) n : Nat) : Int)), (0, ((n : Nat) : Int))], [(0, ((n : Nat) : Int)), (2, 248)], σ)) rfl rfl ?_
    refine TT.aldN (cd := cd125) (248) (n) rfl rfl rfl rfl (show n < 10 by omega) ?_
    refine TT.steps (cd := cd125) 2 (c' := ((if decide ((σ 248 n) = (-1)) = true then 31 else 15), [(2, 198), (0, ((bs (fun p => decide (¬ σ 248 p = -1 ∧ ¬ σ 247 p = σ 47 p)) n : Nat) : Int)), (0, ((n : Nat) : Int))], [], σ)) rfl rfl ?_
    refine TT.br (p := (σ 248 n) = (-1)) (fun h2 => ?_) (fun h2 => ?_)
    · refine TT.inc (cd := cd125) ((n + 1 : Nat) : Int) rfl rfl rfl rfl (fun h => absurd h.2 (show ¬ (0 = 1) by decide)) (aAdd_n (a := n) (b := 1) (by omega)) (ls' := [(2, 198), (0, ((bs (fun p => decide (¬ σ 248 p = -1 ∧ ¬ σ 247 p = σ 47 p)) n : Nat) : Int)), (0, ((n + 1 : Nat) : Int))]) rfl ?_
      refine TT.steps (cd := cd125) 1 (c' := (4, [(2, 198), (0, ((bs (fun p => decide (¬ σ 248 p = -1 ∧ ¬ σ 247 p = σ 47 p)) n : Nat) : Int)), (0, ((n + 1 : Nat) : Int))], [], σ)) rfl rfl ?_
      have e1 : ((bs (fun p => decide (¬ σ 248 p = -1 ∧ ¬ σ 247 p = σ 47 p)) n : Nat) : Int) = ((bs (fun p => decide (¬ σ 248 p = -1 ∧ ¬ σ 247 p = σ 47 p)) (n + 1) : Nat) : Int) := by first | exact bs_t (decide_eq_true (by omega)) (by omega) | exact bs_f (decide_eq_false (by omega))
      rw [e1]
      clear e1
      have e2 : ((n + 1 : Nat) : Int) = (((n + 1) : Nat) : Int) := by omega
      rw [e2]
      clear e2
      exact ih (n + 1) (by omega)
    · refine TT.steps (cd := cd125) 3 (c' := (18, [(2, 198), (0, ((bs (fun p => decide (¬ σ 248 p = -1 ∧ ¬ σ 247 p = σ 47 p)) n : Nat) : Int)), (0, ((n : Nat) : Int))], [(0, ((n : Nat) : Int)), (2, 247)], σ)) rfl rfl ?_
      refine TT.aldN (cd := cd125) (247) (n) rfl rfl rfl rfl (show n < 10 by omega) ?_
      refine TT.steps (cd := cd125) 2 (c' := (21, [(2, 198), (0, ((bs (fun p => decide (¬ σ 248 p = -1 ∧ ¬ σ 247 p = σ 47 p)) n : Nat) : Int)), (0, ((n : Nat) : Int))], [(2, (σ 198 12)), (0, (σ 247 n))], σ)) rfl rfl ?_
      refine TT.top0 (z := 42) hpe ?_
      refine TT.steps (cd := cd125) 2 (c' := (23, [(2, 198), (0, ((bs (fun p => decide (¬ σ 248 p = -1 ∧ ¬ σ 247 p = σ 47 p)) n : Nat) : Int)), (0, ((n : Nat) : Int))], [(0, ((n : Nat) : Int)), (2, 47), (0, (σ 247 n))], σ)) rfl rfl ?_
      refine TT.aldN (cd := cd125) (47) (n) rfl rfl rfl rfl (show n < 10 by omega) ?_
      refine TT.steps (cd := cd125) 1 (c' := ((if decide ((σ 247 n) = (σ 47 n)) = true then 31 else 25), [(2, 198), (0, ((bs (fun p => decide (¬ σ 248 p = -1 ∧ ¬ σ 247 p = σ 47 p)) n : Nat) : Int)), (0, ((n : Nat) : Int))], [], σ)) rfl rfl ?_
      refine TT.br (p := (σ 247 n) = (σ 47 n)) (fun h3 => ?_) (fun h3 => ?_)
      · refine TT.inc (cd := cd125) ((n + 1 : Nat) : Int) rfl rfl rfl rfl (fun h => absurd h.2 (show ¬ (0 = 1) by decide)) (aAdd_n (a := n) (b := 1) (by omega)) (ls' := [(2, 198), (0, ((bs (fun p => decide (¬ σ 248 p = -1 ∧ ¬ σ 247 p = σ 47 p)) n : Nat) : Int)), (0, ((n + 1 : Nat) : Int))]) rfl ?_
        refine TT.steps (cd := cd125) 1 (c' := (4, [(2, 198), (0, ((bs (fun p => decide (¬ σ 248 p = -1 ∧ ¬ σ 247 p = σ 47 p)) n : Nat) : Int)), (0, ((n + 1 : Nat) : Int))], [], σ)) rfl rfl ?_
        have e1 : ((bs (fun p => decide (¬ σ 248 p = -1 ∧ ¬ σ 247 p = σ 47 p)) n : Nat) : Int) = ((bs (fun p => decide (¬ σ 248 p = -1 ∧ ¬ σ 247 p = σ 47 p)) (n + 1) : Nat) : Int) := by first | exact bs_t (decide_eq_true (by omega)) (by omega) | exact bs_f (decide_eq_false (by omega))
        rw [e1]
        clear e1
        have e2 : ((n + 1 : Nat) : Int) = (((n + 1) : Nat) : Int) := by omega
        rw [e2]
        clear e2
        exact ih (n + 1) (by omega)
      · refine TT.steps (cd := cd125) 6 (c' := (31, [(2, 198), (0, (aOr ((bs (fun p => decide (¬ σ 248 p = -1 ∧ ¬ σ 247 p = σ 47 p)) n : Nat) : Int) (aShl 1 ((n : Nat) : Int)))), (0, ((n : Nat) : Int))], [], σ)) rfl rfl ?_
        refine TT.inc (cd := cd125) ((n + 1 : Nat) : Int) rfl rfl rfl rfl (fun h => absurd h.2 (show ¬ (0 = 1) by decide)) (aAdd_n (a := n) (b := 1) (by omega)) (ls' := [(2, 198), (0, (aOr ((bs (fun p => decide (¬ σ 248 p = -1 ∧ ¬ σ 247 p = σ 47 p)) n : Nat) : Int) (aShl 1 ((n : Nat) : Int)))), (0, ((n + 1 : Nat) : Int))]) rfl ?_
        refine TT.steps (cd := cd125) 1 (c' := (4, [(2, 198), (0, (aOr ((bs (fun p => decide (¬ σ 248 p = -1 ∧ ¬ σ 247 p = σ 47 p)) n : Nat) : Int) (aShl 1 ((n : Nat) : Int)))), (0, ((n + 1 : Nat) : Int))], [], σ)) rfl rfl ?_
        have e1 : (aOr ((bs (fun p => decide (¬ σ 248 p = -1 ∧ ¬ σ 247 p = σ 47 p)) n : Nat) : Int) (aShl 1 ((n : Nat) : Int))) = ((bs (fun p => decide (¬ σ 248 p = -1 ∧ ¬ σ 247 p = σ 47 p)) (n + 1) : Nat) : Int) := by first | exact bs_t (decide_eq_true (by omega)) (by omega) | exact bs_f (decide_eq_false (by omega))
        rw [e1]
        clear e1
        have e2 : ((n + 1 : Nat) : Int) = (((n + 1) : Nat) : Int) := by omega
        rw [e2]
        clear e2
        exact ih (n + 1) (by omega)
theorem u_stranded_42 (X : AX) (H : Nat → Bool) (np : Nat) (σ : AH) (hpe : σ 198 12 = 42) (hc : σ 42 0 = (np : Int)) (hnp2 : np ≤ 10) (hH : σ 198 13 = ((bs H np : Nat) : Int))  : TT X 125 (0, [(2, 198), (9, 0), (9, 0)], [], σ) (fun r σ' => r = some (0, ((bs (fun p => decide (¬ σ 248 p = -1 ∧ ¬ σ 247 p = σ 47 p) && !(H p)) np : Nat) : Int)) ∧ σ' = σ) := by
  refine TT.steps (cd := cd125) 4 (c' := (4, [(2, 198), (0, 0), (0, 0)], [], σ)) rfl rfl ?_
  refine ul_str_42 X _ np σ hpe hc hnp2 ?_ np 0 (by omega)
  refine TT.steps (cd := cd125) 3 (c' := (36, [(2, 198), (0, ((bs (fun p => decide (¬ σ 248 p = -1 ∧ ¬ σ 247 p = σ 47 p)) np : Nat) : Int)), (0, ((np : Nat) : Int))], [(0, (σ 198 13)), (0, ((bs (fun p => decide (¬ σ 248 p = -1 ∧ ¬ σ 247 p = σ 47 p)) np : Nat) : Int))], σ)) rfl rfl ?_
  refine TT.top0 (z := ((bs H np : Nat) : Int)) hH ?_
  refine TT.steps (cd := cd125) 3 (c' := (39, [(2, 198), (0, ((bs (fun p => decide (¬ σ 248 p = -1 ∧ ¬ σ 247 p = σ 47 p)) np : Nat) : Int)), (0, ((np : Nat) : Int))], [(0, (aAnd ((bs (fun p => decide (¬ σ 248 p = -1 ∧ ¬ σ 247 p = σ 47 p)) np : Nat) : Int) (aXor ((bs H np : Nat) : Int) (-1))))], σ)) rfl rfl ?_
  refine TT.top0 (z := ((bs (fun p => (decide (¬ σ 248 p = -1 ∧ ¬ σ 247 p = σ 47 p)) && !(H p)) np : Nat) : Int)) (bs_sub (fun p => decide (¬ σ 248 p = -1 ∧ ¬ σ 247 p = σ 47 p)) H (by omega)) ?_
  exact TT.ret (cd := cd125) rfl rfl rfl rfl (⟨rfl, rfl⟩)
theorem ul_good_8 (X : AX) (Q : Option AV → AH → Prop) (ns np : Nat) (HR WI : Nat → Nat → Bool) (σ : AH) (hli : σ 198 11 = 8) (hns : σ 8 1 = (ns : Int)) (hns2 : ns ≤ 14) (hnp2 : np ≤ 10) (hHR : ∀ s, s < ns → σ 254 s = ((bs (HR s) np : Nat) : Int)) (hWI : ∀ s, s < ns → σ 201 s = ((bs (WI s) np : Nat) : Int))  (kk : TT X 126 (24, [(2, 198), (0, ((bs (fun p => anyN (fun s => HR s p && WI s p) ns) np : Nat) : Int)), (0, ((ns : Nat) : Int))], [], σ) Q) : ∀ (d n : Nat), n + d = ns → TT X 126 (4, [(2, 198), (0, ((bs (fun p => anyN (fun s => HR s p && WI s p) n) np : Nat) : Int)), (0, ((n : Nat) : Int))], [], σ) Q := by
  intro d
  induction d with
  | zero =>
    intro n hn
    have hnn : n = ns := by omega
    rw [hnn]
    refine TT.steps (cd := cd126) 3 (c' := (7, [(2, 198), (0, ((bs (fun p => anyN (fun s => HR s p && WI s p) ns) np : Nat) : Int)), (0, ((ns : Nat) : Int))], [(2, (σ 198 11)), (0, ((ns : Nat) : Int))], σ)) rfl rfl ?_
    refine TT.top0 (z := 8) hli ?_
    refine TT.steps (cd := cd126) 1 (c' := (8, [(2, 198), (0, ((bs (fun p => anyN (fun s => HR s p && WI s p) ns) np : Nat) : Int)), (0, ((ns : Nat) : Int))], [(0, (σ 8 1)), (0, ((ns : Nat) : Int))], σ)) rfl rfl ?_
    refine TT.top0 (z := ((ns : Nat) : Int)) hns ?_
    refine TT.steps (cd := cd126) 1 (c' := ((if decide (((ns : Nat) : Int) ≤ ((ns : Nat) : Int)) = true then 24 else 9), [(2, 198), (0, ((bs (fun p => anyN (fun s => HR s p && WI s p) ns) np : Nat) : Int)), (0, ((ns : Nat) : Int))], [], σ)) rfl rfl ?_
    refine TT.br (p := ((ns : Nat) : Int) ≤ ((ns : Nat) : Int)) (fun h1 => ?_) (fun h1 => absurd (show ((ns : Nat) : Int) ≤ ((ns : Nat) : Int) by omega) h1)
    exact kk
  | succ d ih =>
    intro n hn
    refine TT.steps (cd := cd126) 3 (c' := (7, [(2, 198), (0, ((bs (fun p => anyN (fun s => HR s p && WI s p) n) np : Nat) : Int)), (0, ((n : Nat) : Int))], [(2, (σ 198 11)), (0, ((n : Nat) : Int))], σ)) rfl rfl ?_
    refine TT.top0 (z := 8) hli ?_
    refine TT.steps (cd := cd126) 1 (c' := (8, [(2, 198), (0, ((bs (fun p => anyN (fun s => HR s p && WI s p) n) np : Nat) : Int)), (0, ((n : Nat) : Int))], [(0, (σ 8 1)), (0, ((n : Nat) : Int))], σ)) rfl rfl ?_
    refine TT.top0 (z := ((ns : Nat) : Int)) hns ?_
    refine TT.steps (cd := cd126) 1 (c' := ((if decide (((ns : Nat) : Int) ≤ ((n : Nat) : Int)) = true then 24 else 9), [(2, 198), (0, ((bs (fun p => anyN (fun s => HR s p && WI s p) n) np : Nat) : Int)), (0, ((n : Nat) : Int))], [], σ)) rfl rfl ?_
    refine TT.br (p := ((ns : Nat) : Int) ≤ ((n : Nat) : Int)) (fun h1 => absurd h1 (show ¬ (((ns : Nat) : Int) ≤ ((n : Nat) : Int)) by omega)) (fun h1 => ?_)
    refine TT.steps (cd := cd126) 4 (c' := (13, [(2, 198), (0, ((bs (fun p => anyN (fun s => HR s p && WI s p) n) np : Nat) : Int)), (0, ((n : Nat) : Int))], [(0, ((n : Nat) : Int)), (2, 254), (0, ((bs (fun p => anyN (fun s => HR s p && WI s p) n) np : Nat) : Int))], σ)) rfl rfl ?_
    refine TT.aldN (cd := cd126) (254) (n) rfl rfl rfl rfl (show n < 14 by omega) ?_
    refine TT.top0 (z := ((bs (HR n) np : Nat) : Int)) (hHR n (by omega)) ?_
    refine TT.steps (cd := cd126) 4 (c' := (18, [(2, 198), (0, ((bs (fun p => anyN (fun s => HR s p && WI s p) n) np : Nat) : Int)), (0, ((n : Nat) : Int))], [(0, ((n : Nat) : Int)), (2, 201), (0, ((bs (HR n) np : Nat) : Int)), (0, ((bs (fun p => anyN (fun s => HR s p && WI s p) n) np : Nat) : Int))], σ)) rfl rfl ?_
    refine TT.aldN (cd := cd126) (201) (n) rfl rfl rfl rfl (show n < 14 by omega) ?_
    refine TT.top0 (z := ((bs (WI n) np : Nat) : Int)) (hWI n (by omega)) ?_
    refine TT.steps (cd := cd126) 1 (c' := (20, [(2, 198), (0, ((bs (fun p => anyN (fun s => HR s p && WI s p) n) np : Nat) : Int)), (0, ((n : Nat) : Int))], [(0, (aAnd ((bs (HR n) np : Nat) : Int) ((bs (WI n) np : Nat) : Int))), (0, ((bs (fun p => anyN (fun s => HR s p && WI s p) n) np : Nat) : Int))], σ)) rfl rfl ?_
    refine TT.top0 (z := ((bs (fun p => (HR n) p && (WI n) p) np : Nat) : Int)) (bs_and (HR n) (WI n) (by omega)) ?_
    refine TT.steps (cd := cd126) 1 (c' := (21, [(2, 198), (0, ((bs (fun p => anyN (fun s => HR s p && WI s p) n) np : Nat) : Int)), (0, ((n : Nat) : Int))], [(0, (aOr ((bs (fun p => anyN (fun s => HR s p && WI s p) n) np : Nat) : Int) ((bs (fun p => (HR n) p && (WI n) p) np : Nat) : Int)))], σ)) rfl rfl ?_
    refine TT.top0 (z := ((bs (fun p => (anyN (fun s => HR s p && WI s p) n) || ((HR n) p && (WI n) p)) np : Nat) : Int)) (bs_or (fun p => anyN (fun s => HR s p && WI s p) n) (fun p => (HR n) p && (WI n) p) (by omega)) ?_
    refine TT.steps (cd := cd126) 1 (c' := (22, [(2, 198), (0, ((bs (fun p => (anyN (fun s => HR s p && WI s p) n) || ((HR n) p && (WI n) p)) np : Nat) : Int)), (0, ((n : Nat) : Int))], [], σ)) rfl rfl ?_
    refine TT.inc (cd := cd126) ((n + 1 : Nat) : Int) rfl rfl rfl rfl (fun h => absurd h.2 (show ¬ (0 = 1) by decide)) (aAdd_n (a := n) (b := 1) (by omega)) (ls' := [(2, 198), (0, ((bs (fun p => (anyN (fun s => HR s p && WI s p) n) || ((HR n) p && (WI n) p)) np : Nat) : Int)), (0, ((n + 1 : Nat) : Int))]) rfl ?_
    refine TT.steps (cd := cd126) 1 (c' := (4, [(2, 198), (0, ((bs (fun p => (anyN (fun s => HR s p && WI s p) n) || ((HR n) p && (WI n) p)) np : Nat) : Int)), (0, ((n + 1 : Nat) : Int))], [], σ)) rfl rfl ?_
    have e1 : ((bs (fun p => (anyN (fun s => HR s p && WI s p) n) || ((HR n) p && (WI n) p)) np : Nat) : Int) = ((bs (fun p => anyN (fun s => HR s p && WI s p) (n + 1)) np : Nat) : Int) := by exact congrArg (fun x : Nat => (x : Int)) (bs_c (fun p _ => by rw [anyN]))
    rw [e1]
    clear e1
    have e2 : ((n + 1 : Nat) : Int) = (((n + 1) : Nat) : Int) := by omega
    rw [e2]
    clear e2
    exact ih (n + 1) (by omega)
theorem u_good_8 (X : AX) (H : Nat → Bool) (ns np : Nat) (HR WI : Nat → Nat → Bool) (σ : AH) (hli : σ 198 11 = 8) (hns : σ 8 1 = (ns : Int)) (hns2 : ns ≤ 14) (hnp2 : np ≤ 10) (hHR : ∀ s, s < ns → σ 254 s = ((bs (HR s) np : Nat) : Int)) (hWI : ∀ s, s < ns → σ 201 s = ((bs (WI s) np : Nat) : Int)) (hH : σ 198 13 = ((bs H np : Nat) : Int))  : TT X 126 (0, [(2, 198), (9, 0), (9, 0)], [], σ) (fun r σ' => r = some (0, ((bs (fun p => anyN (fun s => HR s p && WI s p) ns && !(H p)) np : Nat) : Int)) ∧ σ' = σ) := by
  refine TT.steps (cd := cd126) 4 (c' := (4, [(2, 198), (0, 0), (0, 0)], [], σ)) rfl rfl ?_
  refine TT.ls0 (ls' := [(2, 198), (0, ((bs (fun p => anyN (fun s => HR s p && WI s p) 0) np : Nat) : Int)), (0, 0)]) (by rw [show ((bs (fun p => anyN (fun s => HR s p && WI s p) 0) np : Nat) : Int) = 0 from (bs_no (fun p _ => rfl)).symm]) ?_
  refine ul_good_8 X _ ns np HR WI σ hli hns hns2 hnp2 hHR hWI ?_ ns 0 (by omega)
  refine TT.steps (cd := cd126) 3 (c' := (27, [(2, 198), (0, ((bs (fun p => anyN (fun s => HR s p && WI s p) ns) np : Nat) : Int)), (0, ((ns : Nat) : Int))], [(0, (σ 198 13)), (0, ((bs (fun p => anyN (fun s => HR s p && WI s p) ns) np : Nat) : Int))], σ)) rfl rfl ?_
  refine TT.top0 (z := ((bs H np : Nat) : Int)) hH ?_
  refine TT.steps (cd := cd126) 3 (c' := (30, [(2, 198), (0, ((bs (fun p => anyN (fun s => HR s p && WI s p) ns) np : Nat) : Int)), (0, ((ns : Nat) : Int))], [(0, (aAnd ((bs (fun p => anyN (fun s => HR s p && WI s p) ns) np : Nat) : Int) (aXor ((bs H np : Nat) : Int) (-1))))], σ)) rfl rfl ?_
  refine TT.top0 (z := ((bs (fun p => (anyN (fun s => HR s p && WI s p) ns) && !(H p)) np : Nat) : Int)) (bs_sub (fun p => anyN (fun s => HR s p && WI s p) ns) H (by omega)) ?_
  exact TT.ret (cd := cd126) rfl rfl rfl rfl (⟨rfl, rfl⟩)
theorem u_countGood_8 (X : AX) (H : Nat → Bool) (ns np : Nat) (HR WI : Nat → Nat → Bool) (σ : AH) (hli : σ 198 11 = 8) (hns : σ 8 1 = (ns : Int)) (hns2 : ns ≤ 14) (hnp2 : np ≤ 10) (hHR : ∀ s, s < ns → σ 254 s = ((bs (HR s) np : Nat) : Int)) (hWI : ∀ s, s < ns → σ 201 s = ((bs (WI s) np : Nat) : Int)) (hH : σ 198 13 = ((bs H np : Nat) : Int))  : TT X 127 (0, [(2, 198)], [], σ) (fun r σ' => r = some (0, ((cnt (fun p => anyN (fun s => HR s p && WI s p) ns && !(H p)) np : Nat) : Int)) ∧ σ' = σ) := by
  refine TT.steps (cd := cd127) 1 (c' := (1, [(2, 198)], [(2, 198)], σ)) rfl rfl ?_
  refine TT.call (cd := cd127) rfl rfl rfl (by decide) rfl (u_good_8 X H ns np HR WI σ hli hns hns2 hnp2 hHR hWI hH) (fun r1 σ1 hq => ?_)
  rw [hq.1, hq.2]
  refine TT.call (cd := cd127) rfl rfl rfl (by decide) rfl (u_bitCount X ((bs (fun p => anyN (fun s => HR s p && WI s p) ns && !(H p)) np : Nat) : Int) σ) (fun r2 σ2 hq => ?_)
  rw [hq.1, hq.2, bs_count (fun p => anyN (fun s => HR s p && WI s p) ns && !(H p)) (by omega)]
  exact TT.ret (cd := cd127) rfl rfl rfl rfl (⟨rfl, rfl⟩)
theorem ul_trainOf_8 (X : AX) (nt np p : Nat) (AB : Nat → Nat → Bool) (σ : AH) (hli : σ 198 11 = 8) (hnt : σ 8 2 = (nt : Int)) (hnt2 : nt ≤ 6) (hnp2 : np ≤ 10) (hp : p < np) (hAB : ∀ t, t < nt → σ 253 t = ((bs (AB t) np : Nat) : Int)) : ∀ (d n : Nat), n + d = nt → (∀ t, t < n → AB t p = false) → TT X 124 (2, [(2, 198), (0, ((p : Nat) : Int)), (0, ((n : Nat) : Int))], [], σ) (fun r σ' => ((∃ t : Nat, t < nt ∧ AB t p = true ∧ r = some (0, (t : Int))) ∨ (∀ t, t < nt → AB t p = false) ∧ r = some (0, -1)) ∧ σ' = σ) := by
  intro d
  induction d with
  | zero =>
    intro n hn hf
    have hnn : n = nt := by omega
    subst hnn
    refine TT.steps (cd := cd124) 3 (c' := (5, [(2, 198), (0, ((p : Nat) : Int)), (0, ((n : Nat) : Int))], [(2, (σ 198 11)), (0, ((n : Nat) : Int))], σ)) rfl rfl ?_
    refine TT.top0 (z := 8) hli ?_
    refine TT.steps (cd := cd124) 1 (c' := (6, [(2, 198), (0, ((p : Nat) : Int)), (0, ((n : Nat) : Int))], [(0, (σ 8 2)), (0, ((n : Nat) : Int))], σ)) rfl rfl ?_
    refine TT.top0 (z := ((n : Nat) : Int)) hnt ?_
    refine TT.steps (cd := cd124) 1 (c' := ((if decide (((n : Nat) : Int) ≤ ((n : Nat) : Int)) = true then 19 else 7), [(2, 198), (0, ((p : Nat) : Int)), (0, ((n : Nat) : Int))], [], σ)) rfl rfl ?_
    refine TT.br (p := ((n : Nat) : Int) ≤ ((n : Nat) : Int)) (fun h1 => ?_) (fun h1 => absurd (show ((n : Nat) : Int) ≤ ((n : Nat) : Int) by omega) h1)
    refine TT.steps (cd := cd124) 1 (c' := (20, [(2, 198), (0, ((p : Nat) : Int)), (0, ((n : Nat) : Int))], [(0, -1)], σ)) rfl rfl ?_
    exact TT.ret (cd := cd124) rfl rfl rfl rfl (⟨Or.inr ⟨hf, rfl⟩, rfl⟩)
  | succ d ih =>
    intro n hn hf
    refine TT.steps (cd := cd124) 3 (c' := (5, [(2, 198), (0, ((p : Nat) : Int)), (0, ((n : Nat) : Int))], [(2, (σ 198 11)), (0, ((n : Nat) : Int))], σ)) rfl rfl ?_
    refine TT.top0 (z := 8) hli ?_
    refine TT.steps (cd := cd124) 1 (c' := (6, [(2, 198), (0, ((p : Nat) : Int)), (0, ((n : Nat) : Int))], [(0, (σ 8 2)), (0, ((n : Nat) : Int))], σ)) rfl rfl ?_
    refine TT.top0 (z := ((nt : Nat) : Int)) hnt ?_
    refine TT.steps (cd := cd124) 1 (c' := ((if decide (((nt : Nat) : Int) ≤ ((n : Nat) : Int)) = true then 19 else 7), [(2, 198), (0, ((p : Nat) : Int)), (0, ((n : Nat) : Int))], [], σ)) rfl rfl ?_
    refine TT.br (p := ((nt : Nat) : Int) ≤ ((n : Nat) : Int)) (fun h1 => absurd h1 (show ¬ (((nt : Nat) : Int) ≤ ((n : Nat) : Int)) by omega)) (fun h1 => ?_)
    refine TT.steps (cd := cd124) 3 (c' := (10, [(2, 198), (0, ((p : Nat) : Int)), (0, ((n : Nat) : Int))], [(0, ((n : Nat) : Int)), (2, 253)], σ)) rfl rfl ?_
    refine TT.aldN (cd := cd124) (253) (n) rfl rfl rfl rfl (show n < 6 by omega) ?_
    refine TT.top0 (z := ((bs (AB n) np : Nat) : Int)) (hAB n (by omega)) ?_
    refine TT.steps (cd := cd124) 1 (c' := (12, [(2, 198), (0, ((p : Nat) : Int)), (0, ((n : Nat) : Int))], [(0, ((p : Nat) : Int)), (0, ((bs (AB n) np : Nat) : Int))], σ)) rfl rfl ?_
    refine TT.call (cd := cd124) rfl rfl rfl (by decide) rfl (u_bit X ((bs (AB n) np : Nat) : Int) ((p : Nat) : Int) σ) (fun r2 σ2 hq => ?_)
    rw [hq.1, hq.2, bs_bitI (AB n) (by omega) (by omega)]
    refine TT.steps (cd := cd124) 2 (c' := ((if decide (¬ ((if (AB n) p = true then 1 else 0) : Int) = 1) = true then 17 else 15), [(2, 198), (0, ((p : Nat) : Int)), (0, ((n : Nat) : Int))], [], σ)) rfl rfl ?_
    refine TT.br (p := ¬ ((if (AB n) p = true then 1 else 0) : Int) = 1) (fun h3 => ?_) (fun h3 => ?_)
    · replace h3 := ite1_f h3
      refine TT.inc (cd := cd124) ((n + 1 : Nat) : Int) rfl rfl rfl rfl (fun h => absurd h.2 (show ¬ (0 = 1) by decide)) (aAdd_n (a := n) (b := 1) (by omega)) (ls' := [(2, 198), (0, ((p : Nat) : Int)), (0, ((n + 1 : Nat) : Int))]) rfl ?_
      refine TT.steps (cd := cd124) 1 (c' := (2, [(2, 198), (0, ((p : Nat) : Int)), (0, ((n + 1 : Nat) : Int))], [], σ)) rfl rfl ?_
      refine ih (n + 1) (by omega) (fun t ht => ?_)
      by_cases e : t = n
      · subst e; exact Bool.not_eq_true _ ▸ (by assumption)
      · exact hf t (by omega)
    · replace h3 := ite1_t (Decidable.not_not.mp h3)
      refine TT.steps (cd := cd124) 1 (c' := (16, [(2, 198), (0, ((p : Nat) : Int)), (0, ((n : Nat) : Int))], [(0, ((n : Nat) : Int))], σ)) rfl rfl ?_
      exact TT.ret (cd := cd124) rfl rfl rfl rfl (⟨Or.inl ⟨n, by omega, by assumption, rfl⟩, rfl⟩)
theorem u_trainOf_8 (X : AX) (nt np p : Nat) (AB : Nat → Nat → Bool) (σ : AH) (hli : σ 198 11 = 8) (hnt : σ 8 2 = (nt : Int)) (hnt2 : nt ≤ 6) (hnp2 : np ≤ 10) (hp : p < np) (hAB : ∀ t, t < nt → σ 253 t = ((bs (AB t) np : Nat) : Int))  : TT X 124 (0, [(2, 198), (0, ((p : Nat) : Int)), (9, 0)], [], σ) (fun r σ' => ((∃ t : Nat, t < nt ∧ AB t p = true ∧ r = some (0, (t : Int))) ∨ (∀ t, t < nt → AB t p = false) ∧ r = some (0, -1)) ∧ σ' = σ) := by
  refine TT.steps (cd := cd124) 2 (c' := (2, [(2, 198), (0, ((p : Nat) : Int)), (0, 0)], [], σ)) rfl rfl ?_
  exact ul_trainOf_8 X nt np p AB σ hli hnt hnt2 hnp2 hp hAB nt 0 (by omega) (fun t ht => by omega)
theorem ul_good_170 (X : AX) (Q : Option AV → AH → Prop) (ns np : Nat) (HR WI : Nat → Nat → Bool) (σ : AH) (hli : σ 198 11 = 170) (hns : σ 170 1 = (ns : Int)) (hns2 : ns ≤ 14) (hnp2 : np ≤ 10) (hHR : ∀ s, s < ns → σ 254 s = ((bs (HR s) np : Nat) : Int)) (hWI : ∀ s, s < ns → σ 201 s = ((bs (WI s) np : Nat) : Int))  (kk : TT X 126 (24, [(2, 198), (0, ((bs (fun p => anyN (fun s => HR s p && WI s p) ns) np : Nat) : Int)), (0, ((ns : Nat) : Int))], [], σ) Q) : ∀ (d n : Nat), n + d = ns → TT X 126 (4, [(2, 198), (0, ((bs (fun p => anyN (fun s => HR s p && WI s p) n) np : Nat) : Int)), (0, ((n : Nat) : Int))], [], σ) Q := by
  intro d
  induction d with
  | zero =>
    intro n hn
    have hnn : n = ns := by omega
    rw [hnn]
    refine TT.steps (cd := cd126) 3 (c' := (7, [(2, 198), (0, ((bs (fun p => anyN (fun s => HR s p && WI s p) ns) np : Nat) : Int)), (0, ((ns : Nat) : Int))], [(2, (σ 198 11)), (0, ((ns : Nat) : Int))], σ)) rfl rfl ?_
    refine TT.top0 (z := 170) hli ?_
    refine TT.steps (cd := cd126) 1 (c' := (8, [(2, 198), (0, ((bs (fun p => anyN (fun s => HR s p && WI s p) ns) np : Nat) : Int)), (0, ((ns : Nat) : Int))], [(0, (σ 170 1)), (0, ((ns : Nat) : Int))], σ)) rfl rfl ?_
    refine TT.top0 (z := ((ns : Nat) : Int)) hns ?_
    refine TT.steps (cd := cd126) 1 (c' := ((if decide (((ns : Nat) : Int) ≤ ((ns : Nat) : Int)) = true then 24 else 9), [(2, 198), (0, ((bs (fun p => anyN (fun s => HR s p && WI s p) ns) np : Nat) : Int)), (0, ((ns : Nat) : Int))], [], σ)) rfl rfl ?_
    refine TT.br (p := ((ns : Nat) : Int) ≤ ((ns : Nat) : Int)) (fun h1 => ?_) (fun h1 => absurd (show ((ns : Nat) : Int) ≤ ((ns : Nat) : Int) by omega) h1)
    exact kk
  | succ d ih =>
    intro n hn
    refine TT.steps (cd := cd126) 3 (c' := (7, [(2, 198), (0, ((bs (fun p => anyN (fun s => HR s p && WI s p) n) np : Nat) : Int)), (0, ((n : Nat) : Int))], [(2, (σ 198 11)), (0, ((n : Nat) : Int))], σ)) rfl rfl ?_
    refine TT.top0 (z := 170) hli ?_
    refine TT.steps (cd := cd126) 1 (c' := (8, [(2, 198), (0, ((bs (fun p => anyN (fun s => HR s p && WI s p) n) np : Nat) : Int)), (0, ((n : Nat) : Int))], [(0, (σ 170 1)), (0, ((n : Nat) : Int))], σ)) rfl rfl ?_
    refine TT.top0 (z := ((ns : Nat) : Int)) hns ?_
    refine TT.steps (cd := cd126) 1 (c' := ((if decide (((ns : Nat) : Int) ≤ ((n : Nat) : Int)) = true then 24 else 9), [(2, 198), (0, ((bs (fun p => anyN (fun s => HR s p && WI s p) n) np : Nat) : Int)), (0, ((n : Nat) : Int))], [], σ)) rfl rfl ?_
    refine TT.br (p := ((ns : Nat) : Int) ≤ ((n : Nat) : Int)) (fun h1 => absurd h1 (show ¬ (((ns : Nat) : Int) ≤ ((n : Nat) : Int)) by omega)) (fun h1 => ?_)
    refine TT.steps (cd := cd126) 4 (c' := (13, [(2, 198), (0, ((bs (fun p => anyN (fun s => HR s p && WI s p) n) np : Nat) : Int)), (0, ((n : Nat) : Int))], [(0, ((n : Nat) : Int)), (2, 254), (0, ((bs (fun p => anyN (fun s => HR s p && WI s p) n) np : Nat) : Int))], σ)) rfl rfl ?_
    refine TT.aldN (cd := cd126) (254) (n) rfl rfl rfl rfl (show n < 14 by omega) ?_
    refine TT.top0 (z := ((bs (HR n) np : Nat) : Int)) (hHR n (by omega)) ?_
    refine TT.steps (cd := cd126) 4 (c' := (18, [(2, 198), (0, ((bs (fun p => anyN (fun s => HR s p && WI s p) n) np : Nat) : Int)), (0, ((n : Nat) : Int))], [(0, ((n : Nat) : Int)), (2, 201), (0, ((bs (HR n) np : Nat) : Int)), (0, ((bs (fun p => anyN (fun s => HR s p && WI s p) n) np : Nat) : Int))], σ)) rfl rfl ?_
    refine TT.aldN (cd := cd126) (201) (n) rfl rfl rfl rfl (show n < 14 by omega) ?_
    refine TT.top0 (z := ((bs (WI n) np : Nat) : Int)) (hWI n (by omega)) ?_
    refine TT.steps (cd := cd126) 1 (c' := (20, [(2, 198), (0, ((bs (fun p => anyN (fun s => HR s p && WI s p) n) np : Nat) : Int)), (0, ((n : Nat) : Int))], [(0, (aAnd ((bs (HR n) np : Nat) : Int) ((bs (WI n) np : Nat) : Int))), (0, ((bs (fun p => anyN (fun s => HR s p && WI s p) n) np : Nat) : Int))], σ)) rfl rfl ?_
    refine TT.top0 (z := ((bs (fun p => (HR n) p && (WI n) p) np : Nat) : Int)) (bs_and (HR n) (WI n) (by omega)) ?_
    refine TT.steps (cd := cd126) 1 (c' := (21, [(2, 198), (0, ((bs (fun p => anyN (fun s => HR s p && WI s p) n) np : Nat) : Int)), (0, ((n : Nat) : Int))], [(0, (aOr ((bs (fun p => anyN (fun s => HR s p && WI s p) n) np : Nat) : Int) ((bs (fun p => (HR n) p && (WI n) p) np : Nat) : Int)))], σ)) rfl rfl ?_
    refine TT.top0 (z := ((bs (fun p => (anyN (fun s => HR s p && WI s p) n) || ((HR n) p && (WI n) p)) np : Nat) : Int)) (bs_or (fun p => anyN (fun s => HR s p && WI s p) n) (fun p => (HR n) p && (WI n) p) (by omega)) ?_
    refine TT.steps (cd := cd126) 1 (c' := (22, [(2, 198), (0, ((bs (fun p => (anyN (fun s => HR s p && WI s p) n) || ((HR n) p && (WI n) p)) np : Nat) : Int)), (0, ((n : Nat) : Int))], [], σ)) rfl rfl ?_
    refine TT.inc (cd := cd126) ((n + 1 : Nat) : Int) rfl rfl rfl rfl (fun h => absurd h.2 (show ¬ (0 = 1) by decide)) (aAdd_n (a := n) (b := 1) (by omega)) (ls' := [(2, 198), (0, ((bs (fun p => (anyN (fun s => HR s p && WI s p) n) || ((HR n) p && (WI n) p)) np : Nat) : Int)), (0, ((n + 1 : Nat) : Int))]) rfl ?_
    refine TT.steps (cd := cd126) 1 (c' := (4, [(2, 198), (0, ((bs (fun p => (anyN (fun s => HR s p && WI s p) n) || ((HR n) p && (WI n) p)) np : Nat) : Int)), (0, ((n + 1 : Nat) : Int))], [], σ)) rfl rfl ?_
    have e1 : ((bs (fun p => (anyN (fun s => HR s p && WI s p) n) || ((HR n) p && (WI n) p)) np : Nat) : Int) = ((bs (fun p => anyN (fun s => HR s p && WI s p) (n + 1)) np : Nat) : Int) := by exact congrArg (fun x : Nat => (x : Int)) (bs_c (fun p _ => by rw [anyN]))
    rw [e1]
    clear e1
    have e2 : ((n + 1 : Nat) : Int) = (((n + 1) : Nat) : Int) := by omega
    rw [e2]
    clear e2
    exact ih (n + 1) (by omega)
theorem u_good_170 (X : AX) (H : Nat → Bool) (ns np : Nat) (HR WI : Nat → Nat → Bool) (σ : AH) (hli : σ 198 11 = 170) (hns : σ 170 1 = (ns : Int)) (hns2 : ns ≤ 14) (hnp2 : np ≤ 10) (hHR : ∀ s, s < ns → σ 254 s = ((bs (HR s) np : Nat) : Int)) (hWI : ∀ s, s < ns → σ 201 s = ((bs (WI s) np : Nat) : Int)) (hH : σ 198 13 = ((bs H np : Nat) : Int))  : TT X 126 (0, [(2, 198), (9, 0), (9, 0)], [], σ) (fun r σ' => r = some (0, ((bs (fun p => anyN (fun s => HR s p && WI s p) ns && !(H p)) np : Nat) : Int)) ∧ σ' = σ) := by
  refine TT.steps (cd := cd126) 4 (c' := (4, [(2, 198), (0, 0), (0, 0)], [], σ)) rfl rfl ?_
  refine TT.ls0 (ls' := [(2, 198), (0, ((bs (fun p => anyN (fun s => HR s p && WI s p) 0) np : Nat) : Int)), (0, 0)]) (by rw [show ((bs (fun p => anyN (fun s => HR s p && WI s p) 0) np : Nat) : Int) = 0 from (bs_no (fun p _ => rfl)).symm]) ?_
  refine ul_good_170 X _ ns np HR WI σ hli hns hns2 hnp2 hHR hWI ?_ ns 0 (by omega)
  refine TT.steps (cd := cd126) 3 (c' := (27, [(2, 198), (0, ((bs (fun p => anyN (fun s => HR s p && WI s p) ns) np : Nat) : Int)), (0, ((ns : Nat) : Int))], [(0, (σ 198 13)), (0, ((bs (fun p => anyN (fun s => HR s p && WI s p) ns) np : Nat) : Int))], σ)) rfl rfl ?_
  refine TT.top0 (z := ((bs H np : Nat) : Int)) hH ?_
  refine TT.steps (cd := cd126) 3 (c' := (30, [(2, 198), (0, ((bs (fun p => anyN (fun s => HR s p && WI s p) ns) np : Nat) : Int)), (0, ((ns : Nat) : Int))], [(0, (aAnd ((bs (fun p => anyN (fun s => HR s p && WI s p) ns) np : Nat) : Int) (aXor ((bs H np : Nat) : Int) (-1))))], σ)) rfl rfl ?_
  refine TT.top0 (z := ((bs (fun p => (anyN (fun s => HR s p && WI s p) ns) && !(H p)) np : Nat) : Int)) (bs_sub (fun p => anyN (fun s => HR s p && WI s p) ns) H (by omega)) ?_
  exact TT.ret (cd := cd126) rfl rfl rfl rfl (⟨rfl, rfl⟩)
theorem u_countGood_170 (X : AX) (H : Nat → Bool) (ns np : Nat) (HR WI : Nat → Nat → Bool) (σ : AH) (hli : σ 198 11 = 170) (hns : σ 170 1 = (ns : Int)) (hns2 : ns ≤ 14) (hnp2 : np ≤ 10) (hHR : ∀ s, s < ns → σ 254 s = ((bs (HR s) np : Nat) : Int)) (hWI : ∀ s, s < ns → σ 201 s = ((bs (WI s) np : Nat) : Int)) (hH : σ 198 13 = ((bs H np : Nat) : Int))  : TT X 127 (0, [(2, 198)], [], σ) (fun r σ' => r = some (0, ((cnt (fun p => anyN (fun s => HR s p && WI s p) ns && !(H p)) np : Nat) : Int)) ∧ σ' = σ) := by
  refine TT.steps (cd := cd127) 1 (c' := (1, [(2, 198)], [(2, 198)], σ)) rfl rfl ?_
  refine TT.call (cd := cd127) rfl rfl rfl (by decide) rfl (u_good_170 X H ns np HR WI σ hli hns hns2 hnp2 hHR hWI hH) (fun r1 σ1 hq => ?_)
  rw [hq.1, hq.2]
  refine TT.call (cd := cd127) rfl rfl rfl (by decide) rfl (u_bitCount X ((bs (fun p => anyN (fun s => HR s p && WI s p) ns && !(H p)) np : Nat) : Int) σ) (fun r2 σ2 hq => ?_)
  rw [hq.1, hq.2, bs_count (fun p => anyN (fun s => HR s p && WI s p) ns && !(H p)) (by omega)]
  exact TT.ret (cd := cd127) rfl rfl rfl rfl (⟨rfl, rfl⟩)
theorem ul_trainOf_170 (X : AX) (nt np p : Nat) (AB : Nat → Nat → Bool) (σ : AH) (hli : σ 198 11 = 170) (hnt : σ 170 2 = (nt : Int)) (hnt2 : nt ≤ 6) (hnp2 : np ≤ 10) (hp : p < np) (hAB : ∀ t, t < nt → σ 253 t = ((bs (AB t) np : Nat) : Int)) : ∀ (d n : Nat), n + d = nt → (∀ t, t < n → AB t p = false) → TT X 124 (2, [(2, 198), (0, ((p : Nat) : Int)), (0, ((n : Nat) : Int))], [], σ) (fun r σ' => ((∃ t : Nat, t < nt ∧ AB t p = true ∧ r = some (0, (t : Int))) ∨ (∀ t, t < nt → AB t p = false) ∧ r = some (0, -1)) ∧ σ' = σ) := by
  intro d
  induction d with
  | zero =>
    intro n hn hf
    have hnn : n = nt := by omega
    subst hnn
    refine TT.steps (cd := cd124) 3 (c' := (5, [(2, 198), (0, ((p : Nat) : Int)), (0, ((n : Nat) : Int))], [(2, (σ 198 11)), (0, ((n : Nat) : Int))], σ)) rfl rfl ?_
    refine TT.top0 (z := 170) hli ?_
    refine TT.steps (cd := cd124) 1 (c' := (6, [(2, 198), (0, ((p : Nat) : Int)), (0, ((n : Nat) : Int))], [(0, (σ 170 2)), (0, ((n : Nat) : Int))], σ)) rfl rfl ?_
    refine TT.top0 (z := ((n : Nat) : Int)) hnt ?_
    refine TT.steps (cd := cd124) 1 (c' := ((if decide (((n : Nat) : Int) ≤ ((n : Nat) : Int)) = true then 19 else 7), [(2, 198), (0, ((p : Nat) : Int)), (0, ((n : Nat) : Int))], [], σ)) rfl rfl ?_
    refine TT.br (p := ((n : Nat) : Int) ≤ ((n : Nat) : Int)) (fun h1 => ?_) (fun h1 => absurd (show ((n : Nat) : Int) ≤ ((n : Nat) : Int) by omega) h1)
    refine TT.steps (cd := cd124) 1 (c' := (20, [(2, 198), (0, ((p : Nat) : Int)), (0, ((n : Nat) : Int))], [(0, -1)], σ)) rfl rfl ?_
    exact TT.ret (cd := cd124) rfl rfl rfl rfl (⟨Or.inr ⟨hf, rfl⟩, rfl⟩)
  | succ d ih =>
    intro n hn hf
    refine TT.steps (cd := cd124) 3 (c' := (5, [(2, 198), (0, ((p : Nat) : Int)), (0, ((n : Nat) : Int))], [(2, (σ 198 11)), (0, ((n : Nat) : Int))], σ)) rfl rfl ?_
    refine TT.top0 (z := 170) hli ?_
    refine TT.steps (cd := cd124) 1 (c' := (6, [(2, 198), (0, ((p : Nat) : Int)), (0, ((n : Nat) : Int))], [(0, (σ 170 2)), (0, ((n : Nat) : Int))], σ)) rfl rfl ?_
    refine TT.top0 (z := ((nt : Nat) : Int)) hnt ?_
    refine TT.steps (cd := cd124) 1 (c' := ((if decide (((nt : Nat) : Int) ≤ ((n : Nat) : Int)) = true then 19 else 7), [(2, 198), (0, ((p : Nat) : Int)), (0, ((n : Nat) : Int))], [], σ)) rfl rfl ?_
    refine TT.br (p := ((nt : Nat) : Int) ≤ ((n : Nat) : Int)) (fun h1 => absurd h1 (show ¬ (((nt : Nat) : Int) ≤ ((n : Nat) : Int)) by omega)) (fun h1 => ?_)
    refine TT.steps (cd := cd124) 3 (c' := (10, [(2, 198), (0, ((p : Nat) : Int)), (0, ((n : Nat) : Int))], [(0, ((n : Nat) : Int)), (2, 253)], σ)) rfl rfl ?_
    refine TT.aldN (cd := cd124) (253) (n) rfl rfl rfl rfl (show n < 6 by omega) ?_
    refine TT.top0 (z := ((bs (AB n) np : Nat) : Int)) (hAB n (by omega)) ?_
    refine TT.steps (cd := cd124) 1 (c' := (12, [(2, 198), (0, ((p : Nat) : Int)), (0, ((n : Nat) : Int))], [(0, ((p : Nat) : Int)), (0, ((bs (AB n) np : Nat) : Int))], σ)) rfl rfl ?_
    refine TT.call (cd := cd124) rfl rfl rfl (by decide) rfl (u_bit X ((bs (AB n) np : Nat) : Int) ((p : Nat) : Int) σ) (fun r2 σ2 hq => ?_)
    rw [hq.1, hq.2, bs_bitI (AB n) (by omega) (by omega)]
    refine TT.steps (cd := cd124) 2 (c' := ((if decide (¬ ((if (AB n) p = true then 1 else 0) : Int) = 1) = true then 17 else 15), [(2, 198), (0, ((p : Nat) : Int)), (0, ((n : Nat) : Int))], [], σ)) rfl rfl ?_
    refine TT.br (p := ¬ ((if (AB n) p = true then 1 else 0) : Int) = 1) (fun h3 => ?_) (fun h3 => ?_)
    · replace h3 := ite1_f h3
      refine TT.inc (cd := cd124) ((n + 1 : Nat) : Int) rfl rfl rfl rfl (fun h => absurd h.2 (show ¬ (0 = 1) by decide)) (aAdd_n (a := n) (b := 1) (by omega)) (ls' := [(2, 198), (0, ((p : Nat) : Int)), (0, ((n + 1 : Nat) : Int))]) rfl ?_
      refine TT.steps (cd := cd124) 1 (c' := (2, [(2, 198), (0, ((p : Nat) : Int)), (0, ((n + 1 : Nat) : Int))], [], σ)) rfl rfl ?_
      refine ih (n + 1) (by omega) (fun t ht => ?_)
      by_cases e : t = n
      · subst e; exact Bool.not_eq_true _ ▸ (by assumption)
      · exact hf t (by omega)
    · replace h3 := ite1_t (Decidable.not_not.mp h3)
      refine TT.steps (cd := cd124) 1 (c' := (16, [(2, 198), (0, ((p : Nat) : Int)), (0, ((n : Nat) : Int))], [(0, ((n : Nat) : Int))], σ)) rfl rfl ?_
      exact TT.ret (cd := cd124) rfl rfl rfl rfl (⟨Or.inl ⟨n, by omega, by assumption, rfl⟩, rfl⟩)
theorem u_trainOf_170 (X : AX) (nt np p : Nat) (AB : Nat → Nat → Bool) (σ : AH) (hli : σ 198 11 = 170) (hnt : σ 170 2 = (nt : Int)) (hnt2 : nt ≤ 6) (hnp2 : np ≤ 10) (hp : p < np) (hAB : ∀ t, t < nt → σ 253 t = ((bs (AB t) np : Nat) : Int))  : TT X 124 (0, [(2, 198), (0, ((p : Nat) : Int)), (9, 0)], [], σ) (fun r σ' => ((∃ t : Nat, t < nt ∧ AB t p = true ∧ r = some (0, (t : Int))) ∨ (∀ t, t < nt → AB t p = false) ∧ r = some (0, -1)) ∧ σ' = σ) := by
  refine TT.steps (cd := cd124) 2 (c' := (2, [(2, 198), (0, ((p : Nat) : Int)), (0, 0)], [], σ)) rfl rfl ?_
  exact ul_trainOf_170 X nt np p AB σ hli hnt hnt2 hnp2 hp hAB nt 0 (by omega) (fun t ht => by omega)
theorem u_servesAll (X : AX) (σ : AH)  : TT X 128 (0, [(2, 198)], [], σ) (fun r σ' => r = some (0, if σ 198 16 = σ 198 17 then 1 else 0) ∧ σ' = σ) := by
  refine TT.steps (cd := cd128) 5 (c' := ((if decide (¬ (σ 198 16) = (σ 198 17)) = true then 7 else 5), [(2, 198)], [], σ)) rfl rfl ?_
  refine TT.br (p := ¬ (σ 198 16) = (σ 198 17)) (fun h1 => ?_) (fun h1 => ?_)
  · refine TT.steps (cd := cd128) 1 (c' := (8, [(2, 198)], [(0, 0)], σ)) rfl rfl ?_
    exact TT.ret (cd := cd128) rfl rfl rfl rfl (⟨by simp [*], rfl⟩)
  · refine TT.steps (cd := cd128) 2 (c' := (8, [(2, 198)], [(0, 1)], σ)) rfl rfl ?_
    exact TT.ret (cd := cd128) rfl rfl rfl rfl (⟨by simp [*], rfl⟩)
theorem ul_countStops (X : AX) (Q : Option AV → AH → Prop) (nt : Nat) (ST : Nat → Nat → Bool) (σ : AH) (hnt2 : nt ≤ 6) (hST : ∀ t, t < nt → σ 245 t = ((bs (ST t) 8 : Nat) : Int))  (kk : TT X 142 (17, [(2, 216), (0, ((nt : Nat) : Int)), (0, (sumA (fun t => ((cnt (ST t) 8 : Nat) : Int)) nt)), (0, ((nt : Nat) : Int))], [], σ) Q) : ∀ (d n : Nat), n + d = nt → TT X 142 (4, [(2, 216), (0, ((nt : Nat) : Int)), (0, (sumA (fun t => ((cnt (ST t) 8 : Nat) : Int)) n)), (0, ((n : Nat) : Int))], [], σ) Q := by
  intro d
  induction d with
  | zero =>
    intro n hn
    have hnn : n = nt := by omega
    rw [hnn]
    refine TT.steps (cd := cd142) 3 (c' := ((if decide (((nt : Nat) : Int) ≤ ((nt : Nat) : Int)) = true then 17 else 7), [(2, 216), (0, ((nt : Nat) : Int)), (0, (sumA (fun t => ((cnt (ST t) 8 : Nat) : Int)) nt)), (0, ((nt : Nat) : Int))], [], σ)) rfl rfl ?_
    refine TT.br (p := ((nt : Nat) : Int) ≤ ((nt : Nat) : Int)) (fun h1 => ?_) (fun h1 => absurd (show ((nt : Nat) : Int) ≤ ((nt : Nat) : Int) by omega) h1)
    exact kk
  | succ d ih =>
    intro n hn
    refine TT.steps (cd := cd142) 3 (c' := ((if decide (((nt : Nat) : Int) ≤ ((n : Nat) : Int)) = true then 17 else 7), [(2, 216), (0, ((nt : Nat) : Int)), (0, (sumA (fun t => ((cnt (ST t) 8 : Nat) : Int)) n)), (0, ((n : Nat) : Int))], [], σ)) rfl rfl ?_
    refine TT.br (p := ((nt : Nat) : Int) ≤ ((n : Nat) : Int)) (fun h1 => absurd h1 (show ¬ (((nt : Nat) : Int) ≤ ((n : Nat) : Int)) by omega)) (fun h1 => ?_)
    refine TT.steps (cd := cd142) 4 (c' := (11, [(2, 216), (0, ((nt : Nat) : Int)), (0, (sumA (fun t => ((cnt (ST t) 8 : Nat) : Int)) n)), (0, ((n : Nat) : Int))], [(0, ((n : Nat) : Int)), (2, 245), (0, (sumA (fun t => ((cnt (ST t) 8 : Nat) : Int)) n))], σ)) rfl rfl ?_
    refine TT.aldN (cd := cd142) (245) (n) rfl rfl rfl rfl (show n < 6 by omega) ?_
    refine TT.top0 (z := ((bs (ST n) 8 : Nat) : Int)) (hST n (by omega)) ?_
    refine TT.call (cd := cd142) rfl rfl rfl (by decide) rfl (u_bitCount X ((bs (ST n) 8 : Nat) : Int) σ) (fun r2 σ2 hq => ?_)
    rw [hq.1, hq.2, bs_count (ST n) (by omega)]
    refine TT.steps (cd := cd142) 1 (c' := (14, [(2, 216), (0, ((nt : Nat) : Int)), (0, (sumA (fun t => ((cnt (ST t) 8 : Nat) : Int)) n)), (0, ((n : Nat) : Int))], [(0, (aAdd (sumA (fun t => ((cnt (ST t) 8 : Nat) : Int)) n) (((cnt (ST n) 8) : Nat) : Int)))], σ)) rfl rfl ?_
    refine TT.steps (cd := cd142) 1 (c' := (15, [(2, 216), (0, ((nt : Nat) : Int)), (0, (aAdd (sumA (fun t => ((cnt (ST t) 8 : Nat) : Int)) n) (((cnt (ST n) 8) : Nat) : Int))), (0, ((n : Nat) : Int))], [], σ)) rfl rfl ?_
    refine TT.inc (cd := cd142) ((n + 1 : Nat) : Int) rfl rfl rfl rfl (fun h => absurd h.2 (show ¬ (0 = 1) by decide)) (aAdd_n (a := n) (b := 1) (by omega)) (ls' := [(2, 216), (0, ((nt : Nat) : Int)), (0, (aAdd (sumA (fun t => ((cnt (ST t) 8 : Nat) : Int)) n) (((cnt (ST n) 8) : Nat) : Int))), (0, ((n + 1 : Nat) : Int))]) rfl ?_
    refine TT.steps (cd := cd142) 1 (c' := (4, [(2, 216), (0, ((nt : Nat) : Int)), (0, (aAdd (sumA (fun t => ((cnt (ST t) 8 : Nat) : Int)) n) (((cnt (ST n) 8) : Nat) : Int))), (0, ((n + 1 : Nat) : Int))], [], σ)) rfl rfl ?_
    have e2 : (aAdd (sumA (fun t => ((cnt (ST t) 8 : Nat) : Int)) n) (((cnt (ST n) 8) : Nat) : Int)) = (sumA (fun t => ((cnt (ST t) 8 : Nat) : Int)) (n + 1)) := by rfl
    rw [e2]
    clear e2
    have e3 : ((n + 1 : Nat) : Int) = (((n + 1) : Nat) : Int) := by omega
    rw [e3]
    clear e3
    exact ih (n + 1) (by omega)
theorem u_countStops (X : AX) (nt : Nat) (ST : Nat → Nat → Bool) (σ : AH) (hnt2 : nt ≤ 6) (hST : ∀ t, t < nt → σ 245 t = ((bs (ST t) 8 : Nat) : Int))  : TT X 142 (0, [(2, 216), (0, ((nt : Nat) : Int)), (9, 0), (9, 0)], [], σ) (fun r σ' => r = some (0, sumA (fun t => ((cnt (ST t) 8 : Nat) : Int)) nt) ∧ σ' = σ) := by
  refine TT.steps (cd := cd142) 4 (c' := (4, [(2, 216), (0, ((nt : Nat) : Int)), (0, 0), (0, 0)], [], σ)) rfl rfl ?_
  refine ul_countStops X _ nt ST σ hnt2 hST ?_ nt 0 (by omega)
  refine TT.steps (cd := cd142) 1 (c' := (18, [(2, 216), (0, ((nt : Nat) : Int)), (0, (sumA (fun t => ((cnt (ST t) 8 : Nat) : Int)) nt)), (0, ((nt : Nat) : Int))], [(0, (sumA (fun t => ((cnt (ST t) 8 : Nat) : Int)) nt))], σ)) rfl rfl ?_
  exact TT.ret (cd := cd142) rfl rfl rfl rfl (⟨rfl, rfl⟩)
theorem ul_countBetween (X : AX) (Q : Option AV → AH → Prop) (nt : Nat) (ST : Nat → Nat → Bool) (σ : AH) (hnt2 : nt ≤ 6) (hST : ∀ t, t < nt → σ 246 t = ((bs (ST t) 8 : Nat) : Int))  (kk : TT X 143 (17, [(2, 216), (0, ((nt : Nat) : Int)), (0, (sumA (fun t => ((cnt (ST t) 8 : Nat) : Int)) nt)), (0, ((nt : Nat) : Int))], [], σ) Q) : ∀ (d n : Nat), n + d = nt → TT X 143 (4, [(2, 216), (0, ((nt : Nat) : Int)), (0, (sumA (fun t => ((cnt (ST t) 8 : Nat) : Int)) n)), (0, ((n : Nat) : Int))], [], σ) Q := by
  intro d
  induction d with
  | zero =>
    intro n hn
    have hnn : n = nt := by omega
    rw [hnn]
    refine TT.steps (cd := cd143) 3 (c' := ((if decide (((nt : Nat) : Int) ≤ ((nt : Nat) : Int)) = true then 17 else 7), [(2, 216), (0, ((nt : Nat) : Int)), (0, (sumA (fun t => ((cnt (ST t) 8 : Nat) : Int)) nt)), (0, ((nt : Nat) : Int))], [], σ)) rfl rfl ?_
    refine TT.br (p := ((nt : Nat) : Int) ≤ ((nt : Nat) : Int)) (fun h1 => ?_) (fun h1 => absurd (show ((nt : Nat) : Int) ≤ ((nt : Nat) : Int) by omega) h1)
    exact kk
  | succ d ih =>
    intro n hn
    refine TT.steps (cd := cd143) 3 (c' := ((if decide (((nt : Nat) : Int) ≤ ((n : Nat) : Int)) = true then 17 else 7), [(2, 216), (0, ((nt : Nat) : Int)), (0, (sumA (fun t => ((cnt (ST t) 8 : Nat) : Int)) n)), (0, ((n : Nat) : Int))], [], σ)) rfl rfl ?_
    refine TT.br (p := ((nt : Nat) : Int) ≤ ((n : Nat) : Int)) (fun h1 => absurd h1 (show ¬ (((nt : Nat) : Int) ≤ ((n : Nat) : Int)) by omega)) (fun h1 => ?_)
    refine TT.steps (cd := cd143) 4 (c' := (11, [(2, 216), (0, ((nt : Nat) : Int)), (0, (sumA (fun t => ((cnt (ST t) 8 : Nat) : Int)) n)), (0, ((n : Nat) : Int))], [(0, ((n : Nat) : Int)), (2, 246), (0, (sumA (fun t => ((cnt (ST t) 8 : Nat) : Int)) n))], σ)) rfl rfl ?_
    refine TT.aldN (cd := cd143) (246) (n) rfl rfl rfl rfl (show n < 6 by omega) ?_
    refine TT.top0 (z := ((bs (ST n) 8 : Nat) : Int)) (hST n (by omega)) ?_
    refine TT.call (cd := cd143) rfl rfl rfl (by decide) rfl (u_bitCount X ((bs (ST n) 8 : Nat) : Int) σ) (fun r2 σ2 hq => ?_)
    rw [hq.1, hq.2, bs_count (ST n) (by omega)]
    refine TT.steps (cd := cd143) 1 (c' := (14, [(2, 216), (0, ((nt : Nat) : Int)), (0, (sumA (fun t => ((cnt (ST t) 8 : Nat) : Int)) n)), (0, ((n : Nat) : Int))], [(0, (aAdd (sumA (fun t => ((cnt (ST t) 8 : Nat) : Int)) n) (((cnt (ST n) 8) : Nat) : Int)))], σ)) rfl rfl ?_
    refine TT.steps (cd := cd143) 1 (c' := (15, [(2, 216), (0, ((nt : Nat) : Int)), (0, (aAdd (sumA (fun t => ((cnt (ST t) 8 : Nat) : Int)) n) (((cnt (ST n) 8) : Nat) : Int))), (0, ((n : Nat) : Int))], [], σ)) rfl rfl ?_
    refine TT.inc (cd := cd143) ((n + 1 : Nat) : Int) rfl rfl rfl rfl (fun h => absurd h.2 (show ¬ (0 = 1) by decide)) (aAdd_n (a := n) (b := 1) (by omega)) (ls' := [(2, 216), (0, ((nt : Nat) : Int)), (0, (aAdd (sumA (fun t => ((cnt (ST t) 8 : Nat) : Int)) n) (((cnt (ST n) 8) : Nat) : Int))), (0, ((n + 1 : Nat) : Int))]) rfl ?_
    refine TT.steps (cd := cd143) 1 (c' := (4, [(2, 216), (0, ((nt : Nat) : Int)), (0, (aAdd (sumA (fun t => ((cnt (ST t) 8 : Nat) : Int)) n) (((cnt (ST n) 8) : Nat) : Int))), (0, ((n + 1 : Nat) : Int))], [], σ)) rfl rfl ?_
    have e2 : (aAdd (sumA (fun t => ((cnt (ST t) 8 : Nat) : Int)) n) (((cnt (ST n) 8) : Nat) : Int)) = (sumA (fun t => ((cnt (ST t) 8 : Nat) : Int)) (n + 1)) := by rfl
    rw [e2]
    clear e2
    have e3 : ((n + 1 : Nat) : Int) = (((n + 1) : Nat) : Int) := by omega
    rw [e3]
    clear e3
    exact ih (n + 1) (by omega)
theorem u_countBetween (X : AX) (nt : Nat) (ST : Nat → Nat → Bool) (σ : AH) (hnt2 : nt ≤ 6) (hST : ∀ t, t < nt → σ 246 t = ((bs (ST t) 8 : Nat) : Int))  : TT X 143 (0, [(2, 216), (0, ((nt : Nat) : Int)), (9, 0), (9, 0)], [], σ) (fun r σ' => r = some (0, sumA (fun t => ((cnt (ST t) 8 : Nat) : Int)) nt) ∧ σ' = σ) := by
  refine TT.steps (cd := cd143) 4 (c' := (4, [(2, 216), (0, ((nt : Nat) : Int)), (0, 0), (0, 0)], [], σ)) rfl rfl ?_
  refine ul_countBetween X _ nt ST σ hnt2 hST ?_ nt 0 (by omega)
  refine TT.steps (cd := cd143) 1 (c' := (18, [(2, 216), (0, ((nt : Nat) : Int)), (0, (sumA (fun t => ((cnt (ST t) 8 : Nat) : Int)) nt)), (0, ((nt : Nat) : Int))], [(0, (sumA (fun t => ((cnt (ST t) 8 : Nat) : Int)) nt))], σ)) rfl rfl ?_
  exact TT.ret (cd := cd143) rfl rfl rfl rfl (⟨rfl, rfl⟩)
theorem ul_lastMinute_8 (X : AX) (Q : Option AV → AH → Prop) (nt : Nat) (L : Nat → Nat) (σ : AH) (hnt : σ 8 2 = (nt : Int)) (hnt2 : nt ≤ 6) (hL : ∀ t, t < nt → σ 15 t = (L t : Int) ∧ 1 ≤ L t ∧ L t ≤ 8)  (kk : TT X 144 (24, [(2, 216), (2, 8), (0, (maxA (fun t => σ (218 + t) (L t - 1)) nt)), (0, ((nt : Nat) : Int))], [], σ) Q) : ∀ (d n : Nat), n + d = nt → TT X 144 (4, [(2, 216), (2, 8), (0, (maxA (fun t => σ (218 + t) (L t - 1)) n)), (0, ((n : Nat) : Int))], [], σ) Q := by
  intro d
  induction d with
  | zero =>
    intro n hn
    have hnn : n = nt := by omega
    rw [hnn]
    refine TT.steps (cd := cd144) 3 (c' := (7, [(2, 216), (2, 8), (0, (maxA (fun t => σ (218 + t) (L t - 1)) nt)), (0, ((nt : Nat) : Int))], [(0, (σ 8 2)), (0, ((nt : Nat) : Int))], σ)) rfl rfl ?_
    refine TT.top0 (z := ((nt : Nat) : Int)) hnt ?_
    refine TT.steps (cd := cd144) 1 (c' := ((if decide (((nt : Nat) : Int) ≤ ((nt : Nat) : Int)) = true then 24 else 8), [(2, 216), (2, 8), (0, (maxA (fun t => σ (218 + t) (L t - 1)) nt)), (0, ((nt : Nat) : Int))], [], σ)) rfl rfl ?_
    refine TT.br (p := ((nt : Nat) : Int) ≤ ((nt : Nat) : Int)) (fun h1 => ?_) (fun h1 => absurd (show ((nt : Nat) : Int) ≤ ((nt : Nat) : Int) by omega) h1)
    exact kk
  | succ d ih =>
    intro n hn
    have hLn := hL n (by omega)
    refine TT.steps (cd := cd144) 3 (c' := (7, [(2, 216), (2, 8), (0, (maxA (fun t => σ (218 + t) (L t - 1)) n)), (0, ((n : Nat) : Int))], [(0, (σ 8 2)), (0, ((n : Nat) : Int))], σ)) rfl rfl ?_
    refine TT.top0 (z := ((nt : Nat) : Int)) hnt ?_
    refine TT.steps (cd := cd144) 1 (c' := ((if decide (((nt : Nat) : Int) ≤ ((n : Nat) : Int)) = true then 24 else 8), [(2, 216), (2, 8), (0, (maxA (fun t => σ (218 + t) (L t - 1)) n)), (0, ((n : Nat) : Int))], [], σ)) rfl rfl ?_
    refine TT.br (p := ((nt : Nat) : Int) ≤ ((n : Nat) : Int)) (fun h1 => absurd h1 (show ¬ (((nt : Nat) : Int) ≤ ((n : Nat) : Int)) by omega)) (fun h1 => ?_)
    refine TT.steps (cd := cd144) 4 (c' := (12, [(2, 216), (2, 8), (0, (maxA (fun t => σ (218 + t) (L t - 1)) n)), (0, ((n : Nat) : Int))], [(0, ((n : Nat) : Int)), (2, 217), (0, (maxA (fun t => σ (218 + t) (L t - 1)) n))], σ)) rfl rfl ?_
    refine TT.aaldN (cd := cd144) 217 (n) (218 + n) rfl rfl rfl (Or.inr rfl) (show n < 6 by omega) (fxg_217 n (by omega)) ?_
    refine TT.steps (cd := cd144) 3 (c' := (16, [(2, 216), (2, 8), (0, (maxA (fun t => σ (218 + t) (L t - 1)) n)), (0, ((n : Nat) : Int))], [(0, ((n : Nat) : Int)), (2, 15), (2, ((218 + n : Nat) : Int)), (0, (maxA (fun t => σ (218 + t) (L t - 1)) n))], σ)) rfl rfl ?_
    refine TT.aldN (cd := cd144) (15) (n) rfl rfl rfl rfl (show n < 6 by omega) ?_
    refine TT.top0 (z := (((L n) : Nat) : Int)) (hL n (by omega)).1 ?_
    refine TT.steps (cd := cd144) 2 (c' := (19, [(2, 216), (2, 8), (0, (maxA (fun t => σ (218 + t) (L t - 1)) n)), (0, ((n : Nat) : Int))], [(0, (aSub (((L n) : Nat) : Int) 1)), (2, ((218 + n : Nat) : Int)), (0, (maxA (fun t => σ (218 + t) (L t - 1)) n))], σ)) rfl rfl ?_
    refine TT.top0 (z := ((((L n)) - 1 : Nat) : Int)) (aSub_n (a := (L n)) (b := 1) (by omega) (by omega)) ?_
    refine TT.aldN (cd := cd144) (218 + n) (((L n)) - 1) rfl rfl rfl (kdg_217 n (by omega)).1 (show ((L n)) - 1 < ln (218 + n) by rw [(kdg_217 n (by omega)).2]; omega) ?_
    refine TT.steps (cd := cd144) 1 (c' := (21, [(2, 216), (2, 8), (0, (maxA (fun t => σ (218 + t) (L t - 1)) n)), (0, ((n : Nat) : Int))], [(0, (aMax (maxA (fun t => σ (218 + t) (L t - 1)) n) (σ (218 + n) (((L n)) - 1))))], σ)) rfl rfl ?_
    refine TT.steps (cd := cd144) 1 (c' := (22, [(2, 216), (2, 8), (0, (aMax (maxA (fun t => σ (218 + t) (L t - 1)) n) (σ (218 + n) (((L n)) - 1)))), (0, ((n : Nat) : Int))], [], σ)) rfl rfl ?_
    refine TT.inc (cd := cd144) ((n + 1 : Nat) : Int) rfl rfl rfl rfl (fun h => absurd h.2 (show ¬ (0 = 1) by decide)) (aAdd_n (a := n) (b := 1) (by omega)) (ls' := [(2, 216), (2, 8), (0, (aMax (maxA (fun t => σ (218 + t) (L t - 1)) n) (σ (218 + n) (((L n)) - 1)))), (0, ((n + 1 : Nat) : Int))]) rfl ?_
    refine TT.steps (cd := cd144) 1 (c' := (4, [(2, 216), (2, 8), (0, (aMax (maxA (fun t => σ (218 + t) (L t - 1)) n) (σ (218 + n) (((L n)) - 1)))), (0, ((n + 1 : Nat) : Int))], [], σ)) rfl rfl ?_
    have e2 : (aMax (maxA (fun t => σ (218 + t) (L t - 1)) n) (σ (218 + n) (((L n)) - 1))) = (maxA (fun t => σ (218 + t) (L t - 1)) (n + 1)) := by rfl
    rw [e2]
    clear e2
    have e3 : ((n + 1 : Nat) : Int) = (((n + 1) : Nat) : Int) := by omega
    rw [e3]
    clear e3
    exact ih (n + 1) (by omega)
theorem u_lastMinute_8 (X : AX) (nt : Nat) (L : Nat → Nat) (σ : AH) (hnt : σ 8 2 = (nt : Int)) (hnt2 : nt ≤ 6) (hL : ∀ t, t < nt → σ 15 t = (L t : Int) ∧ 1 ≤ L t ∧ L t ≤ 8)  : TT X 144 (0, [(2, 216), (2, 8), (9, 0), (9, 0)], [], σ) (fun r σ' => r = some (0, maxA (fun t => σ (218 + t) (L t - 1)) nt) ∧ σ' = σ) := by
  refine TT.steps (cd := cd144) 4 (c' := (4, [(2, 216), (2, 8), (0, -1), (0, 0)], [], σ)) rfl rfl ?_
  refine ul_lastMinute_8 X _ nt L σ hnt hnt2 hL ?_ nt 0 (by omega)
  refine TT.steps (cd := cd144) 1 (c' := (25, [(2, 216), (2, 8), (0, (maxA (fun t => σ (218 + t) (L t - 1)) nt)), (0, ((nt : Nat) : Int))], [(0, (maxA (fun t => σ (218 + t) (L t - 1)) nt))], σ)) rfl rfl ?_
  exact TT.ret (cd := cd144) rfl rfl rfl rfl (⟨rfl, rfl⟩)
theorem ul_lastMinute_170 (X : AX) (Q : Option AV → AH → Prop) (nt : Nat) (L : Nat → Nat) (σ : AH) (hnt : σ 170 2 = (nt : Int)) (hnt2 : nt ≤ 6) (hL : ∀ t, t < nt → σ 177 t = (L t : Int) ∧ 1 ≤ L t ∧ L t ≤ 8)  (kk : TT X 144 (24, [(2, 216), (2, 170), (0, (maxA (fun t => σ (218 + t) (L t - 1)) nt)), (0, ((nt : Nat) : Int))], [], σ) Q) : ∀ (d n : Nat), n + d = nt → TT X 144 (4, [(2, 216), (2, 170), (0, (maxA (fun t => σ (218 + t) (L t - 1)) n)), (0, ((n : Nat) : Int))], [], σ) Q := by
  intro d
  induction d with
  | zero =>
    intro n hn
    have hnn : n = nt := by omega
    rw [hnn]
    refine TT.steps (cd := cd144) 3 (c' := (7, [(2, 216), (2, 170), (0, (maxA (fun t => σ (218 + t) (L t - 1)) nt)), (0, ((nt : Nat) : Int))], [(0, (σ 170 2)), (0, ((nt : Nat) : Int))], σ)) rfl rfl ?_
    refine TT.top0 (z := ((nt : Nat) : Int)) hnt ?_
    refine TT.steps (cd := cd144) 1 (c' := ((if decide (((nt : Nat) : Int) ≤ ((nt : Nat) : Int)) = true then 24 else 8), [(2, 216), (2, 170), (0, (maxA (fun t => σ (218 + t) (L t - 1)) nt)), (0, ((nt : Nat) : Int))], [], σ)) rfl rfl ?_
    refine TT.br (p := ((nt : Nat) : Int) ≤ ((nt : Nat) : Int)) (fun h1 => ?_) (fun h1 => absurd (show ((nt : Nat) : Int) ≤ ((nt : Nat) : Int) by omega) h1)
    exact kk
  | succ d ih =>
    intro n hn
    have hLn := hL n (by omega)
    refine TT.steps (cd := cd144) 3 (c' := (7, [(2, 216), (2, 170), (0, (maxA (fun t => σ (218 + t) (L t - 1)) n)), (0, ((n : Nat) : Int))], [(0, (σ 170 2)), (0, ((n : Nat) : Int))], σ)) rfl rfl ?_
    refine TT.top0 (z := ((nt : Nat) : Int)) hnt ?_
    refine TT.steps (cd := cd144) 1 (c' := ((if decide (((nt : Nat) : Int) ≤ ((n : Nat) : Int)) = true then 24 else 8), [(2, 216), (2, 170), (0, (maxA (fun t => σ (218 + t) (L t - 1)) n)), (0, ((n : Nat) : Int))], [], σ)) rfl rfl ?_
    refine TT.br (p := ((nt : Nat) : Int) ≤ ((n : Nat) : Int)) (fun h1 => absurd h1 (show ¬ (((nt : Nat) : Int) ≤ ((n : Nat) : Int)) by omega)) (fun h1 => ?_)
    refine TT.steps (cd := cd144) 4 (c' := (12, [(2, 216), (2, 170), (0, (maxA (fun t => σ (218 + t) (L t - 1)) n)), (0, ((n : Nat) : Int))], [(0, ((n : Nat) : Int)), (2, 217), (0, (maxA (fun t => σ (218 + t) (L t - 1)) n))], σ)) rfl rfl ?_
    refine TT.aaldN (cd := cd144) 217 (n) (218 + n) rfl rfl rfl (Or.inr rfl) (show n < 6 by omega) (fxg_217 n (by omega)) ?_
    refine TT.steps (cd := cd144) 3 (c' := (16, [(2, 216), (2, 170), (0, (maxA (fun t => σ (218 + t) (L t - 1)) n)), (0, ((n : Nat) : Int))], [(0, ((n : Nat) : Int)), (2, 177), (2, ((218 + n : Nat) : Int)), (0, (maxA (fun t => σ (218 + t) (L t - 1)) n))], σ)) rfl rfl ?_
    refine TT.aldN (cd := cd144) (177) (n) rfl rfl rfl rfl (show n < 6 by omega) ?_
    refine TT.top0 (z := (((L n) : Nat) : Int)) (hL n (by omega)).1 ?_
    refine TT.steps (cd := cd144) 2 (c' := (19, [(2, 216), (2, 170), (0, (maxA (fun t => σ (218 + t) (L t - 1)) n)), (0, ((n : Nat) : Int))], [(0, (aSub (((L n) : Nat) : Int) 1)), (2, ((218 + n : Nat) : Int)), (0, (maxA (fun t => σ (218 + t) (L t - 1)) n))], σ)) rfl rfl ?_
    refine TT.top0 (z := ((((L n)) - 1 : Nat) : Int)) (aSub_n (a := (L n)) (b := 1) (by omega) (by omega)) ?_
    refine TT.aldN (cd := cd144) (218 + n) (((L n)) - 1) rfl rfl rfl (kdg_217 n (by omega)).1 (show ((L n)) - 1 < ln (218 + n) by rw [(kdg_217 n (by omega)).2]; omega) ?_
    refine TT.steps (cd := cd144) 1 (c' := (21, [(2, 216), (2, 170), (0, (maxA (fun t => σ (218 + t) (L t - 1)) n)), (0, ((n : Nat) : Int))], [(0, (aMax (maxA (fun t => σ (218 + t) (L t - 1)) n) (σ (218 + n) (((L n)) - 1))))], σ)) rfl rfl ?_
    refine TT.steps (cd := cd144) 1 (c' := (22, [(2, 216), (2, 170), (0, (aMax (maxA (fun t => σ (218 + t) (L t - 1)) n) (σ (218 + n) (((L n)) - 1)))), (0, ((n : Nat) : Int))], [], σ)) rfl rfl ?_
    refine TT.inc (cd := cd144) ((n + 1 : Nat) : Int) rfl rfl rfl rfl (fun h => absurd h.2 (show ¬ (0 = 1) by decide)) (aAdd_n (a := n) (b := 1) (by omega)) (ls' := [(2, 216), (2, 170), (0, (aMax (maxA (fun t => σ (218 + t) (L t - 1)) n) (σ (218 + n) (((L n)) - 1)))), (0, ((n + 1 : Nat) : Int))]) rfl ?_
    refine TT.steps (cd := cd144) 1 (c' := (4, [(2, 216), (2, 170), (0, (aMax (maxA (fun t => σ (218 + t) (L t - 1)) n) (σ (218 + n) (((L n)) - 1)))), (0, ((n + 1 : Nat) : Int))], [], σ)) rfl rfl ?_
    have e2 : (aMax (maxA (fun t => σ (218 + t) (L t - 1)) n) (σ (218 + n) (((L n)) - 1))) = (maxA (fun t => σ (218 + t) (L t - 1)) (n + 1)) := by rfl
    rw [e2]
    clear e2
    have e3 : ((n + 1 : Nat) : Int) = (((n + 1) : Nat) : Int) := by omega
    rw [e3]
    clear e3
    exact ih (n + 1) (by omega)
theorem u_lastMinute_170 (X : AX) (nt : Nat) (L : Nat → Nat) (σ : AH) (hnt : σ 170 2 = (nt : Int)) (hnt2 : nt ≤ 6) (hL : ∀ t, t < nt → σ 177 t = (L t : Int) ∧ 1 ≤ L t ∧ L t ≤ 8)  : TT X 144 (0, [(2, 216), (2, 170), (9, 0), (9, 0)], [], σ) (fun r σ' => r = some (0, maxA (fun t => σ (218 + t) (L t - 1)) nt) ∧ σ' = σ) := by
  refine TT.steps (cd := cd144) 4 (c' := (4, [(2, 216), (2, 170), (0, -1), (0, 0)], [], σ)) rfl rfl ?_
  refine ul_lastMinute_170 X _ nt L σ hnt hnt2 hL ?_ nt 0 (by omega)
  refine TT.steps (cd := cd144) 1 (c' := (25, [(2, 216), (2, 170), (0, (maxA (fun t => σ (218 + t) (L t - 1)) nt)), (0, ((nt : Nat) : Int))], [(0, (maxA (fun t => σ (218 + t) (L t - 1)) nt))], σ)) rfl rfl ?_
  exact TT.ret (cd := cd144) rfl rfl rfl rfl (⟨rfl, rfl⟩)
