theorem fxg_16 : ∀ t, t < 6 → fx 16 t = 17 + t + 1 := by decide
theorem kdg_16 : ∀ t, t < 6 → kd (17 + t) = 20 ∧ ln (17 + t) = 8 := by decide
theorem fxg_23 : ∀ t, t < 6 → fx 23 t = 24 + t + 1 := by decide
theorem kdg_23 : ∀ t, t < 6 → kd (24 + t) = 20 ∧ ln (24 + t) = 8 := by decide
theorem fxg_178 : ∀ t, t < 6 → fx 178 t = 179 + t + 1 := by decide
theorem kdg_178 : ∀ t, t < 6 → kd (179 + t) = 20 ∧ ln (179 + t) = 8 := by decide
theorem fxg_185 : ∀ t, t < 6 → fx 185 t = 186 + t + 1 := by decide
theorem kdg_185 : ∀ t, t < 6 → kd (186 + t) = 20 ∧ ln (186 + t) = 8 := by decide
theorem fxg_202 : ∀ t, t < 6 → fx 202 t = 203 + t + 1 := by decide
theorem kdg_202 : ∀ t, t < 6 → kd (203 + t) = 20 ∧ ln (203 + t) = 8 := by decide
theorem fxg_209 : ∀ t, t < 6 → fx 209 t = 210 + t + 1 := by decide
theorem kdg_209 : ∀ t, t < 6 → kd (210 + t) = 20 ∧ ln (210 + t) = 8 := by decide
theorem fxg_217 : ∀ t, t < 6 → fx 217 t = 218 + t + 1 := by decide
theorem kdg_217 : ∀ t, t < 6 → kd (218 + t) = 20 ∧ ln (218 + t) = 8 := by decide
theorem fxg_224 : ∀ t, t < 6 → fx 224 t = 225 + t + 1 := by decide
theorem kdg_224 : ∀ t, t < 6 → kd (225 + t) = 20 ∧ ln (225 + t) = 8 := by decide
theorem fxg_231 : ∀ t, t < 6 → fx 231 t = 232 + t + 1 := by decide
theorem kdg_231 : ∀ t, t < 6 → kd (232 + t) = 20 ∧ ln (232 + t) = 8 := by decide
theorem fxg_238 : ∀ t, t < 6 → fx 238 t = 239 + t + 1 := by decide
theorem kdg_238 : ∀ t, t < 6 → kd (239 + t) = 20 ∧ ln (239 + t) = 8 := by decide
theorem u_bit (X : AX) (x k : Int) (σ : AH) : TT X 221 (0, [(0, x), (0, k)], [], σ) (fun r σ' => r = some (0, aAnd (aShr x k) 1) ∧ σ' = σ) := by
  refine TT.steps (cd := cd221) 5 (c' := (5, [(0, x), (0, k)], [(0, (aAnd (aShr x k) 1))], σ)) rfl rfl ?_
  exact TT.ret (cd := cd221) rfl rfl rfl rfl (⟨rfl, rfl⟩)
theorem u_bitCount (X : AX) (x : Int) (σ : AH) : TT X 111 (0, [(0, x)], [], σ) (fun r σ' => r = some (0, aBC x) ∧ σ' = σ) := by
  refine TT.steps (cd := cd111) 7 (c' := (7, [(0, x)], [(0, (aSub x (aAnd (aUsh x 1) 1431655765)))], σ)) rfl rfl ?_
  refine TT.steps (cd := cd111) 10 (c' := (17, [(0, (aSub x (aAnd (aUsh x 1) 1431655765)))], [(0, (aAdd (aAnd (aSub x (aAnd (aUsh x 1) 1431655765)) 858993459) (aAnd (aUsh (aSub x (aAnd (aUsh x 1) 1431655765)) 2) 858993459)))], σ)) rfl rfl ?_
  refine TT.steps (cd := cd111) 6 (c' := (23, [(0, (aAdd (aAnd (aSub x (aAnd (aUsh x 1) 1431655765)) 858993459) (aAnd (aUsh (aSub x (aAnd (aUsh x 1) 1431655765)) 2) 858993459)))], [(0, (aAdd (aAdd (aAnd (aSub x (aAnd (aUsh x 1) 1431655765)) 858993459) (aAnd (aUsh (aSub x (aAnd (aUsh x 1) 1431655765)) 2) 858993459)) (aUsh (aAdd (aAnd (aSub x (aAnd (aUsh x 1) 1431655765)) 858993459) (aAnd (aUsh (aSub x (aAnd (aUsh x 1) 1431655765)) 2) 858993459)) 4)))], σ)) rfl rfl ?_
  refine TT.steps (cd := cd111) 8 (c' := (31, [(0, (aAnd (aAdd (aAdd (aAnd (aSub x (aAnd (aUsh x 1) 1431655765)) 858993459) (aAnd (aUsh (aSub x (aAnd (aUsh x 1) 1431655765)) 2) 858993459)) (aUsh (aAdd (aAnd (aSub x (aAnd (aUsh x 1) 1431655765)) 858993459) (aAnd (aUsh (aSub x (aAnd (aUsh x 1) 1431655765)) 2) 858993459)) 4)) 252645135))], [(0, (aAdd (aAnd (aAdd (aAdd (aAnd (aSub x (aAnd (aUsh x 1) 1431655765)) 858993459) (aAnd (aUsh (aSub x (aAnd (aUsh x 1) 1431655765)) 2) 858993459)) (aUsh (aAdd (aAnd (aSub x (aAnd (aUsh x 1) 1431655765)) 858993459) (aAnd (aUsh (aSub x (aAnd (aUsh x 1) 1431655765)) 2) 858993459)) 4)) 252645135) (aUsh (aAnd (aAdd (aAdd (aAnd (aSub x (aAnd (aUsh x 1) 1431655765)) 858993459) (aAnd (aUsh (aSub x (aAnd (aUsh x 1) 1431655765)) 2) 858993459)) (aUsh (aAdd (aAnd (aSub x (aAnd (aUsh x 1) 1431655765)) 858993459) (aAnd (aUsh (aSub x (aAnd (aUsh x 1) 1431655765)) 2) 858993459)) 4)) 252645135) 8)))], σ)) rfl rfl ?_
  refine TT.steps (cd := cd111) 6 (c' := (37, [(0, (aAdd (aAnd (aAdd (aAdd (aAnd (aSub x (aAnd (aUsh x 1) 1431655765)) 858993459) (aAnd (aUsh (aSub x (aAnd (aUsh x 1) 1431655765)) 2) 858993459)) (aUsh (aAdd (aAnd (aSub x (aAnd (aUsh x 1) 1431655765)) 858993459) (aAnd (aUsh (aSub x (aAnd (aUsh x 1) 1431655765)) 2) 858993459)) 4)) 252645135) (aUsh (aAnd (aAdd (aAdd (aAnd (aSub x (aAnd (aUsh x 1) 1431655765)) 858993459) (aAnd (aUsh (aSub x (aAnd (aUsh x 1) 1431655765)) 2) 858993459)) (aUsh (aAdd (aAnd (aSub x (aAnd (aUsh x 1) 1431655765)) 858993459) (aAnd (aUsh (aSub x (aAnd (aUsh x 1) 1431655765)) 2) 858993459)) 4)) 252645135) 8)))], [(0, (aAdd (aAdd (aAnd (aAdd (aAdd (aAnd (aSub x (aAnd (aUsh x 1) 1431655765)) 858993459) (aAnd (aUsh (aSub x (aAnd (aUsh x 1) 1431655765)) 2) 858993459)) (aUsh (aAdd (aAnd (aSub x (aAnd (aUsh x 1) 1431655765)) 858993459) (aAnd (aUsh (aSub x (aAnd (aUsh x 1) 1431655765)) 2) 858993459)) 4)) 252645135) (aUsh (aAnd (aAdd (aAdd (aAnd (aSub x (aAnd (aUsh x 1) 1431655765)) 858993459) (aAnd (aUsh (aSub x (aAnd (aUsh x 1) 1431655765)) 2) 858993459)) (aUsh (aAdd (aAnd (aSub x (aAnd (aUsh x 1) 1431655765)) 858993459) (aAnd (aUsh (aSub x (aAnd (aUsh x 1) 1431655765)) 2) 858993459)) 4)) 252645135) 8)) (aUsh (aAdd (aAnd (aAdd (aAdd (aAnd (aSub x (aAnd (aUsh x 1) 1431655765)) 858993459) (aAnd (aUsh (aSub x (aAnd (aUsh x 1) 1431655765)) 2) 858993459)) (aUsh (aAdd (aAnd (aSub x (aAnd (aUsh x 1) 1431655765)) 858993459) (aAnd (aUsh (aSub x (aAnd (aUsh x 1) 1431655765)) 2) 858993459)) 4)) 252645135) (aUsh (aAnd (aAdd (aAdd (aAnd (aSub x (aAnd (aUsh x 1) 1431655765)) 858993459) (aAnd (aUsh (aSub x (aAnd (aUsh x 1) 1431655765)) 2) 858993459)) (aUsh (aAdd (aAnd (aSub x (aAnd (aUsh x 1) 1431655765)) 858993459) (aAnd (aUsh (aSub x (aAnd (aUsh x 1) 1431655765)) 2) 858993459)) 4)) 252645135) 8)) 16)))], σ)) rfl rfl ?_
  refine TT.steps (cd := cd111) 4 (c' := (41, [(0, (aAdd (aAdd (aAnd (aAdd (aAdd (aAnd (aSub x (aAnd (aUsh x 1) 1431655765)) 858993459) (aAnd (aUsh (aSub x (aAnd (aUsh x 1) 1431655765)) 2) 858993459)) (aUsh (aAdd (aAnd (aSub x (aAnd (aUsh x 1) 1431655765)) 858993459) (aAnd (aUsh (aSub x (aAnd (aUsh x 1) 1431655765)) 2) 858993459)) 4)) 252645135) (aUsh (aAnd (aAdd (aAdd (aAnd (aSub x (aAnd (aUsh x 1) 1431655765)) 858993459) (aAnd (aUsh (aSub x (aAnd (aUsh x 1) 1431655765)) 2) 858993459)) (aUsh (aAdd (aAnd (aSub x (aAnd (aUsh x 1) 1431655765)) 858993459) (aAnd (aUsh (aSub x (aAnd (aUsh x 1) 1431655765)) 2) 858993459)) 4)) 252645135) 8)) (aUsh (aAdd (aAnd (aAdd (aAdd (aAnd (aSub x (aAnd (aUsh x 1) 1431655765)) 858993459) (aAnd (aUsh (aSub x (aAnd (aUsh x 1) 1431655765)) 2) 858993459)) (aUsh (aAdd (aAnd (aSub x (aAnd (aUsh x 1) 1431655765)) 858993459) (aAnd (aUsh (aSub x (aAnd (aUsh x 1) 1431655765)) 2) 858993459)) 4)) 252645135) (aUsh (aAnd (aAdd (aAdd (aAnd (aSub x (aAnd (aUsh x 1) 1431655765)) 858993459) (aAnd (aUsh (aSub x (aAnd (aUsh x 1) 1431655765)) 2) 858993459)) (aUsh (aAdd (aAnd (aSub x (aAnd (aUsh x 1) 1431655765)) 858993459) (aAnd (aUsh (aSub x (aAnd (aUsh x 1) 1431655765)) 2) 858993459)) 4)) 252645135) 8)) 16)))], [(0, (aAnd (aAdd (aAdd (aAnd (aAdd (aAdd (aAnd (aSub x (aAnd (aUsh x 1) 1431655765)) 858993459) (aAnd (aUsh (aSub x (aAnd (aUsh x 1) 1431655765)) 2) 858993459)) (aUsh (aAdd (aAnd (aSub x (aAnd (aUsh x 1) 1431655765)) 858993459) (aAnd (aUsh (aSub x (aAnd (aUsh x 1) 1431655765)) 2) 858993459)) 4)) 252645135) (aUsh (aAnd (aAdd (aAdd (aAnd (aSub x (aAnd (aUsh x 1) 1431655765)) 858993459) (aAnd (aUsh (aSub x (aAnd (aUsh x 1) 1431655765)) 2) 858993459)) (aUsh (aAdd (aAnd (aSub x (aAnd (aUsh x 1) 1431655765)) 858993459) (aAnd (aUsh (aSub x (aAnd (aUsh x 1) 1431655765)) 2) 858993459)) 4)) 252645135) 8)) (aUsh (aAdd (aAnd (aAdd (aAdd (aAnd (aSub x (aAnd (aUsh x 1) 1431655765)) 858993459) (aAnd (aUsh (aSub x (aAnd (aUsh x 1) 1431655765)) 2) 858993459)) (aUsh (aAdd (aAnd (aSub x (aAnd (aUsh x 1) 1431655765)) 858993459) (aAnd (aUsh (aSub x (aAnd (aUsh x 1) 1431655765)) 2) 858993459)) 4)) 252645135) (aUsh (aAnd (aAdd (aAdd (aAnd (aSub x (aAnd (aUsh x 1) 1431655765)) 858993459) (aAnd (aUsh (aSub x (aAnd (aUsh x 1) 1431655765)) 2) 858993459)) (aUsh (aAdd (aAnd (aSub x (aAnd (aUsh x 1) 1431655765)) 858993459) (aAnd (aUsh (aSub x (aAnd (aUsh x 1) 1431655765)) 2) 858993459)) 4)) 252645135) 8)) 16)) 63))], σ)) rfl rfl ?_
  exact TT.ret (cd := cd111) rfl rfl rfl rfl (⟨rfl, rfl⟩)
theorem ul_bornAtN (X : AX) (Q : Option AV → AH → Prop) (s : Int) (np : Nat) (σ : AH) (hc : σ 36 0 = (np : Int)) (hnp2 : np ≤ 10) (kk : TT X 161 (28, [(2, 36), (0, s), (0, ((bs (fun p => decide (σ 38 p = s ∧ σ 39 p = -1)) np : Nat) : Int)), (0, ((np : Nat) : Int))], [], σ) Q) : ∀ (d n : Nat), n + d = np → TT X 161 (4, [(2, 36), (0, s), (0, ((bs (fun p => decide (σ 38 p = s ∧ σ 39 p = -1)) n : Nat) : Int)), (0, ((n : Nat) : Int))], [], σ) Q := by
  intro d
  induction d with
  | zero =>
    intro n hn
    have hnn : n = np := by omega
    rw [hnn]
    refine TT.steps (cd := cd161) 3 (c' := (7, [(2, 36), (0, s), (0, ((bs (fun p => decide (σ 38 p = s ∧ σ 39 p = -1)) np : Nat) : Int)), (0, ((np : Nat) : Int))], [(0, (σ 36 0)), (0, ((np : Nat) : Int))], σ)) rfl rfl ?_
    refine TT.top0 (z := ((np : Nat) : Int)) hc ?_
    refine TT.steps (cd := cd161) 1 (c' := ((if decide (((np : Nat) : Int) ≤ ((np : Nat) : Int)) = true then 28 else 8), [(2, 36), (0, s), (0, ((bs (fun p => decide (σ 38 p = s ∧ σ 39 p = -1)) np : Nat) : Int)), (0, ((np : Nat) : Int))], [], σ)) rfl rfl ?_
    refine TT.br (p := ((np : Nat) : Int) ≤ ((np : Nat) : Int)) (fun h1 => ?_) (fun h1 => absurd (show ((np : Nat) : Int) ≤ ((np : Nat) : Int) by omega) h1)
    exact kk
  | succ d ih =>
    intro n hn
    refine TT.steps (cd := cd161) 3 (c' := (7, [(2, 36), (0, s), (0, ((bs (fun p => decide (σ 38 p = s ∧ σ 39 p = -1)) n : Nat) : Int)), (0, ((n : Nat) : Int))], [(0, (σ 36 0)), (0, ((n : Nat) : Int))], σ)) rfl rfl ?_
    refine TT.top0 (z := ((np : Nat) : Int)) hc ?_
    refine TT.steps (cd := cd161) 1 (c' := ((if decide (((np : Nat) : Int) ≤ ((n : Nat) : Int)) = true then 28 else 8), [(2, 36), (0, s), (0, ((bs (fun p => decide (σ 38 p = s ∧ σ 39 p = -1)) n : Nat) : Int)), (0, ((n : Nat) : Int))], [], σ)) rfl rfl ?_
    refine TT.br (p := ((np : Nat) : Int) ≤ ((n : Nat) : Int)) (fun h1 => absurd h1 (show ¬ (((np : Nat) : Int) ≤ ((n : Nat) : Int)) by omega)) (fun h1 => ?_)
    refine TT.steps (cd := cd161) 3 (c' := (11, [(2, 36), (0, s), (0, ((bs (fun p => decide (σ 38 p = s ∧ σ 39 p = -1)) n : Nat) : Int)), (0, ((n : Nat) : Int))], [(0, ((n : Nat) : Int)), (2, 38)], σ)) rfl rfl ?_
    refine TT.aldN (cd := cd161) (38) (n) rfl rfl rfl rfl (show n < 10 by omega) ?_
    refine TT.steps (cd := cd161) 2 (c' := ((if decide (¬ (σ 38 n) = s) = true then 26 else 14), [(2, 36), (0, s), (0, ((bs (fun p => decide (σ 38 p = s ∧ σ 39 p = -1)) n : Nat) : Int)), (0, ((n : Nat) : Int))], [], σ)) rfl rfl ?_
    refine TT.br (p := ¬ (σ 38 n) = s) (fun h2 => ?_) (fun h2 => ?_)
    · refine TT.inc (cd := cd161) ((n + 1 : Nat) : Int) rfl rfl rfl rfl (fun h => absurd h.2 (show ¬ (0 = 1) by decide)) (aAdd_n (a := n) (b := 1) (by omega)) (ls' := [(2, 36), (0, s), (0, ((bs (fun p => decide (σ 38 p = s ∧ σ 39 p = -1)) n : Nat) : Int)), (0, ((n + 1 : Nat) : Int))]) rfl ?_
      refine TT.steps (cd := cd161) 1 (c' := (4, [(2, 36), (0, s), (0, ((bs (fun p => decide (σ 38 p = s ∧ σ 39 p = -1)) n : Nat) : Int)), (0, ((n + 1 : Nat) : Int))], [], σ)) rfl rfl ?_
      have e2 : ((bs (fun p => decide (σ 38 p = s ∧ σ 39 p = -1)) n : Nat) : Int) = ((bs (fun p => decide (σ 38 p = s ∧ σ 39 p = -1)) (n + 1) : Nat) : Int) := by first | exact bs_t (decide_eq_true (by omega)) (by omega) | exact bs_z (decide_eq_false (by omega)) (by omega) | exact bs_f (decide_eq_false (by omega))
      rw [e2]
      have e3 : ((n + 1 : Nat) : Int) = (((n + 1) : Nat) : Int) := by omega
      rw [e3]
      exact ih (n + 1) (by omega)
    · refine TT.steps (cd := cd161) 3 (c' := (17, [(2, 36), (0, s), (0, ((bs (fun p => decide (σ 38 p = s ∧ σ 39 p = -1)) n : Nat) : Int)), (0, ((n : Nat) : Int))], [(0, ((n : Nat) : Int)), (2, 39)], σ)) rfl rfl ?_
      refine TT.aldN (cd := cd161) (39) (n) rfl rfl rfl rfl (show n < 10 by omega) ?_
      refine TT.steps (cd := cd161) 2 (c' := ((if decide (¬ (σ 39 n) = (-1)) = true then 26 else 20), [(2, 36), (0, s), (0, ((bs (fun p => decide (σ 38 p = s ∧ σ 39 p = -1)) n : Nat) : Int)), (0, ((n : Nat) : Int))], [], σ)) rfl rfl ?_
      refine TT.br (p := ¬ (σ 39 n) = (-1)) (fun h3 => ?_) (fun h3 => ?_)
      · refine TT.inc (cd := cd161) ((n + 1 : Nat) : Int) rfl rfl rfl rfl (fun h => absurd h.2 (show ¬ (0 = 1) by decide)) (aAdd_n (a := n) (b := 1) (by omega)) (ls' := [(2, 36), (0, s), (0, ((bs (fun p => decide (σ 38 p = s ∧ σ 39 p = -1)) n : Nat) : Int)), (0, ((n + 1 : Nat) : Int))]) rfl ?_
        refine TT.steps (cd := cd161) 1 (c' := (4, [(2, 36), (0, s), (0, ((bs (fun p => decide (σ 38 p = s ∧ σ 39 p = -1)) n : Nat) : Int)), (0, ((n + 1 : Nat) : Int))], [], σ)) rfl rfl ?_
        have e2 : ((bs (fun p => decide (σ 38 p = s ∧ σ 39 p = -1)) n : Nat) : Int) = ((bs (fun p => decide (σ 38 p = s ∧ σ 39 p = -1)) (n + 1) : Nat) : Int) := by first | exact bs_t (decide_eq_true (by omega)) (by omega) | exact bs_z (decide_eq_false (by omega)) (by omega) | exact bs_f (decide_eq_false (by omega))
        rw [e2]
        have e3 : ((n + 1 : Nat) : Int) = (((n + 1) : Nat) : Int) := by omega
        rw [e3]
        exact ih (n + 1) (by omega)
      · refine TT.steps (cd := cd161) 6 (c' := (26, [(2, 36), (0, s), (0, (aOr ((bs (fun p => decide (σ 38 p = s ∧ σ 39 p = -1)) n : Nat) : Int) (aShl 1 ((n : Nat) : Int)))), (0, ((n : Nat) : Int))], [], σ)) rfl rfl ?_
        refine TT.inc (cd := cd161) ((n + 1 : Nat) : Int) rfl rfl rfl rfl (fun h => absurd h.2 (show ¬ (0 = 1) by decide)) (aAdd_n (a := n) (b := 1) (by omega)) (ls' := [(2, 36), (0, s), (0, (aOr ((bs (fun p => decide (σ 38 p = s ∧ σ 39 p = -1)) n : Nat) : Int) (aShl 1 ((n : Nat) : Int)))), (0, ((n + 1 : Nat) : Int))]) rfl ?_
        refine TT.steps (cd := cd161) 1 (c' := (4, [(2, 36), (0, s), (0, (aOr ((bs (fun p => decide (σ 38 p = s ∧ σ 39 p = -1)) n : Nat) : Int) (aShl 1 ((n : Nat) : Int)))), (0, ((n + 1 : Nat) : Int))], [], σ)) rfl rfl ?_
        have e2 : (aOr ((bs (fun p => decide (σ 38 p = s ∧ σ 39 p = -1)) n : Nat) : Int) (aShl 1 ((n : Nat) : Int))) = ((bs (fun p => decide (σ 38 p = s ∧ σ 39 p = -1)) (n + 1) : Nat) : Int) := by first | exact bs_t (decide_eq_true (by omega)) (by omega) | exact bs_z (decide_eq_false (by omega)) (by omega) | exact bs_f (decide_eq_false (by omega))
        rw [e2]
        have e3 : ((n + 1 : Nat) : Int) = (((n + 1) : Nat) : Int) := by omega
        rw [e3]
        exact ih (n + 1) (by omega)
theorem u_bornAtN (X : AX) (s : Int) (np : Nat) (σ : AH) (hc : σ 36 0 = (np : Int)) (hnp2 : np ≤ 10) : TT X 161 (0, [(2, 36), (0, s), (9, 0), (9, 0)], [], σ) (fun r σ' => r = some (0, ((bs (fun p => decide (σ 38 p = s ∧ σ 39 p = -1)) np : Nat) : Int)) ∧ σ' = σ) := by
  refine TT.steps (cd := cd161) 4 (c' := (4, [(2, 36), (0, s), (0, 0), (0, 0)], [], σ)) rfl rfl ?_
  refine ul_bornAtN X _ s np σ hc hnp2 ?_ np 0 (by omega)
  refine TT.steps (cd := cd161) 1 (c' := (29, [(2, 36), (0, s), (0, ((bs (fun p => decide (σ 38 p = s ∧ σ 39 p = -1)) np : Nat) : Int)), (0, ((np : Nat) : Int))], [(0, ((bs (fun p => decide (σ 38 p = s ∧ σ 39 p = -1)) np : Nat) : Int))], σ)) rfl rfl ?_
  exact TT.ret (cd := cd161) rfl rfl rfl rfl (⟨rfl, rfl⟩)
theorem ul_bornBetweenN (X : AX) (Q : Option AV → AH → Prop) (s u : Int) (np : Nat) (σ : AH) (hc : σ 36 0 = (np : Int)) (hnp2 : np ≤ 10) (kk : TT X 162 (40, [(2, 36), (0, s), (0, u), (0, ((bs (fun p => decide ((σ 38 p = s ∧ σ 39 p = u) ∨ (σ 38 p = u ∧ σ 39 p = s))) np : Nat) : Int)), (0, ((np : Nat) : Int))], [], σ) Q) : ∀ (d n : Nat), n + d = np → TT X 162 (4, [(2, 36), (0, s), (0, u), (0, ((bs (fun p => decide ((σ 38 p = s ∧ σ 39 p = u) ∨ (σ 38 p = u ∧ σ 39 p = s))) n : Nat) : Int)), (0, ((n : Nat) : Int))], [], σ) Q := by
  intro d
  induction d with
  | zero =>
    intro n hn
    have hnn : n = np := by omega
    rw [hnn]
    refine TT.steps (cd := cd162) 3 (c' := (7, [(2, 36), (0, s), (0, u), (0, ((bs (fun p => decide ((σ 38 p = s ∧ σ 39 p = u) ∨ (σ 38 p = u ∧ σ 39 p = s))) np : Nat) : Int)), (0, ((np : Nat) : Int))], [(0, (σ 36 0)), (0, ((np : Nat) : Int))], σ)) rfl rfl ?_
    refine TT.top0 (z := ((np : Nat) : Int)) hc ?_
    refine TT.steps (cd := cd162) 1 (c' := ((if decide (((np : Nat) : Int) ≤ ((np : Nat) : Int)) = true then 40 else 8), [(2, 36), (0, s), (0, u), (0, ((bs (fun p => decide ((σ 38 p = s ∧ σ 39 p = u) ∨ (σ 38 p = u ∧ σ 39 p = s))) np : Nat) : Int)), (0, ((np : Nat) : Int))], [], σ)) rfl rfl ?_
    refine TT.br (p := ((np : Nat) : Int) ≤ ((np : Nat) : Int)) (fun h1 => ?_) (fun h1 => absurd (show ((np : Nat) : Int) ≤ ((np : Nat) : Int) by omega) h1)
    exact kk
  | succ d ih =>
    intro n hn
    refine TT.steps (cd := cd162) 3 (c' := (7, [(2, 36), (0, s), (0, u), (0, ((bs (fun p => decide ((σ 38 p = s ∧ σ 39 p = u) ∨ (σ 38 p = u ∧ σ 39 p = s))) n : Nat) : Int)), (0, ((n : Nat) : Int))], [(0, (σ 36 0)), (0, ((n : Nat) : Int))], σ)) rfl rfl ?_
    refine TT.top0 (z := ((np : Nat) : Int)) hc ?_
    refine TT.steps (cd := cd162) 1 (c' := ((if decide (((np : Nat) : Int) ≤ ((n : Nat) : Int)) = true then 40 else 8), [(2, 36), (0, s), (0, u), (0, ((bs (fun p => decide ((σ 38 p = s ∧ σ 39 p = u) ∨ (σ 38 p = u ∧ σ 39 p = s))) n : Nat) : Int)), (0, ((n : Nat) : Int))], [], σ)) rfl rfl ?_
    refine TT.br (p := ((np : Nat) : Int) ≤ ((n : Nat) : Int)) (fun h1 => absurd h1 (show ¬ (((np : Nat) : Int) ≤ ((n : Nat) : Int)) by omega)) (fun h1 => ?_)
    refine TT.steps (cd := cd162) 3 (c' := (11, [(2, 36), (0, s), (0, u), (0, ((bs (fun p => decide ((σ 38 p = s ∧ σ 39 p = u) ∨ (σ 38 p = u ∧ σ 39 p = s))) n : Nat) : Int)), (0, ((n : Nat) : Int))], [(0, ((n : Nat) : Int)), (2, 38)], σ)) rfl rfl ?_
    refine TT.aldN (cd := cd162) (38) (n) rfl rfl rfl rfl (show n < 10 by omega) ?_
    refine TT.steps (cd := cd162) 2 (c' := ((if decide (¬ (σ 38 n) = s) = true then 20 else 14), [(2, 36), (0, s), (0, u), (0, ((bs (fun p => decide ((σ 38 p = s ∧ σ 39 p = u) ∨ (σ 38 p = u ∧ σ 39 p = s))) n : Nat) : Int)), (0, ((n : Nat) : Int))], [], σ)) rfl rfl ?_
    refine TT.br (p := ¬ (σ 38 n) = s) (fun h2 => ?_) (fun h2 => ?_)
    · refine TT.steps (cd := cd162) 3 (c' := (23, [(2, 36), (0, s), (0, u), (0, ((bs (fun p => decide ((σ 38 p = s ∧ σ 39 p = u) ∨ (σ 38 p = u ∧ σ 39 p = s))) n : Nat) : Int)), (0, ((n : Nat) : Int))], [(0, ((n : Nat) : Int)), (2, 38)], σ)) rfl rfl ?_
      refine TT.aldN (cd := cd162) (38) (n) rfl rfl rfl rfl (show n < 10 by omega) ?_
      refine TT.steps (cd := cd162) 2 (c' := ((if decide (¬ (σ 38 n) = u) = true then 38 else 26), [(2, 36), (0, s), (0, u), (0, ((bs (fun p => decide ((σ 38 p = s ∧ σ 39 p = u) ∨ (σ 38 p = u ∧ σ 39 p = s))) n : Nat) : Int)), (0, ((n : Nat) : Int))], [], σ)) rfl rfl ?_
      refine TT.br (p := ¬ (σ 38 n) = u) (fun h3 => ?_) (fun h3 => ?_)
      · refine TT.inc (cd := cd162) ((n + 1 : Nat) : Int) rfl rfl rfl rfl (fun h => absurd h.2 (show ¬ (0 = 1) by decide)) (aAdd_n (a := n) (b := 1) (by omega)) (ls' := [(2, 36), (0, s), (0, u), (0, ((bs (fun p => decide ((σ 38 p = s ∧ σ 39 p = u) ∨ (σ 38 p = u ∧ σ 39 p = s))) n : Nat) : Int)), (0, ((n + 1 : Nat) : Int))]) rfl ?_
        refine TT.steps (cd := cd162) 1 (c' := (4, [(2, 36), (0, s), (0, u), (0, ((bs (fun p => decide ((σ 38 p = s ∧ σ 39 p = u) ∨ (σ 38 p = u ∧ σ 39 p = s))) n : Nat) : Int)), (0, ((n + 1 : Nat) : Int))], [], σ)) rfl rfl ?_
        have e3 : ((bs (fun p => decide ((σ 38 p = s ∧ σ 39 p = u) ∨ (σ 38 p = u ∧ σ 39 p = s))) n : Nat) : Int) = ((bs (fun p => decide ((σ 38 p = s ∧ σ 39 p = u) ∨ (σ 38 p = u ∧ σ 39 p = s))) (n + 1) : Nat) : Int) := by first | exact bs_t (decide_eq_true (by omega)) (by omega) | exact bs_z (decide_eq_false (by omega)) (by omega) | exact bs_f (decide_eq_false (by omega))
        rw [e3]
        have e4 : ((n + 1 : Nat) : Int) = (((n + 1) : Nat) : Int) := by omega
        rw [e4]
        exact ih (n + 1) (by omega)
      · refine TT.steps (cd := cd162) 3 (c' := (29, [(2, 36), (0, s), (0, u), (0, ((bs (fun p => decide ((σ 38 p = s ∧ σ 39 p = u) ∨ (σ 38 p = u ∧ σ 39 p = s))) n : Nat) : Int)), (0, ((n : Nat) : Int))], [(0, ((n : Nat) : Int)), (2, 39)], σ)) rfl rfl ?_
        refine TT.aldN (cd := cd162) (39) (n) rfl rfl rfl rfl (show n < 10 by omega) ?_
        refine TT.steps (cd := cd162) 2 (c' := ((if decide (¬ (σ 39 n) = s) = true then 38 else 32), [(2, 36), (0, s), (0, u), (0, ((bs (fun p => decide ((σ 38 p = s ∧ σ 39 p = u) ∨ (σ 38 p = u ∧ σ 39 p = s))) n : Nat) : Int)), (0, ((n : Nat) : Int))], [], σ)) rfl rfl ?_
        refine TT.br (p := ¬ (σ 39 n) = s) (fun h4 => ?_) (fun h4 => ?_)
        · refine TT.inc (cd := cd162) ((n + 1 : Nat) : Int) rfl rfl rfl rfl (fun h => absurd h.2 (show ¬ (0 = 1) by decide)) (aAdd_n (a := n) (b := 1) (by omega)) (ls' := [(2, 36), (0, s), (0, u), (0, ((bs (fun p => decide ((σ 38 p = s ∧ σ 39 p = u) ∨ (σ 38 p = u ∧ σ 39 p = s))) n : Nat) : Int)), (0, ((n + 1 : Nat) : Int))]) rfl ?_
          refine TT.steps (cd := cd162) 1 (c' := (4, [(2, 36), (0, s), (0, u), (0, ((bs (fun p => decide ((σ 38 p = s ∧ σ 39 p = u) ∨ (σ 38 p = u ∧ σ 39 p = s))) n : Nat) : Int)), (0, ((n + 1 : Nat) : Int))], [], σ)) rfl rfl ?_
          have e3 : ((bs (fun p => decide ((σ 38 p = s ∧ σ 39 p = u) ∨ (σ 38 p = u ∧ σ 39 p = s))) n : Nat) : Int) = ((bs (fun p => decide ((σ 38 p = s ∧ σ 39 p = u) ∨ (σ 38 p = u ∧ σ 39 p = s))) (n + 1) : Nat) : Int) := by first | exact bs_t (decide_eq_true (by omega)) (by omega) | exact bs_z (decide_eq_false (by omega)) (by omega) | exact bs_f (decide_eq_false (by omega))
          rw [e3]
          have e4 : ((n + 1 : Nat) : Int) = (((n + 1) : Nat) : Int) := by omega
          rw [e4]
          exact ih (n + 1) (by omega)
        · refine TT.steps (cd := cd162) 6 (c' := (38, [(2, 36), (0, s), (0, u), (0, (aOr ((bs (fun p => decide ((σ 38 p = s ∧ σ 39 p = u) ∨ (σ 38 p = u ∧ σ 39 p = s))) n : Nat) : Int) (aShl 1 ((n : Nat) : Int)))), (0, ((n : Nat) : Int))], [], σ)) rfl rfl ?_
          refine TT.inc (cd := cd162) ((n + 1 : Nat) : Int) rfl rfl rfl rfl (fun h => absurd h.2 (show ¬ (0 = 1) by decide)) (aAdd_n (a := n) (b := 1) (by omega)) (ls' := [(2, 36), (0, s), (0, u), (0, (aOr ((bs (fun p => decide ((σ 38 p = s ∧ σ 39 p = u) ∨ (σ 38 p = u ∧ σ 39 p = s))) n : Nat) : Int) (aShl 1 ((n : Nat) : Int)))), (0, ((n + 1 : Nat) : Int))]) rfl ?_
          refine TT.steps (cd := cd162) 1 (c' := (4, [(2, 36), (0, s), (0, u), (0, (aOr ((bs (fun p => decide ((σ 38 p = s ∧ σ 39 p = u) ∨ (σ 38 p = u ∧ σ 39 p = s))) n : Nat) : Int) (aShl 1 ((n : Nat) : Int)))), (0, ((n + 1 : Nat) : Int))], [], σ)) rfl rfl ?_
          have e3 : (aOr ((bs (fun p => decide ((σ 38 p = s ∧ σ 39 p = u) ∨ (σ 38 p = u ∧ σ 39 p = s))) n : Nat) : Int) (aShl 1 ((n : Nat) : Int))) = ((bs (fun p => decide ((σ 38 p = s ∧ σ 39 p = u) ∨ (σ 38 p = u ∧ σ 39 p = s))) (n + 1) : Nat) : Int) := by first | exact bs_t (decide_eq_true (by omega)) (by omega) | exact bs_z (decide_eq_false (by omega)) (by omega) | exact bs_f (decide_eq_false (by omega))
          rw [e3]
          have e4 : ((n + 1 : Nat) : Int) = (((n + 1) : Nat) : Int) := by omega
          rw [e4]
          exact ih (n + 1) (by omega)
    · refine TT.steps (cd := cd162) 3 (c' := (17, [(2, 36), (0, s), (0, u), (0, ((bs (fun p => decide ((σ 38 p = s ∧ σ 39 p = u) ∨ (σ 38 p = u ∧ σ 39 p = s))) n : Nat) : Int)), (0, ((n : Nat) : Int))], [(0, ((n : Nat) : Int)), (2, 39)], σ)) rfl rfl ?_
      refine TT.aldN (cd := cd162) (39) (n) rfl rfl rfl rfl (show n < 10 by omega) ?_
      refine TT.steps (cd := cd162) 2 (c' := ((if decide ((σ 39 n) = u) = true then 32 else 20), [(2, 36), (0, s), (0, u), (0, ((bs (fun p => decide ((σ 38 p = s ∧ σ 39 p = u) ∨ (σ 38 p = u ∧ σ 39 p = s))) n : Nat) : Int)), (0, ((n : Nat) : Int))], [], σ)) rfl rfl ?_
      refine TT.br (p := (σ 39 n) = u) (fun h5 => ?_) (fun h5 => ?_)
      · refine TT.steps (cd := cd162) 6 (c' := (38, [(2, 36), (0, s), (0, u), (0, (aOr ((bs (fun p => decide ((σ 38 p = s ∧ σ 39 p = u) ∨ (σ 38 p = u ∧ σ 39 p = s))) n : Nat) : Int) (aShl 1 ((n : Nat) : Int)))), (0, ((n : Nat) : Int))], [], σ)) rfl rfl ?_
        refine TT.inc (cd := cd162) ((n + 1 : Nat) : Int) rfl rfl rfl rfl (fun h => absurd h.2 (show ¬ (0 = 1) by decide)) (aAdd_n (a := n) (b := 1) (by omega)) (ls' := [(2, 36), (0, s), (0, u), (0, (aOr ((bs (fun p => decide ((σ 38 p = s ∧ σ 39 p = u) ∨ (σ 38 p = u ∧ σ 39 p = s))) n : Nat) : Int) (aShl 1 ((n : Nat) : Int)))), (0, ((n + 1 : Nat) : Int))]) rfl ?_
        refine TT.steps (cd := cd162) 1 (c' := (4, [(2, 36), (0, s), (0, u), (0, (aOr ((bs (fun p => decide ((σ 38 p = s ∧ σ 39 p = u) ∨ (σ 38 p = u ∧ σ 39 p = s))) n : Nat) : Int) (aShl 1 ((n : Nat) : Int)))), (0, ((n + 1 : Nat) : Int))], [], σ)) rfl rfl ?_
        have e3 : (aOr ((bs (fun p => decide ((σ 38 p = s ∧ σ 39 p = u) ∨ (σ 38 p = u ∧ σ 39 p = s))) n : Nat) : Int) (aShl 1 ((n : Nat) : Int))) = ((bs (fun p => decide ((σ 38 p = s ∧ σ 39 p = u) ∨ (σ 38 p = u ∧ σ 39 p = s))) (n + 1) : Nat) : Int) := by first | exact bs_t (decide_eq_true (by omega)) (by omega) | exact bs_z (decide_eq_false (by omega)) (by omega) | exact bs_f (decide_eq_false (by omega))
        rw [e3]
        have e4 : ((n + 1 : Nat) : Int) = (((n + 1) : Nat) : Int) := by omega
        rw [e4]
        exact ih (n + 1) (by omega)
      · refine TT.steps (cd := cd162) 3 (c' := (23, [(2, 36), (0, s), (0, u), (0, ((bs (fun p => decide ((σ 38 p = s ∧ σ 39 p = u) ∨ (σ 38 p = u ∧ σ 39 p = s))) n : Nat) : Int)), (0, ((n : Nat) : Int))], [(0, ((n : Nat) : Int)), (2, 38)], σ)) rfl rfl ?_
        refine TT.aldN (cd := cd162) (38) (n) rfl rfl rfl rfl (show n < 10 by omega) ?_
        refine TT.steps (cd := cd162) 2 (c' := ((if decide (¬ (σ 38 n) = u) = true then 38 else 26), [(2, 36), (0, s), (0, u), (0, ((bs (fun p => decide ((σ 38 p = s ∧ σ 39 p = u) ∨ (σ 38 p = u ∧ σ 39 p = s))) n : Nat) : Int)), (0, ((n : Nat) : Int))], [], σ)) rfl rfl ?_
        refine TT.br (p := ¬ (σ 38 n) = u) (fun h6 => ?_) (fun h6 => ?_)
        · refine TT.inc (cd := cd162) ((n + 1 : Nat) : Int) rfl rfl rfl rfl (fun h => absurd h.2 (show ¬ (0 = 1) by decide)) (aAdd_n (a := n) (b := 1) (by omega)) (ls' := [(2, 36), (0, s), (0, u), (0, ((bs (fun p => decide ((σ 38 p = s ∧ σ 39 p = u) ∨ (σ 38 p = u ∧ σ 39 p = s))) n : Nat) : Int)), (0, ((n + 1 : Nat) : Int))]) rfl ?_
          refine TT.steps (cd := cd162) 1 (c' := (4, [(2, 36), (0, s), (0, u), (0, ((bs (fun p => decide ((σ 38 p = s ∧ σ 39 p = u) ∨ (σ 38 p = u ∧ σ 39 p = s))) n : Nat) : Int)), (0, ((n + 1 : Nat) : Int))], [], σ)) rfl rfl ?_
          have e3 : ((bs (fun p => decide ((σ 38 p = s ∧ σ 39 p = u) ∨ (σ 38 p = u ∧ σ 39 p = s))) n : Nat) : Int) = ((bs (fun p => decide ((σ 38 p = s ∧ σ 39 p = u) ∨ (σ 38 p = u ∧ σ 39 p = s))) (n + 1) : Nat) : Int) := by first | exact bs_t (decide_eq_true (by omega)) (by omega) | exact bs_z (decide_eq_false (by omega)) (by omega) | exact bs_f (decide_eq_false (by omega))
          rw [e3]
          have e4 : ((n + 1 : Nat) : Int) = (((n + 1) : Nat) : Int) := by omega
          rw [e4]
          exact ih (n + 1) (by omega)
        · refine TT.steps (cd := cd162) 3 (c' := (29, [(2, 36), (0, s), (0, u), (0, ((bs (fun p => decide ((σ 38 p = s ∧ σ 39 p = u) ∨ (σ 38 p = u ∧ σ 39 p = s))) n : Nat) : Int)), (0, ((n : Nat) : Int))], [(0, ((n : Nat) : Int)), (2, 39)], σ)) rfl rfl ?_
          refine TT.aldN (cd := cd162) (39) (n) rfl rfl rfl rfl (show n < 10 by omega) ?_
          refine TT.steps (cd := cd162) 2 (c' := ((if decide (¬ (σ 39 n) = s) = true then 38 else 32), [(2, 36), (0, s), (0, u), (0, ((bs (fun p => decide ((σ 38 p = s ∧ σ 39 p = u) ∨ (σ 38 p = u ∧ σ 39 p = s))) n : Nat) : Int)), (0, ((n : Nat) : Int))], [], σ)) rfl rfl ?_
          refine TT.br (p := ¬ (σ 39 n) = s) (fun h7 => ?_) (fun h7 => ?_)
          · refine TT.inc (cd := cd162) ((n + 1 : Nat) : Int) rfl rfl rfl rfl (fun h => absurd h.2 (show ¬ (0 = 1) by decide)) (aAdd_n (a := n) (b := 1) (by omega)) (ls' := [(2, 36), (0, s), (0, u), (0, ((bs (fun p => decide ((σ 38 p = s ∧ σ 39 p = u) ∨ (σ 38 p = u ∧ σ 39 p = s))) n : Nat) : Int)), (0, ((n + 1 : Nat) : Int))]) rfl ?_
            refine TT.steps (cd := cd162) 1 (c' := (4, [(2, 36), (0, s), (0, u), (0, ((bs (fun p => decide ((σ 38 p = s ∧ σ 39 p = u) ∨ (σ 38 p = u ∧ σ 39 p = s))) n : Nat) : Int)), (0, ((n + 1 : Nat) : Int))], [], σ)) rfl rfl ?_
            have e3 : ((bs (fun p => decide ((σ 38 p = s ∧ σ 39 p = u) ∨ (σ 38 p = u ∧ σ 39 p = s))) n : Nat) : Int) = ((bs (fun p => decide ((σ 38 p = s ∧ σ 39 p = u) ∨ (σ 38 p = u ∧ σ 39 p = s))) (n + 1) : Nat) : Int) := by first | exact bs_t (decide_eq_true (by omega)) (by omega) | exact bs_z (decide_eq_false (by omega)) (by omega) | exact bs_f (decide_eq_false (by omega))
            rw [e3]
            have e4 : ((n + 1 : Nat) : Int) = (((n + 1) : Nat) : Int) := by omega
            rw [e4]
            exact ih (n + 1) (by omega)
          · refine TT.steps (cd := cd162) 6 (c' := (38, [(2, 36), (0, s), (0, u), (0, (aOr ((bs (fun p => decide ((σ 38 p = s ∧ σ 39 p = u) ∨ (σ 38 p = u ∧ σ 39 p = s))) n : Nat) : Int) (aShl 1 ((n : Nat) : Int)))), (0, ((n : Nat) : Int))], [], σ)) rfl rfl ?_
            refine TT.inc (cd := cd162) ((n + 1 : Nat) : Int) rfl rfl rfl rfl (fun h => absurd h.2 (show ¬ (0 = 1) by decide)) (aAdd_n (a := n) (b := 1) (by omega)) (ls' := [(2, 36), (0, s), (0, u), (0, (aOr ((bs (fun p => decide ((σ 38 p = s ∧ σ 39 p = u) ∨ (σ 38 p = u ∧ σ 39 p = s))) n : Nat) : Int) (aShl 1 ((n : Nat) : Int)))), (0, ((n + 1 : Nat) : Int))]) rfl ?_
            refine TT.steps (cd := cd162) 1 (c' := (4, [(2, 36), (0, s), (0, u), (0, (aOr ((bs (fun p => decide ((σ 38 p = s ∧ σ 39 p = u) ∨ (σ 38 p = u ∧ σ 39 p = s))) n : Nat) : Int) (aShl 1 ((n : Nat) : Int)))), (0, ((n + 1 : Nat) : Int))], [], σ)) rfl rfl ?_
            have e3 : (aOr ((bs (fun p => decide ((σ 38 p = s ∧ σ 39 p = u) ∨ (σ 38 p = u ∧ σ 39 p = s))) n : Nat) : Int) (aShl 1 ((n : Nat) : Int))) = ((bs (fun p => decide ((σ 38 p = s ∧ σ 39 p = u) ∨ (σ 38 p = u ∧ σ 39 p = s))) (n + 1) : Nat) : Int) := by first | exact bs_t (decide_eq_true (by omega)) (by omega) | exact bs_z (decide_eq_false (by omega)) (by omega) | exact bs_f (decide_eq_false (by omega))
            rw [e3]
            have e4 : ((n + 1 : Nat) : Int) = (((n + 1) : Nat) : Int) := by omega
            rw [e4]
            exact ih (n + 1) (by omega)
theorem u_bornBetweenN (X : AX) (s u : Int) (np : Nat) (σ : AH) (hc : σ 36 0 = (np : Int)) (hnp2 : np ≤ 10) : TT X 162 (0, [(2, 36), (0, s), (0, u), (9, 0), (9, 0)], [], σ) (fun r σ' => r = some (0, ((bs (fun p => decide ((σ 38 p = s ∧ σ 39 p = u) ∨ (σ 38 p = u ∧ σ 39 p = s))) np : Nat) : Int)) ∧ σ' = σ) := by
  refine TT.steps (cd := cd162) 4 (c' := (4, [(2, 36), (0, s), (0, u), (0, 0), (0, 0)], [], σ)) rfl rfl ?_
  refine ul_bornBetweenN X _ s u np σ hc hnp2 ?_ np 0 (by omega)
  refine TT.steps (cd := cd162) 1 (c' := (41, [(2, 36), (0, s), (0, u), (0, ((bs (fun p => decide ((σ 38 p = s ∧ σ 39 p = u) ∨ (σ 38 p = u ∧ σ 39 p = s))) np : Nat) : Int)), (0, ((np : Nat) : Int))], [(0, ((bs (fun p => decide ((σ 38 p = s ∧ σ 39 p = u) ∨ (σ 38 p = u ∧ σ 39 p = s))) np : Nat) : Int))], σ)) rfl rfl ?_
  exact TT.ret (cd := cd162) rfl rfl rfl rfl (⟨rfl, rfl⟩)
theorem ul_countAtN (X : AX) (Q : Option AV → AH → Prop) (s : Int) (np : Nat) (σ : AH) (hc : σ 36 0 = (np : Int)) (hnp2 : np ≤ 10) (kk : TT X 163 (22, [(2, 36), (0, s), (0, ((cnt (fun p => decide (σ 40 p = s)) np : Nat) : Int)), (0, ((np : Nat) : Int))], [], σ) Q) : ∀ (d n : Nat), n + d = np → TT X 163 (4, [(2, 36), (0, s), (0, ((cnt (fun p => decide (σ 40 p = s)) n : Nat) : Int)), (0, ((n : Nat) : Int))], [], σ) Q := by
  intro d
  induction d with
  | zero =>
    intro n hn
    have hnn : n = np := by omega
    rw [hnn]
    refine TT.steps (cd := cd163) 3 (c' := (7, [(2, 36), (0, s), (0, ((cnt (fun p => decide (σ 40 p = s)) np : Nat) : Int)), (0, ((np : Nat) : Int))], [(0, (σ 36 0)), (0, ((np : Nat) : Int))], σ)) rfl rfl ?_
    refine TT.top0 (z := ((np : Nat) : Int)) hc ?_
    refine TT.steps (cd := cd163) 1 (c' := ((if decide (((np : Nat) : Int) ≤ ((np : Nat) : Int)) = true then 22 else 8), [(2, 36), (0, s), (0, ((cnt (fun p => decide (σ 40 p = s)) np : Nat) : Int)), (0, ((np : Nat) : Int))], [], σ)) rfl rfl ?_
    refine TT.br (p := ((np : Nat) : Int) ≤ ((np : Nat) : Int)) (fun h1 => ?_) (fun h1 => absurd (show ((np : Nat) : Int) ≤ ((np : Nat) : Int) by omega) h1)
    exact kk
  | succ d ih =>
    intro n hn
    refine TT.steps (cd := cd163) 3 (c' := (7, [(2, 36), (0, s), (0, ((cnt (fun p => decide (σ 40 p = s)) n : Nat) : Int)), (0, ((n : Nat) : Int))], [(0, (σ 36 0)), (0, ((n : Nat) : Int))], σ)) rfl rfl ?_
    refine TT.top0 (z := ((np : Nat) : Int)) hc ?_
    refine TT.steps (cd := cd163) 1 (c' := ((if decide (((np : Nat) : Int) ≤ ((n : Nat) : Int)) = true then 22 else 8), [(2, 36), (0, s), (0, ((cnt (fun p => decide (σ 40 p = s)) n : Nat) : Int)), (0, ((n : Nat) : Int))], [], σ)) rfl rfl ?_
    refine TT.br (p := ((np : Nat) : Int) ≤ ((n : Nat) : Int)) (fun h1 => absurd h1 (show ¬ (((np : Nat) : Int) ≤ ((n : Nat) : Int)) by omega)) (fun h1 => ?_)
    refine TT.steps (cd := cd163) 4 (c' := (12, [(2, 36), (0, s), (0, ((cnt (fun p => decide (σ 40 p = s)) n : Nat) : Int)), (0, ((n : Nat) : Int))], [(0, ((n : Nat) : Int)), (2, 40), (0, ((cnt (fun p => decide (σ 40 p = s)) n : Nat) : Int))], σ)) rfl rfl ?_
    refine TT.aldN (cd := cd163) (40) (n) rfl rfl rfl rfl (show n < 10 by omega) ?_
    refine TT.steps (cd := cd163) 2 (c' := ((if decide (¬ (σ 40 n) = s) = true then 17 else 15), [(2, 36), (0, s), (0, ((cnt (fun p => decide (σ 40 p = s)) n : Nat) : Int)), (0, ((n : Nat) : Int))], [(0, ((cnt (fun p => decide (σ 40 p = s)) n : Nat) : Int))], σ)) rfl rfl ?_
    refine TT.br (p := ¬ (σ 40 n) = s) (fun h2 => ?_) (fun h2 => ?_)
    · refine TT.steps (cd := cd163) 2 (c' := (19, [(2, 36), (0, s), (0, ((cnt (fun p => decide (σ 40 p = s)) n : Nat) : Int)), (0, ((n : Nat) : Int))], [(0, (aAdd ((cnt (fun p => decide (σ 40 p = s)) n : Nat) : Int) 0))], σ)) rfl rfl ?_
      refine TT.steps (cd := cd163) 1 (c' := (20, [(2, 36), (0, s), (0, (aAdd ((cnt (fun p => decide (σ 40 p = s)) n : Nat) : Int) 0)), (0, ((n : Nat) : Int))], [], σ)) rfl rfl ?_
      refine TT.inc (cd := cd163) ((n + 1 : Nat) : Int) rfl rfl rfl rfl (fun h => absurd h.2 (show ¬ (0 = 1) by decide)) (aAdd_n (a := n) (b := 1) (by omega)) (ls' := [(2, 36), (0, s), (0, (aAdd ((cnt (fun p => decide (σ 40 p = s)) n : Nat) : Int) 0)), (0, ((n + 1 : Nat) : Int))]) rfl ?_
      refine TT.steps (cd := cd163) 1 (c' := (4, [(2, 36), (0, s), (0, (aAdd ((cnt (fun p => decide (σ 40 p = s)) n : Nat) : Int) 0)), (0, ((n + 1 : Nat) : Int))], [], σ)) rfl rfl ?_
      have e2 : (aAdd ((cnt (fun p => decide (σ 40 p = s)) n : Nat) : Int) 0) = ((cnt (fun p => decide (σ 40 p = s)) (n + 1) : Nat) : Int) := by first | exact cnt_t (decide_eq_true (by omega)) (by omega) | exact cnt_z (decide_eq_false (by omega)) (by omega) | exact cnt_f (decide_eq_false (by omega))
      rw [e2]
      have e3 : ((n + 1 : Nat) : Int) = (((n + 1) : Nat) : Int) := by omega
      rw [e3]
      exact ih (n + 1) (by omega)
    · refine TT.steps (cd := cd163) 3 (c' := (19, [(2, 36), (0, s), (0, ((cnt (fun p => decide (σ 40 p = s)) n : Nat) : Int)), (0, ((n : Nat) : Int))], [(0, (aAdd ((cnt (fun p => decide (σ 40 p = s)) n : Nat) : Int) 1))], σ)) rfl rfl ?_
      refine TT.steps (cd := cd163) 1 (c' := (20, [(2, 36), (0, s), (0, (aAdd ((cnt (fun p => decide (σ 40 p = s)) n : Nat) : Int) 1)), (0, ((n : Nat) : Int))], [], σ)) rfl rfl ?_
      refine TT.inc (cd := cd163) ((n + 1 : Nat) : Int) rfl rfl rfl rfl (fun h => absurd h.2 (show ¬ (0 = 1) by decide)) (aAdd_n (a := n) (b := 1) (by omega)) (ls' := [(2, 36), (0, s), (0, (aAdd ((cnt (fun p => decide (σ 40 p = s)) n : Nat) : Int) 1)), (0, ((n + 1 : Nat) : Int))]) rfl ?_
      refine TT.steps (cd := cd163) 1 (c' := (4, [(2, 36), (0, s), (0, (aAdd ((cnt (fun p => decide (σ 40 p = s)) n : Nat) : Int) 1)), (0, ((n + 1 : Nat) : Int))], [], σ)) rfl rfl ?_
      have e2 : (aAdd ((cnt (fun p => decide (σ 40 p = s)) n : Nat) : Int) 1) = ((cnt (fun p => decide (σ 40 p = s)) (n + 1) : Nat) : Int) := by first | exact cnt_t (decide_eq_true (by omega)) (by omega) | exact cnt_z (decide_eq_false (by omega)) (by omega) | exact cnt_f (decide_eq_false (by omega))
      rw [e2]
      have e3 : ((n + 1 : Nat) : Int) = (((n + 1) : Nat) : Int) := by omega
      rw [e3]
      exact ih (n + 1) (by omega)
theorem u_countAtN (X : AX) (s : Int) (np : Nat) (σ : AH) (hc : σ 36 0 = (np : Int)) (hnp2 : np ≤ 10) : TT X 163 (0, [(2, 36), (0, s), (9, 0), (9, 0)], [], σ) (fun r σ' => r = some (0, ((cnt (fun p => decide (σ 40 p = s)) np : Nat) : Int)) ∧ σ' = σ) := by
  refine TT.steps (cd := cd163) 4 (c' := (4, [(2, 36), (0, s), (0, 0), (0, 0)], [], σ)) rfl rfl ?_
  refine ul_countAtN X _ s np σ hc hnp2 ?_ np 0 (by omega)
  refine TT.steps (cd := cd163) 1 (c' := (23, [(2, 36), (0, s), (0, ((cnt (fun p => decide (σ 40 p = s)) np : Nat) : Int)), (0, ((np : Nat) : Int))], [(0, ((cnt (fun p => decide (σ 40 p = s)) np : Nat) : Int))], σ)) rfl rfl ?_
  exact TT.ret (cd := cd163) rfl rfl rfl rfl (⟨rfl, rfl⟩)
theorem ul_countToN (X : AX) (Q : Option AV → AH → Prop) (s : Int) (np : Nat) (σ : AH) (hc : σ 36 0 = (np : Int)) (hnp2 : np ≤ 10) (kk : TT X 164 (22, [(2, 36), (0, s), (0, ((cnt (fun p => decide (σ 41 p = s)) np : Nat) : Int)), (0, ((np : Nat) : Int))], [], σ) Q) : ∀ (d n : Nat), n + d = np → TT X 164 (4, [(2, 36), (0, s), (0, ((cnt (fun p => decide (σ 41 p = s)) n : Nat) : Int)), (0, ((n : Nat) : Int))], [], σ) Q := by
  intro d
  induction d with
  | zero =>
    intro n hn
    have hnn : n = np := by omega
    rw [hnn]
    refine TT.steps (cd := cd164) 3 (c' := (7, [(2, 36), (0, s), (0, ((cnt (fun p => decide (σ 41 p = s)) np : Nat) : Int)), (0, ((np : Nat) : Int))], [(0, (σ 36 0)), (0, ((np : Nat) : Int))], σ)) rfl rfl ?_
    refine TT.top0 (z := ((np : Nat) : Int)) hc ?_
    refine TT.steps (cd := cd164) 1 (c' := ((if decide (((np : Nat) : Int) ≤ ((np : Nat) : Int)) = true then 22 else 8), [(2, 36), (0, s), (0, ((cnt (fun p => decide (σ 41 p = s)) np : Nat) : Int)), (0, ((np : Nat) : Int))], [], σ)) rfl rfl ?_
    refine TT.br (p := ((np : Nat) : Int) ≤ ((np : Nat) : Int)) (fun h1 => ?_) (fun h1 => absurd (show ((np : Nat) : Int) ≤ ((np : Nat) : Int) by omega) h1)
    exact kk
  | succ d ih =>
    intro n hn
    refine TT.steps (cd := cd164) 3 (c' := (7, [(2, 36), (0, s), (0, ((cnt (fun p => decide (σ 41 p = s)) n : Nat) : Int)), (0, ((n : Nat) : Int))], [(0, (σ 36 0)), (0, ((n : Nat) : Int))], σ)) rfl rfl ?_
    refine TT.top0 (z := ((np : Nat) : Int)) hc ?_
    refine TT.steps (cd := cd164) 1 (c' := ((if decide (((np : Nat) : Int) ≤ ((n : Nat) : Int)) = true then 22 else 8), [(2, 36), (0, s), (0, ((cnt (fun p => decide (σ 41 p = s)) n : Nat) : Int)), (0, ((n : Nat) : Int))], [], σ)) rfl rfl ?_
    refine TT.br (p := ((np : Nat) : Int) ≤ ((n : Nat) : Int)) (fun h1 => absurd h1 (show ¬ (((np : Nat) : Int) ≤ ((n : Nat) : Int)) by omega)) (fun h1 => ?_)
    refine TT.steps (cd := cd164) 4 (c' := (12, [(2, 36), (0, s), (0, ((cnt (fun p => decide (σ 41 p = s)) n : Nat) : Int)), (0, ((n : Nat) : Int))], [(0, ((n : Nat) : Int)), (2, 41), (0, ((cnt (fun p => decide (σ 41 p = s)) n : Nat) : Int))], σ)) rfl rfl ?_
    refine TT.aldN (cd := cd164) (41) (n) rfl rfl rfl rfl (show n < 10 by omega) ?_
    refine TT.steps (cd := cd164) 2 (c' := ((if decide (¬ (σ 41 n) = s) = true then 17 else 15), [(2, 36), (0, s), (0, ((cnt (fun p => decide (σ 41 p = s)) n : Nat) : Int)), (0, ((n : Nat) : Int))], [(0, ((cnt (fun p => decide (σ 41 p = s)) n : Nat) : Int))], σ)) rfl rfl ?_
    refine TT.br (p := ¬ (σ 41 n) = s) (fun h2 => ?_) (fun h2 => ?_)
    · refine TT.steps (cd := cd164) 2 (c' := (19, [(2, 36), (0, s), (0, ((cnt (fun p => decide (σ 41 p = s)) n : Nat) : Int)), (0, ((n : Nat) : Int))], [(0, (aAdd ((cnt (fun p => decide (σ 41 p = s)) n : Nat) : Int) 0))], σ)) rfl rfl ?_
      refine TT.steps (cd := cd164) 1 (c' := (20, [(2, 36), (0, s), (0, (aAdd ((cnt (fun p => decide (σ 41 p = s)) n : Nat) : Int) 0)), (0, ((n : Nat) : Int))], [], σ)) rfl rfl ?_
      refine TT.inc (cd := cd164) ((n + 1 : Nat) : Int) rfl rfl rfl rfl (fun h => absurd h.2 (show ¬ (0 = 1) by decide)) (aAdd_n (a := n) (b := 1) (by omega)) (ls' := [(2, 36), (0, s), (0, (aAdd ((cnt (fun p => decide (σ 41 p = s)) n : Nat) : Int) 0)), (0, ((n + 1 : Nat) : Int))]) rfl ?_
      refine TT.steps (cd := cd164) 1 (c' := (4, [(2, 36), (0, s), (0, (aAdd ((cnt (fun p => decide (σ 41 p = s)) n : Nat) : Int) 0)), (0, ((n + 1 : Nat) : Int))], [], σ)) rfl rfl ?_
      have e2 : (aAdd ((cnt (fun p => decide (σ 41 p = s)) n : Nat) : Int) 0) = ((cnt (fun p => decide (σ 41 p = s)) (n + 1) : Nat) : Int) := by first | exact cnt_t (decide_eq_true (by omega)) (by omega) | exact cnt_z (decide_eq_false (by omega)) (by omega) | exact cnt_f (decide_eq_false (by omega))
      rw [e2]
      have e3 : ((n + 1 : Nat) : Int) = (((n + 1) : Nat) : Int) := by omega
      rw [e3]
      exact ih (n + 1) (by omega)
    · refine TT.steps (cd := cd164) 3 (c' := (19, [(2, 36), (0, s), (0, ((cnt (fun p => decide (σ 41 p = s)) n : Nat) : Int)), (0, ((n : Nat) : Int))], [(0, (aAdd ((cnt (fun p => decide (σ 41 p = s)) n : Nat) : Int) 1))], σ)) rfl rfl ?_
      refine TT.steps (cd := cd164) 1 (c' := (20, [(2, 36), (0, s), (0, (aAdd ((cnt (fun p => decide (σ 41 p = s)) n : Nat) : Int) 1)), (0, ((n : Nat) : Int))], [], σ)) rfl rfl ?_
      refine TT.inc (cd := cd164) ((n + 1 : Nat) : Int) rfl rfl rfl rfl (fun h => absurd h.2 (show ¬ (0 = 1) by decide)) (aAdd_n (a := n) (b := 1) (by omega)) (ls' := [(2, 36), (0, s), (0, (aAdd ((cnt (fun p => decide (σ 41 p = s)) n : Nat) : Int) 1)), (0, ((n + 1 : Nat) : Int))]) rfl ?_
      refine TT.steps (cd := cd164) 1 (c' := (4, [(2, 36), (0, s), (0, (aAdd ((cnt (fun p => decide (σ 41 p = s)) n : Nat) : Int) 1)), (0, ((n + 1 : Nat) : Int))], [], σ)) rfl rfl ?_
      have e2 : (aAdd ((cnt (fun p => decide (σ 41 p = s)) n : Nat) : Int) 1) = ((cnt (fun p => decide (σ 41 p = s)) (n + 1) : Nat) : Int) := by first | exact cnt_t (decide_eq_true (by omega)) (by omega) | exact cnt_z (decide_eq_false (by omega)) (by omega) | exact cnt_f (decide_eq_false (by omega))
      rw [e2]
      have e3 : ((n + 1 : Nat) : Int) = (((n + 1) : Nat) : Int) := by omega
      rw [e3]
      exact ih (n + 1) (by omega)
theorem u_countToN (X : AX) (s : Int) (np : Nat) (σ : AH) (hc : σ 36 0 = (np : Int)) (hnp2 : np ≤ 10) : TT X 164 (0, [(2, 36), (0, s), (9, 0), (9, 0)], [], σ) (fun r σ' => r = some (0, ((cnt (fun p => decide (σ 41 p = s)) np : Nat) : Int)) ∧ σ' = σ) := by
  refine TT.steps (cd := cd164) 4 (c' := (4, [(2, 36), (0, s), (0, 0), (0, 0)], [], σ)) rfl rfl ?_
  refine ul_countToN X _ s np σ hc hnp2 ?_ np 0 (by omega)
  refine TT.steps (cd := cd164) 1 (c' := (23, [(2, 36), (0, s), (0, ((cnt (fun p => decide (σ 41 p = s)) np : Nat) : Int)), (0, ((np : Nat) : Int))], [(0, ((cnt (fun p => decide (σ 41 p = s)) np : Nat) : Int))], σ)) rfl rfl ?_
  exact TT.ret (cd := cd164) rfl rfl rfl rfl (⟨rfl, rfl⟩)
theorem ul_contentN (X : AX) (Q : Option AV → AH → Prop) (np : Nat) (σ : AH) (hc : σ 36 0 = (np : Int)) (hnp2 : np ≤ 10) (kk : TT X 165 (27, [(2, 36), (0, ((bs (fun p => decide (σ 40 p = σ 41 p)) np : Nat) : Int)), (0, ((np : Nat) : Int))], [], σ) Q) : ∀ (d n : Nat), n + d = np → TT X 165 (4, [(2, 36), (0, ((bs (fun p => decide (σ 40 p = σ 41 p)) n : Nat) : Int)), (0, ((n : Nat) : Int))], [], σ) Q := by
  intro d
  induction d with
  | zero =>
    intro n hn
    have hnn : n = np := by omega
    rw [hnn]
    refine TT.steps (cd := cd165) 3 (c' := (7, [(2, 36), (0, ((bs (fun p => decide (σ 40 p = σ 41 p)) np : Nat) : Int)), (0, ((np : Nat) : Int))], [(0, (σ 36 0)), (0, ((np : Nat) : Int))], σ)) rfl rfl ?_
    refine TT.top0 (z := ((np : Nat) : Int)) hc ?_
    refine TT.steps (cd := cd165) 1 (c' := ((if decide (((np : Nat) : Int) ≤ ((np : Nat) : Int)) = true then 27 else 8), [(2, 36), (0, ((bs (fun p => decide (σ 40 p = σ 41 p)) np : Nat) : Int)), (0, ((np : Nat) : Int))], [], σ)) rfl rfl ?_
    refine TT.br (p := ((np : Nat) : Int) ≤ ((np : Nat) : Int)) (fun h1 => ?_) (fun h1 => absurd (show ((np : Nat) : Int) ≤ ((np : Nat) : Int) by omega) h1)
    exact kk
  | succ d ih =>
    intro n hn
    refine TT.steps (cd := cd165) 3 (c' := (7, [(2, 36), (0, ((bs (fun p => decide (σ 40 p = σ 41 p)) n : Nat) : Int)), (0, ((n : Nat) : Int))], [(0, (σ 36 0)), (0, ((n : Nat) : Int))], σ)) rfl rfl ?_
    refine TT.top0 (z := ((np : Nat) : Int)) hc ?_
    refine TT.steps (cd := cd165) 1 (c' := ((if decide (((np : Nat) : Int) ≤ ((n : Nat) : Int)) = true then 27 else 8), [(2, 36), (0, ((bs (fun p => decide (σ 40 p = σ 41 p)) n : Nat) : Int)), (0, ((n : Nat) : Int))], [], σ)) rfl rfl ?_
    refine TT.br (p := ((np : Nat) : Int) ≤ ((n : Nat) : Int)) (fun h1 => absurd h1 (show ¬ (((np : Nat) : Int) ≤ ((n : Nat) : Int)) by omega)) (fun h1 => ?_)
    refine TT.steps (cd := cd165) 4 (c' := (12, [(2, 36), (0, ((bs (fun p => decide (σ 40 p = σ 41 p)) n : Nat) : Int)), (0, ((n : Nat) : Int))], [(0, ((n : Nat) : Int)), (2, 40), (0, ((bs (fun p => decide (σ 40 p = σ 41 p)) n : Nat) : Int))], σ)) rfl rfl ?_
    refine TT.aldN (cd := cd165) (40) (n) rfl rfl rfl rfl (show n < 10 by omega) ?_
    refine TT.steps (cd := cd165) 3 (c' := (16, [(2, 36), (0, ((bs (fun p => decide (σ 40 p = σ 41 p)) n : Nat) : Int)), (0, ((n : Nat) : Int))], [(0, ((n : Nat) : Int)), (2, 41), (0, (σ 40 n)), (0, ((bs (fun p => decide (σ 40 p = σ 41 p)) n : Nat) : Int))], σ)) rfl rfl ?_
    refine TT.aldN (cd := cd165) (41) (n) rfl rfl rfl rfl (show n < 10 by omega) ?_
    refine TT.steps (cd := cd165) 1 (c' := ((if decide (¬ (σ 40 n) = (σ 41 n)) = true then 22 else 18), [(2, 36), (0, ((bs (fun p => decide (σ 40 p = σ 41 p)) n : Nat) : Int)), (0, ((n : Nat) : Int))], [(0, ((bs (fun p => decide (σ 40 p = σ 41 p)) n : Nat) : Int))], σ)) rfl rfl ?_
    refine TT.br (p := ¬ (σ 40 n) = (σ 41 n)) (fun h2 => ?_) (fun h2 => ?_)
    · refine TT.steps (cd := cd165) 3 (c' := (25, [(2, 36), (0, (aOr ((bs (fun p => decide (σ 40 p = σ 41 p)) n : Nat) : Int) 0)), (0, ((n : Nat) : Int))], [], σ)) rfl rfl ?_
      refine TT.inc (cd := cd165) ((n + 1 : Nat) : Int) rfl rfl rfl rfl (fun h => absurd h.2 (show ¬ (0 = 1) by decide)) (aAdd_n (a := n) (b := 1) (by omega)) (ls' := [(2, 36), (0, (aOr ((bs (fun p => decide (σ 40 p = σ 41 p)) n : Nat) : Int) 0)), (0, ((n + 1 : Nat) : Int))]) rfl ?_
      refine TT.steps (cd := cd165) 1 (c' := (4, [(2, 36), (0, (aOr ((bs (fun p => decide (σ 40 p = σ 41 p)) n : Nat) : Int) 0)), (0, ((n + 1 : Nat) : Int))], [], σ)) rfl rfl ?_
      have e1 : (aOr ((bs (fun p => decide (σ 40 p = σ 41 p)) n : Nat) : Int) 0) = ((bs (fun p => decide (σ 40 p = σ 41 p)) (n + 1) : Nat) : Int) := by first | exact bs_t (decide_eq_true (by omega)) (by omega) | exact bs_z (decide_eq_false (by omega)) (by omega) | exact bs_f (decide_eq_false (by omega))
      rw [e1]
      have e2 : ((n + 1 : Nat) : Int) = (((n + 1) : Nat) : Int) := by omega
      rw [e2]
      exact ih (n + 1) (by omega)
    · refine TT.steps (cd := cd165) 6 (c' := (25, [(2, 36), (0, (aOr ((bs (fun p => decide (σ 40 p = σ 41 p)) n : Nat) : Int) (aShl 1 ((n : Nat) : Int)))), (0, ((n : Nat) : Int))], [], σ)) rfl rfl ?_
      refine TT.inc (cd := cd165) ((n + 1 : Nat) : Int) rfl rfl rfl rfl (fun h => absurd h.2 (show ¬ (0 = 1) by decide)) (aAdd_n (a := n) (b := 1) (by omega)) (ls' := [(2, 36), (0, (aOr ((bs (fun p => decide (σ 40 p = σ 41 p)) n : Nat) : Int) (aShl 1 ((n : Nat) : Int)))), (0, ((n + 1 : Nat) : Int))]) rfl ?_
      refine TT.steps (cd := cd165) 1 (c' := (4, [(2, 36), (0, (aOr ((bs (fun p => decide (σ 40 p = σ 41 p)) n : Nat) : Int) (aShl 1 ((n : Nat) : Int)))), (0, ((n + 1 : Nat) : Int))], [], σ)) rfl rfl ?_
      have e1 : (aOr ((bs (fun p => decide (σ 40 p = σ 41 p)) n : Nat) : Int) (aShl 1 ((n : Nat) : Int))) = ((bs (fun p => decide (σ 40 p = σ 41 p)) (n + 1) : Nat) : Int) := by first | exact bs_t (decide_eq_true (by omega)) (by omega) | exact bs_z (decide_eq_false (by omega)) (by omega) | exact bs_f (decide_eq_false (by omega))
      rw [e1]
      have e2 : ((n + 1 : Nat) : Int) = (((n + 1) : Nat) : Int) := by omega
      rw [e2]
      exact ih (n + 1) (by omega)
theorem u_contentN (X : AX) (np : Nat) (σ : AH) (hc : σ 36 0 = (np : Int)) (hnp2 : np ≤ 10) : TT X 165 (0, [(2, 36), (9, 0), (9, 0)], [], σ) (fun r σ' => r = some (0, ((bs (fun p => decide (σ 40 p = σ 41 p)) np : Nat) : Int)) ∧ σ' = σ) := by
  refine TT.steps (cd := cd165) 4 (c' := (4, [(2, 36), (0, 0), (0, 0)], [], σ)) rfl rfl ?_
  refine ul_contentN X _  np σ hc hnp2 ?_ np 0 (by omega)
  refine TT.steps (cd := cd165) 1 (c' := (28, [(2, 36), (0, ((bs (fun p => decide (σ 40 p = σ 41 p)) np : Nat) : Int)), (0, ((np : Nat) : Int))], [(0, ((bs (fun p => decide (σ 40 p = σ 41 p)) np : Nat) : Int))], σ)) rfl rfl ?_
  exact TT.ret (cd := cd165) rfl rfl rfl rfl (⟨rfl, rfl⟩)
theorem ul_bornAtS (X : AX) (Q : Option AV → AH → Prop) (s : Int) (np : Nat) (σ : AH) (hc : σ 42 0 = (np : Int)) (hnp2 : np ≤ 10) (kk : TT X 161 (28, [(2, 42), (0, s), (0, ((bs (fun p => decide (σ 44 p = s ∧ σ 45 p = -1)) np : Nat) : Int)), (0, ((np : Nat) : Int))], [], σ) Q) : ∀ (d n : Nat), n + d = np → TT X 161 (4, [(2, 42), (0, s), (0, ((bs (fun p => decide (σ 44 p = s ∧ σ 45 p = -1)) n : Nat) : Int)), (0, ((n : Nat) : Int))], [], σ) Q := by
  intro d
  induction d with
  | zero =>
    intro n hn
    have hnn : n = np := by omega
    rw [hnn]
    refine TT.steps (cd := cd161) 3 (c' := (7, [(2, 42), (0, s), (0, ((bs (fun p => decide (σ 44 p = s ∧ σ 45 p = -1)) np : Nat) : Int)), (0, ((np : Nat) : Int))], [(0, (σ 42 0)), (0, ((np : Nat) : Int))], σ)) rfl rfl ?_
    refine TT.top0 (z := ((np : Nat) : Int)) hc ?_
    refine TT.steps (cd := cd161) 1 (c' := ((if decide (((np : Nat) : Int) ≤ ((np : Nat) : Int)) = true then 28 else 8), [(2, 42), (0, s), (0, ((bs (fun p => decide (σ 44 p = s ∧ σ 45 p = -1)) np : Nat) : Int)), (0, ((np : Nat) : Int))], [], σ)) rfl rfl ?_
    refine TT.br (p := ((np : Nat) : Int) ≤ ((np : Nat) : Int)) (fun h1 => ?_) (fun h1 => absurd (show ((np : Nat) : Int) ≤ ((np : Nat) : Int) by omega) h1)
    exact kk
  | succ d ih =>
    intro n hn
    refine TT.steps (cd := cd161) 3 (c' := (7, [(2, 42), (0, s), (0, ((bs (fun p => decide (σ 44 p = s ∧ σ 45 p = -1)) n : Nat) : Int)), (0, ((n : Nat) : Int))], [(0, (σ 42 0)), (0, ((n : Nat) : Int))], σ)) rfl rfl ?_
    refine TT.top0 (z := ((np : Nat) : Int)) hc ?_
    refine TT.steps (cd := cd161) 1 (c' := ((if decide (((np : Nat) : Int) ≤ ((n : Nat) : Int)) = true then 28 else 8), [(2, 42), (0, s), (0, ((bs (fun p => decide (σ 44 p = s ∧ σ 45 p = -1)) n : Nat) : Int)), (0, ((n : Nat) : Int))], [], σ)) rfl rfl ?_
    refine TT.br (p := ((np : Nat) : Int) ≤ ((n : Nat) : Int)) (fun h1 => absurd h1 (show ¬ (((np : Nat) : Int) ≤ ((n : Nat) : Int)) by omega)) (fun h1 => ?_)
    refine TT.steps (cd := cd161) 3 (c' := (11, [(2, 42), (0, s), (0, ((bs (fun p => decide (σ 44 p = s ∧ σ 45 p = -1)) n : Nat) : Int)), (0, ((n : Nat) : Int))], [(0, ((n : Nat) : Int)), (2, 44)], σ)) rfl rfl ?_
    refine TT.aldN (cd := cd161) (44) (n) rfl rfl rfl rfl (show n < 10 by omega) ?_
    refine TT.steps (cd := cd161) 2 (c' := ((if decide (¬ (σ 44 n) = s) = true then 26 else 14), [(2, 42), (0, s), (0, ((bs (fun p => decide (σ 44 p = s ∧ σ 45 p = -1)) n : Nat) : Int)), (0, ((n : Nat) : Int))], [], σ)) rfl rfl ?_
    refine TT.br (p := ¬ (σ 44 n) = s) (fun h2 => ?_) (fun h2 => ?_)
    · refine TT.inc (cd := cd161) ((n + 1 : Nat) : Int) rfl rfl rfl rfl (fun h => absurd h.2 (show ¬ (0 = 1) by decide)) (aAdd_n (a := n) (b := 1) (by omega)) (ls' := [(2, 42), (0, s), (0, ((bs (fun p => decide (σ 44 p = s ∧ σ 45 p = -1)) n : Nat) : Int)), (0, ((n + 1 : Nat) : Int))]) rfl ?_
      refine TT.steps (cd := cd161) 1 (c' := (4, [(2, 42), (0, s), (0, ((bs (fun p => decide (σ 44 p = s ∧ σ 45 p = -1)) n : Nat) : Int)), (0, ((n + 1 : Nat) : Int))], [], σ)) rfl rfl ?_
      have e2 : ((bs (fun p => decide (σ 44 p = s ∧ σ 45 p = -1)) n : Nat) : Int) = ((bs (fun p => decide (σ 44 p = s ∧ σ 45 p = -1)) (n + 1) : Nat) : Int) := by first | exact bs_t (decide_eq_true (by omega)) (by omega) | exact bs_z (decide_eq_false (by omega)) (by omega) | exact bs_f (decide_eq_false (by omega))
      rw [e2]
      have e3 : ((n + 1 : Nat) : Int) = (((n + 1) : Nat) : Int) := by omega
      rw [e3]
      exact ih (n + 1) (by omega)
    · refine TT.steps (cd := cd161) 3 (c' := (17, [(2, 42), (0, s), (0, ((bs (fun p => decide (σ 44 p = s ∧ σ 45 p = -1)) n : Nat) : Int)), (0, ((n : Nat) : Int))], [(0, ((n : Nat) : Int)), (2, 45)], σ)) rfl rfl ?_
      refine TT.aldN (cd := cd161) (45) (n) rfl rfl rfl rfl (show n < 10 by omega) ?_
      refine TT.steps (cd := cd161) 2 (c' := ((if decide (¬ (σ 45 n) = (-1)) = true then 26 else 20), [(2, 42), (0, s), (0, ((bs (fun p => decide (σ 44 p = s ∧ σ 45 p = -1)) n : Nat) : Int)), (0, ((n : Nat) : Int))], [], σ)) rfl rfl ?_
      refine TT.br (p := ¬ (σ 45 n) = (-1)) (fun h3 => ?_) (fun h3 => ?_)
      · refine TT.inc (cd := cd161) ((n + 1 : Nat) : Int) rfl rfl rfl rfl (fun h => absurd h.2 (show ¬ (0 = 1) by decide)) (aAdd_n (a := n) (b := 1) (by omega)) (ls' := [(2, 42), (0, s), (0, ((bs (fun p => decide (σ 44 p = s ∧ σ 45 p = -1)) n : Nat) : Int)), (0, ((n + 1 : Nat) : Int))]) rfl ?_
        refine TT.steps (cd := cd161) 1 (c' := (4, [(2, 42), (0, s), (0, ((bs (fun p => decide (σ 44 p = s ∧ σ 45 p = -1)) n : Nat) : Int)), (0, ((n + 1 : Nat) : Int))], [], σ)) rfl rfl ?_
        have e2 : ((bs (fun p => decide (σ 44 p = s ∧ σ 45 p = -1)) n : Nat) : Int) = ((bs (fun p => decide (σ 44 p = s ∧ σ 45 p = -1)) (n + 1) : Nat) : Int) := by first | exact bs_t (decide_eq_true (by omega)) (by omega) | exact bs_z (decide_eq_false (by omega)) (by omega) | exact bs_f (decide_eq_false (by omega))
        rw [e2]
        have e3 : ((n + 1 : Nat) : Int) = (((n + 1) : Nat) : Int) := by omega
        rw [e3]
        exact ih (n + 1) (by omega)
      · refine TT.steps (cd := cd161) 6 (c' := (26, [(2, 42), (0, s), (0, (aOr ((bs (fun p => decide (σ 44 p = s ∧ σ 45 p = -1)) n : Nat) : Int) (aShl 1 ((n : Nat) : Int)))), (0, ((n : Nat) : Int))], [], σ)) rfl rfl ?_
        refine TT.inc (cd := cd161) ((n + 1 : Nat) : Int) rfl rfl rfl rfl (fun h => absurd h.2 (show ¬ (0 = 1) by decide)) (aAdd_n (a := n) (b := 1) (by omega)) (ls' := [(2, 42), (0, s), (0, (aOr ((bs (fun p => decide (σ 44 p = s ∧ σ 45 p = -1)) n : Nat) : Int) (aShl 1 ((n : Nat) : Int)))), (0, ((n + 1 : Nat) : Int))]) rfl ?_
        refine TT.steps (cd := cd161) 1 (c' := (4, [(2, 42), (0, s), (0, (aOr ((bs (fun p => decide (σ 44 p = s ∧ σ 45 p = -1)) n : Nat) : Int) (aShl 1 ((n : Nat) : Int)))), (0, ((n + 1 : Nat) : Int))], [], σ)) rfl rfl ?_
        have e2 : (aOr ((bs (fun p => decide (σ 44 p = s ∧ σ 45 p = -1)) n : Nat) : Int) (aShl 1 ((n : Nat) : Int))) = ((bs (fun p => decide (σ 44 p = s ∧ σ 45 p = -1)) (n + 1) : Nat) : Int) := by first | exact bs_t (decide_eq_true (by omega)) (by omega) | exact bs_z (decide_eq_false (by omega)) (by omega) | exact bs_f (decide_eq_false (by omega))
        rw [e2]
        have e3 : ((n + 1 : Nat) : Int) = (((n + 1) : Nat) : Int) := by omega
        rw [e3]
        exact ih (n + 1) (by omega)
theorem u_bornAtS (X : AX) (s : Int) (np : Nat) (σ : AH) (hc : σ 42 0 = (np : Int)) (hnp2 : np ≤ 10) : TT X 161 (0, [(2, 42), (0, s), (9, 0), (9, 0)], [], σ) (fun r σ' => r = some (0, ((bs (fun p => decide (σ 44 p = s ∧ σ 45 p = -1)) np : Nat) : Int)) ∧ σ' = σ) := by
  refine TT.steps (cd := cd161) 4 (c' := (4, [(2, 42), (0, s), (0, 0), (0, 0)], [], σ)) rfl rfl ?_
  refine ul_bornAtS X _ s np σ hc hnp2 ?_ np 0 (by omega)
  refine TT.steps (cd := cd161) 1 (c' := (29, [(2, 42), (0, s), (0, ((bs (fun p => decide (σ 44 p = s ∧ σ 45 p = -1)) np : Nat) : Int)), (0, ((np : Nat) : Int))], [(0, ((bs (fun p => decide (σ 44 p = s ∧ σ 45 p = -1)) np : Nat) : Int))], σ)) rfl rfl ?_
  exact TT.ret (cd := cd161) rfl rfl rfl rfl (⟨rfl, rfl⟩)
theorem ul_bornBetweenS (X : AX) (Q : Option AV → AH → Prop) (s u : Int) (np : Nat) (σ : AH) (hc : σ 42 0 = (np : Int)) (hnp2 : np ≤ 10) (kk : TT X 162 (40, [(2, 42), (0, s), (0, u), (0, ((bs (fun p => decide ((σ 44 p = s ∧ σ 45 p = u) ∨ (σ 44 p = u ∧ σ 45 p = s))) np : Nat) : Int)), (0, ((np : Nat) : Int))], [], σ) Q) : ∀ (d n : Nat), n + d = np → TT X 162 (4, [(2, 42), (0, s), (0, u), (0, ((bs (fun p => decide ((σ 44 p = s ∧ σ 45 p = u) ∨ (σ 44 p = u ∧ σ 45 p = s))) n : Nat) : Int)), (0, ((n : Nat) : Int))], [], σ) Q := by
  intro d
  induction d with
  | zero =>
    intro n hn
    have hnn : n = np := by omega
    rw [hnn]
    refine TT.steps (cd := cd162) 3 (c' := (7, [(2, 42), (0, s), (0, u), (0, ((bs (fun p => decide ((σ 44 p = s ∧ σ 45 p = u) ∨ (σ 44 p = u ∧ σ 45 p = s))) np : Nat) : Int)), (0, ((np : Nat) : Int))], [(0, (σ 42 0)), (0, ((np : Nat) : Int))], σ)) rfl rfl ?_
    refine TT.top0 (z := ((np : Nat) : Int)) hc ?_
    refine TT.steps (cd := cd162) 1 (c' := ((if decide (((np : Nat) : Int) ≤ ((np : Nat) : Int)) = true then 40 else 8), [(2, 42), (0, s), (0, u), (0, ((bs (fun p => decide ((σ 44 p = s ∧ σ 45 p = u) ∨ (σ 44 p = u ∧ σ 45 p = s))) np : Nat) : Int)), (0, ((np : Nat) : Int))], [], σ)) rfl rfl ?_
    refine TT.br (p := ((np : Nat) : Int) ≤ ((np : Nat) : Int)) (fun h1 => ?_) (fun h1 => absurd (show ((np : Nat) : Int) ≤ ((np : Nat) : Int) by omega) h1)
    exact kk
  | succ d ih =>
    intro n hn
    refine TT.steps (cd := cd162) 3 (c' := (7, [(2, 42), (0, s), (0, u), (0, ((bs (fun p => decide ((σ 44 p = s ∧ σ 45 p = u) ∨ (σ 44 p = u ∧ σ 45 p = s))) n : Nat) : Int)), (0, ((n : Nat) : Int))], [(0, (σ 42 0)), (0, ((n : Nat) : Int))], σ)) rfl rfl ?_
    refine TT.top0 (z := ((np : Nat) : Int)) hc ?_
    refine TT.steps (cd := cd162) 1 (c' := ((if decide (((np : Nat) : Int) ≤ ((n : Nat) : Int)) = true then 40 else 8), [(2, 42), (0, s), (0, u), (0, ((bs (fun p => decide ((σ 44 p = s ∧ σ 45 p = u) ∨ (σ 44 p = u ∧ σ 45 p = s))) n : Nat) : Int)), (0, ((n : Nat) : Int))], [], σ)) rfl rfl ?_
    refine TT.br (p := ((np : Nat) : Int) ≤ ((n : Nat) : Int)) (fun h1 => absurd h1 (show ¬ (((np : Nat) : Int) ≤ ((n : Nat) : Int)) by omega)) (fun h1 => ?_)
    refine TT.steps (cd := cd162) 3 (c' := (11, [(2, 42), (0, s), (0, u), (0, ((bs (fun p => decide ((σ 44 p = s ∧ σ 45 p = u) ∨ (σ 44 p = u ∧ σ 45 p = s))) n : Nat) : Int)), (0, ((n : Nat) : Int))], [(0, ((n : Nat) : Int)), (2, 44)], σ)) rfl rfl ?_
    refine TT.aldN (cd := cd162) (44) (n) rfl rfl rfl rfl (show n < 10 by omega) ?_
    refine TT.steps (cd := cd162) 2 (c' := ((if decide (¬ (σ 44 n) = s) = true then 20 else 14), [(2, 42), (0, s), (0, u), (0, ((bs (fun p => decide ((σ 44 p = s ∧ σ 45 p = u) ∨ (σ 44 p = u ∧ σ 45 p = s))) n : Nat) : Int)), (0, ((n : Nat) : Int))], [], σ)) rfl rfl ?_
    refine TT.br (p := ¬ (σ 44 n) = s) (fun h2 => ?_) (fun h2 => ?_)
    · refine TT.steps (cd := cd162) 3 (c' := (23, [(2, 42), (0, s), (0, u), (0, ((bs (fun p => decide ((σ 44 p = s ∧ σ 45 p = u) ∨ (σ 44 p = u ∧ σ 45 p = s))) n : Nat) : Int)), (0, ((n : Nat) : Int))], [(0, ((n : Nat) : Int)), (2, 44)], σ)) rfl rfl ?_
      refine TT.aldN (cd := cd162) (44) (n) rfl rfl rfl rfl (show n < 10 by omega) ?_
      refine TT.steps (cd := cd162) 2 (c' := ((if decide (¬ (σ 44 n) = u) = true then 38 else 26), [(2, 42), (0, s), (0, u), (0, ((bs (fun p => decide ((σ 44 p = s ∧ σ 45 p = u) ∨ (σ 44 p = u ∧ σ 45 p = s))) n : Nat) : Int)), (0, ((n : Nat) : Int))], [], σ)) rfl rfl ?_
      refine TT.br (p := ¬ (σ 44 n) = u) (fun h3 => ?_) (fun h3 => ?_)
      · refine TT.inc (cd := cd162) ((n + 1 : Nat) : Int) rfl rfl rfl rfl (fun h => absurd h.2 (show ¬ (0 = 1) by decide)) (aAdd_n (a := n) (b := 1) (by omega)) (ls' := [(2, 42), (0, s), (0, u), (0, ((bs (fun p => decide ((σ 44 p = s ∧ σ 45 p = u) ∨ (σ 44 p = u ∧ σ 45 p = s))) n : Nat) : Int)), (0, ((n + 1 : Nat) : Int))]) rfl ?_
        refine TT.steps (cd := cd162) 1 (c' := (4, [(2, 42), (0, s), (0, u), (0, ((bs (fun p => decide ((σ 44 p = s ∧ σ 45 p = u) ∨ (σ 44 p = u ∧ σ 45 p = s))) n : Nat) : Int)), (0, ((n + 1 : Nat) : Int))], [], σ)) rfl rfl ?_
        have e3 : ((bs (fun p => decide ((σ 44 p = s ∧ σ 45 p = u) ∨ (σ 44 p = u ∧ σ 45 p = s))) n : Nat) : Int) = ((bs (fun p => decide ((σ 44 p = s ∧ σ 45 p = u) ∨ (σ 44 p = u ∧ σ 45 p = s))) (n + 1) : Nat) : Int) := by first | exact bs_t (decide_eq_true (by omega)) (by omega) | exact bs_z (decide_eq_false (by omega)) (by omega) | exact bs_f (decide_eq_false (by omega))
        rw [e3]
        have e4 : ((n + 1 : Nat) : Int) = (((n + 1) : Nat) : Int) := by omega
        rw [e4]
        exact ih (n + 1) (by omega)
      · refine TT.steps (cd := cd162) 3 (c' := (29, [(2, 42), (0, s), (0, u), (0, ((bs (fun p => decide ((σ 44 p = s ∧ σ 45 p = u) ∨ (σ 44 p = u ∧ σ 45 p = s))) n : Nat) : Int)), (0, ((n : Nat) : Int))], [(0, ((n : Nat) : Int)), (2, 45)], σ)) rfl rfl ?_
        refine TT.aldN (cd := cd162) (45) (n) rfl rfl rfl rfl (show n < 10 by omega) ?_
        refine TT.steps (cd := cd162) 2 (c' := ((if decide (¬ (σ 45 n) = s) = true then 38 else 32), [(2, 42), (0, s), (0, u), (0, ((bs (fun p => decide ((σ 44 p = s ∧ σ 45 p = u) ∨ (σ 44 p = u ∧ σ 45 p = s))) n : Nat) : Int)), (0, ((n : Nat) : Int))], [], σ)) rfl rfl ?_
        refine TT.br (p := ¬ (σ 45 n) = s) (fun h4 => ?_) (fun h4 => ?_)
        · refine TT.inc (cd := cd162) ((n + 1 : Nat) : Int) rfl rfl rfl rfl (fun h => absurd h.2 (show ¬ (0 = 1) by decide)) (aAdd_n (a := n) (b := 1) (by omega)) (ls' := [(2, 42), (0, s), (0, u), (0, ((bs (fun p => decide ((σ 44 p = s ∧ σ 45 p = u) ∨ (σ 44 p = u ∧ σ 45 p = s))) n : Nat) : Int)), (0, ((n + 1 : Nat) : Int))]) rfl ?_
          refine TT.steps (cd := cd162) 1 (c' := (4, [(2, 42), (0, s), (0, u), (0, ((bs (fun p => decide ((σ 44 p = s ∧ σ 45 p = u) ∨ (σ 44 p = u ∧ σ 45 p = s))) n : Nat) : Int)), (0, ((n + 1 : Nat) : Int))], [], σ)) rfl rfl ?_
          have e3 : ((bs (fun p => decide ((σ 44 p = s ∧ σ 45 p = u) ∨ (σ 44 p = u ∧ σ 45 p = s))) n : Nat) : Int) = ((bs (fun p => decide ((σ 44 p = s ∧ σ 45 p = u) ∨ (σ 44 p = u ∧ σ 45 p = s))) (n + 1) : Nat) : Int) := by first | exact bs_t (decide_eq_true (by omega)) (by omega) | exact bs_z (decide_eq_false (by omega)) (by omega) | exact bs_f (decide_eq_false (by omega))
          rw [e3]
          have e4 : ((n + 1 : Nat) : Int) = (((n + 1) : Nat) : Int) := by omega
          rw [e4]
          exact ih (n + 1) (by omega)
        · refine TT.steps (cd := cd162) 6 (c' := (38, [(2, 42), (0, s), (0, u), (0, (aOr ((bs (fun p => decide ((σ 44 p = s ∧ σ 45 p = u) ∨ (σ 44 p = u ∧ σ 45 p = s))) n : Nat) : Int) (aShl 1 ((n : Nat) : Int)))), (0, ((n : Nat) : Int))], [], σ)) rfl rfl ?_
          refine TT.inc (cd := cd162) ((n + 1 : Nat) : Int) rfl rfl rfl rfl (fun h => absurd h.2 (show ¬ (0 = 1) by decide)) (aAdd_n (a := n) (b := 1) (by omega)) (ls' := [(2, 42), (0, s), (0, u), (0, (aOr ((bs (fun p => decide ((σ 44 p = s ∧ σ 45 p = u) ∨ (σ 44 p = u ∧ σ 45 p = s))) n : Nat) : Int) (aShl 1 ((n : Nat) : Int)))), (0, ((n + 1 : Nat) : Int))]) rfl ?_
          refine TT.steps (cd := cd162) 1 (c' := (4, [(2, 42), (0, s), (0, u), (0, (aOr ((bs (fun p => decide ((σ 44 p = s ∧ σ 45 p = u) ∨ (σ 44 p = u ∧ σ 45 p = s))) n : Nat) : Int) (aShl 1 ((n : Nat) : Int)))), (0, ((n + 1 : Nat) : Int))], [], σ)) rfl rfl ?_
          have e3 : (aOr ((bs (fun p => decide ((σ 44 p = s ∧ σ 45 p = u) ∨ (σ 44 p = u ∧ σ 45 p = s))) n : Nat) : Int) (aShl 1 ((n : Nat) : Int))) = ((bs (fun p => decide ((σ 44 p = s ∧ σ 45 p = u) ∨ (σ 44 p = u ∧ σ 45 p = s))) (n + 1) : Nat) : Int) := by first | exact bs_t (decide_eq_true (by omega)) (by omega) | exact bs_z (decide_eq_false (by omega)) (by omega) | exact bs_f (decide_eq_false (by omega))
          rw [e3]
          have e4 : ((n + 1 : Nat) : Int) = (((n + 1) : Nat) : Int) := by omega
          rw [e4]
          exact ih (n + 1) (by omega)
    · refine TT.steps (cd := cd162) 3 (c' := (17, [(2, 42), (0, s), (0, u), (0, ((bs (fun p => decide ((σ 44 p = s ∧ σ 45 p = u) ∨ (σ 44 p = u ∧ σ 45 p = s))) n : Nat) : Int)), (0, ((n : Nat) : Int))], [(0, ((n : Nat) : Int)), (2, 45)], σ)) rfl rfl ?_
      refine TT.aldN (cd := cd162) (45) (n) rfl rfl rfl rfl (show n < 10 by omega) ?_
      refine TT.steps (cd := cd162) 2 (c' := ((if decide ((σ 45 n) = u) = true then 32 else 20), [(2, 42), (0, s), (0, u), (0, ((bs (fun p => decide ((σ 44 p = s ∧ σ 45 p = u) ∨ (σ 44 p = u ∧ σ 45 p = s))) n : Nat) : Int)), (0, ((n : Nat) : Int))], [], σ)) rfl rfl ?_
      refine TT.br (p := (σ 45 n) = u) (fun h5 => ?_) (fun h5 => ?_)
      · refine TT.steps (cd := cd162) 6 (c' := (38, [(2, 42), (0, s), (0, u), (0, (aOr ((bs (fun p => decide ((σ 44 p = s ∧ σ 45 p = u) ∨ (σ 44 p = u ∧ σ 45 p = s))) n : Nat) : Int) (aShl 1 ((n : Nat) : Int)))), (0, ((n : Nat) : Int))], [], σ)) rfl rfl ?_
        refine TT.inc (cd := cd162) ((n + 1 : Nat) : Int) rfl rfl rfl rfl (fun h => absurd h.2 (show ¬ (0 = 1) by decide)) (aAdd_n (a := n) (b := 1) (by omega)) (ls' := [(2, 42), (0, s), (0, u), (0, (aOr ((bs (fun p => decide ((σ 44 p = s ∧ σ 45 p = u) ∨ (σ 44 p = u ∧ σ 45 p = s))) n : Nat) : Int) (aShl 1 ((n : Nat) : Int)))), (0, ((n + 1 : Nat) : Int))]) rfl ?_
        refine TT.steps (cd := cd162) 1 (c' := (4, [(2, 42), (0, s), (0, u), (0, (aOr ((bs (fun p => decide ((σ 44 p = s ∧ σ 45 p = u) ∨ (σ 44 p = u ∧ σ 45 p = s))) n : Nat) : Int) (aShl 1 ((n : Nat) : Int)))), (0, ((n + 1 : Nat) : Int))], [], σ)) rfl rfl ?_
        have e3 : (aOr ((bs (fun p => decide ((σ 44 p = s ∧ σ 45 p = u) ∨ (σ 44 p = u ∧ σ 45 p = s))) n : Nat) : Int) (aShl 1 ((n : Nat) : Int))) = ((bs (fun p => decide ((σ 44 p = s ∧ σ 45 p = u) ∨ (σ 44 p = u ∧ σ 45 p = s))) (n + 1) : Nat) : Int) := by first | exact bs_t (decide_eq_true (by omega)) (by omega) | exact bs_z (decide_eq_false (by omega)) (by omega) | exact bs_f (decide_eq_false (by omega))
        rw [e3]
        have e4 : ((n + 1 : Nat) : Int) = (((n + 1) : Nat) : Int) := by omega
        rw [e4]
        exact ih (n + 1) (by omega)
      · refine TT.steps (cd := cd162) 3 (c' := (23, [(2, 42), (0, s), (0, u), (0, ((bs (fun p => decide ((σ 44 p = s ∧ σ 45 p = u) ∨ (σ 44 p = u ∧ σ 45 p = s))) n : Nat) : Int)), (0, ((n : Nat) : Int))], [(0, ((n : Nat) : Int)), (2, 44)], σ)) rfl rfl ?_
        refine TT.aldN (cd := cd162) (44) (n) rfl rfl rfl rfl (show n < 10 by omega) ?_
        refine TT.steps (cd := cd162) 2 (c' := ((if decide (¬ (σ 44 n) = u) = true then 38 else 26), [(2, 42), (0, s), (0, u), (0, ((bs (fun p => decide ((σ 44 p = s ∧ σ 45 p = u) ∨ (σ 44 p = u ∧ σ 45 p = s))) n : Nat) : Int)), (0, ((n : Nat) : Int))], [], σ)) rfl rfl ?_
        refine TT.br (p := ¬ (σ 44 n) = u) (fun h6 => ?_) (fun h6 => ?_)
        · refine TT.inc (cd := cd162) ((n + 1 : Nat) : Int) rfl rfl rfl rfl (fun h => absurd h.2 (show ¬ (0 = 1) by decide)) (aAdd_n (a := n) (b := 1) (by omega)) (ls' := [(2, 42), (0, s), (0, u), (0, ((bs (fun p => decide ((σ 44 p = s ∧ σ 45 p = u) ∨ (σ 44 p = u ∧ σ 45 p = s))) n : Nat) : Int)), (0, ((n + 1 : Nat) : Int))]) rfl ?_
          refine TT.steps (cd := cd162) 1 (c' := (4, [(2, 42), (0, s), (0, u), (0, ((bs (fun p => decide ((σ 44 p = s ∧ σ 45 p = u) ∨ (σ 44 p = u ∧ σ 45 p = s))) n : Nat) : Int)), (0, ((n + 1 : Nat) : Int))], [], σ)) rfl rfl ?_
          have e3 : ((bs (fun p => decide ((σ 44 p = s ∧ σ 45 p = u) ∨ (σ 44 p = u ∧ σ 45 p = s))) n : Nat) : Int) = ((bs (fun p => decide ((σ 44 p = s ∧ σ 45 p = u) ∨ (σ 44 p = u ∧ σ 45 p = s))) (n + 1) : Nat) : Int) := by first | exact bs_t (decide_eq_true (by omega)) (by omega) | exact bs_z (decide_eq_false (by omega)) (by omega) | exact bs_f (decide_eq_false (by omega))
          rw [e3]
          have e4 : ((n + 1 : Nat) : Int) = (((n + 1) : Nat) : Int) := by omega
          rw [e4]
          exact ih (n + 1) (by omega)
        · refine TT.steps (cd := cd162) 3 (c' := (29, [(2, 42), (0, s), (0, u), (0, ((bs (fun p => decide ((σ 44 p = s ∧ σ 45 p = u) ∨ (σ 44 p = u ∧ σ 45 p = s))) n : Nat) : Int)), (0, ((n : Nat) : Int))], [(0, ((n : Nat) : Int)), (2, 45)], σ)) rfl rfl ?_
          refine TT.aldN (cd := cd162) (45) (n) rfl rfl rfl rfl (show n < 10 by omega) ?_
          refine TT.steps (cd := cd162) 2 (c' := ((if decide (¬ (σ 45 n) = s) = true then 38 else 32), [(2, 42), (0, s), (0, u), (0, ((bs (fun p => decide ((σ 44 p = s ∧ σ 45 p = u) ∨ (σ 44 p = u ∧ σ 45 p = s))) n : Nat) : Int)), (0, ((n : Nat) : Int))], [], σ)) rfl rfl ?_
          refine TT.br (p := ¬ (σ 45 n) = s) (fun h7 => ?_) (fun h7 => ?_)
          · refine TT.inc (cd := cd162) ((n + 1 : Nat) : Int) rfl rfl rfl rfl (fun h => absurd h.2 (show ¬ (0 = 1) by decide)) (aAdd_n (a := n) (b := 1) (by omega)) (ls' := [(2, 42), (0, s), (0, u), (0, ((bs (fun p => decide ((σ 44 p = s ∧ σ 45 p = u) ∨ (σ 44 p = u ∧ σ 45 p = s))) n : Nat) : Int)), (0, ((n + 1 : Nat) : Int))]) rfl ?_
            refine TT.steps (cd := cd162) 1 (c' := (4, [(2, 42), (0, s), (0, u), (0, ((bs (fun p => decide ((σ 44 p = s ∧ σ 45 p = u) ∨ (σ 44 p = u ∧ σ 45 p = s))) n : Nat) : Int)), (0, ((n + 1 : Nat) : Int))], [], σ)) rfl rfl ?_
            have e3 : ((bs (fun p => decide ((σ 44 p = s ∧ σ 45 p = u) ∨ (σ 44 p = u ∧ σ 45 p = s))) n : Nat) : Int) = ((bs (fun p => decide ((σ 44 p = s ∧ σ 45 p = u) ∨ (σ 44 p = u ∧ σ 45 p = s))) (n + 1) : Nat) : Int) := by first | exact bs_t (decide_eq_true (by omega)) (by omega) | exact bs_z (decide_eq_false (by omega)) (by omega) | exact bs_f (decide_eq_false (by omega))
            rw [e3]
            have e4 : ((n + 1 : Nat) : Int) = (((n + 1) : Nat) : Int) := by omega
            rw [e4]
            exact ih (n + 1) (by omega)
          · refine TT.steps (cd := cd162) 6 (c' := (38, [(2, 42), (0, s), (0, u), (0, (aOr ((bs (fun p => decide ((σ 44 p = s ∧ σ 45 p = u) ∨ (σ 44 p = u ∧ σ 45 p = s))) n : Nat) : Int) (aShl 1 ((n : Nat) : Int)))), (0, ((n : Nat) : Int))], [], σ)) rfl rfl ?_
            refine TT.inc (cd := cd162) ((n + 1 : Nat) : Int) rfl rfl rfl rfl (fun h => absurd h.2 (show ¬ (0 = 1) by decide)) (aAdd_n (a := n) (b := 1) (by omega)) (ls' := [(2, 42), (0, s), (0, u), (0, (aOr ((bs (fun p => decide ((σ 44 p = s ∧ σ 45 p = u) ∨ (σ 44 p = u ∧ σ 45 p = s))) n : Nat) : Int) (aShl 1 ((n : Nat) : Int)))), (0, ((n + 1 : Nat) : Int))]) rfl ?_
            refine TT.steps (cd := cd162) 1 (c' := (4, [(2, 42), (0, s), (0, u), (0, (aOr ((bs (fun p => decide ((σ 44 p = s ∧ σ 45 p = u) ∨ (σ 44 p = u ∧ σ 45 p = s))) n : Nat) : Int) (aShl 1 ((n : Nat) : Int)))), (0, ((n + 1 : Nat) : Int))], [], σ)) rfl rfl ?_
            have e3 : (aOr ((bs (fun p => decide ((σ 44 p = s ∧ σ 45 p = u) ∨ (σ 44 p = u ∧ σ 45 p = s))) n : Nat) : Int) (aShl 1 ((n : Nat) : Int))) = ((bs (fun p => decide ((σ 44 p = s ∧ σ 45 p = u) ∨ (σ 44 p = u ∧ σ 45 p = s))) (n + 1) : Nat) : Int) := by first | exact bs_t (decide_eq_true (by omega)) (by omega) | exact bs_z (decide_eq_false (by omega)) (by omega) | exact bs_f (decide_eq_false (by omega))
            rw [e3]
            have e4 : ((n + 1 : Nat) : Int) = (((n + 1) : Nat) : Int) := by omega
            rw [e4]
            exact ih (n + 1) (by omega)
theorem u_bornBetweenS (X : AX) (s u : Int) (np : Nat) (σ : AH) (hc : σ 42 0 = (np : Int)) (hnp2 : np ≤ 10) : TT X 162 (0, [(2, 42), (0, s), (0, u), (9, 0), (9, 0)], [], σ) (fun r σ' => r = some (0, ((bs (fun p => decide ((σ 44 p = s ∧ σ 45 p = u) ∨ (σ 44 p = u ∧ σ 45 p = s))) np : Nat) : Int)) ∧ σ' = σ) := by
  refine TT.steps (cd := cd162) 4 (c' := (4, [(2, 42), (0, s), (0, u), (0, 0), (0, 0)], [], σ)) rfl rfl ?_
  refine ul_bornBetweenS X _ s u np σ hc hnp2 ?_ np 0 (by omega)
  refine TT.steps (cd := cd162) 1 (c' := (41, [(2, 42), (0, s), (0, u), (0, ((bs (fun p => decide ((σ 44 p = s ∧ σ 45 p = u) ∨ (σ 44 p = u ∧ σ 45 p = s))) np : Nat) : Int)), (0, ((np : Nat) : Int))], [(0, ((bs (fun p => decide ((σ 44 p = s ∧ σ 45 p = u) ∨ (σ 44 p = u ∧ σ 45 p = s))) np : Nat) : Int))], σ)) rfl rfl ?_
  exact TT.ret (cd := cd162) rfl rfl rfl rfl (⟨rfl, rfl⟩)
