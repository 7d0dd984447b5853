theorem vl_pp1 (X : AX) (Q : Option AV → AH → Prop) (x : Int) (σ : AH) (kk : TT X 117 (18, [(2, 198), (0, x), (0, 14)], [], (cZe σ 14)) Q) : ∀ (d n : Nat), n + d = 14 → TT X 117 (8, [(2, 198), (0, x), (0, ((n : Nat) : Int))], [], (cZe σ n)) Q := by
  intro d
  induction d with
  | zero =>
    intro n hn
    have hnn : n = 14 := by omega
    rw [hnn]
    refine TT.steps (cd := cd117) 3 (c' := (18, [(2, 198), (0, x), (0, 14)], [], (cZe σ 14))) rfl rfl ?_
    exact kk
  | succ d ih =>
    intro n hn
    refine TT.steps (cd := cd117) 3 (c' := ((if decide (14 ≤ ((n : Nat) : Int)) = true then 18 else 11), [(2, 198), (0, x), (0, ((n : Nat) : Int))], [], (cZe σ n))) rfl rfl ?_
    refine TT.br (p := 14 ≤ ((n : Nat) : Int)) (fun h1 => absurd h1 (show ¬ (14 ≤ ((n : Nat) : Int)) by omega)) (fun h1 => ?_)
    refine TT.steps (cd := cd117) 4 (c' := (15, [(2, 198), (0, x), (0, ((n : Nat) : Int))], [(0, 0), (0, ((n : Nat) : Int)), (2, 254)], (cZe σ n))) rfl rfl ?_
    refine TT.astN (cd := cd117) (254) (n) rfl rfl rfl rfl (show n < 14 by omega) ?_
    refine TT.inc (cd := cd117) ((n + 1 : Nat) : Int) rfl rfl rfl rfl (fun h => absurd h.2 (show ¬ (0 = 1) by decide)) (aAdd_n (a := n) (b := 1) (by omega)) (ls' := [(2, 198), (0, x), (0, ((n + 1 : Nat) : Int))]) rfl ?_
    refine TT.steps (cd := cd117) 1 (c' := (8, [(2, 198), (0, x), (0, ((n + 1 : Nat) : Int))], [], (up2 (cZe σ n) 254 n 0))) rfl rfl ?_
    have e2 : ((n + 1 : Nat) : Int) = (((n + 1) : Nat) : Int) := by omega
    rw [e2]
    clear e2
    refine TT.sg (σ' := (cZe σ (n + 1))) (by exact cZe_s σ n) ?_
    exact ih (n + 1) (by omega)
theorem vl_pp2_36 (X : AX) (Q : Option AV → AH → Prop) (np : Nat) (ab : Nat → Bool) (σ : AH) (hpe : σ 198 12 = 36) (hc : σ 36 0 = (np : Int)) (hnp2 : np ≤ 10) (hat : ∀ p, p < np → ∃ s : Nat, σ 40 p = (s : Int) ∧ s < 14)  (kk : TT X 117 (63, [(2, 198), (0, ((bs ab np : Nat) : Int)), (0, ((np : Nat) : Int))], [], (cPl σ 36 ab np)) Q) : ∀ (d n : Nat), n + d = np → TT X 117 (20, [(2, 198), (0, ((bs ab np : Nat) : Int)), (0, ((n : Nat) : Int))], [], (cPl σ 36 ab n)) Q := by
  intro d
  induction d with
  | zero =>
    intro n hn
    have hnn : n = np := by omega
    rw [hnn]
    refine TT.steps (cd := cd117) 3 (c' := (23, [(2, 198), (0, ((bs ab np : Nat) : Int)), (0, ((np : Nat) : Int))], [(2, ((cPl σ 36 ab np) 198 12)), (0, ((np : Nat) : Int))], (cPl σ 36 ab np))) rfl rfl ?_
    refine TT.top0 (z := 36) ((cPl_fr σ 36 ab np 198 (12) (by decide)).trans hpe) ?_
    refine TT.steps (cd := cd117) 1 (c' := (24, [(2, 198), (0, ((bs ab np : Nat) : Int)), (0, ((np : Nat) : Int))], [(0, ((cPl σ 36 ab np) 36 0)), (0, ((np : Nat) : Int))], (cPl σ 36 ab np))) rfl rfl ?_
    refine TT.top0 (z := ((np : Nat) : Int)) ((cPl_fr σ 36 ab np 36 (0) (by decide)).trans hc) ?_
    refine TT.steps (cd := cd117) 1 (c' := ((if decide (((np : Nat) : Int) ≤ ((np : Nat) : Int)) = true then 63 else 25), [(2, 198), (0, ((bs ab np : Nat) : Int)), (0, ((np : Nat) : Int))], [], (cPl σ 36 ab np))) rfl rfl ?_
    refine TT.br (p := ((np : Nat) : Int) ≤ ((np : Nat) : Int)) (fun h1 => ?_) (fun h1 => absurd (show ((np : Nat) : Int) ≤ ((np : Nat) : Int) by omega) h1)
    exact kk
  | succ d ih =>
    intro n hn
    obtain ⟨s, hs, hs2⟩ := hat n (by omega)
    refine TT.steps (cd := cd117) 3 (c' := (23, [(2, 198), (0, ((bs ab np : Nat) : Int)), (0, ((n : Nat) : Int))], [(2, ((cPl σ 36 ab n) 198 12)), (0, ((n : Nat) : Int))], (cPl σ 36 ab n))) rfl rfl ?_
    refine TT.top0 (z := 36) ((cPl_fr σ 36 ab n 198 (12) (by decide)).trans hpe) ?_
    refine TT.steps (cd := cd117) 1 (c' := (24, [(2, 198), (0, ((bs ab np : Nat) : Int)), (0, ((n : Nat) : Int))], [(0, ((cPl σ 36 ab n) 36 0)), (0, ((n : Nat) : Int))], (cPl σ 36 ab n))) rfl rfl ?_
    refine TT.top0 (z := ((np : Nat) : Int)) ((cPl_fr σ 36 ab n 36 (0) (by decide)).trans hc) ?_
    refine TT.steps (cd := cd117) 1 (c' := ((if decide (((np : Nat) : Int) ≤ ((n : Nat) : Int)) = true then 63 else 25), [(2, 198), (0, ((bs ab np : Nat) : Int)), (0, ((n : Nat) : Int))], [], (cPl σ 36 ab n))) rfl rfl ?_
    refine TT.br (p := ((np : Nat) : Int) ≤ ((n : Nat) : Int)) (fun h1 => absurd h1 (show ¬ (((np : Nat) : Int) ≤ ((n : Nat) : Int)) by omega)) (fun h1 => ?_)
    refine TT.steps (cd := cd117) 5 (c' := (30, [(2, 198), (0, ((bs ab np : Nat) : Int)), (0, ((n : Nat) : Int))], [(2, ((cPl σ 36 ab n) 198 12)), (0, ((n : Nat) : Int)), (2, 247)], (cPl σ 36 ab n))) rfl rfl ?_
    refine TT.top0 (z := 36) ((cPl_fr σ 36 ab n 198 (12) (by decide)).trans hpe) ?_
    refine TT.steps (cd := cd117) 2 (c' := (32, [(2, 198), (0, ((bs ab np : Nat) : Int)), (0, ((n : Nat) : Int))], [(0, ((n : Nat) : Int)), (2, 40), (0, ((n : Nat) : Int)), (2, 247)], (cPl σ 36 ab n))) rfl rfl ?_
    refine TT.aldN (cd := cd117) (40) (n) rfl rfl rfl rfl (show n < 10 by omega) ?_
    refine TT.top0 (z := ((s : Nat) : Int)) ((cPl_fr σ 36 ab n 40 (n) (by decide)).trans hs) ?_
    refine TT.astN (cd := cd117) (247) (n) rfl rfl rfl rfl (show n < 10 by omega) ?_
    refine TT.steps (cd := cd117) 4 (c' := (38, [(2, 198), (0, ((bs ab np : Nat) : Int)), (0, ((n : Nat) : Int))], [(0, -1), (0, ((n : Nat) : Int)), (2, 248)], (up2 (cPl σ 36 ab n) 247 n ((s : Nat) : Int)))) rfl rfl ?_
    refine TT.astN (cd := cd117) (248) (n) rfl rfl rfl rfl (show n < 10 by omega) ?_
    refine TT.steps (cd := cd117) 4 (c' := (43, [(2, 198), (0, ((bs ab np : Nat) : Int)), (0, ((n : Nat) : Int))], [(0, 0), (0, ((n : Nat) : Int)), (2, 249)], (up2 (up2 (cPl σ 36 ab n) 247 n ((s : Nat) : Int)) 248 n (-1)))) rfl rfl ?_
    refine TT.astN (cd := cd117) (249) (n) rfl rfl rfl rfl (show n < 10 by omega) ?_
    refine TT.steps (cd := cd117) 5 (c' := (49, [(2, 198), (0, ((bs ab np : Nat) : Int)), (0, ((n : Nat) : Int))], [(0, ((n : Nat) : Int)), (2, 247), (2, 254)], (up2 (up2 (up2 (cPl σ 36 ab n) 247 n ((s : Nat) : Int)) 248 n (-1)) 249 n 0))) rfl rfl ?_
    refine TT.aldN (cd := cd117) (247) (n) rfl rfl rfl rfl (show n < 10 by omega) ?_
    refine TT.top0 (z := ((s : Nat) : Int)) (((up2_far (k := 249) (k' := 247) _ _ _ _ (by decide)).trans (up2_far (k := 248) (k' := 247) _ _ _ _ (by decide))).trans (up2_hit _ _ _ _)) ?_
    refine TT.steps (cd := cd117) 1 (c' := (51, [(2, 198), (0, ((bs ab np : Nat) : Int)), (0, ((n : Nat) : Int))], [(0, ((s : Nat) : Int)), (2, 254), (0, ((s : Nat) : Int)), (2, 254)], (up2 (up2 (up2 (cPl σ 36 ab n) 247 n ((s : Nat) : Int)) 248 n (-1)) 249 n 0))) rfl rfl ?_
    refine TT.aldN (cd := cd117) (254) (s) rfl rfl rfl rfl (show s < 14 by omega) ?_
    refine TT.top0 (z := ((bs (fun p => decide (σ 40 p = (s : Int)) && !ab p) n : Nat) : Int)) ((((up2_far (k := 249) (k' := 254) _ _ _ _ (by decide)).trans (up2_far (k := 248) (k' := 254) _ _ _ _ (by decide))).trans (up2_far (k := 247) (k' := 254) _ _ _ _ (by decide))).trans (cPl_h σ 36 ab n s (by omega))) ?_
    refine TT.steps (cd := cd117) 7 (c' := (59, [(2, 198), (0, ((bs ab np : Nat) : Int)), (0, ((n : Nat) : Int))], [(0, (aAnd (aShl 1 ((n : Nat) : Int)) (aXor ((bs ab np : Nat) : Int) (-1)))), (0, ((bs (fun p => decide (σ 40 p = (s : Int)) && !ab p) n : Nat) : Int)), (0, ((s : Nat) : Int)), (2, 254)], (up2 (up2 (up2 (cPl σ 36 ab n) 247 n ((s : Nat) : Int)) 248 n (-1)) 249 n 0))) rfl rfl ?_
    refine TT.top0 (z := ((if ab n = true then 0 else aShl 1 ((n : Nat) : Int)) : Int)) (one_sub ab (n := n) (by omega) (by omega)) ?_
    refine TT.steps (cd := cd117) 1 (c' := (60, [(2, 198), (0, ((bs ab np : Nat) : Int)), (0, ((n : Nat) : Int))], [(0, (aOr ((bs (fun p => decide (σ 40 p = (s : Int)) && !ab p) n : Nat) : Int) ((if ab n = true then 0 else aShl 1 ((n : Nat) : Int)) : Int))), (0, ((s : Nat) : Int)), (2, 254)], (up2 (up2 (up2 (cPl σ 36 ab n) 247 n ((s : Nat) : Int)) 248 n (-1)) 249 n 0))) rfl rfl ?_
    refine TT.astN (cd := cd117) (254) (s) rfl rfl rfl rfl (show s < 14 by omega) ?_
    refine TT.inc (cd := cd117) ((n + 1 : Nat) : Int) rfl rfl rfl rfl (fun h => absurd h.2 (show ¬ (0 = 1) by decide)) (aAdd_n (a := n) (b := 1) (by omega)) (ls' := [(2, 198), (0, ((bs ab np : Nat) : Int)), (0, ((n + 1 : Nat) : Int))]) rfl ?_
    refine TT.steps (cd := cd117) 1 (c' := (20, [(2, 198), (0, ((bs ab np : Nat) : Int)), (0, ((n + 1 : Nat) : Int))], [], (up2 (up2 (up2 (up2 (cPl σ 36 ab n) 247 n ((s : Nat) : Int)) 248 n (-1)) 249 n 0) 254 s (aOr ((bs (fun p => decide (σ 40 p = (s : Int)) && !ab p) n : Nat) : Int) ((if ab n = true then 0 else aShl 1 ((n : Nat) : Int)) : Int))))) rfl rfl ?_
    have e2 : ((n + 1 : Nat) : Int) = (((n + 1) : Nat) : Int) := by omega
    rw [e2]
    clear e2
    refine TT.sg (σ' := (cPl σ 36 ab (n + 1))) (by exact cPl_s σ 36 ab n s hs hs2 (by omega)) ?_
    exact ih (n + 1) (by omega)
theorem v_placePeople_36 (X : AX) (np : Nat) (ab : Nat → Bool) (σ : AH) (hpe : σ 198 12 = 36) (hc : σ 36 0 = (np : Int)) (hnp2 : np ≤ 10) (hat : ∀ p, p < np → ∃ s : Nat, σ 40 p = (s : Int) ∧ s < 14)  : TT X 117 (0, [(2, 198), (0, ((bs ab np : Nat) : Int)), (9, 0)], [], σ) (fun r σ' => r = none ∧ σ' = cPl (up2 (up2 σ 198 7 0) 198 15 0) 36 ab np) := by
  refine TT.steps (cd := cd117) 8 (c' := (8, [(2, 198), (0, ((bs ab np : Nat) : Int)), (0, 0)], [], (up2 (up2 σ 198 7 0) 198 15 0))) rfl rfl ?_
  refine TT.sg (σ' := cZe (up2 (up2 σ 198 7 0) 198 15 0) 0) (cZe_0 _).symm ?_
  refine vl_pp1 X _ _ (up2 (up2 σ 198 7 0) 198 15 0) ?_ 14 0 (by omega)
  refine TT.steps (cd := cd117) 2 (c' := (20, [(2, 198), (0, ((bs ab np : Nat) : Int)), (0, 0)], [], (cZe (up2 (up2 σ 198 7 0) 198 15 0) 14))) rfl rfl ?_
  refine TT.sg (σ' := cPl (up2 (up2 σ 198 7 0) 198 15 0) 36 ab 0) (cPl_0 _ _ _) ?_
  refine vl_pp2_36 X _ np ab (up2 (up2 σ 198 7 0) 198 15 0) ?_ ?_ hnp2 ?_ ?_ np 0 (by omega)
  · exact (up2_by _ _ _ (by decide)).trans ((up2_by _ _ _ (by decide)).trans hpe)
  · exact (up2_far _ _ _ _ (by decide)).trans ((up2_far _ _ _ _ (by decide)).trans hc)
  · intro p hp; rw [up2_far _ _ _ _ (by decide), up2_far _ _ _ _ (by decide)]; exact hat p hp
  exact TT.ret (cd := cd117) rfl rfl rfl rfl (⟨rfl, rfl⟩)
theorem vl_pp2_42 (X : AX) (Q : Option AV → AH → Prop) (np : Nat) (ab : Nat → Bool) (σ : AH) (hpe : σ 198 12 = 42) (hc : σ 42 0 = (np : Int)) (hnp2 : np ≤ 10) (hat : ∀ p, p < np → ∃ s : Nat, σ 46 p = (s : Int) ∧ s < 14)  (kk : TT X 117 (63, [(2, 198), (0, ((bs ab np : Nat) : Int)), (0, ((np : Nat) : Int))], [], (cPl σ 42 ab np)) Q) : ∀ (d n : Nat), n + d = np → TT X 117 (20, [(2, 198), (0, ((bs ab np : Nat) : Int)), (0, ((n : Nat) : Int))], [], (cPl σ 42 ab n)) Q := by
  intro d
  induction d with
  | zero =>
    intro n hn
    have hnn : n = np := by omega
    rw [hnn]
    refine TT.steps (cd := cd117) 3 (c' := (23, [(2, 198), (0, ((bs ab np : Nat) : Int)), (0, ((np : Nat) : Int))], [(2, ((cPl σ 42 ab np) 198 12)), (0, ((np : Nat) : Int))], (cPl σ 42 ab np))) rfl rfl ?_
    refine TT.top0 (z := 42) ((cPl_fr σ 42 ab np 198 (12) (by decide)).trans hpe) ?_
    refine TT.steps (cd := cd117) 1 (c' := (24, [(2, 198), (0, ((bs ab np : Nat) : Int)), (0, ((np : Nat) : Int))], [(0, ((cPl σ 42 ab np) 42 0)), (0, ((np : Nat) : Int))], (cPl σ 42 ab np))) rfl rfl ?_
    refine TT.top0 (z := ((np : Nat) : Int)) ((cPl_fr σ 42 ab np 42 (0) (by decide)).trans hc) ?_
    refine TT.steps (cd := cd117) 1 (c' := ((if decide (((np : Nat) : Int) ≤ ((np : Nat) : Int)) = true then 63 else 25), [(2, 198), (0, ((bs ab np : Nat) : Int)), (0, ((np : Nat) : Int))], [], (cPl σ 42 ab np))) rfl rfl ?_
    refine TT.br (p := ((np : Nat) : Int) ≤ ((np : Nat) : Int)) (fun h1 => ?_) (fun h1 => absurd (show ((np : Nat) : Int) ≤ ((np : Nat) : Int) by omega) h1)
    exact kk
  | succ d ih =>
    intro n hn
    obtain ⟨s, hs, hs2⟩ := hat n (by omega)
    refine TT.steps (cd := cd117) 3 (c' := (23, [(2, 198), (0, ((bs ab np : Nat) : Int)), (0, ((n : Nat) : Int))], [(2, ((cPl σ 42 ab n) 198 12)), (0, ((n : Nat) : Int))], (cPl σ 42 ab n))) rfl rfl ?_
    refine TT.top0 (z := 42) ((cPl_fr σ 42 ab n 198 (12) (by decide)).trans hpe) ?_
    refine TT.steps (cd := cd117) 1 (c' := (24, [(2, 198), (0, ((bs ab np : Nat) : Int)), (0, ((n : Nat) : Int))], [(0, ((cPl σ 42 ab n) 42 0)), (0, ((n : Nat) : Int))], (cPl σ 42 ab n))) rfl rfl ?_
    refine TT.top0 (z := ((np : Nat) : Int)) ((cPl_fr σ 42 ab n 42 (0) (by decide)).trans hc) ?_
    refine TT.steps (cd := cd117) 1 (c' := ((if decide (((np : Nat) : Int) ≤ ((n : Nat) : Int)) = true then 63 else 25), [(2, 198), (0, ((bs ab np : Nat) : Int)), (0, ((n : Nat) : Int))], [], (cPl σ 42 ab n))) rfl rfl ?_
    refine TT.br (p := ((np : Nat) : Int) ≤ ((n : Nat) : Int)) (fun h1 => absurd h1 (show ¬ (((np : Nat) : Int) ≤ ((n : Nat) : Int)) by omega)) (fun h1 => ?_)
    refine TT.steps (cd := cd117) 5 (c' := (30, [(2, 198), (0, ((bs ab np : Nat) : Int)), (0, ((n : Nat) : Int))], [(2, ((cPl σ 42 ab n) 198 12)), (0, ((n : Nat) : Int)), (2, 247)], (cPl σ 42 ab n))) rfl rfl ?_
    refine TT.top0 (z := 42) ((cPl_fr σ 42 ab n 198 (12) (by decide)).trans hpe) ?_
    refine TT.steps (cd := cd117) 2 (c' := (32, [(2, 198), (0, ((bs ab np : Nat) : Int)), (0, ((n : Nat) : Int))], [(0, ((n : Nat) : Int)), (2, 46), (0, ((n : Nat) : Int)), (2, 247)], (cPl σ 42 ab n))) rfl rfl ?_
    refine TT.aldN (cd := cd117) (46) (n) rfl rfl rfl rfl (show n < 10 by omega) ?_
    refine TT.top0 (z := ((s : Nat) : Int)) ((cPl_fr σ 42 ab n 46 (n) (by decide)).trans hs) ?_
    refine TT.astN (cd := cd117) (247) (n) rfl rfl rfl rfl (show n < 10 by omega) ?_
    refine TT.steps (cd := cd117) 4 (c' := (38, [(2, 198), (0, ((bs ab np : Nat) : Int)), (0, ((n : Nat) : Int))], [(0, -1), (0, ((n : Nat) : Int)), (2, 248)], (up2 (cPl σ 42 ab n) 247 n ((s : Nat) : Int)))) rfl rfl ?_
    refine TT.astN (cd := cd117) (248) (n) rfl rfl rfl rfl (show n < 10 by omega) ?_
    refine TT.steps (cd := cd117) 4 (c' := (43, [(2, 198), (0, ((bs ab np : Nat) : Int)), (0, ((n : Nat) : Int))], [(0, 0), (0, ((n : Nat) : Int)), (2, 249)], (up2 (up2 (cPl σ 42 ab n) 247 n ((s : Nat) : Int)) 248 n (-1)))) rfl rfl ?_
    refine TT.astN (cd := cd117) (249) (n) rfl rfl rfl rfl (show n < 10 by omega) ?_
    refine TT.steps (cd := cd117) 5 (c' := (49, [(2, 198), (0, ((bs ab np : Nat) : Int)), (0, ((n : Nat) : Int))], [(0, ((n : Nat) : Int)), (2, 247), (2, 254)], (up2 (up2 (up2 (cPl σ 42 ab n) 247 n ((s : Nat) : Int)) 248 n (-1)) 249 n 0))) rfl rfl ?_
    refine TT.aldN (cd := cd117) (247) (n) rfl rfl rfl rfl (show n < 10 by omega) ?_
    refine TT.top0 (z := ((s : Nat) : Int)) (((up2_far (k := 249) (k' := 247) _ _ _ _ (by decide)).trans (up2_far (k := 248) (k' := 247) _ _ _ _ (by decide))).trans (up2_hit _ _ _ _)) ?_
    refine TT.steps (cd := cd117) 1 (c' := (51, [(2, 198), (0, ((bs ab np : Nat) : Int)), (0, ((n : Nat) : Int))], [(0, ((s : Nat) : Int)), (2, 254), (0, ((s : Nat) : Int)), (2, 254)], (up2 (up2 (up2 (cPl σ 42 ab n) 247 n ((s : Nat) : Int)) 248 n (-1)) 249 n 0))) rfl rfl ?_
    refine TT.aldN (cd := cd117) (254) (s) rfl rfl rfl rfl (show s < 14 by omega) ?_
    refine TT.top0 (z := ((bs (fun p => decide (σ 46 p = (s : Int)) && !ab p) n : Nat) : Int)) ((((up2_far (k := 249) (k' := 254) _ _ _ _ (by decide)).trans (up2_far (k := 248) (k' := 254) _ _ _ _ (by decide))).trans (up2_far (k := 247) (k' := 254) _ _ _ _ (by decide))).trans (cPl_h σ 42 ab n s (by omega))) ?_
    refine TT.steps (cd := cd117) 7 (c' := (59, [(2, 198), (0, ((bs ab np : Nat) : Int)), (0, ((n : Nat) : Int))], [(0, (aAnd (aShl 1 ((n : Nat) : Int)) (aXor ((bs ab np : Nat) : Int) (-1)))), (0, ((bs (fun p => decide (σ 46 p = (s : Int)) && !ab p) n : Nat) : Int)), (0, ((s : Nat) : Int)), (2, 254)], (up2 (up2 (up2 (cPl σ 42 ab n) 247 n ((s : Nat) : Int)) 248 n (-1)) 249 n 0))) rfl rfl ?_
    refine TT.top0 (z := ((if ab n = true then 0 else aShl 1 ((n : Nat) : Int)) : Int)) (one_sub ab (n := n) (by omega) (by omega)) ?_
    refine TT.steps (cd := cd117) 1 (c' := (60, [(2, 198), (0, ((bs ab np : Nat) : Int)), (0, ((n : Nat) : Int))], [(0, (aOr ((bs (fun p => decide (σ 46 p = (s : Int)) && !ab p) n : Nat) : Int) ((if ab n = true then 0 else aShl 1 ((n : Nat) : Int)) : Int))), (0, ((s : Nat) : Int)), (2, 254)], (up2 (up2 (up2 (cPl σ 42 ab n) 247 n ((s : Nat) : Int)) 248 n (-1)) 249 n 0))) rfl rfl ?_
    refine TT.astN (cd := cd117) (254) (s) rfl rfl rfl rfl (show s < 14 by omega) ?_
    refine TT.inc (cd := cd117) ((n + 1 : Nat) : Int) rfl rfl rfl rfl (fun h => absurd h.2 (show ¬ (0 = 1) by decide)) (aAdd_n (a := n) (b := 1) (by omega)) (ls' := [(2, 198), (0, ((bs ab np : Nat) : Int)), (0, ((n + 1 : Nat) : Int))]) rfl ?_
    refine TT.steps (cd := cd117) 1 (c' := (20, [(2, 198), (0, ((bs ab np : Nat) : Int)), (0, ((n + 1 : Nat) : Int))], [], (up2 (up2 (up2 (up2 (cPl σ 42 ab n) 247 n ((s : Nat) : Int)) 248 n (-1)) 249 n 0) 254 s (aOr ((bs (fun p => decide (σ 46 p = (s : Int)) && !ab p) n : Nat) : Int) ((if ab n = true then 0 else aShl 1 ((n : Nat) : Int)) : Int))))) rfl rfl ?_
    have e2 : ((n + 1 : Nat) : Int) = (((n + 1) : Nat) : Int) := by omega
    rw [e2]
    clear e2
    refine TT.sg (σ' := (cPl σ 42 ab (n + 1))) (by exact cPl_s σ 42 ab n s hs hs2 (by omega)) ?_
    exact ih (n + 1) (by omega)
theorem v_placePeople_42 (X : AX) (np : Nat) (ab : Nat → Bool) (σ : AH) (hpe : σ 198 12 = 42) (hc : σ 42 0 = (np : Int)) (hnp2 : np ≤ 10) (hat : ∀ p, p < np → ∃ s : Nat, σ 46 p = (s : Int) ∧ s < 14)  : TT X 117 (0, [(2, 198), (0, ((bs ab np : Nat) : Int)), (9, 0)], [], σ) (fun r σ' => r = none ∧ σ' = cPl (up2 (up2 σ 198 7 0) 198 15 0) 42 ab np) := by
  refine TT.steps (cd := cd117) 8 (c' := (8, [(2, 198), (0, ((bs ab np : Nat) : Int)), (0, 0)], [], (up2 (up2 σ 198 7 0) 198 15 0))) rfl rfl ?_
  refine TT.sg (σ' := cZe (up2 (up2 σ 198 7 0) 198 15 0) 0) (cZe_0 _).symm ?_
  refine vl_pp1 X _ _ (up2 (up2 σ 198 7 0) 198 15 0) ?_ 14 0 (by omega)
  refine TT.steps (cd := cd117) 2 (c' := (20, [(2, 198), (0, ((bs ab np : Nat) : Int)), (0, 0)], [], (cZe (up2 (up2 σ 198 7 0) 198 15 0) 14))) rfl rfl ?_
  refine TT.sg (σ' := cPl (up2 (up2 σ 198 7 0) 198 15 0) 42 ab 0) (cPl_0 _ _ _) ?_
  refine vl_pp2_42 X _ np ab (up2 (up2 σ 198 7 0) 198 15 0) ?_ ?_ hnp2 ?_ ?_ np 0 (by omega)
  · exact (up2_by _ _ _ (by decide)).trans ((up2_by _ _ _ (by decide)).trans hpe)
  · exact (up2_far _ _ _ _ (by decide)).trans ((up2_far _ _ _ _ (by decide)).trans hc)
  · intro p hp; rw [up2_far _ _ _ _ (by decide), up2_far _ _ _ _ (by decide)]; exact hat p hp
  exact TT.ret (cd := cd117) rfl rfl rfl rfl (⟨rfl, rfl⟩)
theorem vl_pt_8 (X : AX) (Q : Option AV → AH → Prop) (nt : Nat) (σ : AH) (hli : σ 198 11 = 8) (hnt : σ 8 2 = (nt : Int)) (hnt2 : nt ≤ 6)  (kk : TT X 118 (51, [(2, 198), (0, ((nt : Nat) : Int))], [], (cTr σ 8 nt)) Q) : ∀ (d n : Nat), n + d = nt → TT X 118 (8, [(2, 198), (0, ((n : Nat) : Int))], [], (cTr σ 8 n)) Q := by
  intro d
  induction d with
  | zero =>
    intro n hn
    have hnn : n = nt := by omega
    rw [hnn]
    refine TT.steps (cd := cd118) 3 (c' := (11, [(2, 198), (0, ((nt : Nat) : Int))], [(2, ((cTr σ 8 nt) 198 11)), (0, ((nt : Nat) : Int))], (cTr σ 8 nt))) rfl rfl ?_
    refine TT.top0 (z := 8) ((cTr_fr σ 8 nt 198 (11) (by decide)).trans hli) ?_
    refine TT.steps (cd := cd118) 1 (c' := (12, [(2, 198), (0, ((nt : Nat) : Int))], [(0, ((cTr σ 8 nt) 8 2)), (0, ((nt : Nat) : Int))], (cTr σ 8 nt))) rfl rfl ?_
    refine TT.top0 (z := ((nt : Nat) : Int)) ((cTr_fr σ 8 nt 8 (2) (by decide)).trans hnt) ?_
    refine TT.steps (cd := cd118) 1 (c' := ((if decide (((nt : Nat) : Int) ≤ ((nt : Nat) : Int)) = true then 51 else 13), [(2, 198), (0, ((nt : Nat) : Int))], [], (cTr σ 8 nt))) rfl rfl ?_
    refine TT.br (p := ((nt : Nat) : Int) ≤ ((nt : Nat) : Int)) (fun h1 => ?_) (fun h1 => absurd (show ((nt : Nat) : Int) ≤ ((nt : Nat) : Int) by omega) h1)
    exact kk
  | succ d ih =>
    intro n hn
    refine TT.steps (cd := cd118) 3 (c' := (11, [(2, 198), (0, ((n : Nat) : Int))], [(2, ((cTr σ 8 n) 198 11)), (0, ((n : Nat) : Int))], (cTr σ 8 n))) rfl rfl ?_
    refine TT.top0 (z := 8) ((cTr_fr σ 8 n 198 (11) (by decide)).trans hli) ?_
    refine TT.steps (cd := cd118) 1 (c' := (12, [(2, 198), (0, ((n : Nat) : Int))], [(0, ((cTr σ 8 n) 8 2)), (0, ((n : Nat) : Int))], (cTr σ 8 n))) rfl rfl ?_
    refine TT.top0 (z := ((nt : Nat) : Int)) ((cTr_fr σ 8 n 8 (2) (by decide)).trans hnt) ?_
    refine TT.steps (cd := cd118) 1 (c' := ((if decide (((nt : Nat) : Int) ≤ ((n : Nat) : Int)) = true then 51 else 13), [(2, 198), (0, ((n : Nat) : Int))], [], (cTr σ 8 n))) rfl rfl ?_
    refine TT.br (p := ((nt : Nat) : Int) ≤ ((n : Nat) : Int)) (fun h1 => absurd h1 (show ¬ (((nt : Nat) : Int) ≤ ((n : Nat) : Int)) by omega)) (fun h1 => ?_)
    refine TT.steps (cd := cd118) 4 (c' := (17, [(2, 198), (0, ((n : Nat) : Int))], [(0, 0), (0, ((n : Nat) : Int)), (2, 250)], (cTr σ 8 n))) rfl rfl ?_
    refine TT.astN (cd := cd118) (250) (n) rfl rfl rfl rfl (show n < 6 by omega) ?_
    refine TT.steps (cd := cd118) 5 (c' := (23, [(2, 198), (0, ((n : Nat) : Int))], [(2, ((up2 (cTr σ 8 n) 250 n 0) 198 11)), (0, ((n : Nat) : Int)), (2, 252)], (up2 (cTr σ 8 n) 250 n 0))) rfl rfl ?_
    refine TT.top0 (z := 8) (((up2_far (k := 250) (k' := 198) _ _ _ _ (by decide)).trans (cTr_fr σ 8 n 198 (11) (by decide))).trans hli) ?_
    refine TT.steps (cd := cd118) 2 (c' := (25, [(2, 198), (0, ((n : Nat) : Int))], [(0, ((n : Nat) : Int)), (2, 13), (0, ((n : Nat) : Int)), (2, 252)], (up2 (cTr σ 8 n) 250 n 0))) rfl rfl ?_
    refine TT.aldN (cd := cd118) (13) (n) rfl rfl rfl rfl (show n < 6 by omega) ?_
    refine TT.top0 (z := (σ 13 n)) ((up2_far (k := 250) (k' := 13) _ _ _ _ (by decide)).trans (cTr_fr σ 8 n 13 (n) (by decide))) ?_
    refine TT.astN (cd := cd118) (252) (n) rfl rfl rfl rfl (show n < 6 by omega) ?_
    refine TT.steps (cd := cd118) 4 (c' := (31, [(2, 198), (0, ((n : Nat) : Int))], [(0, -1), (0, ((n : Nat) : Int)), (2, 251)], (up2 (up2 (cTr σ 8 n) 250 n 0) 252 n (σ 13 n)))) rfl rfl ?_
    refine TT.astN (cd := cd118) (251) (n) rfl rfl rfl rfl (show n < 6 by omega) ?_
    refine TT.steps (cd := cd118) 4 (c' := (36, [(2, 198), (0, ((n : Nat) : Int))], [(0, 0), (0, ((n : Nat) : Int)), (2, 253)], (up2 (up2 (up2 (cTr σ 8 n) 250 n 0) 252 n (σ 13 n)) 251 n (-1)))) rfl rfl ?_
    refine TT.astN (cd := cd118) (253) (n) rfl rfl rfl rfl (show n < 6 by omega) ?_
    refine TT.steps (cd := cd118) 5 (c' := (42, [(2, 198), (0, ((n : Nat) : Int))], [(0, 0), (0, ((n : Nat) : Int)), (2, 245)], (up2 (up2 (up2 (up2 (cTr σ 8 n) 250 n 0) 252 n (σ 13 n)) 251 n (-1)) 253 n 0))) rfl rfl ?_
    refine TT.astN (cd := cd118) (245) (n) rfl rfl rfl rfl (show n < 6 by omega) ?_
    refine TT.steps (cd := cd118) 5 (c' := (48, [(2, 198), (0, ((n : Nat) : Int))], [(0, 0), (0, ((n : Nat) : Int)), (2, 246)], (up2 (up2 (up2 (up2 (up2 (cTr σ 8 n) 250 n 0) 252 n (σ 13 n)) 251 n (-1)) 253 n 0) 245 n 0))) rfl rfl ?_
    refine TT.astN (cd := cd118) (246) (n) rfl rfl rfl rfl (show n < 6 by omega) ?_
    refine TT.inc (cd := cd118) ((n + 1 : Nat) : Int) rfl rfl rfl rfl (fun h => absurd h.2 (show ¬ (2 = 1) by decide)) (aAdd_n (a := n) (b := 1) (by omega)) (ls' := [(2, 198), (0, ((n + 1 : Nat) : Int))]) rfl ?_
    refine TT.steps (cd := cd118) 1 (c' := (8, [(2, 198), (0, ((n + 1 : Nat) : Int))], [], (up2 (up2 (up2 (up2 (up2 (up2 (cTr σ 8 n) 250 n 0) 252 n (σ 13 n)) 251 n (-1)) 253 n 0) 245 n 0) 246 n 0))) rfl rfl ?_
    have e1 : ((n + 1 : Nat) : Int) = (((n + 1) : Nat) : Int) := by omega
    rw [e1]
    clear e1
    refine TT.sg (σ' := (cTr σ 8 (n + 1))) (by exact cTr_s σ 8 n) ?_
    exact ih (n + 1) (by omega)
theorem v_placeTrains_8 (X : AX) (nt : Nat) (σ : AH) (hli : σ 198 11 = 8) (hnt : σ 8 2 = (nt : Int)) (hnt2 : nt ≤ 6)  : TT X 118 (0, [(2, 198), (9, 0)], [], σ) (fun r σ' => r = none ∧ σ' = cTr (up2 (up2 σ 198 16 0) 198 17 0) 8 nt) := by
  refine TT.steps (cd := cd118) 8 (c' := (8, [(2, 198), (0, 0)], [], (up2 (up2 σ 198 16 0) 198 17 0))) rfl rfl ?_
  refine TT.sg (σ' := cTr (up2 (up2 σ 198 16 0) 198 17 0) 8 0) (cTr_0 _ _) ?_
  refine vl_pt_8 X _ nt (up2 (up2 σ 198 16 0) 198 17 0) ?_ ?_ hnt2 ?_ nt 0 (by omega)
  · exact (up2_by _ _ _ (by decide)).trans ((up2_by _ _ _ (by decide)).trans hli)
  · exact (up2_far _ _ _ _ (by decide)).trans ((up2_far _ _ _ _ (by decide)).trans hnt)
  exact TT.ret (cd := cd118) rfl rfl rfl rfl (⟨rfl, rfl⟩)
/-- which train comes first, of those from n on, up to a minute u -/
def fdP (σ : AH) (nt : Nat) (L : Nat → Nat) (u : Int) (n : Nat) (x mi : Int) : Prop :=
  (x = -1 ∧ mi = u ∧ ∀ t, n ≤ t → t < nt → σ 250 t < (L t : Int) → u < σ 252 t) ∨
  (∃ f : Nat, x = (f : Int) ∧ n ≤ f ∧ f < nt ∧ σ 250 f < (L f : Int) ∧ mi = σ 252 f ∧ σ 252 f ≤ u ∧ (∀ t, n ≤ t → t < nt → σ 250 t < (L t : Int) → σ 252 f ≤ σ 252 t) ∧ (∀ t, n ≤ t → t < f → σ 250 t < (L t : Int) → σ 252 f < σ 252 t))
theorem fdP_skip {σ : AH} {nt : Nat} {L : Nat → Nat} {u : Int} {n : Nat} {x mi : Int} (h : fdP σ nt L u (n + 1) x mi) (hs : ¬ σ 250 n < (L n : Int) ∨ mi < σ 252 n) : fdP σ nt L u n x mi := by
  rcases h with ⟨h1, h2, h3⟩ | ⟨f, h1, h2, h3, h4, h5, h6, h7, h8⟩
  · refine Or.inl ⟨h1, h2, fun t ht ht2 ht3 => ?_⟩
    by_cases e : t = n
    · subst e; rcases hs with hs | hs
      · exact absurd ht3 hs
      · rw [← h2]; exact hs
    · exact h3 t (by omega) ht2 ht3
  · refine Or.inr ⟨f, h1, by omega, h3, h4, h5, h6, fun t ht ht2 ht3 => ?_, fun t ht ht2 ht3 => ?_⟩
    · by_cases e : t = n
      · subst e; rcases hs with hs | hs
        · exact absurd ht3 hs
        · omega
      · exact h7 t (by omega) ht2 ht3
    · by_cases e : t = n
      · subst e; rcases hs with hs | hs
        · exact absurd ht3 hs
        · omega
      · exact h8 t (by omega) ht2 ht3
theorem fdP_take {σ : AH} {nt : Nat} {L : Nat → Nat} {u : Int} {n : Nat} {x mi : Int} (h : fdP σ nt L u (n + 1) x mi) (hn : n < nt) (hs : σ 250 n < (L n : Int)) (hm : ¬ mi < σ 252 n) : fdP σ nt L u n (n : Int) (σ 252 n) := by
  rcases h with ⟨h1, h2, h3⟩ | ⟨f, h1, h2, h3, h4, h5, h6, h7, h8⟩
  · refine Or.inr ⟨n, rfl, by omega, hn, hs, rfl, by omega, fun t ht ht2 ht3 => ?_, fun t ht ht2 ht3 => by omega⟩
    by_cases e : t = n
    · subst e; exact Int.le_refl _
    · have := h3 t (by omega) ht2 ht3; omega
  · refine Or.inr ⟨n, rfl, by omega, hn, hs, rfl, by omega, fun t ht ht2 ht3 => ?_, fun t ht ht2 ht3 => by omega⟩
    by_cases e : t = n
    · subst e; exact Int.le_refl _
    · have := h7 t (by omega) ht2 ht3; omega
theorem vl_fd_8 (X : AX) (nt : Nat) (L : Nat → Nat) (u : Int) (σ : AH) (hli : σ 198 11 = 8) (hnt : σ 8 2 = (nt : Int)) (hnt2 : nt ≤ 6) (hL : ∀ t, t < nt → σ 15 t = (L t : Int)) : ∀ n, n ≤ nt → ∀ x mi : Int, fdP σ nt L u n x mi → TT X 119 (10, [(2, 198), (0, u), (0, x), (0, mi), (0, (n : Int) - 1)], [], σ) (fun r σ' => (∃ x mi, r = some (0, x) ∧ fdP σ nt L u 0 x mi) ∧ σ' = σ) := by
  intro n
  induction n with
  | zero =>
    intro hn x mi hP
    rw [show ((0 : Nat) : Int) - 1 = -1 from rfl]
    refine TT.steps (cd := cd119) 3 (c' := (38, [(2, 198), (0, u), (0, x), (0, mi), (0, -1)], [(0, x)], σ)) rfl rfl ?_
    exact TT.ret (cd := cd119) rfl rfl rfl rfl (⟨⟨x, mi, rfl, hP⟩, rfl⟩)
  | succ n ih =>
    intro hn x mi hP
    rw [show ((n + 1 : Nat) : Int) - 1 = ((n : Nat) : Int) by omega]
    refine TT.steps (cd := cd119) 2 (c' := ((if decide (((n : Nat) : Int) < 0) = true then 37 else 12), [(2, 198), (0, u), (0, x), (0, mi), (0, ((n : Nat) : Int))], [], σ)) rfl rfl ?_
    refine TT.br (p := ((n : Nat) : Int) < 0) (fun h1 => absurd h1 (show ¬ (((n : Nat) : Int) < 0) by omega)) (fun h1 => ?_)
    refine TT.steps (cd := cd119) 3 (c' := (15, [(2, 198), (0, u), (0, x), (0, mi), (0, ((n : Nat) : Int))], [(0, ((n : Nat) : Int)), (2, 250)], σ)) rfl rfl ?_
    refine TT.aldN (cd := cd119) (250) (n) rfl rfl rfl rfl (show n < 6 by omega) ?_
    refine TT.steps (cd := cd119) 2 (c' := (18, [(2, 198), (0, u), (0, x), (0, mi), (0, ((n : Nat) : Int))], [(2, (σ 198 11)), (0, (σ 250 n))], σ)) rfl rfl ?_
    refine TT.top0 (z := 8) hli ?_
    refine TT.steps (cd := cd119) 2 (c' := (20, [(2, 198), (0, u), (0, x), (0, mi), (0, ((n : Nat) : Int))], [(0, ((n : Nat) : Int)), (2, 15), (0, (σ 250 n))], σ)) rfl rfl ?_
    refine TT.aldN (cd := cd119) (15) (n) rfl rfl rfl rfl (show n < 6 by omega) ?_
    refine TT.top0 (z := (((L n) : Nat) : Int)) (hL n (by omega)) ?_
    refine TT.steps (cd := cd119) 1 (c' := ((if decide ((((L n) : Nat) : Int) ≤ (σ 250 n)) = true then 35 else 22), [(2, 198), (0, u), (0, x), (0, mi), (0, ((n : Nat) : Int))], [], σ)) rfl rfl ?_
    refine TT.br (p := (((L n) : Nat) : Int) ≤ (σ 250 n)) (fun h2 => ?_) (fun h2 => ?_)
    · refine TT.inc (cd := cd119) (aAdd ((n : Nat) : Int) (-1)) rfl rfl rfl rfl (fun h => absurd h.2 (show ¬ (0 = 1) by decide)) rfl (ls' := [(2, 198), (0, u), (0, x), (0, mi), (0, (aAdd ((n : Nat) : Int) (-1)))]) rfl ?_
      refine TT.steps (cd := cd119) 1 (c' := (10, [(2, 198), (0, u), (0, x), (0, mi), (0, (aAdd ((n : Nat) : Int) (-1)))], [], σ)) rfl rfl ?_
      have e4 : aAdd ((n : Nat) : Int) (-1) = (n : Int) - 1 := by rw [aAdd_of (by omega) (by omega)]; omega
      rw [e4]
      exact ih (by omega) _ _ (by first | exact fdP_take hP (by omega) (by omega) (by omega) | exact fdP_skip hP (by omega))
    · refine TT.steps (cd := cd119) 3 (c' := (25, [(2, 198), (0, u), (0, x), (0, mi), (0, ((n : Nat) : Int))], [(0, ((n : Nat) : Int)), (2, 252)], σ)) rfl rfl ?_
      refine TT.aldN (cd := cd119) (252) (n) rfl rfl rfl rfl (show n < 6 by omega) ?_
      refine TT.steps (cd := cd119) 2 (c' := ((if decide (mi < (σ 252 n)) = true then 35 else 28), [(2, 198), (0, u), (0, x), (0, mi), (0, ((n : Nat) : Int))], [], σ)) rfl rfl ?_
      refine TT.br (p := mi < (σ 252 n)) (fun h3 => ?_) (fun h3 => ?_)
      · refine TT.inc (cd := cd119) (aAdd ((n : Nat) : Int) (-1)) rfl rfl rfl rfl (fun h => absurd h.2 (show ¬ (0 = 1) by decide)) rfl (ls' := [(2, 198), (0, u), (0, x), (0, mi), (0, (aAdd ((n : Nat) : Int) (-1)))]) rfl ?_
        refine TT.steps (cd := cd119) 1 (c' := (10, [(2, 198), (0, u), (0, x), (0, mi), (0, (aAdd ((n : Nat) : Int) (-1)))], [], σ)) rfl rfl ?_
        have e4 : aAdd ((n : Nat) : Int) (-1) = (n : Int) - 1 := by rw [aAdd_of (by omega) (by omega)]; omega
        rw [e4]
        exact ih (by omega) _ _ (by first | exact fdP_take hP (by omega) (by omega) (by omega) | exact fdP_skip hP (by omega))
      · refine TT.steps (cd := cd119) 5 (c' := (33, [(2, 198), (0, u), (0, ((n : Nat) : Int)), (0, mi), (0, ((n : Nat) : Int))], [(0, ((n : Nat) : Int)), (2, 252)], σ)) rfl rfl ?_
        refine TT.aldN (cd := cd119) (252) (n) rfl rfl rfl rfl (show n < 6 by omega) ?_
        refine TT.steps (cd := cd119) 1 (c' := (35, [(2, 198), (0, u), (0, ((n : Nat) : Int)), (0, (σ 252 n)), (0, ((n : Nat) : Int))], [], σ)) rfl rfl ?_
        refine TT.inc (cd := cd119) (aAdd ((n : Nat) : Int) (-1)) rfl rfl rfl rfl (fun h => absurd h.2 (show ¬ (0 = 1) by decide)) rfl (ls' := [(2, 198), (0, u), (0, ((n : Nat) : Int)), (0, (σ 252 n)), (0, (aAdd ((n : Nat) : Int) (-1)))]) rfl ?_
        refine TT.steps (cd := cd119) 1 (c' := (10, [(2, 198), (0, u), (0, ((n : Nat) : Int)), (0, (σ 252 n)), (0, (aAdd ((n : Nat) : Int) (-1)))], [], σ)) rfl rfl ?_
        have e4 : aAdd ((n : Nat) : Int) (-1) = (n : Int) - 1 := by rw [aAdd_of (by omega) (by omega)]; omega
        rw [e4]
        exact ih (by omega) _ _ (by first | exact fdP_take hP (by omega) (by omega) (by omega) | exact fdP_skip hP (by omega))
theorem v_firstDue_8 (X : AX) (nt : Nat) (L : Nat → Nat) (u : Int) (σ : AH) (hli : σ 198 11 = 8) (hnt : σ 8 2 = (nt : Int)) (hnt2 : nt ≤ 6) (hL : ∀ t, t < nt → σ 15 t = (L t : Int))  : TT X 119 (0, [(2, 198), (0, u), (9, 0), (9, 0), (9, 0)], [], σ) (fun r σ' => (∃ x mi, r = some (0, x) ∧ fdP σ nt L u 0 x mi) ∧ σ' = σ) := by
  refine TT.steps (cd := cd119) 6 (c' := (6, [(2, 198), (0, u), (0, -1), (0, u), (9, 0)], [(2, (σ 198 11))], σ)) rfl rfl ?_
  refine TT.top0 (z := 8) hli ?_
  refine TT.steps (cd := cd119) 1 (c' := (7, [(2, 198), (0, u), (0, -1), (0, u), (9, 0)], [(0, (σ 8 2))], σ)) rfl rfl ?_
  refine TT.top0 (z := ((nt : Nat) : Int)) hnt ?_
  refine TT.steps (cd := cd119) 2 (c' := (9, [(2, 198), (0, u), (0, -1), (0, u), (9, 0)], [(0, (aSub ((nt : Nat) : Int) 1))], σ)) rfl rfl ?_
  refine TT.top0 (z := ((nt : Int) - 1)) (aSub_of (by omega) (by omega)) ?_
  refine TT.steps (cd := cd119) 1 (c' := (10, [(2, 198), (0, u), (0, -1), (0, u), (0, ((nt : Int) - 1))], [], σ)) rfl rfl ?_
  exact vl_fd_8 X nt L u σ hli hnt hnt2 hL nt (Nat.le_refl _) _ _ (Or.inl ⟨rfl, rfl, fun t h1 h2 => by omega⟩)
theorem vl_pt_170 (X : AX) (Q : Option AV → AH → Prop) (nt : Nat) (σ : AH) (hli : σ 198 11 = 170) (hnt : σ 170 2 = (nt : Int)) (hnt2 : nt ≤ 6)  (kk : TT X 118 (51, [(2, 198), (0, ((nt : Nat) : Int))], [], (cTr σ 170 nt)) Q) : ∀ (d n : Nat), n + d = nt → TT X 118 (8, [(2, 198), (0, ((n : Nat) : Int))], [], (cTr σ 170 n)) Q := by
  intro d
  induction d with
  | zero =>
    intro n hn
    have hnn : n = nt := by omega
    rw [hnn]
    refine TT.steps (cd := cd118) 3 (c' := (11, [(2, 198), (0, ((nt : Nat) : Int))], [(2, ((cTr σ 170 nt) 198 11)), (0, ((nt : Nat) : Int))], (cTr σ 170 nt))) rfl rfl ?_
    refine TT.top0 (z := 170) ((cTr_fr σ 170 nt 198 (11) (by decide)).trans hli) ?_
    refine TT.steps (cd := cd118) 1 (c' := (12, [(2, 198), (0, ((nt : Nat) : Int))], [(0, ((cTr σ 170 nt) 170 2)), (0, ((nt : Nat) : Int))], (cTr σ 170 nt))) rfl rfl ?_
    refine TT.top0 (z := ((nt : Nat) : Int)) ((cTr_fr σ 170 nt 170 (2) (by decide)).trans hnt) ?_
    refine TT.steps (cd := cd118) 1 (c' := ((if decide (((nt : Nat) : Int) ≤ ((nt : Nat) : Int)) = true then 51 else 13), [(2, 198), (0, ((nt : Nat) : Int))], [], (cTr σ 170 nt))) rfl rfl ?_
    refine TT.br (p := ((nt : Nat) : Int) ≤ ((nt : Nat) : Int)) (fun h1 => ?_) (fun h1 => absurd (show ((nt : Nat) : Int) ≤ ((nt : Nat) : Int) by omega) h1)
    exact kk
  | succ d ih =>
    intro n hn
    refine TT.steps (cd := cd118) 3 (c' := (11, [(2, 198), (0, ((n : Nat) : Int))], [(2, ((cTr σ 170 n) 198 11)), (0, ((n : Nat) : Int))], (cTr σ 170 n))) rfl rfl ?_
    refine TT.top0 (z := 170) ((cTr_fr σ 170 n 198 (11) (by decide)).trans hli) ?_
    refine TT.steps (cd := cd118) 1 (c' := (12, [(2, 198), (0, ((n : Nat) : Int))], [(0, ((cTr σ 170 n) 170 2)), (0, ((n : Nat) : Int))], (cTr σ 170 n))) rfl rfl ?_
    refine TT.top0 (z := ((nt : Nat) : Int)) ((cTr_fr σ 170 n 170 (2) (by decide)).trans hnt) ?_
    refine TT.steps (cd := cd118) 1 (c' := ((if decide (((nt : Nat) : Int) ≤ ((n : Nat) : Int)) = true then 51 else 13), [(2, 198), (0, ((n : Nat) : Int))], [], (cTr σ 170 n))) rfl rfl ?_
    refine TT.br (p := ((nt : Nat) : Int) ≤ ((n : Nat) : Int)) (fun h1 => absurd h1 (show ¬ (((nt : Nat) : Int) ≤ ((n : Nat) : Int)) by omega)) (fun h1 => ?_)
    refine TT.steps (cd := cd118) 4 (c' := (17, [(2, 198), (0, ((n : Nat) : Int))], [(0, 0), (0, ((n : Nat) : Int)), (2, 250)], (cTr σ 170 n))) rfl rfl ?_
    refine TT.astN (cd := cd118) (250) (n) rfl rfl rfl rfl (show n < 6 by omega) ?_
    refine TT.steps (cd := cd118) 5 (c' := (23, [(2, 198), (0, ((n : Nat) : Int))], [(2, ((up2 (cTr σ 170 n) 250 n 0) 198 11)), (0, ((n : Nat) : Int)), (2, 252)], (up2 (cTr σ 170 n) 250 n 0))) rfl rfl ?_
    refine TT.top0 (z := 170) (((up2_far (k := 250) (k' := 198) _ _ _ _ (by decide)).trans (cTr_fr σ 170 n 198 (11) (by decide))).trans hli) ?_
    refine TT.steps (cd := cd118) 2 (c' := (25, [(2, 198), (0, ((n : Nat) : Int))], [(0, ((n : Nat) : Int)), (2, 175), (0, ((n : Nat) : Int)), (2, 252)], (up2 (cTr σ 170 n) 250 n 0))) rfl rfl ?_
    refine TT.aldN (cd := cd118) (175) (n) rfl rfl rfl rfl (show n < 6 by omega) ?_
    refine TT.top0 (z := (σ 175 n)) ((up2_far (k := 250) (k' := 175) _ _ _ _ (by decide)).trans (cTr_fr σ 170 n 175 (n) (by decide))) ?_
    refine TT.astN (cd := cd118) (252) (n) rfl rfl rfl rfl (show n < 6 by omega) ?_
    refine TT.steps (cd := cd118) 4 (c' := (31, [(2, 198), (0, ((n : Nat) : Int))], [(0, -1), (0, ((n : Nat) : Int)), (2, 251)], (up2 (up2 (cTr σ 170 n) 250 n 0) 252 n (σ 175 n)))) rfl rfl ?_
    refine TT.astN (cd := cd118) (251) (n) rfl rfl rfl rfl (show n < 6 by omega) ?_
    refine TT.steps (cd := cd118) 4 (c' := (36, [(2, 198), (0, ((n : Nat) : Int))], [(0, 0), (0, ((n : Nat) : Int)), (2, 253)], (up2 (up2 (up2 (cTr σ 170 n) 250 n 0) 252 n (σ 175 n)) 251 n (-1)))) rfl rfl ?_
    refine TT.astN (cd := cd118) (253) (n) rfl rfl rfl rfl (show n < 6 by omega) ?_
    refine TT.steps (cd := cd118) 5 (c' := (42, [(2, 198), (0, ((n : Nat) : Int))], [(0, 0), (0, ((n : Nat) : Int)), (2, 245)], (up2 (up2 (up2 (up2 (cTr σ 170 n) 250 n 0) 252 n (σ 175 n)) 251 n (-1)) 253 n 0))) rfl rfl ?_
    refine TT.astN (cd := cd118) (245) (n) rfl rfl rfl rfl (show n < 6 by omega) ?_
    refine TT.steps (cd := cd118) 5 (c' := (48, [(2, 198), (0, ((n : Nat) : Int))], [(0, 0), (0, ((n : Nat) : Int)), (2, 246)], (up2 (up2 (up2 (up2 (up2 (cTr σ 170 n) 250 n 0) 252 n (σ 175 n)) 251 n (-1)) 253 n 0) 245 n 0))) rfl rfl ?_
    refine TT.astN (cd := cd118) (246) (n) rfl rfl rfl rfl (show n < 6 by omega) ?_
    refine TT.inc (cd := cd118) ((n + 1 : Nat) : Int) rfl rfl rfl rfl (fun h => absurd h.2 (show ¬ (2 = 1) by decide)) (aAdd_n (a := n) (b := 1) (by omega)) (ls' := [(2, 198), (0, ((n + 1 : Nat) : Int))]) rfl ?_
    refine TT.steps (cd := cd118) 1 (c' := (8, [(2, 198), (0, ((n + 1 : Nat) : Int))], [], (up2 (up2 (up2 (up2 (up2 (up2 (cTr σ 170 n) 250 n 0) 252 n (σ 175 n)) 251 n (-1)) 253 n 0) 245 n 0) 246 n 0))) rfl rfl ?_
    have e1 : ((n + 1 : Nat) : Int) = (((n + 1) : Nat) : Int) := by omega
    rw [e1]
    clear e1
    refine TT.sg (σ' := (cTr σ 170 (n + 1))) (by exact cTr_s σ 170 n) ?_
    exact ih (n + 1) (by omega)
theorem v_placeTrains_170 (X : AX) (nt : Nat) (σ : AH) (hli : σ 198 11 = 170) (hnt : σ 170 2 = (nt : Int)) (hnt2 : nt ≤ 6)  : TT X 118 (0, [(2, 198), (9, 0)], [], σ) (fun r σ' => r = none ∧ σ' = cTr (up2 (up2 σ 198 16 0) 198 17 0) 170 nt) := by
  refine TT.steps (cd := cd118) 8 (c' := (8, [(2, 198), (0, 0)], [], (up2 (up2 σ 198 16 0) 198 17 0))) rfl rfl ?_
  refine TT.sg (σ' := cTr (up2 (up2 σ 198 16 0) 198 17 0) 170 0) (cTr_0 _ _) ?_
  refine vl_pt_170 X _ nt (up2 (up2 σ 198 16 0) 198 17 0) ?_ ?_ hnt2 ?_ nt 0 (by omega)
  · exact (up2_by _ _ _ (by decide)).trans ((up2_by _ _ _ (by decide)).trans hli)
  · exact (up2_far _ _ _ _ (by decide)).trans ((up2_far _ _ _ _ (by decide)).trans hnt)
  exact TT.ret (cd := cd118) rfl rfl rfl rfl (⟨rfl, rfl⟩)
theorem vl_fd_170 (X : AX) (nt : Nat) (L : Nat → Nat) (u : Int) (σ : AH) (hli : σ 198 11 = 170) (hnt : σ 170 2 = (nt : Int)) (hnt2 : nt ≤ 6) (hL : ∀ t, t < nt → σ 177 t = (L t : Int)) : ∀ n, n ≤ nt → ∀ x mi : Int, fdP σ nt L u n x mi → TT X 119 (10, [(2, 198), (0, u), (0, x), (0, mi), (0, (n : Int) - 1)], [], σ) (fun r σ' => (∃ x mi, r = some (0, x) ∧ fdP σ nt L u 0 x mi) ∧ σ' = σ) := by
  intro n
  induction n with
  | zero =>
    intro hn x mi hP
    rw [show ((0 : Nat) : Int) - 1 = -1 from rfl]
    refine TT.steps (cd := cd119) 3 (c' := (38, [(2, 198), (0, u), (0, x), (0, mi), (0, -1)], [(0, x)], σ)) rfl rfl ?_
    exact TT.ret (cd := cd119) rfl rfl rfl rfl (⟨⟨x, mi, rfl, hP⟩, rfl⟩)
  | succ n ih =>
    intro hn x mi hP
    rw [show ((n + 1 : Nat) : Int) - 1 = ((n : Nat) : Int) by omega]
    refine TT.steps (cd := cd119) 2 (c' := ((if decide (((n : Nat) : Int) < 0) = true then 37 else 12), [(2, 198), (0, u), (0, x), (0, mi), (0, ((n : Nat) : Int))], [], σ)) rfl rfl ?_
    refine TT.br (p := ((n : Nat) : Int) < 0) (fun h1 => absurd h1 (show ¬ (((n : Nat) : Int) < 0) by omega)) (fun h1 => ?_)
    refine TT.steps (cd := cd119) 3 (c' := (15, [(2, 198), (0, u), (0, x), (0, mi), (0, ((n : Nat) : Int))], [(0, ((n : Nat) : Int)), (2, 250)], σ)) rfl rfl ?_
    refine TT.aldN (cd := cd119) (250) (n) rfl rfl rfl rfl (show n < 6 by omega) ?_
    refine TT.steps (cd := cd119) 2 (c' := (18, [(2, 198), (0, u), (0, x), (0, mi), (0, ((n : Nat) : Int))], [(2, (σ 198 11)), (0, (σ 250 n))], σ)) rfl rfl ?_
    refine TT.top0 (z := 170) hli ?_
    refine TT.steps (cd := cd119) 2 (c' := (20, [(2, 198), (0, u), (0, x), (0, mi), (0, ((n : Nat) : Int))], [(0, ((n : Nat) : Int)), (2, 177), (0, (σ 250 n))], σ)) rfl rfl ?_
    refine TT.aldN (cd := cd119) (177) (n) rfl rfl rfl rfl (show n < 6 by omega) ?_
    refine TT.top0 (z := (((L n) : Nat) : Int)) (hL n (by omega)) ?_
    refine TT.steps (cd := cd119) 1 (c' := ((if decide ((((L n) : Nat) : Int) ≤ (σ 250 n)) = true then 35 else 22), [(2, 198), (0, u), (0, x), (0, mi), (0, ((n : Nat) : Int))], [], σ)) rfl rfl ?_
    refine TT.br (p := (((L n) : Nat) : Int) ≤ (σ 250 n)) (fun h2 => ?_) (fun h2 => ?_)
    · refine TT.inc (cd := cd119) (aAdd ((n : Nat) : Int) (-1)) rfl rfl rfl rfl (fun h => absurd h.2 (show ¬ (0 = 1) by decide)) rfl (ls' := [(2, 198), (0, u), (0, x), (0, mi), (0, (aAdd ((n : Nat) : Int) (-1)))]) rfl ?_
      refine TT.steps (cd := cd119) 1 (c' := (10, [(2, 198), (0, u), (0, x), (0, mi), (0, (aAdd ((n : Nat) : Int) (-1)))], [], σ)) rfl rfl ?_
      have e4 : aAdd ((n : Nat) : Int) (-1) = (n : Int) - 1 := by rw [aAdd_of (by omega) (by omega)]; omega
      rw [e4]
      exact ih (by omega) _ _ (by first | exact fdP_take hP (by omega) (by omega) (by omega) | exact fdP_skip hP (by omega))
    · refine TT.steps (cd := cd119) 3 (c' := (25, [(2, 198), (0, u), (0, x), (0, mi), (0, ((n : Nat) : Int))], [(0, ((n : Nat) : Int)), (2, 252)], σ)) rfl rfl ?_
      refine TT.aldN (cd := cd119) (252) (n) rfl rfl rfl rfl (show n < 6 by omega) ?_
      refine TT.steps (cd := cd119) 2 (c' := ((if decide (mi < (σ 252 n)) = true then 35 else 28), [(2, 198), (0, u), (0, x), (0, mi), (0, ((n : Nat) : Int))], [], σ)) rfl rfl ?_
      refine TT.br (p := mi < (σ 252 n)) (fun h3 => ?_) (fun h3 => ?_)
      · refine TT.inc (cd := cd119) (aAdd ((n : Nat) : Int) (-1)) rfl rfl rfl rfl (fun h => absurd h.2 (show ¬ (0 = 1) by decide)) rfl (ls' := [(2, 198), (0, u), (0, x), (0, mi), (0, (aAdd ((n : Nat) : Int) (-1)))]) rfl ?_
        refine TT.steps (cd := cd119) 1 (c' := (10, [(2, 198), (0, u), (0, x), (0, mi), (0, (aAdd ((n : Nat) : Int) (-1)))], [], σ)) rfl rfl ?_
        have e4 : aAdd ((n : Nat) : Int) (-1) = (n : Int) - 1 := by rw [aAdd_of (by omega) (by omega)]; omega
        rw [e4]
        exact ih (by omega) _ _ (by first | exact fdP_take hP (by omega) (by omega) (by omega) | exact fdP_skip hP (by omega))
      · refine TT.steps (cd := cd119) 5 (c' := (33, [(2, 198), (0, u), (0, ((n : Nat) : Int)), (0, mi), (0, ((n : Nat) : Int))], [(0, ((n : Nat) : Int)), (2, 252)], σ)) rfl rfl ?_
        refine TT.aldN (cd := cd119) (252) (n) rfl rfl rfl rfl (show n < 6 by omega) ?_
        refine TT.steps (cd := cd119) 1 (c' := (35, [(2, 198), (0, u), (0, ((n : Nat) : Int)), (0, (σ 252 n)), (0, ((n : Nat) : Int))], [], σ)) rfl rfl ?_
        refine TT.inc (cd := cd119) (aAdd ((n : Nat) : Int) (-1)) rfl rfl rfl rfl (fun h => absurd h.2 (show ¬ (0 = 1) by decide)) rfl (ls' := [(2, 198), (0, u), (0, ((n : Nat) : Int)), (0, (σ 252 n)), (0, (aAdd ((n : Nat) : Int) (-1)))]) rfl ?_
        refine TT.steps (cd := cd119) 1 (c' := (10, [(2, 198), (0, u), (0, ((n : Nat) : Int)), (0, (σ 252 n)), (0, (aAdd ((n : Nat) : Int) (-1)))], [], σ)) rfl rfl ?_
        have e4 : aAdd ((n : Nat) : Int) (-1) = (n : Int) - 1 := by rw [aAdd_of (by omega) (by omega)]; omega
        rw [e4]
        exact ih (by omega) _ _ (by first | exact fdP_take hP (by omega) (by omega) (by omega) | exact fdP_skip hP (by omega))
theorem v_firstDue_170 (X : AX) (nt : Nat) (L : Nat → Nat) (u : Int) (σ : AH) (hli : σ 198 11 = 170) (hnt : σ 170 2 = (nt : Int)) (hnt2 : nt ≤ 6) (hL : ∀ t, t < nt → σ 177 t = (L t : Int))  : TT X 119 (0, [(2, 198), (0, u), (9, 0), (9, 0), (9, 0)], [], σ) (fun r σ' => (∃ x mi, r = some (0, x) ∧ fdP σ nt L u 0 x mi) ∧ σ' = σ) := by
  refine TT.steps (cd := cd119) 6 (c' := (6, [(2, 198), (0, u), (0, -1), (0, u), (9, 0)], [(2, (σ 198 11))], σ)) rfl rfl ?_
  refine TT.top0 (z := 170) hli ?_
  refine TT.steps (cd := cd119) 1 (c' := (7, [(2, 198), (0, u), (0, -1), (0, u), (9, 0)], [(0, (σ 170 2))], σ)) rfl rfl ?_
  refine TT.top0 (z := ((nt : Nat) : Int)) hnt ?_
  refine TT.steps (cd := cd119) 2 (c' := (9, [(2, 198), (0, u), (0, -1), (0, u), (9, 0)], [(0, (aSub ((nt : Nat) : Int) 1))], σ)) rfl rfl ?_
  refine TT.top0 (z := ((nt : Int) - 1)) (aSub_of (by omega) (by omega)) ?_
  refine TT.steps (cd := cd119) 1 (c' := (10, [(2, 198), (0, u), (0, -1), (0, u), (0, ((nt : Int) - 1))], [], σ)) rfl rfl ?_
  exact vl_fd_170 X nt L u σ hli hnt hnt2 hL nt (Nat.le_refl _) _ _ (Or.inl ⟨rfl, rfl, fun t h1 h2 => by omega⟩)
theorem vl_off_36 (X : AX) (Q : Option AV → AH → Prop) (t np : Nat) (ht : t < 6) (x2 x3 : Int) (F : Nat → Bool) (sI du : Int) (σ : AH) (hpe : σ 198 12 = 36) (hc : σ 36 0 = (np : Int)) (hnp2 : np ≤ 10) (hdu : σ 252 t = du)  (kk : ∀ (y0 : AV), TT X 121 (103, [(2, 198), (0, ((t : Nat) : Int)), (0, x2), (0, x3), (0, sI), (0, ((bs F np : Nat) : Int)), y0], [], (cOf σ F sI du np)) Q) : ∀ (d n : Nat), n + d = np → TT X 121 (76, [(2, 198), (0, ((t : Nat) : Int)), (0, x2), (0, x3), (0, sI), (0, ((bs F np : Nat) : Int)), (0, ((n : Nat) : Int))], [], (cOf σ F sI du n)) Q := by
  intro d
  induction d with
  | zero =>
    intro n hn
    have hnn : n = np := by omega
    rw [hnn]
    refine TT.steps (cd := cd121) 3 (c' := (79, [(2, 198), (0, ((t : Nat) : Int)), (0, x2), (0, x3), (0, sI), (0, ((bs F np : Nat) : Int)), (0, ((np : Nat) : Int))], [(2, ((cOf σ F sI du np) 198 12)), (0, ((np : Nat) : Int))], (cOf σ F sI du np))) rfl rfl ?_
    refine TT.top0 (z := 36) ((cOf_fr σ F sI du np 198 (12) (by decide)).trans hpe) ?_
    refine TT.steps (cd := cd121) 1 (c' := (80, [(2, 198), (0, ((t : Nat) : Int)), (0, x2), (0, x3), (0, sI), (0, ((bs F np : Nat) : Int)), (0, ((np : Nat) : Int))], [(0, ((cOf σ F sI du np) 36 0)), (0, ((np : Nat) : Int))], (cOf σ F sI du np))) rfl rfl ?_
    refine TT.top0 (z := ((np : Nat) : Int)) ((cOf_fr σ F sI du np 36 (0) (by decide)).trans hc) ?_
    refine TT.steps (cd := cd121) 1 (c' := ((if decide (((np : Nat) : Int) ≤ ((np : Nat) : Int)) = true then 103 else 81), [(2, 198), (0, ((t : Nat) : Int)), (0, x2), (0, x3), (0, sI), (0, ((bs F np : Nat) : Int)), (0, ((np : Nat) : Int))], [], (cOf σ F sI du np))) rfl rfl ?_
    refine TT.br (p := ((np : Nat) : Int) ≤ ((np : Nat) : Int)) (fun h1 => ?_) (fun h1 => absurd (show ((np : Nat) : Int) ≤ ((np : Nat) : Int) by omega) h1)
    exact kk _
  | succ d ih =>
    intro n hn
    refine TT.steps (cd := cd121) 3 (c' := (79, [(2, 198), (0, ((t : Nat) : Int)), (0, x2), (0, x3), (0, sI), (0, ((bs F np : Nat) : Int)), (0, ((n : Nat) : Int))], [(2, ((cOf σ F sI du n) 198 12)), (0, ((n : Nat) : Int))], (cOf σ F sI du n))) rfl rfl ?_
    refine TT.top0 (z := 36) ((cOf_fr σ F sI du n 198 (12) (by decide)).trans hpe) ?_
    refine TT.steps (cd := cd121) 1 (c' := (80, [(2, 198), (0, ((t : Nat) : Int)), (0, x2), (0, x3), (0, sI), (0, ((bs F np : Nat) : Int)), (0, ((n : Nat) : Int))], [(0, ((cOf σ F sI du n) 36 0)), (0, ((n : Nat) : Int))], (cOf σ F sI du n))) rfl rfl ?_
    refine TT.top0 (z := ((np : Nat) : Int)) ((cOf_fr σ F sI du n 36 (0) (by decide)).trans hc) ?_
    refine TT.steps (cd := cd121) 1 (c' := ((if decide (((np : Nat) : Int) ≤ ((n : Nat) : Int)) = true then 103 else 81), [(2, 198), (0, ((t : Nat) : Int)), (0, x2), (0, x3), (0, sI), (0, ((bs F np : Nat) : Int)), (0, ((n : Nat) : Int))], [], (cOf σ F sI du n))) rfl rfl ?_
    refine TT.br (p := ((np : Nat) : Int) ≤ ((n : Nat) : Int)) (fun h1 => absurd h1 (show ¬ (((np : Nat) : Int) ≤ ((n : Nat) : Int)) by omega)) (fun h1 => ?_)
    refine TT.steps (cd := cd121) 2 (c' := ((if decide (((bs F np : Nat) : Int) = 0) = true then 103 else 83), [(2, 198), (0, ((t : Nat) : Int)), (0, x2), (0, x3), (0, sI), (0, ((bs F np : Nat) : Int)), (0, ((n : Nat) : Int))], [], (cOf σ F sI du n))) rfl rfl ?_
    refine TT.br (p := ((bs F np : Nat) : Int) = 0) (fun h2 => ?_) (fun h2 => ?_)
    · rw [cOf_none σ F sI du n np (any_none h2) (by omega)]
      exact kk _
    · refine TT.steps (cd := cd121) 2 (c' := (85, [(2, 198), (0, ((t : Nat) : Int)), (0, x2), (0, x3), (0, sI), (0, ((bs F np : Nat) : Int)), (0, ((n : Nat) : Int))], [(0, ((n : Nat) : Int)), (0, ((bs F np : Nat) : Int))], (cOf σ F sI du n))) rfl rfl ?_
      refine TT.call (cd := cd121) rfl rfl rfl (by decide) rfl (u_bit X ((bs F np : Nat) : Int) ((n : Nat) : Int) (cOf σ F sI du n)) (fun r3 σ3 hq => ?_)
      rw [hq.1, hq.2, bs_bitI F (by omega) (by omega)]
      refine TT.steps (cd := cd121) 2 (c' := ((if decide (¬ ((if F n = true then 1 else 0) : Int) = 1) = true then 101 else 88), [(2, 198), (0, ((t : Nat) : Int)), (0, x2), (0, x3), (0, sI), (0, ((bs F np : Nat) : Int)), (0, ((n : Nat) : Int))], [], (cOf σ F sI du n))) rfl rfl ?_
      refine TT.br (p := ¬ ((if F n = true then 1 else 0) : Int) = 1) (fun h4 => ?_) (fun h4 => ?_)
      · replace h4 := ite1_f h4
        refine TT.inc (cd := cd121) ((n + 1 : Nat) : Int) rfl rfl rfl rfl (fun h => absurd h.2 (show ¬ (0 = 1) by decide)) (aAdd_n (a := n) (b := 1) (by omega)) (ls' := [(2, 198), (0, ((t : Nat) : Int)), (0, x2), (0, x3), (0, sI), (0, ((bs F np : Nat) : Int)), (0, ((n + 1 : Nat) : Int))]) rfl ?_
        refine TT.steps (cd := cd121) 1 (c' := (76, [(2, 198), (0, ((t : Nat) : Int)), (0, x2), (0, x3), (0, sI), (0, ((bs F np : Nat) : Int)), (0, ((n + 1 : Nat) : Int))], [], (cOf σ F sI du n))) rfl rfl ?_
        have e6 : ((n + 1 : Nat) : Int) = (((n + 1) : Nat) : Int) := by omega
        rw [e6]
        clear e6
        refine TT.sg (σ' := (cOf σ F sI du (n + 1))) (by first | exact cOf_t σ F sI du n (by assumption) | exact cOf_f σ F sI du n (by assumption)) ?_
        exact ih (n + 1) (by omega)
      · replace h4 := ite1_t (Decidable.not_not.mp h4)
        refine TT.steps (cd := cd121) 4 (c' := (92, [(2, 198), (0, ((t : Nat) : Int)), (0, x2), (0, x3), (0, sI), (0, ((bs F np : Nat) : Int)), (0, ((n : Nat) : Int))], [(0, sI), (0, ((n : Nat) : Int)), (2, 247)], (cOf σ F sI du n))) rfl rfl ?_
        refine TT.astN (cd := cd121) (247) (n) rfl rfl rfl rfl (show n < 10 by omega) ?_
        refine TT.steps (cd := cd121) 6 (c' := (99, [(2, 198), (0, ((t : Nat) : Int)), (0, x2), (0, x3), (0, sI), (0, ((bs F np : Nat) : Int)), (0, ((n : Nat) : Int))], [(0, ((t : Nat) : Int)), (2, 252), (0, ((n : Nat) : Int)), (2, 248)], (up2 (cOf σ F sI du n) 247 n sI))) rfl rfl ?_
        refine TT.aldN (cd := cd121) (252) (t) rfl rfl rfl rfl (show t < 6 by omega) ?_
        refine TT.top0 (z := du) (((up2_far (k := 247) (k' := 252) _ _ _ _ (by decide)).trans (cOf_fr σ F sI du n 252 (t) (by decide))).trans hdu) ?_
        refine TT.astN (cd := cd121) (248) (n) rfl rfl rfl rfl (show n < 10 by omega) ?_
        refine TT.inc (cd := cd121) ((n + 1 : Nat) : Int) rfl rfl rfl rfl (fun h => absurd h.2 (show ¬ (0 = 1) by decide)) (aAdd_n (a := n) (b := 1) (by omega)) (ls' := [(2, 198), (0, ((t : Nat) : Int)), (0, x2), (0, x3), (0, sI), (0, ((bs F np : Nat) : Int)), (0, ((n + 1 : Nat) : Int))]) rfl ?_
        refine TT.steps (cd := cd121) 1 (c' := (76, [(2, 198), (0, ((t : Nat) : Int)), (0, x2), (0, x3), (0, sI), (0, ((bs F np : Nat) : Int)), (0, ((n + 1 : Nat) : Int))], [], (up2 (up2 (cOf σ F sI du n) 247 n sI) 248 n du))) rfl rfl ?_
        have e6 : ((n + 1 : Nat) : Int) = (((n + 1) : Nat) : Int) := by omega
        rw [e6]
        clear e6
        refine TT.sg (σ' := (cOf σ F sI du (n + 1))) (by first | exact cOf_t σ F sI du n (by assumption) | exact cOf_f σ F sI du n (by assumption)) ?_
        exact ih (n + 1) (by omega)
theorem vl_on_36 (X : AX) (Q : Option AV → AH → Prop) (t np : Nat) (x2 x3 x4 : Int) (W : Nat → Bool) (f : Int) (σ : AH) (hpe : σ 198 12 = 36) (hc : σ 36 0 = (np : Int)) (hnp2 : np ≤ 10)  (kk : ∀ (y0 : AV) (y1 : AV), TT X 122 (85, [(2, 198), (0, ((t : Nat) : Int)), (0, x2), (0, x3), (0, x4), (0, ((bs W np : Nat) : Int)), y0, (0, ((bs (grS W f) np : Nat) : Int)), y1], [], (cRi σ (grS W f) np)) Q) : ∀ (d n : Nat), n + d = np → TT X 122 (54, [(2, 198), (0, ((t : Nat) : Int)), (0, x2), (0, x3), (0, x4), (0, ((bs W np : Nat) : Int)), (0, (grc W f n)), (0, ((bs (grS W f) n : Nat) : Int)), (0, ((n : Nat) : Int))], [], (cRi σ (grS W f) n)) Q := by
  intro d
  induction d with
  | zero =>
    intro n hn
    have hnn : n = np := by omega
    rw [hnn]
    refine TT.steps (cd := cd122) 3 (c' := (57, [(2, 198), (0, ((t : Nat) : Int)), (0, x2), (0, x3), (0, x4), (0, ((bs W np : Nat) : Int)), (0, (grc W f np)), (0, ((bs (grS W f) np : Nat) : Int)), (0, ((np : Nat) : Int))], [(2, ((cRi σ (grS W f) np) 198 12)), (0, ((np : Nat) : Int))], (cRi σ (grS W f) np))) rfl rfl ?_
    refine TT.top0 (z := 36) ((cRi_fr σ (grS W f) np 198 (12) (by decide)).trans hpe) ?_
    refine TT.steps (cd := cd122) 1 (c' := (58, [(2, 198), (0, ((t : Nat) : Int)), (0, x2), (0, x3), (0, x4), (0, ((bs W np : Nat) : Int)), (0, (grc W f np)), (0, ((bs (grS W f) np : Nat) : Int)), (0, ((np : Nat) : Int))], [(0, ((cRi σ (grS W f) np) 36 0)), (0, ((np : Nat) : Int))], (cRi σ (grS W f) np))) rfl rfl ?_
    refine TT.top0 (z := ((np : Nat) : Int)) ((cRi_fr σ (grS W f) np 36 (0) (by decide)).trans hc) ?_
    refine TT.steps (cd := cd122) 1 (c' := ((if decide (((np : Nat) : Int) ≤ ((np : Nat) : Int)) = true then 85 else 59), [(2, 198), (0, ((t : Nat) : Int)), (0, x2), (0, x3), (0, x4), (0, ((bs W np : Nat) : Int)), (0, (grc W f np)), (0, ((bs (grS W f) np : Nat) : Int)), (0, ((np : Nat) : Int))], [], (cRi σ (grS W f) np))) rfl rfl ?_
    refine TT.br (p := ((np : Nat) : Int) ≤ ((np : Nat) : Int)) (fun h1 => ?_) (fun h1 => absurd (show ((np : Nat) : Int) ≤ ((np : Nat) : Int) by omega) h1)
    exact kk _ _
  | succ d ih =>
    intro n hn
    refine TT.steps (cd := cd122) 3 (c' := (57, [(2, 198), (0, ((t : Nat) : Int)), (0, x2), (0, x3), (0, x4), (0, ((bs W np : Nat) : Int)), (0, (grc W f n)), (0, ((bs (grS W f) n : Nat) : Int)), (0, ((n : Nat) : Int))], [(2, ((cRi σ (grS W f) n) 198 12)), (0, ((n : Nat) : Int))], (cRi σ (grS W f) n))) rfl rfl ?_
    refine TT.top0 (z := 36) ((cRi_fr σ (grS W f) n 198 (12) (by decide)).trans hpe) ?_
    refine TT.steps (cd := cd122) 1 (c' := (58, [(2, 198), (0, ((t : Nat) : Int)), (0, x2), (0, x3), (0, x4), (0, ((bs W np : Nat) : Int)), (0, (grc W f n)), (0, ((bs (grS W f) n : Nat) : Int)), (0, ((n : Nat) : Int))], [(0, ((cRi σ (grS W f) n) 36 0)), (0, ((n : Nat) : Int))], (cRi σ (grS W f) n))) rfl rfl ?_
    refine TT.top0 (z := ((np : Nat) : Int)) ((cRi_fr σ (grS W f) n 36 (0) (by decide)).trans hc) ?_
    refine TT.steps (cd := cd122) 1 (c' := ((if decide (((np : Nat) : Int) ≤ ((n : Nat) : Int)) = true then 85 else 59), [(2, 198), (0, ((t : Nat) : Int)), (0, x2), (0, x3), (0, x4), (0, ((bs W np : Nat) : Int)), (0, (grc W f n)), (0, ((bs (grS W f) n : Nat) : Int)), (0, ((n : Nat) : Int))], [], (cRi σ (grS W f) n))) rfl rfl ?_
    refine TT.br (p := ((np : Nat) : Int) ≤ ((n : Nat) : Int)) (fun h1 => absurd h1 (show ¬ (((np : Nat) : Int) ≤ ((n : Nat) : Int)) by omega)) (fun h1 => ?_)
    refine TT.steps (cd := cd122) 2 (c' := ((if decide (((bs W np : Nat) : Int) = 0) = true then 85 else 61), [(2, 198), (0, ((t : Nat) : Int)), (0, x2), (0, x3), (0, x4), (0, ((bs W np : Nat) : Int)), (0, (grc W f n)), (0, ((bs (grS W f) n : Nat) : Int)), (0, ((n : Nat) : Int))], [], (cRi σ (grS W f) n))) rfl rfl ?_
    refine TT.br (p := ((bs W np : Nat) : Int) = 0) (fun h2 => ?_) (fun h2 => ?_)
    · have hW : ∀ p, p < np → ¬ grS W f p = true := fun p hp => by have := any_none h2 p hp; simp [grS, this]
      rw [cRi_none σ (grS W f) n np hW (by omega), bs_none hW (n := n) (by omega)]
      exact kk _ _
    · refine TT.steps (cd := cd122) 2 (c' := (63, [(2, 198), (0, ((t : Nat) : Int)), (0, x2), (0, x3), (0, x4), (0, ((bs W np : Nat) : Int)), (0, (grc W f n)), (0, ((bs (grS W f) n : Nat) : Int)), (0, ((n : Nat) : Int))], [(0, ((n : Nat) : Int)), (0, ((bs W np : Nat) : Int))], (cRi σ (grS W f) n))) rfl rfl ?_
      refine TT.call (cd := cd122) rfl rfl rfl (by decide) rfl (u_bit X ((bs W np : Nat) : Int) ((n : Nat) : Int) (cRi σ (grS W f) n)) (fun r3 σ3 hq => ?_)
      rw [hq.1, hq.2, bs_bitI W (by omega) (by omega)]
      refine TT.steps (cd := cd122) 2 (c' := ((if decide (¬ ((if W n = true then 1 else 0) : Int) = 1) = true then 83 else 66), [(2, 198), (0, ((t : Nat) : Int)), (0, x2), (0, x3), (0, x4), (0, ((bs W np : Nat) : Int)), (0, (grc W f n)), (0, ((bs (grS W f) n : Nat) : Int)), (0, ((n : Nat) : Int))], [], (cRi σ (grS W f) n))) rfl rfl ?_
      refine TT.br (p := ¬ ((if W n = true then 1 else 0) : Int) = 1) (fun h4 => ?_) (fun h4 => ?_)
      · replace h4 := ite1_f h4
        refine TT.inc (cd := cd122) ((n + 1 : Nat) : Int) rfl rfl rfl rfl (fun h => absurd h.2 (show ¬ (0 = 1) by decide)) (aAdd_n (a := n) (b := 1) (by omega)) (ls' := [(2, 198), (0, ((t : Nat) : Int)), (0, x2), (0, x3), (0, x4), (0, ((bs W np : Nat) : Int)), (0, (grc W f n)), (0, ((bs (grS W f) n : Nat) : Int)), (0, ((n + 1 : Nat) : Int))]) rfl ?_
        refine TT.steps (cd := cd122) 1 (c' := (54, [(2, 198), (0, ((t : Nat) : Int)), (0, x2), (0, x3), (0, x4), (0, ((bs W np : Nat) : Int)), (0, (grc W f n)), (0, ((bs (grS W f) n : Nat) : Int)), (0, ((n + 1 : Nat) : Int))], [], (cRi σ (grS W f) n))) rfl rfl ?_
        have e6 : (grc W f n) = (grc W f (n + 1)) := by first | (rw [grc, if_pos ⟨by assumption, Int.not_le.mp (by assumption)⟩]; done) | (rw [grc, if_neg (fun hh => by have := hh.1; have := hh.2; first | omega | contradiction)]; done)
        rw [e6]
        clear e6
        have e7 : ((bs (grS W f) n : Nat) : Int) = ((bs (grS W f) (n + 1) : Nat) : Int) := by first | exact bs_t (grS_t (by assumption) (Int.not_le.mp (by assumption))) (by omega) | exact bs_f (grS_f1 (by assumption)) | exact bs_f (grS_f2 (by assumption))
        rw [e7]
        clear e7
        have e8 : ((n + 1 : Nat) : Int) = (((n + 1) : Nat) : Int) := by omega
        rw [e8]
        clear e8
        refine TT.sg (σ' := (cRi σ (grS W f) (n + 1))) (by first | exact cRi_t σ (grS W f) n (grS_t (by assumption) (Int.not_le.mp (by assumption))) | exact cRi_f σ (grS W f) n (by rw [grS_f1 (by assumption)]; decide) | exact cRi_f σ (grS W f) n (by rw [grS_f2 (by assumption)]; decide)) ?_
        exact ih (n + 1) (by omega)
      · replace h4 := ite1_t (Decidable.not_not.mp h4)
        refine TT.steps (cd := cd122) 2 (c' := ((if decide ((grc W f n) ≤ 0) = true then 83 else 68), [(2, 198), (0, ((t : Nat) : Int)), (0, x2), (0, x3), (0, x4), (0, ((bs W np : Nat) : Int)), (0, (grc W f n)), (0, ((bs (grS W f) n : Nat) : Int)), (0, ((n : Nat) : Int))], [], (cRi σ (grS W f) n))) rfl rfl ?_
        refine TT.br (p := (grc W f n) ≤ 0) (fun h5 => ?_) (fun h5 => ?_)
        · refine TT.inc (cd := cd122) ((n + 1 : Nat) : Int) rfl rfl rfl rfl (fun h => absurd h.2 (show ¬ (0 = 1) by decide)) (aAdd_n (a := n) (b := 1) (by omega)) (ls' := [(2, 198), (0, ((t : Nat) : Int)), (0, x2), (0, x3), (0, x4), (0, ((bs W np : Nat) : Int)), (0, (grc W f n)), (0, ((bs (grS W f) n : Nat) : Int)), (0, ((n + 1 : Nat) : Int))]) rfl ?_
          refine TT.steps (cd := cd122) 1 (c' := (54, [(2, 198), (0, ((t : Nat) : Int)), (0, x2), (0, x3), (0, x4), (0, ((bs W np : Nat) : Int)), (0, (grc W f n)), (0, ((bs (grS W f) n : Nat) : Int)), (0, ((n + 1 : Nat) : Int))], [], (cRi σ (grS W f) n))) rfl rfl ?_
          have e6 : (grc W f n) = (grc W f (n + 1)) := by first | (rw [grc, if_pos ⟨by assumption, Int.not_le.mp (by assumption)⟩]; done) | (rw [grc, if_neg (fun hh => by have := hh.1; have := hh.2; first | omega | contradiction)]; done)
          rw [e6]
          clear e6
          have e7 : ((bs (grS W f) n : Nat) : Int) = ((bs (grS W f) (n + 1) : Nat) : Int) := by first | exact bs_t (grS_t (by assumption) (Int.not_le.mp (by assumption))) (by omega) | exact bs_f (grS_f1 (by assumption)) | exact bs_f (grS_f2 (by assumption))
          rw [e7]
          clear e7
          have e8 : ((n + 1 : Nat) : Int) = (((n + 1) : Nat) : Int) := by omega
          rw [e8]
          clear e8
          refine TT.sg (σ' := (cRi σ (grS W f) (n + 1))) (by first | exact cRi_t σ (grS W f) n (grS_t (by assumption) (Int.not_le.mp (by assumption))) | exact cRi_f σ (grS W f) n (by rw [grS_f1 (by assumption)]; decide) | exact cRi_f σ (grS W f) n (by rw [grS_f2 (by assumption)]; decide)) ?_
          exact ih (n + 1) (by omega)
        · refine TT.steps (cd := cd122) 10 (c' := (78, [(2, 198), (0, ((t : Nat) : Int)), (0, x2), (0, x3), (0, x4), (0, ((bs W np : Nat) : Int)), (0, (grc W f n)), (0, (aOr ((bs (grS W f) n : Nat) : Int) (aShl 1 ((n : Nat) : Int)))), (0, ((n : Nat) : Int))], [(0, ((n : Nat) : Int)), (2, 249), (0, ((n : Nat) : Int)), (2, 249)], (cRi σ (grS W f) n))) rfl rfl ?_
          refine TT.aldN (cd := cd122) (249) (n) rfl rfl rfl rfl (show n < 10 by omega) ?_
          refine TT.top0 (z := (σ 249 n)) (cRi_r σ (grS W f) n) ?_
          refine TT.steps (cd := cd122) 2 (c' := (81, [(2, 198), (0, ((t : Nat) : Int)), (0, x2), (0, x3), (0, x4), (0, ((bs W np : Nat) : Int)), (0, (grc W f n)), (0, (aOr ((bs (grS W f) n : Nat) : Int) (aShl 1 ((n : Nat) : Int)))), (0, ((n : Nat) : Int))], [(0, (aAdd (σ 249 n) 1)), (0, ((n : Nat) : Int)), (2, 249)], (cRi σ (grS W f) n))) rfl rfl ?_
          refine TT.astN (cd := cd122) (249) (n) rfl rfl rfl rfl (show n < 10 by omega) ?_
          refine TT.inc (cd := cd122) (aAdd (grc W f n) (-1)) rfl rfl rfl rfl (fun h => absurd h.2 (show ¬ (0 = 1) by decide)) rfl (ls' := [(2, 198), (0, ((t : Nat) : Int)), (0, x2), (0, x3), (0, x4), (0, ((bs W np : Nat) : Int)), (0, (aAdd (grc W f n) (-1))), (0, (aOr ((bs (grS W f) n : Nat) : Int) (aShl 1 ((n : Nat) : Int)))), (0, ((n : Nat) : Int))]) rfl ?_
          refine TT.inc (cd := cd122) ((n + 1 : Nat) : Int) rfl rfl rfl rfl (fun h => absurd h.2 (show ¬ (0 = 1) by decide)) (aAdd_n (a := n) (b := 1) (by omega)) (ls' := [(2, 198), (0, ((t : Nat) : Int)), (0, x2), (0, x3), (0, x4), (0, ((bs W np : Nat) : Int)), (0, (aAdd (grc W f n) (-1))), (0, (aOr ((bs (grS W f) n : Nat) : Int) (aShl 1 ((n : Nat) : Int)))), (0, ((n + 1 : Nat) : Int))]) rfl ?_
          refine TT.steps (cd := cd122) 1 (c' := (54, [(2, 198), (0, ((t : Nat) : Int)), (0, x2), (0, x3), (0, x4), (0, ((bs W np : Nat) : Int)), (0, (aAdd (grc W f n) (-1))), (0, (aOr ((bs (grS W f) n : Nat) : Int) (aShl 1 ((n : Nat) : Int)))), (0, ((n + 1 : Nat) : Int))], [], (up2 (cRi σ (grS W f) n) 249 n (aAdd (σ 249 n) 1)))) rfl rfl ?_
          have e6 : (aAdd (grc W f n) (-1)) = (grc W f (n + 1)) := by first | (rw [grc, if_pos ⟨by assumption, Int.not_le.mp (by assumption)⟩]; done) | (rw [grc, if_neg (fun hh => by have := hh.1; have := hh.2; first | omega | contradiction)]; done)
          rw [e6]
          clear e6
          have e7 : (aOr ((bs (grS W f) n : Nat) : Int) (aShl 1 ((n : Nat) : Int))) = ((bs (grS W f) (n + 1) : Nat) : Int) := by first | exact bs_t (grS_t (by assumption) (Int.not_le.mp (by assumption))) (by omega) | exact bs_f (grS_f1 (by assumption)) | exact bs_f (grS_f2 (by assumption))
          rw [e7]
          clear e7
          have e8 : ((n + 1 : Nat) : Int) = (((n + 1) : Nat) : Int) := by omega
          rw [e8]
          clear e8
          refine TT.sg (σ' := (cRi σ (grS W f) (n + 1))) (by first | exact cRi_t σ (grS W f) n (grS_t (by assumption) (Int.not_le.mp (by assumption))) | exact cRi_f σ (grS W f) n (by rw [grS_f1 (by assumption)]; decide) | exact cRi_f σ (grS W f) n (by rw [grS_f2 (by assumption)]; decide)) ?_
          exact ih (n + 1) (by omega)
theorem vl_off_42 (X : AX) (Q : Option AV → AH → Prop) (t np : Nat) (ht : t < 6) (x2 x3 : Int) (F : Nat → Bool) (sI du : Int) (σ : AH) (hpe : σ 198 12 = 42) (hc : σ 42 0 = (np : Int)) (hnp2 : np ≤ 10) (hdu : σ 252 t = du)  (kk : ∀ (y0 : AV), TT X 121 (103, [(2, 198), (0, ((t : Nat) : Int)), (0, x2), (0, x3), (0, sI), (0, ((bs F np : Nat) : Int)), y0], [], (cOf σ F sI du np)) Q) : ∀ (d n : Nat), n + d = np → TT X 121 (76, [(2, 198), (0, ((t : Nat) : Int)), (0, x2), (0, x3), (0, sI), (0, ((bs F np : Nat) : Int)), (0, ((n : Nat) : Int))], [], (cOf σ F sI du n)) Q := by
  intro d
  induction d with
  | zero =>
    intro n hn
    have hnn : n = np := by omega
    rw [hnn]
    refine TT.steps (cd := cd121) 3 (c' := (79, [(2, 198), (0, ((t : Nat) : Int)), (0, x2), (0, x3), (0, sI), (0, ((bs F np : Nat) : Int)), (0, ((np : Nat) : Int))], [(2, ((cOf σ F sI du np) 198 12)), (0, ((np : Nat) : Int))], (cOf σ F sI du np))) rfl rfl ?_
    refine TT.top0 (z := 42) ((cOf_fr σ F sI du np 198 (12) (by decide)).trans hpe) ?_
    refine TT.steps (cd := cd121) 1 (c' := (80, [(2, 198), (0, ((t : Nat) : Int)), (0, x2), (0, x3), (0, sI), (0, ((bs F np : Nat) : Int)), (0, ((np : Nat) : Int))], [(0, ((cOf σ F sI du np) 42 0)), (0, ((np : Nat) : Int))], (cOf σ F sI du np))) rfl rfl ?_
    refine TT.top0 (z := ((np : Nat) : Int)) ((cOf_fr σ F sI du np 42 (0) (by decide)).trans hc) ?_
    refine TT.steps (cd := cd121) 1 (c' := ((if decide (((np : Nat) : Int) ≤ ((np : Nat) : Int)) = true then 103 else 81), [(2, 198), (0, ((t : Nat) : Int)), (0, x2), (0, x3), (0, sI), (0, ((bs F np : Nat) : Int)), (0, ((np : Nat) : Int))], [], (cOf σ F sI du np))) rfl rfl ?_
    refine TT.br (p := ((np : Nat) : Int) ≤ ((np : Nat) : Int)) (fun h1 => ?_) (fun h1 => absurd (show ((np : Nat) : Int) ≤ ((np : Nat) : Int) by omega) h1)
    exact kk _
  | succ d ih =>
    intro n hn
    refine TT.steps (cd := cd121) 3 (c' := (79, [(2, 198), (0, ((t : Nat) : Int)), (0, x2), (0, x3), (0, sI), (0, ((bs F np : Nat) : Int)), (0, ((n : Nat) : Int))], [(2, ((cOf σ F sI du n) 198 12)), (0, ((n : Nat) : Int))], (cOf σ F sI du n))) rfl rfl ?_
    refine TT.top0 (z := 42) ((cOf_fr σ F sI du n 198 (12) (by decide)).trans hpe) ?_
    refine TT.steps (cd := cd121) 1 (c' := (80, [(2, 198), (0, ((t : Nat) : Int)), (0, x2), (0, x3), (0, sI), (0, ((bs F np : Nat) : Int)), (0, ((n : Nat) : Int))], [(0, ((cOf σ F sI du n) 42 0)), (0, ((n : Nat) : Int))], (cOf σ F sI du n))) rfl rfl ?_
    refine TT.top0 (z := ((np : Nat) : Int)) ((cOf_fr σ F sI du n 42 (0) (by decide)).trans hc) ?_
    refine TT.steps (cd := cd121) 1 (c' := ((if decide (((np : Nat) : Int) ≤ ((n : Nat) : Int)) = true then 103 else 81), [(2, 198), (0, ((t : Nat) : Int)), (0, x2), (0, x3), (0, sI), (0, ((bs F np : Nat) : Int)), (0, ((n : Nat) : Int))], [], (cOf σ F sI du n))) rfl rfl ?_
    refine TT.br (p := ((np : Nat) : Int) ≤ ((n : Nat) : Int)) (fun h1 => absurd h1 (show ¬ (((np : Nat) : Int) ≤ ((n : Nat) : Int)) by omega)) (fun h1 => ?_)
    refine TT.steps (cd := cd121) 2 (c' := ((if decide (((bs F np : Nat) : Int) = 0) = true then 103 else 83), [(2, 198), (0, ((t : Nat) : Int)), (0, x2), (0, x3), (0, sI), (0, ((bs F np : Nat) : Int)), (0, ((n : Nat) : Int))], [], (cOf σ F sI du n))) rfl rfl ?_
    refine TT.br (p := ((bs F np : Nat) : Int) = 0) (fun h2 => ?_) (fun h2 => ?_)
    · rw [cOf_none σ F sI du n np (any_none h2) (by omega)]
      exact kk _
    · refine TT.steps (cd := cd121) 2 (c' := (85, [(2, 198), (0, ((t : Nat) : Int)), (0, x2), (0, x3), (0, sI), (0, ((bs F np : Nat) : Int)), (0, ((n : Nat) : Int))], [(0, ((n : Nat) : Int)), (0, ((bs F np : Nat) : Int))], (cOf σ F sI du n))) rfl rfl ?_
      refine TT.call (cd := cd121) rfl rfl rfl (by decide) rfl (u_bit X ((bs F np : Nat) : Int) ((n : Nat) : Int) (cOf σ F sI du n)) (fun r3 σ3 hq => ?_)
      rw [hq.1, hq.2, bs_bitI F (by omega) (by omega)]
      refine TT.steps (cd := cd121) 2 (c' := ((if decide (¬ ((if F n = true then 1 else 0) : Int) = 1) = true then 101 else 88), [(2, 198), (0, ((t : Nat) : Int)), (0, x2), (0, x3), (0, sI), (0, ((bs F np : Nat) : Int)), (0, ((n : Nat) : Int))], [], (cOf σ F sI du n))) rfl rfl ?_
      refine TT.br (p := ¬ ((if F n = true then 1 else 0) : Int) = 1) (fun h4 => ?_) (fun h4 => ?_)
      · replace h4 := ite1_f h4
        refine TT.inc (cd := cd121) ((n + 1 : Nat) : Int) rfl rfl rfl rfl (fun h => absurd h.2 (show ¬ (0 = 1) by decide)) (aAdd_n (a := n) (b := 1) (by omega)) (ls' := [(2, 198), (0, ((t : Nat) : Int)), (0, x2), (0, x3), (0, sI), (0, ((bs F np : Nat) : Int)), (0, ((n + 1 : Nat) : Int))]) rfl ?_
        refine TT.steps (cd := cd121) 1 (c' := (76, [(2, 198), (0, ((t : Nat) : Int)), (0, x2), (0, x3), (0, sI), (0, ((bs F np : Nat) : Int)), (0, ((n + 1 : Nat) : Int))], [], (cOf σ F sI du n))) rfl rfl ?_
        have e6 : ((n + 1 : Nat) : Int) = (((n + 1) : Nat) : Int) := by omega
        rw [e6]
        clear e6
        refine TT.sg (σ' := (cOf σ F sI du (n + 1))) (by first | exact cOf_t σ F sI du n (by assumption) | exact cOf_f σ F sI du n (by assumption)) ?_
        exact ih (n + 1) (by omega)
      · replace h4 := ite1_t (Decidable.not_not.mp h4)
        refine TT.steps (cd := cd121) 4 (c' := (92, [(2, 198), (0, ((t : Nat) : Int)), (0, x2), (0, x3), (0, sI), (0, ((bs F np : Nat) : Int)), (0, ((n : Nat) : Int))], [(0, sI), (0, ((n : Nat) : Int)), (2, 247)], (cOf σ F sI du n))) rfl rfl ?_
        refine TT.astN (cd := cd121) (247) (n) rfl rfl rfl rfl (show n < 10 by omega) ?_
        refine TT.steps (cd := cd121) 6 (c' := (99, [(2, 198), (0, ((t : Nat) : Int)), (0, x2), (0, x3), (0, sI), (0, ((bs F np : Nat) : Int)), (0, ((n : Nat) : Int))], [(0, ((t : Nat) : Int)), (2, 252), (0, ((n : Nat) : Int)), (2, 248)], (up2 (cOf σ F sI du n) 247 n sI))) rfl rfl ?_
        refine TT.aldN (cd := cd121) (252) (t) rfl rfl rfl rfl (show t < 6 by omega) ?_
        refine TT.top0 (z := du) (((up2_far (k := 247) (k' := 252) _ _ _ _ (by decide)).trans (cOf_fr σ F sI du n 252 (t) (by decide))).trans hdu) ?_
        refine TT.astN (cd := cd121) (248) (n) rfl rfl rfl rfl (show n < 10 by omega) ?_
        refine TT.inc (cd := cd121) ((n + 1 : Nat) : Int) rfl rfl rfl rfl (fun h => absurd h.2 (show ¬ (0 = 1) by decide)) (aAdd_n (a := n) (b := 1) (by omega)) (ls' := [(2, 198), (0, ((t : Nat) : Int)), (0, x2), (0, x3), (0, sI), (0, ((bs F np : Nat) : Int)), (0, ((n + 1 : Nat) : Int))]) rfl ?_
        refine TT.steps (cd := cd121) 1 (c' := (76, [(2, 198), (0, ((t : Nat) : Int)), (0, x2), (0, x3), (0, sI), (0, ((bs F np : Nat) : Int)), (0, ((n + 1 : Nat) : Int))], [], (up2 (up2 (cOf σ F sI du n) 247 n sI) 248 n du))) rfl rfl ?_
        have e6 : ((n + 1 : Nat) : Int) = (((n + 1) : Nat) : Int) := by omega
        rw [e6]
        clear e6
        refine TT.sg (σ' := (cOf σ F sI du (n + 1))) (by first | exact cOf_t σ F sI du n (by assumption) | exact cOf_f σ F sI du n (by assumption)) ?_
        exact ih (n + 1) (by omega)
theorem vl_on_42 (X : AX) (Q : Option AV → AH → Prop) (t np : Nat) (x2 x3 x4 : Int) (W : Nat → Bool) (f : Int) (σ : AH) (hpe : σ 198 12 = 42) (hc : σ 42 0 = (np : Int)) (hnp2 : np ≤ 10)  (kk : ∀ (y0 : AV) (y1 : AV), TT X 122 (85, [(2, 198), (0, ((t : Nat) : Int)), (0, x2), (0, x3), (0, x4), (0, ((bs W np : Nat) : Int)), y0, (0, ((bs (grS W f) np : Nat) : Int)), y1], [], (cRi σ (grS W f) np)) Q) : ∀ (d n : Nat), n + d = np → TT X 122 (54, [(2, 198), (0, ((t : Nat) : Int)), (0, x2), (0, x3), (0, x4), (0, ((bs W np : Nat) : Int)), (0, (grc W f n)), (0, ((bs (grS W f) n : Nat) : Int)), (0, ((n : Nat) : Int))], [], (cRi σ (grS W f) n)) Q := by
  intro d
  induction d with
  | zero =>
    intro n hn
    have hnn : n = np := by omega
    rw [hnn]
    refine TT.steps (cd := cd122) 3 (c' := (57, [(2, 198), (0, ((t : Nat) : Int)), (0, x2), (0, x3), (0, x4), (0, ((bs W np : Nat) : Int)), (0, (grc W f np)), (0, ((bs (grS W f) np : Nat) : Int)), (0, ((np : Nat) : Int))], [(2, ((cRi σ (grS W f) np) 198 12)), (0, ((np : Nat) : Int))], (cRi σ (grS W f) np))) rfl rfl ?_
    refine TT.top0 (z := 42) ((cRi_fr σ (grS W f) np 198 (12) (by decide)).trans hpe) ?_
    refine TT.steps (cd := cd122) 1 (c' := (58, [(2, 198), (0, ((t : Nat) : Int)), (0, x2), (0, x3), (0, x4), (0, ((bs W np : Nat) : Int)), (0, (grc W f np)), (0, ((bs (grS W f) np : Nat) : Int)), (0, ((np : Nat) : Int))], [(0, ((cRi σ (grS W f) np) 42 0)), (0, ((np : Nat) : Int))], (cRi σ (grS W f) np))) rfl rfl ?_
    refine TT.top0 (z := ((np : Nat) : Int)) ((cRi_fr σ (grS W f) np 42 (0) (by decide)).trans hc) ?_
    refine TT.steps (cd := cd122) 1 (c' := ((if decide (((np : Nat) : Int) ≤ ((np : Nat) : Int)) = true then 85 else 59), [(2, 198), (0, ((t : Nat) : Int)), (0, x2), (0, x3), (0, x4), (0, ((bs W np : Nat) : Int)), (0, (grc W f np)), (0, ((bs (grS W f) np : Nat) : Int)), (0, ((np : Nat) : Int))], [], (cRi σ (grS W f) np))) rfl rfl ?_
    refine TT.br (p := ((np : Nat) : Int) ≤ ((np : Nat) : Int)) (fun h1 => ?_) (fun h1 => absurd (show ((np : Nat) : Int) ≤ ((np : Nat) : Int) by omega) h1)
    exact kk _ _
  | succ d ih =>
    intro n hn
    refine TT.steps (cd := cd122) 3 (c' := (57, [(2, 198), (0, ((t : Nat) : Int)), (0, x2), (0, x3), (0, x4), (0, ((bs W np : Nat) : Int)), (0, (grc W f n)), (0, ((bs (grS W f) n : Nat) : Int)), (0, ((n : Nat) : Int))], [(2, ((cRi σ (grS W f) n) 198 12)), (0, ((n : Nat) : Int))], (cRi σ (grS W f) n))) rfl rfl ?_
    refine TT.top0 (z := 42) ((cRi_fr σ (grS W f) n 198 (12) (by decide)).trans hpe) ?_
    refine TT.steps (cd := cd122) 1 (c' := (58, [(2, 198), (0, ((t : Nat) : Int)), (0, x2), (0, x3), (0, x4), (0, ((bs W np : Nat) : Int)), (0, (grc W f n)), (0, ((bs (grS W f) n : Nat) : Int)), (0, ((n : Nat) : Int))], [(0, ((cRi σ (grS W f) n) 42 0)), (0, ((n : Nat) : Int))], (cRi σ (grS W f) n))) rfl rfl ?_
    refine TT.top0 (z := ((np : Nat) : Int)) ((cRi_fr σ (grS W f) n 42 (0) (by decide)).trans hc) ?_
    refine TT.steps (cd := cd122) 1 (c' := ((if decide (((np : Nat) : Int) ≤ ((n : Nat) : Int)) = true then 85 else 59), [(2, 198), (0, ((t : Nat) : Int)), (0, x2), (0, x3), (0, x4), (0, ((bs W np : Nat) : Int)), (0, (grc W f n)), (0, ((bs (grS W f) n : Nat) : Int)), (0, ((n : Nat) : Int))], [], (cRi σ (grS W f) n))) rfl rfl ?_
    refine TT.br (p := ((np : Nat) : Int) ≤ ((n : Nat) : Int)) (fun h1 => absurd h1 (show ¬ (((np : Nat) : Int) ≤ ((n : Nat) : Int)) by omega)) (fun h1 => ?_)
    refine TT.steps (cd := cd122) 2 (c' := ((if decide (((bs W np : Nat) : Int) = 0) = true then 85 else 61), [(2, 198), (0, ((t : Nat) : Int)), (0, x2), (0, x3), (0, x4), (0, ((bs W np : Nat) : Int)), (0, (grc W f n)), (0, ((bs (grS W f) n : Nat) : Int)), (0, ((n : Nat) : Int))], [], (cRi σ (grS W f) n))) rfl rfl ?_
    refine TT.br (p := ((bs W np : Nat) : Int) = 0) (fun h2 => ?_) (fun h2 => ?_)
    · have hW : ∀ p, p < np → ¬ grS W f p = true := fun p hp => by have := any_none h2 p hp; simp [grS, this]
      rw [cRi_none σ (grS W f) n np hW (by omega), bs_none hW (n := n) (by omega)]
      exact kk _ _
    · refine TT.steps (cd := cd122) 2 (c' := (63, [(2, 198), (0, ((t : Nat) : Int)), (0, x2), (0, x3), (0, x4), (0, ((bs W np : Nat) : Int)), (0, (grc W f n)), (0, ((bs (grS W f) n : Nat) : Int)), (0, ((n : Nat) : Int))], [(0, ((n : Nat) : Int)), (0, ((bs W np : Nat) : Int))], (cRi σ (grS W f) n))) rfl rfl ?_
      refine TT.call (cd := cd122) rfl rfl rfl (by decide) rfl (u_bit X ((bs W np : Nat) : Int) ((n : Nat) : Int) (cRi σ (grS W f) n)) (fun r3 σ3 hq => ?_)
      rw [hq.1, hq.2, bs_bitI W (by omega) (by omega)]
      refine TT.steps (cd := cd122) 2 (c' := ((if decide (¬ ((if W n = true then 1 else 0) : Int) = 1) = true then 83 else 66), [(2, 198), (0, ((t : Nat) : Int)), (0, x2), (0, x3), (0, x4), (0, ((bs W np : Nat) : Int)), (0, (grc W f n)), (0, ((bs (grS W f) n : Nat) : Int)), (0, ((n : Nat) : Int))], [], (cRi σ (grS W f) n))) rfl rfl ?_
      refine TT.br (p := ¬ ((if W n = true then 1 else 0) : Int) = 1) (fun h4 => ?_) (fun h4 => ?_)
      · replace h4 := ite1_f h4
        refine TT.inc (cd := cd122) ((n + 1 : Nat) : Int) rfl rfl rfl rfl (fun h => absurd h.2 (show ¬ (0 = 1) by decide)) (aAdd_n (a := n) (b := 1) (by omega)) (ls' := [(2, 198), (0, ((t : Nat) : Int)), (0, x2), (0, x3), (0, x4), (0, ((bs W np : Nat) : Int)), (0, (grc W f n)), (0, ((bs (grS W f) n : Nat) : Int)), (0, ((n + 1 : Nat) : Int))]) rfl ?_
        refine TT.steps (cd := cd122) 1 (c' := (54, [(2, 198), (0, ((t : Nat) : Int)), (0, x2), (0, x3), (0, x4), (0, ((bs W np : Nat) : Int)), (0, (grc W f n)), (0, ((bs (grS W f) n : Nat) : Int)), (0, ((n + 1 : Nat) : Int))], [], (cRi σ (grS W f) n))) rfl rfl ?_
        have e6 : (grc W f n) = (grc W f (n + 1)) := by first | (rw [grc, if_pos ⟨by assumption, Int.not_le.mp (by assumption)⟩]; done) | (rw [grc, if_neg (fun hh => by have := hh.1; have := hh.2; first | omega | contradiction)]; done)
        rw [e6]
        clear e6
        have e7 : ((bs (grS W f) n : Nat) : Int) = ((bs (grS W f) (n + 1) : Nat) : Int) := by first | exact bs_t (grS_t (by assumption) (Int.not_le.mp (by assumption))) (by omega) | exact bs_f (grS_f1 (by assumption)) | exact bs_f (grS_f2 (by assumption))
        rw [e7]
        clear e7
        have e8 : ((n + 1 : Nat) : Int) = (((n + 1) : Nat) : Int) := by omega
        rw [e8]
        clear e8
        refine TT.sg (σ' := (cRi σ (grS W f) (n + 1))) (by first | exact cRi_t σ (grS W f) n (grS_t (by assumption) (Int.not_le.mp (by assumption))) | exact cRi_f σ (grS W f) n (by rw [grS_f1 (by assumption)]; decide) | exact cRi_f σ (grS W f) n (by rw [grS_f2 (by assumption)]; decide)) ?_
        exact ih (n + 1) (by omega)
      · replace h4 := ite1_t (Decidable.not_not.mp h4)
        refine TT.steps (cd := cd122) 2 (c' := ((if decide ((grc W f n) ≤ 0) = true then 83 else 68), [(2, 198), (0, ((t : Nat) : Int)), (0, x2), (0, x3), (0, x4), (0, ((bs W np : Nat) : Int)), (0, (grc W f n)), (0, ((bs (grS W f) n : Nat) : Int)), (0, ((n : Nat) : Int))], [], (cRi σ (grS W f) n))) rfl rfl ?_
        refine TT.br (p := (grc W f n) ≤ 0) (fun h5 => ?_) (fun h5 => ?_)
        · refine TT.inc (cd := cd122) ((n + 1 : Nat) : Int) rfl rfl rfl rfl (fun h => absurd h.2 (show ¬ (0 = 1) by decide)) (aAdd_n (a := n) (b := 1) (by omega)) (ls' := [(2, 198), (0, ((t : Nat) : Int)), (0, x2), (0, x3), (0, x4), (0, ((bs W np : Nat) : Int)), (0, (grc W f n)), (0, ((bs (grS W f) n : Nat) : Int)), (0, ((n + 1 : Nat) : Int))]) rfl ?_
          refine TT.steps (cd := cd122) 1 (c' := (54, [(2, 198), (0, ((t : Nat) : Int)), (0, x2), (0, x3), (0, x4), (0, ((bs W np : Nat) : Int)), (0, (grc W f n)), (0, ((bs (grS W f) n : Nat) : Int)), (0, ((n + 1 : Nat) : Int))], [], (cRi σ (grS W f) n))) rfl rfl ?_
          have e6 : (grc W f n) = (grc W f (n + 1)) := by first | (rw [grc, if_pos ⟨by assumption, Int.not_le.mp (by assumption)⟩]; done) | (rw [grc, if_neg (fun hh => by have := hh.1; have := hh.2; first | omega | contradiction)]; done)
          rw [e6]
          clear e6
          have e7 : ((bs (grS W f) n : Nat) : Int) = ((bs (grS W f) (n + 1) : Nat) : Int) := by first | exact bs_t (grS_t (by assumption) (Int.not_le.mp (by assumption))) (by omega) | exact bs_f (grS_f1 (by assumption)) | exact bs_f (grS_f2 (by assumption))
          rw [e7]
          clear e7
          have e8 : ((n + 1 : Nat) : Int) = (((n + 1) : Nat) : Int) := by omega
          rw [e8]
          clear e8
          refine TT.sg (σ' := (cRi σ (grS W f) (n + 1))) (by first | exact cRi_t σ (grS W f) n (grS_t (by assumption) (Int.not_le.mp (by assumption))) | exact cRi_f σ (grS W f) n (by rw [grS_f1 (by assumption)]; decide) | exact cRi_f σ (grS W f) n (by rw [grS_f2 (by assumption)]; decide)) ?_
          exact ih (n + 1) (by omega)
        · refine TT.steps (cd := cd122) 10 (c' := (78, [(2, 198), (0, ((t : Nat) : Int)), (0, x2), (0, x3), (0, x4), (0, ((bs W np : Nat) : Int)), (0, (grc W f n)), (0, (aOr ((bs (grS W f) n : Nat) : Int) (aShl 1 ((n : Nat) : Int)))), (0, ((n : Nat) : Int))], [(0, ((n : Nat) : Int)), (2, 249), (0, ((n : Nat) : Int)), (2, 249)], (cRi σ (grS W f) n))) rfl rfl ?_
          refine TT.aldN (cd := cd122) (249) (n) rfl rfl rfl rfl (show n < 10 by omega) ?_
          refine TT.top0 (z := (σ 249 n)) (cRi_r σ (grS W f) n) ?_
          refine TT.steps (cd := cd122) 2 (c' := (81, [(2, 198), (0, ((t : Nat) : Int)), (0, x2), (0, x3), (0, x4), (0, ((bs W np : Nat) : Int)), (0, (grc W f n)), (0, (aOr ((bs (grS W f) n : Nat) : Int) (aShl 1 ((n : Nat) : Int)))), (0, ((n : Nat) : Int))], [(0, (aAdd (σ 249 n) 1)), (0, ((n : Nat) : Int)), (2, 249)], (cRi σ (grS W f) n))) rfl rfl ?_
          refine TT.astN (cd := cd122) (249) (n) rfl rfl rfl rfl (show n < 10 by omega) ?_
          refine TT.inc (cd := cd122) (aAdd (grc W f n) (-1)) rfl rfl rfl rfl (fun h => absurd h.2 (show ¬ (0 = 1) by decide)) rfl (ls' := [(2, 198), (0, ((t : Nat) : Int)), (0, x2), (0, x3), (0, x4), (0, ((bs W np : Nat) : Int)), (0, (aAdd (grc W f n) (-1))), (0, (aOr ((bs (grS W f) n : Nat) : Int) (aShl 1 ((n : Nat) : Int)))), (0, ((n : Nat) : Int))]) rfl ?_
          refine TT.inc (cd := cd122) ((n + 1 : Nat) : Int) rfl rfl rfl rfl (fun h => absurd h.2 (show ¬ (0 = 1) by decide)) (aAdd_n (a := n) (b := 1) (by omega)) (ls' := [(2, 198), (0, ((t : Nat) : Int)), (0, x2), (0, x3), (0, x4), (0, ((bs W np : Nat) : Int)), (0, (aAdd (grc W f n) (-1))), (0, (aOr ((bs (grS W f) n : Nat) : Int) (aShl 1 ((n : Nat) : Int)))), (0, ((n + 1 : Nat) : Int))]) rfl ?_
          refine TT.steps (cd := cd122) 1 (c' := (54, [(2, 198), (0, ((t : Nat) : Int)), (0, x2), (0, x3), (0, x4), (0, ((bs W np : Nat) : Int)), (0, (aAdd (grc W f n) (-1))), (0, (aOr ((bs (grS W f) n : Nat) : Int) (aShl 1 ((n : Nat) : Int)))), (0, ((n + 1 : Nat) : Int))], [], (up2 (cRi σ (grS W f) n) 249 n (aAdd (σ 249 n) 1)))) rfl rfl ?_
          have e6 : (aAdd (grc W f n) (-1)) = (grc W f (n + 1)) := by first | (rw [grc, if_pos ⟨by assumption, Int.not_le.mp (by assumption)⟩]; done) | (rw [grc, if_neg (fun hh => by have := hh.1; have := hh.2; first | omega | contradiction)]; done)
          rw [e6]
          clear e6
          have e7 : (aOr ((bs (grS W f) n : Nat) : Int) (aShl 1 ((n : Nat) : Int))) = ((bs (grS W f) (n + 1) : Nat) : Int) := by first | exact bs_t (grS_t (by assumption) (Int.not_le.mp (by assumption))) (by omega) | exact bs_f (grS_f1 (by assumption)) | exact bs_f (grS_f2 (by assumption))
          rw [e7]
          clear e7
          have e8 : ((n + 1 : Nat) : Int) = (((n + 1) : Nat) : Int) := by omega
          rw [e8]
          clear e8
          refine TT.sg (σ' := (cRi σ (grS W f) (n + 1))) (by first | exact cRi_t σ (grS W f) n (grS_t (by assumption) (Int.not_le.mp (by assumption))) | exact cRi_f σ (grS W f) n (by rw [grS_f1 (by assumption)]; decide) | exact cRi_f σ (grS W f) n (by rw [grS_f2 (by assumption)]; decide)) ?_
          exact ih (n + 1) (by omega)
