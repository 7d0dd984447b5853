/-! stopsBy, canBeSeen, seen of the class. -/
theorem ul_sb_8 (X : AX) (Q : Option AV → AH → Prop) (f : Nat → Bool) (b t np lt : Nat) (C : Nat → Nat) (σ ρ : AH) (ht : t < 6) (hnp : np ≤ 10) (hlt2 : 2 ≤ lt) (hlt8 : lt ≤ 8) (h05 : σ 0 5 = 8) (hlt : σ 15 t = (lt : Int)) (hC : ∀ k, k < lt → σ (17 + t) k = (C k : Int) ∧ ρ 305 (8 * (6 * b + t) + k) = (C k : Int) ∧ C k < 14) (hB : ∀ s : Nat, s < 14 → σ 200 s = ((bs (fun p => decide (mBA ρ 0 p (s : Int))) np : Nat) : Int))  (kk : TT X 237 (42, [(2, 0), (0, ((t : Nat) : Int)), (0, ((bs f np : Nat) : Int)), (0, ((lt - 1 : Nat) : Int)), (0, (sbK ρ 0 b t np lt ((bs f np : Nat) : Int) (lt - 2))), (0, (((lt - 2) + 1 : Nat) : Int))], [], σ) Q) : ∀ (d n : Nat), n + d = (lt - 2) → TT X 237 (16, [(2, 0), (0, ((t : Nat) : Int)), (0, ((bs f np : Nat) : Int)), (0, ((lt - 1 : Nat) : Int)), (0, (sbK ρ 0 b t np lt ((bs f np : Nat) : Int) n)), (0, ((n + 1 : Nat) : Int))], [], σ) Q := by
  intro d
  induction d with
  | zero =>
    intro n hn
    have hnn : n = (lt - 2) := by omega
    rw [hnn]
    refine TT.steps (cd := cd237) 3 (c' := ((if decide (((lt - 1 : Nat) : Int) ≤ (((lt - 2) + 1 : Nat) : Int)) = true then 42 else 19), [(2, 0), (0, ((t : Nat) : Int)), (0, ((bs f np : Nat) : Int)), (0, ((lt - 1 : Nat) : Int)), (0, (sbK ρ 0 b t np lt ((bs f np : Nat) : Int) (lt - 2))), (0, (((lt - 2) + 1 : Nat) : Int))], [], σ)) rfl rfl ?_
    refine TT.br (p := ((lt - 1 : Nat) : Int) ≤ (((lt - 2) + 1 : Nat) : Int)) (fun h1 => ?_) (fun h1 => absurd (show ((lt - 1 : Nat) : Int) ≤ (((lt - 2) + 1 : Nat) : Int) by omega) h1)
    exact kk
  | succ d ih =>
    intro n hn
    refine TT.steps (cd := cd237) 3 (c' := ((if decide (((lt - 1 : Nat) : Int) ≤ ((n + 1 : Nat) : Int)) = true then 42 else 19), [(2, 0), (0, ((t : Nat) : Int)), (0, ((bs f np : Nat) : Int)), (0, ((lt - 1 : Nat) : Int)), (0, (sbK ρ 0 b t np lt ((bs f np : Nat) : Int) n)), (0, ((n + 1 : Nat) : Int))], [], σ)) rfl rfl ?_
    refine TT.br (p := ((lt - 1 : Nat) : Int) ≤ ((n + 1 : Nat) : Int)) (fun h1 => absurd h1 (show ¬ (((lt - 1 : Nat) : Int) ≤ ((n + 1 : Nat) : Int)) by omega)) (fun h1 => ?_)
    refine TT.steps (cd := cd237) 7 (c' := (26, [(2, 0), (0, ((t : Nat) : Int)), (0, ((bs f np : Nat) : Int)), (0, ((lt - 1 : Nat) : Int)), (0, (sbK ρ 0 b t np lt ((bs f np : Nat) : Int) n)), (0, ((n + 1 : Nat) : Int))], [(2, (σ 0 5)), (2, 200), (0, ((bs f np : Nat) : Int))], σ)) rfl rfl ?_
    refine TT.top0 (z := 8) h05 ?_
    refine TT.steps (cd := cd237) 2 (c' := (28, [(2, 0), (0, ((t : Nat) : Int)), (0, ((bs f np : Nat) : Int)), (0, ((lt - 1 : Nat) : Int)), (0, (sbK ρ 0 b t np lt ((bs f np : Nat) : Int) n)), (0, ((n + 1 : Nat) : Int))], [(0, ((t : Nat) : Int)), (2, 16), (2, 200), (0, ((bs f np : Nat) : Int))], σ)) rfl rfl ?_
    refine TT.aaldN (cd := cd237) 16 (t) (17 + t) rfl rfl rfl (Or.inr rfl) (show t < 6 by omega) (fxg_16 t (by omega)) ?_
    refine TT.steps (cd := cd237) 1 (c' := (30, [(2, 0), (0, ((t : Nat) : Int)), (0, ((bs f np : Nat) : Int)), (0, ((lt - 1 : Nat) : Int)), (0, (sbK ρ 0 b t np lt ((bs f np : Nat) : Int) n)), (0, ((n + 1 : Nat) : Int))], [(0, ((n + 1 : Nat) : Int)), (2, ((17 + t : Nat) : Int)), (2, 200), (0, ((bs f np : Nat) : Int))], σ)) rfl rfl ?_
    refine TT.aldN (cd := cd237) (17 + t) (n + 1) rfl rfl rfl (kdg_16 t (by omega)).1 (show n + 1 < ln (17 + t) by rw [(kdg_16 t (by omega)).2]; omega) ?_
    refine TT.top0 (z := (((C (n + 1)) : Nat) : Int)) (hC (n + 1) (by omega)).1 ?_
    refine TT.aldN (cd := cd237) (200) ((C (n + 1))) rfl rfl rfl rfl (show (C (n + 1)) < 14 by exact (hC (n + 1) (by omega)).2.2) ?_
    refine TT.top0 (z := ((bs (fun p => decide (mBA ρ 0 p ((C (n + 1)) : Int))) np : Nat) : Int)) (hB _ (hC (n + 1) (by omega)).2.2) ?_
    refine TT.steps (cd := cd237) 1 (c' := (33, [(2, 0), (0, ((t : Nat) : Int)), (0, ((bs f np : Nat) : Int)), (0, ((lt - 1 : Nat) : Int)), (0, (sbK ρ 0 b t np lt ((bs f np : Nat) : Int) n)), (0, ((n + 1 : Nat) : Int))], [(0, (aAnd ((bs f np : Nat) : Int) ((bs (fun p => decide (mBA ρ 0 p ((C (n + 1)) : Int))) np : Nat) : Int)))], σ)) rfl rfl ?_
    refine TT.top0 (z := ((bs (fun p => f p && (decide (mBA ρ 0 p ((C (n + 1)) : Int)))) np : Nat) : Int)) (bs_and f (fun p => decide (mBA ρ 0 p ((C (n + 1)) : Int))) (by omega)) ?_
    refine TT.steps (cd := cd237) 1 (c' := ((if decide (((bs (fun p => f p && (decide (mBA ρ 0 p ((C (n + 1)) : Int)))) np : Nat) : Int) = 0) = true then 40 else 34), [(2, 0), (0, ((t : Nat) : Int)), (0, ((bs f np : Nat) : Int)), (0, ((lt - 1 : Nat) : Int)), (0, (sbK ρ 0 b t np lt ((bs f np : Nat) : Int) n)), (0, ((n + 1 : Nat) : Int))], [], σ)) rfl rfl ?_
    refine TT.br (p := ((bs (fun p => f p && (decide (mBA ρ 0 p ((C (n + 1)) : Int)))) np : Nat) : Int) = 0) (fun h2 => ?_) (fun h2 => ?_)
    · refine TT.inc (cd := cd237) (((n + 1) + 1 : Nat) : Int) rfl rfl rfl rfl (fun h => absurd h.2 (show ¬ (0 = 1) by decide)) (aAdd_n (a := n + 1) (b := 1) (by omega)) (ls' := [(2, 0), (0, ((t : Nat) : Int)), (0, ((bs f np : Nat) : Int)), (0, ((lt - 1 : Nat) : Int)), (0, (sbK ρ 0 b t np lt ((bs f np : Nat) : Int) n)), (0, (((n + 1) + 1 : Nat) : Int))]) rfl ?_
      refine TT.steps (cd := cd237) 1 (c' := (16, [(2, 0), (0, ((t : Nat) : Int)), (0, ((bs f np : Nat) : Int)), (0, ((lt - 1 : Nat) : Int)), (0, (sbK ρ 0 b t np lt ((bs f np : Nat) : Int) n)), (0, (((n + 1) + 1 : Nat) : Int))], [], σ)) rfl rfl ?_
      have e4 : (sbK ρ 0 b t np lt ((bs f np : Nat) : Int) n) = (sbK ρ 0 b t np lt ((bs f np : Nat) : Int) (n + 1)) := by first | exact sb_t hnp (hC (n + 1) (by omega)).2.1 (by assumption) | exact sb_f hnp (hC (n + 1) (by omega)).2.1 (by assumption)
      rw [e4]
      clear e4
      exact ih (n + 1) (by omega)
    · refine TT.steps (cd := cd237) 6 (c' := (40, [(2, 0), (0, ((t : Nat) : Int)), (0, ((bs f np : Nat) : Int)), (0, ((lt - 1 : Nat) : Int)), (0, (aOr (sbK ρ 0 b t np lt ((bs f np : Nat) : Int) n) (aShl 1 ((n + 1 : Nat) : Int)))), (0, ((n + 1 : Nat) : Int))], [], σ)) rfl rfl ?_
      refine TT.inc (cd := cd237) (((n + 1) + 1 : Nat) : Int) rfl rfl rfl rfl (fun h => absurd h.2 (show ¬ (0 = 1) by decide)) (aAdd_n (a := n + 1) (b := 1) (by omega)) (ls' := [(2, 0), (0, ((t : Nat) : Int)), (0, ((bs f np : Nat) : Int)), (0, ((lt - 1 : Nat) : Int)), (0, (aOr (sbK ρ 0 b t np lt ((bs f np : Nat) : Int) n) (aShl 1 ((n + 1 : Nat) : Int)))), (0, (((n + 1) + 1 : Nat) : Int))]) rfl ?_
      refine TT.steps (cd := cd237) 1 (c' := (16, [(2, 0), (0, ((t : Nat) : Int)), (0, ((bs f np : Nat) : Int)), (0, ((lt - 1 : Nat) : Int)), (0, (aOr (sbK ρ 0 b t np lt ((bs f np : Nat) : Int) n) (aShl 1 ((n + 1 : Nat) : Int)))), (0, (((n + 1) + 1 : Nat) : Int))], [], σ)) rfl rfl ?_
      have e4 : (aOr (sbK ρ 0 b t np lt ((bs f np : Nat) : Int) n) (aShl 1 ((n + 1 : Nat) : Int))) = (sbK ρ 0 b t np lt ((bs f np : Nat) : Int) (n + 1)) := by first | exact sb_t hnp (hC (n + 1) (by omega)).2.1 (by assumption) | exact sb_f hnp (hC (n + 1) (by omega)).2.1 (by assumption)
      rw [e4]
      clear e4
      exact ih (n + 1) (by omega)
theorem u_stopsBy_8 (X : AX) (f : Nat → Bool) (b t np lt : Nat) (C : Nat → Nat) (σ ρ : AH) (ht : t < 6) (hnp : np ≤ 10) (hlt2 : 2 ≤ lt) (hlt8 : lt ≤ 8) (h05 : σ 0 5 = 8) (hlt : σ 15 t = (lt : Int)) (hC : ∀ k, k < lt → σ (17 + t) k = (C k : Int) ∧ ρ 305 (8 * (6 * b + t) + k) = (C k : Int) ∧ C k < 14) (hB : ∀ s : Nat, s < 14 → σ 200 s = ((bs (fun p => decide (mBA ρ 0 p (s : Int))) np : Nat) : Int))  : TT X 237 (0, [(2, 0), (0, ((t : Nat) : Int)), (0, ((bs f np : Nat) : Int)), (9, 0), (9, 0), (9, 0)], [], σ) (fun r σ' => r = some (0, mSb ρ 0 b t np lt ((bs f np : Nat) : Int)) ∧ σ' = σ) := by
  refine TT.steps (cd := cd237) 2 (c' := (2, [(2, 0), (0, ((t : Nat) : Int)), (0, ((bs f np : Nat) : Int)), (9, 0), (9, 0), (9, 0)], [(2, (σ 0 5))], σ)) rfl rfl ?_
  refine TT.top0 (z := 8) h05 ?_
  refine TT.steps (cd := cd237) 2 (c' := (4, [(2, 0), (0, ((t : Nat) : Int)), (0, ((bs f np : Nat) : Int)), (9, 0), (9, 0), (9, 0)], [(0, ((t : Nat) : Int)), (2, 15)], σ)) rfl rfl ?_
  refine TT.aldN (cd := cd237) (15) (t) rfl rfl rfl rfl (show t < 6 by omega) ?_
  refine TT.top0 (z := ((lt : Nat) : Int)) hlt ?_
  refine TT.steps (cd := cd237) 2 (c' := (7, [(2, 0), (0, ((t : Nat) : Int)), (0, ((bs f np : Nat) : Int)), (9, 0), (9, 0), (9, 0)], [(0, (aSub ((lt : Nat) : Int) 1))], σ)) rfl rfl ?_
  refine TT.top0 (z := ((lt - 1 : Nat) : Int)) (aSub_n (a := lt) (b := 1) (by omega) (by omega)) ?_
  refine TT.steps (cd := cd237) 9 (c' := (16, [(2, 0), (0, ((t : Nat) : Int)), (0, ((bs f np : Nat) : Int)), (0, ((lt - 1 : Nat) : Int)), (0, (aOr 1 (aShl 1 ((lt - 1 : Nat) : Int)))), (0, 1)], [], σ)) rfl rfl ?_
  refine ul_sb_8 X _ f b t np lt C σ ρ ht hnp hlt2 hlt8 h05 hlt hC hB ?_ (lt - 2) 0 (by omega)
  refine TT.steps (cd := cd237) 1 (c' := (43, [(2, 0), (0, ((t : Nat) : Int)), (0, ((bs f np : Nat) : Int)), (0, ((lt - 1 : Nat) : Int)), (0, (sbK ρ 0 b t np lt ((bs f np : Nat) : Int) (lt - 2))), (0, (((lt - 2) + 1 : Nat) : Int))], [(0, (sbK ρ 0 b t np lt ((bs f np : Nat) : Int) (lt - 2)))], σ)) rfl rfl ?_
  exact TT.ret (cd := cd237) rfl rfl rfl rfl (⟨rfl, rfl⟩)
theorem u_canBeSeen_8 (X : AX) (z : Int) (t lt : Nat) (σ : AH) (ht : t < 6) (hlt2 : 2 ≤ lt) (hlt8 : lt ≤ 8) (h05 : σ 0 5 = 8) (hlt : σ 15 t = (lt : Int))  : TT X 236 (0, [(2, 0), (0, ((t : Nat) : Int)), (0, z), (9, 0), (9, 0)], [], σ) (fun r σ' => (csC z lt → r = some (0, 0) ∧ σ' = σ) ∧ (¬ csC z lt → r = some (0, 1) ∧ σ' = σ)) := by
  refine TT.steps (cd := cd236) 2 (c' := (2, [(2, 0), (0, ((t : Nat) : Int)), (0, z), (9, 0), (9, 0)], [(2, (σ 0 5))], σ)) rfl rfl ?_
  refine TT.top0 (z := 8) h05 ?_
  refine TT.steps (cd := cd236) 2 (c' := (4, [(2, 0), (0, ((t : Nat) : Int)), (0, z), (9, 0), (9, 0)], [(0, ((t : Nat) : Int)), (2, 15)], σ)) rfl rfl ?_
  refine TT.aldN (cd := cd236) (15) (t) rfl rfl rfl rfl (show t < 6 by omega) ?_
  refine TT.top0 (z := ((lt : Nat) : Int)) hlt ?_
  refine TT.steps (cd := cd236) 6 (c' := (11, [(2, 0), (0, ((t : Nat) : Int)), (0, z), (0, ((lt : Nat) : Int)), (9, 0)], [(0, (aSub ((lt : Nat) : Int) 1)), (0, 1), (0, 1)], σ)) rfl rfl ?_
  refine TT.top0 (z := ((lt - 1 : Nat) : Int)) (aSub_n (a := lt) (b := 1) (by omega) (by omega)) ?_
  refine TT.steps (cd := cd236) 5 (c' := ((if decide (z < 0) = true then 28 else 16), [(2, 0), (0, ((t : Nat) : Int)), (0, z), (0, ((lt : Nat) : Int)), (0, (aOr 1 (aShl 1 ((lt - 1 : Nat) : Int))))], [], σ)) rfl rfl ?_
  refine TT.br (p := z < 0) (fun h1 => ?_) (fun h1 => ?_)
  · refine TT.steps (cd := cd236) 1 (c' := (29, [(2, 0), (0, ((t : Nat) : Int)), (0, z), (0, ((lt : Nat) : Int)), (0, (aOr 1 (aShl 1 ((lt - 1 : Nat) : Int))))], [(0, 0)], σ)) rfl rfl ?_
    exact TT.ret (cd := cd236) rfl rfl rfl rfl (by refine ⟨fun hc => ⟨?_, rfl⟩, fun hc => ⟨?_, rfl⟩⟩ <;> first | rfl | exact absurd hc ((cs_yes hlt2 hlt8 (by assumption) (by assumption)).mp (by first | assumption | exact Decidable.not_not.mp (by assumption))) | exact absurd (Or.inl (by assumption)) hc | exact absurd (Or.inr (Or.inl (by assumption))) hc | exact absurd ((cs_yes hlt2 hlt8 (by assumption) (by assumption)).mpr hc) (by assumption))
  · refine TT.steps (cd := cd236) 5 (c' := ((if decide ((aShl 1 ((lt : Nat) : Int)) ≤ z) = true then 28 else 21), [(2, 0), (0, ((t : Nat) : Int)), (0, z), (0, ((lt : Nat) : Int)), (0, (aOr 1 (aShl 1 ((lt - 1 : Nat) : Int))))], [], σ)) rfl rfl ?_
    refine TT.br (p := (aShl 1 ((lt : Nat) : Int)) ≤ z) (fun h2 => ?_) (fun h2 => ?_)
    · refine TT.steps (cd := cd236) 1 (c' := (29, [(2, 0), (0, ((t : Nat) : Int)), (0, z), (0, ((lt : Nat) : Int)), (0, (aOr 1 (aShl 1 ((lt - 1 : Nat) : Int))))], [(0, 0)], σ)) rfl rfl ?_
      exact TT.ret (cd := cd236) rfl rfl rfl rfl (by refine ⟨fun hc => ⟨?_, rfl⟩, fun hc => ⟨?_, rfl⟩⟩ <;> first | rfl | exact absurd hc ((cs_yes hlt2 hlt8 (by assumption) (by assumption)).mp (by first | assumption | exact Decidable.not_not.mp (by assumption))) | exact absurd (Or.inl (by assumption)) hc | exact absurd (Or.inr (Or.inl (by assumption))) hc | exact absurd ((cs_yes hlt2 hlt8 (by assumption) (by assumption)).mpr hc) (by assumption))
    · refine TT.steps (cd := cd236) 5 (c' := ((if decide (¬ (aAnd z (aOr 1 (aShl 1 ((lt - 1 : Nat) : Int)))) = (aOr 1 (aShl 1 ((lt - 1 : Nat) : Int)))) = true then 28 else 26), [(2, 0), (0, ((t : Nat) : Int)), (0, z), (0, ((lt : Nat) : Int)), (0, (aOr 1 (aShl 1 ((lt - 1 : Nat) : Int))))], [], σ)) rfl rfl ?_
      refine TT.br (p := ¬ (aAnd z (aOr 1 (aShl 1 ((lt - 1 : Nat) : Int)))) = (aOr 1 (aShl 1 ((lt - 1 : Nat) : Int)))) (fun h3 => ?_) (fun h3 => ?_)
      · refine TT.steps (cd := cd236) 1 (c' := (29, [(2, 0), (0, ((t : Nat) : Int)), (0, z), (0, ((lt : Nat) : Int)), (0, (aOr 1 (aShl 1 ((lt - 1 : Nat) : Int))))], [(0, 0)], σ)) rfl rfl ?_
        exact TT.ret (cd := cd236) rfl rfl rfl rfl (by refine ⟨fun hc => ⟨?_, rfl⟩, fun hc => ⟨?_, rfl⟩⟩ <;> first | rfl | exact absurd hc ((cs_yes hlt2 hlt8 (by assumption) (by assumption)).mp (by first | assumption | exact Decidable.not_not.mp (by assumption))) | exact absurd (Or.inl (by assumption)) hc | exact absurd (Or.inr (Or.inl (by assumption))) hc | exact absurd ((cs_yes hlt2 hlt8 (by assumption) (by assumption)).mpr hc) (by assumption))
      · refine TT.steps (cd := cd236) 2 (c' := (29, [(2, 0), (0, ((t : Nat) : Int)), (0, z), (0, ((lt : Nat) : Int)), (0, (aOr 1 (aShl 1 ((lt - 1 : Nat) : Int))))], [(0, 1)], σ)) rfl rfl ?_
        exact TT.ret (cd := cd236) rfl rfl rfl rfl (by refine ⟨fun hc => ⟨?_, rfl⟩, fun hc => ⟨?_, rfl⟩⟩ <;> first | rfl | exact absurd hc ((cs_yes hlt2 hlt8 (by assumption) (by assumption)).mp (by first | assumption | exact Decidable.not_not.mp (by assumption))) | exact absurd (Or.inl (by assumption)) hc | exact absurd (Or.inr (Or.inl (by assumption))) hc | exact absurd ((cs_yes hlt2 hlt8 (by assumption) (by assumption)).mpr hc) (by assumption))
theorem ul_sb_170 (X : AX) (Q : Option AV → AH → Prop) (f : Nat → Bool) (b t np lt : Nat) (C : Nat → Nat) (σ ρ : AH) (ht : t < 6) (hnp : np ≤ 10) (hlt2 : 2 ≤ lt) (hlt8 : lt ≤ 8) (h05 : σ 0 5 = 170) (hlt : σ 177 t = (lt : Int)) (hC : ∀ k, k < lt → σ (179 + t) k = (C k : Int) ∧ ρ 305 (8 * (6 * b + t) + k) = (C k : Int) ∧ C k < 14) (hB : ∀ s : Nat, s < 14 → σ 200 s = ((bs (fun p => decide (mBA ρ 0 p (s : Int))) np : Nat) : Int))  (kk : TT X 237 (42, [(2, 0), (0, ((t : Nat) : Int)), (0, ((bs f np : Nat) : Int)), (0, ((lt - 1 : Nat) : Int)), (0, (sbK ρ 0 b t np lt ((bs f np : Nat) : Int) (lt - 2))), (0, (((lt - 2) + 1 : Nat) : Int))], [], σ) Q) : ∀ (d n : Nat), n + d = (lt - 2) → TT X 237 (16, [(2, 0), (0, ((t : Nat) : Int)), (0, ((bs f np : Nat) : Int)), (0, ((lt - 1 : Nat) : Int)), (0, (sbK ρ 0 b t np lt ((bs f np : Nat) : Int) n)), (0, ((n + 1 : Nat) : Int))], [], σ) Q := by
  intro d
  induction d with
  | zero =>
    intro n hn
    have hnn : n = (lt - 2) := by omega
    rw [hnn]
    refine TT.steps (cd := cd237) 3 (c' := ((if decide (((lt - 1 : Nat) : Int) ≤ (((lt - 2) + 1 : Nat) : Int)) = true then 42 else 19), [(2, 0), (0, ((t : Nat) : Int)), (0, ((bs f np : Nat) : Int)), (0, ((lt - 1 : Nat) : Int)), (0, (sbK ρ 0 b t np lt ((bs f np : Nat) : Int) (lt - 2))), (0, (((lt - 2) + 1 : Nat) : Int))], [], σ)) rfl rfl ?_
    refine TT.br (p := ((lt - 1 : Nat) : Int) ≤ (((lt - 2) + 1 : Nat) : Int)) (fun h1 => ?_) (fun h1 => absurd (show ((lt - 1 : Nat) : Int) ≤ (((lt - 2) + 1 : Nat) : Int) by omega) h1)
    exact kk
  | succ d ih =>
    intro n hn
    refine TT.steps (cd := cd237) 3 (c' := ((if decide (((lt - 1 : Nat) : Int) ≤ ((n + 1 : Nat) : Int)) = true then 42 else 19), [(2, 0), (0, ((t : Nat) : Int)), (0, ((bs f np : Nat) : Int)), (0, ((lt - 1 : Nat) : Int)), (0, (sbK ρ 0 b t np lt ((bs f np : Nat) : Int) n)), (0, ((n + 1 : Nat) : Int))], [], σ)) rfl rfl ?_
    refine TT.br (p := ((lt - 1 : Nat) : Int) ≤ ((n + 1 : Nat) : Int)) (fun h1 => absurd h1 (show ¬ (((lt - 1 : Nat) : Int) ≤ ((n + 1 : Nat) : Int)) by omega)) (fun h1 => ?_)
    refine TT.steps (cd := cd237) 7 (c' := (26, [(2, 0), (0, ((t : Nat) : Int)), (0, ((bs f np : Nat) : Int)), (0, ((lt - 1 : Nat) : Int)), (0, (sbK ρ 0 b t np lt ((bs f np : Nat) : Int) n)), (0, ((n + 1 : Nat) : Int))], [(2, (σ 0 5)), (2, 200), (0, ((bs f np : Nat) : Int))], σ)) rfl rfl ?_
    refine TT.top0 (z := 170) h05 ?_
    refine TT.steps (cd := cd237) 2 (c' := (28, [(2, 0), (0, ((t : Nat) : Int)), (0, ((bs f np : Nat) : Int)), (0, ((lt - 1 : Nat) : Int)), (0, (sbK ρ 0 b t np lt ((bs f np : Nat) : Int) n)), (0, ((n + 1 : Nat) : Int))], [(0, ((t : Nat) : Int)), (2, 178), (2, 200), (0, ((bs f np : Nat) : Int))], σ)) rfl rfl ?_
    refine TT.aaldN (cd := cd237) 178 (t) (179 + t) rfl rfl rfl (Or.inr rfl) (show t < 6 by omega) (fxg_178 t (by omega)) ?_
    refine TT.steps (cd := cd237) 1 (c' := (30, [(2, 0), (0, ((t : Nat) : Int)), (0, ((bs f np : Nat) : Int)), (0, ((lt - 1 : Nat) : Int)), (0, (sbK ρ 0 b t np lt ((bs f np : Nat) : Int) n)), (0, ((n + 1 : Nat) : Int))], [(0, ((n + 1 : Nat) : Int)), (2, ((179 + t : Nat) : Int)), (2, 200), (0, ((bs f np : Nat) : Int))], σ)) rfl rfl ?_
    refine TT.aldN (cd := cd237) (179 + t) (n + 1) rfl rfl rfl (kdg_178 t (by omega)).1 (show n + 1 < ln (179 + t) by rw [(kdg_178 t (by omega)).2]; omega) ?_
    refine TT.top0 (z := (((C (n + 1)) : Nat) : Int)) (hC (n + 1) (by omega)).1 ?_
    refine TT.aldN (cd := cd237) (200) ((C (n + 1))) rfl rfl rfl rfl (show (C (n + 1)) < 14 by exact (hC (n + 1) (by omega)).2.2) ?_
    refine TT.top0 (z := ((bs (fun p => decide (mBA ρ 0 p ((C (n + 1)) : Int))) np : Nat) : Int)) (hB _ (hC (n + 1) (by omega)).2.2) ?_
    refine TT.steps (cd := cd237) 1 (c' := (33, [(2, 0), (0, ((t : Nat) : Int)), (0, ((bs f np : Nat) : Int)), (0, ((lt - 1 : Nat) : Int)), (0, (sbK ρ 0 b t np lt ((bs f np : Nat) : Int) n)), (0, ((n + 1 : Nat) : Int))], [(0, (aAnd ((bs f np : Nat) : Int) ((bs (fun p => decide (mBA ρ 0 p ((C (n + 1)) : Int))) np : Nat) : Int)))], σ)) rfl rfl ?_
    refine TT.top0 (z := ((bs (fun p => f p && (decide (mBA ρ 0 p ((C (n + 1)) : Int)))) np : Nat) : Int)) (bs_and f (fun p => decide (mBA ρ 0 p ((C (n + 1)) : Int))) (by omega)) ?_
    refine TT.steps (cd := cd237) 1 (c' := ((if decide (((bs (fun p => f p && (decide (mBA ρ 0 p ((C (n + 1)) : Int)))) np : Nat) : Int) = 0) = true then 40 else 34), [(2, 0), (0, ((t : Nat) : Int)), (0, ((bs f np : Nat) : Int)), (0, ((lt - 1 : Nat) : Int)), (0, (sbK ρ 0 b t np lt ((bs f np : Nat) : Int) n)), (0, ((n + 1 : Nat) : Int))], [], σ)) rfl rfl ?_
    refine TT.br (p := ((bs (fun p => f p && (decide (mBA ρ 0 p ((C (n + 1)) : Int)))) np : Nat) : Int) = 0) (fun h2 => ?_) (fun h2 => ?_)
    · refine TT.inc (cd := cd237) (((n + 1) + 1 : Nat) : Int) rfl rfl rfl rfl (fun h => absurd h.2 (show ¬ (0 = 1) by decide)) (aAdd_n (a := n + 1) (b := 1) (by omega)) (ls' := [(2, 0), (0, ((t : Nat) : Int)), (0, ((bs f np : Nat) : Int)), (0, ((lt - 1 : Nat) : Int)), (0, (sbK ρ 0 b t np lt ((bs f np : Nat) : Int) n)), (0, (((n + 1) + 1 : Nat) : Int))]) rfl ?_
      refine TT.steps (cd := cd237) 1 (c' := (16, [(2, 0), (0, ((t : Nat) : Int)), (0, ((bs f np : Nat) : Int)), (0, ((lt - 1 : Nat) : Int)), (0, (sbK ρ 0 b t np lt ((bs f np : Nat) : Int) n)), (0, (((n + 1) + 1 : Nat) : Int))], [], σ)) rfl rfl ?_
      have e4 : (sbK ρ 0 b t np lt ((bs f np : Nat) : Int) n) = (sbK ρ 0 b t np lt ((bs f np : Nat) : Int) (n + 1)) := by first | exact sb_t hnp (hC (n + 1) (by omega)).2.1 (by assumption) | exact sb_f hnp (hC (n + 1) (by omega)).2.1 (by assumption)
      rw [e4]
      clear e4
      exact ih (n + 1) (by omega)
    · refine TT.steps (cd := cd237) 6 (c' := (40, [(2, 0), (0, ((t : Nat) : Int)), (0, ((bs f np : Nat) : Int)), (0, ((lt - 1 : Nat) : Int)), (0, (aOr (sbK ρ 0 b t np lt ((bs f np : Nat) : Int) n) (aShl 1 ((n + 1 : Nat) : Int)))), (0, ((n + 1 : Nat) : Int))], [], σ)) rfl rfl ?_
      refine TT.inc (cd := cd237) (((n + 1) + 1 : Nat) : Int) rfl rfl rfl rfl (fun h => absurd h.2 (show ¬ (0 = 1) by decide)) (aAdd_n (a := n + 1) (b := 1) (by omega)) (ls' := [(2, 0), (0, ((t : Nat) : Int)), (0, ((bs f np : Nat) : Int)), (0, ((lt - 1 : Nat) : Int)), (0, (aOr (sbK ρ 0 b t np lt ((bs f np : Nat) : Int) n) (aShl 1 ((n + 1 : Nat) : Int)))), (0, (((n + 1) + 1 : Nat) : Int))]) rfl ?_
      refine TT.steps (cd := cd237) 1 (c' := (16, [(2, 0), (0, ((t : Nat) : Int)), (0, ((bs f np : Nat) : Int)), (0, ((lt - 1 : Nat) : Int)), (0, (aOr (sbK ρ 0 b t np lt ((bs f np : Nat) : Int) n) (aShl 1 ((n + 1 : Nat) : Int)))), (0, (((n + 1) + 1 : Nat) : Int))], [], σ)) rfl rfl ?_
      have e4 : (aOr (sbK ρ 0 b t np lt ((bs f np : Nat) : Int) n) (aShl 1 ((n + 1 : Nat) : Int))) = (sbK ρ 0 b t np lt ((bs f np : Nat) : Int) (n + 1)) := by first | exact sb_t hnp (hC (n + 1) (by omega)).2.1 (by assumption) | exact sb_f hnp (hC (n + 1) (by omega)).2.1 (by assumption)
      rw [e4]
      clear e4
      exact ih (n + 1) (by omega)
theorem u_stopsBy_170 (X : AX) (f : Nat → Bool) (b t np lt : Nat) (C : Nat → Nat) (σ ρ : AH) (ht : t < 6) (hnp : np ≤ 10) (hlt2 : 2 ≤ lt) (hlt8 : lt ≤ 8) (h05 : σ 0 5 = 170) (hlt : σ 177 t = (lt : Int)) (hC : ∀ k, k < lt → σ (179 + t) k = (C k : Int) ∧ ρ 305 (8 * (6 * b + t) + k) = (C k : Int) ∧ C k < 14) (hB : ∀ s : Nat, s < 14 → σ 200 s = ((bs (fun p => decide (mBA ρ 0 p (s : Int))) np : Nat) : Int))  : TT X 237 (0, [(2, 0), (0, ((t : Nat) : Int)), (0, ((bs f np : Nat) : Int)), (9, 0), (9, 0), (9, 0)], [], σ) (fun r σ' => r = some (0, mSb ρ 0 b t np lt ((bs f np : Nat) : Int)) ∧ σ' = σ) := by
  refine TT.steps (cd := cd237) 2 (c' := (2, [(2, 0), (0, ((t : Nat) : Int)), (0, ((bs f np : Nat) : Int)), (9, 0), (9, 0), (9, 0)], [(2, (σ 0 5))], σ)) rfl rfl ?_
  refine TT.top0 (z := 170) h05 ?_
  refine TT.steps (cd := cd237) 2 (c' := (4, [(2, 0), (0, ((t : Nat) : Int)), (0, ((bs f np : Nat) : Int)), (9, 0), (9, 0), (9, 0)], [(0, ((t : Nat) : Int)), (2, 177)], σ)) rfl rfl ?_
  refine TT.aldN (cd := cd237) (177) (t) rfl rfl rfl rfl (show t < 6 by omega) ?_
  refine TT.top0 (z := ((lt : Nat) : Int)) hlt ?_
  refine TT.steps (cd := cd237) 2 (c' := (7, [(2, 0), (0, ((t : Nat) : Int)), (0, ((bs f np : Nat) : Int)), (9, 0), (9, 0), (9, 0)], [(0, (aSub ((lt : Nat) : Int) 1))], σ)) rfl rfl ?_
  refine TT.top0 (z := ((lt - 1 : Nat) : Int)) (aSub_n (a := lt) (b := 1) (by omega) (by omega)) ?_
  refine TT.steps (cd := cd237) 9 (c' := (16, [(2, 0), (0, ((t : Nat) : Int)), (0, ((bs f np : Nat) : Int)), (0, ((lt - 1 : Nat) : Int)), (0, (aOr 1 (aShl 1 ((lt - 1 : Nat) : Int)))), (0, 1)], [], σ)) rfl rfl ?_
  refine ul_sb_170 X _ f b t np lt C σ ρ ht hnp hlt2 hlt8 h05 hlt hC hB ?_ (lt - 2) 0 (by omega)
  refine TT.steps (cd := cd237) 1 (c' := (43, [(2, 0), (0, ((t : Nat) : Int)), (0, ((bs f np : Nat) : Int)), (0, ((lt - 1 : Nat) : Int)), (0, (sbK ρ 0 b t np lt ((bs f np : Nat) : Int) (lt - 2))), (0, (((lt - 2) + 1 : Nat) : Int))], [(0, (sbK ρ 0 b t np lt ((bs f np : Nat) : Int) (lt - 2)))], σ)) rfl rfl ?_
  exact TT.ret (cd := cd237) rfl rfl rfl rfl (⟨rfl, rfl⟩)
theorem u_canBeSeen_170 (X : AX) (z : Int) (t lt : Nat) (σ : AH) (ht : t < 6) (hlt2 : 2 ≤ lt) (hlt8 : lt ≤ 8) (h05 : σ 0 5 = 170) (hlt : σ 177 t = (lt : Int))  : TT X 236 (0, [(2, 0), (0, ((t : Nat) : Int)), (0, z), (9, 0), (9, 0)], [], σ) (fun r σ' => (csC z lt → r = some (0, 0) ∧ σ' = σ) ∧ (¬ csC z lt → r = some (0, 1) ∧ σ' = σ)) := by
  refine TT.steps (cd := cd236) 2 (c' := (2, [(2, 0), (0, ((t : Nat) : Int)), (0, z), (9, 0), (9, 0)], [(2, (σ 0 5))], σ)) rfl rfl ?_
  refine TT.top0 (z := 170) h05 ?_
  refine TT.steps (cd := cd236) 2 (c' := (4, [(2, 0), (0, ((t : Nat) : Int)), (0, z), (9, 0), (9, 0)], [(0, ((t : Nat) : Int)), (2, 177)], σ)) rfl rfl ?_
  refine TT.aldN (cd := cd236) (177) (t) rfl rfl rfl rfl (show t < 6 by omega) ?_
  refine TT.top0 (z := ((lt : Nat) : Int)) hlt ?_
  refine TT.steps (cd := cd236) 6 (c' := (11, [(2, 0), (0, ((t : Nat) : Int)), (0, z), (0, ((lt : Nat) : Int)), (9, 0)], [(0, (aSub ((lt : Nat) : Int) 1)), (0, 1), (0, 1)], σ)) rfl rfl ?_
  refine TT.top0 (z := ((lt - 1 : Nat) : Int)) (aSub_n (a := lt) (b := 1) (by omega) (by omega)) ?_
  refine TT.steps (cd := cd236) 5 (c' := ((if decide (z < 0) = true then 28 else 16), [(2, 0), (0, ((t : Nat) : Int)), (0, z), (0, ((lt : Nat) : Int)), (0, (aOr 1 (aShl 1 ((lt - 1 : Nat) : Int))))], [], σ)) rfl rfl ?_
  refine TT.br (p := z < 0) (fun h1 => ?_) (fun h1 => ?_)
  · refine TT.steps (cd := cd236) 1 (c' := (29, [(2, 0), (0, ((t : Nat) : Int)), (0, z), (0, ((lt : Nat) : Int)), (0, (aOr 1 (aShl 1 ((lt - 1 : Nat) : Int))))], [(0, 0)], σ)) rfl rfl ?_
    exact TT.ret (cd := cd236) rfl rfl rfl rfl (by refine ⟨fun hc => ⟨?_, rfl⟩, fun hc => ⟨?_, rfl⟩⟩ <;> first | rfl | exact absurd hc ((cs_yes hlt2 hlt8 (by assumption) (by assumption)).mp (by first | assumption | exact Decidable.not_not.mp (by assumption))) | exact absurd (Or.inl (by assumption)) hc | exact absurd (Or.inr (Or.inl (by assumption))) hc | exact absurd ((cs_yes hlt2 hlt8 (by assumption) (by assumption)).mpr hc) (by assumption))
  · refine TT.steps (cd := cd236) 5 (c' := ((if decide ((aShl 1 ((lt : Nat) : Int)) ≤ z) = true then 28 else 21), [(2, 0), (0, ((t : Nat) : Int)), (0, z), (0, ((lt : Nat) : Int)), (0, (aOr 1 (aShl 1 ((lt - 1 : Nat) : Int))))], [], σ)) rfl rfl ?_
    refine TT.br (p := (aShl 1 ((lt : Nat) : Int)) ≤ z) (fun h2 => ?_) (fun h2 => ?_)
    · refine TT.steps (cd := cd236) 1 (c' := (29, [(2, 0), (0, ((t : Nat) : Int)), (0, z), (0, ((lt : Nat) : Int)), (0, (aOr 1 (aShl 1 ((lt - 1 : Nat) : Int))))], [(0, 0)], σ)) rfl rfl ?_
      exact TT.ret (cd := cd236) rfl rfl rfl rfl (by refine ⟨fun hc => ⟨?_, rfl⟩, fun hc => ⟨?_, rfl⟩⟩ <;> first | rfl | exact absurd hc ((cs_yes hlt2 hlt8 (by assumption) (by assumption)).mp (by first | assumption | exact Decidable.not_not.mp (by assumption))) | exact absurd (Or.inl (by assumption)) hc | exact absurd (Or.inr (Or.inl (by assumption))) hc | exact absurd ((cs_yes hlt2 hlt8 (by assumption) (by assumption)).mpr hc) (by assumption))
    · refine TT.steps (cd := cd236) 5 (c' := ((if decide (¬ (aAnd z (aOr 1 (aShl 1 ((lt - 1 : Nat) : Int)))) = (aOr 1 (aShl 1 ((lt - 1 : Nat) : Int)))) = true then 28 else 26), [(2, 0), (0, ((t : Nat) : Int)), (0, z), (0, ((lt : Nat) : Int)), (0, (aOr 1 (aShl 1 ((lt - 1 : Nat) : Int))))], [], σ)) rfl rfl ?_
      refine TT.br (p := ¬ (aAnd z (aOr 1 (aShl 1 ((lt - 1 : Nat) : Int)))) = (aOr 1 (aShl 1 ((lt - 1 : Nat) : Int)))) (fun h3 => ?_) (fun h3 => ?_)
      · refine TT.steps (cd := cd236) 1 (c' := (29, [(2, 0), (0, ((t : Nat) : Int)), (0, z), (0, ((lt : Nat) : Int)), (0, (aOr 1 (aShl 1 ((lt - 1 : Nat) : Int))))], [(0, 0)], σ)) rfl rfl ?_
        exact TT.ret (cd := cd236) rfl rfl rfl rfl (by refine ⟨fun hc => ⟨?_, rfl⟩, fun hc => ⟨?_, rfl⟩⟩ <;> first | rfl | exact absurd hc ((cs_yes hlt2 hlt8 (by assumption) (by assumption)).mp (by first | assumption | exact Decidable.not_not.mp (by assumption))) | exact absurd (Or.inl (by assumption)) hc | exact absurd (Or.inr (Or.inl (by assumption))) hc | exact absurd ((cs_yes hlt2 hlt8 (by assumption) (by assumption)).mpr hc) (by assumption))
      · refine TT.steps (cd := cd236) 2 (c' := (29, [(2, 0), (0, ((t : Nat) : Int)), (0, z), (0, ((lt : Nat) : Int)), (0, (aOr 1 (aShl 1 ((lt - 1 : Nat) : Int))))], [(0, 1)], σ)) rfl rfl ?_
        exact TT.ret (cd := cd236) rfl rfl rfl rfl (by refine ⟨fun hc => ⟨?_, rfl⟩, fun hc => ⟨?_, rfl⟩⟩ <;> first | rfl | exact absurd hc ((cs_yes hlt2 hlt8 (by assumption) (by assumption)).mp (by first | assumption | exact Decidable.not_not.mp (by assumption))) | exact absurd (Or.inl (by assumption)) hc | exact absurd (Or.inr (Or.inl (by assumption))) hc | exact absurd ((cs_yes hlt2 hlt8 (by assumption) (by assumption)).mpr hc) (by assumption))
