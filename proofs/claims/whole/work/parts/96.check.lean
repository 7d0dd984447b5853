/-! The check of what is written. -/
theorem ul_ck_294 (X : AX) (Q : Option AV → AH → Prop) (m : Nat) (hm : m ≤ 63) (σ : AH)  (kk : TT X 238 (23, [(2, 294), (0, ((m : Nat) : Int)), (0, (sumI (σ 294) m)), (0, ((m : Nat) : Int))], [], σ) Q) : ∀ (d n : Nat), n + d = m → TT X 238 (4, [(2, 294), (0, ((m : Nat) : Int)), (0, (sumI (σ 294) n)), (0, ((n : Nat) : Int))], [], σ) Q := by
  intro d
  induction d with
  | zero =>
    intro n hn
    have hnn : n = m := by omega
    rw [hnn]
    refine TT.steps (cd := cd238) 3 (c' := ((if decide (((m : Nat) : Int) ≤ ((m : Nat) : Int)) = true then 23 else 7), [(2, 294), (0, ((m : Nat) : Int)), (0, (sumI (σ 294) m)), (0, ((m : Nat) : Int))], [], σ)) rfl rfl ?_
    refine TT.br (p := ((m : Nat) : Int) ≤ ((m : Nat) : Int)) (fun h1 => ?_) (fun h1 => absurd (show ((m : Nat) : Int) ≤ ((m : Nat) : Int) by omega) h1)
    exact kk
  | succ d ih =>
    intro n hn
    refine TT.steps (cd := cd238) 3 (c' := ((if decide (((m : Nat) : Int) ≤ ((n : Nat) : Int)) = true then 23 else 7), [(2, 294), (0, ((m : Nat) : Int)), (0, (sumI (σ 294) n)), (0, ((n : Nat) : Int))], [], σ)) rfl rfl ?_
    refine TT.br (p := ((m : Nat) : Int) ≤ ((n : Nat) : Int)) (fun h1 => absurd h1 (show ¬ (((m : Nat) : Int) ≤ ((n : Nat) : Int)) by omega)) (fun h1 => ?_)
    refine TT.steps (cd := cd238) 4 (c' := ((if decide (63 ≤ ((n : Nat) : Int)) = true then 23 else 11), [(2, 294), (0, ((m : Nat) : Int)), (0, (sumI (σ 294) n)), (0, ((n : Nat) : Int))], [], σ)) rfl rfl ?_
    refine TT.br (p := 63 ≤ ((n : Nat) : Int)) (fun h2 => absurd h2 (show ¬ (63 ≤ ((n : Nat) : Int)) by omega)) (fun h2 => ?_)
    refine TT.steps (cd := cd238) 3 (c' := (14, [(2, 294), (0, ((m : Nat) : Int)), (0, (sumI (σ 294) n)), (0, ((n : Nat) : Int))], [(0, (aMul 5 (sumI (σ 294) n)))], σ)) rfl rfl ?_
    refine TT.steps (cd := cd238) 2 (c' := (16, [(2, 294), (0, ((m : Nat) : Int)), (0, (sumI (σ 294) n)), (0, ((n : Nat) : Int))], [(0, ((n : Nat) : Int)), (2, 294), (0, (aMul 5 (sumI (σ 294) n)))], σ)) rfl rfl ?_
    refine TT.aldN (cd := cd238) (294) (n) rfl rfl rfl rfl (show n < 63 by omega) ?_
    refine TT.top0 (z := (σ 294 n)) rfl ?_
    refine TT.steps (cd := cd238) 1 (c' := (18, [(2, 294), (0, ((m : Nat) : Int)), (0, (sumI (σ 294) n)), (0, ((n : Nat) : Int))], [(0, (aAdd (aMul 5 (sumI (σ 294) n)) (σ 294 n)))], σ)) rfl rfl ?_
    refine TT.steps (cd := cd238) 3 (c' := (21, [(2, 294), (0, ((m : Nat) : Int)), (0, (aRem (aAdd (aMul 5 (sumI (σ 294) n)) (σ 294 n)) 249)), (0, ((n : Nat) : Int))], [], σ)) rfl rfl ?_
    refine TT.inc (cd := cd238) ((n + 1 : Nat) : Int) rfl rfl rfl rfl (fun h => absurd h.2 (show ¬ (0 = 1) by decide)) (aAdd_n (a := n) (b := 1) (by omega)) (ls' := [(2, 294), (0, ((m : Nat) : Int)), (0, (aRem (aAdd (aMul 5 (sumI (σ 294) n)) (σ 294 n)) 249)), (0, ((n + 1 : Nat) : Int))]) rfl ?_
    refine TT.steps (cd := cd238) 1 (c' := (4, [(2, 294), (0, ((m : Nat) : Int)), (0, (aRem (aAdd (aMul 5 (sumI (σ 294) n)) (σ 294 n)) 249)), (0, ((n + 1 : Nat) : Int))], [], σ)) rfl rfl ?_
    have e2 : (aRem (aAdd (aMul 5 (sumI (σ 294) n)) (σ 294 n)) 249) = (sumI (σ 294) (n + 1)) := by rw [sumI]
    rw [e2]
    clear e2
    have e3 : ((n + 1 : Nat) : Int) = (((n + 1) : Nat) : Int) := by omega
    rw [e3]
    clear e3
    exact ih (n + 1) (by omega)
theorem u_checksum_294 (X : AX) (m : Nat) (hm : m ≤ 63) (σ : AH)  : TT X 238 (0, [(2, 294), (0, ((m : Nat) : Int)), (9, 0), (9, 0)], [], σ) (fun r σ' => r = some (0, (sumI (σ 294) m)) ∧ σ' = σ) := by
  refine TT.steps (cd := cd238) 4 (c' := (4, [(2, 294), (0, ((m : Nat) : Int)), (0, 67), (0, 0)], [], σ)) rfl rfl ?_
  refine ul_ck_294 X _ m hm σ ?_ m 0 (by omega)
  refine TT.steps (cd := cd238) 1 (c' := (24, [(2, 294), (0, ((m : Nat) : Int)), (0, (sumI (σ 294) m)), (0, ((m : Nat) : Int))], [(0, (sumI (σ 294) m))], σ)) rfl rfl ?_
  exact TT.ret (cd := cd238) rfl rfl rfl rfl (⟨rfl, rfl⟩)
