/-! The class's parser: names. -/
theorem ul_idx_9 (X : AX) (n0 : Nat) (x : Int) {τ : AH} (hn0 : n0 ≤ 14)  : ∀ (d n : Nat), n + d = n0 → fstI (fun k => decide (τ 9 k = x)) n0 0 = fstI (fun k => decide (τ 9 k = x)) (n0 - n) n → TT X 138 (2, [(2, 9), (0, ((n0 : Nat) : Int)), (0, x), (0, ((n : Nat) : Int))], [], τ) (fun r σ' => r = some (0, fstI (fun k => decide (τ 9 k = x)) n0 0) ∧ σ' = τ) := by
  intro d
  induction d with
  | zero =>
    intro n hn hI
    refine TT.steps (cd := cd138) 3 (c' := ((if decide (((n0 : Nat) : Int) ≤ ((n : Nat) : Int)) = true then 18 else 5), [(2, 9), (0, ((n0 : Nat) : Int)), (0, x), (0, ((n : Nat) : Int))], [], τ)) rfl rfl ?_
    refine TT.br (p := ((n0 : Nat) : Int) ≤ ((n : Nat) : Int)) (fun h1 => ?_) (fun h1 => absurd (show ((n0 : Nat) : Int) ≤ ((n : Nat) : Int) by omega) h1)
    refine TT.steps (cd := cd138) 1 (c' := (19, [(2, 9), (0, ((n0 : Nat) : Int)), (0, x), (0, ((n : Nat) : Int))], [(0, -1)], τ)) rfl rfl ?_
    exact TT.ret (cd := cd138) rfl rfl rfl rfl ⟨by rw [fst_end hI (by omega)], rfl⟩
  | succ d ih =>
    intro n hn hI
    refine TT.steps (cd := cd138) 3 (c' := ((if decide (((n0 : Nat) : Int) ≤ ((n : Nat) : Int)) = true then 18 else 5), [(2, 9), (0, ((n0 : Nat) : Int)), (0, x), (0, ((n : Nat) : Int))], [], τ)) rfl rfl ?_
    refine TT.br (p := ((n0 : Nat) : Int) ≤ ((n : Nat) : Int)) (fun h1 => absurd h1 (show ¬ (((n0 : Nat) : Int) ≤ ((n : Nat) : Int)) by omega)) (fun h1 => ?_)
    refine TT.steps (cd := cd138) 4 (c' := ((if decide (14 ≤ ((n : Nat) : Int)) = true then 18 else 9), [(2, 9), (0, ((n0 : Nat) : Int)), (0, x), (0, ((n : Nat) : Int))], [], τ)) rfl rfl ?_
    refine TT.br (p := 14 ≤ ((n : Nat) : Int)) (fun h2 => absurd h2 (show ¬ (14 ≤ ((n : Nat) : Int)) by omega)) (fun h2 => ?_)
    refine TT.steps (cd := cd138) 2 (c' := (11, [(2, 9), (0, ((n0 : Nat) : Int)), (0, x), (0, ((n : Nat) : Int))], [(0, ((n : Nat) : Int)), (2, 9)], τ)) rfl rfl ?_
    refine TT.aldN (cd := cd138) (9) (n) rfl rfl rfl rfl (show n < 14 by omega) ?_
    refine TT.top0 (z := (τ 9 n)) rfl ?_
    refine TT.steps (cd := cd138) 2 (c' := ((if decide (¬ (τ 9 n) = x) = true then 16 else 14), [(2, 9), (0, ((n0 : Nat) : Int)), (0, x), (0, ((n : Nat) : Int))], [], τ)) rfl rfl ?_
    refine TT.br (p := ¬ (τ 9 n) = x) (fun h3 => ?_) (fun h3 => ?_)
    · refine TT.inc (cd := cd138) ((n + 1 : Nat) : Int) rfl rfl rfl rfl (fun h => absurd h.2 (show ¬ (0 = 1) by decide)) (aAdd_n (a := n) (b := 1) (by omega)) (ls' := [(2, 9), (0, ((n0 : Nat) : Int)), (0, x), (0, ((n + 1 : Nat) : Int))]) rfl ?_
      refine TT.steps (cd := cd138) 1 (c' := (2, [(2, 9), (0, ((n0 : Nat) : Int)), (0, x), (0, ((n + 1 : Nat) : Int))], [], τ)) rfl rfl ?_
      have e3 : ((n + 1 : Nat) : Int) = (((n + 1) : Nat) : Int) := by omega
      rw [e3]
      clear e3
      exact ih (n + 1) (by omega) (fst_step hI (by omega) (fun q => absurd (of_decide_eq_true q) (by assumption)))
    · refine TT.steps (cd := cd138) 1 (c' := (15, [(2, 9), (0, ((n0 : Nat) : Int)), (0, x), (0, ((n : Nat) : Int))], [(0, ((n : Nat) : Int))], τ)) rfl rfl ?_
      exact TT.ret (cd := cd138) rfl rfl rfl rfl ⟨by rw [fst_hit hI (by omega) (decide_eq_true (by first | assumption | exact Decidable.not_not.mp (by assumption)))], rfl⟩
theorem u_idx_9 (X : AX) (n0 : Nat) (x : Int) {τ : AH} (hn0 : n0 ≤ 14)  : TT X 138 (0, [(2, 9), (0, ((n0 : Nat) : Int)), (0, x), (9, 0)], [], τ) (fun r σ' => r = some (0, fstI (fun k => decide (τ 9 k = x)) n0 0) ∧ σ' = τ) := by
  refine TT.steps (cd := cd138) 2 (c' := (2, [(2, 9), (0, ((n0 : Nat) : Int)), (0, x), (0, 0)], [], τ)) rfl rfl ?_
  exact ul_idx_9 X n0 x hn0 n0 0 (by omega) rfl
theorem ul_idx_10 (X : AX) (n0 : Nat) (x : Int) {τ : AH} (hn0 : n0 ≤ 6)  : ∀ (d n : Nat), n + d = n0 → fstI (fun k => decide (τ 10 k = x)) n0 0 = fstI (fun k => decide (τ 10 k = x)) (n0 - n) n → TT X 138 (2, [(2, 10), (0, ((n0 : Nat) : Int)), (0, x), (0, ((n : Nat) : Int))], [], τ) (fun r σ' => r = some (0, fstI (fun k => decide (τ 10 k = x)) n0 0) ∧ σ' = τ) := by
  intro d
  induction d with
  | zero =>
    intro n hn hI
    refine TT.steps (cd := cd138) 3 (c' := ((if decide (((n0 : Nat) : Int) ≤ ((n : Nat) : Int)) = true then 18 else 5), [(2, 10), (0, ((n0 : Nat) : Int)), (0, x), (0, ((n : Nat) : Int))], [], τ)) rfl rfl ?_
    refine TT.br (p := ((n0 : Nat) : Int) ≤ ((n : Nat) : Int)) (fun h1 => ?_) (fun h1 => absurd (show ((n0 : Nat) : Int) ≤ ((n : Nat) : Int) by omega) h1)
    refine TT.steps (cd := cd138) 1 (c' := (19, [(2, 10), (0, ((n0 : Nat) : Int)), (0, x), (0, ((n : Nat) : Int))], [(0, -1)], τ)) rfl rfl ?_
    exact TT.ret (cd := cd138) rfl rfl rfl rfl ⟨by rw [fst_end hI (by omega)], rfl⟩
  | succ d ih =>
    intro n hn hI
    refine TT.steps (cd := cd138) 3 (c' := ((if decide (((n0 : Nat) : Int) ≤ ((n : Nat) : Int)) = true then 18 else 5), [(2, 10), (0, ((n0 : Nat) : Int)), (0, x), (0, ((n : Nat) : Int))], [], τ)) rfl rfl ?_
    refine TT.br (p := ((n0 : Nat) : Int) ≤ ((n : Nat) : Int)) (fun h1 => absurd h1 (show ¬ (((n0 : Nat) : Int) ≤ ((n : Nat) : Int)) by omega)) (fun h1 => ?_)
    refine TT.steps (cd := cd138) 4 (c' := ((if decide (6 ≤ ((n : Nat) : Int)) = true then 18 else 9), [(2, 10), (0, ((n0 : Nat) : Int)), (0, x), (0, ((n : Nat) : Int))], [], τ)) rfl rfl ?_
    refine TT.br (p := 6 ≤ ((n : Nat) : Int)) (fun h2 => absurd h2 (show ¬ (6 ≤ ((n : Nat) : Int)) by omega)) (fun h2 => ?_)
    refine TT.steps (cd := cd138) 2 (c' := (11, [(2, 10), (0, ((n0 : Nat) : Int)), (0, x), (0, ((n : Nat) : Int))], [(0, ((n : Nat) : Int)), (2, 10)], τ)) rfl rfl ?_
    refine TT.aldN (cd := cd138) (10) (n) rfl rfl rfl rfl (show n < 6 by omega) ?_
    refine TT.top0 (z := (τ 10 n)) rfl ?_
    refine TT.steps (cd := cd138) 2 (c' := ((if decide (¬ (τ 10 n) = x) = true then 16 else 14), [(2, 10), (0, ((n0 : Nat) : Int)), (0, x), (0, ((n : Nat) : Int))], [], τ)) rfl rfl ?_
    refine TT.br (p := ¬ (τ 10 n) = x) (fun h3 => ?_) (fun h3 => ?_)
    · refine TT.inc (cd := cd138) ((n + 1 : Nat) : Int) rfl rfl rfl rfl (fun h => absurd h.2 (show ¬ (0 = 1) by decide)) (aAdd_n (a := n) (b := 1) (by omega)) (ls' := [(2, 10), (0, ((n0 : Nat) : Int)), (0, x), (0, ((n + 1 : Nat) : Int))]) rfl ?_
      refine TT.steps (cd := cd138) 1 (c' := (2, [(2, 10), (0, ((n0 : Nat) : Int)), (0, x), (0, ((n + 1 : Nat) : Int))], [], τ)) rfl rfl ?_
      have e3 : ((n + 1 : Nat) : Int) = (((n + 1) : Nat) : Int) := by omega
      rw [e3]
      clear e3
      exact ih (n + 1) (by omega) (fst_step hI (by omega) (fun q => absurd (of_decide_eq_true q) (by assumption)))
    · refine TT.steps (cd := cd138) 1 (c' := (15, [(2, 10), (0, ((n0 : Nat) : Int)), (0, x), (0, ((n : Nat) : Int))], [(0, ((n : Nat) : Int))], τ)) rfl rfl ?_
      exact TT.ret (cd := cd138) rfl rfl rfl rfl ⟨by rw [fst_hit hI (by omega) (decide_eq_true (by first | assumption | exact Decidable.not_not.mp (by assumption)))], rfl⟩
theorem u_idx_10 (X : AX) (n0 : Nat) (x : Int) {τ : AH} (hn0 : n0 ≤ 6)  : TT X 138 (0, [(2, 10), (0, ((n0 : Nat) : Int)), (0, x), (9, 0)], [], τ) (fun r σ' => r = some (0, fstI (fun k => decide (τ 10 k = x)) n0 0) ∧ σ' = τ) := by
  refine TT.steps (cd := cd138) 2 (c' := (2, [(2, 10), (0, ((n0 : Nat) : Int)), (0, x), (0, 0)], [], τ)) rfl rfl ?_
  exact ul_idx_10 X n0 x hn0 n0 0 (by omega) rfl
theorem ul_idx_11 (X : AX) (n0 : Nat) (x : Int) {τ : AH} (hn0 : n0 ≤ 10)  : ∀ (d n : Nat), n + d = n0 → fstI (fun k => decide (τ 11 k = x)) n0 0 = fstI (fun k => decide (τ 11 k = x)) (n0 - n) n → TT X 138 (2, [(2, 11), (0, ((n0 : Nat) : Int)), (0, x), (0, ((n : Nat) : Int))], [], τ) (fun r σ' => r = some (0, fstI (fun k => decide (τ 11 k = x)) n0 0) ∧ σ' = τ) := by
  intro d
  induction d with
  | zero =>
    intro n hn hI
    refine TT.steps (cd := cd138) 3 (c' := ((if decide (((n0 : Nat) : Int) ≤ ((n : Nat) : Int)) = true then 18 else 5), [(2, 11), (0, ((n0 : Nat) : Int)), (0, x), (0, ((n : Nat) : Int))], [], τ)) rfl rfl ?_
    refine TT.br (p := ((n0 : Nat) : Int) ≤ ((n : Nat) : Int)) (fun h1 => ?_) (fun h1 => absurd (show ((n0 : Nat) : Int) ≤ ((n : Nat) : Int) by omega) h1)
    refine TT.steps (cd := cd138) 1 (c' := (19, [(2, 11), (0, ((n0 : Nat) : Int)), (0, x), (0, ((n : Nat) : Int))], [(0, -1)], τ)) rfl rfl ?_
    exact TT.ret (cd := cd138) rfl rfl rfl rfl ⟨by rw [fst_end hI (by omega)], rfl⟩
  | succ d ih =>
    intro n hn hI
    refine TT.steps (cd := cd138) 3 (c' := ((if decide (((n0 : Nat) : Int) ≤ ((n : Nat) : Int)) = true then 18 else 5), [(2, 11), (0, ((n0 : Nat) : Int)), (0, x), (0, ((n : Nat) : Int))], [], τ)) rfl rfl ?_
    refine TT.br (p := ((n0 : Nat) : Int) ≤ ((n : Nat) : Int)) (fun h1 => absurd h1 (show ¬ (((n0 : Nat) : Int) ≤ ((n : Nat) : Int)) by omega)) (fun h1 => ?_)
    refine TT.steps (cd := cd138) 4 (c' := ((if decide (10 ≤ ((n : Nat) : Int)) = true then 18 else 9), [(2, 11), (0, ((n0 : Nat) : Int)), (0, x), (0, ((n : Nat) : Int))], [], τ)) rfl rfl ?_
    refine TT.br (p := 10 ≤ ((n : Nat) : Int)) (fun h2 => absurd h2 (show ¬ (10 ≤ ((n : Nat) : Int)) by omega)) (fun h2 => ?_)
    refine TT.steps (cd := cd138) 2 (c' := (11, [(2, 11), (0, ((n0 : Nat) : Int)), (0, x), (0, ((n : Nat) : Int))], [(0, ((n : Nat) : Int)), (2, 11)], τ)) rfl rfl ?_
    refine TT.aldN (cd := cd138) (11) (n) rfl rfl rfl rfl (show n < 10 by omega) ?_
    refine TT.top0 (z := (τ 11 n)) rfl ?_
    refine TT.steps (cd := cd138) 2 (c' := ((if decide (¬ (τ 11 n) = x) = true then 16 else 14), [(2, 11), (0, ((n0 : Nat) : Int)), (0, x), (0, ((n : Nat) : Int))], [], τ)) rfl rfl ?_
    refine TT.br (p := ¬ (τ 11 n) = x) (fun h3 => ?_) (fun h3 => ?_)
    · refine TT.inc (cd := cd138) ((n + 1 : Nat) : Int) rfl rfl rfl rfl (fun h => absurd h.2 (show ¬ (0 = 1) by decide)) (aAdd_n (a := n) (b := 1) (by omega)) (ls' := [(2, 11), (0, ((n0 : Nat) : Int)), (0, x), (0, ((n + 1 : Nat) : Int))]) rfl ?_
      refine TT.steps (cd := cd138) 1 (c' := (2, [(2, 11), (0, ((n0 : Nat) : Int)), (0, x), (0, ((n + 1 : Nat) : Int))], [], τ)) rfl rfl ?_
      have e3 : ((n + 1 : Nat) : Int) = (((n + 1) : Nat) : Int) := by omega
      rw [e3]
      clear e3
      exact ih (n + 1) (by omega) (fst_step hI (by omega) (fun q => absurd (of_decide_eq_true q) (by assumption)))
    · refine TT.steps (cd := cd138) 1 (c' := (15, [(2, 11), (0, ((n0 : Nat) : Int)), (0, x), (0, ((n : Nat) : Int))], [(0, ((n : Nat) : Int))], τ)) rfl rfl ?_
      exact TT.ret (cd := cd138) rfl rfl rfl rfl ⟨by rw [fst_hit hI (by omega) (decide_eq_true (by first | assumption | exact Decidable.not_not.mp (by assumption)))], rfl⟩
theorem u_idx_11 (X : AX) (n0 : Nat) (x : Int) {τ : AH} (hn0 : n0 ≤ 10)  : TT X 138 (0, [(2, 11), (0, ((n0 : Nat) : Int)), (0, x), (9, 0)], [], τ) (fun r σ' => r = some (0, fstI (fun k => decide (τ 11 k = x)) n0 0) ∧ σ' = τ) := by
  refine TT.steps (cd := cd138) 2 (c' := (2, [(2, 11), (0, ((n0 : Nat) : Int)), (0, x), (0, 0)], [], τ)) rfl rfl ?_
  exact ul_idx_11 X n0 x hn0 n0 0 (by omega) rfl
theorem u_hasName_8 (X : AX) (x : Int) {τ : AH} {np nt ns : Nat} (m0 : τ 8 1 = (ns : Int)) (n0 : ns ≤ 14) (m1 : τ 8 2 = (nt : Int)) (n1 : nt ≤ 6) (m2 : τ 30 0 = (np : Int)) (n2 : np ≤ 10) (q0 q1 q2 : Int) (e0 : fstI (fun k => decide (τ 9 k = x)) ns 0 = q0) (e1 : fstI (fun k => decide (τ 10 k = x)) nt 0 = q1) (e2 : fstI (fun k => decide (τ 11 k = x)) np 0 = q2)  : TT X 137 (0, [(2, 8), (0, x)], [], τ) (fun r σ' => ((q0 = -1 ∧ q1 = -1 ∧ q2 = -1) → r = some (0, 0) ∧ σ' = τ) ∧ (¬ (q0 = -1 ∧ q1 = -1 ∧ q2 = -1) → r = some (0, 1) ∧ σ' = τ)) := by
  refine TT.steps (cd := cd137) 4 (c' := (4, [(2, 8), (0, x)], [(0, (τ 8 1)), (2, 9)], τ)) rfl rfl ?_
  refine TT.top0 (z := ((ns : Nat) : Int)) m0 ?_
  refine TT.steps (cd := cd137) 1 (c' := (5, [(2, 8), (0, x)], [(0, x), (0, ((ns : Nat) : Int)), (2, 9)], τ)) rfl rfl ?_
  refine TT.call (cd := cd137) rfl rfl rfl (by decide) rfl (u_idx_9 X ns x n0) (fun r1 σ1 hq => ?_)
  rw [hq.1, hq.2, e0]
  refine TT.steps (cd := cd137) 2 (c' := ((if decide (¬ q0 = (-1)) = true then 25 else 8), [(2, 8), (0, x)], [], τ)) rfl rfl ?_
  refine TT.br (p := ¬ q0 = (-1)) (fun h2 => ?_) (fun h2 => ?_)
  · refine TT.steps (cd := cd137) 2 (c' := (28, [(2, 8), (0, x)], [(0, 1)], τ)) rfl rfl ?_
    exact TT.ret (cd := cd137) rfl rfl rfl rfl (by refine ⟨?_, ?_⟩ <;> intro hh <;> first | exact ⟨rfl, rfl⟩ | exact absurd hh (by first | assumption | omega) | (exfalso; omega))
  · refine TT.steps (cd := cd137) 4 (c' := (12, [(2, 8), (0, x)], [(0, (τ 8 2)), (2, 10)], τ)) rfl rfl ?_
    refine TT.top0 (z := ((nt : Nat) : Int)) m1 ?_
    refine TT.steps (cd := cd137) 1 (c' := (13, [(2, 8), (0, x)], [(0, x), (0, ((nt : Nat) : Int)), (2, 10)], τ)) rfl rfl ?_
    refine TT.call (cd := cd137) rfl rfl rfl (by decide) rfl (u_idx_10 X nt x n1) (fun r3 σ3 hq => ?_)
    rw [hq.1, hq.2, e1]
    refine TT.steps (cd := cd137) 2 (c' := ((if decide (¬ q1 = (-1)) = true then 25 else 16), [(2, 8), (0, x)], [], τ)) rfl rfl ?_
    refine TT.br (p := ¬ q1 = (-1)) (fun h4 => ?_) (fun h4 => ?_)
    · refine TT.steps (cd := cd137) 2 (c' := (28, [(2, 8), (0, x)], [(0, 1)], τ)) rfl rfl ?_
      exact TT.ret (cd := cd137) rfl rfl rfl rfl (by refine ⟨?_, ?_⟩ <;> intro hh <;> first | exact ⟨rfl, rfl⟩ | exact absurd hh (by first | assumption | omega) | (exfalso; omega))
    · refine TT.steps (cd := cd137) 5 (c' := (21, [(2, 8), (0, x)], [(0, (τ 30 0)), (2, 11)], τ)) rfl rfl ?_
      refine TT.top0 (z := ((np : Nat) : Int)) m2 ?_
      refine TT.steps (cd := cd137) 1 (c' := (22, [(2, 8), (0, x)], [(0, x), (0, ((np : Nat) : Int)), (2, 11)], τ)) rfl rfl ?_
      refine TT.call (cd := cd137) rfl rfl rfl (by decide) rfl (u_idx_11 X np x n2) (fun r5 σ5 hq => ?_)
      rw [hq.1, hq.2, e2]
      refine TT.steps (cd := cd137) 2 (c' := ((if decide (q2 = (-1)) = true then 27 else 25), [(2, 8), (0, x)], [], τ)) rfl rfl ?_
      refine TT.br (p := q2 = (-1)) (fun h6 => ?_) (fun h6 => ?_)
      · refine TT.steps (cd := cd137) 1 (c' := (28, [(2, 8), (0, x)], [(0, 0)], τ)) rfl rfl ?_
        exact TT.ret (cd := cd137) rfl rfl rfl rfl (by refine ⟨?_, ?_⟩ <;> intro hh <;> first | exact ⟨rfl, rfl⟩ | exact absurd hh (by first | assumption | omega) | (exfalso; omega))
      · refine TT.steps (cd := cd137) 2 (c' := (28, [(2, 8), (0, x)], [(0, 1)], τ)) rfl rfl ?_
        exact TT.ret (cd := cd137) rfl rfl rfl rfl (by refine ⟨?_, ?_⟩ <;> intro hh <;> first | exact ⟨rfl, rfl⟩ | exact absurd hh (by first | assumption | omega) | (exfalso; omega))
theorem u_newName1_8 (X : AX) {f : Nat → Int} {N c i : Nat} {K : Nat → Int} {S : Nat → Nat} {V : Nat → Int} {P : Nat → Nat} {τ : AH} (hT : TD f N c K S V P) (hC : CT c K S V τ) (h34 : τ 3 4 = (i : Int)) (hi : i ≤ c) (h33 : τ 3 3 = 8) {np nt ns : Nat} (m0 : τ 8 1 = (ns : Int)) (n0 : ns ≤ 14) (m1 : τ 8 2 = (nt : Int)) (n1 : nt ≤ 6) (m2 : τ 30 0 = (np : Int)) (n2 : np ≤ 10) (hne : ¬ K i = 14)  : TT X 158 (0, [(2, 3)], [], τ) (fun r σ' => r = some (0, 0) ∧ σ' = cFail τ 1 (plc K S V i)) := by
  have hc16 : c ≤ 1600 := by have h1 := hT.1; have h2 := hT.2.1; omega
  obtain ⟨vs, v17, v15⟩ := td_v hT hi
  refine TT.steps (cd := cd158) 1 (c' := (1, [(2, 3)], [(2, 3)], τ)) rfl rfl ?_
  refine TT.call (cd := cd158) rfl rfl rfl (by decide) rfl (u_kind X hT (τ := τ) hC (by exact h34) hi) (fun r1 σ1 hq => ?_)
  rw [hq.1, hq.2]
  refine TT.steps (cd := cd158) 2 (c' := ((if decide ((K i) = 14) = true then 8 else 4), [(2, 3)], [], τ)) rfl rfl ?_
  refine TT.br (p := (K i) = 14) (fun h2 => absurd h2 (show ¬ ((K i) = 14) by exact hne)) (fun h2 => ?_)
  refine TT.steps (cd := cd158) 2 (c' := (6, [(2, 3)], [(0, 1), (2, 3)], τ)) rfl rfl ?_
  refine TT.call (cd := cd158) rfl rfl rfl (by decide) rfl (u_fail1 X hT hC h34 hi) (fun r3 σ3 hq => ?_)
  rw [hq.1, hq.2]
  exact TT.ret (cd := cd158) rfl rfl rfl rfl (⟨rfl, rfl⟩)
theorem u_newName2_8 (X : AX) {f : Nat → Int} {N c i : Nat} {K : Nat → Int} {S : Nat → Nat} {V : Nat → Int} {P : Nat → Nat} {τ : AH} (hT : TD f N c K S V P) (hC : CT c K S V τ) (h34 : τ 3 4 = (i : Int)) (hi : i ≤ c) (h33 : τ 3 3 = 8) {np nt ns : Nat} (m0 : τ 8 1 = (ns : Int)) (n0 : ns ≤ 14) (m1 : τ 8 2 = (nt : Int)) (n1 : nt ≤ 6) (m2 : τ 30 0 = (np : Int)) (n2 : np ≤ 10) (q0 q1 q2 : Int) (e0 : fstI (fun k => decide (τ 9 k = V i)) ns 0 = q0) (e1 : fstI (fun k => decide (τ 10 k = V i)) nt 0 = q1) (e2 : fstI (fun k => decide (τ 11 k = V i)) np 0 = q2) (he : K i = 14) (hqq : ¬ (q0 = -1 ∧ q1 = -1 ∧ q2 = -1))  : TT X 158 (0, [(2, 3)], [], τ) (fun r σ' => r = some (0, 0) ∧ σ' = cFail (up2 τ 3 5 (V i)) 2 (S i : Int)) := by
  have hc16 : c ≤ 1600 := by have h1 := hT.1; have h2 := hT.2.1; omega
  obtain ⟨vs, v17, v15⟩ := td_v hT hi
  refine TT.steps (cd := cd158) 1 (c' := (1, [(2, 3)], [(2, 3)], τ)) rfl rfl ?_
  refine TT.call (cd := cd158) rfl rfl rfl (by decide) rfl (u_kind X hT (τ := τ) hC (by exact h34) hi) (fun r1 σ1 hq => ?_)
  rw [hq.1, hq.2]
  refine TT.steps (cd := cd158) 2 (c' := ((if decide ((K i) = 14) = true then 8 else 4), [(2, 3)], [], τ)) rfl rfl ?_
  refine TT.br (p := (K i) = 14) (fun h2 => ?_) (fun h2 => absurd (show (K i) = 14 by exact he) h2)
  refine TT.steps (cd := cd158) 6 (c' := (14, [(2, 3)], [(0, (τ 3 4)), (2, 7), (2, 3)], τ)) rfl rfl ?_
  refine TT.top0 (z := ((i : Nat) : Int)) h34 ?_
  refine TT.aldN (cd := cd158) (7) (i) rfl rfl rfl rfl (show i < 1601 by omega) ?_
  refine TT.top0 (z := (V i)) (hC i hi).2.2 ?_
  refine TT.steps (cd := cd158) 3 (c' := (18, [(2, 3)], [(2, ((up2 τ 3 5 (V i)) 3 3))], (up2 τ 3 5 (V i)))) rfl rfl ?_
  refine TT.top0 (z := 8) ((up2_by _ _ (j := 5) (j' := 3) _ (by decide)).trans h33) ?_
  refine TT.steps (cd := cd158) 2 (c' := (20, [(2, 3)], [(0, ((up2 τ 3 5 (V i)) 3 5)), (2, 8)], (up2 τ 3 5 (V i)))) rfl rfl ?_
  refine TT.top0 (z := (V i)) (up2_hit _ _ _ _) ?_
  refine TT.call (cd := cd158) rfl rfl rfl (by decide) rfl ((u_hasName_8 X (V i) (τ := (up2 τ 3 5 (V i))) ((up2_nq _ (by omega)).trans m0) n0 ((up2_nq _ (by omega)).trans m1) n1 ((up2_nq _ (by omega)).trans m2) n2 q0 q1 q2 (by simp only [up2_far _ _ _ _ (show 9 ≠ 3 by decide)]; exact e0) (by simp only [up2_far _ _ _ _ (show 10 ≠ 3 by decide)]; exact e1) (by simp only [up2_far _ _ _ _ (show 11 ≠ 3 by decide)]; exact e2)).mono (fun _ _ h => h.2 hqq)) (fun r3 σ3 hq => ?_)
  rw [hq.1, hq.2]
  refine TT.steps (cd := cd158) 3 (c' := (24, [(2, 3)], [(0, 2), (2, 3)], (up2 τ 3 5 (V i)))) rfl rfl ?_
  refine TT.call (cd := cd158) rfl rfl rfl (by decide) rfl (u_failK X hT (τ := (up2 τ 3 5 (V i))) (CT_3 hC (fun k j hk => up2_nq _ (by omega))) ((up2_nq _ (by omega)).trans h34) hi 2 (by decide)) (fun r4 σ4 hq => ?_)
  rw [hq.1, hq.2]
  exact TT.ret (cd := cd158) rfl rfl rfl rfl (⟨rfl, rfl⟩)
theorem u_newName3_8 (X : AX) {f : Nat → Int} {N c i : Nat} {K : Nat → Int} {S : Nat → Nat} {V : Nat → Int} {P : Nat → Nat} {τ : AH} (hT : TD f N c K S V P) (hC : CT c K S V τ) (h34 : τ 3 4 = (i : Int)) (hi : i ≤ c) (h33 : τ 3 3 = 8) {np nt ns : Nat} (m0 : τ 8 1 = (ns : Int)) (n0 : ns ≤ 14) (m1 : τ 8 2 = (nt : Int)) (n1 : nt ≤ 6) (m2 : τ 30 0 = (np : Int)) (n2 : np ≤ 10) (q0 q1 q2 : Int) (e0 : fstI (fun k => decide (τ 9 k = V i)) ns 0 = q0) (e1 : fstI (fun k => decide (τ 10 k = V i)) nt 0 = q1) (e2 : fstI (fun k => decide (τ 11 k = V i)) np 0 = q2) (he : K i = 14) (hqq : q0 = -1 ∧ q1 = -1 ∧ q2 = -1)  : TT X 158 (0, [(2, 3)], [], τ) (fun r σ' => r = some (0, 1) ∧ σ' = up2 (up2 τ 3 5 (V i)) 3 4 ((i + 1 : Nat) : Int)) := by
  have hc16 : c ≤ 1600 := by have h1 := hT.1; have h2 := hT.2.1; omega
  obtain ⟨vs, v17, v15⟩ := td_v hT hi
  refine TT.steps (cd := cd158) 1 (c' := (1, [(2, 3)], [(2, 3)], τ)) rfl rfl ?_
  refine TT.call (cd := cd158) rfl rfl rfl (by decide) rfl (u_kind X hT (τ := τ) hC (by exact h34) hi) (fun r1 σ1 hq => ?_)
  rw [hq.1, hq.2]
  refine TT.steps (cd := cd158) 2 (c' := ((if decide ((K i) = 14) = true then 8 else 4), [(2, 3)], [], τ)) rfl rfl ?_
  refine TT.br (p := (K i) = 14) (fun h2 => ?_) (fun h2 => absurd (show (K i) = 14 by exact he) h2)
  refine TT.steps (cd := cd158) 6 (c' := (14, [(2, 3)], [(0, (τ 3 4)), (2, 7), (2, 3)], τ)) rfl rfl ?_
  refine TT.top0 (z := ((i : Nat) : Int)) h34 ?_
  refine TT.aldN (cd := cd158) (7) (i) rfl rfl rfl rfl (show i < 1601 by omega) ?_
  refine TT.top0 (z := (V i)) (hC i hi).2.2 ?_
  refine TT.steps (cd := cd158) 3 (c' := (18, [(2, 3)], [(2, ((up2 τ 3 5 (V i)) 3 3))], (up2 τ 3 5 (V i)))) rfl rfl ?_
  refine TT.top0 (z := 8) ((up2_by _ _ (j := 5) (j' := 3) _ (by decide)).trans h33) ?_
  refine TT.steps (cd := cd158) 2 (c' := (20, [(2, 3)], [(0, ((up2 τ 3 5 (V i)) 3 5)), (2, 8)], (up2 τ 3 5 (V i)))) rfl rfl ?_
  refine TT.top0 (z := (V i)) (up2_hit _ _ _ _) ?_
  refine TT.call (cd := cd158) rfl rfl rfl (by decide) rfl ((u_hasName_8 X (V i) (τ := (up2 τ 3 5 (V i))) ((up2_nq _ (by omega)).trans m0) n0 ((up2_nq _ (by omega)).trans m1) n1 ((up2_nq _ (by omega)).trans m2) n2 q0 q1 q2 (by simp only [up2_far _ _ _ _ (show 9 ≠ 3 by decide)]; exact e0) (by simp only [up2_far _ _ _ _ (show 10 ≠ 3 by decide)]; exact e1) (by simp only [up2_far _ _ _ _ (show 11 ≠ 3 by decide)]; exact e2)).mono (fun _ _ h => h.1 hqq)) (fun r3 σ3 hq => ?_)
  rw [hq.1, hq.2]
  refine TT.steps (cd := cd158) 4 (c' := (29, [(2, 3)], [(0, ((up2 τ 3 5 (V i)) 3 4)), (2, 3)], (up2 τ 3 5 (V i)))) rfl rfl ?_
  refine TT.top0 (z := ((i : Nat) : Int)) ((up2_by _ _ (j := 5) (j' := 4) _ (by decide)).trans h34) ?_
  refine TT.steps (cd := cd158) 2 (c' := (31, [(2, 3)], [(0, (aAdd ((i : Nat) : Int) 1)), (2, 3)], (up2 τ 3 5 (V i)))) rfl rfl ?_
  refine TT.top0 (z := ((i + 1 : Nat) : Int)) (aAdd_n (a := i) (b := 1) (by omega)) ?_
  refine TT.steps (cd := cd158) 2 (c' := (33, [(2, 3)], [(0, 1)], (up2 (up2 τ 3 5 (V i)) 3 4 ((i + 1 : Nat) : Int)))) rfl rfl ?_
  exact TT.ret (cd := cd158) rfl rfl rfl rfl (⟨rfl, rfl⟩)
theorem u_stat1_8 (X : AX) {f : Nat → Int} {N c i : Nat} {K : Nat → Int} {S : Nat → Nat} {V : Nat → Int} {P : Nat → Nat} {τ : AH} (hT : TD f N c K S V P) (hC : CT c K S V τ) (h34 : τ 3 4 = (i : Int)) (hi : i ≤ c) (h33 : τ 3 3 = 8) {np nt ns : Nat} (m0 : τ 8 1 = (ns : Int)) (n0 : ns ≤ 14) (m1 : τ 8 2 = (nt : Int)) (n1 : nt ≤ 6) (m2 : τ 30 0 = (np : Int)) (n2 : np ≤ 10) (u : Int) (hne : ¬ K i = 14)  : TT X 159 (0, [(2, 3), (0, u)], [], τ) (fun r σ' => r = some (0, 0) ∧ σ' = cFail τ 1 (plc K S V i)) := by
  have hc16 : c ≤ 1600 := by have h1 := hT.1; have h2 := hT.2.1; omega
  obtain ⟨vs, v17, v15⟩ := td_v hT hi
  refine TT.steps (cd := cd159) 1 (c' := (1, [(2, 3), (0, u)], [(2, 3)], τ)) rfl rfl ?_
  refine TT.call (cd := cd159) rfl rfl rfl (by decide) rfl (u_kind X hT (τ := τ) hC (by exact h34) hi) (fun r1 σ1 hq => ?_)
  rw [hq.1, hq.2]
  refine TT.steps (cd := cd159) 2 (c' := ((if decide ((K i) = 14) = true then 8 else 4), [(2, 3), (0, u)], [], τ)) rfl rfl ?_
  refine TT.br (p := (K i) = 14) (fun h2 => absurd h2 (show ¬ ((K i) = 14) by exact hne)) (fun h2 => ?_)
  refine TT.steps (cd := cd159) 2 (c' := (6, [(2, 3), (0, u)], [(0, 1), (2, 3)], τ)) rfl rfl ?_
  refine TT.call (cd := cd159) rfl rfl rfl (by decide) rfl (u_fail1 X hT hC h34 hi) (fun r3 σ3 hq => ?_)
  rw [hq.1, hq.2]
  exact TT.ret (cd := cd159) rfl rfl rfl rfl (⟨rfl, rfl⟩)
theorem u_stat_8 (X : AX) {f : Nat → Int} {N c i : Nat} {K : Nat → Int} {S : Nat → Nat} {V : Nat → Int} {P : Nat → Nat} {τ : AH} (hT : TD f N c K S V P) (hC : CT c K S V τ) (h34 : τ 3 4 = (i : Int)) (hi : i ≤ c) (h33 : τ 3 3 = 8) {np nt ns : Nat} (m0 : τ 8 1 = (ns : Int)) (n0 : ns ≤ 14) (m1 : τ 8 2 = (nt : Int)) (n1 : nt ≤ 6) (m2 : τ 30 0 = (np : Int)) (n2 : np ≤ 10) (q0 : Int) (e0 : fstI (fun k => decide (τ 9 k = V i)) ns 0 = q0) (u : Int) (he : K i = 14)  : TT X 159 (0, [(2, 3), (0, u)], [], τ) (fun r σ' => ((q0 = -1 ∨ aAnd (aShr u q0) 1 = 1) → r = some (0, 0) ∧ σ' = cFail (up2 τ 3 5 q0) 3 (S i : Int)) ∧ (¬ (q0 = -1 ∨ aAnd (aShr u q0) 1 = 1) → r = some (0, 1) ∧ σ' = up2 (up2 τ 3 5 q0) 3 4 ((i + 1 : Nat) : Int))) := by
  have hc16 : c ≤ 1600 := by have h1 := hT.1; have h2 := hT.2.1; omega
  obtain ⟨vs, v17, v15⟩ := td_v hT hi
  refine TT.steps (cd := cd159) 1 (c' := (1, [(2, 3), (0, u)], [(2, 3)], τ)) rfl rfl ?_
  refine TT.call (cd := cd159) rfl rfl rfl (by decide) rfl (u_kind X hT (τ := τ) hC (by exact h34) hi) (fun r1 σ1 hq => ?_)
  rw [hq.1, hq.2]
  refine TT.steps (cd := cd159) 2 (c' := ((if decide ((K i) = 14) = true then 8 else 4), [(2, 3), (0, u)], [], τ)) rfl rfl ?_
  refine TT.br (p := (K i) = 14) (fun h2 => ?_) (fun h2 => absurd (show (K i) = 14 by exact he) h2)
  refine TT.steps (cd := cd159) 3 (c' := (11, [(2, 3), (0, u)], [(2, (τ 3 3)), (2, 3)], τ)) rfl rfl ?_
  refine TT.top0 (z := 8) h33 ?_
  refine TT.steps (cd := cd159) 3 (c' := (14, [(2, 3), (0, u)], [(2, (τ 3 3)), (2, 9), (2, 3)], τ)) rfl rfl ?_
  refine TT.top0 (z := 8) h33 ?_
  refine TT.steps (cd := cd159) 1 (c' := (15, [(2, 3), (0, u)], [(0, (τ 8 1)), (2, 9), (2, 3)], τ)) rfl rfl ?_
  refine TT.top0 (z := ((ns : Nat) : Int)) m0 ?_
  refine TT.steps (cd := cd159) 5 (c' := (20, [(2, 3), (0, u)], [(0, (τ 3 4)), (2, 7), (0, ((ns : Nat) : Int)), (2, 9), (2, 3)], τ)) rfl rfl ?_
  refine TT.top0 (z := ((i : Nat) : Int)) h34 ?_
  refine TT.aldN (cd := cd159) (7) (i) rfl rfl rfl rfl (show i < 1601 by omega) ?_
  refine TT.top0 (z := (V i)) (hC i hi).2.2 ?_
  refine TT.call (cd := cd159) rfl rfl rfl (by decide) rfl (u_idx_9 X ns (V i) n0) (fun r3 σ3 hq => ?_)
  rw [hq.1, hq.2, e0]
  refine TT.steps (cd := cd159) 3 (c' := (25, [(2, 3), (0, u)], [(0, ((up2 τ 3 5 q0) 3 5))], (up2 τ 3 5 q0))) rfl rfl ?_
  refine TT.top0 (z := q0) (up2_hit _ _ _ _) ?_
  refine TT.steps (cd := cd159) 2 (c' := ((if decide (q0 = (-1)) = true then 33 else 27), [(2, 3), (0, u)], [], (up2 τ 3 5 q0))) rfl rfl ?_
  refine TT.br (p := q0 = (-1)) (fun h4 => ?_) (fun h4 => ?_)
  · refine TT.steps (cd := cd159) 2 (c' := (35, [(2, 3), (0, u)], [(0, 3), (2, 3)], (up2 τ 3 5 q0))) rfl rfl ?_
    refine TT.call (cd := cd159) rfl rfl rfl (by decide) rfl (u_failK X hT (τ := (up2 τ 3 5 q0)) (CT_3 hC (fun k j hk => up2_nq _ (by omega))) ((up2_nq _ (by omega)).trans h34) hi 3 (by decide)) (fun r5 σ5 hq => ?_)
    rw [hq.1, hq.2]
    exact TT.ret (cd := cd159) rfl rfl rfl rfl (by refine ⟨?_, ?_⟩ <;> intro hh <;> first | exact ⟨rfl, rfl⟩ | exact absurd hh (by first | assumption | omega) | (exfalso; omega))
  · refine TT.steps (cd := cd159) 3 (c' := (30, [(2, 3), (0, u)], [(0, ((up2 τ 3 5 q0) 3 5)), (0, u)], (up2 τ 3 5 q0))) rfl rfl ?_
    refine TT.top0 (z := q0) (up2_hit _ _ _ _) ?_
    refine TT.call (cd := cd159) rfl rfl rfl (by decide) rfl (u_bit X u q0 (up2 τ 3 5 q0)) (fun r6 σ6 hq => ?_)
    rw [hq.1, hq.2]
    refine TT.steps (cd := cd159) 2 (c' := ((if decide (¬ (aAnd (aShr u q0) 1) = 1) = true then 37 else 33), [(2, 3), (0, u)], [], (up2 τ 3 5 q0))) rfl rfl ?_
    refine TT.br (p := ¬ (aAnd (aShr u q0) 1) = 1) (fun h7 => ?_) (fun h7 => ?_)
    · refine TT.steps (cd := cd159) 3 (c' := (40, [(2, 3), (0, u)], [(0, ((up2 τ 3 5 q0) 3 4)), (2, 3)], (up2 τ 3 5 q0))) rfl rfl ?_
      refine TT.top0 (z := ((i : Nat) : Int)) ((up2_by _ _ (j := 5) (j' := 4) _ (by decide)).trans h34) ?_
      refine TT.steps (cd := cd159) 2 (c' := (42, [(2, 3), (0, u)], [(0, (aAdd ((i : Nat) : Int) 1)), (2, 3)], (up2 τ 3 5 q0))) rfl rfl ?_
      refine TT.top0 (z := ((i + 1 : Nat) : Int)) (aAdd_n (a := i) (b := 1) (by omega)) ?_
      refine TT.steps (cd := cd159) 2 (c' := (44, [(2, 3), (0, u)], [(0, 1)], (up2 (up2 τ 3 5 q0) 3 4 ((i + 1 : Nat) : Int)))) rfl rfl ?_
      exact TT.ret (cd := cd159) rfl rfl rfl rfl (by refine ⟨?_, ?_⟩ <;> intro hh <;> first | exact ⟨rfl, rfl⟩ | exact absurd hh (by first | assumption | omega) | (exfalso; omega))
    · refine TT.steps (cd := cd159) 2 (c' := (35, [(2, 3), (0, u)], [(0, 3), (2, 3)], (up2 τ 3 5 q0))) rfl rfl ?_
      refine TT.call (cd := cd159) rfl rfl rfl (by decide) rfl (u_failK X hT (τ := (up2 τ 3 5 q0)) (CT_3 hC (fun k j hk => up2_nq _ (by omega))) ((up2_nq _ (by omega)).trans h34) hi 3 (by decide)) (fun r8 σ8 hq => ?_)
      rw [hq.1, hq.2]
      exact TT.ret (cd := cd159) rfl rfl rfl rfl (by refine ⟨?_, ?_⟩ <;> intro hh <;> first | exact ⟨rfl, rfl⟩ | exact absurd hh (by first | assumption | omega) | (exfalso; omega))
theorem u_clear_8 (X : AX) (τ : AH)  : TT X 136 (0, [(2, 8)], [], τ) (fun r σ' => r = none ∧ σ' = up2 (up2 (up2 (up2 (up2 τ 8 0 0) 8 1 0) 8 2 0) 8 3 4) 30 0 0) := by
  refine TT.steps (cd := cd136) 16 (c' := (16, [(2, 8)], [], (up2 (up2 (up2 (up2 (up2 τ 8 0 0) 8 1 0) 8 2 0) 8 3 4) 30 0 0))) rfl rfl ?_
  exact TT.ret (cd := cd136) rfl rfl rfl rfl (⟨rfl, rfl⟩)
theorem ul_idx_171 (X : AX) (n0 : Nat) (x : Int) {τ : AH} (hn0 : n0 ≤ 14)  : ∀ (d n : Nat), n + d = n0 → fstI (fun k => decide (τ 171 k = x)) n0 0 = fstI (fun k => decide (τ 171 k = x)) (n0 - n) n → TT X 138 (2, [(2, 171), (0, ((n0 : Nat) : Int)), (0, x), (0, ((n : Nat) : Int))], [], τ) (fun r σ' => r = some (0, fstI (fun k => decide (τ 171 k = x)) n0 0) ∧ σ' = τ) := by
  intro d
  induction d with
  | zero =>
    intro n hn hI
    refine TT.steps (cd := cd138) 3 (c' := ((if decide (((n0 : Nat) : Int) ≤ ((n : Nat) : Int)) = true then 18 else 5), [(2, 171), (0, ((n0 : Nat) : Int)), (0, x), (0, ((n : Nat) : Int))], [], τ)) rfl rfl ?_
    refine TT.br (p := ((n0 : Nat) : Int) ≤ ((n : Nat) : Int)) (fun h1 => ?_) (fun h1 => absurd (show ((n0 : Nat) : Int) ≤ ((n : Nat) : Int) by omega) h1)
    refine TT.steps (cd := cd138) 1 (c' := (19, [(2, 171), (0, ((n0 : Nat) : Int)), (0, x), (0, ((n : Nat) : Int))], [(0, -1)], τ)) rfl rfl ?_
    exact TT.ret (cd := cd138) rfl rfl rfl rfl ⟨by rw [fst_end hI (by omega)], rfl⟩
  | succ d ih =>
    intro n hn hI
    refine TT.steps (cd := cd138) 3 (c' := ((if decide (((n0 : Nat) : Int) ≤ ((n : Nat) : Int)) = true then 18 else 5), [(2, 171), (0, ((n0 : Nat) : Int)), (0, x), (0, ((n : Nat) : Int))], [], τ)) rfl rfl ?_
    refine TT.br (p := ((n0 : Nat) : Int) ≤ ((n : Nat) : Int)) (fun h1 => absurd h1 (show ¬ (((n0 : Nat) : Int) ≤ ((n : Nat) : Int)) by omega)) (fun h1 => ?_)
    refine TT.steps (cd := cd138) 4 (c' := ((if decide (14 ≤ ((n : Nat) : Int)) = true then 18 else 9), [(2, 171), (0, ((n0 : Nat) : Int)), (0, x), (0, ((n : Nat) : Int))], [], τ)) rfl rfl ?_
    refine TT.br (p := 14 ≤ ((n : Nat) : Int)) (fun h2 => absurd h2 (show ¬ (14 ≤ ((n : Nat) : Int)) by omega)) (fun h2 => ?_)
    refine TT.steps (cd := cd138) 2 (c' := (11, [(2, 171), (0, ((n0 : Nat) : Int)), (0, x), (0, ((n : Nat) : Int))], [(0, ((n : Nat) : Int)), (2, 171)], τ)) rfl rfl ?_
    refine TT.aldN (cd := cd138) (171) (n) rfl rfl rfl rfl (show n < 14 by omega) ?_
    refine TT.top0 (z := (τ 171 n)) rfl ?_
    refine TT.steps (cd := cd138) 2 (c' := ((if decide (¬ (τ 171 n) = x) = true then 16 else 14), [(2, 171), (0, ((n0 : Nat) : Int)), (0, x), (0, ((n : Nat) : Int))], [], τ)) rfl rfl ?_
    refine TT.br (p := ¬ (τ 171 n) = x) (fun h3 => ?_) (fun h3 => ?_)
    · refine TT.inc (cd := cd138) ((n + 1 : Nat) : Int) rfl rfl rfl rfl (fun h => absurd h.2 (show ¬ (0 = 1) by decide)) (aAdd_n (a := n) (b := 1) (by omega)) (ls' := [(2, 171), (0, ((n0 : Nat) : Int)), (0, x), (0, ((n + 1 : Nat) : Int))]) rfl ?_
      refine TT.steps (cd := cd138) 1 (c' := (2, [(2, 171), (0, ((n0 : Nat) : Int)), (0, x), (0, ((n + 1 : Nat) : Int))], [], τ)) rfl rfl ?_
      have e3 : ((n + 1 : Nat) : Int) = (((n + 1) : Nat) : Int) := by omega
      rw [e3]
      clear e3
      exact ih (n + 1) (by omega) (fst_step hI (by omega) (fun q => absurd (of_decide_eq_true q) (by assumption)))
    · refine TT.steps (cd := cd138) 1 (c' := (15, [(2, 171), (0, ((n0 : Nat) : Int)), (0, x), (0, ((n : Nat) : Int))], [(0, ((n : Nat) : Int))], τ)) rfl rfl ?_
      exact TT.ret (cd := cd138) rfl rfl rfl rfl ⟨by rw [fst_hit hI (by omega) (decide_eq_true (by first | assumption | exact Decidable.not_not.mp (by assumption)))], rfl⟩
theorem u_idx_171 (X : AX) (n0 : Nat) (x : Int) {τ : AH} (hn0 : n0 ≤ 14)  : TT X 138 (0, [(2, 171), (0, ((n0 : Nat) : Int)), (0, x), (9, 0)], [], τ) (fun r σ' => r = some (0, fstI (fun k => decide (τ 171 k = x)) n0 0) ∧ σ' = τ) := by
  refine TT.steps (cd := cd138) 2 (c' := (2, [(2, 171), (0, ((n0 : Nat) : Int)), (0, x), (0, 0)], [], τ)) rfl rfl ?_
  exact ul_idx_171 X n0 x hn0 n0 0 (by omega) rfl
theorem ul_idx_172 (X : AX) (n0 : Nat) (x : Int) {τ : AH} (hn0 : n0 ≤ 6)  : ∀ (d n : Nat), n + d = n0 → fstI (fun k => decide (τ 172 k = x)) n0 0 = fstI (fun k => decide (τ 172 k = x)) (n0 - n) n → TT X 138 (2, [(2, 172), (0, ((n0 : Nat) : Int)), (0, x), (0, ((n : Nat) : Int))], [], τ) (fun r σ' => r = some (0, fstI (fun k => decide (τ 172 k = x)) n0 0) ∧ σ' = τ) := by
  intro d
  induction d with
  | zero =>
    intro n hn hI
    refine TT.steps (cd := cd138) 3 (c' := ((if decide (((n0 : Nat) : Int) ≤ ((n : Nat) : Int)) = true then 18 else 5), [(2, 172), (0, ((n0 : Nat) : Int)), (0, x), (0, ((n : Nat) : Int))], [], τ)) rfl rfl ?_
    refine TT.br (p := ((n0 : Nat) : Int) ≤ ((n : Nat) : Int)) (fun h1 => ?_) (fun h1 => absurd (show ((n0 : Nat) : Int) ≤ ((n : Nat) : Int) by omega) h1)
    refine TT.steps (cd := cd138) 1 (c' := (19, [(2, 172), (0, ((n0 : Nat) : Int)), (0, x), (0, ((n : Nat) : Int))], [(0, -1)], τ)) rfl rfl ?_
    exact TT.ret (cd := cd138) rfl rfl rfl rfl ⟨by rw [fst_end hI (by omega)], rfl⟩
  | succ d ih =>
    intro n hn hI
    refine TT.steps (cd := cd138) 3 (c' := ((if decide (((n0 : Nat) : Int) ≤ ((n : Nat) : Int)) = true then 18 else 5), [(2, 172), (0, ((n0 : Nat) : Int)), (0, x), (0, ((n : Nat) : Int))], [], τ)) rfl rfl ?_
    refine TT.br (p := ((n0 : Nat) : Int) ≤ ((n : Nat) : Int)) (fun h1 => absurd h1 (show ¬ (((n0 : Nat) : Int) ≤ ((n : Nat) : Int)) by omega)) (fun h1 => ?_)
    refine TT.steps (cd := cd138) 4 (c' := ((if decide (6 ≤ ((n : Nat) : Int)) = true then 18 else 9), [(2, 172), (0, ((n0 : Nat) : Int)), (0, x), (0, ((n : Nat) : Int))], [], τ)) rfl rfl ?_
    refine TT.br (p := 6 ≤ ((n : Nat) : Int)) (fun h2 => absurd h2 (show ¬ (6 ≤ ((n : Nat) : Int)) by omega)) (fun h2 => ?_)
    refine TT.steps (cd := cd138) 2 (c' := (11, [(2, 172), (0, ((n0 : Nat) : Int)), (0, x), (0, ((n : Nat) : Int))], [(0, ((n : Nat) : Int)), (2, 172)], τ)) rfl rfl ?_
    refine TT.aldN (cd := cd138) (172) (n) rfl rfl rfl rfl (show n < 6 by omega) ?_
    refine TT.top0 (z := (τ 172 n)) rfl ?_
    refine TT.steps (cd := cd138) 2 (c' := ((if decide (¬ (τ 172 n) = x) = true then 16 else 14), [(2, 172), (0, ((n0 : Nat) : Int)), (0, x), (0, ((n : Nat) : Int))], [], τ)) rfl rfl ?_
    refine TT.br (p := ¬ (τ 172 n) = x) (fun h3 => ?_) (fun h3 => ?_)
    · refine TT.inc (cd := cd138) ((n + 1 : Nat) : Int) rfl rfl rfl rfl (fun h => absurd h.2 (show ¬ (0 = 1) by decide)) (aAdd_n (a := n) (b := 1) (by omega)) (ls' := [(2, 172), (0, ((n0 : Nat) : Int)), (0, x), (0, ((n + 1 : Nat) : Int))]) rfl ?_
      refine TT.steps (cd := cd138) 1 (c' := (2, [(2, 172), (0, ((n0 : Nat) : Int)), (0, x), (0, ((n + 1 : Nat) : Int))], [], τ)) rfl rfl ?_
      have e3 : ((n + 1 : Nat) : Int) = (((n + 1) : Nat) : Int) := by omega
      rw [e3]
      clear e3
      exact ih (n + 1) (by omega) (fst_step hI (by omega) (fun q => absurd (of_decide_eq_true q) (by assumption)))
    · refine TT.steps (cd := cd138) 1 (c' := (15, [(2, 172), (0, ((n0 : Nat) : Int)), (0, x), (0, ((n : Nat) : Int))], [(0, ((n : Nat) : Int))], τ)) rfl rfl ?_
      exact TT.ret (cd := cd138) rfl rfl rfl rfl ⟨by rw [fst_hit hI (by omega) (decide_eq_true (by first | assumption | exact Decidable.not_not.mp (by assumption)))], rfl⟩
theorem u_idx_172 (X : AX) (n0 : Nat) (x : Int) {τ : AH} (hn0 : n0 ≤ 6)  : TT X 138 (0, [(2, 172), (0, ((n0 : Nat) : Int)), (0, x), (9, 0)], [], τ) (fun r σ' => r = some (0, fstI (fun k => decide (τ 172 k = x)) n0 0) ∧ σ' = τ) := by
  refine TT.steps (cd := cd138) 2 (c' := (2, [(2, 172), (0, ((n0 : Nat) : Int)), (0, x), (0, 0)], [], τ)) rfl rfl ?_
  exact ul_idx_172 X n0 x hn0 n0 0 (by omega) rfl
theorem ul_idx_173 (X : AX) (n0 : Nat) (x : Int) {τ : AH} (hn0 : n0 ≤ 10)  : ∀ (d n : Nat), n + d = n0 → fstI (fun k => decide (τ 173 k = x)) n0 0 = fstI (fun k => decide (τ 173 k = x)) (n0 - n) n → TT X 138 (2, [(2, 173), (0, ((n0 : Nat) : Int)), (0, x), (0, ((n : Nat) : Int))], [], τ) (fun r σ' => r = some (0, fstI (fun k => decide (τ 173 k = x)) n0 0) ∧ σ' = τ) := by
  intro d
  induction d with
  | zero =>
    intro n hn hI
    refine TT.steps (cd := cd138) 3 (c' := ((if decide (((n0 : Nat) : Int) ≤ ((n : Nat) : Int)) = true then 18 else 5), [(2, 173), (0, ((n0 : Nat) : Int)), (0, x), (0, ((n : Nat) : Int))], [], τ)) rfl rfl ?_
    refine TT.br (p := ((n0 : Nat) : Int) ≤ ((n : Nat) : Int)) (fun h1 => ?_) (fun h1 => absurd (show ((n0 : Nat) : Int) ≤ ((n : Nat) : Int) by omega) h1)
    refine TT.steps (cd := cd138) 1 (c' := (19, [(2, 173), (0, ((n0 : Nat) : Int)), (0, x), (0, ((n : Nat) : Int))], [(0, -1)], τ)) rfl rfl ?_
    exact TT.ret (cd := cd138) rfl rfl rfl rfl ⟨by rw [fst_end hI (by omega)], rfl⟩
  | succ d ih =>
    intro n hn hI
    refine TT.steps (cd := cd138) 3 (c' := ((if decide (((n0 : Nat) : Int) ≤ ((n : Nat) : Int)) = true then 18 else 5), [(2, 173), (0, ((n0 : Nat) : Int)), (0, x), (0, ((n : Nat) : Int))], [], τ)) rfl rfl ?_
    refine TT.br (p := ((n0 : Nat) : Int) ≤ ((n : Nat) : Int)) (fun h1 => absurd h1 (show ¬ (((n0 : Nat) : Int) ≤ ((n : Nat) : Int)) by omega)) (fun h1 => ?_)
    refine TT.steps (cd := cd138) 4 (c' := ((if decide (10 ≤ ((n : Nat) : Int)) = true then 18 else 9), [(2, 173), (0, ((n0 : Nat) : Int)), (0, x), (0, ((n : Nat) : Int))], [], τ)) rfl rfl ?_
    refine TT.br (p := 10 ≤ ((n : Nat) : Int)) (fun h2 => absurd h2 (show ¬ (10 ≤ ((n : Nat) : Int)) by omega)) (fun h2 => ?_)
    refine TT.steps (cd := cd138) 2 (c' := (11, [(2, 173), (0, ((n0 : Nat) : Int)), (0, x), (0, ((n : Nat) : Int))], [(0, ((n : Nat) : Int)), (2, 173)], τ)) rfl rfl ?_
    refine TT.aldN (cd := cd138) (173) (n) rfl rfl rfl rfl (show n < 10 by omega) ?_
    refine TT.top0 (z := (τ 173 n)) rfl ?_
    refine TT.steps (cd := cd138) 2 (c' := ((if decide (¬ (τ 173 n) = x) = true then 16 else 14), [(2, 173), (0, ((n0 : Nat) : Int)), (0, x), (0, ((n : Nat) : Int))], [], τ)) rfl rfl ?_
    refine TT.br (p := ¬ (τ 173 n) = x) (fun h3 => ?_) (fun h3 => ?_)
    · refine TT.inc (cd := cd138) ((n + 1 : Nat) : Int) rfl rfl rfl rfl (fun h => absurd h.2 (show ¬ (0 = 1) by decide)) (aAdd_n (a := n) (b := 1) (by omega)) (ls' := [(2, 173), (0, ((n0 : Nat) : Int)), (0, x), (0, ((n + 1 : Nat) : Int))]) rfl ?_
      refine TT.steps (cd := cd138) 1 (c' := (2, [(2, 173), (0, ((n0 : Nat) : Int)), (0, x), (0, ((n + 1 : Nat) : Int))], [], τ)) rfl rfl ?_
      have e3 : ((n + 1 : Nat) : Int) = (((n + 1) : Nat) : Int) := by omega
      rw [e3]
      clear e3
      exact ih (n + 1) (by omega) (fst_step hI (by omega) (fun q => absurd (of_decide_eq_true q) (by assumption)))
    · refine TT.steps (cd := cd138) 1 (c' := (15, [(2, 173), (0, ((n0 : Nat) : Int)), (0, x), (0, ((n : Nat) : Int))], [(0, ((n : Nat) : Int))], τ)) rfl rfl ?_
      exact TT.ret (cd := cd138) rfl rfl rfl rfl ⟨by rw [fst_hit hI (by omega) (decide_eq_true (by first | assumption | exact Decidable.not_not.mp (by assumption)))], rfl⟩
theorem u_idx_173 (X : AX) (n0 : Nat) (x : Int) {τ : AH} (hn0 : n0 ≤ 10)  : TT X 138 (0, [(2, 173), (0, ((n0 : Nat) : Int)), (0, x), (9, 0)], [], τ) (fun r σ' => r = some (0, fstI (fun k => decide (τ 173 k = x)) n0 0) ∧ σ' = τ) := by
  refine TT.steps (cd := cd138) 2 (c' := (2, [(2, 173), (0, ((n0 : Nat) : Int)), (0, x), (0, 0)], [], τ)) rfl rfl ?_
  exact ul_idx_173 X n0 x hn0 n0 0 (by omega) rfl
theorem u_hasName_170 (X : AX) (x : Int) {τ : AH} {np nt ns : Nat} (m0 : τ 170 1 = (ns : Int)) (n0 : ns ≤ 14) (m1 : τ 170 2 = (nt : Int)) (n1 : nt ≤ 6) (m2 : τ 192 0 = (np : Int)) (n2 : np ≤ 10) (q0 q1 q2 : Int) (e0 : fstI (fun k => decide (τ 171 k = x)) ns 0 = q0) (e1 : fstI (fun k => decide (τ 172 k = x)) nt 0 = q1) (e2 : fstI (fun k => decide (τ 173 k = x)) np 0 = q2)  : TT X 137 (0, [(2, 170), (0, x)], [], τ) (fun r σ' => ((q0 = -1 ∧ q1 = -1 ∧ q2 = -1) → r = some (0, 0) ∧ σ' = τ) ∧ (¬ (q0 = -1 ∧ q1 = -1 ∧ q2 = -1) → r = some (0, 1) ∧ σ' = τ)) := by
  refine TT.steps (cd := cd137) 4 (c' := (4, [(2, 170), (0, x)], [(0, (τ 170 1)), (2, 171)], τ)) rfl rfl ?_
  refine TT.top0 (z := ((ns : Nat) : Int)) m0 ?_
  refine TT.steps (cd := cd137) 1 (c' := (5, [(2, 170), (0, x)], [(0, x), (0, ((ns : Nat) : Int)), (2, 171)], τ)) rfl rfl ?_
  refine TT.call (cd := cd137) rfl rfl rfl (by decide) rfl (u_idx_171 X ns x n0) (fun r1 σ1 hq => ?_)
  rw [hq.1, hq.2, e0]
  refine TT.steps (cd := cd137) 2 (c' := ((if decide (¬ q0 = (-1)) = true then 25 else 8), [(2, 170), (0, x)], [], τ)) rfl rfl ?_
  refine TT.br (p := ¬ q0 = (-1)) (fun h2 => ?_) (fun h2 => ?_)
  · refine TT.steps (cd := cd137) 2 (c' := (28, [(2, 170), (0, x)], [(0, 1)], τ)) rfl rfl ?_
    exact TT.ret (cd := cd137) rfl rfl rfl rfl (by refine ⟨?_, ?_⟩ <;> intro hh <;> first | exact ⟨rfl, rfl⟩ | exact absurd hh (by first | assumption | omega) | (exfalso; omega))
  · refine TT.steps (cd := cd137) 4 (c' := (12, [(2, 170), (0, x)], [(0, (τ 170 2)), (2, 172)], τ)) rfl rfl ?_
    refine TT.top0 (z := ((nt : Nat) : Int)) m1 ?_
    refine TT.steps (cd := cd137) 1 (c' := (13, [(2, 170), (0, x)], [(0, x), (0, ((nt : Nat) : Int)), (2, 172)], τ)) rfl rfl ?_
    refine TT.call (cd := cd137) rfl rfl rfl (by decide) rfl (u_idx_172 X nt x n1) (fun r3 σ3 hq => ?_)
    rw [hq.1, hq.2, e1]
    refine TT.steps (cd := cd137) 2 (c' := ((if decide (¬ q1 = (-1)) = true then 25 else 16), [(2, 170), (0, x)], [], τ)) rfl rfl ?_
    refine TT.br (p := ¬ q1 = (-1)) (fun h4 => ?_) (fun h4 => ?_)
    · refine TT.steps (cd := cd137) 2 (c' := (28, [(2, 170), (0, x)], [(0, 1)], τ)) rfl rfl ?_
      exact TT.ret (cd := cd137) rfl rfl rfl rfl (by refine ⟨?_, ?_⟩ <;> intro hh <;> first | exact ⟨rfl, rfl⟩ | exact absurd hh (by first | assumption | omega) | (exfalso; omega))
    · refine TT.steps (cd := cd137) 5 (c' := (21, [(2, 170), (0, x)], [(0, (τ 192 0)), (2, 173)], τ)) rfl rfl ?_
      refine TT.top0 (z := ((np : Nat) : Int)) m2 ?_
      refine TT.steps (cd := cd137) 1 (c' := (22, [(2, 170), (0, x)], [(0, x), (0, ((np : Nat) : Int)), (2, 173)], τ)) rfl rfl ?_
      refine TT.call (cd := cd137) rfl rfl rfl (by decide) rfl (u_idx_173 X np x n2) (fun r5 σ5 hq => ?_)
      rw [hq.1, hq.2, e2]
      refine TT.steps (cd := cd137) 2 (c' := ((if decide (q2 = (-1)) = true then 27 else 25), [(2, 170), (0, x)], [], τ)) rfl rfl ?_
      refine TT.br (p := q2 = (-1)) (fun h6 => ?_) (fun h6 => ?_)
      · refine TT.steps (cd := cd137) 1 (c' := (28, [(2, 170), (0, x)], [(0, 0)], τ)) rfl rfl ?_
        exact TT.ret (cd := cd137) rfl rfl rfl rfl (by refine ⟨?_, ?_⟩ <;> intro hh <;> first | exact ⟨rfl, rfl⟩ | exact absurd hh (by first | assumption | omega) | (exfalso; omega))
      · refine TT.steps (cd := cd137) 2 (c' := (28, [(2, 170), (0, x)], [(0, 1)], τ)) rfl rfl ?_
        exact TT.ret (cd := cd137) rfl rfl rfl rfl (by refine ⟨?_, ?_⟩ <;> intro hh <;> first | exact ⟨rfl, rfl⟩ | exact absurd hh (by first | assumption | omega) | (exfalso; omega))
theorem u_newName1_170 (X : AX) {f : Nat → Int} {N c i : Nat} {K : Nat → Int} {S : Nat → Nat} {V : Nat → Int} {P : Nat → Nat} {τ : AH} (hT : TD f N c K S V P) (hC : CT c K S V τ) (h34 : τ 3 4 = (i : Int)) (hi : i ≤ c) (h33 : τ 3 3 = 170) {np nt ns : Nat} (m0 : τ 170 1 = (ns : Int)) (n0 : ns ≤ 14) (m1 : τ 170 2 = (nt : Int)) (n1 : nt ≤ 6) (m2 : τ 192 0 = (np : Int)) (n2 : np ≤ 10) (hne : ¬ K i = 14)  : TT X 158 (0, [(2, 3)], [], τ) (fun r σ' => r = some (0, 0) ∧ σ' = cFail τ 1 (plc K S V i)) := by
  have hc16 : c ≤ 1600 := by have h1 := hT.1; have h2 := hT.2.1; omega
  obtain ⟨vs, v17, v15⟩ := td_v hT hi
  refine TT.steps (cd := cd158) 1 (c' := (1, [(2, 3)], [(2, 3)], τ)) rfl rfl ?_
  refine TT.call (cd := cd158) rfl rfl rfl (by decide) rfl (u_kind X hT (τ := τ) hC (by exact h34) hi) (fun r1 σ1 hq => ?_)
  rw [hq.1, hq.2]
  refine TT.steps (cd := cd158) 2 (c' := ((if decide ((K i) = 14) = true then 8 else 4), [(2, 3)], [], τ)) rfl rfl ?_
  refine TT.br (p := (K i) = 14) (fun h2 => absurd h2 (show ¬ ((K i) = 14) by exact hne)) (fun h2 => ?_)
  refine TT.steps (cd := cd158) 2 (c' := (6, [(2, 3)], [(0, 1), (2, 3)], τ)) rfl rfl ?_
  refine TT.call (cd := cd158) rfl rfl rfl (by decide) rfl (u_fail1 X hT hC h34 hi) (fun r3 σ3 hq => ?_)
  rw [hq.1, hq.2]
  exact TT.ret (cd := cd158) rfl rfl rfl rfl (⟨rfl, rfl⟩)
theorem u_newName2_170 (X : AX) {f : Nat → Int} {N c i : Nat} {K : Nat → Int} {S : Nat → Nat} {V : Nat → Int} {P : Nat → Nat} {τ : AH} (hT : TD f N c K S V P) (hC : CT c K S V τ) (h34 : τ 3 4 = (i : Int)) (hi : i ≤ c) (h33 : τ 3 3 = 170) {np nt ns : Nat} (m0 : τ 170 1 = (ns : Int)) (n0 : ns ≤ 14) (m1 : τ 170 2 = (nt : Int)) (n1 : nt ≤ 6) (m2 : τ 192 0 = (np : Int)) (n2 : np ≤ 10) (q0 q1 q2 : Int) (e0 : fstI (fun k => decide (τ 171 k = V i)) ns 0 = q0) (e1 : fstI (fun k => decide (τ 172 k = V i)) nt 0 = q1) (e2 : fstI (fun k => decide (τ 173 k = V i)) np 0 = q2) (he : K i = 14) (hqq : ¬ (q0 = -1 ∧ q1 = -1 ∧ q2 = -1))  : TT X 158 (0, [(2, 3)], [], τ) (fun r σ' => r = some (0, 0) ∧ σ' = cFail (up2 τ 3 5 (V i)) 2 (S i : Int)) := by
  have hc16 : c ≤ 1600 := by have h1 := hT.1; have h2 := hT.2.1; omega
  obtain ⟨vs, v17, v15⟩ := td_v hT hi
  refine TT.steps (cd := cd158) 1 (c' := (1, [(2, 3)], [(2, 3)], τ)) rfl rfl ?_
  refine TT.call (cd := cd158) rfl rfl rfl (by decide) rfl (u_kind X hT (τ := τ) hC (by exact h34) hi) (fun r1 σ1 hq => ?_)
  rw [hq.1, hq.2]
  refine TT.steps (cd := cd158) 2 (c' := ((if decide ((K i) = 14) = true then 8 else 4), [(2, 3)], [], τ)) rfl rfl ?_
  refine TT.br (p := (K i) = 14) (fun h2 => ?_) (fun h2 => absurd (show (K i) = 14 by exact he) h2)
  refine TT.steps (cd := cd158) 6 (c' := (14, [(2, 3)], [(0, (τ 3 4)), (2, 7), (2, 3)], τ)) rfl rfl ?_
  refine TT.top0 (z := ((i : Nat) : Int)) h34 ?_
  refine TT.aldN (cd := cd158) (7) (i) rfl rfl rfl rfl (show i < 1601 by omega) ?_
  refine TT.top0 (z := (V i)) (hC i hi).2.2 ?_
  refine TT.steps (cd := cd158) 3 (c' := (18, [(2, 3)], [(2, ((up2 τ 3 5 (V i)) 3 3))], (up2 τ 3 5 (V i)))) rfl rfl ?_
  refine TT.top0 (z := 170) ((up2_by _ _ (j := 5) (j' := 3) _ (by decide)).trans h33) ?_
  refine TT.steps (cd := cd158) 2 (c' := (20, [(2, 3)], [(0, ((up2 τ 3 5 (V i)) 3 5)), (2, 170)], (up2 τ 3 5 (V i)))) rfl rfl ?_
  refine TT.top0 (z := (V i)) (up2_hit _ _ _ _) ?_
  refine TT.call (cd := cd158) rfl rfl rfl (by decide) rfl ((u_hasName_170 X (V i) (τ := (up2 τ 3 5 (V i))) ((up2_nq _ (by omega)).trans m0) n0 ((up2_nq _ (by omega)).trans m1) n1 ((up2_nq _ (by omega)).trans m2) n2 q0 q1 q2 (by simp only [up2_far _ _ _ _ (show 171 ≠ 3 by decide)]; exact e0) (by simp only [up2_far _ _ _ _ (show 172 ≠ 3 by decide)]; exact e1) (by simp only [up2_far _ _ _ _ (show 173 ≠ 3 by decide)]; exact e2)).mono (fun _ _ h => h.2 hqq)) (fun r3 σ3 hq => ?_)
  rw [hq.1, hq.2]
  refine TT.steps (cd := cd158) 3 (c' := (24, [(2, 3)], [(0, 2), (2, 3)], (up2 τ 3 5 (V i)))) rfl rfl ?_
  refine TT.call (cd := cd158) rfl rfl rfl (by decide) rfl (u_failK X hT (τ := (up2 τ 3 5 (V i))) (CT_3 hC (fun k j hk => up2_nq _ (by omega))) ((up2_nq _ (by omega)).trans h34) hi 2 (by decide)) (fun r4 σ4 hq => ?_)
  rw [hq.1, hq.2]
  exact TT.ret (cd := cd158) rfl rfl rfl rfl (⟨rfl, rfl⟩)
theorem u_newName3_170 (X : AX) {f : Nat → Int} {N c i : Nat} {K : Nat → Int} {S : Nat → Nat} {V : Nat → Int} {P : Nat → Nat} {τ : AH} (hT : TD f N c K S V P) (hC : CT c K S V τ) (h34 : τ 3 4 = (i : Int)) (hi : i ≤ c) (h33 : τ 3 3 = 170) {np nt ns : Nat} (m0 : τ 170 1 = (ns : Int)) (n0 : ns ≤ 14) (m1 : τ 170 2 = (nt : Int)) (n1 : nt ≤ 6) (m2 : τ 192 0 = (np : Int)) (n2 : np ≤ 10) (q0 q1 q2 : Int) (e0 : fstI (fun k => decide (τ 171 k = V i)) ns 0 = q0) (e1 : fstI (fun k => decide (τ 172 k = V i)) nt 0 = q1) (e2 : fstI (fun k => decide (τ 173 k = V i)) np 0 = q2) (he : K i = 14) (hqq : q0 = -1 ∧ q1 = -1 ∧ q2 = -1)  : TT X 158 (0, [(2, 3)], [], τ) (fun r σ' => r = some (0, 1) ∧ σ' = up2 (up2 τ 3 5 (V i)) 3 4 ((i + 1 : Nat) : Int)) := by
  have hc16 : c ≤ 1600 := by have h1 := hT.1; have h2 := hT.2.1; omega
  obtain ⟨vs, v17, v15⟩ := td_v hT hi
  refine TT.steps (cd := cd158) 1 (c' := (1, [(2, 3)], [(2, 3)], τ)) rfl rfl ?_
  refine TT.call (cd := cd158) rfl rfl rfl (by decide) rfl (u_kind X hT (τ := τ) hC (by exact h34) hi) (fun r1 σ1 hq => ?_)
  rw [hq.1, hq.2]
  refine TT.steps (cd := cd158) 2 (c' := ((if decide ((K i) = 14) = true then 8 else 4), [(2, 3)], [], τ)) rfl rfl ?_
  refine TT.br (p := (K i) = 14) (fun h2 => ?_) (fun h2 => absurd (show (K i) = 14 by exact he) h2)
  refine TT.steps (cd := cd158) 6 (c' := (14, [(2, 3)], [(0, (τ 3 4)), (2, 7), (2, 3)], τ)) rfl rfl ?_
  refine TT.top0 (z := ((i : Nat) : Int)) h34 ?_
  refine TT.aldN (cd := cd158) (7) (i) rfl rfl rfl rfl (show i < 1601 by omega) ?_
  refine TT.top0 (z := (V i)) (hC i hi).2.2 ?_
  refine TT.steps (cd := cd158) 3 (c' := (18, [(2, 3)], [(2, ((up2 τ 3 5 (V i)) 3 3))], (up2 τ 3 5 (V i)))) rfl rfl ?_
  refine TT.top0 (z := 170) ((up2_by _ _ (j := 5) (j' := 3) _ (by decide)).trans h33) ?_
  refine TT.steps (cd := cd158) 2 (c' := (20, [(2, 3)], [(0, ((up2 τ 3 5 (V i)) 3 5)), (2, 170)], (up2 τ 3 5 (V i)))) rfl rfl ?_
  refine TT.top0 (z := (V i)) (up2_hit _ _ _ _) ?_
  refine TT.call (cd := cd158) rfl rfl rfl (by decide) rfl ((u_hasName_170 X (V i) (τ := (up2 τ 3 5 (V i))) ((up2_nq _ (by omega)).trans m0) n0 ((up2_nq _ (by omega)).trans m1) n1 ((up2_nq _ (by omega)).trans m2) n2 q0 q1 q2 (by simp only [up2_far _ _ _ _ (show 171 ≠ 3 by decide)]; exact e0) (by simp only [up2_far _ _ _ _ (show 172 ≠ 3 by decide)]; exact e1) (by simp only [up2_far _ _ _ _ (show 173 ≠ 3 by decide)]; exact e2)).mono (fun _ _ h => h.1 hqq)) (fun r3 σ3 hq => ?_)
  rw [hq.1, hq.2]
  refine TT.steps (cd := cd158) 4 (c' := (29, [(2, 3)], [(0, ((up2 τ 3 5 (V i)) 3 4)), (2, 3)], (up2 τ 3 5 (V i)))) rfl rfl ?_
  refine TT.top0 (z := ((i : Nat) : Int)) ((up2_by _ _ (j := 5) (j' := 4) _ (by decide)).trans h34) ?_
  refine TT.steps (cd := cd158) 2 (c' := (31, [(2, 3)], [(0, (aAdd ((i : Nat) : Int) 1)), (2, 3)], (up2 τ 3 5 (V i)))) rfl rfl ?_
  refine TT.top0 (z := ((i + 1 : Nat) : Int)) (aAdd_n (a := i) (b := 1) (by omega)) ?_
  refine TT.steps (cd := cd158) 2 (c' := (33, [(2, 3)], [(0, 1)], (up2 (up2 τ 3 5 (V i)) 3 4 ((i + 1 : Nat) : Int)))) rfl rfl ?_
  exact TT.ret (cd := cd158) rfl rfl rfl rfl (⟨rfl, rfl⟩)
theorem u_stat1_170 (X : AX) {f : Nat → Int} {N c i : Nat} {K : Nat → Int} {S : Nat → Nat} {V : Nat → Int} {P : Nat → Nat} {τ : AH} (hT : TD f N c K S V P) (hC : CT c K S V τ) (h34 : τ 3 4 = (i : Int)) (hi : i ≤ c) (h33 : τ 3 3 = 170) {np nt ns : Nat} (m0 : τ 170 1 = (ns : Int)) (n0 : ns ≤ 14) (m1 : τ 170 2 = (nt : Int)) (n1 : nt ≤ 6) (m2 : τ 192 0 = (np : Int)) (n2 : np ≤ 10) (u : Int) (hne : ¬ K i = 14)  : TT X 159 (0, [(2, 3), (0, u)], [], τ) (fun r σ' => r = some (0, 0) ∧ σ' = cFail τ 1 (plc K S V i)) := by
  have hc16 : c ≤ 1600 := by have h1 := hT.1; have h2 := hT.2.1; omega
  obtain ⟨vs, v17, v15⟩ := td_v hT hi
  refine TT.steps (cd := cd159) 1 (c' := (1, [(2, 3), (0, u)], [(2, 3)], τ)) rfl rfl ?_
  refine TT.call (cd := cd159) rfl rfl rfl (by decide) rfl (u_kind X hT (τ := τ) hC (by exact h34) hi) (fun r1 σ1 hq => ?_)
  rw [hq.1, hq.2]
  refine TT.steps (cd := cd159) 2 (c' := ((if decide ((K i) = 14) = true then 8 else 4), [(2, 3), (0, u)], [], τ)) rfl rfl ?_
  refine TT.br (p := (K i) = 14) (fun h2 => absurd h2 (show ¬ ((K i) = 14) by exact hne)) (fun h2 => ?_)
  refine TT.steps (cd := cd159) 2 (c' := (6, [(2, 3), (0, u)], [(0, 1), (2, 3)], τ)) rfl rfl ?_
  refine TT.call (cd := cd159) rfl rfl rfl (by decide) rfl (u_fail1 X hT hC h34 hi) (fun r3 σ3 hq => ?_)
  rw [hq.1, hq.2]
  exact TT.ret (cd := cd159) rfl rfl rfl rfl (⟨rfl, rfl⟩)
theorem u_stat_170 (X : AX) {f : Nat → Int} {N c i : Nat} {K : Nat → Int} {S : Nat → Nat} {V : Nat → Int} {P : Nat → Nat} {τ : AH} (hT : TD f N c K S V P) (hC : CT c K S V τ) (h34 : τ 3 4 = (i : Int)) (hi : i ≤ c) (h33 : τ 3 3 = 170) {np nt ns : Nat} (m0 : τ 170 1 = (ns : Int)) (n0 : ns ≤ 14) (m1 : τ 170 2 = (nt : Int)) (n1 : nt ≤ 6) (m2 : τ 192 0 = (np : Int)) (n2 : np ≤ 10) (q0 : Int) (e0 : fstI (fun k => decide (τ 171 k = V i)) ns 0 = q0) (u : Int) (he : K i = 14)  : TT X 159 (0, [(2, 3), (0, u)], [], τ) (fun r σ' => ((q0 = -1 ∨ aAnd (aShr u q0) 1 = 1) → r = some (0, 0) ∧ σ' = cFail (up2 τ 3 5 q0) 3 (S i : Int)) ∧ (¬ (q0 = -1 ∨ aAnd (aShr u q0) 1 = 1) → r = some (0, 1) ∧ σ' = up2 (up2 τ 3 5 q0) 3 4 ((i + 1 : Nat) : Int))) := by
  have hc16 : c ≤ 1600 := by have h1 := hT.1; have h2 := hT.2.1; omega
  obtain ⟨vs, v17, v15⟩ := td_v hT hi
  refine TT.steps (cd := cd159) 1 (c' := (1, [(2, 3), (0, u)], [(2, 3)], τ)) rfl rfl ?_
  refine TT.call (cd := cd159) rfl rfl rfl (by decide) rfl (u_kind X hT (τ := τ) hC (by exact h34) hi) (fun r1 σ1 hq => ?_)
  rw [hq.1, hq.2]
  refine TT.steps (cd := cd159) 2 (c' := ((if decide ((K i) = 14) = true then 8 else 4), [(2, 3), (0, u)], [], τ)) rfl rfl ?_
  refine TT.br (p := (K i) = 14) (fun h2 => ?_) (fun h2 => absurd (show (K i) = 14 by exact he) h2)
  refine TT.steps (cd := cd159) 3 (c' := (11, [(2, 3), (0, u)], [(2, (τ 3 3)), (2, 3)], τ)) rfl rfl ?_
  refine TT.top0 (z := 170) h33 ?_
  refine TT.steps (cd := cd159) 3 (c' := (14, [(2, 3), (0, u)], [(2, (τ 3 3)), (2, 171), (2, 3)], τ)) rfl rfl ?_
  refine TT.top0 (z := 170) h33 ?_
  refine TT.steps (cd := cd159) 1 (c' := (15, [(2, 3), (0, u)], [(0, (τ 170 1)), (2, 171), (2, 3)], τ)) rfl rfl ?_
  refine TT.top0 (z := ((ns : Nat) : Int)) m0 ?_
  refine TT.steps (cd := cd159) 5 (c' := (20, [(2, 3), (0, u)], [(0, (τ 3 4)), (2, 7), (0, ((ns : Nat) : Int)), (2, 171), (2, 3)], τ)) rfl rfl ?_
  refine TT.top0 (z := ((i : Nat) : Int)) h34 ?_
  refine TT.aldN (cd := cd159) (7) (i) rfl rfl rfl rfl (show i < 1601 by omega) ?_
  refine TT.top0 (z := (V i)) (hC i hi).2.2 ?_
  refine TT.call (cd := cd159) rfl rfl rfl (by decide) rfl (u_idx_171 X ns (V i) n0) (fun r3 σ3 hq => ?_)
  rw [hq.1, hq.2, e0]
  refine TT.steps (cd := cd159) 3 (c' := (25, [(2, 3), (0, u)], [(0, ((up2 τ 3 5 q0) 3 5))], (up2 τ 3 5 q0))) rfl rfl ?_
  refine TT.top0 (z := q0) (up2_hit _ _ _ _) ?_
  refine TT.steps (cd := cd159) 2 (c' := ((if decide (q0 = (-1)) = true then 33 else 27), [(2, 3), (0, u)], [], (up2 τ 3 5 q0))) rfl rfl ?_
  refine TT.br (p := q0 = (-1)) (fun h4 => ?_) (fun h4 => ?_)
  · refine TT.steps (cd := cd159) 2 (c' := (35, [(2, 3), (0, u)], [(0, 3), (2, 3)], (up2 τ 3 5 q0))) rfl rfl ?_
    refine TT.call (cd := cd159) rfl rfl rfl (by decide) rfl (u_failK X hT (τ := (up2 τ 3 5 q0)) (CT_3 hC (fun k j hk => up2_nq _ (by omega))) ((up2_nq _ (by omega)).trans h34) hi 3 (by decide)) (fun r5 σ5 hq => ?_)
    rw [hq.1, hq.2]
    exact TT.ret (cd := cd159) rfl rfl rfl rfl (by refine ⟨?_, ?_⟩ <;> intro hh <;> first | exact ⟨rfl, rfl⟩ | exact absurd hh (by first | assumption | omega) | (exfalso; omega))
  · refine TT.steps (cd := cd159) 3 (c' := (30, [(2, 3), (0, u)], [(0, ((up2 τ 3 5 q0) 3 5)), (0, u)], (up2 τ 3 5 q0))) rfl rfl ?_
    refine TT.top0 (z := q0) (up2_hit _ _ _ _) ?_
    refine TT.call (cd := cd159) rfl rfl rfl (by decide) rfl (u_bit X u q0 (up2 τ 3 5 q0)) (fun r6 σ6 hq => ?_)
    rw [hq.1, hq.2]
    refine TT.steps (cd := cd159) 2 (c' := ((if decide (¬ (aAnd (aShr u q0) 1) = 1) = true then 37 else 33), [(2, 3), (0, u)], [], (up2 τ 3 5 q0))) rfl rfl ?_
    refine TT.br (p := ¬ (aAnd (aShr u q0) 1) = 1) (fun h7 => ?_) (fun h7 => ?_)
    · refine TT.steps (cd := cd159) 3 (c' := (40, [(2, 3), (0, u)], [(0, ((up2 τ 3 5 q0) 3 4)), (2, 3)], (up2 τ 3 5 q0))) rfl rfl ?_
      refine TT.top0 (z := ((i : Nat) : Int)) ((up2_by _ _ (j := 5) (j' := 4) _ (by decide)).trans h34) ?_
      refine TT.steps (cd := cd159) 2 (c' := (42, [(2, 3), (0, u)], [(0, (aAdd ((i : Nat) : Int) 1)), (2, 3)], (up2 τ 3 5 q0))) rfl rfl ?_
      refine TT.top0 (z := ((i + 1 : Nat) : Int)) (aAdd_n (a := i) (b := 1) (by omega)) ?_
      refine TT.steps (cd := cd159) 2 (c' := (44, [(2, 3), (0, u)], [(0, 1)], (up2 (up2 τ 3 5 q0) 3 4 ((i + 1 : Nat) : Int)))) rfl rfl ?_
      exact TT.ret (cd := cd159) rfl rfl rfl rfl (by refine ⟨?_, ?_⟩ <;> intro hh <;> first | exact ⟨rfl, rfl⟩ | exact absurd hh (by first | assumption | omega) | (exfalso; omega))
    · refine TT.steps (cd := cd159) 2 (c' := (35, [(2, 3), (0, u)], [(0, 3), (2, 3)], (up2 τ 3 5 q0))) rfl rfl ?_
      refine TT.call (cd := cd159) rfl rfl rfl (by decide) rfl (u_failK X hT (τ := (up2 τ 3 5 q0)) (CT_3 hC (fun k j hk => up2_nq _ (by omega))) ((up2_nq _ (by omega)).trans h34) hi 3 (by decide)) (fun r8 σ8 hq => ?_)
      rw [hq.1, hq.2]
      exact TT.ret (cd := cd159) rfl rfl rfl rfl (by refine ⟨?_, ?_⟩ <;> intro hh <;> first | exact ⟨rfl, rfl⟩ | exact absurd hh (by first | assumption | omega) | (exfalso; omega))
theorem u_clear_170 (X : AX) (τ : AH)  : TT X 136 (0, [(2, 170)], [], τ) (fun r σ' => r = none ∧ σ' = up2 (up2 (up2 (up2 (up2 τ 170 0 0) 170 1 0) 170 2 0) 170 3 4) 192 0 0) := by
  refine TT.steps (cd := cd136) 16 (c' := (16, [(2, 170)], [], (up2 (up2 (up2 (up2 (up2 τ 170 0 0) 170 1 0) 170 2 0) 170 3 4) 192 0 0))) rfl rfl ?_
  exact TT.ret (cd := cd136) rfl rfl rfl rfl (⟨rfl, rfl⟩)
