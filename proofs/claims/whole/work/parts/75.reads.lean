/-! What is read of the class. -/
def ccT (F : Nat → Nat → Bool) (L : Nat → Nat) : Nat → Nat
  | 0 => 0
  | t + 1 => ccT F L t + cnt (F t) (L t)
theorem ccT_le (F : Nat → Nat → Bool) (L : Nat → Nat) (n : Nat) (h : ∀ t, t < n → L t ≤ 8) : ccT F L n ≤ 8 * n := by
  induction n with
  | zero => exact Nat.le_refl _
  | succ n ih =>
    have := cnt_le (F n) (L n)
    have := h n (by omega)
    have := ih (fun t ht => h t (by omega))
    rw [ccT]; omega
theorem cnt_one {F : Nat → Bool} {n : Nat} (h : ∀ k k', k < k' → k' < n → F k = true → F k' = true → False) : cnt F n = if anyN F n = true then 1 else 0 := by
  induction n with
  | zero => rfl
  | succ n ih =>
    have ih2 := ih (fun k k' a b => h k k' a (by omega))
    rw [cnt, anyN, ih2]
    by_cases e : anyN F n = true
    · have : F n = false := by
        obtain ⟨k, k1, k2⟩ := (anyN_iff _ _).mp e
        cases g : F n with
        | false => rfl
        | true => exact absurd (h k n k1 (by omega) k2 g) id
      simp [e, this]
    · cases g : F n with
      | false => simp [e]
      | true => simp [e]
theorem ccT_sum {F : Nat → Nat → Bool} {L : Nat → Nat} {n : Nat} (hn : n ≤ 6) (h : ∀ t k k', t < n → k < k' → k' < L t → F t k = true → F t k' = true → False) : ((ccT F L n : Nat) : Int) = sumA (fun t => if anyN (F t) (L t) = true then 1 else 0) n ∧ ccT F L n ≤ n := by
  induction n with
  | zero => exact ⟨rfl, Nat.le_refl _⟩
  | succ n ih =>
    obtain ⟨i1, i2⟩ := ih (by omega) (fun t k k' a => h t k k' (by omega))
    have e := cnt_one (F := F n) (n := L n) (fun k k' a b => h n k k' (by omega) a b)
    rw [ccT, sumA, ← i1, e]
    by_cases g : anyN (F n) (L n) = true
    · simp only [g, if_true]; constructor
      · rw [aAdd_of (by omega) (by omega)]; omega
      · omega
    · simp only [g]; constructor
      · simp only [Bool.false_eq_true, if_false, Nat.add_zero]; rw [aAdd_of (by omega) (by omega)]; omega
      · simp only [Bool.false_eq_true, if_false]; omega
theorem ul_priced_8 (X : AX) (Q : Option AV → AH → Prop) (np : Nat) (σ : AH) (hc : σ 30 0 = (np : Int)) (hnp2 : np ≤ 10)  (kk : TT X 140 (24, [(2, 8), (0, ((bs (fun p => decide (0 < σ 12 p)) np : Nat) : Int)), (0, ((np : Nat) : Int))], [], σ) Q) : ∀ (d n : Nat), n + d = np → TT X 140 (4, [(2, 8), (0, ((bs (fun p => decide (0 < σ 12 p)) n : Nat) : Int)), (0, ((n : Nat) : Int))], [], σ) Q := by
  intro d
  induction d with
  | zero =>
    intro n hn
    have hnn : n = np := by omega
    rw [hnn]
    refine TT.steps (cd := cd140) 4 (c' := (8, [(2, 8), (0, ((bs (fun p => decide (0 < σ 12 p)) np : Nat) : Int)), (0, ((np : Nat) : Int))], [(0, (σ 30 0)), (0, ((np : Nat) : Int))], σ)) rfl rfl ?_
    refine TT.top0 (z := ((np : Nat) : Int)) hc ?_
    refine TT.steps (cd := cd140) 1 (c' := ((if decide (((np : Nat) : Int) ≤ ((np : Nat) : Int)) = true then 24 else 9), [(2, 8), (0, ((bs (fun p => decide (0 < σ 12 p)) np : Nat) : Int)), (0, ((np : Nat) : Int))], [], σ)) rfl rfl ?_
    refine TT.br (p := ((np : Nat) : Int) ≤ ((np : Nat) : Int)) (fun h1 => ?_) (fun h1 => absurd (show ((np : Nat) : Int) ≤ ((np : Nat) : Int) by omega) h1)
    exact kk
  | succ d ih =>
    intro n hn
    refine TT.steps (cd := cd140) 4 (c' := (8, [(2, 8), (0, ((bs (fun p => decide (0 < σ 12 p)) n : Nat) : Int)), (0, ((n : Nat) : Int))], [(0, (σ 30 0)), (0, ((n : Nat) : Int))], σ)) rfl rfl ?_
    refine TT.top0 (z := ((np : Nat) : Int)) hc ?_
    refine TT.steps (cd := cd140) 1 (c' := ((if decide (((np : Nat) : Int) ≤ ((n : Nat) : Int)) = true then 24 else 9), [(2, 8), (0, ((bs (fun p => decide (0 < σ 12 p)) n : Nat) : Int)), (0, ((n : Nat) : Int))], [], σ)) rfl rfl ?_
    refine TT.br (p := ((np : Nat) : Int) ≤ ((n : Nat) : Int)) (fun h1 => absurd h1 (show ¬ (((np : Nat) : Int) ≤ ((n : Nat) : Int)) by omega)) (fun h1 => ?_)
    refine TT.steps (cd := cd140) 4 (c' := (13, [(2, 8), (0, ((bs (fun p => decide (0 < σ 12 p)) n : Nat) : Int)), (0, ((n : Nat) : Int))], [(0, ((n : Nat) : Int)), (2, 12), (0, ((bs (fun p => decide (0 < σ 12 p)) n : Nat) : Int))], σ)) rfl rfl ?_
    refine TT.aldN (cd := cd140) (12) (n) rfl rfl rfl rfl (show n < 10 by omega) ?_
    refine TT.steps (cd := cd140) 1 (c' := ((if decide ((σ 12 n) ≤ 0) = true then 19 else 15), [(2, 8), (0, ((bs (fun p => decide (0 < σ 12 p)) n : Nat) : Int)), (0, ((n : Nat) : Int))], [(0, ((bs (fun p => decide (0 < σ 12 p)) n : Nat) : Int))], σ)) rfl rfl ?_
    refine TT.br (p := (σ 12 n) ≤ 0) (fun h2 => ?_) (fun h2 => ?_)
    · refine TT.steps (cd := cd140) 3 (c' := (22, [(2, 8), (0, (aOr ((bs (fun p => decide (0 < σ 12 p)) n : Nat) : Int) 0)), (0, ((n : Nat) : Int))], [], σ)) rfl rfl ?_
      refine TT.inc (cd := cd140) ((n + 1 : Nat) : Int) rfl rfl rfl rfl (fun h => absurd h.2 (show ¬ (0 = 1) by decide)) (aAdd_n (a := n) (b := 1) (by omega)) (ls' := [(2, 8), (0, (aOr ((bs (fun p => decide (0 < σ 12 p)) n : Nat) : Int) 0)), (0, ((n + 1 : Nat) : Int))]) rfl ?_
      refine TT.steps (cd := cd140) 1 (c' := (4, [(2, 8), (0, (aOr ((bs (fun p => decide (0 < σ 12 p)) n : Nat) : Int) 0)), (0, ((n + 1 : Nat) : Int))], [], σ)) rfl rfl ?_
      have e1 : (aOr ((bs (fun p => decide (0 < σ 12 p)) n : Nat) : Int) 0) = ((bs (fun p => decide (0 < σ 12 p)) (n + 1) : Nat) : Int) := by first | exact bs_t (decide_eq_true (by omega)) (by omega) | exact bs_z (decide_eq_false (by omega)) (by omega)
      rw [e1]
      clear e1
      have e2 : ((n + 1 : Nat) : Int) = (((n + 1) : Nat) : Int) := by omega
      rw [e2]
      clear e2
      exact ih (n + 1) (by omega)
    · refine TT.steps (cd := cd140) 6 (c' := (22, [(2, 8), (0, (aOr ((bs (fun p => decide (0 < σ 12 p)) n : Nat) : Int) (aShl 1 ((n : Nat) : Int)))), (0, ((n : Nat) : Int))], [], σ)) rfl rfl ?_
      refine TT.inc (cd := cd140) ((n + 1 : Nat) : Int) rfl rfl rfl rfl (fun h => absurd h.2 (show ¬ (0 = 1) by decide)) (aAdd_n (a := n) (b := 1) (by omega)) (ls' := [(2, 8), (0, (aOr ((bs (fun p => decide (0 < σ 12 p)) n : Nat) : Int) (aShl 1 ((n : Nat) : Int)))), (0, ((n + 1 : Nat) : Int))]) rfl ?_
      refine TT.steps (cd := cd140) 1 (c' := (4, [(2, 8), (0, (aOr ((bs (fun p => decide (0 < σ 12 p)) n : Nat) : Int) (aShl 1 ((n : Nat) : Int)))), (0, ((n + 1 : Nat) : Int))], [], σ)) rfl rfl ?_
      have e1 : (aOr ((bs (fun p => decide (0 < σ 12 p)) n : Nat) : Int) (aShl 1 ((n : Nat) : Int))) = ((bs (fun p => decide (0 < σ 12 p)) (n + 1) : Nat) : Int) := by first | exact bs_t (decide_eq_true (by omega)) (by omega) | exact bs_z (decide_eq_false (by omega)) (by omega)
      rw [e1]
      clear e1
      have e2 : ((n + 1 : Nat) : Int) = (((n + 1) : Nat) : Int) := by omega
      rw [e2]
      clear e2
      exact ih (n + 1) (by omega)
theorem u_priced_8 (X : AX) (np : Nat) (σ : AH) (hc : σ 30 0 = (np : Int)) (hnp2 : np ≤ 10)  : TT X 140 (0, [(2, 8), (9, 0), (9, 0)], [], σ) (fun r σ' => r = some (0, ((bs (fun p => decide (0 < σ 12 p)) np : Nat) : Int)) ∧ σ' = σ) := by
  refine TT.steps (cd := cd140) 4 (c' := (4, [(2, 8), (0, 0), (0, 0)], [], σ)) rfl rfl ?_
  refine ul_priced_8 X _ np σ hc hnp2 ?_ np 0 (by omega)
  refine TT.steps (cd := cd140) 1 (c' := (25, [(2, 8), (0, ((bs (fun p => decide (0 < σ 12 p)) np : Nat) : Int)), (0, ((np : Nat) : Int))], [(0, ((bs (fun p => decide (0 < σ 12 p)) np : Nat) : Int))], σ)) rfl rfl ?_
  exact TT.ret (cd := cd140) rfl rfl rfl rfl (⟨rfl, rfl⟩)
theorem ul_coin_8 (X : AX) (Q : Option AV → AH → Prop) (z : Int) (np : Nat) (σ : AH) (hc : σ 30 0 = (np : Int)) (hnp2 : np ≤ 10)  (kk : TT X 141 (22, [(2, 8), (0, z), (0, (sumA (fun p => aMul (aAnd (aShr z ((p : Nat) : Int)) 1) (σ 12 p)) np)), (0, ((np : Nat) : Int))], [], σ) Q) : ∀ (d n : Nat), n + d = np → TT X 141 (4, [(2, 8), (0, z), (0, (sumA (fun p => aMul (aAnd (aShr z ((p : Nat) : Int)) 1) (σ 12 p)) n)), (0, ((n : Nat) : Int))], [], σ) Q := by
  intro d
  induction d with
  | zero =>
    intro n hn
    have hnn : n = np := by omega
    rw [hnn]
    refine TT.steps (cd := cd141) 4 (c' := (8, [(2, 8), (0, z), (0, (sumA (fun p => aMul (aAnd (aShr z ((p : Nat) : Int)) 1) (σ 12 p)) np)), (0, ((np : Nat) : Int))], [(0, (σ 30 0)), (0, ((np : Nat) : Int))], σ)) rfl rfl ?_
    refine TT.top0 (z := ((np : Nat) : Int)) hc ?_
    refine TT.steps (cd := cd141) 1 (c' := ((if decide (((np : Nat) : Int) ≤ ((np : Nat) : Int)) = true then 22 else 9), [(2, 8), (0, z), (0, (sumA (fun p => aMul (aAnd (aShr z ((p : Nat) : Int)) 1) (σ 12 p)) np)), (0, ((np : Nat) : Int))], [], σ)) rfl rfl ?_
    refine TT.br (p := ((np : Nat) : Int) ≤ ((np : Nat) : Int)) (fun h1 => ?_) (fun h1 => absurd (show ((np : Nat) : Int) ≤ ((np : Nat) : Int) by omega) h1)
    exact kk
  | succ d ih =>
    intro n hn
    refine TT.steps (cd := cd141) 4 (c' := (8, [(2, 8), (0, z), (0, (sumA (fun p => aMul (aAnd (aShr z ((p : Nat) : Int)) 1) (σ 12 p)) n)), (0, ((n : Nat) : Int))], [(0, (σ 30 0)), (0, ((n : Nat) : Int))], σ)) rfl rfl ?_
    refine TT.top0 (z := ((np : Nat) : Int)) hc ?_
    refine TT.steps (cd := cd141) 1 (c' := ((if decide (((np : Nat) : Int) ≤ ((n : Nat) : Int)) = true then 22 else 9), [(2, 8), (0, z), (0, (sumA (fun p => aMul (aAnd (aShr z ((p : Nat) : Int)) 1) (σ 12 p)) n)), (0, ((n : Nat) : Int))], [], σ)) rfl rfl ?_
    refine TT.br (p := ((np : Nat) : Int) ≤ ((n : Nat) : Int)) (fun h1 => absurd h1 (show ¬ (((np : Nat) : Int) ≤ ((n : Nat) : Int)) by omega)) (fun h1 => ?_)
    refine TT.steps (cd := cd141) 3 (c' := (12, [(2, 8), (0, z), (0, (sumA (fun p => aMul (aAnd (aShr z ((p : Nat) : Int)) 1) (σ 12 p)) n)), (0, ((n : Nat) : Int))], [(0, ((n : Nat) : Int)), (0, z), (0, (sumA (fun p => aMul (aAnd (aShr z ((p : Nat) : Int)) 1) (σ 12 p)) n))], σ)) rfl rfl ?_
    refine TT.call (cd := cd141) rfl rfl rfl (by decide) rfl (u_bit X z ((n : Nat) : Int) σ) (fun r2 σ2 hq => ?_)
    rw [hq.1, hq.2]
    refine TT.steps (cd := cd141) 3 (c' := (16, [(2, 8), (0, z), (0, (sumA (fun p => aMul (aAnd (aShr z ((p : Nat) : Int)) 1) (σ 12 p)) n)), (0, ((n : Nat) : Int))], [(0, ((n : Nat) : Int)), (2, 12), (0, (aAnd (aShr z ((n : Nat) : Int)) 1)), (0, (sumA (fun p => aMul (aAnd (aShr z ((p : Nat) : Int)) 1) (σ 12 p)) n))], σ)) rfl rfl ?_
    refine TT.aldN (cd := cd141) (12) (n) rfl rfl rfl rfl (show n < 10 by omega) ?_
    refine TT.steps (cd := cd141) 1 (c' := (18, [(2, 8), (0, z), (0, (sumA (fun p => aMul (aAnd (aShr z ((p : Nat) : Int)) 1) (σ 12 p)) n)), (0, ((n : Nat) : Int))], [(0, (aMul (aAnd (aShr z ((n : Nat) : Int)) 1) (σ 12 n))), (0, (sumA (fun p => aMul (aAnd (aShr z ((p : Nat) : Int)) 1) (σ 12 p)) n))], σ)) rfl rfl ?_
    refine TT.steps (cd := cd141) 1 (c' := (19, [(2, 8), (0, z), (0, (sumA (fun p => aMul (aAnd (aShr z ((p : Nat) : Int)) 1) (σ 12 p)) n)), (0, ((n : Nat) : Int))], [(0, (aAdd (sumA (fun p => aMul (aAnd (aShr z ((p : Nat) : Int)) 1) (σ 12 p)) n) (aMul (aAnd (aShr z ((n : Nat) : Int)) 1) (σ 12 n))))], σ)) rfl rfl ?_
    refine TT.steps (cd := cd141) 1 (c' := (20, [(2, 8), (0, z), (0, (aAdd (sumA (fun p => aMul (aAnd (aShr z ((p : Nat) : Int)) 1) (σ 12 p)) n) (aMul (aAnd (aShr z ((n : Nat) : Int)) 1) (σ 12 n)))), (0, ((n : Nat) : Int))], [], σ)) rfl rfl ?_
    refine TT.inc (cd := cd141) ((n + 1 : Nat) : Int) rfl rfl rfl rfl (fun h => absurd h.2 (show ¬ (0 = 1) by decide)) (aAdd_n (a := n) (b := 1) (by omega)) (ls' := [(2, 8), (0, z), (0, (aAdd (sumA (fun p => aMul (aAnd (aShr z ((p : Nat) : Int)) 1) (σ 12 p)) n) (aMul (aAnd (aShr z ((n : Nat) : Int)) 1) (σ 12 n)))), (0, ((n + 1 : Nat) : Int))]) rfl ?_
    refine TT.steps (cd := cd141) 1 (c' := (4, [(2, 8), (0, z), (0, (aAdd (sumA (fun p => aMul (aAnd (aShr z ((p : Nat) : Int)) 1) (σ 12 p)) n) (aMul (aAnd (aShr z ((n : Nat) : Int)) 1) (σ 12 n)))), (0, ((n + 1 : Nat) : Int))], [], σ)) rfl rfl ?_
    have e2 : (aAdd (sumA (fun p => aMul (aAnd (aShr z ((p : Nat) : Int)) 1) (σ 12 p)) n) (aMul (aAnd (aShr z ((n : Nat) : Int)) 1) (σ 12 n))) = (sumA (fun p => aMul (aAnd (aShr z ((p : Nat) : Int)) 1) (σ 12 p)) (n + 1)) := by rfl
    rw [e2]
    clear e2
    have e3 : ((n + 1 : Nat) : Int) = (((n + 1) : Nat) : Int) := by omega
    rw [e3]
    clear e3
    exact ih (n + 1) (by omega)
theorem u_coin_8 (X : AX) (z : Int) (np : Nat) (σ : AH) (hc : σ 30 0 = (np : Int)) (hnp2 : np ≤ 10)  : TT X 141 (0, [(2, 8), (0, z), (9, 0), (9, 0)], [], σ) (fun r σ' => r = some (0, sumA (fun p => aMul (aAnd (aShr z ((p : Nat) : Int)) 1) (σ 12 p)) np) ∧ σ' = σ) := by
  refine TT.steps (cd := cd141) 4 (c' := (4, [(2, 8), (0, z), (0, 0), (0, 0)], [], σ)) rfl rfl ?_
  refine ul_coin_8 X _ z np σ hc hnp2 ?_ np 0 (by omega)
  refine TT.steps (cd := cd141) 1 (c' := (23, [(2, 8), (0, z), (0, (sumA (fun p => aMul (aAnd (aShr z ((p : Nat) : Int)) 1) (σ 12 p)) np)), (0, ((np : Nat) : Int))], [(0, (sumA (fun p => aMul (aAnd (aShr z ((p : Nat) : Int)) 1) (σ 12 p)) np))], σ)) rfl rfl ?_
  exact TT.ret (cd := cd141) rfl rfl rfl rfl (⟨rfl, rfl⟩)
theorem ul_cc1_8 (X : AX) (Q : Option AV → AH → Prop) (t a : Nat) (ha : a ≤ 1000) (lt : Nat) (C : Nat → Nat → Nat) (s : Int) (σ : AH) (ht6 : t < 6) (hlt2 : lt ≤ 8) (hlt : σ 15 t = (lt : Int)) (hC : ∀ k, k < lt → σ (17 + t) k = (C t k : Int))  (kk : TT X 139 (32, [(2, 8), (0, s), (0, ((a + cnt (fun k => decide ((C t k : Int) = s)) lt : Nat) : Int)), (0, ((t : Nat) : Int)), (0, ((lt : Nat) : Int))], [], σ) Q) : ∀ (d n : Nat), n + d = lt → TT X 139 (10, [(2, 8), (0, s), (0, ((a + cnt (fun k => decide ((C t k : Int) = s)) n : Nat) : Int)), (0, ((t : Nat) : Int)), (0, ((n : Nat) : Int))], [], σ) Q := by
  intro d
  induction d with
  | zero =>
    intro n hn
    have hnn : n = lt := by omega
    rw [hnn]
    have hcn := cnt_le (fun k => decide ((C t k : Int) = s)) n
    refine TT.steps (cd := cd139) 4 (c' := (14, [(2, 8), (0, s), (0, ((a + cnt (fun k => decide ((C t k : Int) = s)) lt : Nat) : Int)), (0, ((t : Nat) : Int)), (0, ((lt : Nat) : Int))], [(0, ((t : Nat) : Int)), (2, 15), (0, ((lt : Nat) : Int))], σ)) rfl rfl ?_
    refine TT.aldN (cd := cd139) (15) (t) rfl rfl rfl rfl (show t < 6 by omega) ?_
    refine TT.top0 (z := ((lt : Nat) : Int)) hlt ?_
    refine TT.steps (cd := cd139) 1 (c' := ((if decide (((lt : Nat) : Int) ≤ ((lt : Nat) : Int)) = true then 32 else 16), [(2, 8), (0, s), (0, ((a + cnt (fun k => decide ((C t k : Int) = s)) lt : Nat) : Int)), (0, ((t : Nat) : Int)), (0, ((lt : Nat) : Int))], [], σ)) rfl rfl ?_
    refine TT.br (p := ((lt : Nat) : Int) ≤ ((lt : Nat) : Int)) (fun h1 => ?_) (fun h1 => absurd (show ((lt : Nat) : Int) ≤ ((lt : Nat) : Int) by omega) h1)
    exact kk
  | succ d ih =>
    intro n hn
    have hcn := cnt_le (fun k => decide ((C t k : Int) = s)) n
    refine TT.steps (cd := cd139) 4 (c' := (14, [(2, 8), (0, s), (0, ((a + cnt (fun k => decide ((C t k : Int) = s)) n : Nat) : Int)), (0, ((t : Nat) : Int)), (0, ((n : Nat) : Int))], [(0, ((t : Nat) : Int)), (2, 15), (0, ((n : Nat) : Int))], σ)) rfl rfl ?_
    refine TT.aldN (cd := cd139) (15) (t) rfl rfl rfl rfl (show t < 6 by omega) ?_
    refine TT.top0 (z := ((lt : Nat) : Int)) hlt ?_
    refine TT.steps (cd := cd139) 1 (c' := ((if decide (((lt : Nat) : Int) ≤ ((n : Nat) : Int)) = true then 32 else 16), [(2, 8), (0, s), (0, ((a + cnt (fun k => decide ((C t k : Int) = s)) n : Nat) : Int)), (0, ((t : Nat) : Int)), (0, ((n : Nat) : Int))], [], σ)) rfl rfl ?_
    refine TT.br (p := ((lt : Nat) : Int) ≤ ((n : Nat) : Int)) (fun h1 => absurd h1 (show ¬ (((lt : Nat) : Int) ≤ ((n : Nat) : Int)) by omega)) (fun h1 => ?_)
    refine TT.steps (cd := cd139) 4 (c' := (20, [(2, 8), (0, s), (0, ((a + cnt (fun k => decide ((C t k : Int) = s)) n : Nat) : Int)), (0, ((t : Nat) : Int)), (0, ((n : Nat) : Int))], [(0, ((t : Nat) : Int)), (2, 16), (0, ((a + cnt (fun k => decide ((C t k : Int) = s)) n : Nat) : Int))], σ)) rfl rfl ?_
    refine TT.aaldN (cd := cd139) 16 (t) (17 + t) rfl rfl rfl (Or.inr rfl) (show t < 6 by omega) (fxg_16 t (by omega)) ?_
    refine TT.steps (cd := cd139) 1 (c' := (22, [(2, 8), (0, s), (0, ((a + cnt (fun k => decide ((C t k : Int) = s)) n : Nat) : Int)), (0, ((t : Nat) : Int)), (0, ((n : Nat) : Int))], [(0, ((n : Nat) : Int)), (2, ((17 + t : Nat) : Int)), (0, ((a + cnt (fun k => decide ((C t k : Int) = s)) n : Nat) : Int))], σ)) rfl rfl ?_
    refine TT.aldN (cd := cd139) (17 + t) (n) rfl rfl rfl (kdg_16 t (by omega)).1 (show n < ln (17 + t) by rw [(kdg_16 t (by omega)).2]; omega) ?_
    refine TT.top0 (z := (((C t n) : Nat) : Int)) (hC n (by omega)) ?_
    refine TT.steps (cd := cd139) 2 (c' := ((if decide (¬ (((C t n) : Nat) : Int) = s) = true then 27 else 25), [(2, 8), (0, s), (0, ((a + cnt (fun k => decide ((C t k : Int) = s)) n : Nat) : Int)), (0, ((t : Nat) : Int)), (0, ((n : Nat) : Int))], [(0, ((a + cnt (fun k => decide ((C t k : Int) = s)) n : Nat) : Int))], σ)) rfl rfl ?_
    refine TT.br (p := ¬ (((C t n) : Nat) : Int) = s) (fun h2 => ?_) (fun h2 => ?_)
    · refine TT.steps (cd := cd139) 2 (c' := (29, [(2, 8), (0, s), (0, ((a + cnt (fun k => decide ((C t k : Int) = s)) n : Nat) : Int)), (0, ((t : Nat) : Int)), (0, ((n : Nat) : Int))], [(0, (aAdd ((a + cnt (fun k => decide ((C t k : Int) = s)) n : Nat) : Int) 0))], σ)) rfl rfl ?_
      refine TT.top0 (z := (((a + cnt (fun k => decide ((C t k : Int) = s)) n) + 0 : Nat) : Int)) (aAdd_n (a := a + cnt (fun k => decide ((C t k : Int) = s)) n) (b := 0) (by omega)) ?_
      refine TT.steps (cd := cd139) 1 (c' := (30, [(2, 8), (0, s), (0, (((a + cnt (fun k => decide ((C t k : Int) = s)) n) + 0 : Nat) : Int)), (0, ((t : Nat) : Int)), (0, ((n : Nat) : Int))], [], σ)) rfl rfl ?_
      refine TT.inc (cd := cd139) ((n + 1 : Nat) : Int) rfl rfl rfl rfl (fun h => absurd h.2 (show ¬ (0 = 1) by decide)) (aAdd_n (a := n) (b := 1) (by omega)) (ls' := [(2, 8), (0, s), (0, (((a + cnt (fun k => decide ((C t k : Int) = s)) n) + 0 : Nat) : Int)), (0, ((t : Nat) : Int)), (0, ((n + 1 : Nat) : Int))]) rfl ?_
      refine TT.steps (cd := cd139) 1 (c' := (10, [(2, 8), (0, s), (0, (((a + cnt (fun k => decide ((C t k : Int) = s)) n) + 0 : Nat) : Int)), (0, ((t : Nat) : Int)), (0, ((n + 1 : Nat) : Int))], [], σ)) rfl rfl ?_
      have e2 : (((a + cnt (fun k => decide ((C t k : Int) = s)) n) + 0 : Nat) : Int) = ((a + cnt (fun k => decide ((C t k : Int) = s)) (n + 1) : Nat) : Int) := by first | (rw [cnt, show decide ((C t n : Int) = s) = true from decide_eq_true (by omega)]; simp; done) | (rw [cnt, show decide ((C t n : Int) = s) = true from decide_eq_true (by omega)]; simp; omega) | (rw [cnt, show decide ((C t n : Int) = s) = false from decide_eq_false (by omega)]; simp)
      rw [e2]
      clear e2
      have e4 : ((n + 1 : Nat) : Int) = (((n + 1) : Nat) : Int) := by omega
      rw [e4]
      clear e4
      exact ih (n + 1) (by omega)
    · refine TT.steps (cd := cd139) 3 (c' := (29, [(2, 8), (0, s), (0, ((a + cnt (fun k => decide ((C t k : Int) = s)) n : Nat) : Int)), (0, ((t : Nat) : Int)), (0, ((n : Nat) : Int))], [(0, (aAdd ((a + cnt (fun k => decide ((C t k : Int) = s)) n : Nat) : Int) 1))], σ)) rfl rfl ?_
      refine TT.top0 (z := (((a + cnt (fun k => decide ((C t k : Int) = s)) n) + 1 : Nat) : Int)) (aAdd_n (a := a + cnt (fun k => decide ((C t k : Int) = s)) n) (b := 1) (by omega)) ?_
      refine TT.steps (cd := cd139) 1 (c' := (30, [(2, 8), (0, s), (0, (((a + cnt (fun k => decide ((C t k : Int) = s)) n) + 1 : Nat) : Int)), (0, ((t : Nat) : Int)), (0, ((n : Nat) : Int))], [], σ)) rfl rfl ?_
      refine TT.inc (cd := cd139) ((n + 1 : Nat) : Int) rfl rfl rfl rfl (fun h => absurd h.2 (show ¬ (0 = 1) by decide)) (aAdd_n (a := n) (b := 1) (by omega)) (ls' := [(2, 8), (0, s), (0, (((a + cnt (fun k => decide ((C t k : Int) = s)) n) + 1 : Nat) : Int)), (0, ((t : Nat) : Int)), (0, ((n + 1 : Nat) : Int))]) rfl ?_
      refine TT.steps (cd := cd139) 1 (c' := (10, [(2, 8), (0, s), (0, (((a + cnt (fun k => decide ((C t k : Int) = s)) n) + 1 : Nat) : Int)), (0, ((t : Nat) : Int)), (0, ((n + 1 : Nat) : Int))], [], σ)) rfl rfl ?_
      have e2 : (((a + cnt (fun k => decide ((C t k : Int) = s)) n) + 1 : Nat) : Int) = ((a + cnt (fun k => decide ((C t k : Int) = s)) (n + 1) : Nat) : Int) := by first | (rw [cnt, show decide ((C t n : Int) = s) = true from decide_eq_true (by omega)]; simp; done) | (rw [cnt, show decide ((C t n : Int) = s) = true from decide_eq_true (by omega)]; simp; omega) | (rw [cnt, show decide ((C t n : Int) = s) = false from decide_eq_false (by omega)]; simp)
      rw [e2]
      clear e2
      have e4 : ((n + 1 : Nat) : Int) = (((n + 1) : Nat) : Int) := by omega
      rw [e4]
      clear e4
      exact ih (n + 1) (by omega)
theorem ul_cc2_8 (X : AX) (Q : Option AV → AH → Prop) (nt : Nat) (L : Nat → Nat) (C : Nat → Nat → Nat) (s : Int) (σ : AH) (hnt : σ 8 2 = (nt : Int)) (hnt2 : nt ≤ 6) (hL : ∀ t, t < nt → σ 15 t = (L t : Int) ∧ L t ≤ 8) (hC : ∀ t k, t < nt → k < L t → σ (17 + t) k = (C t k : Int)) (kk : ∀ y : AV, TT X 139 (34, [(2, 8), (0, s), (0, ((ccT (fun t k => decide ((C t k : Int) = s)) L nt : Nat) : Int)), (0, ((nt : Nat) : Int)), y], [], σ) Q) : ∀ (d n : Nat), n + d = nt → ∀ y : AV, TT X 139 (4, [(2, 8), (0, s), (0, ((ccT (fun t k => decide ((C t k : Int) = s)) L n : Nat) : Int)), (0, ((n : Nat) : Int)), y], [], σ) Q := by
  intro d
  induction d with
  | zero =>
    intro n hn y
    have hnn : n = nt := by omega
    subst hnn
    refine TT.steps (cd := cd139) 3 (c' := (7, [(2, 8), (0, s), (0, ((ccT (fun t k => decide ((C t k : Int) = s)) L n : Nat) : Int)), (0, ((n : Nat) : Int)), y], [(0, (σ 8 2)), (0, ((n : Nat) : Int))], σ)) rfl rfl ?_
    refine TT.top0 (z := ((n : Nat) : Int)) hnt ?_
    refine TT.steps (cd := cd139) 1 (c' := ((if decide (((n : Nat) : Int) ≤ ((n : Nat) : Int)) = true then 34 else 8), [(2, 8), (0, s), (0, ((ccT (fun t k => decide ((C t k : Int) = s)) L n : Nat) : Int)), (0, ((n : Nat) : Int)), y], [], σ)) rfl rfl ?_
    refine TT.br (p := ((n : Nat) : Int) ≤ ((n : Nat) : Int)) (fun h1 => ?_) (fun h1 => absurd (show ((n : Nat) : Int) ≤ ((n : Nat) : Int) by omega) h1)
    exact kk y
  | succ d ih =>
    intro n hn y
    refine TT.steps (cd := cd139) 3 (c' := (7, [(2, 8), (0, s), (0, ((ccT (fun t k => decide ((C t k : Int) = s)) L n : Nat) : Int)), (0, ((n : Nat) : Int)), y], [(0, (σ 8 2)), (0, ((n : Nat) : Int))], σ)) rfl rfl ?_
    refine TT.top0 (z := ((nt : Nat) : Int)) hnt ?_
    refine TT.steps (cd := cd139) 1 (c' := ((if decide (((nt : Nat) : Int) ≤ ((n : Nat) : Int)) = true then 34 else 8), [(2, 8), (0, s), (0, ((ccT (fun t k => decide ((C t k : Int) = s)) L n : Nat) : Int)), (0, ((n : Nat) : Int)), y], [], σ)) rfl rfl ?_
    refine TT.br (p := ((nt : Nat) : Int) ≤ ((n : Nat) : Int)) (fun h1 => absurd h1 (show ¬ (((nt : Nat) : Int) ≤ ((n : Nat) : Int)) by omega)) (fun h1 => ?_)
    refine TT.steps (cd := cd139) 2 (c' := (10, [(2, 8), (0, s), (0, ((ccT (fun t k => decide ((C t k : Int) = s)) L n : Nat) : Int)), (0, ((n : Nat) : Int)), (0, 0)], [], σ)) rfl rfl ?_
    have hc8 := ccT_le (fun t k => decide ((C t k : Int) = s)) L n (fun t ht => (hL t (by omega)).2)
    refine ul_cc1_8 X _ n (ccT (fun t k => decide ((C t k : Int) = s)) L n) (by omega) (L n) C s σ (by omega) (hL n (by omega)).2 (hL n (by omega)).1 (fun k hk => hC n k (by omega) hk) ?_ (L n) 0 (by omega)
    refine TT.inc (cd := cd139) ((n + 1 : Nat) : Int) rfl rfl rfl rfl (fun h => absurd h.2 (show ¬ (0 = 1) by decide)) (aAdd_n (a := n) (b := 1) (by omega)) (ls' := [(2, 8), (0, s), (0, ((ccT (fun t k => decide ((C t k : Int) = s)) L n + cnt (fun k => decide ((C n k : Int) = s)) (L n) : Nat) : Int)), (0, ((n + 1 : Nat) : Int)), (0, (((L n) : Nat) : Int))]) rfl ?_
    refine TT.steps (cd := cd139) 1 (c' := (4, [(2, 8), (0, s), (0, ((ccT (fun t k => decide ((C t k : Int) = s)) L n + cnt (fun k => decide ((C n k : Int) = s)) (L n) : Nat) : Int)), (0, ((n + 1 : Nat) : Int)), (0, (((L n) : Nat) : Int))], [], σ)) rfl rfl ?_
    exact ih (n + 1) (by omega) _
theorem u_countCalls_8 (X : AX) (nt : Nat) (L : Nat → Nat) (C : Nat → Nat → Nat) (s : Int) (σ : AH) (hnt : σ 8 2 = (nt : Int)) (hnt2 : nt ≤ 6) (hL : ∀ t, t < nt → σ 15 t = (L t : Int) ∧ L t ≤ 8) (hC : ∀ t k, t < nt → k < L t → σ (17 + t) k = (C t k : Int))  : TT X 139 (0, [(2, 8), (0, s), (9, 0), (9, 0), (9, 0)], [], σ) (fun r σ' => r = some (0, ((ccT (fun t k => decide ((C t k : Int) = s)) L nt : Nat) : Int)) ∧ σ' = σ) := by
  refine TT.steps (cd := cd139) 4 (c' := (4, [(2, 8), (0, s), (0, 0), (0, 0), (9, 0)], [], σ)) rfl rfl ?_
  refine ul_cc2_8 X _ nt L C s σ hnt hnt2 hL hC (fun y => ?_) nt 0 (by omega) _
  refine TT.steps (cd := cd139) 1 (c' := (35, [(2, 8), (0, s), (0, ((ccT (fun t k => decide ((C t k : Int) = s)) L nt : Nat) : Int)), (0, ((nt : Nat) : Int)), y], [(0, ((ccT (fun t k => decide ((C t k : Int) = s)) L nt : Nat) : Int))], σ)) rfl rfl ?_
  exact TT.ret (cd := cd139) rfl rfl rfl rfl (⟨rfl, rfl⟩)
theorem ul_priced_170 (X : AX) (Q : Option AV → AH → Prop) (np : Nat) (σ : AH) (hc : σ 192 0 = (np : Int)) (hnp2 : np ≤ 10)  (kk : TT X 140 (24, [(2, 170), (0, ((bs (fun p => decide (0 < σ 174 p)) np : Nat) : Int)), (0, ((np : Nat) : Int))], [], σ) Q) : ∀ (d n : Nat), n + d = np → TT X 140 (4, [(2, 170), (0, ((bs (fun p => decide (0 < σ 174 p)) n : Nat) : Int)), (0, ((n : Nat) : Int))], [], σ) Q := by
  intro d
  induction d with
  | zero =>
    intro n hn
    have hnn : n = np := by omega
    rw [hnn]
    refine TT.steps (cd := cd140) 4 (c' := (8, [(2, 170), (0, ((bs (fun p => decide (0 < σ 174 p)) np : Nat) : Int)), (0, ((np : Nat) : Int))], [(0, (σ 192 0)), (0, ((np : Nat) : Int))], σ)) rfl rfl ?_
    refine TT.top0 (z := ((np : Nat) : Int)) hc ?_
    refine TT.steps (cd := cd140) 1 (c' := ((if decide (((np : Nat) : Int) ≤ ((np : Nat) : Int)) = true then 24 else 9), [(2, 170), (0, ((bs (fun p => decide (0 < σ 174 p)) np : Nat) : Int)), (0, ((np : Nat) : Int))], [], σ)) rfl rfl ?_
    refine TT.br (p := ((np : Nat) : Int) ≤ ((np : Nat) : Int)) (fun h1 => ?_) (fun h1 => absurd (show ((np : Nat) : Int) ≤ ((np : Nat) : Int) by omega) h1)
    exact kk
  | succ d ih =>
    intro n hn
    refine TT.steps (cd := cd140) 4 (c' := (8, [(2, 170), (0, ((bs (fun p => decide (0 < σ 174 p)) n : Nat) : Int)), (0, ((n : Nat) : Int))], [(0, (σ 192 0)), (0, ((n : Nat) : Int))], σ)) rfl rfl ?_
    refine TT.top0 (z := ((np : Nat) : Int)) hc ?_
    refine TT.steps (cd := cd140) 1 (c' := ((if decide (((np : Nat) : Int) ≤ ((n : Nat) : Int)) = true then 24 else 9), [(2, 170), (0, ((bs (fun p => decide (0 < σ 174 p)) n : Nat) : Int)), (0, ((n : Nat) : Int))], [], σ)) rfl rfl ?_
    refine TT.br (p := ((np : Nat) : Int) ≤ ((n : Nat) : Int)) (fun h1 => absurd h1 (show ¬ (((np : Nat) : Int) ≤ ((n : Nat) : Int)) by omega)) (fun h1 => ?_)
    refine TT.steps (cd := cd140) 4 (c' := (13, [(2, 170), (0, ((bs (fun p => decide (0 < σ 174 p)) n : Nat) : Int)), (0, ((n : Nat) : Int))], [(0, ((n : Nat) : Int)), (2, 174), (0, ((bs (fun p => decide (0 < σ 174 p)) n : Nat) : Int))], σ)) rfl rfl ?_
    refine TT.aldN (cd := cd140) (174) (n) rfl rfl rfl rfl (show n < 10 by omega) ?_
    refine TT.steps (cd := cd140) 1 (c' := ((if decide ((σ 174 n) ≤ 0) = true then 19 else 15), [(2, 170), (0, ((bs (fun p => decide (0 < σ 174 p)) n : Nat) : Int)), (0, ((n : Nat) : Int))], [(0, ((bs (fun p => decide (0 < σ 174 p)) n : Nat) : Int))], σ)) rfl rfl ?_
    refine TT.br (p := (σ 174 n) ≤ 0) (fun h2 => ?_) (fun h2 => ?_)
    · refine TT.steps (cd := cd140) 3 (c' := (22, [(2, 170), (0, (aOr ((bs (fun p => decide (0 < σ 174 p)) n : Nat) : Int) 0)), (0, ((n : Nat) : Int))], [], σ)) rfl rfl ?_
      refine TT.inc (cd := cd140) ((n + 1 : Nat) : Int) rfl rfl rfl rfl (fun h => absurd h.2 (show ¬ (0 = 1) by decide)) (aAdd_n (a := n) (b := 1) (by omega)) (ls' := [(2, 170), (0, (aOr ((bs (fun p => decide (0 < σ 174 p)) n : Nat) : Int) 0)), (0, ((n + 1 : Nat) : Int))]) rfl ?_
      refine TT.steps (cd := cd140) 1 (c' := (4, [(2, 170), (0, (aOr ((bs (fun p => decide (0 < σ 174 p)) n : Nat) : Int) 0)), (0, ((n + 1 : Nat) : Int))], [], σ)) rfl rfl ?_
      have e1 : (aOr ((bs (fun p => decide (0 < σ 174 p)) n : Nat) : Int) 0) = ((bs (fun p => decide (0 < σ 174 p)) (n + 1) : Nat) : Int) := by first | exact bs_t (decide_eq_true (by omega)) (by omega) | exact bs_z (decide_eq_false (by omega)) (by omega)
      rw [e1]
      clear e1
      have e2 : ((n + 1 : Nat) : Int) = (((n + 1) : Nat) : Int) := by omega
      rw [e2]
      clear e2
      exact ih (n + 1) (by omega)
    · refine TT.steps (cd := cd140) 6 (c' := (22, [(2, 170), (0, (aOr ((bs (fun p => decide (0 < σ 174 p)) n : Nat) : Int) (aShl 1 ((n : Nat) : Int)))), (0, ((n : Nat) : Int))], [], σ)) rfl rfl ?_
      refine TT.inc (cd := cd140) ((n + 1 : Nat) : Int) rfl rfl rfl rfl (fun h => absurd h.2 (show ¬ (0 = 1) by decide)) (aAdd_n (a := n) (b := 1) (by omega)) (ls' := [(2, 170), (0, (aOr ((bs (fun p => decide (0 < σ 174 p)) n : Nat) : Int) (aShl 1 ((n : Nat) : Int)))), (0, ((n + 1 : Nat) : Int))]) rfl ?_
      refine TT.steps (cd := cd140) 1 (c' := (4, [(2, 170), (0, (aOr ((bs (fun p => decide (0 < σ 174 p)) n : Nat) : Int) (aShl 1 ((n : Nat) : Int)))), (0, ((n + 1 : Nat) : Int))], [], σ)) rfl rfl ?_
      have e1 : (aOr ((bs (fun p => decide (0 < σ 174 p)) n : Nat) : Int) (aShl 1 ((n : Nat) : Int))) = ((bs (fun p => decide (0 < σ 174 p)) (n + 1) : Nat) : Int) := by first | exact bs_t (decide_eq_true (by omega)) (by omega) | exact bs_z (decide_eq_false (by omega)) (by omega)
      rw [e1]
      clear e1
      have e2 : ((n + 1 : Nat) : Int) = (((n + 1) : Nat) : Int) := by omega
      rw [e2]
      clear e2
      exact ih (n + 1) (by omega)
theorem u_priced_170 (X : AX) (np : Nat) (σ : AH) (hc : σ 192 0 = (np : Int)) (hnp2 : np ≤ 10)  : TT X 140 (0, [(2, 170), (9, 0), (9, 0)], [], σ) (fun r σ' => r = some (0, ((bs (fun p => decide (0 < σ 174 p)) np : Nat) : Int)) ∧ σ' = σ) := by
  refine TT.steps (cd := cd140) 4 (c' := (4, [(2, 170), (0, 0), (0, 0)], [], σ)) rfl rfl ?_
  refine ul_priced_170 X _ np σ hc hnp2 ?_ np 0 (by omega)
  refine TT.steps (cd := cd140) 1 (c' := (25, [(2, 170), (0, ((bs (fun p => decide (0 < σ 174 p)) np : Nat) : Int)), (0, ((np : Nat) : Int))], [(0, ((bs (fun p => decide (0 < σ 174 p)) np : Nat) : Int))], σ)) rfl rfl ?_
  exact TT.ret (cd := cd140) rfl rfl rfl rfl (⟨rfl, rfl⟩)
theorem ul_coin_170 (X : AX) (Q : Option AV → AH → Prop) (z : Int) (np : Nat) (σ : AH) (hc : σ 192 0 = (np : Int)) (hnp2 : np ≤ 10)  (kk : TT X 141 (22, [(2, 170), (0, z), (0, (sumA (fun p => aMul (aAnd (aShr z ((p : Nat) : Int)) 1) (σ 174 p)) np)), (0, ((np : Nat) : Int))], [], σ) Q) : ∀ (d n : Nat), n + d = np → TT X 141 (4, [(2, 170), (0, z), (0, (sumA (fun p => aMul (aAnd (aShr z ((p : Nat) : Int)) 1) (σ 174 p)) n)), (0, ((n : Nat) : Int))], [], σ) Q := by
  intro d
  induction d with
  | zero =>
    intro n hn
    have hnn : n = np := by omega
    rw [hnn]
    refine TT.steps (cd := cd141) 4 (c' := (8, [(2, 170), (0, z), (0, (sumA (fun p => aMul (aAnd (aShr z ((p : Nat) : Int)) 1) (σ 174 p)) np)), (0, ((np : Nat) : Int))], [(0, (σ 192 0)), (0, ((np : Nat) : Int))], σ)) rfl rfl ?_
    refine TT.top0 (z := ((np : Nat) : Int)) hc ?_
    refine TT.steps (cd := cd141) 1 (c' := ((if decide (((np : Nat) : Int) ≤ ((np : Nat) : Int)) = true then 22 else 9), [(2, 170), (0, z), (0, (sumA (fun p => aMul (aAnd (aShr z ((p : Nat) : Int)) 1) (σ 174 p)) np)), (0, ((np : Nat) : Int))], [], σ)) rfl rfl ?_
    refine TT.br (p := ((np : Nat) : Int) ≤ ((np : Nat) : Int)) (fun h1 => ?_) (fun h1 => absurd (show ((np : Nat) : Int) ≤ ((np : Nat) : Int) by omega) h1)
    exact kk
  | succ d ih =>
    intro n hn
    refine TT.steps (cd := cd141) 4 (c' := (8, [(2, 170), (0, z), (0, (sumA (fun p => aMul (aAnd (aShr z ((p : Nat) : Int)) 1) (σ 174 p)) n)), (0, ((n : Nat) : Int))], [(0, (σ 192 0)), (0, ((n : Nat) : Int))], σ)) rfl rfl ?_
    refine TT.top0 (z := ((np : Nat) : Int)) hc ?_
    refine TT.steps (cd := cd141) 1 (c' := ((if decide (((np : Nat) : Int) ≤ ((n : Nat) : Int)) = true then 22 else 9), [(2, 170), (0, z), (0, (sumA (fun p => aMul (aAnd (aShr z ((p : Nat) : Int)) 1) (σ 174 p)) n)), (0, ((n : Nat) : Int))], [], σ)) rfl rfl ?_
    refine TT.br (p := ((np : Nat) : Int) ≤ ((n : Nat) : Int)) (fun h1 => absurd h1 (show ¬ (((np : Nat) : Int) ≤ ((n : Nat) : Int)) by omega)) (fun h1 => ?_)
    refine TT.steps (cd := cd141) 3 (c' := (12, [(2, 170), (0, z), (0, (sumA (fun p => aMul (aAnd (aShr z ((p : Nat) : Int)) 1) (σ 174 p)) n)), (0, ((n : Nat) : Int))], [(0, ((n : Nat) : Int)), (0, z), (0, (sumA (fun p => aMul (aAnd (aShr z ((p : Nat) : Int)) 1) (σ 174 p)) n))], σ)) rfl rfl ?_
    refine TT.call (cd := cd141) rfl rfl rfl (by decide) rfl (u_bit X z ((n : Nat) : Int) σ) (fun r2 σ2 hq => ?_)
    rw [hq.1, hq.2]
    refine TT.steps (cd := cd141) 3 (c' := (16, [(2, 170), (0, z), (0, (sumA (fun p => aMul (aAnd (aShr z ((p : Nat) : Int)) 1) (σ 174 p)) n)), (0, ((n : Nat) : Int))], [(0, ((n : Nat) : Int)), (2, 174), (0, (aAnd (aShr z ((n : Nat) : Int)) 1)), (0, (sumA (fun p => aMul (aAnd (aShr z ((p : Nat) : Int)) 1) (σ 174 p)) n))], σ)) rfl rfl ?_
    refine TT.aldN (cd := cd141) (174) (n) rfl rfl rfl rfl (show n < 10 by omega) ?_
    refine TT.steps (cd := cd141) 1 (c' := (18, [(2, 170), (0, z), (0, (sumA (fun p => aMul (aAnd (aShr z ((p : Nat) : Int)) 1) (σ 174 p)) n)), (0, ((n : Nat) : Int))], [(0, (aMul (aAnd (aShr z ((n : Nat) : Int)) 1) (σ 174 n))), (0, (sumA (fun p => aMul (aAnd (aShr z ((p : Nat) : Int)) 1) (σ 174 p)) n))], σ)) rfl rfl ?_
    refine TT.steps (cd := cd141) 1 (c' := (19, [(2, 170), (0, z), (0, (sumA (fun p => aMul (aAnd (aShr z ((p : Nat) : Int)) 1) (σ 174 p)) n)), (0, ((n : Nat) : Int))], [(0, (aAdd (sumA (fun p => aMul (aAnd (aShr z ((p : Nat) : Int)) 1) (σ 174 p)) n) (aMul (aAnd (aShr z ((n : Nat) : Int)) 1) (σ 174 n))))], σ)) rfl rfl ?_
    refine TT.steps (cd := cd141) 1 (c' := (20, [(2, 170), (0, z), (0, (aAdd (sumA (fun p => aMul (aAnd (aShr z ((p : Nat) : Int)) 1) (σ 174 p)) n) (aMul (aAnd (aShr z ((n : Nat) : Int)) 1) (σ 174 n)))), (0, ((n : Nat) : Int))], [], σ)) rfl rfl ?_
    refine TT.inc (cd := cd141) ((n + 1 : Nat) : Int) rfl rfl rfl rfl (fun h => absurd h.2 (show ¬ (0 = 1) by decide)) (aAdd_n (a := n) (b := 1) (by omega)) (ls' := [(2, 170), (0, z), (0, (aAdd (sumA (fun p => aMul (aAnd (aShr z ((p : Nat) : Int)) 1) (σ 174 p)) n) (aMul (aAnd (aShr z ((n : Nat) : Int)) 1) (σ 174 n)))), (0, ((n + 1 : Nat) : Int))]) rfl ?_
    refine TT.steps (cd := cd141) 1 (c' := (4, [(2, 170), (0, z), (0, (aAdd (sumA (fun p => aMul (aAnd (aShr z ((p : Nat) : Int)) 1) (σ 174 p)) n) (aMul (aAnd (aShr z ((n : Nat) : Int)) 1) (σ 174 n)))), (0, ((n + 1 : Nat) : Int))], [], σ)) rfl rfl ?_
    have e2 : (aAdd (sumA (fun p => aMul (aAnd (aShr z ((p : Nat) : Int)) 1) (σ 174 p)) n) (aMul (aAnd (aShr z ((n : Nat) : Int)) 1) (σ 174 n))) = (sumA (fun p => aMul (aAnd (aShr z ((p : Nat) : Int)) 1) (σ 174 p)) (n + 1)) := by rfl
    rw [e2]
    clear e2
    have e3 : ((n + 1 : Nat) : Int) = (((n + 1) : Nat) : Int) := by omega
    rw [e3]
    clear e3
    exact ih (n + 1) (by omega)
theorem u_coin_170 (X : AX) (z : Int) (np : Nat) (σ : AH) (hc : σ 192 0 = (np : Int)) (hnp2 : np ≤ 10)  : TT X 141 (0, [(2, 170), (0, z), (9, 0), (9, 0)], [], σ) (fun r σ' => r = some (0, sumA (fun p => aMul (aAnd (aShr z ((p : Nat) : Int)) 1) (σ 174 p)) np) ∧ σ' = σ) := by
  refine TT.steps (cd := cd141) 4 (c' := (4, [(2, 170), (0, z), (0, 0), (0, 0)], [], σ)) rfl rfl ?_
  refine ul_coin_170 X _ z np σ hc hnp2 ?_ np 0 (by omega)
  refine TT.steps (cd := cd141) 1 (c' := (23, [(2, 170), (0, z), (0, (sumA (fun p => aMul (aAnd (aShr z ((p : Nat) : Int)) 1) (σ 174 p)) np)), (0, ((np : Nat) : Int))], [(0, (sumA (fun p => aMul (aAnd (aShr z ((p : Nat) : Int)) 1) (σ 174 p)) np))], σ)) rfl rfl ?_
  exact TT.ret (cd := cd141) rfl rfl rfl rfl (⟨rfl, rfl⟩)
theorem ul_cc1_170 (X : AX) (Q : Option AV → AH → Prop) (t a : Nat) (ha : a ≤ 1000) (lt : Nat) (C : Nat → Nat → Nat) (s : Int) (σ : AH) (ht6 : t < 6) (hlt2 : lt ≤ 8) (hlt : σ 177 t = (lt : Int)) (hC : ∀ k, k < lt → σ (179 + t) k = (C t k : Int))  (kk : TT X 139 (32, [(2, 170), (0, s), (0, ((a + cnt (fun k => decide ((C t k : Int) = s)) lt : Nat) : Int)), (0, ((t : Nat) : Int)), (0, ((lt : Nat) : Int))], [], σ) Q) : ∀ (d n : Nat), n + d = lt → TT X 139 (10, [(2, 170), (0, s), (0, ((a + cnt (fun k => decide ((C t k : Int) = s)) n : Nat) : Int)), (0, ((t : Nat) : Int)), (0, ((n : Nat) : Int))], [], σ) Q := by
  intro d
  induction d with
  | zero =>
    intro n hn
    have hnn : n = lt := by omega
    rw [hnn]
    have hcn := cnt_le (fun k => decide ((C t k : Int) = s)) n
    refine TT.steps (cd := cd139) 4 (c' := (14, [(2, 170), (0, s), (0, ((a + cnt (fun k => decide ((C t k : Int) = s)) lt : Nat) : Int)), (0, ((t : Nat) : Int)), (0, ((lt : Nat) : Int))], [(0, ((t : Nat) : Int)), (2, 177), (0, ((lt : Nat) : Int))], σ)) rfl rfl ?_
    refine TT.aldN (cd := cd139) (177) (t) rfl rfl rfl rfl (show t < 6 by omega) ?_
    refine TT.top0 (z := ((lt : Nat) : Int)) hlt ?_
    refine TT.steps (cd := cd139) 1 (c' := ((if decide (((lt : Nat) : Int) ≤ ((lt : Nat) : Int)) = true then 32 else 16), [(2, 170), (0, s), (0, ((a + cnt (fun k => decide ((C t k : Int) = s)) lt : Nat) : Int)), (0, ((t : Nat) : Int)), (0, ((lt : Nat) : Int))], [], σ)) rfl rfl ?_
    refine TT.br (p := ((lt : Nat) : Int) ≤ ((lt : Nat) : Int)) (fun h1 => ?_) (fun h1 => absurd (show ((lt : Nat) : Int) ≤ ((lt : Nat) : Int) by omega) h1)
    exact kk
  | succ d ih =>
    intro n hn
    have hcn := cnt_le (fun k => decide ((C t k : Int) = s)) n
    refine TT.steps (cd := cd139) 4 (c' := (14, [(2, 170), (0, s), (0, ((a + cnt (fun k => decide ((C t k : Int) = s)) n : Nat) : Int)), (0, ((t : Nat) : Int)), (0, ((n : Nat) : Int))], [(0, ((t : Nat) : Int)), (2, 177), (0, ((n : Nat) : Int))], σ)) rfl rfl ?_
    refine TT.aldN (cd := cd139) (177) (t) rfl rfl rfl rfl (show t < 6 by omega) ?_
    refine TT.top0 (z := ((lt : Nat) : Int)) hlt ?_
    refine TT.steps (cd := cd139) 1 (c' := ((if decide (((lt : Nat) : Int) ≤ ((n : Nat) : Int)) = true then 32 else 16), [(2, 170), (0, s), (0, ((a + cnt (fun k => decide ((C t k : Int) = s)) n : Nat) : Int)), (0, ((t : Nat) : Int)), (0, ((n : Nat) : Int))], [], σ)) rfl rfl ?_
    refine TT.br (p := ((lt : Nat) : Int) ≤ ((n : Nat) : Int)) (fun h1 => absurd h1 (show ¬ (((lt : Nat) : Int) ≤ ((n : Nat) : Int)) by omega)) (fun h1 => ?_)
    refine TT.steps (cd := cd139) 4 (c' := (20, [(2, 170), (0, s), (0, ((a + cnt (fun k => decide ((C t k : Int) = s)) n : Nat) : Int)), (0, ((t : Nat) : Int)), (0, ((n : Nat) : Int))], [(0, ((t : Nat) : Int)), (2, 178), (0, ((a + cnt (fun k => decide ((C t k : Int) = s)) n : Nat) : Int))], σ)) rfl rfl ?_
    refine TT.aaldN (cd := cd139) 178 (t) (179 + t) rfl rfl rfl (Or.inr rfl) (show t < 6 by omega) (fxg_178 t (by omega)) ?_
    refine TT.steps (cd := cd139) 1 (c' := (22, [(2, 170), (0, s), (0, ((a + cnt (fun k => decide ((C t k : Int) = s)) n : Nat) : Int)), (0, ((t : Nat) : Int)), (0, ((n : Nat) : Int))], [(0, ((n : Nat) : Int)), (2, ((179 + t : Nat) : Int)), (0, ((a + cnt (fun k => decide ((C t k : Int) = s)) n : Nat) : Int))], σ)) rfl rfl ?_
    refine TT.aldN (cd := cd139) (179 + t) (n) rfl rfl rfl (kdg_178 t (by omega)).1 (show n < ln (179 + t) by rw [(kdg_178 t (by omega)).2]; omega) ?_
    refine TT.top0 (z := (((C t n) : Nat) : Int)) (hC n (by omega)) ?_
    refine TT.steps (cd := cd139) 2 (c' := ((if decide (¬ (((C t n) : Nat) : Int) = s) = true then 27 else 25), [(2, 170), (0, s), (0, ((a + cnt (fun k => decide ((C t k : Int) = s)) n : Nat) : Int)), (0, ((t : Nat) : Int)), (0, ((n : Nat) : Int))], [(0, ((a + cnt (fun k => decide ((C t k : Int) = s)) n : Nat) : Int))], σ)) rfl rfl ?_
    refine TT.br (p := ¬ (((C t n) : Nat) : Int) = s) (fun h2 => ?_) (fun h2 => ?_)
    · refine TT.steps (cd := cd139) 2 (c' := (29, [(2, 170), (0, s), (0, ((a + cnt (fun k => decide ((C t k : Int) = s)) n : Nat) : Int)), (0, ((t : Nat) : Int)), (0, ((n : Nat) : Int))], [(0, (aAdd ((a + cnt (fun k => decide ((C t k : Int) = s)) n : Nat) : Int) 0))], σ)) rfl rfl ?_
      refine TT.top0 (z := (((a + cnt (fun k => decide ((C t k : Int) = s)) n) + 0 : Nat) : Int)) (aAdd_n (a := a + cnt (fun k => decide ((C t k : Int) = s)) n) (b := 0) (by omega)) ?_
      refine TT.steps (cd := cd139) 1 (c' := (30, [(2, 170), (0, s), (0, (((a + cnt (fun k => decide ((C t k : Int) = s)) n) + 0 : Nat) : Int)), (0, ((t : Nat) : Int)), (0, ((n : Nat) : Int))], [], σ)) rfl rfl ?_
      refine TT.inc (cd := cd139) ((n + 1 : Nat) : Int) rfl rfl rfl rfl (fun h => absurd h.2 (show ¬ (0 = 1) by decide)) (aAdd_n (a := n) (b := 1) (by omega)) (ls' := [(2, 170), (0, s), (0, (((a + cnt (fun k => decide ((C t k : Int) = s)) n) + 0 : Nat) : Int)), (0, ((t : Nat) : Int)), (0, ((n + 1 : Nat) : Int))]) rfl ?_
      refine TT.steps (cd := cd139) 1 (c' := (10, [(2, 170), (0, s), (0, (((a + cnt (fun k => decide ((C t k : Int) = s)) n) + 0 : Nat) : Int)), (0, ((t : Nat) : Int)), (0, ((n + 1 : Nat) : Int))], [], σ)) rfl rfl ?_
      have e2 : (((a + cnt (fun k => decide ((C t k : Int) = s)) n) + 0 : Nat) : Int) = ((a + cnt (fun k => decide ((C t k : Int) = s)) (n + 1) : Nat) : Int) := by first | (rw [cnt, show decide ((C t n : Int) = s) = true from decide_eq_true (by omega)]; simp; done) | (rw [cnt, show decide ((C t n : Int) = s) = true from decide_eq_true (by omega)]; simp; omega) | (rw [cnt, show decide ((C t n : Int) = s) = false from decide_eq_false (by omega)]; simp)
      rw [e2]
      clear e2
      have e4 : ((n + 1 : Nat) : Int) = (((n + 1) : Nat) : Int) := by omega
      rw [e4]
      clear e4
      exact ih (n + 1) (by omega)
    · refine TT.steps (cd := cd139) 3 (c' := (29, [(2, 170), (0, s), (0, ((a + cnt (fun k => decide ((C t k : Int) = s)) n : Nat) : Int)), (0, ((t : Nat) : Int)), (0, ((n : Nat) : Int))], [(0, (aAdd ((a + cnt (fun k => decide ((C t k : Int) = s)) n : Nat) : Int) 1))], σ)) rfl rfl ?_
      refine TT.top0 (z := (((a + cnt (fun k => decide ((C t k : Int) = s)) n) + 1 : Nat) : Int)) (aAdd_n (a := a + cnt (fun k => decide ((C t k : Int) = s)) n) (b := 1) (by omega)) ?_
      refine TT.steps (cd := cd139) 1 (c' := (30, [(2, 170), (0, s), (0, (((a + cnt (fun k => decide ((C t k : Int) = s)) n) + 1 : Nat) : Int)), (0, ((t : Nat) : Int)), (0, ((n : Nat) : Int))], [], σ)) rfl rfl ?_
      refine TT.inc (cd := cd139) ((n + 1 : Nat) : Int) rfl rfl rfl rfl (fun h => absurd h.2 (show ¬ (0 = 1) by decide)) (aAdd_n (a := n) (b := 1) (by omega)) (ls' := [(2, 170), (0, s), (0, (((a + cnt (fun k => decide ((C t k : Int) = s)) n) + 1 : Nat) : Int)), (0, ((t : Nat) : Int)), (0, ((n + 1 : Nat) : Int))]) rfl ?_
      refine TT.steps (cd := cd139) 1 (c' := (10, [(2, 170), (0, s), (0, (((a + cnt (fun k => decide ((C t k : Int) = s)) n) + 1 : Nat) : Int)), (0, ((t : Nat) : Int)), (0, ((n + 1 : Nat) : Int))], [], σ)) rfl rfl ?_
      have e2 : (((a + cnt (fun k => decide ((C t k : Int) = s)) n) + 1 : Nat) : Int) = ((a + cnt (fun k => decide ((C t k : Int) = s)) (n + 1) : Nat) : Int) := by first | (rw [cnt, show decide ((C t n : Int) = s) = true from decide_eq_true (by omega)]; simp; done) | (rw [cnt, show decide ((C t n : Int) = s) = true from decide_eq_true (by omega)]; simp; omega) | (rw [cnt, show decide ((C t n : Int) = s) = false from decide_eq_false (by omega)]; simp)
      rw [e2]
      clear e2
      have e4 : ((n + 1 : Nat) : Int) = (((n + 1) : Nat) : Int) := by omega
      rw [e4]
      clear e4
      exact ih (n + 1) (by omega)
theorem ul_cc2_170 (X : AX) (Q : Option AV → AH → Prop) (nt : Nat) (L : Nat → Nat) (C : Nat → Nat → Nat) (s : Int) (σ : AH) (hnt : σ 170 2 = (nt : Int)) (hnt2 : nt ≤ 6) (hL : ∀ t, t < nt → σ 177 t = (L t : Int) ∧ L t ≤ 8) (hC : ∀ t k, t < nt → k < L t → σ (179 + t) k = (C t k : Int)) (kk : ∀ y : AV, TT X 139 (34, [(2, 170), (0, s), (0, ((ccT (fun t k => decide ((C t k : Int) = s)) L nt : Nat) : Int)), (0, ((nt : Nat) : Int)), y], [], σ) Q) : ∀ (d n : Nat), n + d = nt → ∀ y : AV, TT X 139 (4, [(2, 170), (0, s), (0, ((ccT (fun t k => decide ((C t k : Int) = s)) L n : Nat) : Int)), (0, ((n : Nat) : Int)), y], [], σ) Q := by
  intro d
  induction d with
  | zero =>
    intro n hn y
    have hnn : n = nt := by omega
    subst hnn
    refine TT.steps (cd := cd139) 3 (c' := (7, [(2, 170), (0, s), (0, ((ccT (fun t k => decide ((C t k : Int) = s)) L n : Nat) : Int)), (0, ((n : Nat) : Int)), y], [(0, (σ 170 2)), (0, ((n : Nat) : Int))], σ)) rfl rfl ?_
    refine TT.top0 (z := ((n : Nat) : Int)) hnt ?_
    refine TT.steps (cd := cd139) 1 (c' := ((if decide (((n : Nat) : Int) ≤ ((n : Nat) : Int)) = true then 34 else 8), [(2, 170), (0, s), (0, ((ccT (fun t k => decide ((C t k : Int) = s)) L n : Nat) : Int)), (0, ((n : Nat) : Int)), y], [], σ)) rfl rfl ?_
    refine TT.br (p := ((n : Nat) : Int) ≤ ((n : Nat) : Int)) (fun h1 => ?_) (fun h1 => absurd (show ((n : Nat) : Int) ≤ ((n : Nat) : Int) by omega) h1)
    exact kk y
  | succ d ih =>
    intro n hn y
    refine TT.steps (cd := cd139) 3 (c' := (7, [(2, 170), (0, s), (0, ((ccT (fun t k => decide ((C t k : Int) = s)) L n : Nat) : Int)), (0, ((n : Nat) : Int)), y], [(0, (σ 170 2)), (0, ((n : Nat) : Int))], σ)) rfl rfl ?_
    refine TT.top0 (z := ((nt : Nat) : Int)) hnt ?_
    refine TT.steps (cd := cd139) 1 (c' := ((if decide (((nt : Nat) : Int) ≤ ((n : Nat) : Int)) = true then 34 else 8), [(2, 170), (0, s), (0, ((ccT (fun t k => decide ((C t k : Int) = s)) L n : Nat) : Int)), (0, ((n : Nat) : Int)), y], [], σ)) rfl rfl ?_
    refine TT.br (p := ((nt : Nat) : Int) ≤ ((n : Nat) : Int)) (fun h1 => absurd h1 (show ¬ (((nt : Nat) : Int) ≤ ((n : Nat) : Int)) by omega)) (fun h1 => ?_)
    refine TT.steps (cd := cd139) 2 (c' := (10, [(2, 170), (0, s), (0, ((ccT (fun t k => decide ((C t k : Int) = s)) L n : Nat) : Int)), (0, ((n : Nat) : Int)), (0, 0)], [], σ)) rfl rfl ?_
    have hc8 := ccT_le (fun t k => decide ((C t k : Int) = s)) L n (fun t ht => (hL t (by omega)).2)
    refine ul_cc1_170 X _ n (ccT (fun t k => decide ((C t k : Int) = s)) L n) (by omega) (L n) C s σ (by omega) (hL n (by omega)).2 (hL n (by omega)).1 (fun k hk => hC n k (by omega) hk) ?_ (L n) 0 (by omega)
    refine TT.inc (cd := cd139) ((n + 1 : Nat) : Int) rfl rfl rfl rfl (fun h => absurd h.2 (show ¬ (0 = 1) by decide)) (aAdd_n (a := n) (b := 1) (by omega)) (ls' := [(2, 170), (0, s), (0, ((ccT (fun t k => decide ((C t k : Int) = s)) L n + cnt (fun k => decide ((C n k : Int) = s)) (L n) : Nat) : Int)), (0, ((n + 1 : Nat) : Int)), (0, (((L n) : Nat) : Int))]) rfl ?_
    refine TT.steps (cd := cd139) 1 (c' := (4, [(2, 170), (0, s), (0, ((ccT (fun t k => decide ((C t k : Int) = s)) L n + cnt (fun k => decide ((C n k : Int) = s)) (L n) : Nat) : Int)), (0, ((n + 1 : Nat) : Int)), (0, (((L n) : Nat) : Int))], [], σ)) rfl rfl ?_
    exact ih (n + 1) (by omega) _
theorem u_countCalls_170 (X : AX) (nt : Nat) (L : Nat → Nat) (C : Nat → Nat → Nat) (s : Int) (σ : AH) (hnt : σ 170 2 = (nt : Int)) (hnt2 : nt ≤ 6) (hL : ∀ t, t < nt → σ 177 t = (L t : Int) ∧ L t ≤ 8) (hC : ∀ t k, t < nt → k < L t → σ (179 + t) k = (C t k : Int))  : TT X 139 (0, [(2, 170), (0, s), (9, 0), (9, 0), (9, 0)], [], σ) (fun r σ' => r = some (0, ((ccT (fun t k => decide ((C t k : Int) = s)) L nt : Nat) : Int)) ∧ σ' = σ) := by
  refine TT.steps (cd := cd139) 4 (c' := (4, [(2, 170), (0, s), (0, 0), (0, 0), (9, 0)], [], σ)) rfl rfl ?_
  refine ul_cc2_170 X _ nt L C s σ hnt hnt2 hL hC (fun y => ?_) nt 0 (by omega) _
  refine TT.steps (cd := cd139) 1 (c' := (35, [(2, 170), (0, s), (0, ((ccT (fun t k => decide ((C t k : Int) = s)) L nt : Nat) : Int)), (0, ((nt : Nat) : Int)), y], [(0, ((ccT (fun t k => decide ((C t k : Int) = s)) L nt : Nat) : Int))], σ)) rfl rfl ?_
  exact TT.ret (cd := cd139) rfl rfl rfl rfl (⟨rfl, rfl⟩)
theorem u_coin (X : AX) {l : Nat} (hl : l = 8 ∨ l = 170) (z : Int) (np : Nat) (σ : AH) (hc : σ (l + 22) 0 = (np : Int)) (hnp2 : np ≤ 10) : TT X k_X3_coin (0, [(2, (l : Int)), (0, z), (9, 0), (9, 0)], [], σ) (fun r σ' => r = some (0, sumA (fun p => aMul (aAnd (aShr z ((p : Nat) : Int)) 1) (σ (l + 4) p)) np) ∧ σ' = σ) := by
  rcases hl with rfl | rfl
  · exact u_coin_8 X z np σ hc hnp2
  · exact u_coin_170 X z np σ hc hnp2
theorem v_coin (X : AX) {l : Nat} (hl : l = 8 ∨ l = 170) {σ ρ : AH} {b np nt ns : Nat} {L : Nat → Nat} {C : Nat → Nat → Nat} (hL : LT σ ρ l b np nt ns L C) (z : Int) : TT X k_X3_coin (0, [(2, (l : Int)), (0, z), (9, 0), (9, 0)], [], σ) (fun r σ' => r = some (0, mCoin ρ b np z) ∧ σ' = σ) := by
  refine (u_coin X hl z np σ hL.1.2.2.2 hL.2.2.1.1).mono (fun r σ' h => ⟨?_, h.2⟩)
  rw [h.1]
  refine congrArg (fun x => some (0, x)) (sumA_c (fun p hp => ?_))
  rw [(hL.2.2.2.2.2.2.1 p hp).1]
theorem v_priced (X : AX) {l : Nat} (hl : l = 8 ∨ l = 170) {σ ρ : AH} {b np nt ns : Nat} {L : Nat → Nat} {C : Nat → Nat → Nat} (hL : LT σ ρ l b np nt ns L C) : TT X k_X3_priced (0, [(2, (l : Int)), (9, 0), (9, 0)], [], σ) (fun r σ' => r = some (0, ((bs (fun p => decide (0 < ρ 314 (10 * b + p))) np : Nat) : Int)) ∧ σ' = σ) := by
  have key : ∀ r σ', (r = some (0, ((bs (fun p => decide (0 < σ (l + 4) p)) np : Nat) : Int)) ∧ σ' = σ) → ((r : Option AV) = some (0, ((bs (fun p => decide (0 < ρ 314 (10 * b + p))) np : Nat) : Int)) ∧ (σ' : AH) = σ) := by
    intro r σ' h
    refine ⟨?_, h.2⟩
    rw [h.1]
    refine congrArg (fun x : Nat => some (0, (x : Int))) (bs_c (fun p hp => ?_))
    rw [(hL.2.2.2.2.2.2.1 p hp).1]
  rcases hl with rfl | rfl
  · exact (u_priced_8 X np σ hL.1.2.2.2 hL.2.2.1.1).mono key
  · exact (u_priced_170 X np σ hL.1.2.2.2 hL.2.2.1.1).mono key
theorem v_countCalls (X : AX) {l : Nat} (hl : l = 8 ∨ l = 170) {σ ρ : AH} {b np nt ns : Nat} {L : Nat → Nat} {C : Nat → Nat → Nat} (hL : LT σ ρ l b np nt ns L C) (s : Int) : TT X k_X3_countCalls (0, [(2, (l : Int)), (0, s), (9, 0), (9, 0), (9, 0)], [], σ) (fun r σ' => r = some (0, sumA (fun t => (if anyN (fun i => decide (0 ≤ i ∧ ρ 305 (8 * (6 * b + t) + i) = s)) (L t) = true then 1 else 0)) nt) ∧ σ' = σ) := by
  obtain ⟨⟨a1, a2, a3, a4⟩, -, ⟨c1, c2, -⟩, hTr, hCa, -, -, hDi⟩ := hL
  have key : ∀ r σ', (r = some (0, ((ccT (fun t k => decide ((C t k : Int) = s)) L nt : Nat) : Int)) ∧ σ' = σ) → ((r : Option AV) = some (0, sumA (fun t => (if anyN (fun i => decide (0 ≤ i ∧ ρ 305 (8 * (6 * b + t) + i) = s)) (L t) = true then 1 else 0)) nt) ∧ (σ' : AH) = σ) := by
    intro r σ' h
    refine ⟨?_, h.2⟩
    rw [h.1, (ccT_sum (F := fun t k => decide ((C t k : Int) = s)) (L := L) c2 (fun t k k' ht hk hk' h1 h2 => ?_)).1]
    · refine congrArg (fun x => some (0, x)) (sumA_c (fun t ht => ?_))
      rw [anyN_c (g := fun i => decide (0 ≤ i ∧ ρ 305 (8 * (6 * b + t) + i) = s)) (fun i hi => ?_)]
      rw [(hCa t i ht hi).2.1]
      exact decide_eq_decide.mpr (by omega)
    · simp only [decide_eq_true_eq] at h1 h2
      exact hDi t k k' ht hk hk' (by omega)
  rcases hl with rfl | rfl
  · exact (u_countCalls_8 X nt L C s σ a2 c2 (fun t ht => ⟨(hTr t ht).1, (hTr t ht).2.2.2.1⟩) (fun t k ht hk => (hCa t k ht hk).1)).mono key
  · exact (u_countCalls_170 X nt L C s σ a2 c2 (fun t ht => ⟨(hTr t ht).1, (hTr t ht).2.2.2.1⟩) (fun t k ht hk => (hCa t k ht hk).1)).mono key
