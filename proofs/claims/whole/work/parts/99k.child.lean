/-! child: the train that one is aboard; of both. -/
theorem if_cg {p q : Prop} [Decidable p] [Decidable q] {a c : Int} (h : p ↔ q) : (if p then a else c) = if q then a else c := by
  by_cases e : p
  · rw [if_pos e, if_pos (h.mp e)]
  · rw [if_neg e, if_neg (fun g => e (h.mpr g))]
theorem ul_trOf_8 (X : AX) (p np nt : Nat) (A : Nat → Int) (σ : AH) (hp : p < np) (hnp : np ≤ 10) (hnt2 : nt ≤ 6) (h11 : σ 198 11 = 8) (hnt : σ 8 2 = (nt : Int)) (hA : ∀ t : Nat, t < nt → σ 253 t = ((bs (fun p => decide (A p = (t : Int))) np : Nat) : Int))  : ∀ (d n : Nat), n + d = nt → (A p = -1 ∨ ∃ t : Nat, n ≤ t ∧ t < nt ∧ A p = (t : Int)) → TT X 124 (2, [(2, 198), (0, ((p : Nat) : Int)), (0, ((n : Nat) : Int))], [], σ) (fun r σ' => r = some (0, A p) ∧ σ' = σ) := by
  intro d
  induction d with
  | zero =>
    intro n hn hI
    refine TT.steps (cd := cd124) 3 (c' := (5, [(2, 198), (0, ((p : Nat) : Int)), (0, ((n : Nat) : Int))], [(2, (σ 198 11)), (0, ((n : Nat) : Int))], σ)) rfl rfl ?_
    refine TT.top0 (z := 8) h11 ?_
    refine TT.steps (cd := cd124) 1 (c' := (6, [(2, 198), (0, ((p : Nat) : Int)), (0, ((n : Nat) : Int))], [(0, (σ 8 2)), (0, ((n : Nat) : Int))], σ)) rfl rfl ?_
    refine TT.top0 (z := ((nt : Nat) : Int)) hnt ?_
    refine TT.steps (cd := cd124) 1 (c' := ((if decide (((nt : Nat) : Int) ≤ ((n : Nat) : Int)) = true then 19 else 7), [(2, 198), (0, ((p : Nat) : Int)), (0, ((n : Nat) : Int))], [], σ)) rfl rfl ?_
    refine TT.br (p := ((nt : Nat) : Int) ≤ ((n : Nat) : Int)) (fun h1 => ?_) (fun h1 => absurd (show ((nt : Nat) : Int) ≤ ((n : Nat) : Int) by omega) h1)
    refine TT.steps (cd := cd124) 1 (c' := (20, [(2, 198), (0, ((p : Nat) : Int)), (0, ((n : Nat) : Int))], [(0, -1)], σ)) rfl rfl ?_
    refine TT.ret (cd := cd124) rfl rfl rfl rfl ⟨?_, rfl⟩
    rcases hI with h1 | ⟨t, h1, h2, h3⟩
    · rw [h1]
    · omega
  | succ d ih =>
    intro n hn hI
    refine TT.steps (cd := cd124) 3 (c' := (5, [(2, 198), (0, ((p : Nat) : Int)), (0, ((n : Nat) : Int))], [(2, (σ 198 11)), (0, ((n : Nat) : Int))], σ)) rfl rfl ?_
    refine TT.top0 (z := 8) h11 ?_
    refine TT.steps (cd := cd124) 1 (c' := (6, [(2, 198), (0, ((p : Nat) : Int)), (0, ((n : Nat) : Int))], [(0, (σ 8 2)), (0, ((n : Nat) : Int))], σ)) rfl rfl ?_
    refine TT.top0 (z := ((nt : Nat) : Int)) hnt ?_
    refine TT.steps (cd := cd124) 1 (c' := ((if decide (((nt : Nat) : Int) ≤ ((n : Nat) : Int)) = true then 19 else 7), [(2, 198), (0, ((p : Nat) : Int)), (0, ((n : Nat) : Int))], [], σ)) rfl rfl ?_
    refine TT.br (p := ((nt : Nat) : Int) ≤ ((n : Nat) : Int)) (fun h1 => absurd h1 (show ¬ (((nt : Nat) : Int) ≤ ((n : Nat) : Int)) by omega)) (fun h1 => ?_)
    refine TT.steps (cd := cd124) 3 (c' := (10, [(2, 198), (0, ((p : Nat) : Int)), (0, ((n : Nat) : Int))], [(0, ((n : Nat) : Int)), (2, 253)], σ)) rfl rfl ?_
    refine TT.aldN (cd := cd124) (253) (n) rfl rfl rfl rfl (show n < 6 by omega) ?_
    refine TT.top0 (z := ((bs (fun p => decide (A p = ((n : Nat) : Int))) np : Nat) : Int)) (hA n (by omega)) ?_
    refine TT.steps (cd := cd124) 1 (c' := (12, [(2, 198), (0, ((p : Nat) : Int)), (0, ((n : Nat) : Int))], [(0, ((p : Nat) : Int)), (0, ((bs (fun p => decide (A p = ((n : Nat) : Int))) np : Nat) : Int))], σ)) rfl rfl ?_
    refine TT.call (cd := cd124) rfl rfl rfl (by decide) rfl (u_bit X ((bs (fun p => decide (A p = ((n : Nat) : Int))) np : Nat) : Int) ((p : Nat) : Int) σ) (fun r2 σ2 hq => ?_)
    rw [hq.1, hq.2, bs_bitI _ (by omega) hp]
    simp only [decide_eq_true_eq]
    refine TT.steps (cd := cd124) 2 (c' := ((if decide (¬ ((if A p = ((n : Nat) : Int) then 1 else 0) : Int) = 1) = true then 17 else 15), [(2, 198), (0, ((p : Nat) : Int)), (0, ((n : Nat) : Int))], [], σ)) rfl rfl ?_
    refine TT.br (p := ¬ ((if A p = ((n : Nat) : Int) then 1 else 0) : Int) = 1) (fun h3 => ?_) (fun h3 => ?_)
    · replace h3 := ite1_f h3
      refine TT.inc (cd := cd124) ((n + 1 : Nat) : Int) rfl rfl rfl rfl (fun h => absurd h.2 (show ¬ (0 = 1) by decide)) (aAdd_n (a := n) (b := 1) (by omega)) (ls' := [(2, 198), (0, ((p : Nat) : Int)), (0, ((n + 1 : Nat) : Int))]) rfl ?_
      refine TT.steps (cd := cd124) 1 (c' := (2, [(2, 198), (0, ((p : Nat) : Int)), (0, ((n + 1 : Nat) : Int))], [], σ)) rfl rfl ?_
      have e2 : ((n + 1 : Nat) : Int) = (((n + 1) : Nat) : Int) := by omega
      rw [e2]
      clear e2
      exact ih (n + 1) (by omega) ((by rcases hI with g1 | ⟨t, g1, g2, g3⟩; exact Or.inl g1; exact Or.inr ⟨t, by omega, g2, g3⟩))
    · replace h3 := ite1_t (Decidable.not_not.mp h3)
      refine TT.steps (cd := cd124) 1 (c' := (16, [(2, 198), (0, ((p : Nat) : Int)), (0, ((n : Nat) : Int))], [(0, ((n : Nat) : Int))], σ)) rfl rfl ?_
      refine TT.ret (cd := cd124) rfl rfl rfl rfl ⟨?_, rfl⟩
      have hA2 : A p = ((n : Nat) : Int) := by first | assumption | exact Decidable.not_not.mp (by assumption)
      rw [hA2]
theorem u_trOf_8 (X : AX) (p np nt : Nat) (A : Nat → Int) (σ : AH) (hp : p < np) (hnp : np ≤ 10) (hnt2 : nt ≤ 6) (h11 : σ 198 11 = 8) (hnt : σ 8 2 = (nt : Int)) (hA : ∀ t : Nat, t < nt → σ 253 t = ((bs (fun p => decide (A p = (t : Int))) np : Nat) : Int)) (hI : A p = -1 ∨ ∃ t : Nat, t < nt ∧ A p = (t : Int))  : TT X 124 (0, [(2, 198), (0, ((p : Nat) : Int)), (9, 0)], [], σ) (fun r σ' => r = some (0, A p) ∧ σ' = σ) := by
  refine TT.steps (cd := cd124) 2 (c' := (2, [(2, 198), (0, ((p : Nat) : Int)), (0, 0)], [], σ)) rfl rfl ?_
  exact ul_trOf_8 X p np nt A σ hp hnp hnt2 h11 hnt hA nt 0 (by omega) (by rcases hI with g1 | ⟨t, g1, g2⟩; exact Or.inl g1; exact Or.inr ⟨t, by omega, g1, g2⟩)
theorem ul_trOf_170 (X : AX) (p np nt : Nat) (A : Nat → Int) (σ : AH) (hp : p < np) (hnp : np ≤ 10) (hnt2 : nt ≤ 6) (h11 : σ 198 11 = 170) (hnt : σ 170 2 = (nt : Int)) (hA : ∀ t : Nat, t < nt → σ 253 t = ((bs (fun p => decide (A p = (t : Int))) np : Nat) : Int))  : ∀ (d n : Nat), n + d = nt → (A p = -1 ∨ ∃ t : Nat, n ≤ t ∧ t < nt ∧ A p = (t : Int)) → TT X 124 (2, [(2, 198), (0, ((p : Nat) : Int)), (0, ((n : Nat) : Int))], [], σ) (fun r σ' => r = some (0, A p) ∧ σ' = σ) := by
  intro d
  induction d with
  | zero =>
    intro n hn hI
    refine TT.steps (cd := cd124) 3 (c' := (5, [(2, 198), (0, ((p : Nat) : Int)), (0, ((n : Nat) : Int))], [(2, (σ 198 11)), (0, ((n : Nat) : Int))], σ)) rfl rfl ?_
    refine TT.top0 (z := 170) h11 ?_
    refine TT.steps (cd := cd124) 1 (c' := (6, [(2, 198), (0, ((p : Nat) : Int)), (0, ((n : Nat) : Int))], [(0, (σ 170 2)), (0, ((n : Nat) : Int))], σ)) rfl rfl ?_
    refine TT.top0 (z := ((nt : Nat) : Int)) hnt ?_
    refine TT.steps (cd := cd124) 1 (c' := ((if decide (((nt : Nat) : Int) ≤ ((n : Nat) : Int)) = true then 19 else 7), [(2, 198), (0, ((p : Nat) : Int)), (0, ((n : Nat) : Int))], [], σ)) rfl rfl ?_
    refine TT.br (p := ((nt : Nat) : Int) ≤ ((n : Nat) : Int)) (fun h1 => ?_) (fun h1 => absurd (show ((nt : Nat) : Int) ≤ ((n : Nat) : Int) by omega) h1)
    refine TT.steps (cd := cd124) 1 (c' := (20, [(2, 198), (0, ((p : Nat) : Int)), (0, ((n : Nat) : Int))], [(0, -1)], σ)) rfl rfl ?_
    refine TT.ret (cd := cd124) rfl rfl rfl rfl ⟨?_, rfl⟩
    rcases hI with h1 | ⟨t, h1, h2, h3⟩
    · rw [h1]
    · omega
  | succ d ih =>
    intro n hn hI
    refine TT.steps (cd := cd124) 3 (c' := (5, [(2, 198), (0, ((p : Nat) : Int)), (0, ((n : Nat) : Int))], [(2, (σ 198 11)), (0, ((n : Nat) : Int))], σ)) rfl rfl ?_
    refine TT.top0 (z := 170) h11 ?_
    refine TT.steps (cd := cd124) 1 (c' := (6, [(2, 198), (0, ((p : Nat) : Int)), (0, ((n : Nat) : Int))], [(0, (σ 170 2)), (0, ((n : Nat) : Int))], σ)) rfl rfl ?_
    refine TT.top0 (z := ((nt : Nat) : Int)) hnt ?_
    refine TT.steps (cd := cd124) 1 (c' := ((if decide (((nt : Nat) : Int) ≤ ((n : Nat) : Int)) = true then 19 else 7), [(2, 198), (0, ((p : Nat) : Int)), (0, ((n : Nat) : Int))], [], σ)) rfl rfl ?_
    refine TT.br (p := ((nt : Nat) : Int) ≤ ((n : Nat) : Int)) (fun h1 => absurd h1 (show ¬ (((nt : Nat) : Int) ≤ ((n : Nat) : Int)) by omega)) (fun h1 => ?_)
    refine TT.steps (cd := cd124) 3 (c' := (10, [(2, 198), (0, ((p : Nat) : Int)), (0, ((n : Nat) : Int))], [(0, ((n : Nat) : Int)), (2, 253)], σ)) rfl rfl ?_
    refine TT.aldN (cd := cd124) (253) (n) rfl rfl rfl rfl (show n < 6 by omega) ?_
    refine TT.top0 (z := ((bs (fun p => decide (A p = ((n : Nat) : Int))) np : Nat) : Int)) (hA n (by omega)) ?_
    refine TT.steps (cd := cd124) 1 (c' := (12, [(2, 198), (0, ((p : Nat) : Int)), (0, ((n : Nat) : Int))], [(0, ((p : Nat) : Int)), (0, ((bs (fun p => decide (A p = ((n : Nat) : Int))) np : Nat) : Int))], σ)) rfl rfl ?_
    refine TT.call (cd := cd124) rfl rfl rfl (by decide) rfl (u_bit X ((bs (fun p => decide (A p = ((n : Nat) : Int))) np : Nat) : Int) ((p : Nat) : Int) σ) (fun r2 σ2 hq => ?_)
    rw [hq.1, hq.2, bs_bitI _ (by omega) hp]
    simp only [decide_eq_true_eq]
    refine TT.steps (cd := cd124) 2 (c' := ((if decide (¬ ((if A p = ((n : Nat) : Int) then 1 else 0) : Int) = 1) = true then 17 else 15), [(2, 198), (0, ((p : Nat) : Int)), (0, ((n : Nat) : Int))], [], σ)) rfl rfl ?_
    refine TT.br (p := ¬ ((if A p = ((n : Nat) : Int) then 1 else 0) : Int) = 1) (fun h3 => ?_) (fun h3 => ?_)
    · replace h3 := ite1_f h3
      refine TT.inc (cd := cd124) ((n + 1 : Nat) : Int) rfl rfl rfl rfl (fun h => absurd h.2 (show ¬ (0 = 1) by decide)) (aAdd_n (a := n) (b := 1) (by omega)) (ls' := [(2, 198), (0, ((p : Nat) : Int)), (0, ((n + 1 : Nat) : Int))]) rfl ?_
      refine TT.steps (cd := cd124) 1 (c' := (2, [(2, 198), (0, ((p : Nat) : Int)), (0, ((n + 1 : Nat) : Int))], [], σ)) rfl rfl ?_
      have e2 : ((n + 1 : Nat) : Int) = (((n + 1) : Nat) : Int) := by omega
      rw [e2]
      clear e2
      exact ih (n + 1) (by omega) ((by rcases hI with g1 | ⟨t, g1, g2, g3⟩; exact Or.inl g1; exact Or.inr ⟨t, by omega, g2, g3⟩))
    · replace h3 := ite1_t (Decidable.not_not.mp h3)
      refine TT.steps (cd := cd124) 1 (c' := (16, [(2, 198), (0, ((p : Nat) : Int)), (0, ((n : Nat) : Int))], [(0, ((n : Nat) : Int))], σ)) rfl rfl ?_
      refine TT.ret (cd := cd124) rfl rfl rfl rfl ⟨?_, rfl⟩
      have hA2 : A p = ((n : Nat) : Int) := by first | assumption | exact Decidable.not_not.mp (by assumption)
      rw [hA2]
theorem u_trOf_170 (X : AX) (p np nt : Nat) (A : Nat → Int) (σ : AH) (hp : p < np) (hnp : np ≤ 10) (hnt2 : nt ≤ 6) (h11 : σ 198 11 = 170) (hnt : σ 170 2 = (nt : Int)) (hA : ∀ t : Nat, t < nt → σ 253 t = ((bs (fun p => decide (A p = (t : Int))) np : Nat) : Int)) (hI : A p = -1 ∨ ∃ t : Nat, t < nt ∧ A p = (t : Int))  : TT X 124 (0, [(2, 198), (0, ((p : Nat) : Int)), (9, 0)], [], σ) (fun r σ' => r = some (0, A p) ∧ σ' = σ) := by
  refine TT.steps (cd := cd124) 2 (c' := (2, [(2, 198), (0, ((p : Nat) : Int)), (0, 0)], [], σ)) rfl rfl ?_
  exact ul_trOf_170 X p np nt A σ hp hnp hnt2 h11 hnt hA nt 0 (by omega) (by rcases hI with g1 | ⟨t, g1, g2⟩; exact Or.inl g1; exact Or.inr ⟨t, by omega, g1, g2⟩)
theorem K_childN (X : AX) {l : Nat} {σ ρ : AH} {b np nt ns : Nat} {L : Nat → Nat} {C : Nat → Nat → Nat} {w tp u tl oc : Nat} (h : IV σ ρ l b np nt ns L C w tp u tl oc) (p m w0 : Int) (hN : ¬ (0 ≤ p ∧ p < (np : Int)) ∨ ¬ (0 ≤ m ∧ m ≤ 9999) ∨ ¬ (0 ≤ w0 ∧ w0 ≤ 1))  : TT X 212 (0, [(2, 0), (0, p), (0, m), (0, w0), (9, 0), (9, 0)], [], σ) (fun r σ' => r = some (0, -1) ∧ QS σ σ') := by
  obtain ⟨⟨hl, h05, h33⟩, hL, hN, hPT, hF, hA, hTp, hO, hM, hH⟩ := id h
  obtain ⟨⟨a1, a2, a3, a4⟩, ⟨b1, b2, b3, b4, b5⟩, ⟨c1, c2, c3, c4, c5⟩, hTr, hCa, hAf, hPr, hDi⟩ := id hL
  obtain ⟨hPb, ⟨y1, y2, y3⟩, hhi, hPp⟩ := id hPT
  refine TT.steps (cd := cd212) 2 (c' := (2, [(2, 0), (0, p), (0, m), (0, w0), (9, 0), (9, 0)], [(0, p), (2, 0)], σ)) rfl rfl ?_
  refine TT.call (cd := cd212) rfl rfl rfl (by decide) rfl (w_isPerson X p σ) (fun r1 σ1 hq => ?_)
  rw [hq.1, hq.2, hPb.1]
  refine TT.steps (cd := cd212) 1 (c' := ((if decide (((if 0 ≤ p ∧ p < ((np : Nat) : Int) then 1 else 0) : Int) = 0) = true then 14 else 4), [(2, 0), (0, p), (0, m), (0, w0), (9, 0), (9, 0)], [], σ)) rfl rfl ?_
  refine TT.br (p := ((if 0 ≤ p ∧ p < ((np : Nat) : Int) then 1 else 0) : Int) = 0) (fun h2 => ?_) (fun h2 => ?_)
  · replace h2 := ite_f h2
    refine TT.steps (cd := cd212) 1 (c' := (15, [(2, 0), (0, p), (0, m), (0, w0), (9, 0), (9, 0)], [(0, -1)], σ)) rfl rfl ?_
    exact TT.ret (cd := cd212) rfl rfl rfl rfl (⟨rfl, QS.refl σ⟩)
  · replace h2 := ite_t h2
    refine TT.steps (cd := cd212) 2 (c' := ((if decide (m < 0) = true then 14 else 6), [(2, 0), (0, p), (0, m), (0, w0), (9, 0), (9, 0)], [], σ)) rfl rfl ?_
    refine TT.br (p := m < 0) (fun h3 => ?_) (fun h3 => ?_)
    · refine TT.steps (cd := cd212) 1 (c' := (15, [(2, 0), (0, p), (0, m), (0, w0), (9, 0), (9, 0)], [(0, -1)], σ)) rfl rfl ?_
      exact TT.ret (cd := cd212) rfl rfl rfl rfl (⟨rfl, QS.refl σ⟩)
    · refine TT.steps (cd := cd212) 3 (c' := ((if decide (9999 < m) = true then 14 else 9), [(2, 0), (0, p), (0, m), (0, w0), (9, 0), (9, 0)], [], σ)) rfl rfl ?_
      refine TT.br (p := 9999 < m) (fun h4 => ?_) (fun h4 => ?_)
      · refine TT.steps (cd := cd212) 1 (c' := (15, [(2, 0), (0, p), (0, m), (0, w0), (9, 0), (9, 0)], [(0, -1)], σ)) rfl rfl ?_
        exact TT.ret (cd := cd212) rfl rfl rfl rfl (⟨rfl, QS.refl σ⟩)
      · refine TT.steps (cd := cd212) 2 (c' := ((if decide (w0 < 0) = true then 14 else 11), [(2, 0), (0, p), (0, m), (0, w0), (9, 0), (9, 0)], [], σ)) rfl rfl ?_
        refine TT.br (p := w0 < 0) (fun h5 => ?_) (fun h5 => ?_)
        · refine TT.steps (cd := cd212) 1 (c' := (15, [(2, 0), (0, p), (0, m), (0, w0), (9, 0), (9, 0)], [(0, -1)], σ)) rfl rfl ?_
          exact TT.ret (cd := cd212) rfl rfl rfl rfl (⟨rfl, QS.refl σ⟩)
        · refine TT.steps (cd := cd212) 3 (c' := ((if decide (w0 ≤ 1) = true then 16 else 14), [(2, 0), (0, p), (0, m), (0, w0), (9, 0), (9, 0)], [], σ)) rfl rfl ?_
          refine TT.br (p := w0 ≤ 1) (fun h6 => ?_) (fun h6 => ?_)
          · omega
          · refine TT.steps (cd := cd212) 1 (c' := (15, [(2, 0), (0, p), (0, m), (0, w0), (9, 0), (9, 0)], [(0, -1)], σ)) rfl rfl ?_
            exact TT.ret (cd := cd212) rfl rfl rfl rfl (⟨rfl, QS.refl σ⟩)
theorem K_child0_8 (X : AX) {σ ρ : AH} {b np nt ns : Nat} {L : Nat → Nat} {C : Nat → Nat → Nat} {w tp u tl oc : Nat} (h : IV σ ρ 8 b np nt ns L C w tp u tl oc) (p m : Nat) (hp : p < np) (hm : m ≤ 9999)  : TT X 212 (0, [(2, 0), (0, ((p : Nat) : Int)), (0, ((m : Nat) : Int)), (0, 0), (9, 0), (9, 0)], [], σ) (fun r σ' => QS σ σ' ∧ (((mDay (up2 ρ 295 57 ((m : Nat) : Int)) b 0 np nt L) 333 p = -1 ∧ r = some (0, (mDay (up2 ρ 295 57 ((m : Nat) : Int)) b 0 np nt L) 334 p)) ∨ (∃ t x : Nat, t < nt ∧ 1 ≤ x ∧ x < L t ∧ (mDay (up2 ρ 295 57 ((m : Nat) : Int)) b 0 np nt L) 333 p = (t : Int) ∧ (mDay (up2 ρ 295 57 ((m : Nat) : Int)) b 0 np nt L) 323 t = (x : Int) ∧ r = some (0, ρ 305 (8 * (6 * b + t) + (x - 1)))))) := by
  obtain ⟨⟨hl, h05, h33⟩, hL, hN, hPT, hF, hA, hTp, hO, hM, hH⟩ := id h
  obtain ⟨⟨a1, a2, a3, a4⟩, ⟨b1, b2, b3, b4, b5⟩, ⟨c1, c2, c3, c4, c5⟩, hTr, hCa, hAf, hPr, hDi⟩ := id hL
  obtain ⟨hPb, ⟨y1, y2, y3⟩, hhi, hPp⟩ := id hPT
  refine TT.steps (cd := cd212) 2 (c' := (2, [(2, 0), (0, ((p : Nat) : Int)), (0, ((m : Nat) : Int)), (0, 0), (9, 0), (9, 0)], [(0, ((p : Nat) : Int)), (2, 0)], σ)) rfl rfl ?_
  refine TT.call (cd := cd212) rfl rfl rfl (by decide) rfl (w_isPerson X ((p : Nat) : Int) σ) (fun r1 σ1 hq => ?_)
  rw [hq.1, hq.2, hPb.1, if_pos ⟨by omega, by omega⟩]
  refine TT.steps (cd := cd212) 3 (c' := ((if decide (((m : Nat) : Int) < 0) = true then 14 else 6), [(2, 0), (0, ((p : Nat) : Int)), (0, ((m : Nat) : Int)), (0, 0), (9, 0), (9, 0)], [], σ)) rfl rfl ?_
  refine TT.br (p := ((m : Nat) : Int) < 0) (fun h2 => absurd h2 (show ¬ (((m : Nat) : Int) < 0) by omega)) (fun h2 => ?_)
  refine TT.steps (cd := cd212) 3 (c' := ((if decide (9999 < ((m : Nat) : Int)) = true then 14 else 9), [(2, 0), (0, ((p : Nat) : Int)), (0, ((m : Nat) : Int)), (0, 0), (9, 0), (9, 0)], [], σ)) rfl rfl ?_
  refine TT.br (p := 9999 < ((m : Nat) : Int)) (fun h3 => absurd h3 (show ¬ (9999 < ((m : Nat) : Int)) by omega)) (fun h3 => ?_)
  refine TT.steps (cd := cd212) 9 (c' := (20, [(2, 0), (0, ((p : Nat) : Int)), (0, ((m : Nat) : Int)), (0, 0), (9, 0), (9, 0)], [(2, (σ 0 5)), (2, 198)], σ)) rfl rfl ?_
  refine TT.top0 (z := 8) h05 ?_
  refine TT.steps (cd := cd212) 2 (c' := (22, [(2, 0), (0, ((p : Nat) : Int)), (0, ((m : Nat) : Int)), (0, 0), (9, 0), (9, 0)], [(2, 36), (2, 8), (2, 198)], σ)) rfl rfl ?_
  refine TT.call (cd := cd212) rfl rfl rfl (by decide) rfl (v_prep X hl (Or.inl rfl) hL hPb) (fun r4 σ4 hq => ?_)
  obtain ⟨rfl, hP1, hF1⟩ := hq
  have hL5 : LT σ4 (up2 ρ 295 57 ((m : Nat) : Int)) 8 b np nt ns L C := LT_mv hl hL (fun K j hK => hF1 K j (by omega)) (fun K j hK => up2_far _ _ _ _ (by omega)) (up2_nq _ (by omega))
  have hPb5 : PTb σ4 (up2 ρ 295 57 ((m : Nat) : Int)) 36 0 np ns := PTb_mv hPb (fun K j hK => hF1 K j (by omega)) (fun K j hK => up2_far _ _ _ _ (by omega))
  have z1 : ((bs (zH ρ 0) np : Nat) : Int) = ((bs (zH (up2 ρ 295 57 ((m : Nat) : Int)) 0) np : Nat) : Int) := congrArg (fun x : Nat => (x : Int)) (bs_c (fun p _ => by show decide _ = decide _; rw [up2_far _ _ _ _ (by decide)]))
  have z2 : (0 : Int) = ((bs (zK (up2 ρ 295 57 ((m : Nat) : Int))) np : Nat) : Int) := (zK_no ((up2_nq _ (by omega)).trans hF.2.1) np).symm
  have z3 : (0 : Int) = ((bs (zAb (up2 ρ 295 57 ((m : Nat) : Int))) np : Nat) : Int) := (zAb_no ((up2_nq _ (by omega)).trans hF.1) np).symm
  have hgo := v_go X hl (Or.inl rfl) hP1 hL5 hPb5 (U := ((m : Nat) : Int)) (Or.inr ⟨up2_hit _ _ _ _, by omega⟩)
  refine TT.steps (cd := cd212) 5 (c' := (28, [(2, 0), (0, ((p : Nat) : Int)), (0, ((m : Nat) : Int)), (0, 0), (9, 0), (9, 0)], [(0, (σ4 36 2)), (2, 198)], σ4)) rfl rfl ?_
  refine TT.top0 (z := ((bs (zH ρ 0) np : Nat) : Int)) ((hF1 36 (2) (by omega)).trans hhi) ?_
  refine TT.steps (cd := cd212) 3 (c' := (31, [(2, 0), (0, ((p : Nat) : Int)), (0, ((m : Nat) : Int)), (0, 0), (9, 0), (9, 0)], [(0, ((m : Nat) : Int)), (0, 0), (0, 0), (0, ((bs (zH ρ 0) np : Nat) : Int)), (2, 198)], σ4)) rfl rfl ?_
  refine TT.st0 (st' := [(0, ((m : Nat) : Int)), (0, ((bs (zK (up2 ρ 295 57 ((m : Nat) : Int))) np : Nat) : Int)), (0, ((bs (zAb (up2 ρ 295 57 ((m : Nat) : Int))) np : Nat) : Int)), (0, ((bs (zH (up2 ρ 295 57 ((m : Nat) : Int)) 0) np : Nat) : Int)), (2, 198)]) (by rw [← z1, ← z2, ← z3]) ?_
  refine TT.call (cd := cd212) rfl rfl rfl (by decide) rfl (hgo) (fun r5 σ5 hq => ?_)
  obtain ⟨rfl, hG3, hD3⟩ := hq
  obtain ⟨⟨n1, hn1, hE⟩, -, -⟩ := id hD3
  have hQ3 : QS σ σ5 := fun K j hK => (hG3.1 K j (by omega)).trans (hF1 K j (by omega))
  refine TT.steps (cd := cd212) 3 (c' := (35, [(2, 0), (0, ((p : Nat) : Int)), (0, ((m : Nat) : Int)), (0, 0), (9, 0), (9, 0)], [(0, ((p : Nat) : Int)), (2, 198)], σ5)) rfl rfl ?_
  refine TT.call (cd := cd212) rfl rfl rfl (by decide) rfl (u_trOf_8 X p np nt (fun p => (mDay (up2 ρ 295 57 ((m : Nat) : Int)) b 0 np nt L) 333 p) σ5 hp c1 c2 (hG3.2.1.trans hP1.1.1) ((hG3.1 _ _ (by omega)).trans ((hF1 _ _ (by omega)).trans a2)) hE.2.1 (by rcases (hE.2.2.2.1 p hp).1 with h3 | ⟨-, t, h4, h5, -⟩; exact Or.inl h3; exact Or.inr ⟨t, h4, h5⟩)) (fun r6 σ6 hq => ?_)
  rw [hq.1, hq.2]
  refine TT.steps (cd := cd212) 1 (c' := (37, [(2, 0), (0, ((p : Nat) : Int)), (0, ((m : Nat) : Int)), (0, 0), (0, ((mDay (up2 ρ 295 57 ((m : Nat) : Int)) b 0 np nt L) 333 p)), (9, 0)], [], σ5)) rfl rfl ?_
  rcases (hE.2.2.2.1 p hp).1 with h3 | ⟨-, t, ht, h5, h6, h7⟩
  · refine TT.ls0 (ls' := [(2, 0), (0, ((p : Nat) : Int)), (0, ((m : Nat) : Int)), (0, 0), (0, -1), (9, 0)]) (by rw [h3]) ?_
    refine TT.steps (cd := cd212) 9 (c' := (46, [(2, 0), (0, ((p : Nat) : Int)), (0, ((m : Nat) : Int)), (0, 0), (0, -1), (9, 0)], [(0, ((p : Nat) : Int)), (2, 247)], σ5)) rfl rfl ?_
    refine TT.aldN (cd := cd212) (247) (p) rfl rfl rfl rfl (show p < 10 by omega) ?_
    refine TT.top0 (z := ((mDay (up2 ρ 295 57 ((m : Nat) : Int)) b 0 np nt L) 334 p)) (hE.2.2.2.1 p hp).2.2.1 ?_
    refine TT.steps (cd := cd212) 1 (c' := (49, [(2, 0), (0, ((p : Nat) : Int)), (0, ((m : Nat) : Int)), (0, 0), (0, -1), (9, 0)], [(0, ((mDay (up2 ρ 295 57 ((m : Nat) : Int)) b 0 np nt L) 334 p))], σ5)) rfl rfl ?_
    exact TT.ret (cd := cd212) rfl rfl rfl rfl ⟨hQ3, Or.inl ⟨h3, rfl⟩⟩
  · refine TT.ls0 (ls' := [(2, 0), (0, ((p : Nat) : Int)), (0, ((m : Nat) : Int)), (0, 0), (0, ((t : Nat) : Int)), (9, 0)]) (by rw [h5]) ?_
    obtain ⟨x, hx1, e1, e2, -⟩ := hE.1 t ht
    have hx2 : 1 ≤ x := by omega
    have hx3 : x < L t := by omega
    have hL8 := (hTr t ht).2.2.2.1
    have h251 : σ5 251 t = aAdd ((mDay (up2 ρ 295 57 ((m : Nat) : Int)) b 0 np nt L) 326 (8 * t + x - 1)) (if (mDay (up2 ρ 295 57 ((m : Nat) : Int)) b 0 np nt L) 325 (8 * t + x - 1) = 1 ∧ 1 < x then (mDay (up2 ρ 295 57 ((m : Nat) : Int)) b 0 np nt L) 299 b else 0) := by
      have h0 := hE.2.2.2.2.2.2.2.2.2 t (x - 1) ht (by rw [e2]; omega)
      rw [h0, show 8 * t + (x - 1) = 8 * t + x - 1 by omega]
      exact congrArg _ (if_cg (and_congr_right (fun _ => by omega)))
    refine TT.steps (cd := cd212) 3 (c' := ((if decide (¬ ((t : Nat) : Int) = (-1)) = true then 50 else 40), [(2, 0), (0, ((p : Nat) : Int)), (0, ((m : Nat) : Int)), (0, 0), (0, ((t : Nat) : Int)), (9, 0)], [], σ5)) rfl rfl ?_
    refine TT.br (p := ¬ ((t : Nat) : Int) = (-1)) (fun h7 => ?_) (fun h7 => absurd (show ¬ ((t : Nat) : Int) = (-1) by omega) h7)
    refine TT.steps (cd := cd212) 4 (c' := (54, [(2, 0), (0, ((p : Nat) : Int)), (0, ((m : Nat) : Int)), (0, 0), (0, ((t : Nat) : Int)), (9, 0)], [(0, ((t : Nat) : Int)), (2, 250)], σ5)) rfl rfl ?_
    refine TT.aldN (cd := cd212) (250) (t) rfl rfl rfl rfl (show t < 6 by omega) ?_
    refine TT.top0 (z := ((x : Nat) : Int)) e1 ?_
    refine TT.steps (cd := cd212) 2 (c' := (57, [(2, 0), (0, ((p : Nat) : Int)), (0, ((m : Nat) : Int)), (0, 0), (0, ((t : Nat) : Int)), (9, 0)], [(0, (aSub ((x : Nat) : Int) 1))], σ5)) rfl rfl ?_
    refine TT.top0 (z := ((x - 1 : Nat) : Int)) (aSub_n (a := x) (b := 1) (by omega) (by omega)) ?_
    refine TT.steps (cd := cd212) 6 (c' := (63, [(2, 0), (0, ((p : Nat) : Int)), (0, ((m : Nat) : Int)), (0, 0), (0, ((t : Nat) : Int)), (0, ((x - 1 : Nat) : Int))], [(0, ((t : Nat) : Int)), (2, 251), (0, ((m : Nat) : Int))], σ5)) rfl rfl ?_
    refine TT.aldN (cd := cd212) (251) (t) rfl rfl rfl rfl (show t < 6 by omega) ?_
    refine TT.top0 (z := (aAdd ((mDay (up2 ρ 295 57 ((m : Nat) : Int)) b 0 np nt L) 326 (8 * t + x - 1)) (if (mDay (up2 ρ 295 57 ((m : Nat) : Int)) b 0 np nt L) 325 (8 * t + x - 1) = 1 ∧ 1 < x then (mDay (up2 ρ 295 57 ((m : Nat) : Int)) b 0 np nt L) 299 b else 0))) h251 ?_
    refine TT.steps (cd := cd212) 1 (c' := ((if decide ((aAdd ((mDay (up2 ρ 295 57 ((m : Nat) : Int)) b 0 np nt L) 326 (8 * t + x - 1)) (if (mDay (up2 ρ 295 57 ((m : Nat) : Int)) b 0 np nt L) 325 (8 * t + x - 1) = 1 ∧ 1 < x then (mDay (up2 ρ 295 57 ((m : Nat) : Int)) b 0 np nt L) 299 b else 0)) < ((m : Nat) : Int)) = true then 82 else 65), [(2, 0), (0, ((p : Nat) : Int)), (0, ((m : Nat) : Int)), (0, 0), (0, ((t : Nat) : Int)), (0, ((x - 1 : Nat) : Int))], [], σ5)) rfl rfl ?_
    refine TT.br (p := (aAdd ((mDay (up2 ρ 295 57 ((m : Nat) : Int)) b 0 np nt L) 326 (8 * t + x - 1)) (if (mDay (up2 ρ 295 57 ((m : Nat) : Int)) b 0 np nt L) 325 (8 * t + x - 1) = 1 ∧ 1 < x then (mDay (up2 ρ 295 57 ((m : Nat) : Int)) b 0 np nt L) 299 b else 0)) < ((m : Nat) : Int)) (fun h8 => ?_) (fun h8 => ?_)
    · refine TT.steps (cd := cd212) 5 (c' := (87, [(2, 0), (0, ((p : Nat) : Int)), (0, ((m : Nat) : Int)), (0, 0), (0, ((t : Nat) : Int)), (0, ((x - 1 : Nat) : Int))], [(0, (aAdd ((x - 1 : Nat) : Int) 0)), (0, ((t : Nat) : Int)), (2, 0)], σ5)) rfl rfl ?_
      refine TT.top0 (z := (((x - 1) + 0 : Nat) : Int)) (aAdd_n (a := x - 1) (b := 0) (by omega)) ?_
      refine TT.call (cd := cd212) rfl rfl rfl (by decide) rfl (w_isCall X hl t (((x - 1) + 0 : Nat) : Int) σ5 ((hG3.1 _ _ (by omega)).trans ((hF1 _ _ (by omega)).trans h05)) nt ((hG3.1 _ _ (by omega)).trans ((hF1 _ _ (by omega)).trans a2)) c2 ht) (fun r9 σ9 hq => ?_)
      rw [hq.1, hq.2, hG3.1 _ _ (by omega), hF1 _ _ (by omega), (hTr t ht).1, if_pos ⟨by omega, by omega⟩]
      refine TT.steps (cd := cd212) 3 (c' := (91, [(2, 0), (0, ((p : Nat) : Int)), (0, ((m : Nat) : Int)), (0, 0), (0, ((t : Nat) : Int)), (0, ((x - 1 : Nat) : Int))], [(2, (σ5 0 5))], σ5)) rfl rfl ?_
      refine TT.top0 (z := 8) (((hG3.1 0 (5) (by omega)).trans (hF1 0 (5) (by omega))).trans h05) ?_
      refine TT.steps (cd := cd212) 2 (c' := (93, [(2, 0), (0, ((p : Nat) : Int)), (0, ((m : Nat) : Int)), (0, 0), (0, ((t : Nat) : Int)), (0, ((x - 1 : Nat) : Int))], [(0, ((t : Nat) : Int)), (2, 16)], σ5)) rfl rfl ?_
      refine TT.aaldN (cd := cd212) 16 (t) (17 + t) rfl rfl rfl (Or.inr rfl) (show t < 6 by omega) (fxg_16 t (by omega)) ?_
      refine TT.steps (cd := cd212) 3 (c' := (97, [(2, 0), (0, ((p : Nat) : Int)), (0, ((m : Nat) : Int)), (0, 0), (0, ((t : Nat) : Int)), (0, ((x - 1 : Nat) : Int))], [(0, (aAdd ((x - 1 : Nat) : Int) 0)), (2, ((17 + t : Nat) : Int))], σ5)) rfl rfl ?_
      refine TT.top0 (z := (((x - 1) + 0 : Nat) : Int)) (aAdd_n (a := x - 1) (b := 0) (by omega)) ?_
      refine TT.aldN (cd := cd212) (17 + t) ((x - 1) + 0) rfl rfl rfl (kdg_16 t (by omega)).1 (show (x - 1) + 0 < ln (17 + t) by rw [(kdg_16 t (by omega)).2]; omega) ?_
      refine TT.top0 (z := (((C t ((x - 1) + 0)) : Nat) : Int)) (((hG3.1 (17 + t) ((x - 1) + 0) (by omega)).trans (hF1 (17 + t) ((x - 1) + 0) (by omega))).trans (hCa t ((x - 1) + 0) ht (by omega)).1) ?_
      refine TT.steps (cd := cd212) 1 (c' := (100, [(2, 0), (0, ((p : Nat) : Int)), (0, ((m : Nat) : Int)), (0, 0), (0, ((t : Nat) : Int)), (0, ((x - 1 : Nat) : Int))], [(0, (((C t ((x - 1) + 0)) : Nat) : Int))], σ5)) rfl rfl ?_
      refine TT.ret (cd := cd212) rfl rfl rfl rfl ⟨hQ3, Or.inr ⟨t, x, ht, hx2, hx3, h5, e2, ?_⟩⟩
      rw [(hCa t (x - 1) ht (by omega)).2.1]
      try rfl
    · refine TT.steps (cd := cd212) 5 (c' := (70, [(2, 0), (0, ((p : Nat) : Int)), (0, ((m : Nat) : Int)), (0, 0), (0, ((t : Nat) : Int)), (0, ((x - 1 : Nat) : Int))], [(0, ((x - 1 : Nat) : Int)), (0, ((t : Nat) : Int)), (2, 0)], σ5)) rfl rfl ?_
      refine TT.call (cd := cd212) rfl rfl rfl (by decide) rfl (w_isCall X hl t ((x - 1 : Nat) : Int) σ5 ((hG3.1 _ _ (by omega)).trans ((hF1 _ _ (by omega)).trans h05)) nt ((hG3.1 _ _ (by omega)).trans ((hF1 _ _ (by omega)).trans a2)) c2 ht) (fun r10 σ10 hq => ?_)
      rw [hq.1, hq.2, hG3.1 _ _ (by omega), hF1 _ _ (by omega), (hTr t ht).1, if_pos ⟨by omega, by omega⟩]
      refine TT.steps (cd := cd212) 3 (c' := (74, [(2, 0), (0, ((p : Nat) : Int)), (0, ((m : Nat) : Int)), (0, 0), (0, ((t : Nat) : Int)), (0, ((x - 1 : Nat) : Int))], [(2, (σ5 0 5))], σ5)) rfl rfl ?_
      refine TT.top0 (z := 8) (((hG3.1 0 (5) (by omega)).trans (hF1 0 (5) (by omega))).trans h05) ?_
      refine TT.steps (cd := cd212) 2 (c' := (76, [(2, 0), (0, ((p : Nat) : Int)), (0, ((m : Nat) : Int)), (0, 0), (0, ((t : Nat) : Int)), (0, ((x - 1 : Nat) : Int))], [(0, ((t : Nat) : Int)), (2, 16)], σ5)) rfl rfl ?_
      refine TT.aaldN (cd := cd212) 16 (t) (17 + t) rfl rfl rfl (Or.inr rfl) (show t < 6 by omega) (fxg_16 t (by omega)) ?_
      refine TT.steps (cd := cd212) 1 (c' := (78, [(2, 0), (0, ((p : Nat) : Int)), (0, ((m : Nat) : Int)), (0, 0), (0, ((t : Nat) : Int)), (0, ((x - 1 : Nat) : Int))], [(0, ((x - 1 : Nat) : Int)), (2, ((17 + t : Nat) : Int))], σ5)) rfl rfl ?_
      refine TT.aldN (cd := cd212) (17 + t) (x - 1) rfl rfl rfl (kdg_16 t (by omega)).1 (show x - 1 < ln (17 + t) by rw [(kdg_16 t (by omega)).2]; omega) ?_
      refine TT.top0 (z := (((C t (x - 1)) : Nat) : Int)) (((hG3.1 (17 + t) (x - 1) (by omega)).trans (hF1 (17 + t) (x - 1) (by omega))).trans (hCa t (x - 1) ht (by omega)).1) ?_
      refine TT.steps (cd := cd212) 1 (c' := (81, [(2, 0), (0, ((p : Nat) : Int)), (0, ((m : Nat) : Int)), (0, 0), (0, ((t : Nat) : Int)), (0, ((x - 1 : Nat) : Int))], [(0, (((C t (x - 1)) : Nat) : Int))], σ5)) rfl rfl ?_
      refine TT.ret (cd := cd212) rfl rfl rfl rfl ⟨hQ3, Or.inr ⟨t, x, ht, hx2, hx3, h5, e2, ?_⟩⟩
      rw [(hCa t (x - 1) ht (by omega)).2.1]
      try rfl
theorem K_child0_170 (X : AX) {σ ρ : AH} {b np nt ns : Nat} {L : Nat → Nat} {C : Nat → Nat → Nat} {w tp u tl oc : Nat} (h : IV σ ρ 170 b np nt ns L C w tp u tl oc) (p m : Nat) (hp : p < np) (hm : m ≤ 9999)  : TT X 212 (0, [(2, 0), (0, ((p : Nat) : Int)), (0, ((m : Nat) : Int)), (0, 0), (9, 0), (9, 0)], [], σ) (fun r σ' => QS σ σ' ∧ (((mDay (up2 ρ 295 57 ((m : Nat) : Int)) b 0 np nt L) 333 p = -1 ∧ r = some (0, (mDay (up2 ρ 295 57 ((m : Nat) : Int)) b 0 np nt L) 334 p)) ∨ (∃ t x : Nat, t < nt ∧ 1 ≤ x ∧ x < L t ∧ (mDay (up2 ρ 295 57 ((m : Nat) : Int)) b 0 np nt L) 333 p = (t : Int) ∧ (mDay (up2 ρ 295 57 ((m : Nat) : Int)) b 0 np nt L) 323 t = (x : Int) ∧ r = some (0, ρ 305 (8 * (6 * b + t) + (x - 1)))))) := by
  obtain ⟨⟨hl, h05, h33⟩, hL, hN, hPT, hF, hA, hTp, hO, hM, hH⟩ := id h
  obtain ⟨⟨a1, a2, a3, a4⟩, ⟨b1, b2, b3, b4, b5⟩, ⟨c1, c2, c3, c4, c5⟩, hTr, hCa, hAf, hPr, hDi⟩ := id hL
  obtain ⟨hPb, ⟨y1, y2, y3⟩, hhi, hPp⟩ := id hPT
  refine TT.steps (cd := cd212) 2 (c' := (2, [(2, 0), (0, ((p : Nat) : Int)), (0, ((m : Nat) : Int)), (0, 0), (9, 0), (9, 0)], [(0, ((p : Nat) : Int)), (2, 0)], σ)) rfl rfl ?_
  refine TT.call (cd := cd212) rfl rfl rfl (by decide) rfl (w_isPerson X ((p : Nat) : Int) σ) (fun r1 σ1 hq => ?_)
  rw [hq.1, hq.2, hPb.1, if_pos ⟨by omega, by omega⟩]
  refine TT.steps (cd := cd212) 3 (c' := ((if decide (((m : Nat) : Int) < 0) = true then 14 else 6), [(2, 0), (0, ((p : Nat) : Int)), (0, ((m : Nat) : Int)), (0, 0), (9, 0), (9, 0)], [], σ)) rfl rfl ?_
  refine TT.br (p := ((m : Nat) : Int) < 0) (fun h2 => absurd h2 (show ¬ (((m : Nat) : Int) < 0) by omega)) (fun h2 => ?_)
  refine TT.steps (cd := cd212) 3 (c' := ((if decide (9999 < ((m : Nat) : Int)) = true then 14 else 9), [(2, 0), (0, ((p : Nat) : Int)), (0, ((m : Nat) : Int)), (0, 0), (9, 0), (9, 0)], [], σ)) rfl rfl ?_
  refine TT.br (p := 9999 < ((m : Nat) : Int)) (fun h3 => absurd h3 (show ¬ (9999 < ((m : Nat) : Int)) by omega)) (fun h3 => ?_)
  refine TT.steps (cd := cd212) 9 (c' := (20, [(2, 0), (0, ((p : Nat) : Int)), (0, ((m : Nat) : Int)), (0, 0), (9, 0), (9, 0)], [(2, (σ 0 5)), (2, 198)], σ)) rfl rfl ?_
  refine TT.top0 (z := 170) h05 ?_
  refine TT.steps (cd := cd212) 2 (c' := (22, [(2, 0), (0, ((p : Nat) : Int)), (0, ((m : Nat) : Int)), (0, 0), (9, 0), (9, 0)], [(2, 36), (2, 170), (2, 198)], σ)) rfl rfl ?_
  refine TT.call (cd := cd212) rfl rfl rfl (by decide) rfl (v_prep X hl (Or.inl rfl) hL hPb) (fun r4 σ4 hq => ?_)
  obtain ⟨rfl, hP1, hF1⟩ := hq
  have hL5 : LT σ4 (up2 ρ 295 57 ((m : Nat) : Int)) 170 b np nt ns L C := LT_mv hl hL (fun K j hK => hF1 K j (by omega)) (fun K j hK => up2_far _ _ _ _ (by omega)) (up2_nq _ (by omega))
  have hPb5 : PTb σ4 (up2 ρ 295 57 ((m : Nat) : Int)) 36 0 np ns := PTb_mv hPb (fun K j hK => hF1 K j (by omega)) (fun K j hK => up2_far _ _ _ _ (by omega))
  have z1 : ((bs (zH ρ 0) np : Nat) : Int) = ((bs (zH (up2 ρ 295 57 ((m : Nat) : Int)) 0) np : Nat) : Int) := congrArg (fun x : Nat => (x : Int)) (bs_c (fun p _ => by show decide _ = decide _; rw [up2_far _ _ _ _ (by decide)]))
  have z2 : (0 : Int) = ((bs (zK (up2 ρ 295 57 ((m : Nat) : Int))) np : Nat) : Int) := (zK_no ((up2_nq _ (by omega)).trans hF.2.1) np).symm
  have z3 : (0 : Int) = ((bs (zAb (up2 ρ 295 57 ((m : Nat) : Int))) np : Nat) : Int) := (zAb_no ((up2_nq _ (by omega)).trans hF.1) np).symm
  have hgo := v_go X hl (Or.inl rfl) hP1 hL5 hPb5 (U := ((m : Nat) : Int)) (Or.inr ⟨up2_hit _ _ _ _, by omega⟩)
  refine TT.steps (cd := cd212) 5 (c' := (28, [(2, 0), (0, ((p : Nat) : Int)), (0, ((m : Nat) : Int)), (0, 0), (9, 0), (9, 0)], [(0, (σ4 36 2)), (2, 198)], σ4)) rfl rfl ?_
  refine TT.top0 (z := ((bs (zH ρ 0) np : Nat) : Int)) ((hF1 36 (2) (by omega)).trans hhi) ?_
  refine TT.steps (cd := cd212) 3 (c' := (31, [(2, 0), (0, ((p : Nat) : Int)), (0, ((m : Nat) : Int)), (0, 0), (9, 0), (9, 0)], [(0, ((m : Nat) : Int)), (0, 0), (0, 0), (0, ((bs (zH ρ 0) np : Nat) : Int)), (2, 198)], σ4)) rfl rfl ?_
  refine TT.st0 (st' := [(0, ((m : Nat) : Int)), (0, ((bs (zK (up2 ρ 295 57 ((m : Nat) : Int))) np : Nat) : Int)), (0, ((bs (zAb (up2 ρ 295 57 ((m : Nat) : Int))) np : Nat) : Int)), (0, ((bs (zH (up2 ρ 295 57 ((m : Nat) : Int)) 0) np : Nat) : Int)), (2, 198)]) (by rw [← z1, ← z2, ← z3]) ?_
  refine TT.call (cd := cd212) rfl rfl rfl (by decide) rfl (hgo) (fun r5 σ5 hq => ?_)
  obtain ⟨rfl, hG3, hD3⟩ := hq
  obtain ⟨⟨n1, hn1, hE⟩, -, -⟩ := id hD3
  have hQ3 : QS σ σ5 := fun K j hK => (hG3.1 K j (by omega)).trans (hF1 K j (by omega))
  refine TT.steps (cd := cd212) 3 (c' := (35, [(2, 0), (0, ((p : Nat) : Int)), (0, ((m : Nat) : Int)), (0, 0), (9, 0), (9, 0)], [(0, ((p : Nat) : Int)), (2, 198)], σ5)) rfl rfl ?_
  refine TT.call (cd := cd212) rfl rfl rfl (by decide) rfl (u_trOf_170 X p np nt (fun p => (mDay (up2 ρ 295 57 ((m : Nat) : Int)) b 0 np nt L) 333 p) σ5 hp c1 c2 (hG3.2.1.trans hP1.1.1) ((hG3.1 _ _ (by omega)).trans ((hF1 _ _ (by omega)).trans a2)) hE.2.1 (by rcases (hE.2.2.2.1 p hp).1 with h3 | ⟨-, t, h4, h5, -⟩; exact Or.inl h3; exact Or.inr ⟨t, h4, h5⟩)) (fun r6 σ6 hq => ?_)
  rw [hq.1, hq.2]
  refine TT.steps (cd := cd212) 1 (c' := (37, [(2, 0), (0, ((p : Nat) : Int)), (0, ((m : Nat) : Int)), (0, 0), (0, ((mDay (up2 ρ 295 57 ((m : Nat) : Int)) b 0 np nt L) 333 p)), (9, 0)], [], σ5)) rfl rfl ?_
  rcases (hE.2.2.2.1 p hp).1 with h3 | ⟨-, t, ht, h5, h6, h7⟩
  · refine TT.ls0 (ls' := [(2, 0), (0, ((p : Nat) : Int)), (0, ((m : Nat) : Int)), (0, 0), (0, -1), (9, 0)]) (by rw [h3]) ?_
    refine TT.steps (cd := cd212) 9 (c' := (46, [(2, 0), (0, ((p : Nat) : Int)), (0, ((m : Nat) : Int)), (0, 0), (0, -1), (9, 0)], [(0, ((p : Nat) : Int)), (2, 247)], σ5)) rfl rfl ?_
    refine TT.aldN (cd := cd212) (247) (p) rfl rfl rfl rfl (show p < 10 by omega) ?_
    refine TT.top0 (z := ((mDay (up2 ρ 295 57 ((m : Nat) : Int)) b 0 np nt L) 334 p)) (hE.2.2.2.1 p hp).2.2.1 ?_
    refine TT.steps (cd := cd212) 1 (c' := (49, [(2, 0), (0, ((p : Nat) : Int)), (0, ((m : Nat) : Int)), (0, 0), (0, -1), (9, 0)], [(0, ((mDay (up2 ρ 295 57 ((m : Nat) : Int)) b 0 np nt L) 334 p))], σ5)) rfl rfl ?_
    exact TT.ret (cd := cd212) rfl rfl rfl rfl ⟨hQ3, Or.inl ⟨h3, rfl⟩⟩
  · refine TT.ls0 (ls' := [(2, 0), (0, ((p : Nat) : Int)), (0, ((m : Nat) : Int)), (0, 0), (0, ((t : Nat) : Int)), (9, 0)]) (by rw [h5]) ?_
    obtain ⟨x, hx1, e1, e2, -⟩ := hE.1 t ht
    have hx2 : 1 ≤ x := by omega
    have hx3 : x < L t := by omega
    have hL8 := (hTr t ht).2.2.2.1
    have h251 : σ5 251 t = aAdd ((mDay (up2 ρ 295 57 ((m : Nat) : Int)) b 0 np nt L) 326 (8 * t + x - 1)) (if (mDay (up2 ρ 295 57 ((m : Nat) : Int)) b 0 np nt L) 325 (8 * t + x - 1) = 1 ∧ 1 < x then (mDay (up2 ρ 295 57 ((m : Nat) : Int)) b 0 np nt L) 299 b else 0) := by
      have h0 := hE.2.2.2.2.2.2.2.2.2 t (x - 1) ht (by rw [e2]; omega)
      rw [h0, show 8 * t + (x - 1) = 8 * t + x - 1 by omega]
      exact congrArg _ (if_cg (and_congr_right (fun _ => by omega)))
    refine TT.steps (cd := cd212) 3 (c' := ((if decide (¬ ((t : Nat) : Int) = (-1)) = true then 50 else 40), [(2, 0), (0, ((p : Nat) : Int)), (0, ((m : Nat) : Int)), (0, 0), (0, ((t : Nat) : Int)), (9, 0)], [], σ5)) rfl rfl ?_
    refine TT.br (p := ¬ ((t : Nat) : Int) = (-1)) (fun h7 => ?_) (fun h7 => absurd (show ¬ ((t : Nat) : Int) = (-1) by omega) h7)
    refine TT.steps (cd := cd212) 4 (c' := (54, [(2, 0), (0, ((p : Nat) : Int)), (0, ((m : Nat) : Int)), (0, 0), (0, ((t : Nat) : Int)), (9, 0)], [(0, ((t : Nat) : Int)), (2, 250)], σ5)) rfl rfl ?_
    refine TT.aldN (cd := cd212) (250) (t) rfl rfl rfl rfl (show t < 6 by omega) ?_
    refine TT.top0 (z := ((x : Nat) : Int)) e1 ?_
    refine TT.steps (cd := cd212) 2 (c' := (57, [(2, 0), (0, ((p : Nat) : Int)), (0, ((m : Nat) : Int)), (0, 0), (0, ((t : Nat) : Int)), (9, 0)], [(0, (aSub ((x : Nat) : Int) 1))], σ5)) rfl rfl ?_
    refine TT.top0 (z := ((x - 1 : Nat) : Int)) (aSub_n (a := x) (b := 1) (by omega) (by omega)) ?_
    refine TT.steps (cd := cd212) 6 (c' := (63, [(2, 0), (0, ((p : Nat) : Int)), (0, ((m : Nat) : Int)), (0, 0), (0, ((t : Nat) : Int)), (0, ((x - 1 : Nat) : Int))], [(0, ((t : Nat) : Int)), (2, 251), (0, ((m : Nat) : Int))], σ5)) rfl rfl ?_
    refine TT.aldN (cd := cd212) (251) (t) rfl rfl rfl rfl (show t < 6 by omega) ?_
    refine TT.top0 (z := (aAdd ((mDay (up2 ρ 295 57 ((m : Nat) : Int)) b 0 np nt L) 326 (8 * t + x - 1)) (if (mDay (up2 ρ 295 57 ((m : Nat) : Int)) b 0 np nt L) 325 (8 * t + x - 1) = 1 ∧ 1 < x then (mDay (up2 ρ 295 57 ((m : Nat) : Int)) b 0 np nt L) 299 b else 0))) h251 ?_
    refine TT.steps (cd := cd212) 1 (c' := ((if decide ((aAdd ((mDay (up2 ρ 295 57 ((m : Nat) : Int)) b 0 np nt L) 326 (8 * t + x - 1)) (if (mDay (up2 ρ 295 57 ((m : Nat) : Int)) b 0 np nt L) 325 (8 * t + x - 1) = 1 ∧ 1 < x then (mDay (up2 ρ 295 57 ((m : Nat) : Int)) b 0 np nt L) 299 b else 0)) < ((m : Nat) : Int)) = true then 82 else 65), [(2, 0), (0, ((p : Nat) : Int)), (0, ((m : Nat) : Int)), (0, 0), (0, ((t : Nat) : Int)), (0, ((x - 1 : Nat) : Int))], [], σ5)) rfl rfl ?_
    refine TT.br (p := (aAdd ((mDay (up2 ρ 295 57 ((m : Nat) : Int)) b 0 np nt L) 326 (8 * t + x - 1)) (if (mDay (up2 ρ 295 57 ((m : Nat) : Int)) b 0 np nt L) 325 (8 * t + x - 1) = 1 ∧ 1 < x then (mDay (up2 ρ 295 57 ((m : Nat) : Int)) b 0 np nt L) 299 b else 0)) < ((m : Nat) : Int)) (fun h8 => ?_) (fun h8 => ?_)
    · refine TT.steps (cd := cd212) 5 (c' := (87, [(2, 0), (0, ((p : Nat) : Int)), (0, ((m : Nat) : Int)), (0, 0), (0, ((t : Nat) : Int)), (0, ((x - 1 : Nat) : Int))], [(0, (aAdd ((x - 1 : Nat) : Int) 0)), (0, ((t : Nat) : Int)), (2, 0)], σ5)) rfl rfl ?_
      refine TT.top0 (z := (((x - 1) + 0 : Nat) : Int)) (aAdd_n (a := x - 1) (b := 0) (by omega)) ?_
      refine TT.call (cd := cd212) rfl rfl rfl (by decide) rfl (w_isCall X hl t (((x - 1) + 0 : Nat) : Int) σ5 ((hG3.1 _ _ (by omega)).trans ((hF1 _ _ (by omega)).trans h05)) nt ((hG3.1 _ _ (by omega)).trans ((hF1 _ _ (by omega)).trans a2)) c2 ht) (fun r9 σ9 hq => ?_)
      rw [hq.1, hq.2, hG3.1 _ _ (by omega), hF1 _ _ (by omega), (hTr t ht).1, if_pos ⟨by omega, by omega⟩]
      refine TT.steps (cd := cd212) 3 (c' := (91, [(2, 0), (0, ((p : Nat) : Int)), (0, ((m : Nat) : Int)), (0, 0), (0, ((t : Nat) : Int)), (0, ((x - 1 : Nat) : Int))], [(2, (σ5 0 5))], σ5)) rfl rfl ?_
      refine TT.top0 (z := 170) (((hG3.1 0 (5) (by omega)).trans (hF1 0 (5) (by omega))).trans h05) ?_
      refine TT.steps (cd := cd212) 2 (c' := (93, [(2, 0), (0, ((p : Nat) : Int)), (0, ((m : Nat) : Int)), (0, 0), (0, ((t : Nat) : Int)), (0, ((x - 1 : Nat) : Int))], [(0, ((t : Nat) : Int)), (2, 178)], σ5)) rfl rfl ?_
      refine TT.aaldN (cd := cd212) 178 (t) (179 + t) rfl rfl rfl (Or.inr rfl) (show t < 6 by omega) (fxg_178 t (by omega)) ?_
      refine TT.steps (cd := cd212) 3 (c' := (97, [(2, 0), (0, ((p : Nat) : Int)), (0, ((m : Nat) : Int)), (0, 0), (0, ((t : Nat) : Int)), (0, ((x - 1 : Nat) : Int))], [(0, (aAdd ((x - 1 : Nat) : Int) 0)), (2, ((179 + t : Nat) : Int))], σ5)) rfl rfl ?_
      refine TT.top0 (z := (((x - 1) + 0 : Nat) : Int)) (aAdd_n (a := x - 1) (b := 0) (by omega)) ?_
      refine TT.aldN (cd := cd212) (179 + t) ((x - 1) + 0) rfl rfl rfl (kdg_178 t (by omega)).1 (show (x - 1) + 0 < ln (179 + t) by rw [(kdg_178 t (by omega)).2]; omega) ?_
      refine TT.top0 (z := (((C t ((x - 1) + 0)) : Nat) : Int)) (((hG3.1 (179 + t) ((x - 1) + 0) (by omega)).trans (hF1 (179 + t) ((x - 1) + 0) (by omega))).trans (hCa t ((x - 1) + 0) ht (by omega)).1) ?_
      refine TT.steps (cd := cd212) 1 (c' := (100, [(2, 0), (0, ((p : Nat) : Int)), (0, ((m : Nat) : Int)), (0, 0), (0, ((t : Nat) : Int)), (0, ((x - 1 : Nat) : Int))], [(0, (((C t ((x - 1) + 0)) : Nat) : Int))], σ5)) rfl rfl ?_
      refine TT.ret (cd := cd212) rfl rfl rfl rfl ⟨hQ3, Or.inr ⟨t, x, ht, hx2, hx3, h5, e2, ?_⟩⟩
      rw [(hCa t (x - 1) ht (by omega)).2.1]
      try rfl
    · refine TT.steps (cd := cd212) 5 (c' := (70, [(2, 0), (0, ((p : Nat) : Int)), (0, ((m : Nat) : Int)), (0, 0), (0, ((t : Nat) : Int)), (0, ((x - 1 : Nat) : Int))], [(0, ((x - 1 : Nat) : Int)), (0, ((t : Nat) : Int)), (2, 0)], σ5)) rfl rfl ?_
      refine TT.call (cd := cd212) rfl rfl rfl (by decide) rfl (w_isCall X hl t ((x - 1 : Nat) : Int) σ5 ((hG3.1 _ _ (by omega)).trans ((hF1 _ _ (by omega)).trans h05)) nt ((hG3.1 _ _ (by omega)).trans ((hF1 _ _ (by omega)).trans a2)) c2 ht) (fun r10 σ10 hq => ?_)
      rw [hq.1, hq.2, hG3.1 _ _ (by omega), hF1 _ _ (by omega), (hTr t ht).1, if_pos ⟨by omega, by omega⟩]
      refine TT.steps (cd := cd212) 3 (c' := (74, [(2, 0), (0, ((p : Nat) : Int)), (0, ((m : Nat) : Int)), (0, 0), (0, ((t : Nat) : Int)), (0, ((x - 1 : Nat) : Int))], [(2, (σ5 0 5))], σ5)) rfl rfl ?_
      refine TT.top0 (z := 170) (((hG3.1 0 (5) (by omega)).trans (hF1 0 (5) (by omega))).trans h05) ?_
      refine TT.steps (cd := cd212) 2 (c' := (76, [(2, 0), (0, ((p : Nat) : Int)), (0, ((m : Nat) : Int)), (0, 0), (0, ((t : Nat) : Int)), (0, ((x - 1 : Nat) : Int))], [(0, ((t : Nat) : Int)), (2, 178)], σ5)) rfl rfl ?_
      refine TT.aaldN (cd := cd212) 178 (t) (179 + t) rfl rfl rfl (Or.inr rfl) (show t < 6 by omega) (fxg_178 t (by omega)) ?_
      refine TT.steps (cd := cd212) 1 (c' := (78, [(2, 0), (0, ((p : Nat) : Int)), (0, ((m : Nat) : Int)), (0, 0), (0, ((t : Nat) : Int)), (0, ((x - 1 : Nat) : Int))], [(0, ((x - 1 : Nat) : Int)), (2, ((179 + t : Nat) : Int))], σ5)) rfl rfl ?_
      refine TT.aldN (cd := cd212) (179 + t) (x - 1) rfl rfl rfl (kdg_178 t (by omega)).1 (show x - 1 < ln (179 + t) by rw [(kdg_178 t (by omega)).2]; omega) ?_
      refine TT.top0 (z := (((C t (x - 1)) : Nat) : Int)) (((hG3.1 (179 + t) (x - 1) (by omega)).trans (hF1 (179 + t) (x - 1) (by omega))).trans (hCa t (x - 1) ht (by omega)).1) ?_
      refine TT.steps (cd := cd212) 1 (c' := (81, [(2, 0), (0, ((p : Nat) : Int)), (0, ((m : Nat) : Int)), (0, 0), (0, ((t : Nat) : Int)), (0, ((x - 1 : Nat) : Int))], [(0, (((C t (x - 1)) : Nat) : Int))], σ5)) rfl rfl ?_
      refine TT.ret (cd := cd212) rfl rfl rfl rfl ⟨hQ3, Or.inr ⟨t, x, ht, hx2, hx3, h5, e2, ?_⟩⟩
      rw [(hCa t (x - 1) ht (by omega)).2.1]
      try rfl
theorem K_child0 (X : AX) {l : Nat} {σ ρ : AH} {b np nt ns : Nat} {L : Nat → Nat} {C : Nat → Nat → Nat} {w tp u tl oc : Nat} (h : IV σ ρ l b np nt ns L C w tp u tl oc) (p m : Nat) (hp : p < np) (hm : m ≤ 9999)  : TT X 212 (0, [(2, 0), (0, ((p : Nat) : Int)), (0, ((m : Nat) : Int)), (0, 0), (9, 0), (9, 0)], [], σ) (fun r σ' => QS σ σ' ∧ (((mDay (up2 ρ 295 57 ((m : Nat) : Int)) b 0 np nt L) 333 p = -1 ∧ r = some (0, (mDay (up2 ρ 295 57 ((m : Nat) : Int)) b 0 np nt L) 334 p)) ∨ (∃ t x : Nat, t < nt ∧ 1 ≤ x ∧ x < L t ∧ (mDay (up2 ρ 295 57 ((m : Nat) : Int)) b 0 np nt L) 333 p = (t : Int) ∧ (mDay (up2 ρ 295 57 ((m : Nat) : Int)) b 0 np nt L) 323 t = (x : Int) ∧ r = some (0, ρ 305 (8 * (6 * b + t) + (x - 1)))))) := by
  rcases h.1.1 with rfl | rfl
  · exact K_child0_8 X h p m hp hm
  · exact K_child0_170 X h p m hp hm
theorem K_child1_8 (X : AX) {σ ρ : AH} {b np nt ns : Nat} {L : Nat → Nat} {C : Nat → Nat → Nat} {w tp u tl oc : Nat} (h : IV σ ρ 8 b np nt ns L C w tp u tl oc) (p m : Nat) (hp : p < np) (hm : m ≤ 9999)  : TT X 212 (0, [(2, 0), (0, ((p : Nat) : Int)), (0, ((m : Nat) : Int)), (0, 1), (9, 0), (9, 0)], [], σ) (fun r σ' => QS σ σ' ∧ (((mDay (up2 ρ 295 57 ((m : Nat) : Int)) b 0 np nt L) 333 p = -1 ∧ r = some (0, -1)) ∨ (∃ t x : Nat, t < nt ∧ 1 ≤ x ∧ x < L t ∧ (mDay (up2 ρ 295 57 ((m : Nat) : Int)) b 0 np nt L) 333 p = (t : Int) ∧ (mDay (up2 ρ 295 57 ((m : Nat) : Int)) b 0 np nt L) 323 t = (x : Int) ∧ r = some (0, if mUW (mDay (up2 ρ 295 57 ((m : Nat) : Int)) b 0 np nt L) b t x ((m : Nat) : Int) then ρ 305 (8 * (6 * b + t) + x) else -1)))) := by
  obtain ⟨⟨hl, h05, h33⟩, hL, hN, hPT, hF, hA, hTp, hO, hM, hH⟩ := id h
  obtain ⟨⟨a1, a2, a3, a4⟩, ⟨b1, b2, b3, b4, b5⟩, ⟨c1, c2, c3, c4, c5⟩, hTr, hCa, hAf, hPr, hDi⟩ := id hL
  obtain ⟨hPb, ⟨y1, y2, y3⟩, hhi, hPp⟩ := id hPT
  refine TT.steps (cd := cd212) 2 (c' := (2, [(2, 0), (0, ((p : Nat) : Int)), (0, ((m : Nat) : Int)), (0, 1), (9, 0), (9, 0)], [(0, ((p : Nat) : Int)), (2, 0)], σ)) rfl rfl ?_
  refine TT.call (cd := cd212) rfl rfl rfl (by decide) rfl (w_isPerson X ((p : Nat) : Int) σ) (fun r1 σ1 hq => ?_)
  rw [hq.1, hq.2, hPb.1, if_pos ⟨by omega, by omega⟩]
  refine TT.steps (cd := cd212) 3 (c' := ((if decide (((m : Nat) : Int) < 0) = true then 14 else 6), [(2, 0), (0, ((p : Nat) : Int)), (0, ((m : Nat) : Int)), (0, 1), (9, 0), (9, 0)], [], σ)) rfl rfl ?_
  refine TT.br (p := ((m : Nat) : Int) < 0) (fun h2 => absurd h2 (show ¬ (((m : Nat) : Int) < 0) by omega)) (fun h2 => ?_)
  refine TT.steps (cd := cd212) 3 (c' := ((if decide (9999 < ((m : Nat) : Int)) = true then 14 else 9), [(2, 0), (0, ((p : Nat) : Int)), (0, ((m : Nat) : Int)), (0, 1), (9, 0), (9, 0)], [], σ)) rfl rfl ?_
  refine TT.br (p := 9999 < ((m : Nat) : Int)) (fun h3 => absurd h3 (show ¬ (9999 < ((m : Nat) : Int)) by omega)) (fun h3 => ?_)
  refine TT.steps (cd := cd212) 9 (c' := (20, [(2, 0), (0, ((p : Nat) : Int)), (0, ((m : Nat) : Int)), (0, 1), (9, 0), (9, 0)], [(2, (σ 0 5)), (2, 198)], σ)) rfl rfl ?_
  refine TT.top0 (z := 8) h05 ?_
  refine TT.steps (cd := cd212) 2 (c' := (22, [(2, 0), (0, ((p : Nat) : Int)), (0, ((m : Nat) : Int)), (0, 1), (9, 0), (9, 0)], [(2, 36), (2, 8), (2, 198)], σ)) rfl rfl ?_
  refine TT.call (cd := cd212) rfl rfl rfl (by decide) rfl (v_prep X hl (Or.inl rfl) hL hPb) (fun r4 σ4 hq => ?_)
  obtain ⟨rfl, hP1, hF1⟩ := hq
  have hL5 : LT σ4 (up2 ρ 295 57 ((m : Nat) : Int)) 8 b np nt ns L C := LT_mv hl hL (fun K j hK => hF1 K j (by omega)) (fun K j hK => up2_far _ _ _ _ (by omega)) (up2_nq _ (by omega))
  have hPb5 : PTb σ4 (up2 ρ 295 57 ((m : Nat) : Int)) 36 0 np ns := PTb_mv hPb (fun K j hK => hF1 K j (by omega)) (fun K j hK => up2_far _ _ _ _ (by omega))
  have z1 : ((bs (zH ρ 0) np : Nat) : Int) = ((bs (zH (up2 ρ 295 57 ((m : Nat) : Int)) 0) np : Nat) : Int) := congrArg (fun x : Nat => (x : Int)) (bs_c (fun p _ => by show decide _ = decide _; rw [up2_far _ _ _ _ (by decide)]))
  have z2 : (0 : Int) = ((bs (zK (up2 ρ 295 57 ((m : Nat) : Int))) np : Nat) : Int) := (zK_no ((up2_nq _ (by omega)).trans hF.2.1) np).symm
  have z3 : (0 : Int) = ((bs (zAb (up2 ρ 295 57 ((m : Nat) : Int))) np : Nat) : Int) := (zAb_no ((up2_nq _ (by omega)).trans hF.1) np).symm
  have hgo := v_go X hl (Or.inl rfl) hP1 hL5 hPb5 (U := ((m : Nat) : Int)) (Or.inr ⟨up2_hit _ _ _ _, by omega⟩)
  refine TT.steps (cd := cd212) 5 (c' := (28, [(2, 0), (0, ((p : Nat) : Int)), (0, ((m : Nat) : Int)), (0, 1), (9, 0), (9, 0)], [(0, (σ4 36 2)), (2, 198)], σ4)) rfl rfl ?_
  refine TT.top0 (z := ((bs (zH ρ 0) np : Nat) : Int)) ((hF1 36 (2) (by omega)).trans hhi) ?_
  refine TT.steps (cd := cd212) 3 (c' := (31, [(2, 0), (0, ((p : Nat) : Int)), (0, ((m : Nat) : Int)), (0, 1), (9, 0), (9, 0)], [(0, ((m : Nat) : Int)), (0, 0), (0, 0), (0, ((bs (zH ρ 0) np : Nat) : Int)), (2, 198)], σ4)) rfl rfl ?_
  refine TT.st0 (st' := [(0, ((m : Nat) : Int)), (0, ((bs (zK (up2 ρ 295 57 ((m : Nat) : Int))) np : Nat) : Int)), (0, ((bs (zAb (up2 ρ 295 57 ((m : Nat) : Int))) np : Nat) : Int)), (0, ((bs (zH (up2 ρ 295 57 ((m : Nat) : Int)) 0) np : Nat) : Int)), (2, 198)]) (by rw [← z1, ← z2, ← z3]) ?_
  refine TT.call (cd := cd212) rfl rfl rfl (by decide) rfl (hgo) (fun r5 σ5 hq => ?_)
  obtain ⟨rfl, hG3, hD3⟩ := hq
  obtain ⟨⟨n1, hn1, hE⟩, -, -⟩ := id hD3
  have hQ3 : QS σ σ5 := fun K j hK => (hG3.1 K j (by omega)).trans (hF1 K j (by omega))
  refine TT.steps (cd := cd212) 3 (c' := (35, [(2, 0), (0, ((p : Nat) : Int)), (0, ((m : Nat) : Int)), (0, 1), (9, 0), (9, 0)], [(0, ((p : Nat) : Int)), (2, 198)], σ5)) rfl rfl ?_
  refine TT.call (cd := cd212) rfl rfl rfl (by decide) rfl (u_trOf_8 X p np nt (fun p => (mDay (up2 ρ 295 57 ((m : Nat) : Int)) b 0 np nt L) 333 p) σ5 hp c1 c2 (hG3.2.1.trans hP1.1.1) ((hG3.1 _ _ (by omega)).trans ((hF1 _ _ (by omega)).trans a2)) hE.2.1 (by rcases (hE.2.2.2.1 p hp).1 with h3 | ⟨-, t, h4, h5, -⟩; exact Or.inl h3; exact Or.inr ⟨t, h4, h5⟩)) (fun r6 σ6 hq => ?_)
  rw [hq.1, hq.2]
  refine TT.steps (cd := cd212) 1 (c' := (37, [(2, 0), (0, ((p : Nat) : Int)), (0, ((m : Nat) : Int)), (0, 1), (0, ((mDay (up2 ρ 295 57 ((m : Nat) : Int)) b 0 np nt L) 333 p)), (9, 0)], [], σ5)) rfl rfl ?_
  rcases (hE.2.2.2.1 p hp).1 with h3 | ⟨-, t, ht, h5, h6, h7⟩
  · refine TT.ls0 (ls' := [(2, 0), (0, ((p : Nat) : Int)), (0, ((m : Nat) : Int)), (0, 1), (0, -1), (9, 0)]) (by rw [h3]) ?_
    refine TT.steps (cd := cd212) 6 (c' := (49, [(2, 0), (0, ((p : Nat) : Int)), (0, ((m : Nat) : Int)), (0, 1), (0, -1), (9, 0)], [(0, -1)], σ5)) rfl rfl ?_
    exact TT.ret (cd := cd212) rfl rfl rfl rfl ⟨hQ3, Or.inl ⟨h3, rfl⟩⟩
  · refine TT.ls0 (ls' := [(2, 0), (0, ((p : Nat) : Int)), (0, ((m : Nat) : Int)), (0, 1), (0, ((t : Nat) : Int)), (9, 0)]) (by rw [h5]) ?_
    obtain ⟨x, hx1, e1, e2, -⟩ := hE.1 t ht
    have hx2 : 1 ≤ x := by omega
    have hx3 : x < L t := by omega
    have hL8 := (hTr t ht).2.2.2.1
    have h251 : σ5 251 t = aAdd ((mDay (up2 ρ 295 57 ((m : Nat) : Int)) b 0 np nt L) 326 (8 * t + x - 1)) (if (mDay (up2 ρ 295 57 ((m : Nat) : Int)) b 0 np nt L) 325 (8 * t + x - 1) = 1 ∧ 1 < x then (mDay (up2 ρ 295 57 ((m : Nat) : Int)) b 0 np nt L) 299 b else 0) := by
      have h0 := hE.2.2.2.2.2.2.2.2.2 t (x - 1) ht (by rw [e2]; omega)
      rw [h0, show 8 * t + (x - 1) = 8 * t + x - 1 by omega]
      exact congrArg _ (if_cg (and_congr_right (fun _ => by omega)))
    refine TT.steps (cd := cd212) 3 (c' := ((if decide (¬ ((t : Nat) : Int) = (-1)) = true then 50 else 40), [(2, 0), (0, ((p : Nat) : Int)), (0, ((m : Nat) : Int)), (0, 1), (0, ((t : Nat) : Int)), (9, 0)], [], σ5)) rfl rfl ?_
    refine TT.br (p := ¬ ((t : Nat) : Int) = (-1)) (fun h7 => ?_) (fun h7 => absurd (show ¬ ((t : Nat) : Int) = (-1) by omega) h7)
    refine TT.steps (cd := cd212) 4 (c' := (54, [(2, 0), (0, ((p : Nat) : Int)), (0, ((m : Nat) : Int)), (0, 1), (0, ((t : Nat) : Int)), (9, 0)], [(0, ((t : Nat) : Int)), (2, 250)], σ5)) rfl rfl ?_
    refine TT.aldN (cd := cd212) (250) (t) rfl rfl rfl rfl (show t < 6 by omega) ?_
    refine TT.top0 (z := ((x : Nat) : Int)) e1 ?_
    refine TT.steps (cd := cd212) 2 (c' := (57, [(2, 0), (0, ((p : Nat) : Int)), (0, ((m : Nat) : Int)), (0, 1), (0, ((t : Nat) : Int)), (9, 0)], [(0, (aSub ((x : Nat) : Int) 1))], σ5)) rfl rfl ?_
    refine TT.top0 (z := ((x - 1 : Nat) : Int)) (aSub_n (a := x) (b := 1) (by omega) (by omega)) ?_
    refine TT.steps (cd := cd212) 6 (c' := (63, [(2, 0), (0, ((p : Nat) : Int)), (0, ((m : Nat) : Int)), (0, 1), (0, ((t : Nat) : Int)), (0, ((x - 1 : Nat) : Int))], [(0, ((t : Nat) : Int)), (2, 251), (0, ((m : Nat) : Int))], σ5)) rfl rfl ?_
    refine TT.aldN (cd := cd212) (251) (t) rfl rfl rfl rfl (show t < 6 by omega) ?_
    refine TT.top0 (z := (aAdd ((mDay (up2 ρ 295 57 ((m : Nat) : Int)) b 0 np nt L) 326 (8 * t + x - 1)) (if (mDay (up2 ρ 295 57 ((m : Nat) : Int)) b 0 np nt L) 325 (8 * t + x - 1) = 1 ∧ 1 < x then (mDay (up2 ρ 295 57 ((m : Nat) : Int)) b 0 np nt L) 299 b else 0))) h251 ?_
    refine TT.steps (cd := cd212) 1 (c' := ((if decide ((aAdd ((mDay (up2 ρ 295 57 ((m : Nat) : Int)) b 0 np nt L) 326 (8 * t + x - 1)) (if (mDay (up2 ρ 295 57 ((m : Nat) : Int)) b 0 np nt L) 325 (8 * t + x - 1) = 1 ∧ 1 < x then (mDay (up2 ρ 295 57 ((m : Nat) : Int)) b 0 np nt L) 299 b else 0)) < ((m : Nat) : Int)) = true then 82 else 65), [(2, 0), (0, ((p : Nat) : Int)), (0, ((m : Nat) : Int)), (0, 1), (0, ((t : Nat) : Int)), (0, ((x - 1 : Nat) : Int))], [], σ5)) rfl rfl ?_
    refine TT.br (p := (aAdd ((mDay (up2 ρ 295 57 ((m : Nat) : Int)) b 0 np nt L) 326 (8 * t + x - 1)) (if (mDay (up2 ρ 295 57 ((m : Nat) : Int)) b 0 np nt L) 325 (8 * t + x - 1) = 1 ∧ 1 < x then (mDay (up2 ρ 295 57 ((m : Nat) : Int)) b 0 np nt L) 299 b else 0)) < ((m : Nat) : Int)) (fun h8 => ?_) (fun h8 => ?_)
    · refine TT.steps (cd := cd212) 5 (c' := (87, [(2, 0), (0, ((p : Nat) : Int)), (0, ((m : Nat) : Int)), (0, 1), (0, ((t : Nat) : Int)), (0, ((x - 1 : Nat) : Int))], [(0, (aAdd ((x - 1 : Nat) : Int) 1)), (0, ((t : Nat) : Int)), (2, 0)], σ5)) rfl rfl ?_
      refine TT.top0 (z := (((x - 1) + 1 : Nat) : Int)) (aAdd_n (a := x - 1) (b := 1) (by omega)) ?_
      refine TT.call (cd := cd212) rfl rfl rfl (by decide) rfl (w_isCall X hl t (((x - 1) + 1 : Nat) : Int) σ5 ((hG3.1 _ _ (by omega)).trans ((hF1 _ _ (by omega)).trans h05)) nt ((hG3.1 _ _ (by omega)).trans ((hF1 _ _ (by omega)).trans a2)) c2 ht) (fun r9 σ9 hq => ?_)
      rw [hq.1, hq.2, hG3.1 _ _ (by omega), hF1 _ _ (by omega), (hTr t ht).1, if_pos ⟨by omega, by omega⟩]
      refine TT.steps (cd := cd212) 3 (c' := (91, [(2, 0), (0, ((p : Nat) : Int)), (0, ((m : Nat) : Int)), (0, 1), (0, ((t : Nat) : Int)), (0, ((x - 1 : Nat) : Int))], [(2, (σ5 0 5))], σ5)) rfl rfl ?_
      refine TT.top0 (z := 8) (((hG3.1 0 (5) (by omega)).trans (hF1 0 (5) (by omega))).trans h05) ?_
      refine TT.steps (cd := cd212) 2 (c' := (93, [(2, 0), (0, ((p : Nat) : Int)), (0, ((m : Nat) : Int)), (0, 1), (0, ((t : Nat) : Int)), (0, ((x - 1 : Nat) : Int))], [(0, ((t : Nat) : Int)), (2, 16)], σ5)) rfl rfl ?_
      refine TT.aaldN (cd := cd212) 16 (t) (17 + t) rfl rfl rfl (Or.inr rfl) (show t < 6 by omega) (fxg_16 t (by omega)) ?_
      refine TT.steps (cd := cd212) 3 (c' := (97, [(2, 0), (0, ((p : Nat) : Int)), (0, ((m : Nat) : Int)), (0, 1), (0, ((t : Nat) : Int)), (0, ((x - 1 : Nat) : Int))], [(0, (aAdd ((x - 1 : Nat) : Int) 1)), (2, ((17 + t : Nat) : Int))], σ5)) rfl rfl ?_
      refine TT.top0 (z := (((x - 1) + 1 : Nat) : Int)) (aAdd_n (a := x - 1) (b := 1) (by omega)) ?_
      refine TT.aldN (cd := cd212) (17 + t) ((x - 1) + 1) rfl rfl rfl (kdg_16 t (by omega)).1 (show (x - 1) + 1 < ln (17 + t) by rw [(kdg_16 t (by omega)).2]; omega) ?_
      refine TT.top0 (z := (((C t ((x - 1) + 1)) : Nat) : Int)) (((hG3.1 (17 + t) ((x - 1) + 1) (by omega)).trans (hF1 (17 + t) ((x - 1) + 1) (by omega))).trans (hCa t ((x - 1) + 1) ht (by omega)).1) ?_
      refine TT.steps (cd := cd212) 1 (c' := (100, [(2, 0), (0, ((p : Nat) : Int)), (0, ((m : Nat) : Int)), (0, 1), (0, ((t : Nat) : Int)), (0, ((x - 1 : Nat) : Int))], [(0, (((C t ((x - 1) + 1)) : Nat) : Int))], σ5)) rfl rfl ?_
      refine TT.ret (cd := cd212) rfl rfl rfl rfl ⟨hQ3, Or.inr ⟨t, x, ht, hx2, hx3, h5, e2, ?_⟩⟩
      first | (rw [if_neg (by omega)]; done) | (rw [if_pos (by omega), (hCa t x ht (by omega)).2.1, show x - 1 + 1 = x by omega])
    · refine TT.steps (cd := cd212) 3 (c' := (81, [(2, 0), (0, ((p : Nat) : Int)), (0, ((m : Nat) : Int)), (0, 1), (0, ((t : Nat) : Int)), (0, ((x - 1 : Nat) : Int))], [(0, -1)], σ5)) rfl rfl ?_
      refine TT.ret (cd := cd212) rfl rfl rfl rfl ⟨hQ3, Or.inr ⟨t, x, ht, hx2, hx3, h5, e2, ?_⟩⟩
      first | (rw [if_neg (by omega)]; done) | (rw [if_pos (by omega), (hCa t x ht (by omega)).2.1, show x - 1 + 1 = x by omega])
theorem K_child1_170 (X : AX) {σ ρ : AH} {b np nt ns : Nat} {L : Nat → Nat} {C : Nat → Nat → Nat} {w tp u tl oc : Nat} (h : IV σ ρ 170 b np nt ns L C w tp u tl oc) (p m : Nat) (hp : p < np) (hm : m ≤ 9999)  : TT X 212 (0, [(2, 0), (0, ((p : Nat) : Int)), (0, ((m : Nat) : Int)), (0, 1), (9, 0), (9, 0)], [], σ) (fun r σ' => QS σ σ' ∧ (((mDay (up2 ρ 295 57 ((m : Nat) : Int)) b 0 np nt L) 333 p = -1 ∧ r = some (0, -1)) ∨ (∃ t x : Nat, t < nt ∧ 1 ≤ x ∧ x < L t ∧ (mDay (up2 ρ 295 57 ((m : Nat) : Int)) b 0 np nt L) 333 p = (t : Int) ∧ (mDay (up2 ρ 295 57 ((m : Nat) : Int)) b 0 np nt L) 323 t = (x : Int) ∧ r = some (0, if mUW (mDay (up2 ρ 295 57 ((m : Nat) : Int)) b 0 np nt L) b t x ((m : Nat) : Int) then ρ 305 (8 * (6 * b + t) + x) else -1)))) := by
  obtain ⟨⟨hl, h05, h33⟩, hL, hN, hPT, hF, hA, hTp, hO, hM, hH⟩ := id h
  obtain ⟨⟨a1, a2, a3, a4⟩, ⟨b1, b2, b3, b4, b5⟩, ⟨c1, c2, c3, c4, c5⟩, hTr, hCa, hAf, hPr, hDi⟩ := id hL
  obtain ⟨hPb, ⟨y1, y2, y3⟩, hhi, hPp⟩ := id hPT
  refine TT.steps (cd := cd212) 2 (c' := (2, [(2, 0), (0, ((p : Nat) : Int)), (0, ((m : Nat) : Int)), (0, 1), (9, 0), (9, 0)], [(0, ((p : Nat) : Int)), (2, 0)], σ)) rfl rfl ?_
  refine TT.call (cd := cd212) rfl rfl rfl (by decide) rfl (w_isPerson X ((p : Nat) : Int) σ) (fun r1 σ1 hq => ?_)
  rw [hq.1, hq.2, hPb.1, if_pos ⟨by omega, by omega⟩]
  refine TT.steps (cd := cd212) 3 (c' := ((if decide (((m : Nat) : Int) < 0) = true then 14 else 6), [(2, 0), (0, ((p : Nat) : Int)), (0, ((m : Nat) : Int)), (0, 1), (9, 0), (9, 0)], [], σ)) rfl rfl ?_
  refine TT.br (p := ((m : Nat) : Int) < 0) (fun h2 => absurd h2 (show ¬ (((m : Nat) : Int) < 0) by omega)) (fun h2 => ?_)
  refine TT.steps (cd := cd212) 3 (c' := ((if decide (9999 < ((m : Nat) : Int)) = true then 14 else 9), [(2, 0), (0, ((p : Nat) : Int)), (0, ((m : Nat) : Int)), (0, 1), (9, 0), (9, 0)], [], σ)) rfl rfl ?_
  refine TT.br (p := 9999 < ((m : Nat) : Int)) (fun h3 => absurd h3 (show ¬ (9999 < ((m : Nat) : Int)) by omega)) (fun h3 => ?_)
  refine TT.steps (cd := cd212) 9 (c' := (20, [(2, 0), (0, ((p : Nat) : Int)), (0, ((m : Nat) : Int)), (0, 1), (9, 0), (9, 0)], [(2, (σ 0 5)), (2, 198)], σ)) rfl rfl ?_
  refine TT.top0 (z := 170) h05 ?_
  refine TT.steps (cd := cd212) 2 (c' := (22, [(2, 0), (0, ((p : Nat) : Int)), (0, ((m : Nat) : Int)), (0, 1), (9, 0), (9, 0)], [(2, 36), (2, 170), (2, 198)], σ)) rfl rfl ?_
  refine TT.call (cd := cd212) rfl rfl rfl (by decide) rfl (v_prep X hl (Or.inl rfl) hL hPb) (fun r4 σ4 hq => ?_)
  obtain ⟨rfl, hP1, hF1⟩ := hq
  have hL5 : LT σ4 (up2 ρ 295 57 ((m : Nat) : Int)) 170 b np nt ns L C := LT_mv hl hL (fun K j hK => hF1 K j (by omega)) (fun K j hK => up2_far _ _ _ _ (by omega)) (up2_nq _ (by omega))
  have hPb5 : PTb σ4 (up2 ρ 295 57 ((m : Nat) : Int)) 36 0 np ns := PTb_mv hPb (fun K j hK => hF1 K j (by omega)) (fun K j hK => up2_far _ _ _ _ (by omega))
  have z1 : ((bs (zH ρ 0) np : Nat) : Int) = ((bs (zH (up2 ρ 295 57 ((m : Nat) : Int)) 0) np : Nat) : Int) := congrArg (fun x : Nat => (x : Int)) (bs_c (fun p _ => by show decide _ = decide _; rw [up2_far _ _ _ _ (by decide)]))
  have z2 : (0 : Int) = ((bs (zK (up2 ρ 295 57 ((m : Nat) : Int))) np : Nat) : Int) := (zK_no ((up2_nq _ (by omega)).trans hF.2.1) np).symm
  have z3 : (0 : Int) = ((bs (zAb (up2 ρ 295 57 ((m : Nat) : Int))) np : Nat) : Int) := (zAb_no ((up2_nq _ (by omega)).trans hF.1) np).symm
  have hgo := v_go X hl (Or.inl rfl) hP1 hL5 hPb5 (U := ((m : Nat) : Int)) (Or.inr ⟨up2_hit _ _ _ _, by omega⟩)
  refine TT.steps (cd := cd212) 5 (c' := (28, [(2, 0), (0, ((p : Nat) : Int)), (0, ((m : Nat) : Int)), (0, 1), (9, 0), (9, 0)], [(0, (σ4 36 2)), (2, 198)], σ4)) rfl rfl ?_
  refine TT.top0 (z := ((bs (zH ρ 0) np : Nat) : Int)) ((hF1 36 (2) (by omega)).trans hhi) ?_
  refine TT.steps (cd := cd212) 3 (c' := (31, [(2, 0), (0, ((p : Nat) : Int)), (0, ((m : Nat) : Int)), (0, 1), (9, 0), (9, 0)], [(0, ((m : Nat) : Int)), (0, 0), (0, 0), (0, ((bs (zH ρ 0) np : Nat) : Int)), (2, 198)], σ4)) rfl rfl ?_
  refine TT.st0 (st' := [(0, ((m : Nat) : Int)), (0, ((bs (zK (up2 ρ 295 57 ((m : Nat) : Int))) np : Nat) : Int)), (0, ((bs (zAb (up2 ρ 295 57 ((m : Nat) : Int))) np : Nat) : Int)), (0, ((bs (zH (up2 ρ 295 57 ((m : Nat) : Int)) 0) np : Nat) : Int)), (2, 198)]) (by rw [← z1, ← z2, ← z3]) ?_
  refine TT.call (cd := cd212) rfl rfl rfl (by decide) rfl (hgo) (fun r5 σ5 hq => ?_)
  obtain ⟨rfl, hG3, hD3⟩ := hq
  obtain ⟨⟨n1, hn1, hE⟩, -, -⟩ := id hD3
  have hQ3 : QS σ σ5 := fun K j hK => (hG3.1 K j (by omega)).trans (hF1 K j (by omega))
  refine TT.steps (cd := cd212) 3 (c' := (35, [(2, 0), (0, ((p : Nat) : Int)), (0, ((m : Nat) : Int)), (0, 1), (9, 0), (9, 0)], [(0, ((p : Nat) : Int)), (2, 198)], σ5)) rfl rfl ?_
  refine TT.call (cd := cd212) rfl rfl rfl (by decide) rfl (u_trOf_170 X p np nt (fun p => (mDay (up2 ρ 295 57 ((m : Nat) : Int)) b 0 np nt L) 333 p) σ5 hp c1 c2 (hG3.2.1.trans hP1.1.1) ((hG3.1 _ _ (by omega)).trans ((hF1 _ _ (by omega)).trans a2)) hE.2.1 (by rcases (hE.2.2.2.1 p hp).1 with h3 | ⟨-, t, h4, h5, -⟩; exact Or.inl h3; exact Or.inr ⟨t, h4, h5⟩)) (fun r6 σ6 hq => ?_)
  rw [hq.1, hq.2]
  refine TT.steps (cd := cd212) 1 (c' := (37, [(2, 0), (0, ((p : Nat) : Int)), (0, ((m : Nat) : Int)), (0, 1), (0, ((mDay (up2 ρ 295 57 ((m : Nat) : Int)) b 0 np nt L) 333 p)), (9, 0)], [], σ5)) rfl rfl ?_
  rcases (hE.2.2.2.1 p hp).1 with h3 | ⟨-, t, ht, h5, h6, h7⟩
  · refine TT.ls0 (ls' := [(2, 0), (0, ((p : Nat) : Int)), (0, ((m : Nat) : Int)), (0, 1), (0, -1), (9, 0)]) (by rw [h3]) ?_
    refine TT.steps (cd := cd212) 6 (c' := (49, [(2, 0), (0, ((p : Nat) : Int)), (0, ((m : Nat) : Int)), (0, 1), (0, -1), (9, 0)], [(0, -1)], σ5)) rfl rfl ?_
    exact TT.ret (cd := cd212) rfl rfl rfl rfl ⟨hQ3, Or.inl ⟨h3, rfl⟩⟩
  · refine TT.ls0 (ls' := [(2, 0), (0, ((p : Nat) : Int)), (0, ((m : Nat) : Int)), (0, 1), (0, ((t : Nat) : Int)), (9, 0)]) (by rw [h5]) ?_
    obtain ⟨x, hx1, e1, e2, -⟩ := hE.1 t ht
    have hx2 : 1 ≤ x := by omega
    have hx3 : x < L t := by omega
    have hL8 := (hTr t ht).2.2.2.1
    have h251 : σ5 251 t = aAdd ((mDay (up2 ρ 295 57 ((m : Nat) : Int)) b 0 np nt L) 326 (8 * t + x - 1)) (if (mDay (up2 ρ 295 57 ((m : Nat) : Int)) b 0 np nt L) 325 (8 * t + x - 1) = 1 ∧ 1 < x then (mDay (up2 ρ 295 57 ((m : Nat) : Int)) b 0 np nt L) 299 b else 0) := by
      have h0 := hE.2.2.2.2.2.2.2.2.2 t (x - 1) ht (by rw [e2]; omega)
      rw [h0, show 8 * t + (x - 1) = 8 * t + x - 1 by omega]
      exact congrArg _ (if_cg (and_congr_right (fun _ => by omega)))
    refine TT.steps (cd := cd212) 3 (c' := ((if decide (¬ ((t : Nat) : Int) = (-1)) = true then 50 else 40), [(2, 0), (0, ((p : Nat) : Int)), (0, ((m : Nat) : Int)), (0, 1), (0, ((t : Nat) : Int)), (9, 0)], [], σ5)) rfl rfl ?_
    refine TT.br (p := ¬ ((t : Nat) : Int) = (-1)) (fun h7 => ?_) (fun h7 => absurd (show ¬ ((t : Nat) : Int) = (-1) by omega) h7)
    refine TT.steps (cd := cd212) 4 (c' := (54, [(2, 0), (0, ((p : Nat) : Int)), (0, ((m : Nat) : Int)), (0, 1), (0, ((t : Nat) : Int)), (9, 0)], [(0, ((t : Nat) : Int)), (2, 250)], σ5)) rfl rfl ?_
    refine TT.aldN (cd := cd212) (250) (t) rfl rfl rfl rfl (show t < 6 by omega) ?_
    refine TT.top0 (z := ((x : Nat) : Int)) e1 ?_
    refine TT.steps (cd := cd212) 2 (c' := (57, [(2, 0), (0, ((p : Nat) : Int)), (0, ((m : Nat) : Int)), (0, 1), (0, ((t : Nat) : Int)), (9, 0)], [(0, (aSub ((x : Nat) : Int) 1))], σ5)) rfl rfl ?_
    refine TT.top0 (z := ((x - 1 : Nat) : Int)) (aSub_n (a := x) (b := 1) (by omega) (by omega)) ?_
    refine TT.steps (cd := cd212) 6 (c' := (63, [(2, 0), (0, ((p : Nat) : Int)), (0, ((m : Nat) : Int)), (0, 1), (0, ((t : Nat) : Int)), (0, ((x - 1 : Nat) : Int))], [(0, ((t : Nat) : Int)), (2, 251), (0, ((m : Nat) : Int))], σ5)) rfl rfl ?_
    refine TT.aldN (cd := cd212) (251) (t) rfl rfl rfl rfl (show t < 6 by omega) ?_
    refine TT.top0 (z := (aAdd ((mDay (up2 ρ 295 57 ((m : Nat) : Int)) b 0 np nt L) 326 (8 * t + x - 1)) (if (mDay (up2 ρ 295 57 ((m : Nat) : Int)) b 0 np nt L) 325 (8 * t + x - 1) = 1 ∧ 1 < x then (mDay (up2 ρ 295 57 ((m : Nat) : Int)) b 0 np nt L) 299 b else 0))) h251 ?_
    refine TT.steps (cd := cd212) 1 (c' := ((if decide ((aAdd ((mDay (up2 ρ 295 57 ((m : Nat) : Int)) b 0 np nt L) 326 (8 * t + x - 1)) (if (mDay (up2 ρ 295 57 ((m : Nat) : Int)) b 0 np nt L) 325 (8 * t + x - 1) = 1 ∧ 1 < x then (mDay (up2 ρ 295 57 ((m : Nat) : Int)) b 0 np nt L) 299 b else 0)) < ((m : Nat) : Int)) = true then 82 else 65), [(2, 0), (0, ((p : Nat) : Int)), (0, ((m : Nat) : Int)), (0, 1), (0, ((t : Nat) : Int)), (0, ((x - 1 : Nat) : Int))], [], σ5)) rfl rfl ?_
    refine TT.br (p := (aAdd ((mDay (up2 ρ 295 57 ((m : Nat) : Int)) b 0 np nt L) 326 (8 * t + x - 1)) (if (mDay (up2 ρ 295 57 ((m : Nat) : Int)) b 0 np nt L) 325 (8 * t + x - 1) = 1 ∧ 1 < x then (mDay (up2 ρ 295 57 ((m : Nat) : Int)) b 0 np nt L) 299 b else 0)) < ((m : Nat) : Int)) (fun h8 => ?_) (fun h8 => ?_)
    · refine TT.steps (cd := cd212) 5 (c' := (87, [(2, 0), (0, ((p : Nat) : Int)), (0, ((m : Nat) : Int)), (0, 1), (0, ((t : Nat) : Int)), (0, ((x - 1 : Nat) : Int))], [(0, (aAdd ((x - 1 : Nat) : Int) 1)), (0, ((t : Nat) : Int)), (2, 0)], σ5)) rfl rfl ?_
      refine TT.top0 (z := (((x - 1) + 1 : Nat) : Int)) (aAdd_n (a := x - 1) (b := 1) (by omega)) ?_
      refine TT.call (cd := cd212) rfl rfl rfl (by decide) rfl (w_isCall X hl t (((x - 1) + 1 : Nat) : Int) σ5 ((hG3.1 _ _ (by omega)).trans ((hF1 _ _ (by omega)).trans h05)) nt ((hG3.1 _ _ (by omega)).trans ((hF1 _ _ (by omega)).trans a2)) c2 ht) (fun r9 σ9 hq => ?_)
      rw [hq.1, hq.2, hG3.1 _ _ (by omega), hF1 _ _ (by omega), (hTr t ht).1, if_pos ⟨by omega, by omega⟩]
      refine TT.steps (cd := cd212) 3 (c' := (91, [(2, 0), (0, ((p : Nat) : Int)), (0, ((m : Nat) : Int)), (0, 1), (0, ((t : Nat) : Int)), (0, ((x - 1 : Nat) : Int))], [(2, (σ5 0 5))], σ5)) rfl rfl ?_
      refine TT.top0 (z := 170) (((hG3.1 0 (5) (by omega)).trans (hF1 0 (5) (by omega))).trans h05) ?_
      refine TT.steps (cd := cd212) 2 (c' := (93, [(2, 0), (0, ((p : Nat) : Int)), (0, ((m : Nat) : Int)), (0, 1), (0, ((t : Nat) : Int)), (0, ((x - 1 : Nat) : Int))], [(0, ((t : Nat) : Int)), (2, 178)], σ5)) rfl rfl ?_
      refine TT.aaldN (cd := cd212) 178 (t) (179 + t) rfl rfl rfl (Or.inr rfl) (show t < 6 by omega) (fxg_178 t (by omega)) ?_
      refine TT.steps (cd := cd212) 3 (c' := (97, [(2, 0), (0, ((p : Nat) : Int)), (0, ((m : Nat) : Int)), (0, 1), (0, ((t : Nat) : Int)), (0, ((x - 1 : Nat) : Int))], [(0, (aAdd ((x - 1 : Nat) : Int) 1)), (2, ((179 + t : Nat) : Int))], σ5)) rfl rfl ?_
      refine TT.top0 (z := (((x - 1) + 1 : Nat) : Int)) (aAdd_n (a := x - 1) (b := 1) (by omega)) ?_
      refine TT.aldN (cd := cd212) (179 + t) ((x - 1) + 1) rfl rfl rfl (kdg_178 t (by omega)).1 (show (x - 1) + 1 < ln (179 + t) by rw [(kdg_178 t (by omega)).2]; omega) ?_
      refine TT.top0 (z := (((C t ((x - 1) + 1)) : Nat) : Int)) (((hG3.1 (179 + t) ((x - 1) + 1) (by omega)).trans (hF1 (179 + t) ((x - 1) + 1) (by omega))).trans (hCa t ((x - 1) + 1) ht (by omega)).1) ?_
      refine TT.steps (cd := cd212) 1 (c' := (100, [(2, 0), (0, ((p : Nat) : Int)), (0, ((m : Nat) : Int)), (0, 1), (0, ((t : Nat) : Int)), (0, ((x - 1 : Nat) : Int))], [(0, (((C t ((x - 1) + 1)) : Nat) : Int))], σ5)) rfl rfl ?_
      refine TT.ret (cd := cd212) rfl rfl rfl rfl ⟨hQ3, Or.inr ⟨t, x, ht, hx2, hx3, h5, e2, ?_⟩⟩
      first | (rw [if_neg (by omega)]; done) | (rw [if_pos (by omega), (hCa t x ht (by omega)).2.1, show x - 1 + 1 = x by omega])
    · refine TT.steps (cd := cd212) 3 (c' := (81, [(2, 0), (0, ((p : Nat) : Int)), (0, ((m : Nat) : Int)), (0, 1), (0, ((t : Nat) : Int)), (0, ((x - 1 : Nat) : Int))], [(0, -1)], σ5)) rfl rfl ?_
      refine TT.ret (cd := cd212) rfl rfl rfl rfl ⟨hQ3, Or.inr ⟨t, x, ht, hx2, hx3, h5, e2, ?_⟩⟩
      first | (rw [if_neg (by omega)]; done) | (rw [if_pos (by omega), (hCa t x ht (by omega)).2.1, show x - 1 + 1 = x by omega])
theorem K_child1 (X : AX) {l : Nat} {σ ρ : AH} {b np nt ns : Nat} {L : Nat → Nat} {C : Nat → Nat → Nat} {w tp u tl oc : Nat} (h : IV σ ρ l b np nt ns L C w tp u tl oc) (p m : Nat) (hp : p < np) (hm : m ≤ 9999)  : TT X 212 (0, [(2, 0), (0, ((p : Nat) : Int)), (0, ((m : Nat) : Int)), (0, 1), (9, 0), (9, 0)], [], σ) (fun r σ' => QS σ σ' ∧ (((mDay (up2 ρ 295 57 ((m : Nat) : Int)) b 0 np nt L) 333 p = -1 ∧ r = some (0, -1)) ∨ (∃ t x : Nat, t < nt ∧ 1 ≤ x ∧ x < L t ∧ (mDay (up2 ρ 295 57 ((m : Nat) : Int)) b 0 np nt L) 333 p = (t : Int) ∧ (mDay (up2 ρ 295 57 ((m : Nat) : Int)) b 0 np nt L) 323 t = (x : Int) ∧ r = some (0, if mUW (mDay (up2 ρ 295 57 ((m : Nat) : Int)) b 0 np nt L) b t x ((m : Nat) : Int) then ρ 305 (8 * (6 * b + t) + x) else -1)))) := by
  rcases h.1.1 with rfl | rfl
  · exact K_child1_8 X h p m hp hm
  · exact K_child1_170 X h p m hp hm
