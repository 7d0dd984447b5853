/-! child of the reference. -/
theorem t_childN (X : AX) (p m w0 : Int) (np nt : Nat) (L : Nat → Nat) (σ : AH) {b : Nat} (hb : σ 295 13 = (b : Int)) (hb2 : b < 2) (hnp : σ 307 b = (np : Int)) (hnp2 : np ≤ 10) (hnt : σ 300 b = (nt : Int)) (hnt2 : nt ≤ 6) (hL : ∀ t, t < nt → σ 304 (6 * b + t) = (L t : Int) ∧ 2 ≤ L t ∧ L t ≤ 8) (hN : ¬ (0 ≤ p ∧ p < (np : Int)) ∨ ¬ (0 ≤ m ∧ m ≤ 9999) ∨ ¬ (0 ≤ w0 ∧ w0 ≤ 1))  : TT X 85 (0, [(2, 295), (0, p), (0, m), (0, w0), (9, 0)], [], σ) (fun r σ' => r = some (0, -1) ∧ σ' = σ) := by
  refine TT.steps (cd := cd85) 2 (c' := (2, [(2, 295), (0, p), (0, m), (0, w0), (9, 0)], [(0, p), (2, 295)], σ)) rfl rfl ?_
  refine TT.call (cd := cd85) rfl rfl rfl (by decide) rfl (t_isPerson X p σ hb hb2) (fun r1 σ1 hq => ?_)
  rw [hq.1, hq.2, hnp]
  refine TT.steps (cd := cd85) 1 (c' := ((if decide (((if 0 ≤ p ∧ p < ((np : Nat) : Int) then 1 else 0) : Int) = 0) = true then 14 else 4), [(2, 295), (0, p), (0, m), (0, w0), (9, 0)], [], σ)) rfl rfl ?_
  refine TT.br (p := ((if 0 ≤ p ∧ p < ((np : Nat) : Int) then 1 else 0) : Int) = 0) (fun h2 => ?_) (fun h2 => ?_)
  · replace h2 := ite_f h2
    refine TT.steps (cd := cd85) 1 (c' := (15, [(2, 295), (0, p), (0, m), (0, w0), (9, 0)], [(0, -1)], σ)) rfl rfl ?_
    exact TT.ret (cd := cd85) rfl rfl rfl rfl (⟨rfl, rfl⟩)
  · replace h2 := ite_t h2
    refine TT.steps (cd := cd85) 3 (c' := (7, [(2, 295), (0, p), (0, m), (0, w0), (9, 0)], [(0, 9999), (0, 0), (0, m)], σ)) rfl rfl ?_
    refine TT.call (cd := cd85) rfl rfl rfl (by decide) rfl (t_is X m 0 9999 σ) (fun r3 σ3 hq => ?_)
    rw [hq.1, hq.2]
    refine TT.steps (cd := cd85) 1 (c' := ((if decide (((if (0 : Int) ≤ m ∧ (m : Int) ≤ 9999 then 1 else 0) : Int) = 0) = true then 14 else 9), [(2, 295), (0, p), (0, m), (0, w0), (9, 0)], [], σ)) rfl rfl ?_
    refine TT.br (p := ((if (0 : Int) ≤ m ∧ (m : Int) ≤ 9999 then 1 else 0) : Int) = 0) (fun h4 => ?_) (fun h4 => ?_)
    · replace h4 := ite_f h4
      refine TT.steps (cd := cd85) 1 (c' := (15, [(2, 295), (0, p), (0, m), (0, w0), (9, 0)], [(0, -1)], σ)) rfl rfl ?_
      exact TT.ret (cd := cd85) rfl rfl rfl rfl (⟨rfl, rfl⟩)
    · replace h4 := ite_t h4
      refine TT.steps (cd := cd85) 3 (c' := (12, [(2, 295), (0, p), (0, m), (0, w0), (9, 0)], [(0, 1), (0, 0), (0, w0)], σ)) rfl rfl ?_
      refine TT.call (cd := cd85) rfl rfl rfl (by decide) rfl (t_is X w0 0 1 σ) (fun r5 σ5 hq => ?_)
      rw [hq.1, hq.2]
      refine TT.steps (cd := cd85) 1 (c' := ((if decide (¬ ((if (0 : Int) ≤ w0 ∧ (w0 : Int) ≤ 1 then 1 else 0) : Int) = 0) = true then 16 else 14), [(2, 295), (0, p), (0, m), (0, w0), (9, 0)], [], σ)) rfl rfl ?_
      refine TT.br (p := ¬ ((if (0 : Int) ≤ w0 ∧ (w0 : Int) ≤ 1 then 1 else 0) : Int) = 0) (fun h6 => ?_) (fun h6 => ?_)
      · replace h6 := ite_t h6
        omega
      · replace h6 := ite_f (Decidable.not_not.mp h6)
        refine TT.steps (cd := cd85) 1 (c' := (15, [(2, 295), (0, p), (0, m), (0, w0), (9, 0)], [(0, -1)], σ)) rfl rfl ?_
        exact TT.ret (cd := cd85) rfl rfl rfl rfl (⟨rfl, rfl⟩)
theorem t_childA0 (X : AX) (p m : Nat) (np nt : Nat) (L : Nat → Nat) (σ : AH) {b : Nat} (hb : σ 295 13 = (b : Int)) (hb2 : b < 2) (hnp : σ 307 b = (np : Int)) (hnp2 : np ≤ 10) (hnt : σ 300 b = (nt : Int)) (hnt2 : nt ≤ 6) (hL : ∀ t, t < nt → σ 304 (6 * b + t) = (L t : Int) ∧ 2 ≤ L t ∧ L t ≤ 8) (hp : p < np) (hm : m ≤ 9999) (hA : (mDay (up2 σ 295 57 ((m : Nat) : Int)) b 0 np nt L) 333 p = -1)  : TT X 85 (0, [(2, 295), (0, ((p : Nat) : Int)), (0, ((m : Nat) : Int)), (0, 0), (9, 0)], [], σ) (fun r σ' => r = some (0, (mDay (up2 σ 295 57 ((m : Nat) : Int)) b 0 np nt L) 334 p) ∧ σ' = (up2 (mDay (up2 σ 295 57 ((m : Nat) : Int)) b 0 np nt L) 295 57 (-1))) := by
  refine TT.steps (cd := cd85) 2 (c' := (2, [(2, 295), (0, ((p : Nat) : Int)), (0, ((m : Nat) : Int)), (0, 0), (9, 0)], [(0, ((p : Nat) : Int)), (2, 295)], σ)) rfl rfl ?_
  refine TT.call (cd := cd85) rfl rfl rfl (by decide) rfl (t_isPerson X ((p : Nat) : Int) σ hb hb2) (fun r1 σ1 hq => ?_)
  rw [hq.1, hq.2, hnp]
  refine TT.steps (cd := cd85) 1 (c' := ((if decide (((if 0 ≤ ((p : Nat) : Int) ∧ ((p : Nat) : Int) < ((np : Nat) : Int) then 1 else 0) : Int) = 0) = true then 14 else 4), [(2, 295), (0, ((p : Nat) : Int)), (0, ((m : Nat) : Int)), (0, 0), (9, 0)], [], σ)) rfl rfl ?_
  refine TT.br (p := ((if 0 ≤ ((p : Nat) : Int) ∧ ((p : Nat) : Int) < ((np : Nat) : Int) then 1 else 0) : Int) = 0) (fun h2 => absurd h2 (show ¬ (((if 0 ≤ ((p : Nat) : Int) ∧ ((p : Nat) : Int) < ((np : Nat) : Int) then 1 else 0) : Int) = 0) by (rw [if_pos (by omega)]; decide))) (fun h2 => ?_)
  refine TT.steps (cd := cd85) 3 (c' := (7, [(2, 295), (0, ((p : Nat) : Int)), (0, ((m : Nat) : Int)), (0, 0), (9, 0)], [(0, 9999), (0, 0), (0, ((m : Nat) : Int))], σ)) rfl rfl ?_
  refine TT.call (cd := cd85) rfl rfl rfl (by decide) rfl (t_is X ((m : Nat) : Int) 0 9999 σ) (fun r3 σ3 hq => ?_)
  rw [hq.1, hq.2]
  refine TT.steps (cd := cd85) 1 (c' := ((if decide (((if (0 : Int) ≤ ((m : Nat) : Int) ∧ (((m : Nat) : Int) : Int) ≤ 9999 then 1 else 0) : Int) = 0) = true then 14 else 9), [(2, 295), (0, ((p : Nat) : Int)), (0, ((m : Nat) : Int)), (0, 0), (9, 0)], [], σ)) rfl rfl ?_
  refine TT.br (p := ((if (0 : Int) ≤ ((m : Nat) : Int) ∧ (((m : Nat) : Int) : Int) ≤ 9999 then 1 else 0) : Int) = 0) (fun h4 => absurd h4 (show ¬ (((if (0 : Int) ≤ ((m : Nat) : Int) ∧ (((m : Nat) : Int) : Int) ≤ 9999 then 1 else 0) : Int) = 0) by (rw [if_pos (by omega)]; decide))) (fun h4 => ?_)
  refine TT.steps (cd := cd85) 3 (c' := (12, [(2, 295), (0, ((p : Nat) : Int)), (0, ((m : Nat) : Int)), (0, 0), (9, 0)], [(0, 1), (0, 0), (0, 0)], σ)) rfl rfl ?_
  refine TT.call (cd := cd85) rfl rfl rfl (by decide) rfl (t_is X 0 0 1 σ) (fun r5 σ5 hq => ?_)
  rw [hq.1, hq.2]
  refine TT.steps (cd := cd85) 1 (c' := ((if decide (¬ ((if (0 : Int) ≤ 0 ∧ (0 : Int) ≤ 1 then 1 else 0) : Int) = 0) = true then 16 else 14), [(2, 295), (0, ((p : Nat) : Int)), (0, ((m : Nat) : Int)), (0, 0), (9, 0)], [], σ)) rfl rfl ?_
  refine TT.br (p := ¬ ((if (0 : Int) ≤ 0 ∧ (0 : Int) ≤ 1 then 1 else 0) : Int) = 0) (fun h6 => ?_) (fun h6 => absurd (show ¬ ((if (0 : Int) ≤ 0 ∧ (0 : Int) ≤ 1 then 1 else 0) : Int) = 0 by (rw [if_pos (by omega)]; decide)) h6)
  refine TT.steps (cd := cd85) 5 (c' := (21, [(2, 295), (0, ((p : Nat) : Int)), (0, ((m : Nat) : Int)), (0, 0), (9, 0)], [(0, 0), (2, 295)], (up2 σ 295 57 ((m : Nat) : Int)))) rfl rfl ?_
  refine TT.call (cd := cd85) rfl rfl rfl (by decide) rfl (t_dayOf X np nt L (up2 σ 295 57 ((m : Nat) : Int)) (v := 0) ((up2_nq _ (by omega)).trans hb) hb2 (by decide) ((up2_far _ _ _ _ (by omega)).trans hnp) hnp2 ((up2_far _ _ _ _ (by omega)).trans hnt) hnt2 (fun t ht => by rw [up2_far _ _ _ _ (by omega)]; exact hL t ht)) (fun r7 σ7 hq => ?_)
  rw [hq.1, hq.2]
  refine TT.steps (cd := cd85) 6 (c' := (28, [(2, 295), (0, ((p : Nat) : Int)), (0, ((m : Nat) : Int)), (0, 0), (9, 0)], [(0, ((p : Nat) : Int)), (2, 333)], (up2 (mDay (up2 σ 295 57 ((m : Nat) : Int)) b 0 np nt L) 295 57 (-1)))) rfl rfl ?_
  refine TT.aldN (cd := cd85) (333) (p) rfl rfl rfl rfl (show p < 10 by omega) ?_
  refine TT.top0 (z := (-1)) ((up2_far (k := 295) (k' := 333) _ _ _ _ (by decide)).trans hA) ?_
  refine TT.steps (cd := cd85) 10 (c' := (54, [(2, 295), (0, ((p : Nat) : Int)), (0, ((m : Nat) : Int)), (0, 0), (0, -1)], [(0, ((p : Nat) : Int)), (2, 334)], (up2 (mDay (up2 σ 295 57 ((m : Nat) : Int)) b 0 np nt L) 295 57 (-1)))) rfl rfl ?_
  refine TT.aldN (cd := cd85) (334) (p) rfl rfl rfl rfl (show p < 10 by omega) ?_
  refine TT.top0 (z := ((mDay (up2 σ 295 57 ((m : Nat) : Int)) b 0 np nt L) 334 p)) (up2_far (k := 295) (k' := 334) _ _ _ _ (by decide)) ?_
  refine TT.steps (cd := cd85) 1 (c' := (65, [(2, 295), (0, ((p : Nat) : Int)), (0, ((m : Nat) : Int)), (0, 0), (0, -1)], [(0, ((mDay (up2 σ 295 57 ((m : Nat) : Int)) b 0 np nt L) 334 p))], (up2 (mDay (up2 σ 295 57 ((m : Nat) : Int)) b 0 np nt L) 295 57 (-1)))) rfl rfl ?_
  exact TT.ret (cd := cd85) rfl rfl rfl rfl (⟨by first | rfl | (rw [if_pos (by assumption)]; done) | (rw [if_neg (by assumption)]; done), rfl⟩)
theorem t_childA1 (X : AX) (p m : Nat) (np nt : Nat) (L : Nat → Nat) (σ : AH) {b : Nat} (hb : σ 295 13 = (b : Int)) (hb2 : b < 2) (hnp : σ 307 b = (np : Int)) (hnp2 : np ≤ 10) (hnt : σ 300 b = (nt : Int)) (hnt2 : nt ≤ 6) (hL : ∀ t, t < nt → σ 304 (6 * b + t) = (L t : Int) ∧ 2 ≤ L t ∧ L t ≤ 8) (hp : p < np) (hm : m ≤ 9999) (hA : (mDay (up2 σ 295 57 ((m : Nat) : Int)) b 0 np nt L) 333 p = -1)  : TT X 85 (0, [(2, 295), (0, ((p : Nat) : Int)), (0, ((m : Nat) : Int)), (0, 1), (9, 0)], [], σ) (fun r σ' => r = some (0, -1) ∧ σ' = (up2 (mDay (up2 σ 295 57 ((m : Nat) : Int)) b 0 np nt L) 295 57 (-1))) := by
  refine TT.steps (cd := cd85) 2 (c' := (2, [(2, 295), (0, ((p : Nat) : Int)), (0, ((m : Nat) : Int)), (0, 1), (9, 0)], [(0, ((p : Nat) : Int)), (2, 295)], σ)) rfl rfl ?_
  refine TT.call (cd := cd85) rfl rfl rfl (by decide) rfl (t_isPerson X ((p : Nat) : Int) σ hb hb2) (fun r1 σ1 hq => ?_)
  rw [hq.1, hq.2, hnp]
  refine TT.steps (cd := cd85) 1 (c' := ((if decide (((if 0 ≤ ((p : Nat) : Int) ∧ ((p : Nat) : Int) < ((np : Nat) : Int) then 1 else 0) : Int) = 0) = true then 14 else 4), [(2, 295), (0, ((p : Nat) : Int)), (0, ((m : Nat) : Int)), (0, 1), (9, 0)], [], σ)) rfl rfl ?_
  refine TT.br (p := ((if 0 ≤ ((p : Nat) : Int) ∧ ((p : Nat) : Int) < ((np : Nat) : Int) then 1 else 0) : Int) = 0) (fun h2 => absurd h2 (show ¬ (((if 0 ≤ ((p : Nat) : Int) ∧ ((p : Nat) : Int) < ((np : Nat) : Int) then 1 else 0) : Int) = 0) by (rw [if_pos (by omega)]; decide))) (fun h2 => ?_)
  refine TT.steps (cd := cd85) 3 (c' := (7, [(2, 295), (0, ((p : Nat) : Int)), (0, ((m : Nat) : Int)), (0, 1), (9, 0)], [(0, 9999), (0, 0), (0, ((m : Nat) : Int))], σ)) rfl rfl ?_
  refine TT.call (cd := cd85) rfl rfl rfl (by decide) rfl (t_is X ((m : Nat) : Int) 0 9999 σ) (fun r3 σ3 hq => ?_)
  rw [hq.1, hq.2]
  refine TT.steps (cd := cd85) 1 (c' := ((if decide (((if (0 : Int) ≤ ((m : Nat) : Int) ∧ (((m : Nat) : Int) : Int) ≤ 9999 then 1 else 0) : Int) = 0) = true then 14 else 9), [(2, 295), (0, ((p : Nat) : Int)), (0, ((m : Nat) : Int)), (0, 1), (9, 0)], [], σ)) rfl rfl ?_
  refine TT.br (p := ((if (0 : Int) ≤ ((m : Nat) : Int) ∧ (((m : Nat) : Int) : Int) ≤ 9999 then 1 else 0) : Int) = 0) (fun h4 => absurd h4 (show ¬ (((if (0 : Int) ≤ ((m : Nat) : Int) ∧ (((m : Nat) : Int) : Int) ≤ 9999 then 1 else 0) : Int) = 0) by (rw [if_pos (by omega)]; decide))) (fun h4 => ?_)
  refine TT.steps (cd := cd85) 3 (c' := (12, [(2, 295), (0, ((p : Nat) : Int)), (0, ((m : Nat) : Int)), (0, 1), (9, 0)], [(0, 1), (0, 0), (0, 1)], σ)) rfl rfl ?_
  refine TT.call (cd := cd85) rfl rfl rfl (by decide) rfl (t_is X 1 0 1 σ) (fun r5 σ5 hq => ?_)
  rw [hq.1, hq.2]
  refine TT.steps (cd := cd85) 1 (c' := ((if decide (¬ ((if (0 : Int) ≤ 1 ∧ (1 : Int) ≤ 1 then 1 else 0) : Int) = 0) = true then 16 else 14), [(2, 295), (0, ((p : Nat) : Int)), (0, ((m : Nat) : Int)), (0, 1), (9, 0)], [], σ)) rfl rfl ?_
  refine TT.br (p := ¬ ((if (0 : Int) ≤ 1 ∧ (1 : Int) ≤ 1 then 1 else 0) : Int) = 0) (fun h6 => ?_) (fun h6 => absurd (show ¬ ((if (0 : Int) ≤ 1 ∧ (1 : Int) ≤ 1 then 1 else 0) : Int) = 0 by (rw [if_pos (by omega)]; decide)) h6)
  refine TT.steps (cd := cd85) 5 (c' := (21, [(2, 295), (0, ((p : Nat) : Int)), (0, ((m : Nat) : Int)), (0, 1), (9, 0)], [(0, 0), (2, 295)], (up2 σ 295 57 ((m : Nat) : Int)))) rfl rfl ?_
  refine TT.call (cd := cd85) rfl rfl rfl (by decide) rfl (t_dayOf X np nt L (up2 σ 295 57 ((m : Nat) : Int)) (v := 0) ((up2_nq _ (by omega)).trans hb) hb2 (by decide) ((up2_far _ _ _ _ (by omega)).trans hnp) hnp2 ((up2_far _ _ _ _ (by omega)).trans hnt) hnt2 (fun t ht => by rw [up2_far _ _ _ _ (by omega)]; exact hL t ht)) (fun r7 σ7 hq => ?_)
  rw [hq.1, hq.2]
  refine TT.steps (cd := cd85) 6 (c' := (28, [(2, 295), (0, ((p : Nat) : Int)), (0, ((m : Nat) : Int)), (0, 1), (9, 0)], [(0, ((p : Nat) : Int)), (2, 333)], (up2 (mDay (up2 σ 295 57 ((m : Nat) : Int)) b 0 np nt L) 295 57 (-1)))) rfl rfl ?_
  refine TT.aldN (cd := cd85) (333) (p) rfl rfl rfl rfl (show p < 10 by omega) ?_
  refine TT.top0 (z := (-1)) ((up2_far (k := 295) (k' := 333) _ _ _ _ (by decide)).trans hA) ?_
  refine TT.steps (cd := cd85) 7 (c' := (36, [(2, 295), (0, ((p : Nat) : Int)), (0, ((m : Nat) : Int)), (0, 1), (0, -1)], [(0, ((m : Nat) : Int)), (0, ((p : Nat) : Int)), (2, 295)], (up2 (mDay (up2 σ 295 57 ((m : Nat) : Int)) b 0 np nt L) 295 57 (-1)))) rfl rfl ?_
  refine TT.call (cd := cd85) rfl rfl rfl (by decide) rfl (t_isUnderWay0 X p ((m : Nat) : Int) (by omega) (up2 (mDay (up2 σ 295 57 ((m : Nat) : Int)) b 0 np nt L) 295 57 (-1)) ((up2_far _ _ _ _ (by decide)).trans hA)) (fun r8 σ8 hq => ?_)
  rw [hq.1, hq.2]
  refine TT.steps (cd := cd85) 2 (c' := (47, [(2, 295), (0, ((p : Nat) : Int)), (0, ((m : Nat) : Int)), (0, 1), (0, -1)], [(0, -1)], (up2 (mDay (up2 σ 295 57 ((m : Nat) : Int)) b 0 np nt L) 295 57 (-1)))) rfl rfl ?_
  exact TT.ret (cd := cd85) rfl rfl rfl rfl (⟨by first | rfl | (rw [if_pos (by assumption)]; done) | (rw [if_neg (by assumption)]; done), rfl⟩)
theorem t_childB0 (X : AX) (p m : Nat) (np nt : Nat) (L : Nat → Nat) (σ : AH) {b : Nat} (hb : σ 295 13 = (b : Int)) (hb2 : b < 2) (hnp : σ 307 b = (np : Int)) (hnp2 : np ≤ 10) (hnt : σ 300 b = (nt : Int)) (hnt2 : nt ≤ 6) (hL : ∀ t, t < nt → σ 304 (6 * b + t) = (L t : Int) ∧ 2 ≤ L t ∧ L t ≤ 8) (hp : p < np) (hm : m ≤ 9999) (t x : Nat) (ht : t < nt) (hx1 : 1 ≤ x) (hx2 : x < L t) (hA : (mDay (up2 σ 295 57 ((m : Nat) : Int)) b 0 np nt L) 333 p = (t : Int)) (hx : (mDay (up2 σ 295 57 ((m : Nat) : Int)) b 0 np nt L) 323 t = (x : Int))  : TT X 85 (0, [(2, 295), (0, ((p : Nat) : Int)), (0, ((m : Nat) : Int)), (0, 0), (9, 0)], [], σ) (fun r σ' => r = some (0, σ 305 (8 * (6 * b + t) + (x - 1))) ∧ σ' = (up2 (mDay (up2 σ 295 57 ((m : Nat) : Int)) b 0 np nt L) 295 57 (-1))) := by
  have hx8 := (hL t ht).2.2
  refine TT.steps (cd := cd85) 2 (c' := (2, [(2, 295), (0, ((p : Nat) : Int)), (0, ((m : Nat) : Int)), (0, 0), (9, 0)], [(0, ((p : Nat) : Int)), (2, 295)], σ)) rfl rfl ?_
  refine TT.call (cd := cd85) rfl rfl rfl (by decide) rfl (t_isPerson X ((p : Nat) : Int) σ hb hb2) (fun r1 σ1 hq => ?_)
  rw [hq.1, hq.2, hnp]
  refine TT.steps (cd := cd85) 1 (c' := ((if decide (((if 0 ≤ ((p : Nat) : Int) ∧ ((p : Nat) : Int) < ((np : Nat) : Int) then 1 else 0) : Int) = 0) = true then 14 else 4), [(2, 295), (0, ((p : Nat) : Int)), (0, ((m : Nat) : Int)), (0, 0), (9, 0)], [], σ)) rfl rfl ?_
  refine TT.br (p := ((if 0 ≤ ((p : Nat) : Int) ∧ ((p : Nat) : Int) < ((np : Nat) : Int) then 1 else 0) : Int) = 0) (fun h2 => absurd h2 (show ¬ (((if 0 ≤ ((p : Nat) : Int) ∧ ((p : Nat) : Int) < ((np : Nat) : Int) then 1 else 0) : Int) = 0) by (rw [if_pos (by omega)]; decide))) (fun h2 => ?_)
  refine TT.steps (cd := cd85) 3 (c' := (7, [(2, 295), (0, ((p : Nat) : Int)), (0, ((m : Nat) : Int)), (0, 0), (9, 0)], [(0, 9999), (0, 0), (0, ((m : Nat) : Int))], σ)) rfl rfl ?_
  refine TT.call (cd := cd85) rfl rfl rfl (by decide) rfl (t_is X ((m : Nat) : Int) 0 9999 σ) (fun r3 σ3 hq => ?_)
  rw [hq.1, hq.2]
  refine TT.steps (cd := cd85) 1 (c' := ((if decide (((if (0 : Int) ≤ ((m : Nat) : Int) ∧ (((m : Nat) : Int) : Int) ≤ 9999 then 1 else 0) : Int) = 0) = true then 14 else 9), [(2, 295), (0, ((p : Nat) : Int)), (0, ((m : Nat) : Int)), (0, 0), (9, 0)], [], σ)) rfl rfl ?_
  refine TT.br (p := ((if (0 : Int) ≤ ((m : Nat) : Int) ∧ (((m : Nat) : Int) : Int) ≤ 9999 then 1 else 0) : Int) = 0) (fun h4 => absurd h4 (show ¬ (((if (0 : Int) ≤ ((m : Nat) : Int) ∧ (((m : Nat) : Int) : Int) ≤ 9999 then 1 else 0) : Int) = 0) by (rw [if_pos (by omega)]; decide))) (fun h4 => ?_)
  refine TT.steps (cd := cd85) 3 (c' := (12, [(2, 295), (0, ((p : Nat) : Int)), (0, ((m : Nat) : Int)), (0, 0), (9, 0)], [(0, 1), (0, 0), (0, 0)], σ)) rfl rfl ?_
  refine TT.call (cd := cd85) rfl rfl rfl (by decide) rfl (t_is X 0 0 1 σ) (fun r5 σ5 hq => ?_)
  rw [hq.1, hq.2]
  refine TT.steps (cd := cd85) 1 (c' := ((if decide (¬ ((if (0 : Int) ≤ 0 ∧ (0 : Int) ≤ 1 then 1 else 0) : Int) = 0) = true then 16 else 14), [(2, 295), (0, ((p : Nat) : Int)), (0, ((m : Nat) : Int)), (0, 0), (9, 0)], [], σ)) rfl rfl ?_
  refine TT.br (p := ¬ ((if (0 : Int) ≤ 0 ∧ (0 : Int) ≤ 1 then 1 else 0) : Int) = 0) (fun h6 => ?_) (fun h6 => absurd (show ¬ ((if (0 : Int) ≤ 0 ∧ (0 : Int) ≤ 1 then 1 else 0) : Int) = 0 by (rw [if_pos (by omega)]; decide)) h6)
  refine TT.steps (cd := cd85) 5 (c' := (21, [(2, 295), (0, ((p : Nat) : Int)), (0, ((m : Nat) : Int)), (0, 0), (9, 0)], [(0, 0), (2, 295)], (up2 σ 295 57 ((m : Nat) : Int)))) rfl rfl ?_
  refine TT.call (cd := cd85) rfl rfl rfl (by decide) rfl (t_dayOf X np nt L (up2 σ 295 57 ((m : Nat) : Int)) (v := 0) ((up2_nq _ (by omega)).trans hb) hb2 (by decide) ((up2_far _ _ _ _ (by omega)).trans hnp) hnp2 ((up2_far _ _ _ _ (by omega)).trans hnt) hnt2 (fun t ht => by rw [up2_far _ _ _ _ (by omega)]; exact hL t ht)) (fun r7 σ7 hq => ?_)
  rw [hq.1, hq.2]
  refine TT.steps (cd := cd85) 6 (c' := (28, [(2, 295), (0, ((p : Nat) : Int)), (0, ((m : Nat) : Int)), (0, 0), (9, 0)], [(0, ((p : Nat) : Int)), (2, 333)], (up2 (mDay (up2 σ 295 57 ((m : Nat) : Int)) b 0 np nt L) 295 57 (-1)))) rfl rfl ?_
  refine TT.aldN (cd := cd85) (333) (p) rfl rfl rfl rfl (show p < 10 by omega) ?_
  refine TT.top0 (z := ((t : Nat) : Int)) ((up2_far (k := 295) (k' := 333) _ _ _ _ (by decide)).trans hA) ?_
  refine TT.steps (cd := cd85) 7 (c' := ((if decide (¬ ((t : Nat) : Int) = (-1)) = true then 56 else 51), [(2, 295), (0, ((p : Nat) : Int)), (0, ((m : Nat) : Int)), (0, 0), (0, ((t : Nat) : Int))], [], (up2 (mDay (up2 σ 295 57 ((m : Nat) : Int)) b 0 np nt L) 295 57 (-1)))) rfl rfl ?_
  refine TT.br (p := ¬ ((t : Nat) : Int) = (-1)) (fun h8 => ?_) (fun h8 => absurd (show ¬ ((t : Nat) : Int) = (-1) by omega) h8)
  refine TT.steps (cd := cd85) 5 (c' := (61, [(2, 295), (0, ((p : Nat) : Int)), (0, ((m : Nat) : Int)), (0, 0), (0, ((t : Nat) : Int))], [(0, ((t : Nat) : Int)), (2, 323), (0, ((t : Nat) : Int)), (2, 295)], (up2 (mDay (up2 σ 295 57 ((m : Nat) : Int)) b 0 np nt L) 295 57 (-1)))) rfl rfl ?_
  refine TT.aldN (cd := cd85) (323) (t) rfl rfl rfl rfl (show t < 6 by omega) ?_
  refine TT.top0 (z := ((x : Nat) : Int)) ((up2_far (k := 295) (k' := 323) _ _ _ _ (by decide)).trans hx) ?_
  refine TT.steps (cd := cd85) 2 (c' := (64, [(2, 295), (0, ((p : Nat) : Int)), (0, ((m : Nat) : Int)), (0, 0), (0, ((t : Nat) : Int))], [(0, (aSub ((x : Nat) : Int) 1)), (0, ((t : Nat) : Int)), (2, 295)], (up2 (mDay (up2 σ 295 57 ((m : Nat) : Int)) b 0 np nt L) 295 57 (-1)))) rfl rfl ?_
  refine TT.top0 (z := ((x - 1 : Nat) : Int)) (aSub_n (a := x) (b := 1) (by omega) (by omega)) ?_
  refine TT.call (cd := cd85) rfl rfl rfl (by decide) rfl (t_callOf X t (x - 1) (by omega) (by have := (hL t ht).2.2; omega) (up2 (mDay (up2 σ 295 57 ((m : Nat) : Int)) b 0 np nt L) 295 57 (-1)) ((up2_nq _ (by omega)).trans ((mDay_5 _ _ _ _ _ _ _ (by decide)).trans ((up2_nq _ (by omega)).trans hb))) hb2) (fun r9 σ9 hq => ?_)
  rw [hq.1, hq.2, up2_far _ _ _ _ (by decide), mDay_fr _ _ _ _ _ _ _ _ (by decide), up2_far _ _ _ _ (by decide)]
  exact TT.ret (cd := cd85) rfl rfl rfl rfl (⟨by first | rfl | (rw [if_pos (by assumption)]; done) | (rw [if_neg (by assumption)]; done), rfl⟩)
theorem t_childB1 (X : AX) (p m : Nat) (np nt : Nat) (L : Nat → Nat) (σ : AH) {b : Nat} (hb : σ 295 13 = (b : Int)) (hb2 : b < 2) (hnp : σ 307 b = (np : Int)) (hnp2 : np ≤ 10) (hnt : σ 300 b = (nt : Int)) (hnt2 : nt ≤ 6) (hL : ∀ t, t < nt → σ 304 (6 * b + t) = (L t : Int) ∧ 2 ≤ L t ∧ L t ≤ 8) (hp : p < np) (hm : m ≤ 9999) (t x : Nat) (ht : t < nt) (hx1 : 1 ≤ x) (hx2 : x < L t) (hA : (mDay (up2 σ 295 57 ((m : Nat) : Int)) b 0 np nt L) 333 p = (t : Int)) (hx : (mDay (up2 σ 295 57 ((m : Nat) : Int)) b 0 np nt L) 323 t = (x : Int))  : TT X 85 (0, [(2, 295), (0, ((p : Nat) : Int)), (0, ((m : Nat) : Int)), (0, 1), (9, 0)], [], σ) (fun r σ' => r = some (0, if mUW (mDay (up2 σ 295 57 ((m : Nat) : Int)) b 0 np nt L) b t x ((m : Nat) : Int) then σ 305 (8 * (6 * b + t) + x) else -1) ∧ σ' = (up2 (mDay (up2 σ 295 57 ((m : Nat) : Int)) b 0 np nt L) 295 57 (-1))) := by
  have hx8 := (hL t ht).2.2
  refine TT.steps (cd := cd85) 2 (c' := (2, [(2, 295), (0, ((p : Nat) : Int)), (0, ((m : Nat) : Int)), (0, 1), (9, 0)], [(0, ((p : Nat) : Int)), (2, 295)], σ)) rfl rfl ?_
  refine TT.call (cd := cd85) rfl rfl rfl (by decide) rfl (t_isPerson X ((p : Nat) : Int) σ hb hb2) (fun r1 σ1 hq => ?_)
  rw [hq.1, hq.2, hnp]
  refine TT.steps (cd := cd85) 1 (c' := ((if decide (((if 0 ≤ ((p : Nat) : Int) ∧ ((p : Nat) : Int) < ((np : Nat) : Int) then 1 else 0) : Int) = 0) = true then 14 else 4), [(2, 295), (0, ((p : Nat) : Int)), (0, ((m : Nat) : Int)), (0, 1), (9, 0)], [], σ)) rfl rfl ?_
  refine TT.br (p := ((if 0 ≤ ((p : Nat) : Int) ∧ ((p : Nat) : Int) < ((np : Nat) : Int) then 1 else 0) : Int) = 0) (fun h2 => absurd h2 (show ¬ (((if 0 ≤ ((p : Nat) : Int) ∧ ((p : Nat) : Int) < ((np : Nat) : Int) then 1 else 0) : Int) = 0) by (rw [if_pos (by omega)]; decide))) (fun h2 => ?_)
  refine TT.steps (cd := cd85) 3 (c' := (7, [(2, 295), (0, ((p : Nat) : Int)), (0, ((m : Nat) : Int)), (0, 1), (9, 0)], [(0, 9999), (0, 0), (0, ((m : Nat) : Int))], σ)) rfl rfl ?_
  refine TT.call (cd := cd85) rfl rfl rfl (by decide) rfl (t_is X ((m : Nat) : Int) 0 9999 σ) (fun r3 σ3 hq => ?_)
  rw [hq.1, hq.2]
  refine TT.steps (cd := cd85) 1 (c' := ((if decide (((if (0 : Int) ≤ ((m : Nat) : Int) ∧ (((m : Nat) : Int) : Int) ≤ 9999 then 1 else 0) : Int) = 0) = true then 14 else 9), [(2, 295), (0, ((p : Nat) : Int)), (0, ((m : Nat) : Int)), (0, 1), (9, 0)], [], σ)) rfl rfl ?_
  refine TT.br (p := ((if (0 : Int) ≤ ((m : Nat) : Int) ∧ (((m : Nat) : Int) : Int) ≤ 9999 then 1 else 0) : Int) = 0) (fun h4 => absurd h4 (show ¬ (((if (0 : Int) ≤ ((m : Nat) : Int) ∧ (((m : Nat) : Int) : Int) ≤ 9999 then 1 else 0) : Int) = 0) by (rw [if_pos (by omega)]; decide))) (fun h4 => ?_)
  refine TT.steps (cd := cd85) 3 (c' := (12, [(2, 295), (0, ((p : Nat) : Int)), (0, ((m : Nat) : Int)), (0, 1), (9, 0)], [(0, 1), (0, 0), (0, 1)], σ)) rfl rfl ?_
  refine TT.call (cd := cd85) rfl rfl rfl (by decide) rfl (t_is X 1 0 1 σ) (fun r5 σ5 hq => ?_)
  rw [hq.1, hq.2]
  refine TT.steps (cd := cd85) 1 (c' := ((if decide (¬ ((if (0 : Int) ≤ 1 ∧ (1 : Int) ≤ 1 then 1 else 0) : Int) = 0) = true then 16 else 14), [(2, 295), (0, ((p : Nat) : Int)), (0, ((m : Nat) : Int)), (0, 1), (9, 0)], [], σ)) rfl rfl ?_
  refine TT.br (p := ¬ ((if (0 : Int) ≤ 1 ∧ (1 : Int) ≤ 1 then 1 else 0) : Int) = 0) (fun h6 => ?_) (fun h6 => absurd (show ¬ ((if (0 : Int) ≤ 1 ∧ (1 : Int) ≤ 1 then 1 else 0) : Int) = 0 by (rw [if_pos (by omega)]; decide)) h6)
  refine TT.steps (cd := cd85) 5 (c' := (21, [(2, 295), (0, ((p : Nat) : Int)), (0, ((m : Nat) : Int)), (0, 1), (9, 0)], [(0, 0), (2, 295)], (up2 σ 295 57 ((m : Nat) : Int)))) rfl rfl ?_
  refine TT.call (cd := cd85) rfl rfl rfl (by decide) rfl (t_dayOf X np nt L (up2 σ 295 57 ((m : Nat) : Int)) (v := 0) ((up2_nq _ (by omega)).trans hb) hb2 (by decide) ((up2_far _ _ _ _ (by omega)).trans hnp) hnp2 ((up2_far _ _ _ _ (by omega)).trans hnt) hnt2 (fun t ht => by rw [up2_far _ _ _ _ (by omega)]; exact hL t ht)) (fun r7 σ7 hq => ?_)
  rw [hq.1, hq.2]
  refine TT.steps (cd := cd85) 6 (c' := (28, [(2, 295), (0, ((p : Nat) : Int)), (0, ((m : Nat) : Int)), (0, 1), (9, 0)], [(0, ((p : Nat) : Int)), (2, 333)], (up2 (mDay (up2 σ 295 57 ((m : Nat) : Int)) b 0 np nt L) 295 57 (-1)))) rfl rfl ?_
  refine TT.aldN (cd := cd85) (333) (p) rfl rfl rfl rfl (show p < 10 by omega) ?_
  refine TT.top0 (z := ((t : Nat) : Int)) ((up2_far (k := 295) (k' := 333) _ _ _ _ (by decide)).trans hA) ?_
  refine TT.steps (cd := cd85) 7 (c' := (36, [(2, 295), (0, ((p : Nat) : Int)), (0, ((m : Nat) : Int)), (0, 1), (0, ((t : Nat) : Int))], [(0, ((m : Nat) : Int)), (0, ((p : Nat) : Int)), (2, 295)], (up2 (mDay (up2 σ 295 57 ((m : Nat) : Int)) b 0 np nt L) 295 57 (-1)))) rfl rfl ?_
  refine TT.call (cd := cd85) rfl rfl rfl (by decide) rfl (t_isUnderWay1 X p t x ((m : Nat) : Int) (by omega) (by omega) ⟨by omega, by have := (hL t ht).2.2; omega⟩ (up2 (mDay (up2 σ 295 57 ((m : Nat) : Int)) b 0 np nt L) 295 57 (-1)) ((up2_nq _ (by omega)).trans ((mDay_5 _ _ _ _ _ _ _ (by decide)).trans ((up2_nq _ (by omega)).trans hb))) hb2 ((up2_far _ _ _ _ (by decide)).trans hA) ((up2_far _ _ _ _ (by decide)).trans hx)) (fun r8 σ8 hq => ?_)
  rw [hq.1, hq.2]
  unfold mUW
  rw [up2_far (k := 295) (k' := 326) _ _ _ _ (by decide), up2_far (k := 295) (k' := 325) _ _ _ _ (by decide), up2_far (k := 295) (k' := 299) _ _ _ _ (by decide)]
  refine TT.steps (cd := cd85) 1 (c' := ((if decide (((if mUW (mDay (up2 σ 295 57 ((m : Nat) : Int)) b 0 np nt L) b t x ((m : Nat) : Int) then 1 else 0) : Int) = 0) = true then 46 else 38), [(2, 295), (0, ((p : Nat) : Int)), (0, ((m : Nat) : Int)), (0, 1), (0, ((t : Nat) : Int))], [], (up2 (mDay (up2 σ 295 57 ((m : Nat) : Int)) b 0 np nt L) 295 57 (-1)))) rfl rfl ?_
  refine TT.br (p := ((if mUW (mDay (up2 σ 295 57 ((m : Nat) : Int)) b 0 np nt L) b t x ((m : Nat) : Int) then 1 else 0) : Int) = 0) (fun h9 => ?_) (fun h9 => ?_)
  · replace h9 := ite_f h9
    refine TT.steps (cd := cd85) 1 (c' := (47, [(2, 295), (0, ((p : Nat) : Int)), (0, ((m : Nat) : Int)), (0, 1), (0, ((t : Nat) : Int))], [(0, -1)], (up2 (mDay (up2 σ 295 57 ((m : Nat) : Int)) b 0 np nt L) 295 57 (-1)))) rfl rfl ?_
    exact TT.ret (cd := cd85) rfl rfl rfl rfl (⟨by first | rfl | (rw [if_pos (by assumption)]; done) | (rw [if_neg (by assumption)]; done), rfl⟩)
  · replace h9 := ite_t h9
    refine TT.steps (cd := cd85) 5 (c' := (43, [(2, 295), (0, ((p : Nat) : Int)), (0, ((m : Nat) : Int)), (0, 1), (0, ((t : Nat) : Int))], [(0, ((t : Nat) : Int)), (2, 323), (0, ((t : Nat) : Int)), (2, 295)], (up2 (mDay (up2 σ 295 57 ((m : Nat) : Int)) b 0 np nt L) 295 57 (-1)))) rfl rfl ?_
    refine TT.aldN (cd := cd85) (323) (t) rfl rfl rfl rfl (show t < 6 by omega) ?_
    refine TT.top0 (z := ((x : Nat) : Int)) ((up2_far (k := 295) (k' := 323) _ _ _ _ (by decide)).trans hx) ?_
    refine TT.call (cd := cd85) rfl rfl rfl (by decide) rfl (t_callOf X t (x) (by omega) (by have := (hL t ht).2.2; omega) (up2 (mDay (up2 σ 295 57 ((m : Nat) : Int)) b 0 np nt L) 295 57 (-1)) ((up2_nq _ (by omega)).trans ((mDay_5 _ _ _ _ _ _ _ (by decide)).trans ((up2_nq _ (by omega)).trans hb))) hb2) (fun r10 σ10 hq => ?_)
    rw [hq.1, hq.2, up2_far _ _ _ _ (by decide), mDay_fr _ _ _ _ _ _ _ _ (by decide), up2_far _ _ _ _ (by decide)]
    refine TT.steps (cd := cd85) 1 (c' := (47, [(2, 295), (0, ((p : Nat) : Int)), (0, ((m : Nat) : Int)), (0, 1), (0, ((t : Nat) : Int))], [(0, (σ 305 (8 * (6 * b + t) + (x))))], (up2 (mDay (up2 σ 295 57 ((m : Nat) : Int)) b 0 np nt L) 295 57 (-1)))) rfl rfl ?_
    exact TT.ret (cd := cd85) rfl rfl rfl rfl (⟨by first | rfl | (rw [if_pos (by assumption)]; done) | (rw [if_neg (by assumption)]; done), rfl⟩)
