/-- whether the n-th of the people gets on -/
abbrev mOnC (τ σ : AH) (b v t k lt n : Nat) : Prop := ¬ ((n : Int) = σ 295 44) ∧ τ 333 n = -1 ∧ σ 334 n = σ 305 (8 * (6 * b + t) + k) ∧ (σ 322 (10 * v + n) = 1 ∧ τ 336 n ≤ 0 ∨ ¬ (σ 322 (10 * v + n) = 1) ∧ anyN (fun i => decide (k + 1 ≤ i ∧ σ 305 (8 * (6 * b + t) + i) = σ 321 (10 * v + n))) lt = true)
/-- seats that are free behind the first n, and the heap -/
def mOnN (σ : AH) (b v t k lt e : Nat) (q0 : Int) : Nat → Int × AH
  | 0 => (q0, σ)
  | n + 1 => if 0 < (mOnN σ b v t k lt e q0 n).1 ∧ mOnC (mOnN σ b v t k lt e q0 n).2 σ b v t k lt n then
      (aAdd (mOnN σ b v t k lt e q0 n).1 (-1), up2 (up2 (up2 (mOnN σ b v t k lt e q0 n).2 333 n (t : Int)) 336 n (aAdd ((mOnN σ b v t k lt e q0 n).2 336 n) 1)) 328 e (aAdd ((mOnN σ b v t k lt e q0 n).2 328 e) 1))
    else mOnN σ b v t k lt e q0 n
theorem mOnN_fr (σ : AH) (b v t k lt e : Nat) (q0 : Int) (n c j : Nat) (h : c ≠ 333 ∧ c ≠ 336 ∧ c ≠ 328) : (mOnN σ b v t k lt e q0 n).2 c j = σ c j := by
  induction n with
  | zero => rfl
  | succ n ih =>
    unfold mOnN
    split
    · dsimp only
      rw [up2_far _ _ _ _ h.2.2, up2_far _ _ _ _ h.2.1, up2_far _ _ _ _ h.1, ih]
    · exact ih
theorem mOnN_stop (σ : AH) (b v t k lt e : Nat) (q0 : Int) (n d : Nat) (h : ¬ 0 < (mOnN σ b v t k lt e q0 n).1) : mOnN σ b v t k lt e q0 (n + d) = mOnN σ b v t k lt e q0 n := by
  induction d with
  | zero => rfl
  | succ d ih =>
    show mOnN σ b v t k lt e q0 (n + d + 1) = _
    rw [mOnN, ih, if_neg (fun z => h z.1)]
theorem l_getOn (X : AX) (q0 : Int) (t k e np lt : Nat) (σ : AH) {b v : Nat} (hb : σ 295 13 = (b : Int)) (hb2 : b < 2) (hv : σ 295 46 = (v : Int)) (hv2 : v < 22) (hnp : σ 307 b = (np : Int)) (hnp2 : np ≤ 10) (ht : t < 6) (hk : k < 8) (he : e < 48) (hlt : σ 304 (6 * b + t) = (lt : Int)) (hlt2 : 1 ≤ lt ∧ lt ≤ 8) (hkl : k + 1 ≤ lt)  : ∀ (d n : Nat), n + d = np →  TT X 55 (16, [(2, 295), (0, ((t : Nat) : Int)), (0, ((k : Nat) : Int)), (0, ((e : Nat) : Int)), (0, (mOnN σ b v t k lt e q0 n).1), (0, ((n : Nat) : Int))], [], ((mOnN σ b v t k lt e q0 n).2)) (fun r σ' => r = none ∧ σ' = (mOnN σ b v t k lt e q0 np).2) := by
  intro d
  induction d with
  | zero =>
    intro n hn 
    refine TT.steps (cd := cd55) 5 (c' := (21, [(2, 295), (0, ((t : Nat) : Int)), (0, ((k : Nat) : Int)), (0, ((e : Nat) : Int)), (0, (mOnN σ b v t k lt e q0 n).1), (0, ((n : Nat) : Int))], [(0, (((mOnN σ b v t k lt e q0 n).2) 295 13)), (2, 307), (0, ((n : Nat) : Int))], ((mOnN σ b v t k lt e q0 n).2))) rfl rfl ?_
    refine TT.top0 (z := ((b : Nat) : Int)) ((mOnN_fr _ _ _ _ _ _ _ _ _ 295 (13) (by decide)).trans hb) ?_
    refine TT.aldN (cd := cd55) (307) (b) rfl rfl rfl rfl (show b < 2 by omega) ?_
    refine TT.top0 (z := ((np : Nat) : Int)) ((mOnN_fr _ _ _ _ _ _ _ _ _ 307 (b) (by decide)).trans hnp) ?_
    refine TT.steps (cd := cd55) 1 (c' := ((if decide (((np : Nat) : Int) ≤ ((n : Nat) : Int)) = true then 88 else 23), [(2, 295), (0, ((t : Nat) : Int)), (0, ((k : Nat) : Int)), (0, ((e : Nat) : Int)), (0, (mOnN σ b v t k lt e q0 n).1), (0, ((n : Nat) : Int))], [], ((mOnN σ b v t k lt e q0 n).2))) rfl rfl ?_
    refine TT.br (p := ((np : Nat) : Int) ≤ ((n : Nat) : Int)) (fun h1 => ?_) (fun h1 => absurd (show ((np : Nat) : Int) ≤ ((n : Nat) : Int) by omega) h1)
    exact TT.ret (cd := cd55) rfl rfl rfl rfl (⟨rfl, by rw [show n = np by omega]⟩)
  | succ d ih =>
    intro n hn 
    refine TT.steps (cd := cd55) 5 (c' := (21, [(2, 295), (0, ((t : Nat) : Int)), (0, ((k : Nat) : Int)), (0, ((e : Nat) : Int)), (0, (mOnN σ b v t k lt e q0 n).1), (0, ((n : Nat) : Int))], [(0, (((mOnN σ b v t k lt e q0 n).2) 295 13)), (2, 307), (0, ((n : Nat) : Int))], ((mOnN σ b v t k lt e q0 n).2))) rfl rfl ?_
    refine TT.top0 (z := ((b : Nat) : Int)) ((mOnN_fr _ _ _ _ _ _ _ _ _ 295 (13) (by decide)).trans hb) ?_
    refine TT.aldN (cd := cd55) (307) (b) rfl rfl rfl rfl (show b < 2 by omega) ?_
    refine TT.top0 (z := ((np : Nat) : Int)) ((mOnN_fr _ _ _ _ _ _ _ _ _ 307 (b) (by decide)).trans hnp) ?_
    refine TT.steps (cd := cd55) 1 (c' := ((if decide (((np : Nat) : Int) ≤ ((n : Nat) : Int)) = true then 88 else 23), [(2, 295), (0, ((t : Nat) : Int)), (0, ((k : Nat) : Int)), (0, ((e : Nat) : Int)), (0, (mOnN σ b v t k lt e q0 n).1), (0, ((n : Nat) : Int))], [], ((mOnN σ b v t k lt e q0 n).2))) rfl rfl ?_
    refine TT.br (p := ((np : Nat) : Int) ≤ ((n : Nat) : Int)) (fun h1 => absurd h1 (show ¬ (((np : Nat) : Int) ≤ ((n : Nat) : Int)) by omega)) (fun h1 => ?_)
    refine TT.steps (cd := cd55) 2 (c' := ((if decide ((mOnN σ b v t k lt e q0 n).1 ≤ 0) = true then 88 else 25), [(2, 295), (0, ((t : Nat) : Int)), (0, ((k : Nat) : Int)), (0, ((e : Nat) : Int)), (0, (mOnN σ b v t k lt e q0 n).1), (0, ((n : Nat) : Int))], [], ((mOnN σ b v t k lt e q0 n).2))) rfl rfl ?_
    refine TT.br (p := (mOnN σ b v t k lt e q0 n).1 ≤ 0) (fun h2 => ?_) (fun h2 => ?_)
    · exact TT.ret (cd := cd55) rfl rfl rfl rfl (⟨rfl, by rw [show np = n + (np - n) by omega, mOnN_stop _ _ _ _ _ _ _ _ _ _ (by omega)]⟩)
    · refine TT.steps (cd := cd55) 3 (c' := (28, [(2, 295), (0, ((t : Nat) : Int)), (0, ((k : Nat) : Int)), (0, ((e : Nat) : Int)), (0, (mOnN σ b v t k lt e q0 n).1), (0, ((n : Nat) : Int))], [(0, (((mOnN σ b v t k lt e q0 n).2) 295 44)), (0, ((n : Nat) : Int))], ((mOnN σ b v t k lt e q0 n).2))) rfl rfl ?_
      refine TT.top0 (z := (σ 295 44)) (mOnN_fr _ _ _ _ _ _ _ _ _ 295 (44) (by decide)) ?_
      refine TT.steps (cd := cd55) 1 (c' := ((if decide (((n : Nat) : Int) = (σ 295 44)) = true then 86 else 29), [(2, 295), (0, ((t : Nat) : Int)), (0, ((k : Nat) : Int)), (0, ((e : Nat) : Int)), (0, (mOnN σ b v t k lt e q0 n).1), (0, ((n : Nat) : Int))], [], ((mOnN σ b v t k lt e q0 n).2))) rfl rfl ?_
      refine TT.br (p := ((n : Nat) : Int) = (σ 295 44)) (fun h3 => ?_) (fun h3 => ?_)
      · refine TT.inc (cd := cd55) ((n + 1 : Nat) : Int) rfl rfl rfl rfl (fun h => absurd h.2 (show ¬ (0 = 1) by decide)) (aAdd_n (a := n) (b := 1) (by omega)) (ls' := [(2, 295), (0, ((t : Nat) : Int)), (0, ((k : Nat) : Int)), (0, ((e : Nat) : Int)), (0, (mOnN σ b v t k lt e q0 n).1), (0, ((n + 1 : Nat) : Int))]) rfl ?_
        refine TT.steps (cd := cd55) 1 (c' := (16, [(2, 295), (0, ((t : Nat) : Int)), (0, ((k : Nat) : Int)), (0, ((e : Nat) : Int)), (0, (mOnN σ b v t k lt e q0 n).1), (0, ((n + 1 : Nat) : Int))], [], ((mOnN σ b v t k lt e q0 n).2))) rfl rfl ?_
        have e1 : mOnN σ b v t k lt e q0 (n + 1) = ((mOnN σ b v t k lt e q0 n).1, ((mOnN σ b v t k lt e q0 n).2)) := by
          have z : ¬ (0 < (mOnN σ b v t k lt e q0 n).1 ∧ mOnC (mOnN σ b v t k lt e q0 n).2 σ b v t k lt n) := by
            rintro ⟨z1, z2, z3, z4, z5⟩
            rcases z5 with ⟨z6, z7⟩ | ⟨z6, z7⟩
            · omega
            · first | omega | (exact absurd z7 (by assumption))
          rw [mOnN, if_neg z]
        have := ih (n + 1) (by omega)
        rw [e1] at this
        dsimp only at this
        exact this
      · refine TT.steps (cd := cd55) 3 (c' := (32, [(2, 295), (0, ((t : Nat) : Int)), (0, ((k : Nat) : Int)), (0, ((e : Nat) : Int)), (0, (mOnN σ b v t k lt e q0 n).1), (0, ((n : Nat) : Int))], [(0, ((n : Nat) : Int)), (2, 333)], ((mOnN σ b v t k lt e q0 n).2))) rfl rfl ?_
        refine TT.aldN (cd := cd55) (333) (n) rfl rfl rfl rfl (show n < 10 by omega) ?_
        refine TT.steps (cd := cd55) 2 (c' := ((if decide (¬ (((mOnN σ b v t k lt e q0 n).2) 333 n) = (-1)) = true then 86 else 35), [(2, 295), (0, ((t : Nat) : Int)), (0, ((k : Nat) : Int)), (0, ((e : Nat) : Int)), (0, (mOnN σ b v t k lt e q0 n).1), (0, ((n : Nat) : Int))], [], ((mOnN σ b v t k lt e q0 n).2))) rfl rfl ?_
        refine TT.br (p := ¬ (((mOnN σ b v t k lt e q0 n).2) 333 n) = (-1)) (fun h4 => ?_) (fun h4 => ?_)
        · refine TT.inc (cd := cd55) ((n + 1 : Nat) : Int) rfl rfl rfl rfl (fun h => absurd h.2 (show ¬ (0 = 1) by decide)) (aAdd_n (a := n) (b := 1) (by omega)) (ls' := [(2, 295), (0, ((t : Nat) : Int)), (0, ((k : Nat) : Int)), (0, ((e : Nat) : Int)), (0, (mOnN σ b v t k lt e q0 n).1), (0, ((n + 1 : Nat) : Int))]) rfl ?_
          refine TT.steps (cd := cd55) 1 (c' := (16, [(2, 295), (0, ((t : Nat) : Int)), (0, ((k : Nat) : Int)), (0, ((e : Nat) : Int)), (0, (mOnN σ b v t k lt e q0 n).1), (0, ((n + 1 : Nat) : Int))], [], ((mOnN σ b v t k lt e q0 n).2))) rfl rfl ?_
          have e1 : mOnN σ b v t k lt e q0 (n + 1) = ((mOnN σ b v t k lt e q0 n).1, ((mOnN σ b v t k lt e q0 n).2)) := by
            have z : ¬ (0 < (mOnN σ b v t k lt e q0 n).1 ∧ mOnC (mOnN σ b v t k lt e q0 n).2 σ b v t k lt n) := by
              rintro ⟨z1, z2, z3, z4, z5⟩
              rcases z5 with ⟨z6, z7⟩ | ⟨z6, z7⟩
              · omega
              · first | omega | (exact absurd z7 (by assumption))
            rw [mOnN, if_neg z]
          have := ih (n + 1) (by omega)
          rw [e1] at this
          dsimp only at this
          exact this
        · refine TT.steps (cd := cd55) 3 (c' := (38, [(2, 295), (0, ((t : Nat) : Int)), (0, ((k : Nat) : Int)), (0, ((e : Nat) : Int)), (0, (mOnN σ b v t k lt e q0 n).1), (0, ((n : Nat) : Int))], [(0, ((n : Nat) : Int)), (2, 334)], ((mOnN σ b v t k lt e q0 n).2))) rfl rfl ?_
          refine TT.aldN (cd := cd55) (334) (n) rfl rfl rfl rfl (show n < 10 by omega) ?_
          refine TT.top0 (z := (σ 334 n)) (mOnN_fr _ _ _ _ _ _ _ _ _ 334 (n) (by decide)) ?_
          refine TT.steps (cd := cd55) 3 (c' := (42, [(2, 295), (0, ((t : Nat) : Int)), (0, ((k : Nat) : Int)), (0, ((e : Nat) : Int)), (0, (mOnN σ b v t k lt e q0 n).1), (0, ((n : Nat) : Int))], [(0, ((k : Nat) : Int)), (0, ((t : Nat) : Int)), (2, 295), (0, (σ 334 n))], ((mOnN σ b v t k lt e q0 n).2))) rfl rfl ?_
          refine TT.call (cd := cd55) rfl rfl rfl (by decide) rfl (t_callOf X t k (by omega) (by omega) ((mOnN σ b v t k lt e q0 n).2) ((mOnN_fr _ _ _ _ _ _ _ _ _ 295 (13) (by decide)).trans hb) hb2) (fun r5 σ5 hq => ?_)
          rw [hq.1, hq.2]
          refine TT.top0 (z := (σ 305 (8 * (6 * b + t) + k))) (mOnN_fr _ _ _ _ _ _ _ _ _ 305 (8 * (6 * b + t) + k) (by decide)) ?_
          refine TT.steps (cd := cd55) 1 (c' := ((if decide ((σ 334 n) = (σ 305 (8 * (6 * b + t) + k))) = true then 45 else 44), [(2, 295), (0, ((t : Nat) : Int)), (0, ((k : Nat) : Int)), (0, ((e : Nat) : Int)), (0, (mOnN σ b v t k lt e q0 n).1), (0, ((n : Nat) : Int))], [], ((mOnN σ b v t k lt e q0 n).2))) rfl rfl ?_
          refine TT.br (p := (σ 334 n) = (σ 305 (8 * (6 * b + t) + k))) (fun h6 => ?_) (fun h6 => ?_)
          · refine TT.steps (cd := cd55) 2 (c' := (47, [(2, 295), (0, ((t : Nat) : Int)), (0, ((k : Nat) : Int)), (0, ((e : Nat) : Int)), (0, (mOnN σ b v t k lt e q0 n).1), (0, ((n : Nat) : Int))], [(0, ((n : Nat) : Int)), (2, 295)], ((mOnN σ b v t k lt e q0 n).2))) rfl rfl ?_
            refine TT.call (cd := cd55) rfl rfl rfl (by decide) rfl (t_isHired X n (by omega) ((mOnN σ b v t k lt e q0 n).2) ((mOnN_fr _ _ _ _ _ _ _ _ _ 295 (46) (by decide)).trans hv) hv2) (fun r7 σ7 hq => ?_)
            rw [hq.1, hq.2]
            refine TT.top0 (z := (if (σ 322 (10 * v + n)) = 1 then 1 else 0)) (by rw [(mOnN_fr _ _ _ _ _ _ _ _ _ 322 (10 * v + n) (by decide))]) ?_
            refine TT.steps (cd := cd55) 1 (c' := ((if decide (((if (σ 322 (10 * v + n)) = 1 then 1 else 0) : Int) = 0) = true then 55 else 49), [(2, 295), (0, ((t : Nat) : Int)), (0, ((k : Nat) : Int)), (0, ((e : Nat) : Int)), (0, (mOnN σ b v t k lt e q0 n).1), (0, ((n : Nat) : Int))], [], ((mOnN σ b v t k lt e q0 n).2))) rfl rfl ?_
            refine TT.br (p := ((if (σ 322 (10 * v + n)) = 1 then 1 else 0) : Int) = 0) (fun h8 => ?_) (fun h8 => ?_)
            · replace h8 := ite_f h8
              refine TT.steps (cd := cd55) 5 (c' := (60, [(2, 295), (0, ((t : Nat) : Int)), (0, ((k : Nat) : Int)), (0, ((e : Nat) : Int)), (0, (mOnN σ b v t k lt e q0 n).1), (0, ((n : Nat) : Int))], [(0, ((n : Nat) : Int)), (2, 295), (0, ((k : Nat) : Int)), (0, ((t : Nat) : Int)), (2, 295)], ((mOnN σ b v t k lt e q0 n).2))) rfl rfl ?_
              refine TT.call (cd := cd55) rfl rfl rfl (by decide) rfl (t_wishOf X n (by omega) ((mOnN σ b v t k lt e q0 n).2) ((mOnN_fr _ _ _ _ _ _ _ _ _ 295 (46) (by decide)).trans hv) hv2) (fun r9 σ9 hq => ?_)
              rw [hq.1, hq.2]
              refine TT.top0 (z := (σ 321 (10 * v + n))) (mOnN_fr _ _ _ _ _ _ _ _ _ 321 (10 * v + n) (by decide)) ?_
              refine TT.call (cd := cd55) rfl rfl rfl (by decide) rfl (t_comesLater X t lt k hk (σ 321 (10 * v + n)) ((mOnN σ b v t k lt e q0 n).2) ((mOnN_fr _ _ _ _ _ _ _ _ _ 295 (13) (by decide)).trans hb) hb2 ht ((mOnN_fr _ _ _ _ _ _ _ _ _ 304 (6 * b + t) (by decide)).trans hlt) hlt2.2 hkl) (fun r10 σ10 hq => ?_)
              rw [hq.1, hq.2]
              refine TT.top0 (z := (if anyN (fun i => decide (k + 1 ≤ i ∧ σ 305 (8 * (6 * b + t) + i) = (σ 321 (10 * v + n)))) lt = true then 1 else 0)) (by simp only [show ∀ j, ((mOnN σ b v t k lt e q0 n).2) 305 j = σ 305 j from fun j => (mOnN_fr _ _ _ _ _ _ _ _ _ 305 (j) (by decide))]) ?_
              refine TT.steps (cd := cd55) 1 (c' := ((if decide (¬ ((if anyN (fun i => decide (k + 1 ≤ i ∧ σ 305 (8 * (6 * b + t) + i) = (σ 321 (10 * v + n)))) lt = true then 1 else 0) : Int) = 0) = true then 64 else 63), [(2, 295), (0, ((t : Nat) : Int)), (0, ((k : Nat) : Int)), (0, ((e : Nat) : Int)), (0, (mOnN σ b v t k lt e q0 n).1), (0, ((n : Nat) : Int))], [], ((mOnN σ b v t k lt e q0 n).2))) rfl rfl ?_
              refine TT.br (p := ¬ ((if anyN (fun i => decide (k + 1 ≤ i ∧ σ 305 (8 * (6 * b + t) + i) = (σ 321 (10 * v + n)))) lt = true then 1 else 0) : Int) = 0) (fun h11 => ?_) (fun h11 => ?_)
              · replace h11 := ite_t h11
                refine TT.steps (cd := cd55) 4 (c' := (68, [(2, 295), (0, ((t : Nat) : Int)), (0, ((k : Nat) : Int)), (0, ((e : Nat) : Int)), (0, (mOnN σ b v t k lt e q0 n).1), (0, ((n : Nat) : Int))], [(0, ((t : Nat) : Int)), (0, ((n : Nat) : Int)), (2, 333)], ((mOnN σ b v t k lt e q0 n).2))) rfl rfl ?_
                refine TT.astN (cd := cd55) (333) (n) rfl rfl rfl rfl (show n < 10 by omega) ?_
                refine TT.steps (cd := cd55) 4 (c' := (73, [(2, 295), (0, ((t : Nat) : Int)), (0, ((k : Nat) : Int)), (0, ((e : Nat) : Int)), (0, (mOnN σ b v t k lt e q0 n).1), (0, ((n : Nat) : Int))], [(0, ((n : Nat) : Int)), (2, 336), (0, ((n : Nat) : Int)), (2, 336)], (up2 ((mOnN σ b v t k lt e q0 n).2) 333 n ((t : Nat) : Int)))) rfl rfl ?_
                refine TT.aldN (cd := cd55) (336) (n) rfl rfl rfl rfl (show n < 10 by omega) ?_
                refine TT.top0 (z := (((mOnN σ b v t k lt e q0 n).2) 336 n)) (up2_far (k := 333) (k' := 336) _ _ _ _ (by decide)) ?_
                refine TT.steps (cd := cd55) 2 (c' := (76, [(2, 295), (0, ((t : Nat) : Int)), (0, ((k : Nat) : Int)), (0, ((e : Nat) : Int)), (0, (mOnN σ b v t k lt e q0 n).1), (0, ((n : Nat) : Int))], [(0, (aAdd (((mOnN σ b v t k lt e q0 n).2) 336 n) 1)), (0, ((n : Nat) : Int)), (2, 336)], (up2 ((mOnN σ b v t k lt e q0 n).2) 333 n ((t : Nat) : Int)))) rfl rfl ?_
                refine TT.astN (cd := cd55) (336) (n) rfl rfl rfl rfl (show n < 10 by omega) ?_
                refine TT.steps (cd := cd55) 4 (c' := (81, [(2, 295), (0, ((t : Nat) : Int)), (0, ((k : Nat) : Int)), (0, ((e : Nat) : Int)), (0, (mOnN σ b v t k lt e q0 n).1), (0, ((n : Nat) : Int))], [(0, ((e : Nat) : Int)), (2, 328), (0, ((e : Nat) : Int)), (2, 328)], (up2 (up2 ((mOnN σ b v t k lt e q0 n).2) 333 n ((t : Nat) : Int)) 336 n (aAdd (((mOnN σ b v t k lt e q0 n).2) 336 n) 1)))) rfl rfl ?_
                refine TT.aldN (cd := cd55) (328) (e) rfl rfl rfl rfl (show e < 48 by omega) ?_
                refine TT.top0 (z := (((mOnN σ b v t k lt e q0 n).2) 328 e)) ((up2_far (k := 336) (k' := 328) _ _ _ _ (by decide)).trans (up2_far (k := 333) (k' := 328) _ _ _ _ (by decide))) ?_
                refine TT.steps (cd := cd55) 2 (c' := (84, [(2, 295), (0, ((t : Nat) : Int)), (0, ((k : Nat) : Int)), (0, ((e : Nat) : Int)), (0, (mOnN σ b v t k lt e q0 n).1), (0, ((n : Nat) : Int))], [(0, (aAdd (((mOnN σ b v t k lt e q0 n).2) 328 e) 1)), (0, ((e : Nat) : Int)), (2, 328)], (up2 (up2 ((mOnN σ b v t k lt e q0 n).2) 333 n ((t : Nat) : Int)) 336 n (aAdd (((mOnN σ b v t k lt e q0 n).2) 336 n) 1)))) rfl rfl ?_
                refine TT.astN (cd := cd55) (328) (e) rfl rfl rfl rfl (show e < 48 by omega) ?_
                refine TT.inc (cd := cd55) (aAdd (mOnN σ b v t k lt e q0 n).1 (-1)) rfl rfl rfl rfl (fun h => absurd h.2 (show ¬ (0 = 1) by decide)) rfl (ls' := [(2, 295), (0, ((t : Nat) : Int)), (0, ((k : Nat) : Int)), (0, ((e : Nat) : Int)), (0, (aAdd (mOnN σ b v t k lt e q0 n).1 (-1))), (0, ((n : Nat) : Int))]) rfl ?_
                refine TT.inc (cd := cd55) ((n + 1 : Nat) : Int) rfl rfl rfl rfl (fun h => absurd h.2 (show ¬ (0 = 1) by decide)) (aAdd_n (a := n) (b := 1) (by omega)) (ls' := [(2, 295), (0, ((t : Nat) : Int)), (0, ((k : Nat) : Int)), (0, ((e : Nat) : Int)), (0, (aAdd (mOnN σ b v t k lt e q0 n).1 (-1))), (0, ((n + 1 : Nat) : Int))]) rfl ?_
                refine TT.steps (cd := cd55) 1 (c' := (16, [(2, 295), (0, ((t : Nat) : Int)), (0, ((k : Nat) : Int)), (0, ((e : Nat) : Int)), (0, (aAdd (mOnN σ b v t k lt e q0 n).1 (-1))), (0, ((n + 1 : Nat) : Int))], [], (up2 (up2 (up2 ((mOnN σ b v t k lt e q0 n).2) 333 n ((t : Nat) : Int)) 336 n (aAdd (((mOnN σ b v t k lt e q0 n).2) 336 n) 1)) 328 e (aAdd (((mOnN σ b v t k lt e q0 n).2) 328 e) 1)))) rfl rfl ?_
                have e1 : mOnN σ b v t k lt e q0 (n + 1) = ((aAdd (mOnN σ b v t k lt e q0 n).1 (-1)), (up2 (up2 (up2 ((mOnN σ b v t k lt e q0 n).2) 333 n ((t : Nat) : Int)) 336 n (aAdd (((mOnN σ b v t k lt e q0 n).2) 336 n) 1)) 328 e (aAdd (((mOnN σ b v t k lt e q0 n).2) 328 e) 1))) := by
                  have z : 0 < (mOnN σ b v t k lt e q0 n).1 ∧ mOnC (mOnN σ b v t k lt e q0 n).2 σ b v t k lt n := by
                    refine ⟨by omega, by omega, by omega, by omega, ?_⟩
                    first | exact Or.inl ⟨by omega, by omega⟩ | exact Or.inr ⟨by omega, by assumption⟩
                  rw [mOnN, if_pos z]
                have := ih (n + 1) (by omega)
                rw [e1] at this
                dsimp only at this
                exact this
              · replace h11 := ite_f (Decidable.not_not.mp h11)
                refine TT.steps (cd := cd55) 1 (c' := (86, [(2, 295), (0, ((t : Nat) : Int)), (0, ((k : Nat) : Int)), (0, ((e : Nat) : Int)), (0, (mOnN σ b v t k lt e q0 n).1), (0, ((n : Nat) : Int))], [], ((mOnN σ b v t k lt e q0 n).2))) rfl rfl ?_
                refine TT.inc (cd := cd55) ((n + 1 : Nat) : Int) rfl rfl rfl rfl (fun h => absurd h.2 (show ¬ (0 = 1) by decide)) (aAdd_n (a := n) (b := 1) (by omega)) (ls' := [(2, 295), (0, ((t : Nat) : Int)), (0, ((k : Nat) : Int)), (0, ((e : Nat) : Int)), (0, (mOnN σ b v t k lt e q0 n).1), (0, ((n + 1 : Nat) : Int))]) rfl ?_
                refine TT.steps (cd := cd55) 1 (c' := (16, [(2, 295), (0, ((t : Nat) : Int)), (0, ((k : Nat) : Int)), (0, ((e : Nat) : Int)), (0, (mOnN σ b v t k lt e q0 n).1), (0, ((n + 1 : Nat) : Int))], [], ((mOnN σ b v t k lt e q0 n).2))) rfl rfl ?_
                have e1 : mOnN σ b v t k lt e q0 (n + 1) = ((mOnN σ b v t k lt e q0 n).1, ((mOnN σ b v t k lt e q0 n).2)) := by
                  have z : ¬ (0 < (mOnN σ b v t k lt e q0 n).1 ∧ mOnC (mOnN σ b v t k lt e q0 n).2 σ b v t k lt n) := by
                    rintro ⟨z1, z2, z3, z4, z5⟩
                    rcases z5 with ⟨z6, z7⟩ | ⟨z6, z7⟩
                    · omega
                    · first | omega | (exact absurd z7 (by assumption))
                  rw [mOnN, if_neg z]
                have := ih (n + 1) (by omega)
                rw [e1] at this
                dsimp only at this
                exact this
            · replace h8 := ite_t h8
              refine TT.steps (cd := cd55) 3 (c' := (52, [(2, 295), (0, ((t : Nat) : Int)), (0, ((k : Nat) : Int)), (0, ((e : Nat) : Int)), (0, (mOnN σ b v t k lt e q0 n).1), (0, ((n : Nat) : Int))], [(0, ((n : Nat) : Int)), (2, 336)], ((mOnN σ b v t k lt e q0 n).2))) rfl rfl ?_
              refine TT.aldN (cd := cd55) (336) (n) rfl rfl rfl rfl (show n < 10 by omega) ?_
              refine TT.steps (cd := cd55) 1 (c' := ((if decide ((((mOnN σ b v t k lt e q0 n).2) 336 n) ≤ 0) = true then 64 else 54), [(2, 295), (0, ((t : Nat) : Int)), (0, ((k : Nat) : Int)), (0, ((e : Nat) : Int)), (0, (mOnN σ b v t k lt e q0 n).1), (0, ((n : Nat) : Int))], [], ((mOnN σ b v t k lt e q0 n).2))) rfl rfl ?_
              refine TT.br (p := (((mOnN σ b v t k lt e q0 n).2) 336 n) ≤ 0) (fun h12 => ?_) (fun h12 => ?_)
              · refine TT.steps (cd := cd55) 4 (c' := (68, [(2, 295), (0, ((t : Nat) : Int)), (0, ((k : Nat) : Int)), (0, ((e : Nat) : Int)), (0, (mOnN σ b v t k lt e q0 n).1), (0, ((n : Nat) : Int))], [(0, ((t : Nat) : Int)), (0, ((n : Nat) : Int)), (2, 333)], ((mOnN σ b v t k lt e q0 n).2))) rfl rfl ?_
                refine TT.astN (cd := cd55) (333) (n) rfl rfl rfl rfl (show n < 10 by omega) ?_
                refine TT.steps (cd := cd55) 4 (c' := (73, [(2, 295), (0, ((t : Nat) : Int)), (0, ((k : Nat) : Int)), (0, ((e : Nat) : Int)), (0, (mOnN σ b v t k lt e q0 n).1), (0, ((n : Nat) : Int))], [(0, ((n : Nat) : Int)), (2, 336), (0, ((n : Nat) : Int)), (2, 336)], (up2 ((mOnN σ b v t k lt e q0 n).2) 333 n ((t : Nat) : Int)))) rfl rfl ?_
                refine TT.aldN (cd := cd55) (336) (n) rfl rfl rfl rfl (show n < 10 by omega) ?_
                refine TT.top0 (z := (((mOnN σ b v t k lt e q0 n).2) 336 n)) (up2_far (k := 333) (k' := 336) _ _ _ _ (by decide)) ?_
                refine TT.steps (cd := cd55) 2 (c' := (76, [(2, 295), (0, ((t : Nat) : Int)), (0, ((k : Nat) : Int)), (0, ((e : Nat) : Int)), (0, (mOnN σ b v t k lt e q0 n).1), (0, ((n : Nat) : Int))], [(0, (aAdd (((mOnN σ b v t k lt e q0 n).2) 336 n) 1)), (0, ((n : Nat) : Int)), (2, 336)], (up2 ((mOnN σ b v t k lt e q0 n).2) 333 n ((t : Nat) : Int)))) rfl rfl ?_
                refine TT.astN (cd := cd55) (336) (n) rfl rfl rfl rfl (show n < 10 by omega) ?_
                refine TT.steps (cd := cd55) 4 (c' := (81, [(2, 295), (0, ((t : Nat) : Int)), (0, ((k : Nat) : Int)), (0, ((e : Nat) : Int)), (0, (mOnN σ b v t k lt e q0 n).1), (0, ((n : Nat) : Int))], [(0, ((e : Nat) : Int)), (2, 328), (0, ((e : Nat) : Int)), (2, 328)], (up2 (up2 ((mOnN σ b v t k lt e q0 n).2) 333 n ((t : Nat) : Int)) 336 n (aAdd (((mOnN σ b v t k lt e q0 n).2) 336 n) 1)))) rfl rfl ?_
                refine TT.aldN (cd := cd55) (328) (e) rfl rfl rfl rfl (show e < 48 by omega) ?_
                refine TT.top0 (z := (((mOnN σ b v t k lt e q0 n).2) 328 e)) ((up2_far (k := 336) (k' := 328) _ _ _ _ (by decide)).trans (up2_far (k := 333) (k' := 328) _ _ _ _ (by decide))) ?_
                refine TT.steps (cd := cd55) 2 (c' := (84, [(2, 295), (0, ((t : Nat) : Int)), (0, ((k : Nat) : Int)), (0, ((e : Nat) : Int)), (0, (mOnN σ b v t k lt e q0 n).1), (0, ((n : Nat) : Int))], [(0, (aAdd (((mOnN σ b v t k lt e q0 n).2) 328 e) 1)), (0, ((e : Nat) : Int)), (2, 328)], (up2 (up2 ((mOnN σ b v t k lt e q0 n).2) 333 n ((t : Nat) : Int)) 336 n (aAdd (((mOnN σ b v t k lt e q0 n).2) 336 n) 1)))) rfl rfl ?_
                refine TT.astN (cd := cd55) (328) (e) rfl rfl rfl rfl (show e < 48 by omega) ?_
                refine TT.inc (cd := cd55) (aAdd (mOnN σ b v t k lt e q0 n).1 (-1)) rfl rfl rfl rfl (fun h => absurd h.2 (show ¬ (0 = 1) by decide)) rfl (ls' := [(2, 295), (0, ((t : Nat) : Int)), (0, ((k : Nat) : Int)), (0, ((e : Nat) : Int)), (0, (aAdd (mOnN σ b v t k lt e q0 n).1 (-1))), (0, ((n : Nat) : Int))]) rfl ?_
                refine TT.inc (cd := cd55) ((n + 1 : Nat) : Int) rfl rfl rfl rfl (fun h => absurd h.2 (show ¬ (0 = 1) by decide)) (aAdd_n (a := n) (b := 1) (by omega)) (ls' := [(2, 295), (0, ((t : Nat) : Int)), (0, ((k : Nat) : Int)), (0, ((e : Nat) : Int)), (0, (aAdd (mOnN σ b v t k lt e q0 n).1 (-1))), (0, ((n + 1 : Nat) : Int))]) rfl ?_
                refine TT.steps (cd := cd55) 1 (c' := (16, [(2, 295), (0, ((t : Nat) : Int)), (0, ((k : Nat) : Int)), (0, ((e : Nat) : Int)), (0, (aAdd (mOnN σ b v t k lt e q0 n).1 (-1))), (0, ((n + 1 : Nat) : Int))], [], (up2 (up2 (up2 ((mOnN σ b v t k lt e q0 n).2) 333 n ((t : Nat) : Int)) 336 n (aAdd (((mOnN σ b v t k lt e q0 n).2) 336 n) 1)) 328 e (aAdd (((mOnN σ b v t k lt e q0 n).2) 328 e) 1)))) rfl rfl ?_
                have e1 : mOnN σ b v t k lt e q0 (n + 1) = ((aAdd (mOnN σ b v t k lt e q0 n).1 (-1)), (up2 (up2 (up2 ((mOnN σ b v t k lt e q0 n).2) 333 n ((t : Nat) : Int)) 336 n (aAdd (((mOnN σ b v t k lt e q0 n).2) 336 n) 1)) 328 e (aAdd (((mOnN σ b v t k lt e q0 n).2) 328 e) 1))) := by
                  have z : 0 < (mOnN σ b v t k lt e q0 n).1 ∧ mOnC (mOnN σ b v t k lt e q0 n).2 σ b v t k lt n := by
                    refine ⟨by omega, by omega, by omega, by omega, ?_⟩
                    first | exact Or.inl ⟨by omega, by omega⟩ | exact Or.inr ⟨by omega, by assumption⟩
                  rw [mOnN, if_pos z]
                have := ih (n + 1) (by omega)
                rw [e1] at this
                dsimp only at this
                exact this
              · refine TT.steps (cd := cd55) 1 (c' := (86, [(2, 295), (0, ((t : Nat) : Int)), (0, ((k : Nat) : Int)), (0, ((e : Nat) : Int)), (0, (mOnN σ b v t k lt e q0 n).1), (0, ((n : Nat) : Int))], [], ((mOnN σ b v t k lt e q0 n).2))) rfl rfl ?_
                refine TT.inc (cd := cd55) ((n + 1 : Nat) : Int) rfl rfl rfl rfl (fun h => absurd h.2 (show ¬ (0 = 1) by decide)) (aAdd_n (a := n) (b := 1) (by omega)) (ls' := [(2, 295), (0, ((t : Nat) : Int)), (0, ((k : Nat) : Int)), (0, ((e : Nat) : Int)), (0, (mOnN σ b v t k lt e q0 n).1), (0, ((n + 1 : Nat) : Int))]) rfl ?_
                refine TT.steps (cd := cd55) 1 (c' := (16, [(2, 295), (0, ((t : Nat) : Int)), (0, ((k : Nat) : Int)), (0, ((e : Nat) : Int)), (0, (mOnN σ b v t k lt e q0 n).1), (0, ((n + 1 : Nat) : Int))], [], ((mOnN σ b v t k lt e q0 n).2))) rfl rfl ?_
                have e1 : mOnN σ b v t k lt e q0 (n + 1) = ((mOnN σ b v t k lt e q0 n).1, ((mOnN σ b v t k lt e q0 n).2)) := by
                  have z : ¬ (0 < (mOnN σ b v t k lt e q0 n).1 ∧ mOnC (mOnN σ b v t k lt e q0 n).2 σ b v t k lt n) := by
                    rintro ⟨z1, z2, z3, z4, z5⟩
                    rcases z5 with ⟨z6, z7⟩ | ⟨z6, z7⟩
                    · omega
                    · first | omega | (exact absurd z7 (by assumption))
                  rw [mOnN, if_neg z]
                have := ih (n + 1) (by omega)
                rw [e1] at this
                dsimp only at this
                exact this
          · refine TT.steps (cd := cd55) 1 (c' := (86, [(2, 295), (0, ((t : Nat) : Int)), (0, ((k : Nat) : Int)), (0, ((e : Nat) : Int)), (0, (mOnN σ b v t k lt e q0 n).1), (0, ((n : Nat) : Int))], [], ((mOnN σ b v t k lt e q0 n).2))) rfl rfl ?_
            refine TT.inc (cd := cd55) ((n + 1 : Nat) : Int) rfl rfl rfl rfl (fun h => absurd h.2 (show ¬ (0 = 1) by decide)) (aAdd_n (a := n) (b := 1) (by omega)) (ls' := [(2, 295), (0, ((t : Nat) : Int)), (0, ((k : Nat) : Int)), (0, ((e : Nat) : Int)), (0, (mOnN σ b v t k lt e q0 n).1), (0, ((n + 1 : Nat) : Int))]) rfl ?_
            refine TT.steps (cd := cd55) 1 (c' := (16, [(2, 295), (0, ((t : Nat) : Int)), (0, ((k : Nat) : Int)), (0, ((e : Nat) : Int)), (0, (mOnN σ b v t k lt e q0 n).1), (0, ((n + 1 : Nat) : Int))], [], ((mOnN σ b v t k lt e q0 n).2))) rfl rfl ?_
            have e1 : mOnN σ b v t k lt e q0 (n + 1) = ((mOnN σ b v t k lt e q0 n).1, ((mOnN σ b v t k lt e q0 n).2)) := by
              have z : ¬ (0 < (mOnN σ b v t k lt e q0 n).1 ∧ mOnC (mOnN σ b v t k lt e q0 n).2 σ b v t k lt n) := by
                rintro ⟨z1, z2, z3, z4, z5⟩
                rcases z5 with ⟨z6, z7⟩ | ⟨z6, z7⟩
                · omega
                · first | omega | (exact absurd z7 (by assumption))
              rw [mOnN, if_neg z]
            have := ih (n + 1) (by omega)
            rw [e1] at this
            dsimp only at this
            exact this
theorem t_getOn (X : AX) (t k e np lt : Nat) (σ : AH) {b v : Nat} (hb : σ 295 13 = (b : Int)) (hb2 : b < 2) (hv : σ 295 46 = (v : Int)) (hv2 : v < 22) (hnp : σ 307 b = (np : Int)) (hnp2 : np ≤ 10) (ht : t < 6) (hk : k < 8) (he : e < 48) (hlt : σ 304 (6 * b + t) = (lt : Int)) (hlt2 : 1 ≤ lt ∧ lt ≤ 8) (hkl : k + 1 ≤ lt)  : TT X 55 (0, [(2, 295), (0, ((t : Nat) : Int)), (0, ((k : Nat) : Int)), (0, ((e : Nat) : Int)), (9, 0), (9, 0)], [], σ) (fun r σ' => r = none ∧ σ' = (mOnN σ b v t k lt e (aSub (σ 303 (6 * b + t)) ((mAbo σ t np : Nat) : Int)) np).2) := by
  refine TT.steps (cd := cd55) 5 (c' := (5, [(2, 295), (0, ((t : Nat) : Int)), (0, ((k : Nat) : Int)), (0, ((e : Nat) : Int)), (9, 0), (9, 0)], [(0, (σ 295 13)), (0, 6), (2, 303)], σ)) rfl rfl ?_
  refine TT.top0 (z := ((b : Nat) : Int)) hb ?_
  refine TT.steps (cd := cd55) 1 (c' := (6, [(2, 295), (0, ((t : Nat) : Int)), (0, ((k : Nat) : Int)), (0, ((e : Nat) : Int)), (9, 0), (9, 0)], [(0, (aMul 6 ((b : Nat) : Int))), (2, 303)], σ)) rfl rfl ?_
  refine TT.top0 (z := ((6 * b : Nat) : Int)) (aMul_n (a := 6) (b := b) (by omega)) ?_
  refine TT.steps (cd := cd55) 2 (c' := (8, [(2, 295), (0, ((t : Nat) : Int)), (0, ((k : Nat) : Int)), (0, ((e : Nat) : Int)), (9, 0), (9, 0)], [(0, (aAdd ((6 * b : Nat) : Int) ((t : Nat) : Int))), (2, 303)], σ)) rfl rfl ?_
  refine TT.top0 (z := (((6 * b) + t : Nat) : Int)) (aAdd_n (a := 6 * b) (b := t) (by omega)) ?_
  refine TT.aldN (cd := cd55) (303) ((6 * b) + t) rfl rfl rfl rfl (show (6 * b) + t < 12 by omega) ?_
  refine TT.steps (cd := cd55) 2 (c' := (11, [(2, 295), (0, ((t : Nat) : Int)), (0, ((k : Nat) : Int)), (0, ((e : Nat) : Int)), (9, 0), (9, 0)], [(0, ((t : Nat) : Int)), (2, 295), (0, (σ 303 ((6 * b) + t)))], σ)) rfl rfl ?_
  refine TT.call (cd := cd55) rfl rfl rfl (by decide) rfl (t_aboardOf X t np σ hb hb2 hnp hnp2) (fun r1 σ1 hq => ?_)
  rw [hq.1, hq.2]
  refine TT.steps (cd := cd55) 1 (c' := (13, [(2, 295), (0, ((t : Nat) : Int)), (0, ((k : Nat) : Int)), (0, ((e : Nat) : Int)), (9, 0), (9, 0)], [(0, (aSub (σ 303 ((6 * b) + t)) (((mAbo σ t np) : Nat) : Int)))], σ)) rfl rfl ?_
  refine TT.steps (cd := cd55) 3 (c' := (16, [(2, 295), (0, ((t : Nat) : Int)), (0, ((k : Nat) : Int)), (0, ((e : Nat) : Int)), (0, (aSub (σ 303 ((6 * b) + t)) (((mAbo σ t np) : Nat) : Int))), (0, 0)], [], σ)) rfl rfl ?_
  exact l_getOn X _ t k e np lt σ hb hb2 hv hv2 hnp hnp2 ht hk he hlt hlt2 hkl np 0 (by omega)
