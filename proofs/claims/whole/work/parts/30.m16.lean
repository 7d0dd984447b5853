theorem l_station3 (X : AX) (s : Int) (nt : Nat) (L : Nat → Nat) (σ : AH) {b : Nat} (hb : σ 295 13 = (b : Int)) (hb2 : b < 2) (hnt : σ 300 b = (nt : Int)) (hnt2 : nt ≤ 6) (hL : ∀ t, t < nt → σ 304 (6 * b + t) = (L t : Int) ∧ 2 ≤ L t ∧ L t ≤ 8)  : ∀ (d n : Nat), n + d = nt → TT X 66 (91, [(2, 295), (0, s), (0, 3), (0, (sumA (fun t => (if anyN (fun i => decide (0 ≤ i ∧ (up2 σ 295 46 0) 305 (8 * (6 * b + t) + i) = s)) (L t) = true then 1 else 0)) n)), (0, ((n : Nat) : Int))], [], (up2 σ 295 46 0)) (fun r σ' => r = some (0, sumA (fun t => (if anyN (fun i => decide (0 ≤ i ∧ (up2 σ 295 46 0) 305 (8 * (6 * b + t) + i) = s)) (L t) = true then 1 else 0)) nt) ∧ σ' = (up2 σ 295 46 0)) := by
  intro d
  induction d with
  | zero =>
    intro n hn
    have hnn : n = nt := by omega
    refine TT.steps (cd := cd66) 5 (c' := (96, [(2, 295), (0, s), (0, 3), (0, (sumA (fun t => (if anyN (fun i => decide (0 ≤ i ∧ (up2 σ 295 46 0) 305 (8 * (6 * b + t) + i) = s)) (L t) = true then 1 else 0)) n)), (0, ((n : Nat) : Int))], [(0, ((up2 σ 295 46 0) 295 13)), (2, 300), (0, ((n : Nat) : Int))], (up2 σ 295 46 0))) rfl rfl ?_
    refine TT.top0 (z := ((b : Nat) : Int)) ((up2_by _ _ _ (by decide)).trans hb) ?_
    refine TT.aldN (cd := cd66) (300) (b) rfl rfl rfl rfl (show b < 2 by omega) ?_
    refine TT.top0 (z := ((nt : Nat) : Int)) ((up2_far (k := 295) _ _ _ _ (by decide)).trans hnt) ?_
    refine TT.steps (cd := cd66) 1 (c' := ((if decide (((nt : Nat) : Int) ≤ ((n : Nat) : Int)) = true then 112 else 98), [(2, 295), (0, s), (0, 3), (0, (sumA (fun t => (if anyN (fun i => decide (0 ≤ i ∧ (up2 σ 295 46 0) 305 (8 * (6 * b + t) + i) = s)) (L t) = true then 1 else 0)) n)), (0, ((n : Nat) : Int))], [], (up2 σ 295 46 0))) rfl rfl ?_
    refine TT.br (p := ((nt : Nat) : Int) ≤ ((n : Nat) : Int)) (fun h1 => ?_) (fun h1 => absurd (show ((nt : Nat) : Int) ≤ ((n : Nat) : Int) by omega) h1)
    refine TT.steps (cd := cd66) 1 (c' := (113, [(2, 295), (0, s), (0, 3), (0, (sumA (fun t => (if anyN (fun i => decide (0 ≤ i ∧ (up2 σ 295 46 0) 305 (8 * (6 * b + t) + i) = s)) (L t) = true then 1 else 0)) n)), (0, ((n : Nat) : Int))], [(0, (sumA (fun t => (if anyN (fun i => decide (0 ≤ i ∧ (up2 σ 295 46 0) 305 (8 * (6 * b + t) + i) = s)) (L t) = true then 1 else 0)) n))], (up2 σ 295 46 0))) rfl rfl ?_
    exact TT.ret (cd := cd66) rfl rfl rfl rfl (⟨by rw [hnn], rfl⟩)
  | succ d ih =>
    intro n hn
    refine TT.steps (cd := cd66) 5 (c' := (96, [(2, 295), (0, s), (0, 3), (0, (sumA (fun t => (if anyN (fun i => decide (0 ≤ i ∧ (up2 σ 295 46 0) 305 (8 * (6 * b + t) + i) = s)) (L t) = true then 1 else 0)) n)), (0, ((n : Nat) : Int))], [(0, ((up2 σ 295 46 0) 295 13)), (2, 300), (0, ((n : Nat) : Int))], (up2 σ 295 46 0))) rfl rfl ?_
    refine TT.top0 (z := ((b : Nat) : Int)) ((up2_by _ _ _ (by decide)).trans hb) ?_
    refine TT.aldN (cd := cd66) (300) (b) rfl rfl rfl rfl (show b < 2 by omega) ?_
    refine TT.top0 (z := ((nt : Nat) : Int)) ((up2_far (k := 295) _ _ _ _ (by decide)).trans hnt) ?_
    refine TT.steps (cd := cd66) 1 (c' := ((if decide (((nt : Nat) : Int) ≤ ((n : Nat) : Int)) = true then 112 else 98), [(2, 295), (0, s), (0, 3), (0, (sumA (fun t => (if anyN (fun i => decide (0 ≤ i ∧ (up2 σ 295 46 0) 305 (8 * (6 * b + t) + i) = s)) (L t) = true then 1 else 0)) n)), (0, ((n : Nat) : Int))], [], (up2 σ 295 46 0))) rfl rfl ?_
    refine TT.br (p := ((nt : Nat) : Int) ≤ ((n : Nat) : Int)) (fun h1 => absurd h1 (show ¬ (((nt : Nat) : Int) ≤ ((n : Nat) : Int)) by omega)) (fun h1 => ?_)
    refine TT.steps (cd := cd66) 5 (c' := (103, [(2, 295), (0, s), (0, 3), (0, (sumA (fun t => (if anyN (fun i => decide (0 ≤ i ∧ (up2 σ 295 46 0) 305 (8 * (6 * b + t) + i) = s)) (L t) = true then 1 else 0)) n)), (0, ((n : Nat) : Int))], [(0, s), (0, -1), (0, ((n : Nat) : Int)), (2, 295), (0, (sumA (fun t => (if anyN (fun i => decide (0 ≤ i ∧ (up2 σ 295 46 0) 305 (8 * (6 * b + t) + i) = s)) (L t) = true then 1 else 0)) n))], (up2 σ 295 46 0))) rfl rfl ?_
    refine TT.call (cd := cd66) rfl rfl rfl (by decide) rfl (t_comesAny X n (L n) s (up2 σ 295 46 0) ((up2_by _ _ _ (by decide)).trans hb) hb2 (by omega) ((up2_far (k := 295) _ _ _ _ (by decide)).trans (hL n (by omega)).1) (hL n (by omega)).2.2) (fun r2 σ2 hq => ?_)
    rw [hq.1, hq.2]
    refine TT.steps (cd := cd66) 1 (c' := ((if decide (((if anyN (fun i => decide (0 ≤ i ∧ (up2 σ 295 46 0) 305 (8 * (6 * b + n) + i) = s)) (L n) = true then 1 else 0) : Int) = 0) = true then 107 else 105), [(2, 295), (0, s), (0, 3), (0, (sumA (fun t => (if anyN (fun i => decide (0 ≤ i ∧ (up2 σ 295 46 0) 305 (8 * (6 * b + t) + i) = s)) (L t) = true then 1 else 0)) n)), (0, ((n : Nat) : Int))], [(0, (sumA (fun t => (if anyN (fun i => decide (0 ≤ i ∧ (up2 σ 295 46 0) 305 (8 * (6 * b + t) + i) = s)) (L t) = true then 1 else 0)) n))], (up2 σ 295 46 0))) rfl rfl ?_
    refine TT.br (p := ((if anyN (fun i => decide (0 ≤ i ∧ (up2 σ 295 46 0) 305 (8 * (6 * b + n) + i) = s)) (L n) = true then 1 else 0) : Int) = 0) (fun h3 => ?_) (fun h3 => ?_)
    · replace h3 := ite_f h3
      refine TT.steps (cd := cd66) 2 (c' := (109, [(2, 295), (0, s), (0, 3), (0, (sumA (fun t => (if anyN (fun i => decide (0 ≤ i ∧ (up2 σ 295 46 0) 305 (8 * (6 * b + t) + i) = s)) (L t) = true then 1 else 0)) n)), (0, ((n : Nat) : Int))], [(0, (aAdd (sumA (fun t => (if anyN (fun i => decide (0 ≤ i ∧ (up2 σ 295 46 0) 305 (8 * (6 * b + t) + i) = s)) (L t) = true then 1 else 0)) n) 0))], (up2 σ 295 46 0))) rfl rfl ?_
      refine TT.steps (cd := cd66) 1 (c' := (110, [(2, 295), (0, s), (0, 3), (0, (aAdd (sumA (fun t => (if anyN (fun i => decide (0 ≤ i ∧ (up2 σ 295 46 0) 305 (8 * (6 * b + t) + i) = s)) (L t) = true then 1 else 0)) n) 0)), (0, ((n : Nat) : Int))], [], (up2 σ 295 46 0))) rfl rfl ?_
      refine TT.inc (cd := cd66) ((n + 1 : Nat) : Int) rfl rfl rfl rfl (fun h => absurd h.2 (show ¬ (0 = 1) by decide)) (aAdd_n (a := n) (b := 1) (by omega)) (ls' := [(2, 295), (0, s), (0, 3), (0, (aAdd (sumA (fun t => (if anyN (fun i => decide (0 ≤ i ∧ (up2 σ 295 46 0) 305 (8 * (6 * b + t) + i) = s)) (L t) = true then 1 else 0)) n) 0)), (0, ((n + 1 : Nat) : Int))]) rfl ?_
      refine TT.steps (cd := cd66) 1 (c' := (91, [(2, 295), (0, s), (0, 3), (0, (aAdd (sumA (fun t => (if anyN (fun i => decide (0 ≤ i ∧ (up2 σ 295 46 0) 305 (8 * (6 * b + t) + i) = s)) (L t) = true then 1 else 0)) n) 0)), (0, ((n + 1 : Nat) : Int))], [], (up2 σ 295 46 0))) rfl rfl ?_
      have := ih (n + 1) (by omega)
      simp only [sumA] at this
      first | (rw [if_pos (by first | assumption | omega)] at this; exact this) | (rw [if_neg (by first | assumption | omega)] at this; exact this) | exact this
    · replace h3 := ite_t h3
      refine TT.steps (cd := cd66) 3 (c' := (109, [(2, 295), (0, s), (0, 3), (0, (sumA (fun t => (if anyN (fun i => decide (0 ≤ i ∧ (up2 σ 295 46 0) 305 (8 * (6 * b + t) + i) = s)) (L t) = true then 1 else 0)) n)), (0, ((n : Nat) : Int))], [(0, (aAdd (sumA (fun t => (if anyN (fun i => decide (0 ≤ i ∧ (up2 σ 295 46 0) 305 (8 * (6 * b + t) + i) = s)) (L t) = true then 1 else 0)) n) 1))], (up2 σ 295 46 0))) rfl rfl ?_
      refine TT.steps (cd := cd66) 1 (c' := (110, [(2, 295), (0, s), (0, 3), (0, (aAdd (sumA (fun t => (if anyN (fun i => decide (0 ≤ i ∧ (up2 σ 295 46 0) 305 (8 * (6 * b + t) + i) = s)) (L t) = true then 1 else 0)) n) 1)), (0, ((n : Nat) : Int))], [], (up2 σ 295 46 0))) rfl rfl ?_
      refine TT.inc (cd := cd66) ((n + 1 : Nat) : Int) rfl rfl rfl rfl (fun h => absurd h.2 (show ¬ (0 = 1) by decide)) (aAdd_n (a := n) (b := 1) (by omega)) (ls' := [(2, 295), (0, s), (0, 3), (0, (aAdd (sumA (fun t => (if anyN (fun i => decide (0 ≤ i ∧ (up2 σ 295 46 0) 305 (8 * (6 * b + t) + i) = s)) (L t) = true then 1 else 0)) n) 1)), (0, ((n + 1 : Nat) : Int))]) rfl ?_
      refine TT.steps (cd := cd66) 1 (c' := (91, [(2, 295), (0, s), (0, 3), (0, (aAdd (sumA (fun t => (if anyN (fun i => decide (0 ≤ i ∧ (up2 σ 295 46 0) 305 (8 * (6 * b + t) + i) = s)) (L t) = true then 1 else 0)) n) 1)), (0, ((n + 1 : Nat) : Int))], [], (up2 σ 295 46 0))) rfl rfl ?_
      have := ih (n + 1) (by omega)
      simp only [sumA] at this
      first | (rw [if_pos (by first | assumption | omega)] at this; exact this) | (rw [if_neg (by first | assumption | omega)] at this; exact this) | exact this
theorem t_station3 (X : AX) (s : Int) (nt ns : Nat) (L : Nat → Nat) (σ : AH) {b : Nat} (hb : σ 295 13 = (b : Int)) (hb2 : b < 2) (hnt : σ 300 b = (nt : Int)) (hnt2 : nt ≤ 6) (hns : σ 297 b = (ns : Int)) (hns2 : ns ≤ 14) (hL : ∀ t, t < nt → σ 304 (6 * b + t) = (L t : Int) ∧ 2 ≤ L t ∧ L t ≤ 8) (hs : 0 ≤ s ∧ s < (ns : Int))  : TT X 66 (0, [(2, 295), (0, s), (0, 3), (9, 0), (9, 0)], [], σ) (fun r σ' => r = some (0, sumA (fun t => (if anyN (fun i => decide (0 ≤ i ∧ (up2 σ 295 46 0) 305 (8 * (6 * b + t) + i) = s)) (L t) = true then 1 else 0)) nt) ∧ σ' = (up2 σ 295 46 0)) := by
  refine TT.steps (cd := cd66) 2 (c' := (2, [(2, 295), (0, s), (0, 3), (9, 0), (9, 0)], [(0, s), (2, 295)], σ)) rfl rfl ?_
  refine TT.call (cd := cd66) rfl rfl rfl (by decide) rfl (t_isStation X s σ hb hb2) (fun r1 σ1 hq => ?_)
  rw [hq.1, hq.2, hns]
  refine TT.steps (cd := cd66) 1 (c' := ((if decide (¬ ((if 0 ≤ s ∧ s < (ns : Int) then 1 else 0) : Int) = 0) = true then 6 else 4), [(2, 295), (0, s), (0, 3), (9, 0), (9, 0)], [], σ)) rfl rfl ?_
  refine TT.br (p := ¬ ((if 0 ≤ s ∧ s < (ns : Int) then 1 else 0) : Int) = 0) (fun h2 => ?_) (fun h2 => absurd (show ¬ ((if 0 ≤ s ∧ s < (ns : Int) then 1 else 0) : Int) = 0 by (rw [if_pos hs]; decide)) h2)
  refine TT.steps (cd := cd66) 9 (c' := (91, [(2, 295), (0, s), (0, 3), (0, 0), (0, 0)], [], (up2 σ 295 46 0))) rfl rfl ?_
  exact l_station3 X s nt L σ hb hb2 hnt hnt2 hL nt 0 (by omega)
theorem l_whole1 (X : AX) (np : Nat) (σ : AH) {b v : Nat} (hb : σ 295 13 = (b : Int)) (hb2 : b < 2) (hv : σ 295 46 = (v : Int)) (hv2 : v < 22) (hnp : σ 307 b = (np : Int)) (hnp2 : np ≤ 10)  : ∀ (d n : Nat), n + d = np → TT X 81 (12, [(2, 295), (0, 1), (0, (sumA (fun p => if mStrC σ v p then 1 else 0) n)), (0, ((n : Nat) : Int))], [], σ) (fun r σ' => r = some (0, sumA (fun p => if mStrC σ v p then 1 else 0) np) ∧ σ' = σ) := by
  intro d
  induction d with
  | zero =>
    intro n hn
    have hnn : n = np := by omega
    refine TT.steps (cd := cd81) 5 (c' := (17, [(2, 295), (0, 1), (0, (sumA (fun p => if mStrC σ v p then 1 else 0) n)), (0, ((n : Nat) : Int))], [(0, (σ 295 13)), (2, 307), (0, ((n : Nat) : Int))], σ)) rfl rfl ?_
    refine TT.top0 (z := ((b : Nat) : Int)) hb ?_
    refine TT.aldN (cd := cd81) (307) (b) rfl rfl rfl rfl (show b < 2 by omega) ?_
    refine TT.top0 (z := ((np : Nat) : Int)) hnp ?_
    refine TT.steps (cd := cd81) 1 (c' := ((if decide (((np : Nat) : Int) ≤ ((n : Nat) : Int)) = true then 31 else 19), [(2, 295), (0, 1), (0, (sumA (fun p => if mStrC σ v p then 1 else 0) n)), (0, ((n : Nat) : Int))], [], σ)) rfl rfl ?_
    refine TT.br (p := ((np : Nat) : Int) ≤ ((n : Nat) : Int)) (fun h1 => ?_) (fun h1 => absurd (show ((np : Nat) : Int) ≤ ((n : Nat) : Int) by omega) h1)
    refine TT.steps (cd := cd81) 1 (c' := (32, [(2, 295), (0, 1), (0, (sumA (fun p => if mStrC σ v p then 1 else 0) n)), (0, ((n : Nat) : Int))], [(0, (sumA (fun p => if mStrC σ v p then 1 else 0) n))], σ)) rfl rfl ?_
    exact TT.ret (cd := cd81) rfl rfl rfl rfl (⟨by rw [hnn], rfl⟩)
  | succ d ih =>
    intro n hn
    refine TT.steps (cd := cd81) 5 (c' := (17, [(2, 295), (0, 1), (0, (sumA (fun p => if mStrC σ v p then 1 else 0) n)), (0, ((n : Nat) : Int))], [(0, (σ 295 13)), (2, 307), (0, ((n : Nat) : Int))], σ)) rfl rfl ?_
    refine TT.top0 (z := ((b : Nat) : Int)) hb ?_
    refine TT.aldN (cd := cd81) (307) (b) rfl rfl rfl rfl (show b < 2 by omega) ?_
    refine TT.top0 (z := ((np : Nat) : Int)) hnp ?_
    refine TT.steps (cd := cd81) 1 (c' := ((if decide (((np : Nat) : Int) ≤ ((n : Nat) : Int)) = true then 31 else 19), [(2, 295), (0, 1), (0, (sumA (fun p => if mStrC σ v p then 1 else 0) n)), (0, ((n : Nat) : Int))], [], σ)) rfl rfl ?_
    refine TT.br (p := ((np : Nat) : Int) ≤ ((n : Nat) : Int)) (fun h1 => absurd h1 (show ¬ (((np : Nat) : Int) ≤ ((n : Nat) : Int)) by omega)) (fun h1 => ?_)
    refine TT.steps (cd := cd81) 3 (c' := (22, [(2, 295), (0, 1), (0, (sumA (fun p => if mStrC σ v p then 1 else 0) n)), (0, ((n : Nat) : Int))], [(0, ((n : Nat) : Int)), (2, 295), (0, (sumA (fun p => if mStrC σ v p then 1 else 0) n))], σ)) rfl rfl ?_
    refine TT.call (cd := cd81) rfl rfl rfl (by decide) rfl (t_isStranded X n (by omega) σ hv hv2) (fun r2 σ2 hq => ?_)
    rw [hq.1, hq.2]
    refine TT.steps (cd := cd81) 1 (c' := ((if decide (((if mStrC σ v n then 1 else 0) : Int) = 0) = true then 26 else 24), [(2, 295), (0, 1), (0, (sumA (fun p => if mStrC σ v p then 1 else 0) n)), (0, ((n : Nat) : Int))], [(0, (sumA (fun p => if mStrC σ v p then 1 else 0) n))], σ)) rfl rfl ?_
    refine TT.br (p := ((if mStrC σ v n then 1 else 0) : Int) = 0) (fun h3 => ?_) (fun h3 => ?_)
    · replace h3 := ite_f h3
      refine TT.steps (cd := cd81) 2 (c' := (28, [(2, 295), (0, 1), (0, (sumA (fun p => if mStrC σ v p then 1 else 0) n)), (0, ((n : Nat) : Int))], [(0, (aAdd (sumA (fun p => if mStrC σ v p then 1 else 0) n) 0))], σ)) rfl rfl ?_
      refine TT.steps (cd := cd81) 1 (c' := (29, [(2, 295), (0, 1), (0, (aAdd (sumA (fun p => if mStrC σ v p then 1 else 0) n) 0)), (0, ((n : Nat) : Int))], [], σ)) rfl rfl ?_
      refine TT.inc (cd := cd81) ((n + 1 : Nat) : Int) rfl rfl rfl rfl (fun h => absurd h.2 (show ¬ (0 = 1) by decide)) (aAdd_n (a := n) (b := 1) (by omega)) (ls' := [(2, 295), (0, 1), (0, (aAdd (sumA (fun p => if mStrC σ v p then 1 else 0) n) 0)), (0, ((n + 1 : Nat) : Int))]) rfl ?_
      refine TT.steps (cd := cd81) 1 (c' := (12, [(2, 295), (0, 1), (0, (aAdd (sumA (fun p => if mStrC σ v p then 1 else 0) n) 0)), (0, ((n + 1 : Nat) : Int))], [], σ)) rfl rfl ?_
      have := ih (n + 1) (by omega)
      simp only [sumA] at this
      first | (rw [if_pos (by first | assumption | omega)] at this; exact this) | (rw [if_neg (by first | assumption | omega)] at this; exact this) | exact this
    · replace h3 := ite_t h3
      refine TT.steps (cd := cd81) 3 (c' := (28, [(2, 295), (0, 1), (0, (sumA (fun p => if mStrC σ v p then 1 else 0) n)), (0, ((n : Nat) : Int))], [(0, (aAdd (sumA (fun p => if mStrC σ v p then 1 else 0) n) 1))], σ)) rfl rfl ?_
      refine TT.steps (cd := cd81) 1 (c' := (29, [(2, 295), (0, 1), (0, (aAdd (sumA (fun p => if mStrC σ v p then 1 else 0) n) 1)), (0, ((n : Nat) : Int))], [], σ)) rfl rfl ?_
      refine TT.inc (cd := cd81) ((n + 1 : Nat) : Int) rfl rfl rfl rfl (fun h => absurd h.2 (show ¬ (0 = 1) by decide)) (aAdd_n (a := n) (b := 1) (by omega)) (ls' := [(2, 295), (0, 1), (0, (aAdd (sumA (fun p => if mStrC σ v p then 1 else 0) n) 1)), (0, ((n + 1 : Nat) : Int))]) rfl ?_
      refine TT.steps (cd := cd81) 1 (c' := (12, [(2, 295), (0, 1), (0, (aAdd (sumA (fun p => if mStrC σ v p then 1 else 0) n) 1)), (0, ((n + 1 : Nat) : Int))], [], σ)) rfl rfl ?_
      have := ih (n + 1) (by omega)
      simp only [sumA] at this
      first | (rw [if_pos (by first | assumption | omega)] at this; exact this) | (rw [if_neg (by first | assumption | omega)] at this; exact this) | exact this
theorem l_whole4 (X : AX) (nt : Nat) (σ : AH) {b : Nat} (hb : σ 295 13 = (b : Int)) (hb2 : b < 2) (hnt : σ 300 b = (nt : Int)) (hnt2 : nt ≤ 6)  : ∀ (d n : Nat), n + d = nt → TT X 81 (45, [(2, 295), (0, 4), (0, (maxA (fun t => σ 324 t) n)), (0, ((n : Nat) : Int))], [], σ) (fun r σ' => r = some (0, maxA (fun t => σ 324 t) nt) ∧ σ' = σ) := by
  intro d
  induction d with
  | zero =>
    intro n hn
    have hnn : n = nt := by omega
    refine TT.steps (cd := cd81) 5 (c' := (50, [(2, 295), (0, 4), (0, (maxA (fun t => σ 324 t) n)), (0, ((n : Nat) : Int))], [(0, (σ 295 13)), (2, 300), (0, ((n : Nat) : Int))], σ)) rfl rfl ?_
    refine TT.top0 (z := ((b : Nat) : Int)) hb ?_
    refine TT.aldN (cd := cd81) (300) (b) rfl rfl rfl rfl (show b < 2 by omega) ?_
    refine TT.top0 (z := ((nt : Nat) : Int)) hnt ?_
    refine TT.steps (cd := cd81) 1 (c' := ((if decide (((nt : Nat) : Int) ≤ ((n : Nat) : Int)) = true then 67 else 52), [(2, 295), (0, 4), (0, (maxA (fun t => σ 324 t) n)), (0, ((n : Nat) : Int))], [], σ)) rfl rfl ?_
    refine TT.br (p := ((nt : Nat) : Int) ≤ ((n : Nat) : Int)) (fun h1 => ?_) (fun h1 => absurd (show ((nt : Nat) : Int) ≤ ((n : Nat) : Int) by omega) h1)
    refine TT.steps (cd := cd81) 1 (c' := (68, [(2, 295), (0, 4), (0, (maxA (fun t => σ 324 t) n)), (0, ((n : Nat) : Int))], [(0, (maxA (fun t => σ 324 t) n))], σ)) rfl rfl ?_
    exact TT.ret (cd := cd81) rfl rfl rfl rfl (⟨by rw [hnn], rfl⟩)
  | succ d ih =>
    intro n hn
    refine TT.steps (cd := cd81) 5 (c' := (50, [(2, 295), (0, 4), (0, (maxA (fun t => σ 324 t) n)), (0, ((n : Nat) : Int))], [(0, (σ 295 13)), (2, 300), (0, ((n : Nat) : Int))], σ)) rfl rfl ?_
    refine TT.top0 (z := ((b : Nat) : Int)) hb ?_
    refine TT.aldN (cd := cd81) (300) (b) rfl rfl rfl rfl (show b < 2 by omega) ?_
    refine TT.top0 (z := ((nt : Nat) : Int)) hnt ?_
    refine TT.steps (cd := cd81) 1 (c' := ((if decide (((nt : Nat) : Int) ≤ ((n : Nat) : Int)) = true then 67 else 52), [(2, 295), (0, 4), (0, (maxA (fun t => σ 324 t) n)), (0, ((n : Nat) : Int))], [], σ)) rfl rfl ?_
    refine TT.br (p := ((nt : Nat) : Int) ≤ ((n : Nat) : Int)) (fun h1 => absurd h1 (show ¬ (((nt : Nat) : Int) ≤ ((n : Nat) : Int)) by omega)) (fun h1 => ?_)
    refine TT.steps (cd := cd81) 3 (c' := (55, [(2, 295), (0, 4), (0, (maxA (fun t => σ 324 t) n)), (0, ((n : Nat) : Int))], [(0, ((n : Nat) : Int)), (2, 324)], σ)) rfl rfl ?_
    refine TT.aldN (cd := cd81) (324) (n) rfl rfl rfl rfl (show n < 6 by omega) ?_
    refine TT.steps (cd := cd81) 2 (c' := ((if decide ((σ 324 n) ≤ (maxA (fun t => σ 324 t) n)) = true then 63 else 58), [(2, 295), (0, 4), (0, (maxA (fun t => σ 324 t) n)), (0, ((n : Nat) : Int))], [], σ)) rfl rfl ?_
    refine TT.br (p := (σ 324 n) ≤ (maxA (fun t => σ 324 t) n)) (fun h2 => ?_) (fun h2 => ?_)
    · refine TT.steps (cd := cd81) 2 (c' := (65, [(2, 295), (0, 4), (0, (maxA (fun t => σ 324 t) n)), (0, ((n : Nat) : Int))], [], σ)) rfl rfl ?_
      refine TT.inc (cd := cd81) ((n + 1 : Nat) : Int) rfl rfl rfl rfl (fun h => absurd h.2 (show ¬ (0 = 1) by decide)) (aAdd_n (a := n) (b := 1) (by omega)) (ls' := [(2, 295), (0, 4), (0, (maxA (fun t => σ 324 t) n)), (0, ((n + 1 : Nat) : Int))]) rfl ?_
      refine TT.steps (cd := cd81) 1 (c' := (45, [(2, 295), (0, 4), (0, (maxA (fun t => σ 324 t) n)), (0, ((n + 1 : Nat) : Int))], [], σ)) rfl rfl ?_
      have := ih (n + 1) (by omega)
      simp only [maxA] at this
      first | (rw [if_pos (by first | assumption | omega)] at this; exact this) | (rw [if_neg (by first | assumption | omega)] at this; exact this) | exact this
    · refine TT.steps (cd := cd81) 3 (c' := (61, [(2, 295), (0, 4), (0, (maxA (fun t => σ 324 t) n)), (0, ((n : Nat) : Int))], [(0, ((n : Nat) : Int)), (2, 324)], σ)) rfl rfl ?_
      refine TT.aldN (cd := cd81) (324) (n) rfl rfl rfl rfl (show n < 6 by omega) ?_
      refine TT.steps (cd := cd81) 2 (c' := (65, [(2, 295), (0, 4), (0, (σ 324 n)), (0, ((n : Nat) : Int))], [], σ)) rfl rfl ?_
      refine TT.inc (cd := cd81) ((n + 1 : Nat) : Int) rfl rfl rfl rfl (fun h => absurd h.2 (show ¬ (0 = 1) by decide)) (aAdd_n (a := n) (b := 1) (by omega)) (ls' := [(2, 295), (0, 4), (0, (σ 324 n)), (0, ((n + 1 : Nat) : Int))]) rfl ?_
      refine TT.steps (cd := cd81) 1 (c' := (45, [(2, 295), (0, 4), (0, (σ 324 n)), (0, ((n + 1 : Nat) : Int))], [], σ)) rfl rfl ?_
      have := ih (n + 1) (by omega)
      simp only [maxA] at this
      first | (rw [if_pos (by first | assumption | omega)] at this; exact this) | (rw [if_neg (by first | assumption | omega)] at this; exact this) | exact this
theorem t_whole0 (X : AX) (np nt : Nat) (L : Nat → Nat) (σ : AH) {b : Nat} (hb : σ 295 13 = (b : Int)) (hb2 : b < 2) (hnp : σ 307 b = (np : Int)) (hnp2 : np ≤ 10) (hnt : σ 300 b = (nt : Int)) (hnt2 : nt ≤ 6) (hL : ∀ t, t < nt → σ 304 (6 * b + t) = (L t : Int) ∧ 2 ≤ L t ∧ L t ≤ 8)  : TT X 81 (0, [(2, 295), (0, 0), (9, 0), (9, 0)], [], σ) (fun r σ' => r = some (0, mArr (mDay σ b 0 np nt L) np) ∧ σ' = (mDay σ b 0 np nt L)) := by
  refine TT.steps (cd := cd81) 2 (c' := (2, [(2, 295), (0, 0), (9, 0), (9, 0)], [(0, 0), (2, 295)], σ)) rfl rfl ?_
  refine TT.call (cd := cd81) rfl rfl rfl (by decide) rfl (t_dayOf X np nt L σ (v := 0) hb hb2 (by omega) hnp hnp2 hnt hnt2 hL) (fun r1 σ1 hq => ?_)
  rw [hq.1, hq.2]
  refine TT.steps (cd := cd81) 5 (c' := (8, [(2, 295), (0, 0), (0, 0), (9, 0)], [(2, 295)], (mDay σ b 0 np nt L))) rfl rfl ?_
  refine TT.call (cd := cd81) rfl rfl rfl (by decide) rfl (t_arrivedMany X np (mDay σ b 0 np nt L) ((mDay_M _ _ _ _ _ _ (13) (by decide)).trans hb) hb2 ((mDay_fr _ _ _ _ _ _ 307 (b) (by decide)).trans hnp) hnp2) (fun r2 σ2 hq => ?_)
  rw [hq.1, hq.2]
  exact TT.ret (cd := cd81) rfl rfl rfl rfl (⟨rfl, rfl⟩)
theorem t_whole1 (X : AX) (np nt : Nat) (L : Nat → Nat) (σ : AH) {b : Nat} (hb : σ 295 13 = (b : Int)) (hb2 : b < 2) (hnp : σ 307 b = (np : Int)) (hnp2 : np ≤ 10) (hnt : σ 300 b = (nt : Int)) (hnt2 : nt ≤ 6) (hL : ∀ t, t < nt → σ 304 (6 * b + t) = (L t : Int) ∧ 2 ≤ L t ∧ L t ≤ 8)  : TT X 81 (0, [(2, 295), (0, 1), (9, 0), (9, 0)], [], σ) (fun r σ' => r = some (0, sumA (fun p => if mStrC (mDay σ b 0 np nt L) 0 p then 1 else 0) np) ∧ σ' = (mDay σ b 0 np nt L)) := by
  refine TT.steps (cd := cd81) 2 (c' := (2, [(2, 295), (0, 1), (9, 0), (9, 0)], [(0, 0), (2, 295)], σ)) rfl rfl ?_
  refine TT.call (cd := cd81) rfl rfl rfl (by decide) rfl (t_dayOf X np nt L σ (v := 0) hb hb2 (by omega) hnp hnp2 hnt hnt2 hL) (fun r1 σ1 hq => ?_)
  rw [hq.1, hq.2]
  refine TT.steps (cd := cd81) 6 (c' := (12, [(2, 295), (0, 1), (0, 0), (0, 0)], [], (mDay σ b 0 np nt L))) rfl rfl ?_
  exact l_whole1 X np (mDay σ b 0 np nt L) ((mDay_M _ _ _ _ _ _ (13) (by decide)).trans hb) hb2 (mDay_l _ _ _ _ _ _) (by decide) ((mDay_fr _ _ _ _ _ _ 307 (b) (by decide)).trans hnp) hnp2 np 0 (by omega)
theorem t_whole2 (X : AX) (np nt : Nat) (L : Nat → Nat) (σ : AH) {b : Nat} (hb : σ 295 13 = (b : Int)) (hb2 : b < 2) (hnp : σ 307 b = (np : Int)) (hnp2 : np ≤ 10) (hnt : σ 300 b = (nt : Int)) (hnt2 : nt ≤ 6) (hL : ∀ t, t < nt → σ 304 (6 * b + t) = (L t : Int) ∧ 2 ≤ L t ∧ L t ≤ 8)  : TT X 81 (0, [(2, 295), (0, 2), (9, 0), (9, 0)], [], σ) (fun r σ' => r = some (0, sumT (fun t k => (mDay σ b 0 np nt L) 325 (8 * t + k)) L nt) ∧ σ' = (mDay σ b 0 np nt L)) := by
  refine TT.steps (cd := cd81) 2 (c' := (2, [(2, 295), (0, 2), (9, 0), (9, 0)], [(0, 0), (2, 295)], σ)) rfl rfl ?_
  refine TT.call (cd := cd81) rfl rfl rfl (by decide) rfl (t_dayOf X np nt L σ (v := 0) hb hb2 (by omega) hnp hnp2 hnt hnt2 hL) (fun r1 σ1 hq => ?_)
  rw [hq.1, hq.2]
  refine TT.steps (cd := cd81) 6 (c' := (35, [(2, 295), (0, 2), (0, 0), (9, 0)], [(0, 0), (2, 295)], (mDay σ b 0 np nt L))) rfl rfl ?_
  refine TT.call (cd := cd81) rfl rfl rfl (by decide) rfl (t_stopMany0 X nt L (mDay σ b 0 np nt L) ((mDay_M _ _ _ _ _ _ (13) (by decide)).trans hb) hb2 ((mDay_fr _ _ _ _ _ _ 300 (b) (by decide)).trans hnt) hnt2 (fun t ht => ⟨(show ∀ j, (mDay σ b 0 np nt L) 304 j = σ 304 j from fun j => (mDay_fr _ _ _ _ _ _ 304 (j) (by decide))) _ |>.trans (hL t ht).1, (hL t ht).2⟩)) (fun r2 σ2 hq => ?_)
  rw [hq.1, hq.2]
  exact TT.ret (cd := cd81) rfl rfl rfl rfl (⟨rfl, rfl⟩)
theorem t_whole3 (X : AX) (np nt : Nat) (L : Nat → Nat) (σ : AH) {b : Nat} (hb : σ 295 13 = (b : Int)) (hb2 : b < 2) (hnp : σ 307 b = (np : Int)) (hnp2 : np ≤ 10) (hnt : σ 300 b = (nt : Int)) (hnt2 : nt ≤ 6) (hL : ∀ t, t < nt → σ 304 (6 * b + t) = (L t : Int) ∧ 2 ≤ L t ∧ L t ≤ 8)  : TT X 81 (0, [(2, 295), (0, 3), (9, 0), (9, 0)], [], σ) (fun r σ' => r = some (0, sumT (fun t k => (mDay σ b 0 np nt L) 330 (8 * t + k)) L nt) ∧ σ' = (mDay σ b 0 np nt L)) := by
  refine TT.steps (cd := cd81) 2 (c' := (2, [(2, 295), (0, 3), (9, 0), (9, 0)], [(0, 0), (2, 295)], σ)) rfl rfl ?_
  refine TT.call (cd := cd81) rfl rfl rfl (by decide) rfl (t_dayOf X np nt L σ (v := 0) hb hb2 (by omega) hnp hnp2 hnt hnt2 hL) (fun r1 σ1 hq => ?_)
  rw [hq.1, hq.2]
  refine TT.steps (cd := cd81) 6 (c' := (39, [(2, 295), (0, 3), (0, 0), (9, 0)], [(0, 1), (2, 295)], (mDay σ b 0 np nt L))) rfl rfl ?_
  refine TT.call (cd := cd81) rfl rfl rfl (by decide) rfl (t_stopMany1 X nt L (mDay σ b 0 np nt L) ((mDay_M _ _ _ _ _ _ (13) (by decide)).trans hb) hb2 ((mDay_fr _ _ _ _ _ _ 300 (b) (by decide)).trans hnt) hnt2 (fun t ht => ⟨(show ∀ j, (mDay σ b 0 np nt L) 304 j = σ 304 j from fun j => (mDay_fr _ _ _ _ _ _ 304 (j) (by decide))) _ |>.trans (hL t ht).1, (hL t ht).2⟩)) (fun r2 σ2 hq => ?_)
  rw [hq.1, hq.2]
  exact TT.ret (cd := cd81) rfl rfl rfl rfl (⟨rfl, rfl⟩)
theorem t_whole4 (X : AX) (np nt : Nat) (L : Nat → Nat) (σ : AH) {b : Nat} (hb : σ 295 13 = (b : Int)) (hb2 : b < 2) (hnp : σ 307 b = (np : Int)) (hnp2 : np ≤ 10) (hnt : σ 300 b = (nt : Int)) (hnt2 : nt ≤ 6) (hL : ∀ t, t < nt → σ 304 (6 * b + t) = (L t : Int) ∧ 2 ≤ L t ∧ L t ≤ 8)  : TT X 81 (0, [(2, 295), (0, 4), (9, 0), (9, 0)], [], σ) (fun r σ' => r = some (0, maxA (fun t => (mDay σ b 0 np nt L) 324 t) nt) ∧ σ' = (mDay σ b 0 np nt L)) := by
  refine TT.steps (cd := cd81) 2 (c' := (2, [(2, 295), (0, 4), (9, 0), (9, 0)], [(0, 0), (2, 295)], σ)) rfl rfl ?_
  refine TT.call (cd := cd81) rfl rfl rfl (by decide) rfl (t_dayOf X np nt L σ (v := 0) hb hb2 (by omega) hnp hnp2 hnt hnt2 hL) (fun r1 σ1 hq => ?_)
  rw [hq.1, hq.2]
  refine TT.steps (cd := cd81) 8 (c' := (45, [(2, 295), (0, 4), (0, -1), (0, 0)], [], (mDay σ b 0 np nt L))) rfl rfl ?_
  exact l_whole4 X nt (mDay σ b 0 np nt L) ((mDay_M _ _ _ _ _ _ (13) (by decide)).trans hb) hb2 ((mDay_fr _ _ _ _ _ _ 300 (b) (by decide)).trans hnt) hnt2 nt 0 (by omega)
theorem t_whole5 (X : AX) (np nt : Nat) (L : Nat → Nat) (σ : AH) {b : Nat} (hb : σ 295 13 = (b : Int)) (hb2 : b < 2) (hnp : σ 307 b = (np : Int)) (hnp2 : np ≤ 10) (hnt : σ 300 b = (nt : Int)) (hnt2 : nt ≤ 6) (hL : ∀ t, t < nt → σ 304 (6 * b + t) = (L t : Int) ∧ 2 ≤ L t ∧ L t ≤ 8)  : TT X 81 (0, [(2, 295), (0, 5), (9, 0), (9, 0)], [], σ) (fun r σ' => r = some (0, mGood (mDay σ b 0 np nt L) 0 np) ∧ σ' = (mDay σ b 0 np nt L)) := by
  refine TT.steps (cd := cd81) 2 (c' := (2, [(2, 295), (0, 5), (9, 0), (9, 0)], [(0, 0), (2, 295)], σ)) rfl rfl ?_
  refine TT.call (cd := cd81) rfl rfl rfl (by decide) rfl (t_dayOf X np nt L σ (v := 0) hb hb2 (by omega) hnp hnp2 hnt hnt2 hL) (fun r1 σ1 hq => ?_)
  rw [hq.1, hq.2]
  refine TT.steps (cd := cd81) 5 (c' := (70, [(2, 295), (0, 5), (0, 0), (9, 0)], [(2, 295)], (mDay σ b 0 np nt L))) rfl rfl ?_
  refine TT.call (cd := cd81) rfl rfl rfl (by decide) rfl (t_good X np (mDay σ b 0 np nt L) ((mDay_M _ _ _ _ _ _ (13) (by decide)).trans hb) hb2 (mDay_l _ _ _ _ _ _) (by omega) ((mDay_fr _ _ _ _ _ _ 307 (b) (by decide)).trans hnp) hnp2) (fun r2 σ2 hq => ?_)
  rw [hq.1, hq.2]
  exact TT.ret (cd := cd81) rfl rfl rfl rfl (⟨rfl, rfl⟩)
theorem t_wholeN (X : AX) (w : Int) (hw : w < 0 ∨ 5 < w) (np nt : Nat) (L : Nat → Nat) (σ : AH) {b : Nat} (hb : σ 295 13 = (b : Int)) (hb2 : b < 2) (hnp : σ 307 b = (np : Int)) (hnp2 : np ≤ 10) (hnt : σ 300 b = (nt : Int)) (hnt2 : nt ≤ 6) (hL : ∀ t, t < nt → σ 304 (6 * b + t) = (L t : Int) ∧ 2 ≤ L t ∧ L t ≤ 8)  : TT X 81 (0, [(2, 295), (0, w), (9, 0), (9, 0)], [], σ) (fun r σ' => r = some (0, -1) ∧ σ' = (mDay σ b 0 np nt L)) := by
  refine TT.steps (cd := cd81) 2 (c' := (2, [(2, 295), (0, w), (9, 0), (9, 0)], [(0, 0), (2, 295)], σ)) rfl rfl ?_
  refine TT.call (cd := cd81) rfl rfl rfl (by decide) rfl (t_dayOf X np nt L σ (v := 0) hb hb2 (by omega) hnp hnp2 hnt hnt2 hL) (fun r1 σ1 hq => ?_)
  rw [hq.1, hq.2]
  refine TT.steps (cd := cd81) 4 (c' := ((swOf [(0, 7), (1, 10), (2, 33), (3, 37), (4, 41), (5, 69)] 72 w), [(2, 295), (0, w), (0, 0), (9, 0)], [], (mDay σ b 0 np nt L))) rfl rfl ?_
  refine TT.swc (fun h2 => ?_) (fun h2 => ?_)
  · exfalso
    omega
  refine TT.swc (fun h3 => ?_) (fun h3 => ?_)
  · exfalso
    omega
  refine TT.swc (fun h4 => ?_) (fun h4 => ?_)
  · exfalso
    omega
  refine TT.swc (fun h5 => ?_) (fun h5 => ?_)
  · exfalso
    omega
  refine TT.swc (fun h6 => ?_) (fun h6 => ?_)
  · exfalso
    omega
  refine TT.swc (fun h7 => ?_) (fun h7 => ?_)
  · exfalso
    omega
  show TT X 81 (72, [(2, 295), (0, w), (0, 0), (9, 0)], [], (mDay σ b 0 np nt L)) _
  refine TT.steps (cd := cd81) 1 (c' := (73, [(2, 295), (0, w), (0, 0), (9, 0)], [(0, -1)], (mDay σ b 0 np nt L))) rfl rfl ?_
  exact TT.ret (cd := cd81) rfl rfl rfl rfl (⟨rfl, rfl⟩)
/-- of a set, those who were born there -/
def mLft (σ : AH) (v : Nat) (a s : Int) : Nat → Int
  | 0 => a
  | n + 1 => if mBA σ v n s then mLft σ v a s n else aAnd (mLft σ v a s n) (aXor (aShl 1 ((n : Nat) : Int)) (-1))
theorem l_left1 (X : AX) (Q : Option AV → AH → Prop) (t k : Nat) (ht : t < 6) (hk : k < 8) (σ : AH) (kk : ∀ x : AV, TT X 83 (38, [(2, 295), (0, ((t : Nat) : Int)), (0, ((k : Nat) : Int)), (0, (orA (fun j => σ 332 (8 * t + j)) k)), x], [], σ) Q) : ∀ (d n : Nat), n + d = k → TT X 83 (22, [(2, 295), (0, ((t : Nat) : Int)), (0, ((k : Nat) : Int)), (0, (orA (fun j => σ 332 (8 * t + j)) n)), (0, ((n : Nat) : Int))], [], σ) Q := by
  intro d
  induction d with
  | zero =>
    intro n hn 
    have hnn : n = k := by omega
    refine TT.steps (cd := cd83) 3 (c' := ((if decide (((k : Nat) : Int) ≤ ((n : Nat) : Int)) = true then 38 else 25), [(2, 295), (0, ((t : Nat) : Int)), (0, ((k : Nat) : Int)), (0, (orA (fun j => σ 332 (8 * t + j)) n)), (0, ((n : Nat) : Int))], [], σ)) rfl rfl ?_
    refine TT.br (p := ((k : Nat) : Int) ≤ ((n : Nat) : Int)) (fun h1 => ?_) (fun h1 => absurd (show ((k : Nat) : Int) ≤ ((n : Nat) : Int) by omega) h1)
    subst hnn
    exact kk _
  | succ d ih =>
    intro n hn 
    refine TT.steps (cd := cd83) 3 (c' := ((if decide (((k : Nat) : Int) ≤ ((n : Nat) : Int)) = true then 38 else 25), [(2, 295), (0, ((t : Nat) : Int)), (0, ((k : Nat) : Int)), (0, (orA (fun j => σ 332 (8 * t + j)) n)), (0, ((n : Nat) : Int))], [], σ)) rfl rfl ?_
    refine TT.br (p := ((k : Nat) : Int) ≤ ((n : Nat) : Int)) (fun h1 => absurd h1 (show ¬ (((k : Nat) : Int) ≤ ((n : Nat) : Int)) by omega)) (fun h1 => ?_)
    refine TT.steps (cd := cd83) 6 (c' := (31, [(2, 295), (0, ((t : Nat) : Int)), (0, ((k : Nat) : Int)), (0, (orA (fun j => σ 332 (8 * t + j)) n)), (0, ((n : Nat) : Int))], [(0, (aMul 8 ((t : Nat) : Int))), (2, 332), (0, (orA (fun j => σ 332 (8 * t + j)) n))], σ)) rfl rfl ?_
    refine TT.top0 (z := ((8 * t : Nat) : Int)) (aMul_n (a := 8) (b := t) (by omega)) ?_
    refine TT.steps (cd := cd83) 2 (c' := (33, [(2, 295), (0, ((t : Nat) : Int)), (0, ((k : Nat) : Int)), (0, (orA (fun j => σ 332 (8 * t + j)) n)), (0, ((n : Nat) : Int))], [(0, (aAdd ((8 * t : Nat) : Int) ((n : Nat) : Int))), (2, 332), (0, (orA (fun j => σ 332 (8 * t + j)) n))], σ)) rfl rfl ?_
    refine TT.top0 (z := (((8 * t) + n : Nat) : Int)) (aAdd_n (a := 8 * t) (b := n) (by omega)) ?_
    refine TT.aldN (cd := cd83) (332) ((8 * t) + n) rfl rfl rfl rfl (show (8 * t) + n < 48 by omega) ?_
    refine TT.steps (cd := cd83) 2 (c' := (36, [(2, 295), (0, ((t : Nat) : Int)), (0, ((k : Nat) : Int)), (0, (aOr (orA (fun j => σ 332 (8 * t + j)) n) (σ 332 ((8 * t) + n)))), (0, ((n : Nat) : Int))], [], σ)) rfl rfl ?_
    refine TT.inc (cd := cd83) ((n + 1 : Nat) : Int) rfl rfl rfl rfl (fun h => absurd h.2 (show ¬ (0 = 1) by decide)) (aAdd_n (a := n) (b := 1) (by omega)) (ls' := [(2, 295), (0, ((t : Nat) : Int)), (0, ((k : Nat) : Int)), (0, (aOr (orA (fun j => σ 332 (8 * t + j)) n) (σ 332 ((8 * t) + n)))), (0, ((n + 1 : Nat) : Int))]) rfl ?_
    refine TT.steps (cd := cd83) 1 (c' := (22, [(2, 295), (0, ((t : Nat) : Int)), (0, ((k : Nat) : Int)), (0, (aOr (orA (fun j => σ 332 (8 * t + j)) n) (σ 332 ((8 * t) + n)))), (0, ((n + 1 : Nat) : Int))], [], σ)) rfl rfl ?_
    exact ih (n + 1) (by omega)
theorem l_left2 (X : AX) (t k : Nat) (ht : t < 6) (hk : k < 8) (a : Int) (np : Nat) (σ : AH) {b v : Nat} (hb : σ 295 13 = (b : Int)) (hb2 : b < 2) (hv : σ 295 46 = (v : Int)) (hv2 : v < 22) (hnp : σ 307 b = (np : Int)) (hnp2 : np ≤ 10) : ∀ (d n : Nat), n + d = np → TT X 83 (40, [(2, 295), (0, ((t : Nat) : Int)), (0, ((k : Nat) : Int)), (0, (mLft σ v a (σ 305 (8 * (6 * b + t) + k)) n)), (0, ((n : Nat) : Int))], [], σ) (fun r σ' => r = some (0, mLft σ v a (σ 305 (8 * (6 * b + t) + k)) np) ∧ σ' = σ) := by
  intro d
  induction d with
  | zero =>
    intro n hn 
    have hnn : n = np := by omega
    refine TT.steps (cd := cd83) 5 (c' := (45, [(2, 295), (0, ((t : Nat) : Int)), (0, ((k : Nat) : Int)), (0, (mLft σ v a (σ 305 (8 * (6 * b + t) + k)) n)), (0, ((n : Nat) : Int))], [(0, (σ 295 13)), (2, 307), (0, ((n : Nat) : Int))], σ)) rfl rfl ?_
    refine TT.top0 (z := ((b : Nat) : Int)) hb ?_
    refine TT.aldN (cd := cd83) (307) (b) rfl rfl rfl rfl (show b < 2 by omega) ?_
    refine TT.top0 (z := ((np : Nat) : Int)) hnp ?_
    refine TT.steps (cd := cd83) 1 (c' := ((if decide (((np : Nat) : Int) ≤ ((n : Nat) : Int)) = true then 65 else 47), [(2, 295), (0, ((t : Nat) : Int)), (0, ((k : Nat) : Int)), (0, (mLft σ v a (σ 305 (8 * (6 * b + t) + k)) n)), (0, ((n : Nat) : Int))], [], σ)) rfl rfl ?_
    refine TT.br (p := ((np : Nat) : Int) ≤ ((n : Nat) : Int)) (fun h1 => ?_) (fun h1 => absurd (show ((np : Nat) : Int) ≤ ((n : Nat) : Int) by omega) h1)
    refine TT.steps (cd := cd83) 1 (c' := (66, [(2, 295), (0, ((t : Nat) : Int)), (0, ((k : Nat) : Int)), (0, (mLft σ v a (σ 305 (8 * (6 * b + t) + k)) n)), (0, ((n : Nat) : Int))], [(0, (mLft σ v a (σ 305 (8 * (6 * b + t) + k)) n))], σ)) rfl rfl ?_
    exact TT.ret (cd := cd83) rfl rfl rfl rfl (⟨by rw [hnn], rfl⟩)
  | succ d ih =>
    intro n hn 
    refine TT.steps (cd := cd83) 5 (c' := (45, [(2, 295), (0, ((t : Nat) : Int)), (0, ((k : Nat) : Int)), (0, (mLft σ v a (σ 305 (8 * (6 * b + t) + k)) n)), (0, ((n : Nat) : Int))], [(0, (σ 295 13)), (2, 307), (0, ((n : Nat) : Int))], σ)) rfl rfl ?_
    refine TT.top0 (z := ((b : Nat) : Int)) hb ?_
    refine TT.aldN (cd := cd83) (307) (b) rfl rfl rfl rfl (show b < 2 by omega) ?_
    refine TT.top0 (z := ((np : Nat) : Int)) hnp ?_
    refine TT.steps (cd := cd83) 1 (c' := ((if decide (((np : Nat) : Int) ≤ ((n : Nat) : Int)) = true then 65 else 47), [(2, 295), (0, ((t : Nat) : Int)), (0, ((k : Nat) : Int)), (0, (mLft σ v a (σ 305 (8 * (6 * b + t) + k)) n)), (0, ((n : Nat) : Int))], [], σ)) rfl rfl ?_
    refine TT.br (p := ((np : Nat) : Int) ≤ ((n : Nat) : Int)) (fun h1 => absurd h1 (show ¬ (((np : Nat) : Int) ≤ ((n : Nat) : Int)) by omega)) (fun h1 => ?_)
    refine TT.steps (cd := cd83) 5 (c' := (52, [(2, 295), (0, ((t : Nat) : Int)), (0, ((k : Nat) : Int)), (0, (mLft σ v a (σ 305 (8 * (6 * b + t) + k)) n)), (0, ((n : Nat) : Int))], [(0, ((k : Nat) : Int)), (0, ((t : Nat) : Int)), (2, 295), (0, ((n : Nat) : Int)), (2, 295)], σ)) rfl rfl ?_
    refine TT.call (cd := cd83) rfl rfl rfl (by decide) rfl (t_callOf X t k (by omega) (by omega) σ hb hb2) (fun r2 σ2 hq => ?_)
    rw [hq.1, hq.2]
    refine TT.call (cd := cd83) rfl rfl rfl (by decide) rfl (t_isBornAt X n (by omega) (σ 305 (8 * (6 * b + t) + k)) σ hv hv2) (fun r3 σ3 hq => ?_)
    rw [hq.1, hq.2]
    refine TT.steps (cd := cd83) 1 (c' := ((if decide (¬ ((if mBA σ v n (σ 305 (8 * (6 * b + t) + k)) then 1 else 0) : Int) = 0) = true then 63 else 55), [(2, 295), (0, ((t : Nat) : Int)), (0, ((k : Nat) : Int)), (0, (mLft σ v a (σ 305 (8 * (6 * b + t) + k)) n)), (0, ((n : Nat) : Int))], [], σ)) rfl rfl ?_
    refine TT.br (p := ¬ ((if mBA σ v n (σ 305 (8 * (6 * b + t) + k)) then 1 else 0) : Int) = 0) (fun h4 => ?_) (fun h4 => ?_)
    · replace h4 := ite_t h4
      refine TT.inc (cd := cd83) ((n + 1 : Nat) : Int) rfl rfl rfl rfl (fun h => absurd h.2 (show ¬ (0 = 1) by decide)) (aAdd_n (a := n) (b := 1) (by omega)) (ls' := [(2, 295), (0, ((t : Nat) : Int)), (0, ((k : Nat) : Int)), (0, (mLft σ v a (σ 305 (8 * (6 * b + t) + k)) n)), (0, ((n + 1 : Nat) : Int))]) rfl ?_
      refine TT.steps (cd := cd83) 1 (c' := (40, [(2, 295), (0, ((t : Nat) : Int)), (0, ((k : Nat) : Int)), (0, (mLft σ v a (σ 305 (8 * (6 * b + t) + k)) n)), (0, ((n + 1 : Nat) : Int))], [], σ)) rfl rfl ?_
      have := ih (n + 1) (by omega)
      simp only [mLft] at this
      first | (rw [if_pos (by assumption)] at this; exact this) | (rw [if_neg (by assumption)] at this; exact this)
    · replace h4 := ite_f (Decidable.not_not.mp h4)
      refine TT.steps (cd := cd83) 8 (c' := (63, [(2, 295), (0, ((t : Nat) : Int)), (0, ((k : Nat) : Int)), (0, (aAnd (mLft σ v a (σ 305 (8 * (6 * b + t) + k)) n) (aXor (aShl 1 ((n : Nat) : Int)) (-1)))), (0, ((n : Nat) : Int))], [], σ)) rfl rfl ?_
      refine TT.inc (cd := cd83) ((n + 1 : Nat) : Int) rfl rfl rfl rfl (fun h => absurd h.2 (show ¬ (0 = 1) by decide)) (aAdd_n (a := n) (b := 1) (by omega)) (ls' := [(2, 295), (0, ((t : Nat) : Int)), (0, ((k : Nat) : Int)), (0, (aAnd (mLft σ v a (σ 305 (8 * (6 * b + t) + k)) n) (aXor (aShl 1 ((n : Nat) : Int)) (-1)))), (0, ((n + 1 : Nat) : Int))]) rfl ?_
      refine TT.steps (cd := cd83) 1 (c' := (40, [(2, 295), (0, ((t : Nat) : Int)), (0, ((k : Nat) : Int)), (0, (aAnd (mLft σ v a (σ 305 (8 * (6 * b + t) + k)) n) (aXor (aShl 1 ((n : Nat) : Int)) (-1)))), (0, ((n + 1 : Nat) : Int))], [], σ)) rfl rfl ?_
      have := ih (n + 1) (by omega)
      simp only [mLft] at this
      first | (rw [if_pos (by assumption)] at this; exact this) | (rw [if_neg (by assumption)] at this; exact this)
theorem t_left0 (X : AX) (t k : Int) (np nt : Nat) (L : Nat → Nat) (σ : AH) {b : Nat} (hb : σ 295 13 = (b : Int)) (hb2 : b < 2) (hnp : σ 307 b = (np : Int)) (hnp2 : np ≤ 10) (hnt : σ 300 b = (nt : Int)) (hnt2 : nt ≤ 6) (hL : ∀ t, t < nt → σ 304 (6 * b + t) = (L t : Int) ∧ 2 ≤ L t ∧ L t ≤ 8) (ht : ¬ (0 ≤ t ∧ t < (nt : Int)))  : TT X 83 (0, [(2, 295), (0, t), (0, k), (9, 0), (9, 0)], [], σ) (fun r σ' => r = some (0, -1) ∧ σ' = σ) := by
  refine TT.steps (cd := cd83) 2 (c' := (2, [(2, 295), (0, t), (0, k), (9, 0), (9, 0)], [(0, t), (2, 295)], σ)) rfl rfl ?_
  refine TT.call (cd := cd83) rfl rfl rfl (by decide) rfl (t_isTrain X t σ hb hb2) (fun r1 σ1 hq => ?_)
  rw [hq.1, hq.2, hnt]
  refine TT.steps (cd := cd83) 1 (c' := ((if decide (((if 0 ≤ t ∧ t < (nt : Int) then 1 else 0) : Int) = 0) = true then 13 else 4), [(2, 295), (0, t), (0, k), (9, 0), (9, 0)], [], σ)) rfl rfl ?_
  refine TT.br (p := ((if 0 ≤ t ∧ t < (nt : Int) then 1 else 0) : Int) = 0) (fun h2 => ?_) (fun h2 => ?_)
  · replace h2 := ite_f h2
    refine TT.steps (cd := cd83) 1 (c' := (14, [(2, 295), (0, t), (0, k), (9, 0), (9, 0)], [(0, -1)], σ)) rfl rfl ?_
    exact TT.ret (cd := cd83) rfl rfl rfl rfl (⟨rfl, rfl⟩)
  · replace h2 := ite_t h2
    exact absurd (by assumption) ht
theorem t_left1 (X : AX) (t : Nat) (k : Int) (np nt : Nat) (L : Nat → Nat) (σ : AH) {b : Nat} (hb : σ 295 13 = (b : Int)) (hb2 : b < 2) (hnp : σ 307 b = (np : Int)) (hnp2 : np ≤ 10) (hnt : σ 300 b = (nt : Int)) (hnt2 : nt ≤ 6) (hL : ∀ t, t < nt → σ 304 (6 * b + t) = (L t : Int) ∧ 2 ≤ L t ∧ L t ≤ 8) (ht : t < nt) (hk : ¬ (0 ≤ k ∧ k < (L t : Int)))  : TT X 83 (0, [(2, 295), (0, ((t : Nat) : Int)), (0, k), (9, 0), (9, 0)], [], σ) (fun r σ' => r = some (0, -1) ∧ σ' = σ) := by
  refine TT.steps (cd := cd83) 2 (c' := (2, [(2, 295), (0, ((t : Nat) : Int)), (0, k), (9, 0), (9, 0)], [(0, ((t : Nat) : Int)), (2, 295)], σ)) rfl rfl ?_
  refine TT.call (cd := cd83) rfl rfl rfl (by decide) rfl (t_isTrain X ((t : Nat) : Int) σ hb hb2) (fun r1 σ1 hq => ?_)
  rw [hq.1, hq.2, hnt]
  refine TT.steps (cd := cd83) 1 (c' := ((if decide (((if 0 ≤ ((t : Nat) : Int) ∧ ((t : Nat) : Int) < (nt : Int) then 1 else 0) : Int) = 0) = true then 13 else 4), [(2, 295), (0, ((t : Nat) : Int)), (0, k), (9, 0), (9, 0)], [], σ)) rfl rfl ?_
  refine TT.br (p := ((if 0 ≤ ((t : Nat) : Int) ∧ ((t : Nat) : Int) < (nt : Int) then 1 else 0) : Int) = 0) (fun h2 => absurd h2 (show ¬ (((if 0 ≤ ((t : Nat) : Int) ∧ ((t : Nat) : Int) < (nt : Int) then 1 else 0) : Int) = 0) by (rw [if_pos ⟨by omega, by omega⟩]; decide))) (fun h2 => ?_)
  refine TT.steps (cd := cd83) 4 (c' := (8, [(2, 295), (0, ((t : Nat) : Int)), (0, k), (9, 0), (9, 0)], [(0, ((t : Nat) : Int)), (2, 295), (0, 0), (0, k)], σ)) rfl rfl ?_
  refine TT.call (cd := cd83) rfl rfl rfl (by decide) rfl (t_callsOf X t (by omega) σ hb hb2) (fun r3 σ3 hq => ?_)
  rw [hq.1, hq.2]
  refine TT.top0 (z := (((L t) : Nat) : Int)) (hL t ht).1 ?_
  refine TT.steps (cd := cd83) 2 (c' := (11, [(2, 295), (0, ((t : Nat) : Int)), (0, k), (9, 0), (9, 0)], [(0, (aSub (((L t) : Nat) : Int) 1)), (0, 0), (0, k)], σ)) rfl rfl ?_
  refine TT.top0 (z := ((((L t)) - 1 : Nat) : Int)) (aSub_n (a := (L t)) (b := 1) (by (have := hL t ht; omega)) (by (have := hL t ht; omega))) ?_
  refine TT.call (cd := cd83) rfl rfl rfl (by decide) rfl (t_is X k 0 ((((L t)) - 1 : Nat) : Int) σ) (fun r4 σ4 hq => ?_)
  rw [hq.1, hq.2]
  refine TT.steps (cd := cd83) 1 (c' := ((if decide (¬ ((if 0 ≤ k ∧ k ≤ ((((L t)) - 1 : Nat) : Int) then 1 else 0) : Int) = 0) = true then 15 else 13), [(2, 295), (0, ((t : Nat) : Int)), (0, k), (9, 0), (9, 0)], [], σ)) rfl rfl ?_
  refine TT.br (p := ¬ ((if 0 ≤ k ∧ k ≤ ((((L t)) - 1 : Nat) : Int) then 1 else 0) : Int) = 0) (fun h5 => ?_) (fun h5 => ?_)
  · replace h5 := ite_t h5
    exfalso
    have := hL t ht
    omega
  · replace h5 := ite_f (Decidable.not_not.mp h5)
    refine TT.steps (cd := cd83) 1 (c' := (14, [(2, 295), (0, ((t : Nat) : Int)), (0, k), (9, 0), (9, 0)], [(0, -1)], σ)) rfl rfl ?_
    exact TT.ret (cd := cd83) rfl rfl rfl rfl (⟨rfl, rfl⟩)
theorem t_left2 (X : AX) (t k : Nat) (np nt : Nat) (L : Nat → Nat) (σ : AH) {b : Nat} (hb : σ 295 13 = (b : Int)) (hb2 : b < 2) (hnp : σ 307 b = (np : Int)) (hnp2 : np ≤ 10) (hnt : σ 300 b = (nt : Int)) (hnt2 : nt ≤ 6) (hL : ∀ t, t < nt → σ 304 (6 * b + t) = (L t : Int) ∧ 2 ≤ L t ∧ L t ≤ 8) (ht : t < nt) (hk : k < L t)  : TT X 83 (0, [(2, 295), (0, ((t : Nat) : Int)), (0, ((k : Nat) : Int)), (9, 0), (9, 0)], [], σ) (fun r σ' => r = some (0, mLft (mDay σ b 0 np nt L) 0 (orA (fun j => (mDay σ b 0 np nt L) 332 (8 * t + j)) k) (σ 305 (8 * (6 * b + t) + k)) np) ∧ σ' = (mDay σ b 0 np nt L)) := by
  refine TT.steps (cd := cd83) 2 (c' := (2, [(2, 295), (0, ((t : Nat) : Int)), (0, ((k : Nat) : Int)), (9, 0), (9, 0)], [(0, ((t : Nat) : Int)), (2, 295)], σ)) rfl rfl ?_
  refine TT.call (cd := cd83) rfl rfl rfl (by decide) rfl (t_isTrain X ((t : Nat) : Int) σ hb hb2) (fun r1 σ1 hq => ?_)
  rw [hq.1, hq.2, hnt]
  refine TT.steps (cd := cd83) 1 (c' := ((if decide (((if 0 ≤ ((t : Nat) : Int) ∧ ((t : Nat) : Int) < (nt : Int) then 1 else 0) : Int) = 0) = true then 13 else 4), [(2, 295), (0, ((t : Nat) : Int)), (0, ((k : Nat) : Int)), (9, 0), (9, 0)], [], σ)) rfl rfl ?_
  refine TT.br (p := ((if 0 ≤ ((t : Nat) : Int) ∧ ((t : Nat) : Int) < (nt : Int) then 1 else 0) : Int) = 0) (fun h2 => absurd h2 (show ¬ (((if 0 ≤ ((t : Nat) : Int) ∧ ((t : Nat) : Int) < (nt : Int) then 1 else 0) : Int) = 0) by (rw [if_pos ⟨by omega, by omega⟩]; decide))) (fun h2 => ?_)
  refine TT.steps (cd := cd83) 4 (c' := (8, [(2, 295), (0, ((t : Nat) : Int)), (0, ((k : Nat) : Int)), (9, 0), (9, 0)], [(0, ((t : Nat) : Int)), (2, 295), (0, 0), (0, ((k : Nat) : Int))], σ)) rfl rfl ?_
  refine TT.call (cd := cd83) rfl rfl rfl (by decide) rfl (t_callsOf X t (by omega) σ hb hb2) (fun r3 σ3 hq => ?_)
  rw [hq.1, hq.2]
  refine TT.top0 (z := (((L t) : Nat) : Int)) (hL t ht).1 ?_
  refine TT.steps (cd := cd83) 2 (c' := (11, [(2, 295), (0, ((t : Nat) : Int)), (0, ((k : Nat) : Int)), (9, 0), (9, 0)], [(0, (aSub (((L t) : Nat) : Int) 1)), (0, 0), (0, ((k : Nat) : Int))], σ)) rfl rfl ?_
  refine TT.top0 (z := ((((L t)) - 1 : Nat) : Int)) (aSub_n (a := (L t)) (b := 1) (by (have := hL t ht; omega)) (by (have := hL t ht; omega))) ?_
  refine TT.call (cd := cd83) rfl rfl rfl (by decide) rfl (t_is X ((k : Nat) : Int) 0 ((((L t)) - 1 : Nat) : Int) σ) (fun r4 σ4 hq => ?_)
  rw [hq.1, hq.2]
  refine TT.steps (cd := cd83) 1 (c' := ((if decide (¬ ((if 0 ≤ ((k : Nat) : Int) ∧ ((k : Nat) : Int) ≤ ((((L t)) - 1 : Nat) : Int) then 1 else 0) : Int) = 0) = true then 15 else 13), [(2, 295), (0, ((t : Nat) : Int)), (0, ((k : Nat) : Int)), (9, 0), (9, 0)], [], σ)) rfl rfl ?_
  refine TT.br (p := ¬ ((if 0 ≤ ((k : Nat) : Int) ∧ ((k : Nat) : Int) ≤ ((((L t)) - 1 : Nat) : Int) then 1 else 0) : Int) = 0) (fun h5 => ?_) (fun h5 => absurd (show ¬ ((if 0 ≤ ((k : Nat) : Int) ∧ ((k : Nat) : Int) ≤ ((((L t)) - 1 : Nat) : Int) then 1 else 0) : Int) = 0 by (rw [if_pos ⟨by omega, by omega⟩]; decide)) h5)
  refine TT.steps (cd := cd83) 2 (c' := (17, [(2, 295), (0, ((t : Nat) : Int)), (0, ((k : Nat) : Int)), (9, 0), (9, 0)], [(0, 0), (2, 295)], σ)) rfl rfl ?_
  refine TT.call (cd := cd83) rfl rfl rfl (by decide) rfl (t_dayOf X np nt L σ (v := 0) hb hb2 (by omega) hnp hnp2 hnt hnt2 hL) (fun r6 σ6 hq => ?_)
  rw [hq.1, hq.2]
  refine TT.steps (cd := cd83) 4 (c' := (22, [(2, 295), (0, ((t : Nat) : Int)), (0, ((k : Nat) : Int)), (0, 0), (0, 0)], [], (mDay σ b 0 np nt L))) rfl rfl ?_
  refine l_left1 X _ t k (by omega) (by have := hL t ht; omega) (mDay σ b 0 np nt L) (fun x => ?_) k 0 (by omega)
  refine TT.steps (cd := cd83) 2 (c' := (40, [(2, 295), (0, ((t : Nat) : Int)), (0, ((k : Nat) : Int)), (0, (orA (fun j => (mDay σ b 0 np nt L) 332 (8 * t + j)) k)), (0, 0)], [], (mDay σ b 0 np nt L))) rfl rfl ?_
  have h9 := l_left2 X t k (by omega) (by have := hL t ht; omega) (orA (fun j => (mDay σ b 0 np nt L) 332 (8 * t + j)) k) np (mDay σ b 0 np nt L) ((mDay_M _ _ _ _ _ _ (13) (by decide)).trans hb) hb2 (mDay_l _ _ _ _ _ _) (by decide) ((mDay_fr _ _ _ _ _ _ 307 (b) (by decide)).trans hnp) hnp2 np 0 (by omega)
  rw [mDay_fr _ _ _ _ _ _ 305 _ (by decide)] at h9
  exact h9
/-- whether just these are hired -/
def mSame (σ : AH) (z : Int) : Nat → Int
  | 0 => 1
  | n + 1 => if mSame σ z n = 1 ∧ σ 322 n = aAnd (aShr z ((n : Nat) : Int)) 1 then 1 else 0
theorem mSame_b (σ : AH) (z : Int) (n : Nat) : mSame σ z n = 0 ∨ mSame σ z n = 1 := by
  cases n with
  | zero => exact Or.inr rfl
  | succ n =>
    rw [mSame]
    split
    · exact Or.inr rfl
    · exact Or.inl rfl
def mHN (σ : AH) (z : Int) : Nat → AH
  | 0 => σ
  | n + 1 => up2 (mHN σ z n) 322 n (aAnd (aShr z ((n : Nat) : Int)) 1)
theorem mHN_fr (σ : AH) (z : Int) (n c j : Nat) (h : c ≠ 322) : mHN σ z n c j = σ c j := by
  induction n with
  | zero => rfl
  | succ n ih => rw [mHN, up2_far _ _ _ _ h, ih]
theorem l_hiring1 (X : AX) (Q : Option AV → AH → Prop) (z : Int) (np : Nat) (σ : AH) {b : Nat} (hb : σ 295 13 = (b : Int)) (hb2 : b < 2) (hnp : σ 307 b = (np : Int)) (hnp2 : np ≤ 10) (kk : ∀ x : AV, TT X 97 (41, [(2, 295), (0, z), (0, (mSame σ z np)), x], [], σ) Q) : ∀ (d n : Nat), n + d = np → TT X 97 (16, [(2, 295), (0, z), (0, (mSame σ z n)), (0, ((n : Nat) : Int))], [], σ) Q := by
  intro d
  induction d with
  | zero =>
    intro n hn 
    have hnn : n = np := by omega
    refine TT.steps (cd := cd97) 5 (c' := (21, [(2, 295), (0, z), (0, (mSame σ z n)), (0, ((n : Nat) : Int))], [(0, (σ 295 13)), (2, 307), (0, ((n : Nat) : Int))], σ)) rfl rfl ?_
    refine TT.top0 (z := ((b : Nat) : Int)) hb ?_
    refine TT.aldN (cd := cd97) (307) (b) rfl rfl rfl rfl (show b < 2 by omega) ?_
    refine TT.top0 (z := ((np : Nat) : Int)) hnp ?_
    refine TT.steps (cd := cd97) 1 (c' := ((if decide (((np : Nat) : Int) ≤ ((n : Nat) : Int)) = true then 41 else 23), [(2, 295), (0, z), (0, (mSame σ z n)), (0, ((n : Nat) : Int))], [], σ)) rfl rfl ?_
    refine TT.br (p := ((np : Nat) : Int) ≤ ((n : Nat) : Int)) (fun h1 => ?_) (fun h1 => absurd (show ((np : Nat) : Int) ≤ ((n : Nat) : Int) by omega) h1)
    subst hnn
    exact kk _
  | succ d ih =>
    intro n hn 
    refine TT.steps (cd := cd97) 5 (c' := (21, [(2, 295), (0, z), (0, (mSame σ z n)), (0, ((n : Nat) : Int))], [(0, (σ 295 13)), (2, 307), (0, ((n : Nat) : Int))], σ)) rfl rfl ?_
    refine TT.top0 (z := ((b : Nat) : Int)) hb ?_
    refine TT.aldN (cd := cd97) (307) (b) rfl rfl rfl rfl (show b < 2 by omega) ?_
    refine TT.top0 (z := ((np : Nat) : Int)) hnp ?_
    refine TT.steps (cd := cd97) 1 (c' := ((if decide (((np : Nat) : Int) ≤ ((n : Nat) : Int)) = true then 41 else 23), [(2, 295), (0, z), (0, (mSame σ z n)), (0, ((n : Nat) : Int))], [], σ)) rfl rfl ?_
    refine TT.br (p := ((np : Nat) : Int) ≤ ((n : Nat) : Int)) (fun h1 => absurd h1 (show ¬ (((np : Nat) : Int) ≤ ((n : Nat) : Int)) by omega)) (fun h1 => ?_)
    refine TT.steps (cd := cd97) 2 (c' := ((if decide ((mSame σ z n) = 0) = true then 37 else 25), [(2, 295), (0, z), (0, (mSame σ z n)), (0, ((n : Nat) : Int))], [], σ)) rfl rfl ?_
    refine TT.br (p := (mSame σ z n) = 0) (fun h2 => ?_) (fun h2 => ?_)
    · refine TT.steps (cd := cd97) 2 (c' := (39, [(2, 295), (0, z), (0, 0), (0, ((n : Nat) : Int))], [], σ)) rfl rfl ?_
      refine TT.inc (cd := cd97) ((n + 1 : Nat) : Int) rfl rfl rfl rfl (fun h => absurd h.2 (show ¬ (0 = 1) by decide)) (aAdd_n (a := n) (b := 1) (by omega)) (ls' := [(2, 295), (0, z), (0, 0), (0, ((n + 1 : Nat) : Int))]) rfl ?_
      refine TT.steps (cd := cd97) 1 (c' := (16, [(2, 295), (0, z), (0, 0), (0, ((n + 1 : Nat) : Int))], [], σ)) rfl rfl ?_
      have hsb := mSame_b σ z n
      have := ih (n + 1) (by omega)
      simp only [mSame] at this
      first | (rw [if_pos (by omega)] at this; exact this) | (rw [if_neg (by omega)] at this; exact this)
    · refine TT.steps (cd := cd97) 3 (c' := (28, [(2, 295), (0, z), (0, (mSame σ z n)), (0, ((n : Nat) : Int))], [(0, ((n : Nat) : Int)), (2, 322)], σ)) rfl rfl ?_
      refine TT.aldN (cd := cd97) (322) (n) rfl rfl rfl rfl (show n < 220 by omega) ?_
      refine TT.steps (cd := cd97) 6 (c' := ((if decide (¬ (σ 322 n) = (aAnd (aShr z ((n : Nat) : Int)) 1)) = true then 37 else 35), [(2, 295), (0, z), (0, (mSame σ z n)), (0, ((n : Nat) : Int))], [], σ)) rfl rfl ?_
      refine TT.br (p := ¬ (σ 322 n) = (aAnd (aShr z ((n : Nat) : Int)) 1)) (fun h3 => ?_) (fun h3 => ?_)
      · refine TT.steps (cd := cd97) 2 (c' := (39, [(2, 295), (0, z), (0, 0), (0, ((n : Nat) : Int))], [], σ)) rfl rfl ?_
        refine TT.inc (cd := cd97) ((n + 1 : Nat) : Int) rfl rfl rfl rfl (fun h => absurd h.2 (show ¬ (0 = 1) by decide)) (aAdd_n (a := n) (b := 1) (by omega)) (ls' := [(2, 295), (0, z), (0, 0), (0, ((n + 1 : Nat) : Int))]) rfl ?_
        refine TT.steps (cd := cd97) 1 (c' := (16, [(2, 295), (0, z), (0, 0), (0, ((n + 1 : Nat) : Int))], [], σ)) rfl rfl ?_
        have hsb := mSame_b σ z n
        have := ih (n + 1) (by omega)
        simp only [mSame] at this
        first | (rw [if_pos (by omega)] at this; exact this) | (rw [if_neg (by omega)] at this; exact this)
      · refine TT.steps (cd := cd97) 3 (c' := (39, [(2, 295), (0, z), (0, 1), (0, ((n : Nat) : Int))], [], σ)) rfl rfl ?_
        refine TT.inc (cd := cd97) ((n + 1 : Nat) : Int) rfl rfl rfl rfl (fun h => absurd h.2 (show ¬ (0 = 1) by decide)) (aAdd_n (a := n) (b := 1) (by omega)) (ls' := [(2, 295), (0, z), (0, 1), (0, ((n + 1 : Nat) : Int))]) rfl ?_
        refine TT.steps (cd := cd97) 1 (c' := (16, [(2, 295), (0, z), (0, 1), (0, ((n + 1 : Nat) : Int))], [], σ)) rfl rfl ?_
        have hsb := mSame_b σ z n
        have := ih (n + 1) (by omega)
        simp only [mSame] at this
        first | (rw [if_pos (by omega)] at this; exact this) | (rw [if_neg (by omega)] at this; exact this)
theorem l_hiring2 (X : AX) (a : Int) (z : Int) (np : Nat) (σ : AH) {b : Nat} (hb : σ 295 13 = (b : Int)) (hb2 : b < 2) (hnp : σ 307 b = (np : Int)) (hnp2 : np ≤ 10) : ∀ (d n : Nat), n + d = np → TT X 97 (49, [(2, 295), (0, z), (0, a), (0, ((n : Nat) : Int))], [], (mHN σ z n)) (fun r σ' => r = some (0, 1) ∧ σ' = mHN σ z np) := by
  intro d
  induction d with
  | zero =>
    intro n hn 
    have hnn : n = np := by omega
    refine TT.steps (cd := cd97) 5 (c' := (54, [(2, 295), (0, z), (0, a), (0, ((n : Nat) : Int))], [(0, ((mHN σ z n) 295 13)), (2, 307), (0, ((n : Nat) : Int))], (mHN σ z n))) rfl rfl ?_
    refine TT.top0 (z := ((b : Nat) : Int)) ((mHN_fr _ _ _ 295 (13) (by decide)).trans hb) ?_
    refine TT.aldN (cd := cd97) (307) (b) rfl rfl rfl rfl (show b < 2 by omega) ?_
    refine TT.top0 (z := ((np : Nat) : Int)) ((mHN_fr _ _ _ 307 (b) (by decide)).trans hnp) ?_
    refine TT.steps (cd := cd97) 1 (c' := ((if decide (((np : Nat) : Int) ≤ ((n : Nat) : Int)) = true then 67 else 56), [(2, 295), (0, z), (0, a), (0, ((n : Nat) : Int))], [], (mHN σ z n))) rfl rfl ?_
    refine TT.br (p := ((np : Nat) : Int) ≤ ((n : Nat) : Int)) (fun h1 => ?_) (fun h1 => absurd (show ((np : Nat) : Int) ≤ ((n : Nat) : Int) by omega) h1)
    refine TT.steps (cd := cd97) 1 (c' := (68, [(2, 295), (0, z), (0, a), (0, ((n : Nat) : Int))], [(0, 1)], (mHN σ z n))) rfl rfl ?_
    exact TT.ret (cd := cd97) rfl rfl rfl rfl (⟨rfl, by rw [hnn]⟩)
  | succ d ih =>
    intro n hn 
    refine TT.steps (cd := cd97) 5 (c' := (54, [(2, 295), (0, z), (0, a), (0, ((n : Nat) : Int))], [(0, ((mHN σ z n) 295 13)), (2, 307), (0, ((n : Nat) : Int))], (mHN σ z n))) rfl rfl ?_
    refine TT.top0 (z := ((b : Nat) : Int)) ((mHN_fr _ _ _ 295 (13) (by decide)).trans hb) ?_
    refine TT.aldN (cd := cd97) (307) (b) rfl rfl rfl rfl (show b < 2 by omega) ?_
    refine TT.top0 (z := ((np : Nat) : Int)) ((mHN_fr _ _ _ 307 (b) (by decide)).trans hnp) ?_
    refine TT.steps (cd := cd97) 1 (c' := ((if decide (((np : Nat) : Int) ≤ ((n : Nat) : Int)) = true then 67 else 56), [(2, 295), (0, z), (0, a), (0, ((n : Nat) : Int))], [], (mHN σ z n))) rfl rfl ?_
    refine TT.br (p := ((np : Nat) : Int) ≤ ((n : Nat) : Int)) (fun h1 => absurd h1 (show ¬ (((np : Nat) : Int) ≤ ((n : Nat) : Int)) by omega)) (fun h1 => ?_)
    refine TT.steps (cd := cd97) 8 (c' := (64, [(2, 295), (0, z), (0, a), (0, ((n : Nat) : Int))], [(0, (aAnd (aShr z ((n : Nat) : Int)) 1)), (0, ((n : Nat) : Int)), (2, 322)], (mHN σ z n))) rfl rfl ?_
    refine TT.astN (cd := cd97) (322) (n) rfl rfl rfl rfl (show n < 220 by omega) ?_
    refine TT.inc (cd := cd97) ((n + 1 : Nat) : Int) rfl rfl rfl rfl (fun h => absurd h.2 (show ¬ (0 = 1) by decide)) (aAdd_n (a := n) (b := 1) (by omega)) (ls' := [(2, 295), (0, z), (0, a), (0, ((n + 1 : Nat) : Int))]) rfl ?_
    refine TT.steps (cd := cd97) 1 (c' := (49, [(2, 295), (0, z), (0, a), (0, ((n + 1 : Nat) : Int))], [], (up2 (mHN σ z n) 322 n (aAnd (aShr z ((n : Nat) : Int)) 1)))) rfl rfl ?_
    exact ih (n + 1) (by omega)
theorem t_hiring0 (X : AX) (z : Int) (np u w : Nat) (σ : AH) {b : Nat} (hb : σ 295 13 = (b : Int)) (hb2 : b < 2) (hnp : σ 307 b = (np : Int)) (hnp2 : np ≤ 10) (hu : σ 295 41 = (u : Int)) (hu2 : u < 20) (hw : σ 295 42 = (w : Int)) (hw2 : w ≤ 20) (hz : ¬ mCanC σ b np z)  : TT X 97 (0, [(2, 295), (0, z), (9, 0), (9, 0)], [], σ) (fun r σ' => r = some (0, 0) ∧ σ' = up2 σ 315 2 (aAdd (σ 315 2) 1)) := by
  refine TT.steps (cd := cd97) 2 (c' := (2, [(2, 295), (0, z), (9, 0), (9, 0)], [(0, z), (2, 295)], σ)) rfl rfl ?_
  refine TT.call (cd := cd97) rfl rfl rfl (by decide) rfl (t_canHire X z np σ hb hb2 hnp hnp2) (fun r1 σ1 hq => ?_)
  rw [hq.1, hq.2]
  refine TT.steps (cd := cd97) 1 (c' := ((if decide (¬ ((if mCanC σ b np z then 1 else 0) : Int) = 0) = true then 12 else 4), [(2, 295), (0, z), (9, 0), (9, 0)], [], σ)) rfl rfl ?_
  refine TT.br (p := ¬ ((if mCanC σ b np z then 1 else 0) : Int) = 0) (fun h2 => ?_) (fun h2 => ?_)
  · replace h2 := ite_t h2
    exact absurd (by assumption) hz
  · replace h2 := ite_f (Decidable.not_not.mp h2)
    refine TT.steps (cd := cd97) 2 (c' := (6, [(2, 295), (0, z), (9, 0), (9, 0)], [(0, 2), (2, 295)], σ)) rfl rfl ?_
    refine TT.call (cd := cd97) rfl rfl rfl (by decide) rfl (t_refuses X 2 (by omega) σ) (fun r3 σ3 hq => ?_)
    rw [hq.1, hq.2]
    refine TT.steps (cd := cd97) 2 (c' := (11, [(2, 295), (0, z), (9, 0), (9, 0)], [(0, 0)], (up2 σ 315 2 (aAdd (σ 315 2) 1)))) rfl rfl ?_
    exact TT.ret (cd := cd97) rfl rfl rfl rfl (⟨rfl, rfl⟩)
theorem t_hiring1 (X : AX) (z : Int) (np u w : Nat) (σ : AH) {b : Nat} (hb : σ 295 13 = (b : Int)) (hb2 : b < 2) (hnp : σ 307 b = (np : Int)) (hnp2 : np ≤ 10) (hu : σ 295 41 = (u : Int)) (hu2 : u < 20) (hw : σ 295 42 = (w : Int)) (hw2 : w ≤ 20) (hz : mCanC σ b np z)  : TT X 97 (0, [(2, 295), (0, z), (9, 0), (9, 0)], [], σ) (fun r σ' => (mSame σ z np = 1 → r = some (0, 1) ∧ σ' = σ) ∧ (¬ (mSame σ z np = 1) → r = some (0, 1) ∧ σ' = mHN (mKeep σ u w) z np)) := by
  refine TT.steps (cd := cd97) 2 (c' := (2, [(2, 295), (0, z), (9, 0), (9, 0)], [(0, z), (2, 295)], σ)) rfl rfl ?_
  refine TT.call (cd := cd97) rfl rfl rfl (by decide) rfl (t_canHire X z np σ hb hb2 hnp hnp2) (fun r1 σ1 hq => ?_)
  rw [hq.1, hq.2]
  refine TT.steps (cd := cd97) 1 (c' := ((if decide (¬ ((if mCanC σ b np z then 1 else 0) : Int) = 0) = true then 12 else 4), [(2, 295), (0, z), (9, 0), (9, 0)], [], σ)) rfl rfl ?_
  refine TT.br (p := ¬ ((if mCanC σ b np z then 1 else 0) : Int) = 0) (fun h2 => ?_) (fun h2 => absurd (show ¬ ((if mCanC σ b np z then 1 else 0) : Int) = 0 by (rw [if_pos hz]; decide)) h2)
  refine TT.steps (cd := cd97) 4 (c' := (16, [(2, 295), (0, z), (0, 1), (0, 0)], [], σ)) rfl rfl ?_
  refine l_hiring1 X _ z np σ hb hb2 hnp hnp2 (fun x => ?_) np 0 (by omega)
  refine TT.steps (cd := cd97) 2 (c' := ((if decide ((mSame σ z np) = 0) = true then 45 else 43), [(2, 295), (0, z), (0, (mSame σ z np)), x], [], σ)) rfl rfl ?_
  refine TT.br (p := (mSame σ z np) = 0) (fun h3 => ?_) (fun h3 => ?_)
  · refine TT.steps (cd := cd97) 1 (c' := (46, [(2, 295), (0, z), (0, (mSame σ z np)), x], [(2, 295)], σ)) rfl rfl ?_
    refine TT.call (cd := cd97) rfl rfl rfl (by decide) rfl (t_keeps X u w σ hu hu2 hw hw2) (fun r4 σ4 hq => ?_)
    rw [hq.1, hq.2]
    refine TT.steps (cd := cd97) 2 (c' := (49, [(2, 295), (0, z), (0, (mSame σ z np)), (0, 0)], [], (mKeep σ u w))) rfl rfl ?_
    refine TT.mono (l_hiring2 X _ z np (mKeep σ u w) ((mKeep_M _ _ _ (13) (by decide)).trans hb) hb2 ((mKeep_fr _ _ _ 307 (b) (by decide)).trans hnp) hnp2 np 0 (by omega)) (fun r τ hq => ⟨fun hh => by exfalso; omega, fun _ => hq⟩)
  · refine TT.steps (cd := cd97) 1 (c' := (44, [(2, 295), (0, z), (0, (mSame σ z np)), x], [(0, 1)], σ)) rfl rfl ?_
    exact TT.ret (cd := cd97) rfl rfl rfl rfl (⟨fun _ => ⟨rfl, rfl⟩, fun hh => by have := mSame_b σ z np; exfalso; omega⟩)
