/-! letter, of both. -/
theorem t_letterN (X : AX) (o wh k : Int) (M : Nat) (σ : AH) {b : Nat} (hb : σ 295 13 = (b : Int)) (hb2 : b < 2) (hM : (if o = 0 then σ 297 b else if o = 1 then σ 300 b else σ 307 b) = (M : Int)) (hM2 : M ≤ 14) (hN : ¬ (0 ≤ o ∧ o ≤ 2) ∨ ¬ (0 ≤ wh ∧ wh < (M : Int)) ∨ ¬ (0 ≤ k ∧ k ≤ 5))  : TT X 65 (0, [(2, 295), (0, o), (0, wh), (0, k), (9, 0), (9, 0), (9, 0), (9, 0), (9, 0)], [], σ) (fun r σ' => r = some (0, -1) ∧ σ' = σ) := by
  refine TT.steps (cd := cd65) 3 (c' := (3, [(2, 295), (0, o), (0, wh), (0, k), (9, 0), (9, 0), (9, 0), (9, 0), (9, 0)], [(0, 2), (0, 0), (0, o)], σ)) rfl rfl ?_
  refine TT.call (cd := cd65) rfl rfl rfl (by decide) rfl (t_is X o 0 2 σ) (fun r1 σ1 hq => ?_)
  rw [hq.1, hq.2]
  refine TT.steps (cd := cd65) 1 (c' := ((if decide (((if (0 : Int) ≤ o ∧ (o : Int) ≤ 2 then 1 else 0) : Int) = 0) = true then 21 else 5), [(2, 295), (0, o), (0, wh), (0, k), (9, 0), (9, 0), (9, 0), (9, 0), (9, 0)], [], σ)) rfl rfl ?_
  refine TT.br (p := ((if (0 : Int) ≤ o ∧ (o : Int) ≤ 2 then 1 else 0) : Int) = 0) (fun h2 => ?_) (fun h2 => ?_)
  · replace h2 := ite_f h2
    refine TT.steps (cd := cd65) 1 (c' := (22, [(2, 295), (0, o), (0, wh), (0, k), (9, 0), (9, 0), (9, 0), (9, 0), (9, 0)], [(0, -1)], σ)) rfl rfl ?_
    exact TT.ret (cd := cd65) rfl rfl rfl rfl (⟨rfl, rfl⟩)
  · replace h2 := ite_t h2
    refine TT.steps (cd := cd65) 5 (c' := (10, [(2, 295), (0, o), (0, wh), (0, k), (9, 0), (9, 0), (9, 0), (9, 0), (9, 0)], [(0, (σ 295 13)), (2, 295), (0, 0), (0, wh)], σ)) rfl rfl ?_
    refine TT.top0 (z := ((b : Nat) : Int)) hb ?_
    refine TT.steps (cd := cd65) 1 (c' := (11, [(2, 295), (0, o), (0, wh), (0, k), (9, 0), (9, 0), (9, 0), (9, 0), (9, 0)], [(0, o), (0, ((b : Nat) : Int)), (2, 295), (0, 0), (0, wh)], σ)) rfl rfl ?_
    refine TT.call (cd := cd65) rfl rfl rfl (by decide) rfl (t_manyOf X b hb2 o σ) (fun r3 σ3 hq => ?_)
    rw [hq.1, hq.2, hM]
    refine TT.steps (cd := cd65) 2 (c' := (14, [(2, 295), (0, o), (0, wh), (0, k), (9, 0), (9, 0), (9, 0), (9, 0), (9, 0)], [(0, (aSub ((M : Nat) : Int) 1)), (0, 0), (0, wh)], σ)) rfl rfl ?_
    refine TT.top0 (z := ((M : Int) - 1)) (aSub_of (by omega) (by omega)) ?_
    refine TT.call (cd := cd65) rfl rfl rfl (by decide) rfl (t_is X wh 0 ((M : Int) - 1) σ) (fun r4 σ4 hq => ?_)
    rw [hq.1, hq.2]
    refine TT.steps (cd := cd65) 1 (c' := ((if decide (((if (0 : Int) ≤ wh ∧ (wh : Int) ≤ ((M : Int) - 1) then 1 else 0) : Int) = 0) = true then 21 else 16), [(2, 295), (0, o), (0, wh), (0, k), (9, 0), (9, 0), (9, 0), (9, 0), (9, 0)], [], σ)) rfl rfl ?_
    refine TT.br (p := ((if (0 : Int) ≤ wh ∧ (wh : Int) ≤ ((M : Int) - 1) then 1 else 0) : Int) = 0) (fun h5 => ?_) (fun h5 => ?_)
    · replace h5 := ite_f h5
      refine TT.steps (cd := cd65) 1 (c' := (22, [(2, 295), (0, o), (0, wh), (0, k), (9, 0), (9, 0), (9, 0), (9, 0), (9, 0)], [(0, -1)], σ)) rfl rfl ?_
      exact TT.ret (cd := cd65) rfl rfl rfl rfl (⟨rfl, rfl⟩)
    · replace h5 := ite_t h5
      refine TT.steps (cd := cd65) 3 (c' := (19, [(2, 295), (0, o), (0, wh), (0, k), (9, 0), (9, 0), (9, 0), (9, 0), (9, 0)], [(0, 5), (0, 0), (0, k)], σ)) rfl rfl ?_
      refine TT.call (cd := cd65) rfl rfl rfl (by decide) rfl (t_is X k 0 5 σ) (fun r6 σ6 hq => ?_)
      rw [hq.1, hq.2]
      refine TT.steps (cd := cd65) 1 (c' := ((if decide (¬ ((if (0 : Int) ≤ k ∧ (k : Int) ≤ 5 then 1 else 0) : Int) = 0) = true then 23 else 21), [(2, 295), (0, o), (0, wh), (0, k), (9, 0), (9, 0), (9, 0), (9, 0), (9, 0)], [], σ)) rfl rfl ?_
      refine TT.br (p := ¬ ((if (0 : Int) ≤ k ∧ (k : Int) ≤ 5 then 1 else 0) : Int) = 0) (fun h7 => ?_) (fun h7 => ?_)
      · replace h7 := ite_t h7
        omega
      · replace h7 := ite_f (Decidable.not_not.mp h7)
        refine TT.steps (cd := cd65) 1 (c' := (22, [(2, 295), (0, o), (0, wh), (0, k), (9, 0), (9, 0), (9, 0), (9, 0), (9, 0)], [(0, -1)], σ)) rfl rfl ?_
        exact TT.ret (cd := cd65) rfl rfl rfl rfl (⟨rfl, rfl⟩)
theorem l_let (X : AX) (Q : Option AV → AH → Prop) (o : Int) (wh k : Nat) (m : Nat) (f : Nat → Nat) (hm : m ≤ 6) (hf : ∀ i, i < m → 1 ≤ f i ∧ f i ≤ 26) (σ : AH)  (kk : TT X 65 (44, [(2, 295), (0, o), (0, ((wh : Nat) : Int)), (0, ((k : Nat) : Int)), (1, ((e8 f m : Nat) : Int)), (9, 0), (0, ((m : Nat) : Int)), (1, ((e8 f (m - m) : Nat) : Int)), (9, 0)], [], σ) Q) : ∀ (d n : Nat), n + d = m → TT X 65 (34, [(2, 295), (0, o), (0, ((wh : Nat) : Int)), (0, ((k : Nat) : Int)), (1, ((e8 f m : Nat) : Int)), (9, 0), (0, ((n : Nat) : Int)), (1, ((e8 f (m - n) : Nat) : Int)), (9, 0)], [], σ) Q := by
  intro d
  induction d with
  | zero =>
    intro n hn
    have hnn : n = m := by omega
    rw [hnn]
    refine TT.steps (cd := cd65) 3 (c' := (37, [(2, 295), (0, o), (0, ((wh : Nat) : Int)), (0, ((k : Nat) : Int)), (1, ((e8 f m : Nat) : Int)), (9, 0), (0, ((m : Nat) : Int)), (1, ((e8 f (m - m) : Nat) : Int)), (9, 0)], [(0, (bCmp ((e8 f (m - m) : Nat) : Int) 0))], σ)) rfl rfl ?_
    refine TT.top0 (z := 0) (by rw [Nat.sub_self]; exact bCmp_n (x := 0) (y := 0) (by omega) (by omega)) ?_
    refine TT.steps (cd := cd65) 1 (c' := (44, [(2, 295), (0, o), (0, ((wh : Nat) : Int)), (0, ((k : Nat) : Int)), (1, ((e8 f m : Nat) : Int)), (9, 0), (0, ((m : Nat) : Int)), (1, ((e8 f (m - m) : Nat) : Int)), (9, 0)], [], σ)) rfl rfl ?_
    exact kk
  | succ d ih =>
    intro n hn
    refine TT.steps (cd := cd65) 3 (c' := (37, [(2, 295), (0, o), (0, ((wh : Nat) : Int)), (0, ((k : Nat) : Int)), (1, ((e8 f m : Nat) : Int)), (9, 0), (0, ((n : Nat) : Int)), (1, ((e8 f (m - n) : Nat) : Int)), (9, 0)], [(0, (bCmp ((e8 f (m - n) : Nat) : Int) 0))], σ)) rfl rfl ?_
    refine TT.top0 (z := 1) (by rw [show m - n = (m - n - 1) + 1 by omega]; exact (bCmp_n (y := 0) (by have := e8_lt6 (f := f) (n := m - n - 1 + 1) (by omega) (fun i hi => hf i (by omega)); omega) (by omega)).trans (if_pos e8_pos)) ?_
    refine TT.steps (cd := cd65) 1 (c' := (38, [(2, 295), (0, o), (0, ((wh : Nat) : Int)), (0, ((k : Nat) : Int)), (1, ((e8 f m : Nat) : Int)), (9, 0), (0, ((n : Nat) : Int)), (1, ((e8 f (m - n) : Nat) : Int)), (9, 0)], [], σ)) rfl rfl ?_
    refine TT.inc (cd := cd65) ((n + 1 : Nat) : Int) rfl rfl rfl rfl (fun h => absurd h.2 (show ¬ (9 = 1) by decide)) (aAdd_n (a := n) (b := 1) (by omega)) (ls' := [(2, 295), (0, o), (0, ((wh : Nat) : Int)), (0, ((k : Nat) : Int)), (1, ((e8 f m : Nat) : Int)), (9, 0), (0, ((n + 1 : Nat) : Int)), (1, ((e8 f (m - n) : Nat) : Int)), (9, 0)]) rfl ?_
    refine TT.steps (cd := cd65) 3 (c' := (42, [(2, 295), (0, o), (0, ((wh : Nat) : Int)), (0, ((k : Nat) : Int)), (1, ((e8 f m : Nat) : Int)), (9, 0), (0, ((n + 1 : Nat) : Int)), (1, ((e8 f (m - n) : Nat) : Int)), (9, 0)], [(1, (bShr ((e8 f (m - n) : Nat) : Int) 8))], σ)) rfl rfl ?_
    refine TT.top0 (z := ((e8 f (m - (n + 1)) : Nat) : Int)) (by rw [show m - n = (m - (n + 1)) + 1 by omega]; exact (bShr_n (p := 8) (by have := e8_lt6 (f := f) (n := m - (n + 1) + 1) (by omega) (fun i hi => hf i (by omega)); omega) (by omega)).trans (congrArg (fun x : Nat => (x : Int)) (e8_shr (hf _ (by omega)).2))) ?_
    refine TT.steps (cd := cd65) 2 (c' := (34, [(2, 295), (0, o), (0, ((wh : Nat) : Int)), (0, ((k : Nat) : Int)), (1, ((e8 f m : Nat) : Int)), (9, 0), (0, ((n + 1 : Nat) : Int)), (1, ((e8 f (m - (n + 1)) : Nat) : Int)), (9, 0)], [], σ)) rfl rfl ?_
    have e6 : ((n + 1 : Nat) : Int) = (((n + 1) : Nat) : Int) := by omega
    rw [e6]
    clear e6
    exact ih (n + 1) (by omega)
theorem t_letterY (X : AX) (o : Int) (wh k M : Nat) (ho : 0 ≤ o ∧ o ≤ 2) (m : Nat) (f : Nat → Nat) (hm : m ≤ 6) (hf : ∀ i, i < m → 1 ≤ f i ∧ f i ≤ 26) (hk : k < 6) (hwh : wh < M) (hwk : (o = 0 → wh < 14) ∧ (o = 1 → wh < 6) ∧ (o = 2 → wh < 10)) (σ : AH) {b : Nat} (hb : σ 295 13 = (b : Int)) (hb2 : b < 2) (hM : (if o = 0 then σ 297 b else if o = 1 then σ 300 b else σ 307 b) = (M : Int)) (hM2 : M ≤ 14) (hx : (if o = 0 then σ 298 (14 * b + wh) else if o = 1 then σ 301 (6 * b + wh) else σ 308 (10 * b + wh)) = ((e8 f m : Nat) : Int))  : TT X 65 (0, [(2, 295), (0, o), (0, ((wh : Nat) : Int)), (0, ((k : Nat) : Int)), (9, 0), (9, 0), (9, 0), (9, 0), (9, 0)], [], σ) (fun r σ' => r = some (0, ltV f m k) ∧ σ' = σ) := by
  refine TT.steps (cd := cd65) 3 (c' := (3, [(2, 295), (0, o), (0, ((wh : Nat) : Int)), (0, ((k : Nat) : Int)), (9, 0), (9, 0), (9, 0), (9, 0), (9, 0)], [(0, 2), (0, 0), (0, o)], σ)) rfl rfl ?_
  refine TT.call (cd := cd65) rfl rfl rfl (by decide) rfl (t_is X o 0 2 σ) (fun r1 σ1 hq => ?_)
  rw [hq.1, hq.2]
  refine TT.steps (cd := cd65) 1 (c' := ((if decide (((if (0 : Int) ≤ o ∧ (o : Int) ≤ 2 then 1 else 0) : Int) = 0) = true then 21 else 5), [(2, 295), (0, o), (0, ((wh : Nat) : Int)), (0, ((k : Nat) : Int)), (9, 0), (9, 0), (9, 0), (9, 0), (9, 0)], [], σ)) rfl rfl ?_
  refine TT.br (p := ((if (0 : Int) ≤ o ∧ (o : Int) ≤ 2 then 1 else 0) : Int) = 0) (fun h2 => absurd h2 (show ¬ (((if (0 : Int) ≤ o ∧ (o : Int) ≤ 2 then 1 else 0) : Int) = 0) by (rw [if_pos (by omega)]; decide))) (fun h2 => ?_)
  refine TT.steps (cd := cd65) 5 (c' := (10, [(2, 295), (0, o), (0, ((wh : Nat) : Int)), (0, ((k : Nat) : Int)), (9, 0), (9, 0), (9, 0), (9, 0), (9, 0)], [(0, (σ 295 13)), (2, 295), (0, 0), (0, ((wh : Nat) : Int))], σ)) rfl rfl ?_
  refine TT.top0 (z := ((b : Nat) : Int)) hb ?_
  refine TT.steps (cd := cd65) 1 (c' := (11, [(2, 295), (0, o), (0, ((wh : Nat) : Int)), (0, ((k : Nat) : Int)), (9, 0), (9, 0), (9, 0), (9, 0), (9, 0)], [(0, o), (0, ((b : Nat) : Int)), (2, 295), (0, 0), (0, ((wh : Nat) : Int))], σ)) rfl rfl ?_
  refine TT.call (cd := cd65) rfl rfl rfl (by decide) rfl (t_manyOf X b hb2 o σ) (fun r3 σ3 hq => ?_)
  rw [hq.1, hq.2, hM]
  refine TT.steps (cd := cd65) 2 (c' := (14, [(2, 295), (0, o), (0, ((wh : Nat) : Int)), (0, ((k : Nat) : Int)), (9, 0), (9, 0), (9, 0), (9, 0), (9, 0)], [(0, (aSub ((M : Nat) : Int) 1)), (0, 0), (0, ((wh : Nat) : Int))], σ)) rfl rfl ?_
  refine TT.top0 (z := ((M : Int) - 1)) (aSub_of (by omega) (by omega)) ?_
  refine TT.call (cd := cd65) rfl rfl rfl (by decide) rfl (t_is X ((wh : Nat) : Int) 0 ((M : Int) - 1) σ) (fun r4 σ4 hq => ?_)
  rw [hq.1, hq.2]
  refine TT.steps (cd := cd65) 1 (c' := ((if decide (((if (0 : Int) ≤ ((wh : Nat) : Int) ∧ (((wh : Nat) : Int) : Int) ≤ ((M : Int) - 1) then 1 else 0) : Int) = 0) = true then 21 else 16), [(2, 295), (0, o), (0, ((wh : Nat) : Int)), (0, ((k : Nat) : Int)), (9, 0), (9, 0), (9, 0), (9, 0), (9, 0)], [], σ)) rfl rfl ?_
  refine TT.br (p := ((if (0 : Int) ≤ ((wh : Nat) : Int) ∧ (((wh : Nat) : Int) : Int) ≤ ((M : Int) - 1) then 1 else 0) : Int) = 0) (fun h5 => absurd h5 (show ¬ (((if (0 : Int) ≤ ((wh : Nat) : Int) ∧ (((wh : Nat) : Int) : Int) ≤ ((M : Int) - 1) then 1 else 0) : Int) = 0) by (rw [if_pos (by omega)]; decide))) (fun h5 => ?_)
  refine TT.steps (cd := cd65) 3 (c' := (19, [(2, 295), (0, o), (0, ((wh : Nat) : Int)), (0, ((k : Nat) : Int)), (9, 0), (9, 0), (9, 0), (9, 0), (9, 0)], [(0, 5), (0, 0), (0, ((k : Nat) : Int))], σ)) rfl rfl ?_
  refine TT.call (cd := cd65) rfl rfl rfl (by decide) rfl (t_is X ((k : Nat) : Int) 0 5 σ) (fun r6 σ6 hq => ?_)
  rw [hq.1, hq.2]
  refine TT.steps (cd := cd65) 1 (c' := ((if decide (¬ ((if (0 : Int) ≤ ((k : Nat) : Int) ∧ (((k : Nat) : Int) : Int) ≤ 5 then 1 else 0) : Int) = 0) = true then 23 else 21), [(2, 295), (0, o), (0, ((wh : Nat) : Int)), (0, ((k : Nat) : Int)), (9, 0), (9, 0), (9, 0), (9, 0), (9, 0)], [], σ)) rfl rfl ?_
  refine TT.br (p := ¬ ((if (0 : Int) ≤ ((k : Nat) : Int) ∧ (((k : Nat) : Int) : Int) ≤ 5 then 1 else 0) : Int) = 0) (fun h7 => ?_) (fun h7 => absurd (show ¬ ((if (0 : Int) ≤ ((k : Nat) : Int) ∧ (((k : Nat) : Int) : Int) ≤ 5 then 1 else 0) : Int) = 0 by (rw [if_pos (by omega)]; decide)) h7)
  refine TT.steps (cd := cd65) 3 (c' := (26, [(2, 295), (0, o), (0, ((wh : Nat) : Int)), (0, ((k : Nat) : Int)), (9, 0), (9, 0), (9, 0), (9, 0), (9, 0)], [(0, (σ 295 13)), (2, 295)], σ)) rfl rfl ?_
  refine TT.top0 (z := ((b : Nat) : Int)) hb ?_
  refine TT.steps (cd := cd65) 2 (c' := (28, [(2, 295), (0, o), (0, ((wh : Nat) : Int)), (0, ((k : Nat) : Int)), (9, 0), (9, 0), (9, 0), (9, 0), (9, 0)], [(0, ((wh : Nat) : Int)), (0, o), (0, ((b : Nat) : Int)), (2, 295)], σ)) rfl rfl ?_
  refine TT.call (cd := cd65) rfl rfl rfl (by decide) rfl (t_nameOf X b wh hb2 o ho hwk σ) (fun r8 σ8 hq => ?_)
  rw [hq.1, hq.2, hx]
  refine TT.steps (cd := cd65) 5 (c' := (34, [(2, 295), (0, o), (0, ((wh : Nat) : Int)), (0, ((k : Nat) : Int)), (1, ((e8 f m : Nat) : Int)), (9, 0), (0, 0), (1, ((e8 f m : Nat) : Int)), (9, 0)], [], σ)) rfl rfl ?_
  refine l_let X _ o wh k m f hm hf σ ?_ m 0 (by omega)
  refine TT.steps (cd := cd65) 3 (c' := ((if decide (((k : Nat) : Int) < ((m : Nat) : Int)) = true then 49 else 47), [(2, 295), (0, o), (0, ((wh : Nat) : Int)), (0, ((k : Nat) : Int)), (1, ((e8 f m : Nat) : Int)), (9, 0), (0, ((m : Nat) : Int)), (1, ((e8 f (m - m) : Nat) : Int)), (9, 0)], [], σ)) rfl rfl ?_
  refine TT.br (p := ((k : Nat) : Int) < ((m : Nat) : Int)) (fun h9 => ?_) (fun h9 => ?_)
  · refine TT.steps (cd := cd65) 5 (c' := (54, [(2, 295), (0, o), (0, ((wh : Nat) : Int)), (0, ((k : Nat) : Int)), (1, ((e8 f m : Nat) : Int)), (9, 0), (0, ((m : Nat) : Int)), (1, ((e8 f (m - m) : Nat) : Int)), (9, 0)], [(0, (aSub ((m : Nat) : Int) 1)), (0, 8), (1, ((e8 f m : Nat) : Int))], σ)) rfl rfl ?_
    refine TT.top0 (z := ((m - 1 : Nat) : Int)) (aSub_n (a := m) (b := 1) (by omega) (by omega)) ?_
    refine TT.steps (cd := cd65) 2 (c' := (56, [(2, 295), (0, o), (0, ((wh : Nat) : Int)), (0, ((k : Nat) : Int)), (1, ((e8 f m : Nat) : Int)), (9, 0), (0, ((m : Nat) : Int)), (1, ((e8 f (m - m) : Nat) : Int)), (9, 0)], [(0, (aSub ((m - 1 : Nat) : Int) ((k : Nat) : Int))), (0, 8), (1, ((e8 f m : Nat) : Int))], σ)) rfl rfl ?_
    refine TT.top0 (z := (((m - 1) - k : Nat) : Int)) (aSub_n (a := m - 1) (b := k) (by omega) (by omega)) ?_
    refine TT.steps (cd := cd65) 1 (c' := (57, [(2, 295), (0, o), (0, ((wh : Nat) : Int)), (0, ((k : Nat) : Int)), (1, ((e8 f m : Nat) : Int)), (9, 0), (0, ((m : Nat) : Int)), (1, ((e8 f (m - m) : Nat) : Int)), (9, 0)], [(0, (aMul 8 (((m - 1) - k : Nat) : Int))), (1, ((e8 f m : Nat) : Int))], σ)) rfl rfl ?_
    refine TT.top0 (z := ((8 * ((m - 1) - k) : Nat) : Int)) (aMul_n (a := 8) (b := (m - 1) - k) (by omega)) ?_
    refine TT.steps (cd := cd65) 6 (c' := (63, [(2, 295), (0, o), (0, ((wh : Nat) : Int)), (0, ((k : Nat) : Int)), (1, ((e8 f m : Nat) : Int)), (9, 0), (0, ((m : Nat) : Int)), (1, ((e8 f (m - m) : Nat) : Int)), (9, 0)], [(0, (aSub (bL2i (bAnd (bShr ((e8 f m : Nat) : Int) ((8 * ((m - 1) - k) : Nat) : Int)) 255)) 97))], σ)) rfl rfl ?_
    refine TT.steps (cd := cd65) 2 (c' := (65, [(2, 295), (0, o), (0, ((wh : Nat) : Int)), (0, ((k : Nat) : Int)), (1, ((e8 f m : Nat) : Int)), (9, 0), (0, ((m : Nat) : Int)), (1, ((e8 f (m - m) : Nat) : Int)), (9, 0)], [(0, (aAdd (aSub (bL2i (bAnd (bShr ((e8 f m : Nat) : Int) ((8 * ((m - 1) - k) : Nat) : Int)) 255)) 97) 1))], σ)) rfl rfl ?_
    refine TT.ret (cd := cd65) rfl rfl rfl rfl ⟨?_, rfl⟩
    first | exact congrArg (fun x => some ((0 : Nat), x)) (lt8 hm hf (by omega)) | (unfold ltV; rw [if_neg (by omega)])
  · refine TT.steps (cd := cd65) 2 (c' := (65, [(2, 295), (0, o), (0, ((wh : Nat) : Int)), (0, ((k : Nat) : Int)), (1, ((e8 f m : Nat) : Int)), (9, 0), (0, ((m : Nat) : Int)), (1, ((e8 f (m - m) : Nat) : Int)), (9, 0)], [(0, 0)], σ)) rfl rfl ?_
    refine TT.ret (cd := cd65) rfl rfl rfl rfl ⟨?_, rfl⟩
    first | exact congrArg (fun x => some ((0 : Nat), x)) (lt8 hm hf (by omega)) | (unfold ltV; rw [if_neg (by omega)])
theorem u_letterOf (X : AX) (m : Nat) (f : Nat → Nat) (hm : m ≤ 6) (hf : ∀ i, i < m → 1 ≤ f i ∧ f i ≤ 26) (k : Nat) (hk : k < 6) (σ : AH)  : TT X 222 (0, [(0, (((e5 f m) : Nat) : Int)), (0, ((k : Nat) : Int))], [], σ) (fun r σ' => r = some (0, ltV f m k) ∧ σ' = σ) := by
  refine TT.steps (cd := cd222) 4 (c' := (4, [(0, (((e5 f m) : Nat) : Int)), (0, ((k : Nat) : Int))], [(0, (aMul 5 ((k : Nat) : Int))), (0, (((e5 f m) : Nat) : Int))], σ)) rfl rfl ?_
  refine TT.top0 (z := ((5 * k : Nat) : Int)) (aMul_n (a := 5) (b := k) (by omega)) ?_
  refine TT.steps (cd := cd222) 3 (c' := (7, [(0, (((e5 f m) : Nat) : Int)), (0, ((k : Nat) : Int))], [(0, (aAnd (aShr (((e5 f m) : Nat) : Int) ((5 * k : Nat) : Int)) 31))], σ)) rfl rfl ?_
  exact TT.ret (cd := cd222) rfl rfl rfl rfl (⟨congrArg (fun x => some ((0 : Nat), x)) (lt5 hm hf hk), rfl⟩)
theorem K_letterA (X : AX) {l : Nat} {σ ρ : AH} {b np nt ns : Nat} {L : Nat → Nat} {C : Nat → Nat → Nat} {w tp u tl oc : Nat} (h : IV σ ρ l b np nt ns L C w tp u tl oc) (o wh k : Int) (hN : ¬ (0 ≤ k ∧ k ≤ 5) ∨ ¬ (0 ≤ o ∧ o ≤ 2) ∨ (o = 0 ∧ ¬ (0 ≤ wh ∧ wh < (ns : Int))) ∨ (o = 1 ∧ ¬ (0 ≤ wh ∧ wh < (nt : Int))) ∨ (o = 2 ∧ ¬ (0 ≤ wh ∧ wh < (np : Int))))  : TT X 186 (0, [(2, 0), (0, o), (0, wh), (0, k)], [], σ) (fun r σ' => r = some (0, -1) ∧ QS σ σ') := by
  obtain ⟨⟨hl, h05, h33⟩, hL, hN, hPT, hF, hA, hTp, hO, hM, hH⟩ := id h
  obtain ⟨⟨a1, a2, a3, a4⟩, ⟨b1, b2, b3, b4, b5⟩, ⟨c1, c2, c3, c4, c5⟩, hTr, hCa, hAf, hPr, hDi⟩ := id hL
  obtain ⟨hPb, ⟨y1, y2, y3⟩, hhi, hPp⟩ := id hPT
  refine TT.steps (cd := cd186) 2 (c' := ((if decide (k < 0) = true then 5 else 2), [(2, 0), (0, o), (0, wh), (0, k)], [], σ)) rfl rfl ?_
  refine TT.br (p := k < 0) (fun h1 => ?_) (fun h1 => ?_)
  · refine TT.steps (cd := cd186) 1 (c' := (6, [(2, 0), (0, o), (0, wh), (0, k)], [(0, -1)], σ)) rfl rfl ?_
    exact TT.ret (cd := cd186) rfl rfl rfl rfl (⟨rfl, QS.refl σ⟩)
  · refine TT.steps (cd := cd186) 3 (c' := ((if decide (k < 6) = true then 7 else 5), [(2, 0), (0, o), (0, wh), (0, k)], [], σ)) rfl rfl ?_
    refine TT.br (p := k < 6) (fun h2 => ?_) (fun h2 => ?_)
    · refine TT.steps (cd := cd186) 2 (c' := ((swOf [(0, 9), (1, 23), (2, 37)] 51 o), [(2, 0), (0, o), (0, wh), (0, k)], [], σ)) rfl rfl ?_
      refine TT.swc (fun h3 => ?_) (fun h3 => ?_)
      · refine TT.steps (cd := cd186) 2 (c' := (11, [(2, 0), (0, o), (0, wh), (0, k)], [(0, wh), (2, 0)], σ)) rfl rfl ?_
        refine TT.call (cd := cd186) rfl rfl rfl (by decide) rfl (w_isStation X hl wh σ h05) (fun r4 σ4 hq => ?_)
        rw [hq.1, hq.2, a1]
        refine TT.steps (cd := cd186) 1 (c' := ((if decide (((if 0 ≤ wh ∧ wh < ((ns : Nat) : Int) then 1 else 0) : Int) = 0) = true then 21 else 13), [(2, 0), (0, o), (0, wh), (0, k)], [], σ)) rfl rfl ?_
        refine TT.br (p := ((if 0 ≤ wh ∧ wh < ((ns : Nat) : Int) then 1 else 0) : Int) = 0) (fun h5 => ?_) (fun h5 => ?_)
        · replace h5 := ite_f h5
          refine TT.steps (cd := cd186) 1 (c' := (22, [(2, 0), (0, o), (0, wh), (0, k)], [(0, -1)], σ)) rfl rfl ?_
          exact TT.ret (cd := cd186) rfl rfl rfl rfl (⟨rfl, QS.refl σ⟩)
        · replace h5 := ite_t h5
          omega
      refine TT.swc (fun h6 => ?_) (fun h6 => ?_)
      · refine TT.steps (cd := cd186) 2 (c' := (25, [(2, 0), (0, o), (0, wh), (0, k)], [(0, wh), (2, 0)], σ)) rfl rfl ?_
        refine TT.call (cd := cd186) rfl rfl rfl (by decide) rfl (w_isTrain X hl wh σ h05) (fun r7 σ7 hq => ?_)
        rw [hq.1, hq.2, a2]
        refine TT.steps (cd := cd186) 1 (c' := ((if decide (((if 0 ≤ wh ∧ wh < ((nt : Nat) : Int) then 1 else 0) : Int) = 0) = true then 35 else 27), [(2, 0), (0, o), (0, wh), (0, k)], [], σ)) rfl rfl ?_
        refine TT.br (p := ((if 0 ≤ wh ∧ wh < ((nt : Nat) : Int) then 1 else 0) : Int) = 0) (fun h8 => ?_) (fun h8 => ?_)
        · replace h8 := ite_f h8
          refine TT.steps (cd := cd186) 1 (c' := (36, [(2, 0), (0, o), (0, wh), (0, k)], [(0, -1)], σ)) rfl rfl ?_
          exact TT.ret (cd := cd186) rfl rfl rfl rfl (⟨rfl, QS.refl σ⟩)
        · replace h8 := ite_t h8
          omega
      refine TT.swc (fun h9 => ?_) (fun h9 => ?_)
      · refine TT.steps (cd := cd186) 2 (c' := (39, [(2, 0), (0, o), (0, wh), (0, k)], [(0, wh), (2, 0)], σ)) rfl rfl ?_
        refine TT.call (cd := cd186) rfl rfl rfl (by decide) rfl (w_isPerson X wh σ) (fun r10 σ10 hq => ?_)
        rw [hq.1, hq.2, hPb.1]
        refine TT.steps (cd := cd186) 1 (c' := ((if decide (((if 0 ≤ wh ∧ wh < ((np : Nat) : Int) then 1 else 0) : Int) = 0) = true then 49 else 41), [(2, 0), (0, o), (0, wh), (0, k)], [], σ)) rfl rfl ?_
        refine TT.br (p := ((if 0 ≤ wh ∧ wh < ((np : Nat) : Int) then 1 else 0) : Int) = 0) (fun h11 => ?_) (fun h11 => ?_)
        · replace h11 := ite_f h11
          refine TT.steps (cd := cd186) 1 (c' := (50, [(2, 0), (0, o), (0, wh), (0, k)], [(0, -1)], σ)) rfl rfl ?_
          exact TT.ret (cd := cd186) rfl rfl rfl rfl (⟨rfl, QS.refl σ⟩)
        · replace h11 := ite_t h11
          omega
      show TT X 186 (51, [(2, 0), (0, o), (0, wh), (0, k)], [], σ) _
      refine TT.steps (cd := cd186) 1 (c' := (52, [(2, 0), (0, o), (0, wh), (0, k)], [(0, -1)], σ)) rfl rfl ?_
      exact TT.ret (cd := cd186) rfl rfl rfl rfl (⟨rfl, QS.refl σ⟩)
    · refine TT.steps (cd := cd186) 1 (c' := (6, [(2, 0), (0, o), (0, wh), (0, k)], [(0, -1)], σ)) rfl rfl ?_
      exact TT.ret (cd := cd186) rfl rfl rfl rfl (⟨rfl, QS.refl σ⟩)
theorem K_letter0_8 (X : AX) {σ ρ : AH} {b np nt ns : Nat} {L : Nat → Nat} {C : Nat → Nat → Nat} {w tp u tl oc : Nat} (h : IV σ ρ 8 b np nt ns L C w tp u tl oc) (wh k : Nat) (hk : k < 6) (hwh : wh < ns)  : TT X 186 (0, [(2, 0), (0, 0), (0, ((wh : Nat) : Int)), (0, ((k : Nat) : Int))], [], σ) (fun r σ' => ∃ (m : Nat) (f : Nat → Nat), (1 ≤ m ∧ m ≤ 6) ∧ (∀ i, i < m → 1 ≤ f i ∧ f i ≤ 26) ∧ ρ 298 (14 * b + wh) = ((e8 f m : Nat) : Int) ∧ r = some (0, ltV f m k) ∧ QS σ σ') := by
  obtain ⟨⟨hl, h05, h33⟩, hL, hN, hPT, hF, hA, hTp, hO, hM, hH⟩ := id h
  obtain ⟨⟨a1, a2, a3, a4⟩, ⟨b1, b2, b3, b4, b5⟩, ⟨c1, c2, c3, c4, c5⟩, hTr, hCa, hAf, hPr, hDi⟩ := id hL
  obtain ⟨hPb, ⟨y1, y2, y3⟩, hhi, hPp⟩ := id hPT
  obtain ⟨m, f, hm, hf, hx, hw⟩ := hN.1 wh hwh
  refine TT.steps (cd := cd186) 2 (c' := ((if decide (((k : Nat) : Int) < 0) = true then 5 else 2), [(2, 0), (0, 0), (0, ((wh : Nat) : Int)), (0, ((k : Nat) : Int))], [], σ)) rfl rfl ?_
  refine TT.br (p := ((k : Nat) : Int) < 0) (fun h1 => absurd h1 (show ¬ (((k : Nat) : Int) < 0) by omega)) (fun h1 => ?_)
  refine TT.steps (cd := cd186) 3 (c' := ((if decide (((k : Nat) : Int) < 6) = true then 7 else 5), [(2, 0), (0, 0), (0, ((wh : Nat) : Int)), (0, ((k : Nat) : Int))], [], σ)) rfl rfl ?_
  refine TT.br (p := ((k : Nat) : Int) < 6) (fun h2 => ?_) (fun h2 => absurd (show ((k : Nat) : Int) < 6 by omega) h2)
  refine TT.steps (cd := cd186) 4 (c' := (11, [(2, 0), (0, 0), (0, ((wh : Nat) : Int)), (0, ((k : Nat) : Int))], [(0, ((wh : Nat) : Int)), (2, 0)], σ)) rfl rfl ?_
  refine TT.call (cd := cd186) rfl rfl rfl (by decide) rfl (w_isStation X hl ((wh : Nat) : Int) σ h05) (fun r3 σ3 hq => ?_)
  rw [hq.1, hq.2, a1]
  refine TT.steps (cd := cd186) 1 (c' := ((if decide (((if 0 ≤ ((wh : Nat) : Int) ∧ ((wh : Nat) : Int) < ((ns : Nat) : Int) then 1 else 0) : Int) = 0) = true then 21 else 13), [(2, 0), (0, 0), (0, ((wh : Nat) : Int)), (0, ((k : Nat) : Int))], [], σ)) rfl rfl ?_
  refine TT.br (p := ((if 0 ≤ ((wh : Nat) : Int) ∧ ((wh : Nat) : Int) < ((ns : Nat) : Int) then 1 else 0) : Int) = 0) (fun h4 => absurd h4 (show ¬ (((if 0 ≤ ((wh : Nat) : Int) ∧ ((wh : Nat) : Int) < ((ns : Nat) : Int) then 1 else 0) : Int) = 0) by (rw [if_pos (by omega)]; decide))) (fun h4 => ?_)
  refine TT.steps (cd := cd186) 2 (c' := (15, [(2, 0), (0, 0), (0, ((wh : Nat) : Int)), (0, ((k : Nat) : Int))], [(2, (σ 0 5))], σ)) rfl rfl ?_
  refine TT.top0 (z := 8) h05 ?_
  refine TT.steps (cd := cd186) 2 (c' := (17, [(2, 0), (0, 0), (0, ((wh : Nat) : Int)), (0, ((k : Nat) : Int))], [(0, ((wh : Nat) : Int)), (2, 9)], σ)) rfl rfl ?_
  refine TT.aldN (cd := cd186) (9) (wh) rfl rfl rfl rfl (show wh < 14 by omega) ?_
  refine TT.top0 (z := (((e5 f m) : Nat) : Int)) hx ?_
  refine TT.steps (cd := cd186) 1 (c' := (19, [(2, 0), (0, 0), (0, ((wh : Nat) : Int)), (0, ((k : Nat) : Int))], [(0, ((k : Nat) : Int)), (0, (((e5 f m) : Nat) : Int))], σ)) rfl rfl ?_
  refine TT.call (cd := cd186) rfl rfl rfl (by decide) rfl (u_letterOf X m f hm.2 hf k hk σ) (fun r5 σ5 hq => ?_)
  rw [hq.1, hq.2]
  refine TT.steps (cd := cd186) 1 (c' := (22, [(2, 0), (0, 0), (0, ((wh : Nat) : Int)), (0, ((k : Nat) : Int))], [(0, (ltV f m k))], σ)) rfl rfl ?_
  exact TT.ret (cd := cd186) rfl rfl rfl rfl (⟨m, f, hm, hf, hw, rfl, QS.refl σ⟩)
theorem K_letter0_170 (X : AX) {σ ρ : AH} {b np nt ns : Nat} {L : Nat → Nat} {C : Nat → Nat → Nat} {w tp u tl oc : Nat} (h : IV σ ρ 170 b np nt ns L C w tp u tl oc) (wh k : Nat) (hk : k < 6) (hwh : wh < ns)  : TT X 186 (0, [(2, 0), (0, 0), (0, ((wh : Nat) : Int)), (0, ((k : Nat) : Int))], [], σ) (fun r σ' => ∃ (m : Nat) (f : Nat → Nat), (1 ≤ m ∧ m ≤ 6) ∧ (∀ i, i < m → 1 ≤ f i ∧ f i ≤ 26) ∧ ρ 298 (14 * b + wh) = ((e8 f m : Nat) : Int) ∧ r = some (0, ltV f m k) ∧ QS σ σ') := by
  obtain ⟨⟨hl, h05, h33⟩, hL, hN, hPT, hF, hA, hTp, hO, hM, hH⟩ := id h
  obtain ⟨⟨a1, a2, a3, a4⟩, ⟨b1, b2, b3, b4, b5⟩, ⟨c1, c2, c3, c4, c5⟩, hTr, hCa, hAf, hPr, hDi⟩ := id hL
  obtain ⟨hPb, ⟨y1, y2, y3⟩, hhi, hPp⟩ := id hPT
  obtain ⟨m, f, hm, hf, hx, hw⟩ := hN.1 wh hwh
  refine TT.steps (cd := cd186) 2 (c' := ((if decide (((k : Nat) : Int) < 0) = true then 5 else 2), [(2, 0), (0, 0), (0, ((wh : Nat) : Int)), (0, ((k : Nat) : Int))], [], σ)) rfl rfl ?_
  refine TT.br (p := ((k : Nat) : Int) < 0) (fun h1 => absurd h1 (show ¬ (((k : Nat) : Int) < 0) by omega)) (fun h1 => ?_)
  refine TT.steps (cd := cd186) 3 (c' := ((if decide (((k : Nat) : Int) < 6) = true then 7 else 5), [(2, 0), (0, 0), (0, ((wh : Nat) : Int)), (0, ((k : Nat) : Int))], [], σ)) rfl rfl ?_
  refine TT.br (p := ((k : Nat) : Int) < 6) (fun h2 => ?_) (fun h2 => absurd (show ((k : Nat) : Int) < 6 by omega) h2)
  refine TT.steps (cd := cd186) 4 (c' := (11, [(2, 0), (0, 0), (0, ((wh : Nat) : Int)), (0, ((k : Nat) : Int))], [(0, ((wh : Nat) : Int)), (2, 0)], σ)) rfl rfl ?_
  refine TT.call (cd := cd186) rfl rfl rfl (by decide) rfl (w_isStation X hl ((wh : Nat) : Int) σ h05) (fun r3 σ3 hq => ?_)
  rw [hq.1, hq.2, a1]
  refine TT.steps (cd := cd186) 1 (c' := ((if decide (((if 0 ≤ ((wh : Nat) : Int) ∧ ((wh : Nat) : Int) < ((ns : Nat) : Int) then 1 else 0) : Int) = 0) = true then 21 else 13), [(2, 0), (0, 0), (0, ((wh : Nat) : Int)), (0, ((k : Nat) : Int))], [], σ)) rfl rfl ?_
  refine TT.br (p := ((if 0 ≤ ((wh : Nat) : Int) ∧ ((wh : Nat) : Int) < ((ns : Nat) : Int) then 1 else 0) : Int) = 0) (fun h4 => absurd h4 (show ¬ (((if 0 ≤ ((wh : Nat) : Int) ∧ ((wh : Nat) : Int) < ((ns : Nat) : Int) then 1 else 0) : Int) = 0) by (rw [if_pos (by omega)]; decide))) (fun h4 => ?_)
  refine TT.steps (cd := cd186) 2 (c' := (15, [(2, 0), (0, 0), (0, ((wh : Nat) : Int)), (0, ((k : Nat) : Int))], [(2, (σ 0 5))], σ)) rfl rfl ?_
  refine TT.top0 (z := 170) h05 ?_
  refine TT.steps (cd := cd186) 2 (c' := (17, [(2, 0), (0, 0), (0, ((wh : Nat) : Int)), (0, ((k : Nat) : Int))], [(0, ((wh : Nat) : Int)), (2, 171)], σ)) rfl rfl ?_
  refine TT.aldN (cd := cd186) (171) (wh) rfl rfl rfl rfl (show wh < 14 by omega) ?_
  refine TT.top0 (z := (((e5 f m) : Nat) : Int)) hx ?_
  refine TT.steps (cd := cd186) 1 (c' := (19, [(2, 0), (0, 0), (0, ((wh : Nat) : Int)), (0, ((k : Nat) : Int))], [(0, ((k : Nat) : Int)), (0, (((e5 f m) : Nat) : Int))], σ)) rfl rfl ?_
  refine TT.call (cd := cd186) rfl rfl rfl (by decide) rfl (u_letterOf X m f hm.2 hf k hk σ) (fun r5 σ5 hq => ?_)
  rw [hq.1, hq.2]
  refine TT.steps (cd := cd186) 1 (c' := (22, [(2, 0), (0, 0), (0, ((wh : Nat) : Int)), (0, ((k : Nat) : Int))], [(0, (ltV f m k))], σ)) rfl rfl ?_
  exact TT.ret (cd := cd186) rfl rfl rfl rfl (⟨m, f, hm, hf, hw, rfl, QS.refl σ⟩)
theorem K_letter0 (X : AX) {l : Nat} {σ ρ : AH} {b np nt ns : Nat} {L : Nat → Nat} {C : Nat → Nat → Nat} {w tp u tl oc : Nat} (h : IV σ ρ l b np nt ns L C w tp u tl oc) (wh k : Nat) (hk : k < 6) (hwh : wh < ns)  : TT X 186 (0, [(2, 0), (0, 0), (0, ((wh : Nat) : Int)), (0, ((k : Nat) : Int))], [], σ) (fun r σ' => ∃ (m : Nat) (f : Nat → Nat), (1 ≤ m ∧ m ≤ 6) ∧ (∀ i, i < m → 1 ≤ f i ∧ f i ≤ 26) ∧ ρ 298 (14 * b + wh) = ((e8 f m : Nat) : Int) ∧ r = some (0, ltV f m k) ∧ QS σ σ') := by
  rcases h.1.1 with rfl | rfl
  · exact K_letter0_8 X h wh k hk hwh
  · exact K_letter0_170 X h wh k hk hwh
theorem K_letter1_8 (X : AX) {σ ρ : AH} {b np nt ns : Nat} {L : Nat → Nat} {C : Nat → Nat → Nat} {w tp u tl oc : Nat} (h : IV σ ρ 8 b np nt ns L C w tp u tl oc) (wh k : Nat) (hk : k < 6) (hwh : wh < nt)  : TT X 186 (0, [(2, 0), (0, 1), (0, ((wh : Nat) : Int)), (0, ((k : Nat) : Int))], [], σ) (fun r σ' => ∃ (m : Nat) (f : Nat → Nat), (1 ≤ m ∧ m ≤ 6) ∧ (∀ i, i < m → 1 ≤ f i ∧ f i ≤ 26) ∧ ρ 301 (6 * b + wh) = ((e8 f m : Nat) : Int) ∧ r = some (0, ltV f m k) ∧ QS σ σ') := by
  obtain ⟨⟨hl, h05, h33⟩, hL, hN, hPT, hF, hA, hTp, hO, hM, hH⟩ := id h
  obtain ⟨⟨a1, a2, a3, a4⟩, ⟨b1, b2, b3, b4, b5⟩, ⟨c1, c2, c3, c4, c5⟩, hTr, hCa, hAf, hPr, hDi⟩ := id hL
  obtain ⟨hPb, ⟨y1, y2, y3⟩, hhi, hPp⟩ := id hPT
  obtain ⟨m, f, hm, hf, hx, hw⟩ := hN.2.1 wh hwh
  refine TT.steps (cd := cd186) 2 (c' := ((if decide (((k : Nat) : Int) < 0) = true then 5 else 2), [(2, 0), (0, 1), (0, ((wh : Nat) : Int)), (0, ((k : Nat) : Int))], [], σ)) rfl rfl ?_
  refine TT.br (p := ((k : Nat) : Int) < 0) (fun h1 => absurd h1 (show ¬ (((k : Nat) : Int) < 0) by omega)) (fun h1 => ?_)
  refine TT.steps (cd := cd186) 3 (c' := ((if decide (((k : Nat) : Int) < 6) = true then 7 else 5), [(2, 0), (0, 1), (0, ((wh : Nat) : Int)), (0, ((k : Nat) : Int))], [], σ)) rfl rfl ?_
  refine TT.br (p := ((k : Nat) : Int) < 6) (fun h2 => ?_) (fun h2 => absurd (show ((k : Nat) : Int) < 6 by omega) h2)
  refine TT.steps (cd := cd186) 4 (c' := (25, [(2, 0), (0, 1), (0, ((wh : Nat) : Int)), (0, ((k : Nat) : Int))], [(0, ((wh : Nat) : Int)), (2, 0)], σ)) rfl rfl ?_
  refine TT.call (cd := cd186) rfl rfl rfl (by decide) rfl (w_isTrain X hl ((wh : Nat) : Int) σ h05) (fun r3 σ3 hq => ?_)
  rw [hq.1, hq.2, a2]
  refine TT.steps (cd := cd186) 1 (c' := ((if decide (((if 0 ≤ ((wh : Nat) : Int) ∧ ((wh : Nat) : Int) < ((nt : Nat) : Int) then 1 else 0) : Int) = 0) = true then 35 else 27), [(2, 0), (0, 1), (0, ((wh : Nat) : Int)), (0, ((k : Nat) : Int))], [], σ)) rfl rfl ?_
  refine TT.br (p := ((if 0 ≤ ((wh : Nat) : Int) ∧ ((wh : Nat) : Int) < ((nt : Nat) : Int) then 1 else 0) : Int) = 0) (fun h4 => absurd h4 (show ¬ (((if 0 ≤ ((wh : Nat) : Int) ∧ ((wh : Nat) : Int) < ((nt : Nat) : Int) then 1 else 0) : Int) = 0) by (rw [if_pos (by omega)]; decide))) (fun h4 => ?_)
  refine TT.steps (cd := cd186) 2 (c' := (29, [(2, 0), (0, 1), (0, ((wh : Nat) : Int)), (0, ((k : Nat) : Int))], [(2, (σ 0 5))], σ)) rfl rfl ?_
  refine TT.top0 (z := 8) h05 ?_
  refine TT.steps (cd := cd186) 2 (c' := (31, [(2, 0), (0, 1), (0, ((wh : Nat) : Int)), (0, ((k : Nat) : Int))], [(0, ((wh : Nat) : Int)), (2, 10)], σ)) rfl rfl ?_
  refine TT.aldN (cd := cd186) (10) (wh) rfl rfl rfl rfl (show wh < 6 by omega) ?_
  refine TT.top0 (z := (((e5 f m) : Nat) : Int)) hx ?_
  refine TT.steps (cd := cd186) 1 (c' := (33, [(2, 0), (0, 1), (0, ((wh : Nat) : Int)), (0, ((k : Nat) : Int))], [(0, ((k : Nat) : Int)), (0, (((e5 f m) : Nat) : Int))], σ)) rfl rfl ?_
  refine TT.call (cd := cd186) rfl rfl rfl (by decide) rfl (u_letterOf X m f hm.2 hf k hk σ) (fun r5 σ5 hq => ?_)
  rw [hq.1, hq.2]
  refine TT.steps (cd := cd186) 1 (c' := (36, [(2, 0), (0, 1), (0, ((wh : Nat) : Int)), (0, ((k : Nat) : Int))], [(0, (ltV f m k))], σ)) rfl rfl ?_
  exact TT.ret (cd := cd186) rfl rfl rfl rfl (⟨m, f, hm, hf, hw, rfl, QS.refl σ⟩)
theorem K_letter1_170 (X : AX) {σ ρ : AH} {b np nt ns : Nat} {L : Nat → Nat} {C : Nat → Nat → Nat} {w tp u tl oc : Nat} (h : IV σ ρ 170 b np nt ns L C w tp u tl oc) (wh k : Nat) (hk : k < 6) (hwh : wh < nt)  : TT X 186 (0, [(2, 0), (0, 1), (0, ((wh : Nat) : Int)), (0, ((k : Nat) : Int))], [], σ) (fun r σ' => ∃ (m : Nat) (f : Nat → Nat), (1 ≤ m ∧ m ≤ 6) ∧ (∀ i, i < m → 1 ≤ f i ∧ f i ≤ 26) ∧ ρ 301 (6 * b + wh) = ((e8 f m : Nat) : Int) ∧ r = some (0, ltV f m k) ∧ QS σ σ') := by
  obtain ⟨⟨hl, h05, h33⟩, hL, hN, hPT, hF, hA, hTp, hO, hM, hH⟩ := id h
  obtain ⟨⟨a1, a2, a3, a4⟩, ⟨b1, b2, b3, b4, b5⟩, ⟨c1, c2, c3, c4, c5⟩, hTr, hCa, hAf, hPr, hDi⟩ := id hL
  obtain ⟨hPb, ⟨y1, y2, y3⟩, hhi, hPp⟩ := id hPT
  obtain ⟨m, f, hm, hf, hx, hw⟩ := hN.2.1 wh hwh
  refine TT.steps (cd := cd186) 2 (c' := ((if decide (((k : Nat) : Int) < 0) = true then 5 else 2), [(2, 0), (0, 1), (0, ((wh : Nat) : Int)), (0, ((k : Nat) : Int))], [], σ)) rfl rfl ?_
  refine TT.br (p := ((k : Nat) : Int) < 0) (fun h1 => absurd h1 (show ¬ (((k : Nat) : Int) < 0) by omega)) (fun h1 => ?_)
  refine TT.steps (cd := cd186) 3 (c' := ((if decide (((k : Nat) : Int) < 6) = true then 7 else 5), [(2, 0), (0, 1), (0, ((wh : Nat) : Int)), (0, ((k : Nat) : Int))], [], σ)) rfl rfl ?_
  refine TT.br (p := ((k : Nat) : Int) < 6) (fun h2 => ?_) (fun h2 => absurd (show ((k : Nat) : Int) < 6 by omega) h2)
  refine TT.steps (cd := cd186) 4 (c' := (25, [(2, 0), (0, 1), (0, ((wh : Nat) : Int)), (0, ((k : Nat) : Int))], [(0, ((wh : Nat) : Int)), (2, 0)], σ)) rfl rfl ?_
  refine TT.call (cd := cd186) rfl rfl rfl (by decide) rfl (w_isTrain X hl ((wh : Nat) : Int) σ h05) (fun r3 σ3 hq => ?_)
  rw [hq.1, hq.2, a2]
  refine TT.steps (cd := cd186) 1 (c' := ((if decide (((if 0 ≤ ((wh : Nat) : Int) ∧ ((wh : Nat) : Int) < ((nt : Nat) : Int) then 1 else 0) : Int) = 0) = true then 35 else 27), [(2, 0), (0, 1), (0, ((wh : Nat) : Int)), (0, ((k : Nat) : Int))], [], σ)) rfl rfl ?_
  refine TT.br (p := ((if 0 ≤ ((wh : Nat) : Int) ∧ ((wh : Nat) : Int) < ((nt : Nat) : Int) then 1 else 0) : Int) = 0) (fun h4 => absurd h4 (show ¬ (((if 0 ≤ ((wh : Nat) : Int) ∧ ((wh : Nat) : Int) < ((nt : Nat) : Int) then 1 else 0) : Int) = 0) by (rw [if_pos (by omega)]; decide))) (fun h4 => ?_)
  refine TT.steps (cd := cd186) 2 (c' := (29, [(2, 0), (0, 1), (0, ((wh : Nat) : Int)), (0, ((k : Nat) : Int))], [(2, (σ 0 5))], σ)) rfl rfl ?_
  refine TT.top0 (z := 170) h05 ?_
  refine TT.steps (cd := cd186) 2 (c' := (31, [(2, 0), (0, 1), (0, ((wh : Nat) : Int)), (0, ((k : Nat) : Int))], [(0, ((wh : Nat) : Int)), (2, 172)], σ)) rfl rfl ?_
  refine TT.aldN (cd := cd186) (172) (wh) rfl rfl rfl rfl (show wh < 6 by omega) ?_
  refine TT.top0 (z := (((e5 f m) : Nat) : Int)) hx ?_
  refine TT.steps (cd := cd186) 1 (c' := (33, [(2, 0), (0, 1), (0, ((wh : Nat) : Int)), (0, ((k : Nat) : Int))], [(0, ((k : Nat) : Int)), (0, (((e5 f m) : Nat) : Int))], σ)) rfl rfl ?_
  refine TT.call (cd := cd186) rfl rfl rfl (by decide) rfl (u_letterOf X m f hm.2 hf k hk σ) (fun r5 σ5 hq => ?_)
  rw [hq.1, hq.2]
  refine TT.steps (cd := cd186) 1 (c' := (36, [(2, 0), (0, 1), (0, ((wh : Nat) : Int)), (0, ((k : Nat) : Int))], [(0, (ltV f m k))], σ)) rfl rfl ?_
  exact TT.ret (cd := cd186) rfl rfl rfl rfl (⟨m, f, hm, hf, hw, rfl, QS.refl σ⟩)
theorem K_letter1 (X : AX) {l : Nat} {σ ρ : AH} {b np nt ns : Nat} {L : Nat → Nat} {C : Nat → Nat → Nat} {w tp u tl oc : Nat} (h : IV σ ρ l b np nt ns L C w tp u tl oc) (wh k : Nat) (hk : k < 6) (hwh : wh < nt)  : TT X 186 (0, [(2, 0), (0, 1), (0, ((wh : Nat) : Int)), (0, ((k : Nat) : Int))], [], σ) (fun r σ' => ∃ (m : Nat) (f : Nat → Nat), (1 ≤ m ∧ m ≤ 6) ∧ (∀ i, i < m → 1 ≤ f i ∧ f i ≤ 26) ∧ ρ 301 (6 * b + wh) = ((e8 f m : Nat) : Int) ∧ r = some (0, ltV f m k) ∧ QS σ σ') := by
  rcases h.1.1 with rfl | rfl
  · exact K_letter1_8 X h wh k hk hwh
  · exact K_letter1_170 X h wh k hk hwh
theorem K_letter2_8 (X : AX) {σ ρ : AH} {b np nt ns : Nat} {L : Nat → Nat} {C : Nat → Nat → Nat} {w tp u tl oc : Nat} (h : IV σ ρ 8 b np nt ns L C w tp u tl oc) (wh k : Nat) (hk : k < 6) (hwh : wh < np)  : TT X 186 (0, [(2, 0), (0, 2), (0, ((wh : Nat) : Int)), (0, ((k : Nat) : Int))], [], σ) (fun r σ' => ∃ (m : Nat) (f : Nat → Nat), (1 ≤ m ∧ m ≤ 6) ∧ (∀ i, i < m → 1 ≤ f i ∧ f i ≤ 26) ∧ ρ 308 (10 * b + wh) = ((e8 f m : Nat) : Int) ∧ r = some (0, ltV f m k) ∧ QS σ σ') := by
  obtain ⟨⟨hl, h05, h33⟩, hL, hN, hPT, hF, hA, hTp, hO, hM, hH⟩ := id h
  obtain ⟨⟨a1, a2, a3, a4⟩, ⟨b1, b2, b3, b4, b5⟩, ⟨c1, c2, c3, c4, c5⟩, hTr, hCa, hAf, hPr, hDi⟩ := id hL
  obtain ⟨hPb, ⟨y1, y2, y3⟩, hhi, hPp⟩ := id hPT
  obtain ⟨m, f, hm, hf, hx, hw⟩ := hN.2.2 wh hwh
  refine TT.steps (cd := cd186) 2 (c' := ((if decide (((k : Nat) : Int) < 0) = true then 5 else 2), [(2, 0), (0, 2), (0, ((wh : Nat) : Int)), (0, ((k : Nat) : Int))], [], σ)) rfl rfl ?_
  refine TT.br (p := ((k : Nat) : Int) < 0) (fun h1 => absurd h1 (show ¬ (((k : Nat) : Int) < 0) by omega)) (fun h1 => ?_)
  refine TT.steps (cd := cd186) 3 (c' := ((if decide (((k : Nat) : Int) < 6) = true then 7 else 5), [(2, 0), (0, 2), (0, ((wh : Nat) : Int)), (0, ((k : Nat) : Int))], [], σ)) rfl rfl ?_
  refine TT.br (p := ((k : Nat) : Int) < 6) (fun h2 => ?_) (fun h2 => absurd (show ((k : Nat) : Int) < 6 by omega) h2)
  refine TT.steps (cd := cd186) 4 (c' := (39, [(2, 0), (0, 2), (0, ((wh : Nat) : Int)), (0, ((k : Nat) : Int))], [(0, ((wh : Nat) : Int)), (2, 0)], σ)) rfl rfl ?_
  refine TT.call (cd := cd186) rfl rfl rfl (by decide) rfl (w_isPerson X ((wh : Nat) : Int) σ) (fun r3 σ3 hq => ?_)
  rw [hq.1, hq.2, hPb.1]
  refine TT.steps (cd := cd186) 1 (c' := ((if decide (((if 0 ≤ ((wh : Nat) : Int) ∧ ((wh : Nat) : Int) < ((np : Nat) : Int) then 1 else 0) : Int) = 0) = true then 49 else 41), [(2, 0), (0, 2), (0, ((wh : Nat) : Int)), (0, ((k : Nat) : Int))], [], σ)) rfl rfl ?_
  refine TT.br (p := ((if 0 ≤ ((wh : Nat) : Int) ∧ ((wh : Nat) : Int) < ((np : Nat) : Int) then 1 else 0) : Int) = 0) (fun h4 => absurd h4 (show ¬ (((if 0 ≤ ((wh : Nat) : Int) ∧ ((wh : Nat) : Int) < ((np : Nat) : Int) then 1 else 0) : Int) = 0) by (rw [if_pos (by omega)]; decide))) (fun h4 => ?_)
  refine TT.steps (cd := cd186) 2 (c' := (43, [(2, 0), (0, 2), (0, ((wh : Nat) : Int)), (0, ((k : Nat) : Int))], [(2, (σ 0 5))], σ)) rfl rfl ?_
  refine TT.top0 (z := 8) h05 ?_
  refine TT.steps (cd := cd186) 2 (c' := (45, [(2, 0), (0, 2), (0, ((wh : Nat) : Int)), (0, ((k : Nat) : Int))], [(0, ((wh : Nat) : Int)), (2, 11)], σ)) rfl rfl ?_
  refine TT.aldN (cd := cd186) (11) (wh) rfl rfl rfl rfl (show wh < 10 by omega) ?_
  refine TT.top0 (z := (((e5 f m) : Nat) : Int)) hx ?_
  refine TT.steps (cd := cd186) 1 (c' := (47, [(2, 0), (0, 2), (0, ((wh : Nat) : Int)), (0, ((k : Nat) : Int))], [(0, ((k : Nat) : Int)), (0, (((e5 f m) : Nat) : Int))], σ)) rfl rfl ?_
  refine TT.call (cd := cd186) rfl rfl rfl (by decide) rfl (u_letterOf X m f hm.2 hf k hk σ) (fun r5 σ5 hq => ?_)
  rw [hq.1, hq.2]
  refine TT.steps (cd := cd186) 1 (c' := (50, [(2, 0), (0, 2), (0, ((wh : Nat) : Int)), (0, ((k : Nat) : Int))], [(0, (ltV f m k))], σ)) rfl rfl ?_
  exact TT.ret (cd := cd186) rfl rfl rfl rfl (⟨m, f, hm, hf, hw, rfl, QS.refl σ⟩)
theorem K_letter2_170 (X : AX) {σ ρ : AH} {b np nt ns : Nat} {L : Nat → Nat} {C : Nat → Nat → Nat} {w tp u tl oc : Nat} (h : IV σ ρ 170 b np nt ns L C w tp u tl oc) (wh k : Nat) (hk : k < 6) (hwh : wh < np)  : TT X 186 (0, [(2, 0), (0, 2), (0, ((wh : Nat) : Int)), (0, ((k : Nat) : Int))], [], σ) (fun r σ' => ∃ (m : Nat) (f : Nat → Nat), (1 ≤ m ∧ m ≤ 6) ∧ (∀ i, i < m → 1 ≤ f i ∧ f i ≤ 26) ∧ ρ 308 (10 * b + wh) = ((e8 f m : Nat) : Int) ∧ r = some (0, ltV f m k) ∧ QS σ σ') := by
  obtain ⟨⟨hl, h05, h33⟩, hL, hN, hPT, hF, hA, hTp, hO, hM, hH⟩ := id h
  obtain ⟨⟨a1, a2, a3, a4⟩, ⟨b1, b2, b3, b4, b5⟩, ⟨c1, c2, c3, c4, c5⟩, hTr, hCa, hAf, hPr, hDi⟩ := id hL
  obtain ⟨hPb, ⟨y1, y2, y3⟩, hhi, hPp⟩ := id hPT
  obtain ⟨m, f, hm, hf, hx, hw⟩ := hN.2.2 wh hwh
  refine TT.steps (cd := cd186) 2 (c' := ((if decide (((k : Nat) : Int) < 0) = true then 5 else 2), [(2, 0), (0, 2), (0, ((wh : Nat) : Int)), (0, ((k : Nat) : Int))], [], σ)) rfl rfl ?_
  refine TT.br (p := ((k : Nat) : Int) < 0) (fun h1 => absurd h1 (show ¬ (((k : Nat) : Int) < 0) by omega)) (fun h1 => ?_)
  refine TT.steps (cd := cd186) 3 (c' := ((if decide (((k : Nat) : Int) < 6) = true then 7 else 5), [(2, 0), (0, 2), (0, ((wh : Nat) : Int)), (0, ((k : Nat) : Int))], [], σ)) rfl rfl ?_
  refine TT.br (p := ((k : Nat) : Int) < 6) (fun h2 => ?_) (fun h2 => absurd (show ((k : Nat) : Int) < 6 by omega) h2)
  refine TT.steps (cd := cd186) 4 (c' := (39, [(2, 0), (0, 2), (0, ((wh : Nat) : Int)), (0, ((k : Nat) : Int))], [(0, ((wh : Nat) : Int)), (2, 0)], σ)) rfl rfl ?_
  refine TT.call (cd := cd186) rfl rfl rfl (by decide) rfl (w_isPerson X ((wh : Nat) : Int) σ) (fun r3 σ3 hq => ?_)
  rw [hq.1, hq.2, hPb.1]
  refine TT.steps (cd := cd186) 1 (c' := ((if decide (((if 0 ≤ ((wh : Nat) : Int) ∧ ((wh : Nat) : Int) < ((np : Nat) : Int) then 1 else 0) : Int) = 0) = true then 49 else 41), [(2, 0), (0, 2), (0, ((wh : Nat) : Int)), (0, ((k : Nat) : Int))], [], σ)) rfl rfl ?_
  refine TT.br (p := ((if 0 ≤ ((wh : Nat) : Int) ∧ ((wh : Nat) : Int) < ((np : Nat) : Int) then 1 else 0) : Int) = 0) (fun h4 => absurd h4 (show ¬ (((if 0 ≤ ((wh : Nat) : Int) ∧ ((wh : Nat) : Int) < ((np : Nat) : Int) then 1 else 0) : Int) = 0) by (rw [if_pos (by omega)]; decide))) (fun h4 => ?_)
  refine TT.steps (cd := cd186) 2 (c' := (43, [(2, 0), (0, 2), (0, ((wh : Nat) : Int)), (0, ((k : Nat) : Int))], [(2, (σ 0 5))], σ)) rfl rfl ?_
  refine TT.top0 (z := 170) h05 ?_
  refine TT.steps (cd := cd186) 2 (c' := (45, [(2, 0), (0, 2), (0, ((wh : Nat) : Int)), (0, ((k : Nat) : Int))], [(0, ((wh : Nat) : Int)), (2, 173)], σ)) rfl rfl ?_
  refine TT.aldN (cd := cd186) (173) (wh) rfl rfl rfl rfl (show wh < 10 by omega) ?_
  refine TT.top0 (z := (((e5 f m) : Nat) : Int)) hx ?_
  refine TT.steps (cd := cd186) 1 (c' := (47, [(2, 0), (0, 2), (0, ((wh : Nat) : Int)), (0, ((k : Nat) : Int))], [(0, ((k : Nat) : Int)), (0, (((e5 f m) : Nat) : Int))], σ)) rfl rfl ?_
  refine TT.call (cd := cd186) rfl rfl rfl (by decide) rfl (u_letterOf X m f hm.2 hf k hk σ) (fun r5 σ5 hq => ?_)
  rw [hq.1, hq.2]
  refine TT.steps (cd := cd186) 1 (c' := (50, [(2, 0), (0, 2), (0, ((wh : Nat) : Int)), (0, ((k : Nat) : Int))], [(0, (ltV f m k))], σ)) rfl rfl ?_
  exact TT.ret (cd := cd186) rfl rfl rfl rfl (⟨m, f, hm, hf, hw, rfl, QS.refl σ⟩)
theorem K_letter2 (X : AX) {l : Nat} {σ ρ : AH} {b np nt ns : Nat} {L : Nat → Nat} {C : Nat → Nat → Nat} {w tp u tl oc : Nat} (h : IV σ ρ l b np nt ns L C w tp u tl oc) (wh k : Nat) (hk : k < 6) (hwh : wh < np)  : TT X 186 (0, [(2, 0), (0, 2), (0, ((wh : Nat) : Int)), (0, ((k : Nat) : Int))], [], σ) (fun r σ' => ∃ (m : Nat) (f : Nat → Nat), (1 ≤ m ∧ m ≤ 6) ∧ (∀ i, i < m → 1 ≤ f i ∧ f i ≤ 26) ∧ ρ 308 (10 * b + wh) = ((e8 f m : Nat) : Int) ∧ r = some (0, ltV f m k) ∧ QS σ σ') := by
  rcases h.1.1 with rfl | rfl
  · exact K_letter2_8 X h wh k hk hwh
  · exact K_letter2_170 X h wh k hk hwh
