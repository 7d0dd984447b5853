theorem t_is (X : AX) (v a b : Int) (σ : AH) : TT X 128 (0, [(0, v), (0, a), (0, b)], [], σ) (fun r σ' => r = some (0, if a ≤ v ∧ v ≤ b then 1 else 0) ∧ σ' = σ) := by
  refine TT.steps (cd := cd128) 3 (c' := ((if decide (v < a) = true then 8 else 3), [(0, v), (0, a), (0, b)], [], σ)) rfl rfl ?_
  refine TT.br (p := v < a) (fun h1 => ?_) (fun h1 => ?_)
  · refine TT.steps (cd := cd128) 1 (c' := (9, [(0, v), (0, a), (0, b)], [(0, 0)], σ)) rfl rfl ?_
    exact TT.ret (cd := cd128) rfl rfl rfl rfl (by refine ⟨?_, rfl⟩; simp [*]; try omega)
  · refine TT.steps (cd := cd128) 3 (c' := ((if decide (b < v) = true then 8 else 6), [(0, v), (0, a), (0, b)], [], σ)) rfl rfl ?_
    refine TT.br (p := b < v) (fun h2 => ?_) (fun h2 => ?_)
    · refine TT.steps (cd := cd128) 1 (c' := (9, [(0, v), (0, a), (0, b)], [(0, 0)], σ)) rfl rfl ?_
      exact TT.ret (cd := cd128) rfl rfl rfl rfl (by refine ⟨?_, rfl⟩; simp [*]; try omega)
    · refine TT.steps (cd := cd128) 2 (c' := (9, [(0, v), (0, a), (0, b)], [(0, 1)], σ)) rfl rfl ?_
      exact TT.ret (cd := cd128) rfl rfl rfl rfl (by refine ⟨?_, rfl⟩; simp [*]; try omega)
theorem t_isStation (X : AX) (s : Int) (σ : AH) {b : Nat} (hb : σ 295 13 = (b : Int)) (hb2 : b < 2) : TT X 161 (0, [(2, 295), (0, s)], [], σ) (fun r σ' => r = some (0, if 0 ≤ s ∧ s < σ 297 b then 1 else 0) ∧ σ' = σ) := by
  refine TT.steps (cd := cd161) 2 (c' := ((if decide (s < 0) = true then 11 else 2), [(2, 295), (0, s)], [], σ)) rfl rfl ?_
  refine TT.br (p := s < 0) (fun h1 => ?_) (fun h1 => ?_)
  · refine TT.steps (cd := cd161) 1 (c' := (12, [(2, 295), (0, s)], [(0, 0)], σ)) rfl rfl ?_
    exact TT.ret (cd := cd161) rfl rfl rfl rfl (by refine ⟨?_, rfl⟩; simp [*]; try omega)
  · refine TT.steps (cd := cd161) 5 (c' := (7, [(2, 295), (0, s)], [(0, (σ 295 13)), (2, 297), (0, s)], σ)) rfl rfl ?_
    refine TT.top0 (z := ((b : Nat) : Int)) hb ?_
    refine TT.aldN (cd := cd161) (297) (b) rfl rfl rfl rfl (show b < 2 by omega) ?_
    refine TT.steps (cd := cd161) 1 (c' := ((if decide ((σ 297 b) ≤ s) = true then 11 else 9), [(2, 295), (0, s)], [], σ)) rfl rfl ?_
    refine TT.br (p := (σ 297 b) ≤ s) (fun h2 => ?_) (fun h2 => ?_)
    · refine TT.steps (cd := cd161) 1 (c' := (12, [(2, 295), (0, s)], [(0, 0)], σ)) rfl rfl ?_
      exact TT.ret (cd := cd161) rfl rfl rfl rfl (by refine ⟨?_, rfl⟩; simp [*]; try omega)
    · refine TT.steps (cd := cd161) 2 (c' := (12, [(2, 295), (0, s)], [(0, 1)], σ)) rfl rfl ?_
      exact TT.ret (cd := cd161) rfl rfl rfl rfl (by refine ⟨?_, rfl⟩; simp [*]; try omega)
theorem t_isTrain (X : AX) (s : Int) (σ : AH) {b : Nat} (hb : σ 295 13 = (b : Int)) (hb2 : b < 2) : TT X 162 (0, [(2, 295), (0, s)], [], σ) (fun r σ' => r = some (0, if 0 ≤ s ∧ s < σ 300 b then 1 else 0) ∧ σ' = σ) := by
  refine TT.steps (cd := cd162) 2 (c' := ((if decide (s < 0) = true then 11 else 2), [(2, 295), (0, s)], [], σ)) rfl rfl ?_
  refine TT.br (p := s < 0) (fun h1 => ?_) (fun h1 => ?_)
  · refine TT.steps (cd := cd162) 1 (c' := (12, [(2, 295), (0, s)], [(0, 0)], σ)) rfl rfl ?_
    exact TT.ret (cd := cd162) rfl rfl rfl rfl (by refine ⟨?_, rfl⟩; simp [*]; try omega)
  · refine TT.steps (cd := cd162) 5 (c' := (7, [(2, 295), (0, s)], [(0, (σ 295 13)), (2, 300), (0, s)], σ)) rfl rfl ?_
    refine TT.top0 (z := ((b : Nat) : Int)) hb ?_
    refine TT.aldN (cd := cd162) (300) (b) rfl rfl rfl rfl (show b < 2 by omega) ?_
    refine TT.steps (cd := cd162) 1 (c' := ((if decide ((σ 300 b) ≤ s) = true then 11 else 9), [(2, 295), (0, s)], [], σ)) rfl rfl ?_
    refine TT.br (p := (σ 300 b) ≤ s) (fun h2 => ?_) (fun h2 => ?_)
    · refine TT.steps (cd := cd162) 1 (c' := (12, [(2, 295), (0, s)], [(0, 0)], σ)) rfl rfl ?_
      exact TT.ret (cd := cd162) rfl rfl rfl rfl (by refine ⟨?_, rfl⟩; simp [*]; try omega)
    · refine TT.steps (cd := cd162) 2 (c' := (12, [(2, 295), (0, s)], [(0, 1)], σ)) rfl rfl ?_
      exact TT.ret (cd := cd162) rfl rfl rfl rfl (by refine ⟨?_, rfl⟩; simp [*]; try omega)
theorem t_isPerson (X : AX) (s : Int) (σ : AH) {b : Nat} (hb : σ 295 13 = (b : Int)) (hb2 : b < 2) : TT X 163 (0, [(2, 295), (0, s)], [], σ) (fun r σ' => r = some (0, if 0 ≤ s ∧ s < σ 307 b then 1 else 0) ∧ σ' = σ) := by
  refine TT.steps (cd := cd163) 2 (c' := ((if decide (s < 0) = true then 11 else 2), [(2, 295), (0, s)], [], σ)) rfl rfl ?_
  refine TT.br (p := s < 0) (fun h1 => ?_) (fun h1 => ?_)
  · refine TT.steps (cd := cd163) 1 (c' := (12, [(2, 295), (0, s)], [(0, 0)], σ)) rfl rfl ?_
    exact TT.ret (cd := cd163) rfl rfl rfl rfl (by refine ⟨?_, rfl⟩; simp [*]; try omega)
  · refine TT.steps (cd := cd163) 5 (c' := (7, [(2, 295), (0, s)], [(0, (σ 295 13)), (2, 307), (0, s)], σ)) rfl rfl ?_
    refine TT.top0 (z := ((b : Nat) : Int)) hb ?_
    refine TT.aldN (cd := cd163) (307) (b) rfl rfl rfl rfl (show b < 2 by omega) ?_
    refine TT.steps (cd := cd163) 1 (c' := ((if decide ((σ 307 b) ≤ s) = true then 11 else 9), [(2, 295), (0, s)], [], σ)) rfl rfl ?_
    refine TT.br (p := (σ 307 b) ≤ s) (fun h2 => ?_) (fun h2 => ?_)
    · refine TT.steps (cd := cd163) 1 (c' := (12, [(2, 295), (0, s)], [(0, 0)], σ)) rfl rfl ?_
      exact TT.ret (cd := cd163) rfl rfl rfl rfl (by refine ⟨?_, rfl⟩; simp [*]; try omega)
    · refine TT.steps (cd := cd163) 2 (c' := (12, [(2, 295), (0, s)], [(0, 1)], σ)) rfl rfl ?_
      exact TT.ret (cd := cd163) rfl rfl rfl rfl (by refine ⟨?_, rfl⟩; simp [*]; try omega)
