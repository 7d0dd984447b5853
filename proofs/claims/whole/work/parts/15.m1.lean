theorem t_is (X : AX) (v a b : Int) (σ : AH) : TT X 0 (0, [(0, v), (0, a), (0, b)], [], σ) (fun r σ' => r = some (0, if a ≤ v ∧ v ≤ b then 1 else 0) ∧ σ' = σ) := by
  refine TT.steps (cd := cd0) 3 (c' := ((if decide (v < a) = true then 8 else 3), [(0, v), (0, a), (0, b)], [], σ)) rfl rfl ?_
  refine TT.br (p := v < a) (fun h1 => ?_) (fun h1 => ?_)
  · refine TT.steps (cd := cd0) 1 (c' := (9, [(0, v), (0, a), (0, b)], [(0, 0)], σ)) rfl rfl ?_
    exact TT.ret (cd := cd0) rfl rfl rfl rfl (by refine ⟨?_, rfl⟩; simp [*]; try omega)
  · refine TT.steps (cd := cd0) 3 (c' := ((if decide (b < v) = true then 8 else 6), [(0, v), (0, a), (0, b)], [], σ)) rfl rfl ?_
    refine TT.br (p := b < v) (fun h2 => ?_) (fun h2 => ?_)
    · refine TT.steps (cd := cd0) 1 (c' := (9, [(0, v), (0, a), (0, b)], [(0, 0)], σ)) rfl rfl ?_
      exact TT.ret (cd := cd0) rfl rfl rfl rfl (by refine ⟨?_, rfl⟩; simp [*]; try omega)
    · refine TT.steps (cd := cd0) 2 (c' := (9, [(0, v), (0, a), (0, b)], [(0, 1)], σ)) rfl rfl ?_
      exact TT.ret (cd := cd0) rfl rfl rfl rfl (by refine ⟨?_, rfl⟩; simp [*]; try omega)
theorem t_isStation (X : AX) (s : Int) (σ : AH) {b : Nat} (hb : σ 295 13 = (b : Int)) (hb2 : b < 2) : TT X 33 (0, [(2, 295), (0, s)], [], σ) (fun r σ' => r = some (0, if 0 ≤ s ∧ s < σ 297 b then 1 else 0) ∧ σ' = σ) := by
  refine TT.steps (cd := cd33) 2 (c' := ((if decide (s < 0) = true then 11 else 2), [(2, 295), (0, s)], [], σ)) rfl rfl ?_
  refine TT.br (p := s < 0) (fun h1 => ?_) (fun h1 => ?_)
  · refine TT.steps (cd := cd33) 1 (c' := (12, [(2, 295), (0, s)], [(0, 0)], σ)) rfl rfl ?_
    exact TT.ret (cd := cd33) rfl rfl rfl rfl (by refine ⟨?_, rfl⟩; simp [*]; try omega)
  · refine TT.steps (cd := cd33) 5 (c' := (7, [(2, 295), (0, s)], [(0, (σ 295 13)), (2, 297), (0, s)], σ)) rfl rfl ?_
    refine TT.top0 (z := ((b : Nat) : Int)) hb ?_
    refine TT.aldN (cd := cd33) (297) (b) rfl rfl rfl rfl (show b < 2 by omega) ?_
    refine TT.steps (cd := cd33) 1 (c' := ((if decide ((σ 297 b) ≤ s) = true then 11 else 9), [(2, 295), (0, s)], [], σ)) rfl rfl ?_
    refine TT.br (p := (σ 297 b) ≤ s) (fun h2 => ?_) (fun h2 => ?_)
    · refine TT.steps (cd := cd33) 1 (c' := (12, [(2, 295), (0, s)], [(0, 0)], σ)) rfl rfl ?_
      exact TT.ret (cd := cd33) rfl rfl rfl rfl (by refine ⟨?_, rfl⟩; simp [*]; try omega)
    · refine TT.steps (cd := cd33) 2 (c' := (12, [(2, 295), (0, s)], [(0, 1)], σ)) rfl rfl ?_
      exact TT.ret (cd := cd33) rfl rfl rfl rfl (by refine ⟨?_, rfl⟩; simp [*]; try omega)
theorem t_isTrain (X : AX) (s : Int) (σ : AH) {b : Nat} (hb : σ 295 13 = (b : Int)) (hb2 : b < 2) : TT X 34 (0, [(2, 295), (0, s)], [], σ) (fun r σ' => r = some (0, if 0 ≤ s ∧ s < σ 300 b then 1 else 0) ∧ σ' = σ) := by
  refine TT.steps (cd := cd34) 2 (c' := ((if decide (s < 0) = true then 11 else 2), [(2, 295), (0, s)], [], σ)) rfl rfl ?_
  refine TT.br (p := s < 0) (fun h1 => ?_) (fun h1 => ?_)
  · refine TT.steps (cd := cd34) 1 (c' := (12, [(2, 295), (0, s)], [(0, 0)], σ)) rfl rfl ?_
    exact TT.ret (cd := cd34) rfl rfl rfl rfl (by refine ⟨?_, rfl⟩; simp [*]; try omega)
  · refine TT.steps (cd := cd34) 5 (c' := (7, [(2, 295), (0, s)], [(0, (σ 295 13)), (2, 300), (0, s)], σ)) rfl rfl ?_
    refine TT.top0 (z := ((b : Nat) : Int)) hb ?_
    refine TT.aldN (cd := cd34) (300) (b) rfl rfl rfl rfl (show b < 2 by omega) ?_
    refine TT.steps (cd := cd34) 1 (c' := ((if decide ((σ 300 b) ≤ s) = true then 11 else 9), [(2, 295), (0, s)], [], σ)) rfl rfl ?_
    refine TT.br (p := (σ 300 b) ≤ s) (fun h2 => ?_) (fun h2 => ?_)
    · refine TT.steps (cd := cd34) 1 (c' := (12, [(2, 295), (0, s)], [(0, 0)], σ)) rfl rfl ?_
      exact TT.ret (cd := cd34) rfl rfl rfl rfl (by refine ⟨?_, rfl⟩; simp [*]; try omega)
    · refine TT.steps (cd := cd34) 2 (c' := (12, [(2, 295), (0, s)], [(0, 1)], σ)) rfl rfl ?_
      exact TT.ret (cd := cd34) rfl rfl rfl rfl (by refine ⟨?_, rfl⟩; simp [*]; try omega)
theorem t_isPerson (X : AX) (s : Int) (σ : AH) {b : Nat} (hb : σ 295 13 = (b : Int)) (hb2 : b < 2) : TT X 35 (0, [(2, 295), (0, s)], [], σ) (fun r σ' => r = some (0, if 0 ≤ s ∧ s < σ 307 b then 1 else 0) ∧ σ' = σ) := by
  refine TT.steps (cd := cd35) 2 (c' := ((if decide (s < 0) = true then 11 else 2), [(2, 295), (0, s)], [], σ)) rfl rfl ?_
  refine TT.br (p := s < 0) (fun h1 => ?_) (fun h1 => ?_)
  · refine TT.steps (cd := cd35) 1 (c' := (12, [(2, 295), (0, s)], [(0, 0)], σ)) rfl rfl ?_
    exact TT.ret (cd := cd35) rfl rfl rfl rfl (by refine ⟨?_, rfl⟩; simp [*]; try omega)
  · refine TT.steps (cd := cd35) 5 (c' := (7, [(2, 295), (0, s)], [(0, (σ 295 13)), (2, 307), (0, s)], σ)) rfl rfl ?_
    refine TT.top0 (z := ((b : Nat) : Int)) hb ?_
    refine TT.aldN (cd := cd35) (307) (b) rfl rfl rfl rfl (show b < 2 by omega) ?_
    refine TT.steps (cd := cd35) 1 (c' := ((if decide ((σ 307 b) ≤ s) = true then 11 else 9), [(2, 295), (0, s)], [], σ)) rfl rfl ?_
    refine TT.br (p := (σ 307 b) ≤ s) (fun h2 => ?_) (fun h2 => ?_)
    · refine TT.steps (cd := cd35) 1 (c' := (12, [(2, 295), (0, s)], [(0, 0)], σ)) rfl rfl ?_
      exact TT.ret (cd := cd35) rfl rfl rfl rfl (by refine ⟨?_, rfl⟩; simp [*]; try omega)
    · refine TT.steps (cd := cd35) 2 (c' := (12, [(2, 295), (0, s)], [(0, 1)], σ)) rfl rfl ?_
      exact TT.ret (cd := cd35) rfl rfl rfl rfl (by refine ⟨?_, rfl⟩; simp [*]; try omega)
theorem t_priceOf (X : AX) (p : Nat) (hp : p < 10) (σ : AH) {b : Nat} (hb : σ 295 13 = (b : Int)) (hb2 : b < 2) : TT X 36 (0, [(2, 295), (0, ((p : Nat) : Int))], [], σ) (fun r σ' => r = some (0, σ 314 (10 * b + p)) ∧ σ' = σ) := by
  refine TT.steps (cd := cd36) 5 (c' := (5, [(2, 295), (0, ((p : Nat) : Int))], [(0, (σ 295 13)), (0, 10), (2, 314)], σ)) rfl rfl ?_
  refine TT.top0 (z := ((b : Nat) : Int)) hb ?_
  refine TT.steps (cd := cd36) 1 (c' := (6, [(2, 295), (0, ((p : Nat) : Int))], [(0, (aMul 10 ((b : Nat) : Int))), (2, 314)], σ)) rfl rfl ?_
  refine TT.top0 (z := ((10 * b : Nat) : Int)) (aMul_n (a := 10) (b := b) (by omega)) ?_
  refine TT.steps (cd := cd36) 2 (c' := (8, [(2, 295), (0, ((p : Nat) : Int))], [(0, (aAdd ((10 * b : Nat) : Int) ((p : Nat) : Int))), (2, 314)], σ)) rfl rfl ?_
  refine TT.top0 (z := (((10 * b) + p : Nat) : Int)) (aAdd_n (a := 10 * b) (b := p) (by omega)) ?_
  refine TT.aldN (cd := cd36) (314) ((10 * b) + p) rfl rfl rfl rfl (show (10 * b) + p < 20 by omega) ?_
  exact TT.ret (cd := cd36) rfl rfl rfl rfl (by refine ⟨?_, rfl⟩; simp [*]; try omega)
theorem t_callsOf (X : AX) (t : Nat) (ht : t < 6) (σ : AH) {b : Nat} (hb : σ 295 13 = (b : Int)) (hb2 : b < 2) : TT X 37 (0, [(2, 295), (0, ((t : Nat) : Int))], [], σ) (fun r σ' => r = some (0, σ 304 (6 * b + t)) ∧ σ' = σ) := by
  refine TT.steps (cd := cd37) 5 (c' := (5, [(2, 295), (0, ((t : Nat) : Int))], [(0, (σ 295 13)), (0, 6), (2, 304)], σ)) rfl rfl ?_
  refine TT.top0 (z := ((b : Nat) : Int)) hb ?_
  refine TT.steps (cd := cd37) 1 (c' := (6, [(2, 295), (0, ((t : Nat) : Int))], [(0, (aMul 6 ((b : Nat) : Int))), (2, 304)], σ)) rfl rfl ?_
  refine TT.top0 (z := ((6 * b : Nat) : Int)) (aMul_n (a := 6) (b := b) (by omega)) ?_
  refine TT.steps (cd := cd37) 2 (c' := (8, [(2, 295), (0, ((t : Nat) : Int))], [(0, (aAdd ((6 * b : Nat) : Int) ((t : Nat) : Int))), (2, 304)], σ)) rfl rfl ?_
  refine TT.top0 (z := (((6 * b) + t : Nat) : Int)) (aAdd_n (a := 6 * b) (b := t) (by omega)) ?_
  refine TT.aldN (cd := cd37) (304) ((6 * b) + t) rfl rfl rfl rfl (show (6 * b) + t < 12 by omega) ?_
  exact TT.ret (cd := cd37) rfl rfl rfl rfl (by refine ⟨?_, rfl⟩; simp [*]; try omega)
theorem t_callOf (X : AX) (t k : Nat) (ht : t < 6) (hk : k < 8) (σ : AH) {b : Nat} (hb : σ 295 13 = (b : Int)) (hb2 : b < 2) : TT X 38 (0, [(2, 295), (0, ((t : Nat) : Int)), (0, ((k : Nat) : Int))], [], σ) (fun r σ' => r = some (0, σ 305 (8 * (6 * b + t) + k)) ∧ σ' = σ) := by
  refine TT.steps (cd := cd38) 6 (c' := (6, [(2, 295), (0, ((t : Nat) : Int)), (0, ((k : Nat) : Int))], [(0, (σ 295 13)), (0, 6), (0, 8), (2, 305)], σ)) rfl rfl ?_
  refine TT.top0 (z := ((b : Nat) : Int)) hb ?_
  refine TT.steps (cd := cd38) 1 (c' := (7, [(2, 295), (0, ((t : Nat) : Int)), (0, ((k : Nat) : Int))], [(0, (aMul 6 ((b : Nat) : Int))), (0, 8), (2, 305)], σ)) rfl rfl ?_
  refine TT.top0 (z := ((6 * b : Nat) : Int)) (aMul_n (a := 6) (b := b) (by omega)) ?_
  refine TT.steps (cd := cd38) 2 (c' := (9, [(2, 295), (0, ((t : Nat) : Int)), (0, ((k : Nat) : Int))], [(0, (aAdd ((6 * b : Nat) : Int) ((t : Nat) : Int))), (0, 8), (2, 305)], σ)) rfl rfl ?_
  refine TT.top0 (z := (((6 * b) + t : Nat) : Int)) (aAdd_n (a := 6 * b) (b := t) (by omega)) ?_
  refine TT.steps (cd := cd38) 1 (c' := (10, [(2, 295), (0, ((t : Nat) : Int)), (0, ((k : Nat) : Int))], [(0, (aMul 8 (((6 * b) + t : Nat) : Int))), (2, 305)], σ)) rfl rfl ?_
  refine TT.top0 (z := ((8 * ((6 * b) + t) : Nat) : Int)) (aMul_n (a := 8) (b := (6 * b) + t) (by omega)) ?_
  refine TT.steps (cd := cd38) 2 (c' := (12, [(2, 295), (0, ((t : Nat) : Int)), (0, ((k : Nat) : Int))], [(0, (aAdd ((8 * ((6 * b) + t) : Nat) : Int) ((k : Nat) : Int))), (2, 305)], σ)) rfl rfl ?_
  refine TT.top0 (z := (((8 * ((6 * b) + t)) + k : Nat) : Int)) (aAdd_n (a := 8 * ((6 * b) + t)) (b := k) (by omega)) ?_
  refine TT.aldN (cd := cd38) (305) ((8 * ((6 * b) + t)) + k) rfl rfl rfl rfl (show (8 * ((6 * b) + t)) + k < 96 by omega) ?_
  exact TT.ret (cd := cd38) rfl rfl rfl rfl (by refine ⟨?_, rfl⟩; simp [*]; try omega)
theorem t_afterOf (X : AX) (t k : Nat) (ht : t < 6) (hk : k < 8) (σ : AH) {b : Nat} (hb : σ 295 13 = (b : Int)) (hb2 : b < 2) : TT X 39 (0, [(2, 295), (0, ((t : Nat) : Int)), (0, ((k : Nat) : Int))], [], σ) (fun r σ' => r = some (0, σ 306 (8 * (6 * b + t) + k)) ∧ σ' = σ) := by
  refine TT.steps (cd := cd39) 6 (c' := (6, [(2, 295), (0, ((t : Nat) : Int)), (0, ((k : Nat) : Int))], [(0, (σ 295 13)), (0, 6), (0, 8), (2, 306)], σ)) rfl rfl ?_
  refine TT.top0 (z := ((b : Nat) : Int)) hb ?_
  refine TT.steps (cd := cd39) 1 (c' := (7, [(2, 295), (0, ((t : Nat) : Int)), (0, ((k : Nat) : Int))], [(0, (aMul 6 ((b : Nat) : Int))), (0, 8), (2, 306)], σ)) rfl rfl ?_
  refine TT.top0 (z := ((6 * b : Nat) : Int)) (aMul_n (a := 6) (b := b) (by omega)) ?_
  refine TT.steps (cd := cd39) 2 (c' := (9, [(2, 295), (0, ((t : Nat) : Int)), (0, ((k : Nat) : Int))], [(0, (aAdd ((6 * b : Nat) : Int) ((t : Nat) : Int))), (0, 8), (2, 306)], σ)) rfl rfl ?_
  refine TT.top0 (z := (((6 * b) + t : Nat) : Int)) (aAdd_n (a := 6 * b) (b := t) (by omega)) ?_
  refine TT.steps (cd := cd39) 1 (c' := (10, [(2, 295), (0, ((t : Nat) : Int)), (0, ((k : Nat) : Int))], [(0, (aMul 8 (((6 * b) + t : Nat) : Int))), (2, 306)], σ)) rfl rfl ?_
  refine TT.top0 (z := ((8 * ((6 * b) + t) : Nat) : Int)) (aMul_n (a := 8) (b := (6 * b) + t) (by omega)) ?_
  refine TT.steps (cd := cd39) 2 (c' := (12, [(2, 295), (0, ((t : Nat) : Int)), (0, ((k : Nat) : Int))], [(0, (aAdd ((8 * ((6 * b) + t) : Nat) : Int) ((k : Nat) : Int))), (2, 306)], σ)) rfl rfl ?_
  refine TT.top0 (z := (((8 * ((6 * b) + t)) + k : Nat) : Int)) (aAdd_n (a := 8 * ((6 * b) + t)) (b := k) (by omega)) ?_
  refine TT.aldN (cd := cd39) (306) ((8 * ((6 * b) + t)) + k) rfl rfl rfl rfl (show (8 * ((6 * b) + t)) + k < 96 by omega) ?_
  exact TT.ret (cd := cd39) rfl rfl rfl rfl (by refine ⟨?_, rfl⟩; simp [*]; try omega)
theorem t_isHired (X : AX) (p : Nat) (hp : p < 10) (σ : AH) {v : Nat} (hv : σ 295 46 = (v : Int)) (hv2 : v < 22) : TT X 45 (0, [(2, 295), (0, ((p : Nat) : Int))], [], σ) (fun r σ' => r = some (0, if σ 322 (10 * v + p) = 1 then 1 else 0) ∧ σ' = σ) := by
  refine TT.steps (cd := cd45) 5 (c' := (5, [(2, 295), (0, ((p : Nat) : Int))], [(0, (σ 295 46)), (0, 10), (2, 322)], σ)) rfl rfl ?_
  refine TT.top0 (z := ((v : Nat) : Int)) hv ?_
  refine TT.steps (cd := cd45) 1 (c' := (6, [(2, 295), (0, ((p : Nat) : Int))], [(0, (aMul 10 ((v : Nat) : Int))), (2, 322)], σ)) rfl rfl ?_
  refine TT.top0 (z := ((10 * v : Nat) : Int)) (aMul_n (a := 10) (b := v) (by omega)) ?_
  refine TT.steps (cd := cd45) 2 (c' := (8, [(2, 295), (0, ((p : Nat) : Int))], [(0, (aAdd ((10 * v : Nat) : Int) ((p : Nat) : Int))), (2, 322)], σ)) rfl rfl ?_
  refine TT.top0 (z := (((10 * v) + p : Nat) : Int)) (aAdd_n (a := 10 * v) (b := p) (by omega)) ?_
  refine TT.aldN (cd := cd45) (322) ((10 * v) + p) rfl rfl rfl rfl (show (10 * v) + p < 220 by omega) ?_
  refine TT.steps (cd := cd45) 2 (c' := ((if decide (¬ (σ 322 ((10 * v) + p)) = 1) = true then 13 else 11), [(2, 295), (0, ((p : Nat) : Int))], [], σ)) rfl rfl ?_
  refine TT.br (p := ¬ (σ 322 ((10 * v) + p)) = 1) (fun h1 => ?_) (fun h1 => ?_)
  · refine TT.steps (cd := cd45) 1 (c' := (14, [(2, 295), (0, ((p : Nat) : Int))], [(0, 0)], σ)) rfl rfl ?_
    exact TT.ret (cd := cd45) rfl rfl rfl rfl (by refine ⟨?_, rfl⟩; simp [*]; try omega)
  · refine TT.steps (cd := cd45) 2 (c' := (14, [(2, 295), (0, ((p : Nat) : Int))], [(0, 1)], σ)) rfl rfl ?_
    exact TT.ret (cd := cd45) rfl rfl rfl rfl (by refine ⟨?_, rfl⟩; simp [*]; try omega)
theorem t_wishOf (X : AX) (p : Nat) (hp : p < 10) (σ : AH) {v : Nat} (hv : σ 295 46 = (v : Int)) (hv2 : v < 22) : TT X 46 (0, [(2, 295), (0, ((p : Nat) : Int))], [], σ) (fun r σ' => r = some (0, σ 321 (10 * v + p)) ∧ σ' = σ) := by
  refine TT.steps (cd := cd46) 5 (c' := (5, [(2, 295), (0, ((p : Nat) : Int))], [(0, (σ 295 46)), (0, 10), (2, 321)], σ)) rfl rfl ?_
  refine TT.top0 (z := ((v : Nat) : Int)) hv ?_
  refine TT.steps (cd := cd46) 1 (c' := (6, [(2, 295), (0, ((p : Nat) : Int))], [(0, (aMul 10 ((v : Nat) : Int))), (2, 321)], σ)) rfl rfl ?_
  refine TT.top0 (z := ((10 * v : Nat) : Int)) (aMul_n (a := 10) (b := v) (by omega)) ?_
  refine TT.steps (cd := cd46) 2 (c' := (8, [(2, 295), (0, ((p : Nat) : Int))], [(0, (aAdd ((10 * v : Nat) : Int) ((p : Nat) : Int))), (2, 321)], σ)) rfl rfl ?_
  refine TT.top0 (z := (((10 * v) + p : Nat) : Int)) (aAdd_n (a := 10 * v) (b := p) (by omega)) ?_
  refine TT.aldN (cd := cd46) (321) ((10 * v) + p) rfl rfl rfl rfl (show (10 * v) + p < 220 by omega) ?_
  exact TT.ret (cd := cd46) rfl rfl rfl rfl (by refine ⟨?_, rfl⟩; simp [*]; try omega)
theorem t_isBornAt (X : AX) (p : Nat) (hp : p < 10) (s : Int) (σ : AH) {v : Nat} (hv : σ 295 46 = (v : Int)) (hv2 : v < 22) : TT X 47 (0, [(2, 295), (0, ((p : Nat) : Int)), (0, s)], [], σ) (fun r σ' => r = some (0, if σ 318 (10 * v + p) = s ∧ σ 319 (10 * v + p) = -1 then 1 else 0) ∧ σ' = σ) := by
  refine TT.steps (cd := cd47) 5 (c' := (5, [(2, 295), (0, ((p : Nat) : Int)), (0, s)], [(0, (σ 295 46)), (0, 10), (2, 318)], σ)) rfl rfl ?_
  refine TT.top0 (z := ((v : Nat) : Int)) hv ?_
  refine TT.steps (cd := cd47) 1 (c' := (6, [(2, 295), (0, ((p : Nat) : Int)), (0, s)], [(0, (aMul 10 ((v : Nat) : Int))), (2, 318)], σ)) rfl rfl ?_
  refine TT.top0 (z := ((10 * v : Nat) : Int)) (aMul_n (a := 10) (b := v) (by omega)) ?_
  refine TT.steps (cd := cd47) 2 (c' := (8, [(2, 295), (0, ((p : Nat) : Int)), (0, s)], [(0, (aAdd ((10 * v : Nat) : Int) ((p : Nat) : Int))), (2, 318)], σ)) rfl rfl ?_
  refine TT.top0 (z := (((10 * v) + p : Nat) : Int)) (aAdd_n (a := 10 * v) (b := p) (by omega)) ?_
  refine TT.aldN (cd := cd47) (318) ((10 * v) + p) rfl rfl rfl rfl (show (10 * v) + p < 220 by omega) ?_
  refine TT.steps (cd := cd47) 2 (c' := ((if decide (¬ (σ 318 ((10 * v) + p)) = s) = true then 24 else 11), [(2, 295), (0, ((p : Nat) : Int)), (0, s)], [], σ)) rfl rfl ?_
  refine TT.br (p := ¬ (σ 318 ((10 * v) + p)) = s) (fun h1 => ?_) (fun h1 => ?_)
  · refine TT.steps (cd := cd47) 1 (c' := (25, [(2, 295), (0, ((p : Nat) : Int)), (0, s)], [(0, 0)], σ)) rfl rfl ?_
    exact TT.ret (cd := cd47) rfl rfl rfl rfl (by refine ⟨?_, rfl⟩; simp [*]; try omega)
  · refine TT.steps (cd := cd47) 5 (c' := (16, [(2, 295), (0, ((p : Nat) : Int)), (0, s)], [(0, (σ 295 46)), (0, 10), (2, 319)], σ)) rfl rfl ?_
    refine TT.top0 (z := ((v : Nat) : Int)) hv ?_
    refine TT.steps (cd := cd47) 1 (c' := (17, [(2, 295), (0, ((p : Nat) : Int)), (0, s)], [(0, (aMul 10 ((v : Nat) : Int))), (2, 319)], σ)) rfl rfl ?_
    refine TT.top0 (z := ((10 * v : Nat) : Int)) (aMul_n (a := 10) (b := v) (by omega)) ?_
    refine TT.steps (cd := cd47) 2 (c' := (19, [(2, 295), (0, ((p : Nat) : Int)), (0, s)], [(0, (aAdd ((10 * v : Nat) : Int) ((p : Nat) : Int))), (2, 319)], σ)) rfl rfl ?_
    refine TT.top0 (z := (((10 * v) + p : Nat) : Int)) (aAdd_n (a := 10 * v) (b := p) (by omega)) ?_
    refine TT.aldN (cd := cd47) (319) ((10 * v) + p) rfl rfl rfl rfl (show (10 * v) + p < 220 by omega) ?_
    refine TT.steps (cd := cd47) 2 (c' := ((if decide (¬ (σ 319 ((10 * v) + p)) = (-1)) = true then 24 else 22), [(2, 295), (0, ((p : Nat) : Int)), (0, s)], [], σ)) rfl rfl ?_
    refine TT.br (p := ¬ (σ 319 ((10 * v) + p)) = (-1)) (fun h2 => ?_) (fun h2 => ?_)
    · refine TT.steps (cd := cd47) 1 (c' := (25, [(2, 295), (0, ((p : Nat) : Int)), (0, s)], [(0, 0)], σ)) rfl rfl ?_
      exact TT.ret (cd := cd47) rfl rfl rfl rfl (by refine ⟨?_, rfl⟩; simp [*]; try omega)
    · refine TT.steps (cd := cd47) 2 (c' := (25, [(2, 295), (0, ((p : Nat) : Int)), (0, s)], [(0, 1)], σ)) rfl rfl ?_
      exact TT.ret (cd := cd47) rfl rfl rfl rfl (by refine ⟨?_, rfl⟩; simp [*]; try omega)
theorem t_isBornBetween (X : AX) (p : Nat) (hp : p < 10) (s u : Int) (σ : AH) {v : Nat} (hv : σ 295 46 = (v : Int)) (hv2 : v < 22) : TT X 48 (0, [(2, 295), (0, ((p : Nat) : Int)), (0, s), (0, u), (9, 0), (9, 0)], [], σ) (fun r σ' => r = some (0, if (σ 318 (10 * v + p) = s ∧ σ 319 (10 * v + p) = u) ∨ (σ 318 (10 * v + p) = u ∧ σ 319 (10 * v + p) = s) then 1 else 0) ∧ σ' = σ) := by
  refine TT.steps (cd := cd48) 5 (c' := (5, [(2, 295), (0, ((p : Nat) : Int)), (0, s), (0, u), (9, 0), (9, 0)], [(0, (σ 295 46)), (0, 10), (2, 318)], σ)) rfl rfl ?_
  refine TT.top0 (z := ((v : Nat) : Int)) hv ?_
  refine TT.steps (cd := cd48) 1 (c' := (6, [(2, 295), (0, ((p : Nat) : Int)), (0, s), (0, u), (9, 0), (9, 0)], [(0, (aMul 10 ((v : Nat) : Int))), (2, 318)], σ)) rfl rfl ?_
  refine TT.top0 (z := ((10 * v : Nat) : Int)) (aMul_n (a := 10) (b := v) (by omega)) ?_
  refine TT.steps (cd := cd48) 2 (c' := (8, [(2, 295), (0, ((p : Nat) : Int)), (0, s), (0, u), (9, 0), (9, 0)], [(0, (aAdd ((10 * v : Nat) : Int) ((p : Nat) : Int))), (2, 318)], σ)) rfl rfl ?_
  refine TT.top0 (z := (((10 * v) + p : Nat) : Int)) (aAdd_n (a := 10 * v) (b := p) (by omega)) ?_
  refine TT.aldN (cd := cd48) (318) ((10 * v) + p) rfl rfl rfl rfl (show (10 * v) + p < 220 by omega) ?_
  refine TT.steps (cd := cd48) 6 (c' := (15, [(2, 295), (0, ((p : Nat) : Int)), (0, s), (0, u), (0, (σ 318 ((10 * v) + p))), (9, 0)], [(0, (σ 295 46)), (0, 10), (2, 319)], σ)) rfl rfl ?_
  refine TT.top0 (z := ((v : Nat) : Int)) hv ?_
  refine TT.steps (cd := cd48) 1 (c' := (16, [(2, 295), (0, ((p : Nat) : Int)), (0, s), (0, u), (0, (σ 318 ((10 * v) + p))), (9, 0)], [(0, (aMul 10 ((v : Nat) : Int))), (2, 319)], σ)) rfl rfl ?_
  refine TT.top0 (z := ((10 * v : Nat) : Int)) (aMul_n (a := 10) (b := v) (by omega)) ?_
  refine TT.steps (cd := cd48) 2 (c' := (18, [(2, 295), (0, ((p : Nat) : Int)), (0, s), (0, u), (0, (σ 318 ((10 * v) + p))), (9, 0)], [(0, (aAdd ((10 * v : Nat) : Int) ((p : Nat) : Int))), (2, 319)], σ)) rfl rfl ?_
  refine TT.top0 (z := (((10 * v) + p : Nat) : Int)) (aAdd_n (a := 10 * v) (b := p) (by omega)) ?_
  refine TT.aldN (cd := cd48) (319) ((10 * v) + p) rfl rfl rfl rfl (show (10 * v) + p < 220 by omega) ?_
  refine TT.steps (cd := cd48) 4 (c' := ((if decide (¬ (σ 318 ((10 * v) + p)) = s) = true then 26 else 23), [(2, 295), (0, ((p : Nat) : Int)), (0, s), (0, u), (0, (σ 318 ((10 * v) + p))), (0, (σ 319 ((10 * v) + p)))], [], σ)) rfl rfl ?_
  refine TT.br (p := ¬ (σ 318 ((10 * v) + p)) = s) (fun h1 => ?_) (fun h1 => ?_)
  · refine TT.steps (cd := cd48) 3 (c' := ((if decide (¬ (σ 318 ((10 * v) + p)) = u) = true then 34 else 29), [(2, 295), (0, ((p : Nat) : Int)), (0, s), (0, u), (0, (σ 318 ((10 * v) + p))), (0, (σ 319 ((10 * v) + p)))], [], σ)) rfl rfl ?_
    refine TT.br (p := ¬ (σ 318 ((10 * v) + p)) = u) (fun h2 => ?_) (fun h2 => ?_)
    · refine TT.steps (cd := cd48) 1 (c' := (35, [(2, 295), (0, ((p : Nat) : Int)), (0, s), (0, u), (0, (σ 318 ((10 * v) + p))), (0, (σ 319 ((10 * v) + p)))], [(0, 0)], σ)) rfl rfl ?_
      exact TT.ret (cd := cd48) rfl rfl rfl rfl (by refine ⟨?_, rfl⟩; simp [*]; try omega)
    · refine TT.steps (cd := cd48) 3 (c' := ((if decide (¬ (σ 319 ((10 * v) + p)) = s) = true then 34 else 32), [(2, 295), (0, ((p : Nat) : Int)), (0, s), (0, u), (0, (σ 318 ((10 * v) + p))), (0, (σ 319 ((10 * v) + p)))], [], σ)) rfl rfl ?_
      refine TT.br (p := ¬ (σ 319 ((10 * v) + p)) = s) (fun h3 => ?_) (fun h3 => ?_)
      · refine TT.steps (cd := cd48) 1 (c' := (35, [(2, 295), (0, ((p : Nat) : Int)), (0, s), (0, u), (0, (σ 318 ((10 * v) + p))), (0, (σ 319 ((10 * v) + p)))], [(0, 0)], σ)) rfl rfl ?_
        exact TT.ret (cd := cd48) rfl rfl rfl rfl (by refine ⟨?_, rfl⟩; simp [*]; try omega)
      · refine TT.steps (cd := cd48) 2 (c' := (35, [(2, 295), (0, ((p : Nat) : Int)), (0, s), (0, u), (0, (σ 318 ((10 * v) + p))), (0, (σ 319 ((10 * v) + p)))], [(0, 1)], σ)) rfl rfl ?_
        exact TT.ret (cd := cd48) rfl rfl rfl rfl (by refine ⟨?_, rfl⟩; simp [*]; try omega)
  · refine TT.steps (cd := cd48) 3 (c' := ((if decide ((σ 319 ((10 * v) + p)) = u) = true then 32 else 26), [(2, 295), (0, ((p : Nat) : Int)), (0, s), (0, u), (0, (σ 318 ((10 * v) + p))), (0, (σ 319 ((10 * v) + p)))], [], σ)) rfl rfl ?_
    refine TT.br (p := (σ 319 ((10 * v) + p)) = u) (fun h4 => ?_) (fun h4 => ?_)
    · refine TT.steps (cd := cd48) 2 (c' := (35, [(2, 295), (0, ((p : Nat) : Int)), (0, s), (0, u), (0, (σ 318 ((10 * v) + p))), (0, (σ 319 ((10 * v) + p)))], [(0, 1)], σ)) rfl rfl ?_
      exact TT.ret (cd := cd48) rfl rfl rfl rfl (by refine ⟨?_, rfl⟩; simp [*]; try omega)
    · refine TT.steps (cd := cd48) 3 (c' := ((if decide (¬ (σ 318 ((10 * v) + p)) = u) = true then 34 else 29), [(2, 295), (0, ((p : Nat) : Int)), (0, s), (0, u), (0, (σ 318 ((10 * v) + p))), (0, (σ 319 ((10 * v) + p)))], [], σ)) rfl rfl ?_
      refine TT.br (p := ¬ (σ 318 ((10 * v) + p)) = u) (fun h5 => ?_) (fun h5 => ?_)
      · refine TT.steps (cd := cd48) 1 (c' := (35, [(2, 295), (0, ((p : Nat) : Int)), (0, s), (0, u), (0, (σ 318 ((10 * v) + p))), (0, (σ 319 ((10 * v) + p)))], [(0, 0)], σ)) rfl rfl ?_
        exact TT.ret (cd := cd48) rfl rfl rfl rfl (by refine ⟨?_, rfl⟩; simp [*]; try omega)
      · refine TT.steps (cd := cd48) 3 (c' := ((if decide (¬ (σ 319 ((10 * v) + p)) = s) = true then 34 else 32), [(2, 295), (0, ((p : Nat) : Int)), (0, s), (0, u), (0, (σ 318 ((10 * v) + p))), (0, (σ 319 ((10 * v) + p)))], [], σ)) rfl rfl ?_
        refine TT.br (p := ¬ (σ 319 ((10 * v) + p)) = s) (fun h6 => ?_) (fun h6 => ?_)
        · refine TT.steps (cd := cd48) 1 (c' := (35, [(2, 295), (0, ((p : Nat) : Int)), (0, s), (0, u), (0, (σ 318 ((10 * v) + p))), (0, (σ 319 ((10 * v) + p)))], [(0, 0)], σ)) rfl rfl ?_
          exact TT.ret (cd := cd48) rfl rfl rfl rfl (by refine ⟨?_, rfl⟩; simp [*]; try omega)
        · refine TT.steps (cd := cd48) 2 (c' := (35, [(2, 295), (0, ((p : Nat) : Int)), (0, s), (0, u), (0, (σ 318 ((10 * v) + p))), (0, (σ 319 ((10 * v) + p)))], [(0, 1)], σ)) rfl rfl ?_
          exact TT.ret (cd := cd48) rfl rfl rfl rfl (by refine ⟨?_, rfl⟩; simp [*]; try omega)
theorem t_refuses (X : AX) (q : Nat) (hq : q < 6) (σ : AH) : TT X 31 (0, [(2, 295), (0, ((q : Nat) : Int))], [], σ) (fun r σ' => r = some (0, -1) ∧ σ' = up2 σ 315 q (aAdd (σ 315 q) 1)) := by
  refine TT.steps (cd := cd31) 4 (c' := (4, [(2, 295), (0, ((q : Nat) : Int))], [(0, ((q : Nat) : Int)), (2, 315), (0, ((q : Nat) : Int)), (2, 315)], σ)) rfl rfl ?_
  refine TT.aldN (cd := cd31) (315) (q) rfl rfl rfl rfl (show q < 6 by omega) ?_
  refine TT.steps (cd := cd31) 2 (c' := (7, [(2, 295), (0, ((q : Nat) : Int))], [(0, (aAdd (σ 315 q) 1)), (0, ((q : Nat) : Int)), (2, 315)], σ)) rfl rfl ?_
  refine TT.astN (cd := cd31) (315) (q) rfl rfl rfl rfl (show q < 6 by omega) ?_
  refine TT.steps (cd := cd31) 1 (c' := (9, [(2, 295), (0, ((q : Nat) : Int))], [(0, -1)], (up2 σ 315 q (aAdd (σ 315 q) 1)))) rfl rfl ?_
  exact TT.ret (cd := cd31) rfl rfl rfl rfl (⟨rfl, rfl⟩)
theorem t_fault (X : AX) (w : Int) (σ : AH) : TT X 30 (0, [(2, 295), (0, w)], [], σ) (fun r σ' => r = some (0, if w = 0 then σ 295 10 else if w = 1 then σ 295 11 else -1) ∧ σ' = σ) := by
  refine TT.steps (cd := cd30) 2 (c' := ((if decide (¬ w = 0) = true then 5 else 2), [(2, 295), (0, w)], [], σ)) rfl rfl ?_
  refine TT.br (p := ¬ w = 0) (fun h1 => ?_) (fun h1 => ?_)
  · refine TT.steps (cd := cd30) 3 (c' := ((if decide (¬ w = 1) = true then 11 else 8), [(2, 295), (0, w)], [], σ)) rfl rfl ?_
    refine TT.br (p := ¬ w = 1) (fun h2 => ?_) (fun h2 => ?_)
    · refine TT.steps (cd := cd30) 1 (c' := (12, [(2, 295), (0, w)], [(0, -1)], σ)) rfl rfl ?_
      exact TT.ret (cd := cd30) rfl rfl rfl rfl (by refine ⟨?_, rfl⟩; simp [*]; try omega)
    · refine TT.steps (cd := cd30) 3 (c' := (12, [(2, 295), (0, w)], [(0, (σ 295 11))], σ)) rfl rfl ?_
      exact TT.ret (cd := cd30) rfl rfl rfl rfl (by refine ⟨?_, rfl⟩; simp [*]; try omega)
  · refine TT.steps (cd := cd30) 3 (c' := (12, [(2, 295), (0, w)], [(0, (σ 295 10))], σ)) rfl rfl ?_
    exact TT.ret (cd := cd30) rfl rfl rfl rfl (by refine ⟨?_, rfl⟩; simp [*]; try omega)
theorem t_seed (X : AX) (w : Int) (σ : AH) : TT X 77 (0, [(2, 295), (0, w)], [], σ) (fun r σ' => (w < 0 → r = some (0, 0) ∧ σ' = up2 σ 315 5 (aAdd (σ 315 5) 1)) ∧ (¬ w < 0 → r = some (0, 1) ∧ σ' = up2 σ 295 43 (bI2l w))) := by
  refine TT.steps (cd := cd77) 2 (c' := ((if decide (0 ≤ w) = true then 10 else 2), [(2, 295), (0, w)], [], σ)) rfl rfl ?_
  refine TT.br (p := 0 ≤ w) (fun h1 => ?_) (fun h1 => ?_)
  · refine TT.steps (cd := cd77) 3 (c' := (13, [(2, 295), (0, w)], [(1, (bI2l w)), (2, 295)], σ)) rfl rfl ?_
    refine TT.put (cd := cd77) rfl rfl rfl rfl rfl rfl (fun h => absurd h (by decide)) ?_
    refine TT.sg (σ' := (up2 σ 295 43 (bI2l w))) rfl ?_
    refine TT.steps (cd := cd77) 1 (c' := (15, [(2, 295), (0, w)], [(0, 1)], (up2 σ 295 43 (bI2l w)))) rfl rfl ?_
    exact TT.ret (cd := cd77) rfl rfl rfl rfl (by constructor <;> intro hh <;> first | exact ⟨rfl, rfl⟩ | omega)
  · refine TT.steps (cd := cd77) 2 (c' := (4, [(2, 295), (0, w)], [(0, 5), (2, 295)], σ)) rfl rfl ?_
    refine TT.call (cd := cd77) rfl rfl rfl (by decide) rfl (t_refuses X 5 (by omega) σ) (fun r2 σ2 hq => ?_)
    rw [hq.1, hq.2]
    refine TT.steps (cd := cd77) 2 (c' := (9, [(2, 295), (0, w)], [(0, 0)], (up2 σ 315 5 (aAdd (σ 315 5) 1)))) rfl rfl ?_
    exact TT.ret (cd := cd77) rfl rfl rfl rfl (by constructor <;> intro hh <;> first | exact ⟨rfl, rfl⟩ | omega)
