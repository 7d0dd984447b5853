theorem t_hire0 (X : AX) (p z : Int) (np ns u w : Nat) (σ : AH) {b : Nat} (hb : σ 295 13 = (b : Int)) (hb2 : b < 2) (hnp : σ 307 b = (np : Int)) (hnp2 : np ≤ 10) (hns : σ 297 b = (ns : Int)) (hns2 : ns ≤ 14) (hu : σ 295 41 = (u : Int)) (hu2 : u < 20) (hw : σ 295 42 = (w : Int)) (hw2 : w ≤ 20) (hp : ¬ (0 ≤ p ∧ p < (np : Int)))  : TT X 69 (0, [(2, 295), (0, p), (0, z)], [], σ) (fun r σ' => r = some (0, 0) ∧ σ' = up2 σ 315 2 (aAdd (σ 315 2) 1)) := by
  refine TT.steps (cd := cd69) 2 (c' := (2, [(2, 295), (0, p), (0, z)], [(0, p), (2, 295)], σ)) rfl rfl ?_
  refine TT.call (cd := cd69) rfl rfl rfl (by decide) rfl (t_isPerson X p σ hb hb2) (fun r1 σ1 hq => ?_)
  rw [hq.1, hq.2, hnp]
  refine TT.steps (cd := cd69) 1 (c' := ((if decide (((if 0 ≤ p ∧ p < (np : Int) then 1 else 0) : Int) = 0) = true then 19 else 4), [(2, 295), (0, p), (0, z)], [], σ)) rfl rfl ?_
  refine TT.br (p := ((if 0 ≤ p ∧ p < (np : Int) then 1 else 0) : Int) = 0) (fun h2 => ?_) (fun h2 => ?_)
  · replace h2 := ite_f h2
    refine TT.steps (cd := cd69) 2 (c' := (21, [(2, 295), (0, p), (0, z)], [(0, 2), (2, 295)], σ)) rfl rfl ?_
    refine TT.call (cd := cd69) rfl rfl rfl (by decide) rfl (t_refuses X 2 (by omega) σ) (fun r3 σ3 hq => ?_)
    rw [hq.1, hq.2]
    refine TT.steps (cd := cd69) 2 (c' := (26, [(2, 295), (0, p), (0, z)], [(0, 0)], (up2 σ 315 2 (aAdd (σ 315 2) 1)))) rfl rfl ?_
    exact TT.ret (cd := cd69) rfl rfl rfl rfl (⟨rfl, rfl⟩)
  · replace h2 := ite_t h2
    exact absurd (by assumption) hp
theorem t_hire1 (X : AX) (p : Nat) (z : Int) (hz : z = 0 ∨ z = 1) (np ns u w : Nat) (σ : AH) {b : Nat} (hb : σ 295 13 = (b : Int)) (hb2 : b < 2) (hnp : σ 307 b = (np : Int)) (hnp2 : np ≤ 10) (hns : σ 297 b = (ns : Int)) (hns2 : ns ≤ 14) (hu : σ 295 41 = (u : Int)) (hu2 : u < 20) (hw : σ 295 42 = (w : Int)) (hw2 : w ≤ 20) (hp : p < np)  : TT X 69 (0, [(2, 295), (0, ((p : Nat) : Int)), (0, z)], [], σ) (fun r σ' => (σ 314 (10 * b + p) = 0 ∨ (σ 322 p = 1 ∧ z = 1) ∨ (¬ σ 322 p = 1 ∧ z = 0) → r = some (0, 0) ∧ σ' = up2 σ 315 2 (aAdd (σ 315 2) 1)) ∧ (¬ (σ 314 (10 * b + p) = 0 ∨ (σ 322 p = 1 ∧ z = 1) ∨ (¬ σ 322 p = 1 ∧ z = 0)) → r = some (0, 1) ∧ σ' = up2 (mKeep σ u w) 322 p z)) := by
  refine TT.steps (cd := cd69) 2 (c' := (2, [(2, 295), (0, ((p : Nat) : Int)), (0, z)], [(0, ((p : Nat) : Int)), (2, 295)], σ)) rfl rfl ?_
  refine TT.call (cd := cd69) rfl rfl rfl (by decide) rfl (t_isPerson X ((p : Nat) : Int) σ hb hb2) (fun r1 σ1 hq => ?_)
  rw [hq.1, hq.2, hnp]
  refine TT.steps (cd := cd69) 1 (c' := ((if decide (((if 0 ≤ ((p : Nat) : Int) ∧ ((p : Nat) : Int) < (np : Int) then 1 else 0) : Int) = 0) = true then 19 else 4), [(2, 295), (0, ((p : Nat) : Int)), (0, z)], [], σ)) rfl rfl ?_
  refine TT.br (p := ((if 0 ≤ ((p : Nat) : Int) ∧ ((p : Nat) : Int) < (np : Int) then 1 else 0) : Int) = 0) (fun h2 => ?_) (fun h2 => ?_)
  · replace h2 := ite_f h2
    refine TT.steps (cd := cd69) 2 (c' := (21, [(2, 295), (0, ((p : Nat) : Int)), (0, z)], [(0, 2), (2, 295)], σ)) rfl rfl ?_
    refine TT.call (cd := cd69) rfl rfl rfl (by decide) rfl (t_refuses X 2 (by omega) σ) (fun r3 σ3 hq => ?_)
    rw [hq.1, hq.2]
    refine TT.steps (cd := cd69) 2 (c' := (26, [(2, 295), (0, ((p : Nat) : Int)), (0, z)], [(0, 0)], (up2 σ 315 2 (aAdd (σ 315 2) 1)))) rfl rfl ?_
    exact TT.ret (cd := cd69) rfl rfl rfl rfl (⟨fun hh => by first | exact ⟨rfl, rfl⟩ | (exfalso; omega), fun hh => by first | exact ⟨rfl, rfl⟩ | (exfalso; omega) | (refine ⟨rfl, ?_⟩; rw [show z = 1 by omega]) | (refine ⟨rfl, ?_⟩; rw [show z = 0 by omega])⟩)
  · replace h2 := ite_t h2
    refine TT.steps (cd := cd69) 2 (c' := (6, [(2, 295), (0, ((p : Nat) : Int)), (0, z)], [(0, ((p : Nat) : Int)), (2, 295)], σ)) rfl rfl ?_
    refine TT.call (cd := cd69) rfl rfl rfl (by decide) rfl (t_priceOf X p (by omega) σ hb hb2) (fun r4 σ4 hq => ?_)
    rw [hq.1, hq.2]
    refine TT.steps (cd := cd69) 1 (c' := ((if decide ((σ 314 (10 * b + p)) = 0) = true then 19 else 8), [(2, 295), (0, ((p : Nat) : Int)), (0, z)], [], σ)) rfl rfl ?_
    refine TT.br (p := (σ 314 (10 * b + p)) = 0) (fun h5 => ?_) (fun h5 => ?_)
    · refine TT.steps (cd := cd69) 2 (c' := (21, [(2, 295), (0, ((p : Nat) : Int)), (0, z)], [(0, 2), (2, 295)], σ)) rfl rfl ?_
      refine TT.call (cd := cd69) rfl rfl rfl (by decide) rfl (t_refuses X 2 (by omega) σ) (fun r6 σ6 hq => ?_)
      rw [hq.1, hq.2]
      refine TT.steps (cd := cd69) 2 (c' := (26, [(2, 295), (0, ((p : Nat) : Int)), (0, z)], [(0, 0)], (up2 σ 315 2 (aAdd (σ 315 2) 1)))) rfl rfl ?_
      exact TT.ret (cd := cd69) rfl rfl rfl rfl (⟨fun hh => by first | exact ⟨rfl, rfl⟩ | (exfalso; omega), fun hh => by first | exact ⟨rfl, rfl⟩ | (exfalso; omega) | (refine ⟨rfl, ?_⟩; rw [show z = 1 by omega]) | (refine ⟨rfl, ?_⟩; rw [show z = 0 by omega])⟩)
    · refine TT.steps (cd := cd69) 3 (c' := (11, [(2, 295), (0, ((p : Nat) : Int)), (0, z)], [(0, ((p : Nat) : Int)), (2, 322)], σ)) rfl rfl ?_
      refine TT.aldN (cd := cd69) (322) (p) rfl rfl rfl rfl (show p < 220 by omega) ?_
      refine TT.steps (cd := cd69) 2 (c' := ((if decide (¬ (σ 322 p) = 1) = true then 16 else 14), [(2, 295), (0, ((p : Nat) : Int)), (0, z)], [], σ)) rfl rfl ?_
      refine TT.br (p := ¬ (σ 322 p) = 1) (fun h7 => ?_) (fun h7 => ?_)
      · refine TT.steps (cd := cd69) 3 (c' := ((if decide (¬ 0 = z) = true then 27 else 19), [(2, 295), (0, ((p : Nat) : Int)), (0, z)], [], σ)) rfl rfl ?_
        refine TT.br (p := ¬ 0 = z) (fun h8 => ?_) (fun h8 => ?_)
        · refine TT.steps (cd := cd69) 1 (c' := (28, [(2, 295), (0, ((p : Nat) : Int)), (0, z)], [(2, 295)], σ)) rfl rfl ?_
          refine TT.call (cd := cd69) rfl rfl rfl (by decide) rfl (t_keeps X u w σ hu hu2 hw hw2) (fun r9 σ9 hq => ?_)
          rw [hq.1, hq.2]
          refine TT.steps (cd := cd69) 5 (c' := ((if decide (z = 0) = true then 36 else 34), [(2, 295), (0, ((p : Nat) : Int)), (0, z)], [(0, ((p : Nat) : Int)), (2, 322)], (mKeep σ u w))) rfl rfl ?_
          refine TT.br (p := z = 0) (fun h10 => ?_) (fun h10 => ?_)
          · refine TT.steps (cd := cd69) 1 (c' := (37, [(2, 295), (0, ((p : Nat) : Int)), (0, z)], [(0, 0), (0, ((p : Nat) : Int)), (2, 322)], (mKeep σ u w))) rfl rfl ?_
            refine TT.astN (cd := cd69) (322) (p) rfl rfl rfl rfl (show p < 220 by omega) ?_
            refine TT.steps (cd := cd69) 1 (c' := (39, [(2, 295), (0, ((p : Nat) : Int)), (0, z)], [(0, 1)], (up2 (mKeep σ u w) 322 p 0))) rfl rfl ?_
            exact TT.ret (cd := cd69) rfl rfl rfl rfl (⟨fun hh => by first | exact ⟨rfl, rfl⟩ | (exfalso; omega), fun hh => by first | exact ⟨rfl, rfl⟩ | (exfalso; omega) | (refine ⟨rfl, ?_⟩; rw [show z = 1 by omega]) | (refine ⟨rfl, ?_⟩; rw [show z = 0 by omega])⟩)
          · refine TT.steps (cd := cd69) 2 (c' := (37, [(2, 295), (0, ((p : Nat) : Int)), (0, z)], [(0, 1), (0, ((p : Nat) : Int)), (2, 322)], (mKeep σ u w))) rfl rfl ?_
            refine TT.astN (cd := cd69) (322) (p) rfl rfl rfl rfl (show p < 220 by omega) ?_
            refine TT.steps (cd := cd69) 1 (c' := (39, [(2, 295), (0, ((p : Nat) : Int)), (0, z)], [(0, 1)], (up2 (mKeep σ u w) 322 p 1))) rfl rfl ?_
            exact TT.ret (cd := cd69) rfl rfl rfl rfl (⟨fun hh => by first | exact ⟨rfl, rfl⟩ | (exfalso; omega), fun hh => by first | exact ⟨rfl, rfl⟩ | (exfalso; omega) | (refine ⟨rfl, ?_⟩; rw [show z = 1 by omega]) | (refine ⟨rfl, ?_⟩; rw [show z = 0 by omega])⟩)
        · refine TT.steps (cd := cd69) 2 (c' := (21, [(2, 295), (0, ((p : Nat) : Int)), (0, z)], [(0, 2), (2, 295)], σ)) rfl rfl ?_
          refine TT.call (cd := cd69) rfl rfl rfl (by decide) rfl (t_refuses X 2 (by omega) σ) (fun r11 σ11 hq => ?_)
          rw [hq.1, hq.2]
          refine TT.steps (cd := cd69) 2 (c' := (26, [(2, 295), (0, ((p : Nat) : Int)), (0, z)], [(0, 0)], (up2 σ 315 2 (aAdd (σ 315 2) 1)))) rfl rfl ?_
          exact TT.ret (cd := cd69) rfl rfl rfl rfl (⟨fun hh => by first | exact ⟨rfl, rfl⟩ | (exfalso; omega), fun hh => by first | exact ⟨rfl, rfl⟩ | (exfalso; omega) | (refine ⟨rfl, ?_⟩; rw [show z = 1 by omega]) | (refine ⟨rfl, ?_⟩; rw [show z = 0 by omega])⟩)
      · refine TT.steps (cd := cd69) 4 (c' := ((if decide (¬ 1 = z) = true then 27 else 19), [(2, 295), (0, ((p : Nat) : Int)), (0, z)], [], σ)) rfl rfl ?_
        refine TT.br (p := ¬ 1 = z) (fun h12 => ?_) (fun h12 => ?_)
        · refine TT.steps (cd := cd69) 1 (c' := (28, [(2, 295), (0, ((p : Nat) : Int)), (0, z)], [(2, 295)], σ)) rfl rfl ?_
          refine TT.call (cd := cd69) rfl rfl rfl (by decide) rfl (t_keeps X u w σ hu hu2 hw hw2) (fun r13 σ13 hq => ?_)
          rw [hq.1, hq.2]
          refine TT.steps (cd := cd69) 5 (c' := ((if decide (z = 0) = true then 36 else 34), [(2, 295), (0, ((p : Nat) : Int)), (0, z)], [(0, ((p : Nat) : Int)), (2, 322)], (mKeep σ u w))) rfl rfl ?_
          refine TT.br (p := z = 0) (fun h14 => ?_) (fun h14 => ?_)
          · refine TT.steps (cd := cd69) 1 (c' := (37, [(2, 295), (0, ((p : Nat) : Int)), (0, z)], [(0, 0), (0, ((p : Nat) : Int)), (2, 322)], (mKeep σ u w))) rfl rfl ?_
            refine TT.astN (cd := cd69) (322) (p) rfl rfl rfl rfl (show p < 220 by omega) ?_
            refine TT.steps (cd := cd69) 1 (c' := (39, [(2, 295), (0, ((p : Nat) : Int)), (0, z)], [(0, 1)], (up2 (mKeep σ u w) 322 p 0))) rfl rfl ?_
            exact TT.ret (cd := cd69) rfl rfl rfl rfl (⟨fun hh => by first | exact ⟨rfl, rfl⟩ | (exfalso; omega), fun hh => by first | exact ⟨rfl, rfl⟩ | (exfalso; omega) | (refine ⟨rfl, ?_⟩; rw [show z = 1 by omega]) | (refine ⟨rfl, ?_⟩; rw [show z = 0 by omega])⟩)
          · refine TT.steps (cd := cd69) 2 (c' := (37, [(2, 295), (0, ((p : Nat) : Int)), (0, z)], [(0, 1), (0, ((p : Nat) : Int)), (2, 322)], (mKeep σ u w))) rfl rfl ?_
            refine TT.astN (cd := cd69) (322) (p) rfl rfl rfl rfl (show p < 220 by omega) ?_
            refine TT.steps (cd := cd69) 1 (c' := (39, [(2, 295), (0, ((p : Nat) : Int)), (0, z)], [(0, 1)], (up2 (mKeep σ u w) 322 p 1))) rfl rfl ?_
            exact TT.ret (cd := cd69) rfl rfl rfl rfl (⟨fun hh => by first | exact ⟨rfl, rfl⟩ | (exfalso; omega), fun hh => by first | exact ⟨rfl, rfl⟩ | (exfalso; omega) | (refine ⟨rfl, ?_⟩; rw [show z = 1 by omega]) | (refine ⟨rfl, ?_⟩; rw [show z = 0 by omega])⟩)
        · refine TT.steps (cd := cd69) 2 (c' := (21, [(2, 295), (0, ((p : Nat) : Int)), (0, z)], [(0, 2), (2, 295)], σ)) rfl rfl ?_
          refine TT.call (cd := cd69) rfl rfl rfl (by decide) rfl (t_refuses X 2 (by omega) σ) (fun r15 σ15 hq => ?_)
          rw [hq.1, hq.2]
          refine TT.steps (cd := cd69) 2 (c' := (26, [(2, 295), (0, ((p : Nat) : Int)), (0, z)], [(0, 0)], (up2 σ 315 2 (aAdd (σ 315 2) 1)))) rfl rfl ?_
          exact TT.ret (cd := cd69) rfl rfl rfl rfl (⟨fun hh => by first | exact ⟨rfl, rfl⟩ | (exfalso; omega), fun hh => by first | exact ⟨rfl, rfl⟩ | (exfalso; omega) | (refine ⟨rfl, ?_⟩; rw [show z = 1 by omega]) | (refine ⟨rfl, ?_⟩; rw [show z = 0 by omega])⟩)
theorem t_wish0 (X : AX) (p s : Int) (np ns u w : Nat) (σ : AH) {b : Nat} (hb : σ 295 13 = (b : Int)) (hb2 : b < 2) (hnp : σ 307 b = (np : Int)) (hnp2 : np ≤ 10) (hns : σ 297 b = (ns : Int)) (hns2 : ns ≤ 14) (hu : σ 295 41 = (u : Int)) (hu2 : u < 20) (hw : σ 295 42 = (w : Int)) (hw2 : w ≤ 20) (hp : ¬ (0 ≤ p ∧ p < (np : Int)) ∨ ¬ (0 ≤ s ∧ s < (ns : Int)))  : TT X 70 (0, [(2, 295), (0, p), (0, s)], [], σ) (fun r σ' => r = some (0, 0) ∧ σ' = up2 σ 315 2 (aAdd (σ 315 2) 1)) := by
  refine TT.steps (cd := cd70) 2 (c' := (2, [(2, 295), (0, p), (0, s)], [(0, p), (2, 295)], σ)) rfl rfl ?_
  refine TT.call (cd := cd70) rfl rfl rfl (by decide) rfl (t_isPerson X p σ hb hb2) (fun r1 σ1 hq => ?_)
  rw [hq.1, hq.2, hnp]
  refine TT.steps (cd := cd70) 1 (c' := ((if decide (((if 0 ≤ p ∧ p < (np : Int) then 1 else 0) : Int) = 0) = true then 14 else 4), [(2, 295), (0, p), (0, s)], [], σ)) rfl rfl ?_
  refine TT.br (p := ((if 0 ≤ p ∧ p < (np : Int) then 1 else 0) : Int) = 0) (fun h2 => ?_) (fun h2 => ?_)
  · replace h2 := ite_f h2
    refine TT.steps (cd := cd70) 2 (c' := (16, [(2, 295), (0, p), (0, s)], [(0, 2), (2, 295)], σ)) rfl rfl ?_
    refine TT.call (cd := cd70) rfl rfl rfl (by decide) rfl (t_refuses X 2 (by omega) σ) (fun r3 σ3 hq => ?_)
    rw [hq.1, hq.2]
    refine TT.steps (cd := cd70) 2 (c' := (21, [(2, 295), (0, p), (0, s)], [(0, 0)], (up2 σ 315 2 (aAdd (σ 315 2) 1)))) rfl rfl ?_
    exact TT.ret (cd := cd70) rfl rfl rfl rfl (⟨rfl, rfl⟩)
  · replace h2 := ite_t h2
    refine TT.steps (cd := cd70) 2 (c' := (6, [(2, 295), (0, p), (0, s)], [(0, s), (2, 295)], σ)) rfl rfl ?_
    refine TT.call (cd := cd70) rfl rfl rfl (by decide) rfl (t_isStation X s σ hb hb2) (fun r4 σ4 hq => ?_)
    rw [hq.1, hq.2, hns]
    refine TT.steps (cd := cd70) 1 (c' := ((if decide (((if 0 ≤ s ∧ s < (ns : Int) then 1 else 0) : Int) = 0) = true then 14 else 8), [(2, 295), (0, p), (0, s)], [], σ)) rfl rfl ?_
    refine TT.br (p := ((if 0 ≤ s ∧ s < (ns : Int) then 1 else 0) : Int) = 0) (fun h5 => ?_) (fun h5 => ?_)
    · replace h5 := ite_f h5
      refine TT.steps (cd := cd70) 2 (c' := (16, [(2, 295), (0, p), (0, s)], [(0, 2), (2, 295)], σ)) rfl rfl ?_
      refine TT.call (cd := cd70) rfl rfl rfl (by decide) rfl (t_refuses X 2 (by omega) σ) (fun r6 σ6 hq => ?_)
      rw [hq.1, hq.2]
      refine TT.steps (cd := cd70) 2 (c' := (21, [(2, 295), (0, p), (0, s)], [(0, 0)], (up2 σ 315 2 (aAdd (σ 315 2) 1)))) rfl rfl ?_
      exact TT.ret (cd := cd70) rfl rfl rfl rfl (⟨rfl, rfl⟩)
    · replace h5 := ite_t h5
      exfalso
      omega
theorem t_wish1 (X : AX) (p : Nat) (s : Int) (np ns u w : Nat) (σ : AH) {b : Nat} (hb : σ 295 13 = (b : Int)) (hb2 : b < 2) (hnp : σ 307 b = (np : Int)) (hnp2 : np ≤ 10) (hns : σ 297 b = (ns : Int)) (hns2 : ns ≤ 14) (hu : σ 295 41 = (u : Int)) (hu2 : u < 20) (hw : σ 295 42 = (w : Int)) (hw2 : w ≤ 20) (hp : p < np) (hs : 0 ≤ s ∧ s < (ns : Int))  : TT X 70 (0, [(2, 295), (0, ((p : Nat) : Int)), (0, s)], [], σ) (fun r σ' => (σ 321 p = s → r = some (0, 0) ∧ σ' = up2 σ 315 2 (aAdd (σ 315 2) 1)) ∧ (¬ (σ 321 p = s) → r = some (0, 1) ∧ σ' = up2 (mKeep σ u w) 321 p s)) := by
  refine TT.steps (cd := cd70) 2 (c' := (2, [(2, 295), (0, ((p : Nat) : Int)), (0, s)], [(0, ((p : Nat) : Int)), (2, 295)], σ)) rfl rfl ?_
  refine TT.call (cd := cd70) rfl rfl rfl (by decide) rfl (t_isPerson X ((p : Nat) : Int) σ hb hb2) (fun r1 σ1 hq => ?_)
  rw [hq.1, hq.2, hnp]
  refine TT.steps (cd := cd70) 1 (c' := ((if decide (((if 0 ≤ ((p : Nat) : Int) ∧ ((p : Nat) : Int) < (np : Int) then 1 else 0) : Int) = 0) = true then 14 else 4), [(2, 295), (0, ((p : Nat) : Int)), (0, s)], [], σ)) rfl rfl ?_
  refine TT.br (p := ((if 0 ≤ ((p : Nat) : Int) ∧ ((p : Nat) : Int) < (np : Int) then 1 else 0) : Int) = 0) (fun h2 => ?_) (fun h2 => ?_)
  · replace h2 := ite_f h2
    refine TT.steps (cd := cd70) 2 (c' := (16, [(2, 295), (0, ((p : Nat) : Int)), (0, s)], [(0, 2), (2, 295)], σ)) rfl rfl ?_
    refine TT.call (cd := cd70) rfl rfl rfl (by decide) rfl (t_refuses X 2 (by omega) σ) (fun r3 σ3 hq => ?_)
    rw [hq.1, hq.2]
    refine TT.steps (cd := cd70) 2 (c' := (21, [(2, 295), (0, ((p : Nat) : Int)), (0, s)], [(0, 0)], (up2 σ 315 2 (aAdd (σ 315 2) 1)))) rfl rfl ?_
    exact TT.ret (cd := cd70) rfl rfl rfl rfl (⟨fun hh => by first | exact ⟨rfl, rfl⟩ | (exfalso; omega), fun hh => by first | exact ⟨rfl, rfl⟩ | (exfalso; omega)⟩)
  · replace h2 := ite_t h2
    refine TT.steps (cd := cd70) 2 (c' := (6, [(2, 295), (0, ((p : Nat) : Int)), (0, s)], [(0, s), (2, 295)], σ)) rfl rfl ?_
    refine TT.call (cd := cd70) rfl rfl rfl (by decide) rfl (t_isStation X s σ hb hb2) (fun r4 σ4 hq => ?_)
    rw [hq.1, hq.2, hns]
    refine TT.steps (cd := cd70) 1 (c' := ((if decide (((if 0 ≤ s ∧ s < (ns : Int) then 1 else 0) : Int) = 0) = true then 14 else 8), [(2, 295), (0, ((p : Nat) : Int)), (0, s)], [], σ)) rfl rfl ?_
    refine TT.br (p := ((if 0 ≤ s ∧ s < (ns : Int) then 1 else 0) : Int) = 0) (fun h5 => ?_) (fun h5 => ?_)
    · replace h5 := ite_f h5
      refine TT.steps (cd := cd70) 2 (c' := (16, [(2, 295), (0, ((p : Nat) : Int)), (0, s)], [(0, 2), (2, 295)], σ)) rfl rfl ?_
      refine TT.call (cd := cd70) rfl rfl rfl (by decide) rfl (t_refuses X 2 (by omega) σ) (fun r6 σ6 hq => ?_)
      rw [hq.1, hq.2]
      refine TT.steps (cd := cd70) 2 (c' := (21, [(2, 295), (0, ((p : Nat) : Int)), (0, s)], [(0, 0)], (up2 σ 315 2 (aAdd (σ 315 2) 1)))) rfl rfl ?_
      exact TT.ret (cd := cd70) rfl rfl rfl rfl (⟨fun hh => by first | exact ⟨rfl, rfl⟩ | (exfalso; omega), fun hh => by first | exact ⟨rfl, rfl⟩ | (exfalso; omega)⟩)
    · replace h5 := ite_t h5
      refine TT.steps (cd := cd70) 3 (c' := (11, [(2, 295), (0, ((p : Nat) : Int)), (0, s)], [(0, ((p : Nat) : Int)), (2, 321)], σ)) rfl rfl ?_
      refine TT.aldN (cd := cd70) (321) (p) rfl rfl rfl rfl (show p < 220 by omega) ?_
      refine TT.steps (cd := cd70) 2 (c' := ((if decide (¬ (σ 321 p) = s) = true then 22 else 14), [(2, 295), (0, ((p : Nat) : Int)), (0, s)], [], σ)) rfl rfl ?_
      refine TT.br (p := ¬ (σ 321 p) = s) (fun h7 => ?_) (fun h7 => ?_)
      · refine TT.steps (cd := cd70) 1 (c' := (23, [(2, 295), (0, ((p : Nat) : Int)), (0, s)], [(2, 295)], σ)) rfl rfl ?_
        refine TT.call (cd := cd70) rfl rfl rfl (by decide) rfl (t_keeps X u w σ hu hu2 hw hw2) (fun r8 σ8 hq => ?_)
        rw [hq.1, hq.2]
        refine TT.steps (cd := cd70) 4 (c' := (28, [(2, 295), (0, ((p : Nat) : Int)), (0, s)], [(0, s), (0, ((p : Nat) : Int)), (2, 321)], (mKeep σ u w))) rfl rfl ?_
        refine TT.astN (cd := cd70) (321) (p) rfl rfl rfl rfl (show p < 220 by omega) ?_
        refine TT.steps (cd := cd70) 1 (c' := (30, [(2, 295), (0, ((p : Nat) : Int)), (0, s)], [(0, 1)], (up2 (mKeep σ u w) 321 p s))) rfl rfl ?_
        exact TT.ret (cd := cd70) rfl rfl rfl rfl (⟨fun hh => by first | exact ⟨rfl, rfl⟩ | (exfalso; omega), fun hh => by first | exact ⟨rfl, rfl⟩ | (exfalso; omega)⟩)
      · refine TT.steps (cd := cd70) 2 (c' := (16, [(2, 295), (0, ((p : Nat) : Int)), (0, s)], [(0, 2), (2, 295)], σ)) rfl rfl ?_
        refine TT.call (cd := cd70) rfl rfl rfl (by decide) rfl (t_refuses X 2 (by omega) σ) (fun r9 σ9 hq => ?_)
        rw [hq.1, hq.2]
        refine TT.steps (cd := cd70) 2 (c' := (21, [(2, 295), (0, ((p : Nat) : Int)), (0, s)], [(0, 0)], (up2 σ 315 2 (aAdd (σ 315 2) 1)))) rfl rfl ?_
        exact TT.ret (cd := cd70) rfl rfl rfl rfl (⟨fun hh => by first | exact ⟨rfl, rfl⟩ | (exfalso; omega), fun hh => by first | exact ⟨rfl, rfl⟩ | (exfalso; omega)⟩)
theorem t_move0 (X : AX) (p s : Int) (np ns u w : Nat) (σ : AH) {b : Nat} (hb : σ 295 13 = (b : Int)) (hb2 : b < 2) (hnp : σ 307 b = (np : Int)) (hnp2 : np ≤ 10) (hns : σ 297 b = (ns : Int)) (hns2 : ns ≤ 14) (hu : σ 295 41 = (u : Int)) (hu2 : u < 20) (hw : σ 295 42 = (w : Int)) (hw2 : w ≤ 20) (hp : ¬ (0 ≤ p ∧ p < (np : Int)) ∨ ¬ (0 ≤ s ∧ s < (ns : Int)))  : TT X 71 (0, [(2, 295), (0, p), (0, s)], [], σ) (fun r σ' => r = some (0, 0) ∧ σ' = up2 σ 315 2 (aAdd (σ 315 2) 1)) := by
  refine TT.steps (cd := cd71) 2 (c' := (2, [(2, 295), (0, p), (0, s)], [(0, p), (2, 295)], σ)) rfl rfl ?_
  refine TT.call (cd := cd71) rfl rfl rfl (by decide) rfl (t_isPerson X p σ hb hb2) (fun r1 σ1 hq => ?_)
  rw [hq.1, hq.2, hnp]
  refine TT.steps (cd := cd71) 1 (c' := ((if decide (((if 0 ≤ p ∧ p < (np : Int) then 1 else 0) : Int) = 0) = true then 14 else 4), [(2, 295), (0, p), (0, s)], [], σ)) rfl rfl ?_
  refine TT.br (p := ((if 0 ≤ p ∧ p < (np : Int) then 1 else 0) : Int) = 0) (fun h2 => ?_) (fun h2 => ?_)
  · replace h2 := ite_f h2
    refine TT.steps (cd := cd71) 2 (c' := (16, [(2, 295), (0, p), (0, s)], [(0, 2), (2, 295)], σ)) rfl rfl ?_
    refine TT.call (cd := cd71) rfl rfl rfl (by decide) rfl (t_refuses X 2 (by omega) σ) (fun r3 σ3 hq => ?_)
    rw [hq.1, hq.2]
    refine TT.steps (cd := cd71) 2 (c' := (21, [(2, 295), (0, p), (0, s)], [(0, 0)], (up2 σ 315 2 (aAdd (σ 315 2) 1)))) rfl rfl ?_
    exact TT.ret (cd := cd71) rfl rfl rfl rfl (⟨rfl, rfl⟩)
  · replace h2 := ite_t h2
    refine TT.steps (cd := cd71) 2 (c' := (6, [(2, 295), (0, p), (0, s)], [(0, s), (2, 295)], σ)) rfl rfl ?_
    refine TT.call (cd := cd71) rfl rfl rfl (by decide) rfl (t_isStation X s σ hb hb2) (fun r4 σ4 hq => ?_)
    rw [hq.1, hq.2, hns]
    refine TT.steps (cd := cd71) 1 (c' := ((if decide (((if 0 ≤ s ∧ s < (ns : Int) then 1 else 0) : Int) = 0) = true then 14 else 8), [(2, 295), (0, p), (0, s)], [], σ)) rfl rfl ?_
    refine TT.br (p := ((if 0 ≤ s ∧ s < (ns : Int) then 1 else 0) : Int) = 0) (fun h5 => ?_) (fun h5 => ?_)
    · replace h5 := ite_f h5
      refine TT.steps (cd := cd71) 2 (c' := (16, [(2, 295), (0, p), (0, s)], [(0, 2), (2, 295)], σ)) rfl rfl ?_
      refine TT.call (cd := cd71) rfl rfl rfl (by decide) rfl (t_refuses X 2 (by omega) σ) (fun r6 σ6 hq => ?_)
      rw [hq.1, hq.2]
      refine TT.steps (cd := cd71) 2 (c' := (21, [(2, 295), (0, p), (0, s)], [(0, 0)], (up2 σ 315 2 (aAdd (σ 315 2) 1)))) rfl rfl ?_
      exact TT.ret (cd := cd71) rfl rfl rfl rfl (⟨rfl, rfl⟩)
    · replace h5 := ite_t h5
      exfalso
      omega
theorem t_move1 (X : AX) (p : Nat) (s : Int) (np ns u w : Nat) (σ : AH) {b : Nat} (hb : σ 295 13 = (b : Int)) (hb2 : b < 2) (hnp : σ 307 b = (np : Int)) (hnp2 : np ≤ 10) (hns : σ 297 b = (ns : Int)) (hns2 : ns ≤ 14) (hu : σ 295 41 = (u : Int)) (hu2 : u < 20) (hw : σ 295 42 = (w : Int)) (hw2 : w ≤ 20) (hp : p < np) (hs : 0 ≤ s ∧ s < (ns : Int))  : TT X 71 (0, [(2, 295), (0, ((p : Nat) : Int)), (0, s)], [], σ) (fun r σ' => (σ 320 p = s → r = some (0, 0) ∧ σ' = up2 σ 315 2 (aAdd (σ 315 2) 1)) ∧ (¬ (σ 320 p = s) → r = some (0, 1) ∧ σ' = up2 (mKeep σ u w) 320 p s)) := by
  refine TT.steps (cd := cd71) 2 (c' := (2, [(2, 295), (0, ((p : Nat) : Int)), (0, s)], [(0, ((p : Nat) : Int)), (2, 295)], σ)) rfl rfl ?_
  refine TT.call (cd := cd71) rfl rfl rfl (by decide) rfl (t_isPerson X ((p : Nat) : Int) σ hb hb2) (fun r1 σ1 hq => ?_)
  rw [hq.1, hq.2, hnp]
  refine TT.steps (cd := cd71) 1 (c' := ((if decide (((if 0 ≤ ((p : Nat) : Int) ∧ ((p : Nat) : Int) < (np : Int) then 1 else 0) : Int) = 0) = true then 14 else 4), [(2, 295), (0, ((p : Nat) : Int)), (0, s)], [], σ)) rfl rfl ?_
  refine TT.br (p := ((if 0 ≤ ((p : Nat) : Int) ∧ ((p : Nat) : Int) < (np : Int) then 1 else 0) : Int) = 0) (fun h2 => ?_) (fun h2 => ?_)
  · replace h2 := ite_f h2
    refine TT.steps (cd := cd71) 2 (c' := (16, [(2, 295), (0, ((p : Nat) : Int)), (0, s)], [(0, 2), (2, 295)], σ)) rfl rfl ?_
    refine TT.call (cd := cd71) rfl rfl rfl (by decide) rfl (t_refuses X 2 (by omega) σ) (fun r3 σ3 hq => ?_)
    rw [hq.1, hq.2]
    refine TT.steps (cd := cd71) 2 (c' := (21, [(2, 295), (0, ((p : Nat) : Int)), (0, s)], [(0, 0)], (up2 σ 315 2 (aAdd (σ 315 2) 1)))) rfl rfl ?_
    exact TT.ret (cd := cd71) rfl rfl rfl rfl (⟨fun hh => by first | exact ⟨rfl, rfl⟩ | (exfalso; omega), fun hh => by first | exact ⟨rfl, rfl⟩ | (exfalso; omega)⟩)
  · replace h2 := ite_t h2
    refine TT.steps (cd := cd71) 2 (c' := (6, [(2, 295), (0, ((p : Nat) : Int)), (0, s)], [(0, s), (2, 295)], σ)) rfl rfl ?_
    refine TT.call (cd := cd71) rfl rfl rfl (by decide) rfl (t_isStation X s σ hb hb2) (fun r4 σ4 hq => ?_)
    rw [hq.1, hq.2, hns]
    refine TT.steps (cd := cd71) 1 (c' := ((if decide (((if 0 ≤ s ∧ s < (ns : Int) then 1 else 0) : Int) = 0) = true then 14 else 8), [(2, 295), (0, ((p : Nat) : Int)), (0, s)], [], σ)) rfl rfl ?_
    refine TT.br (p := ((if 0 ≤ s ∧ s < (ns : Int) then 1 else 0) : Int) = 0) (fun h5 => ?_) (fun h5 => ?_)
    · replace h5 := ite_f h5
      refine TT.steps (cd := cd71) 2 (c' := (16, [(2, 295), (0, ((p : Nat) : Int)), (0, s)], [(0, 2), (2, 295)], σ)) rfl rfl ?_
      refine TT.call (cd := cd71) rfl rfl rfl (by decide) rfl (t_refuses X 2 (by omega) σ) (fun r6 σ6 hq => ?_)
      rw [hq.1, hq.2]
      refine TT.steps (cd := cd71) 2 (c' := (21, [(2, 295), (0, ((p : Nat) : Int)), (0, s)], [(0, 0)], (up2 σ 315 2 (aAdd (σ 315 2) 1)))) rfl rfl ?_
      exact TT.ret (cd := cd71) rfl rfl rfl rfl (⟨fun hh => by first | exact ⟨rfl, rfl⟩ | (exfalso; omega), fun hh => by first | exact ⟨rfl, rfl⟩ | (exfalso; omega)⟩)
    · replace h5 := ite_t h5
      refine TT.steps (cd := cd71) 3 (c' := (11, [(2, 295), (0, ((p : Nat) : Int)), (0, s)], [(0, ((p : Nat) : Int)), (2, 320)], σ)) rfl rfl ?_
      refine TT.aldN (cd := cd71) (320) (p) rfl rfl rfl rfl (show p < 220 by omega) ?_
      refine TT.steps (cd := cd71) 2 (c' := ((if decide (¬ (σ 320 p) = s) = true then 22 else 14), [(2, 295), (0, ((p : Nat) : Int)), (0, s)], [], σ)) rfl rfl ?_
      refine TT.br (p := ¬ (σ 320 p) = s) (fun h7 => ?_) (fun h7 => ?_)
      · refine TT.steps (cd := cd71) 1 (c' := (23, [(2, 295), (0, ((p : Nat) : Int)), (0, s)], [(2, 295)], σ)) rfl rfl ?_
        refine TT.call (cd := cd71) rfl rfl rfl (by decide) rfl (t_keeps X u w σ hu hu2 hw hw2) (fun r8 σ8 hq => ?_)
        rw [hq.1, hq.2]
        refine TT.steps (cd := cd71) 4 (c' := (28, [(2, 295), (0, ((p : Nat) : Int)), (0, s)], [(0, s), (0, ((p : Nat) : Int)), (2, 320)], (mKeep σ u w))) rfl rfl ?_
        refine TT.astN (cd := cd71) (320) (p) rfl rfl rfl rfl (show p < 220 by omega) ?_
        refine TT.steps (cd := cd71) 1 (c' := (30, [(2, 295), (0, ((p : Nat) : Int)), (0, s)], [(0, 1)], (up2 (mKeep σ u w) 320 p s))) rfl rfl ?_
        exact TT.ret (cd := cd71) rfl rfl rfl rfl (⟨fun hh => by first | exact ⟨rfl, rfl⟩ | (exfalso; omega), fun hh => by first | exact ⟨rfl, rfl⟩ | (exfalso; omega)⟩)
      · refine TT.steps (cd := cd71) 2 (c' := (16, [(2, 295), (0, ((p : Nat) : Int)), (0, s)], [(0, 2), (2, 295)], σ)) rfl rfl ?_
        refine TT.call (cd := cd71) rfl rfl rfl (by decide) rfl (t_refuses X 2 (by omega) σ) (fun r9 σ9 hq => ?_)
        rw [hq.1, hq.2]
        refine TT.steps (cd := cd71) 2 (c' := (21, [(2, 295), (0, ((p : Nat) : Int)), (0, s)], [(0, 0)], (up2 σ 315 2 (aAdd (σ 315 2) 1)))) rfl rfl ?_
        exact TT.ret (cd := cd71) rfl rfl rfl rfl (⟨fun hh => by first | exact ⟨rfl, rfl⟩ | (exfalso; omega), fun hh => by first | exact ⟨rfl, rfl⟩ | (exfalso; omega)⟩)
def mSeed (s : Int) : Int := bRem (bAdd (bMul 1103515245 s) 12345) 2147483648
def mDrw (s : Int) : Int := bL2i (bRem (bDiv s 64) 100)
def mDie (σ : AH) (k : Nat) : AH := if σ 319 k = -1 then up2 (up2 (up2 (up2 σ 321 k (σ 318 k)) 317 k 0) 318 k (σ 320 k)) 319 k (-1) else up2 (up2 (up2 σ 317 k 0) 318 k (σ 320 k)) 319 k (-1)
theorem mDie_fr (σ : AH) (k c j : Nat) (h : c ≠ 321 ∧ c ≠ 317 ∧ c ≠ 318 ∧ c ≠ 319) : mDie σ k c j = σ c j := by
  unfold mDie
  split <;> simp [up2, h.1, h.2.1, h.2.2.1, h.2.2.2]
theorem t_draw (X : AX) (σ : AH)  : TT X 73 (0, [(2, 295), (0, 100)], [], σ) (fun r σ' => r = some (0, mDrw (mSeed (σ 295 43))) ∧ σ' = up2 σ 295 43 (mSeed (σ 295 43))) := by
  refine TT.steps (cd := cd73) 8 (c' := (8, [(2, 295), (0, 100)], [(1, 2147483648), (1, (bAdd (bMul 1103515245 (σ 295 43)) 12345)), (2, 295)], σ)) rfl rfl ?_
  refine TT.lrem (cd := cd73) rfl rfl rfl (by decide) ?_
  obtain ⟨x9, hx9⟩ : ∃ z, mSeed (σ 295 43) = z := ⟨_, rfl⟩
  refine TT.top0 (z := x9) hx9 ?_
  refine TT.put (cd := cd73) rfl rfl rfl rfl rfl rfl (fun h => absurd h (by decide)) ?_
  refine TT.sg (σ' := (up2 σ 295 43 x9)) rfl ?_
  refine TT.steps (cd := cd73) 2 (c' := (12, [(2, 295), (0, 100)], [(1, ((up2 σ 295 43 x9) 295 43))], (up2 σ 295 43 x9))) rfl rfl ?_
  refine TT.top0 (z := x9) (up2_hit _ _ _ _) ?_
  refine TT.steps (cd := cd73) 1 (c' := (13, [(2, 295), (0, 100)], [(1, 64), (1, x9)], (up2 σ 295 43 x9))) rfl rfl ?_
  refine TT.ldiv (cd := cd73) rfl rfl rfl (by decide) ?_
  refine TT.steps (cd := cd73) 2 (c' := (16, [(2, 295), (0, 100)], [(1, (bI2l 100)), (1, (bDiv x9 64))], (up2 σ 295 43 x9))) rfl rfl ?_
  refine TT.top0 (z := 100) (by decide) ?_
  refine TT.lrem (cd := cd73) rfl rfl rfl (by decide) ?_
  refine TT.steps (cd := cd73) 1 (c' := (18, [(2, 295), (0, 100)], [(0, (bL2i (bRem (bDiv x9 64) 100)))], (up2 σ 295 43 x9))) rfl rfl ?_
  exact TT.ret (cd := cd73) rfl rfl rfl rfl (by rw [hx9]; exact ⟨rfl, rfl⟩)
theorem t_dies (X : AX) (k : Nat) (hk : k < 220) (σ : AH)  : TT X 74 (0, [(2, 295), (0, ((k : Nat) : Int))], [], σ) (fun r σ' => r = none ∧ σ' = mDie σ k) := by
  refine TT.steps (cd := cd74) 3 (c' := (3, [(2, 295), (0, ((k : Nat) : Int))], [(0, ((k : Nat) : Int)), (2, 319)], σ)) rfl rfl ?_
  refine TT.aldN (cd := cd74) (319) (k) rfl rfl rfl rfl (show k < 220 by omega) ?_
  refine TT.steps (cd := cd74) 2 (c' := ((if decide (¬ (σ 319 k) = (-1)) = true then 14 else 6), [(2, 295), (0, ((k : Nat) : Int))], [], σ)) rfl rfl ?_
  refine TT.br (p := ¬ (σ 319 k) = (-1)) (fun h1 => ?_) (fun h1 => ?_)
  · refine TT.steps (cd := cd74) 4 (c' := (18, [(2, 295), (0, ((k : Nat) : Int))], [(0, 0), (0, ((k : Nat) : Int)), (2, 317)], σ)) rfl rfl ?_
    refine TT.astN (cd := cd74) (317) (k) rfl rfl rfl rfl (show k < 220 by omega) ?_
    refine TT.steps (cd := cd74) 6 (c' := (25, [(2, 295), (0, ((k : Nat) : Int))], [(0, ((k : Nat) : Int)), (2, 320), (0, ((k : Nat) : Int)), (2, 318)], (up2 σ 317 k 0))) rfl rfl ?_
    refine TT.aldN (cd := cd74) (320) (k) rfl rfl rfl rfl (show k < 220 by omega) ?_
    refine TT.top0 (z := (σ 320 k)) (up2_far (k := 317) (k' := 320) _ _ _ _ (by decide)) ?_
    refine TT.astN (cd := cd74) (318) (k) rfl rfl rfl rfl (show k < 220 by omega) ?_
    refine TT.steps (cd := cd74) 4 (c' := (31, [(2, 295), (0, ((k : Nat) : Int))], [(0, -1), (0, ((k : Nat) : Int)), (2, 319)], (up2 (up2 σ 317 k 0) 318 k (σ 320 k)))) rfl rfl ?_
    refine TT.astN (cd := cd74) (319) (k) rfl rfl rfl rfl (show k < 220 by omega) ?_
    exact TT.ret (cd := cd74) rfl rfl rfl rfl (⟨rfl, by unfold mDie; first | (rw [if_pos (by omega)]; done) | (rw [if_neg (by omega)]; done)⟩)
  · refine TT.steps (cd := cd74) 6 (c' := (12, [(2, 295), (0, ((k : Nat) : Int))], [(0, ((k : Nat) : Int)), (2, 318), (0, ((k : Nat) : Int)), (2, 321)], σ)) rfl rfl ?_
    refine TT.aldN (cd := cd74) (318) (k) rfl rfl rfl rfl (show k < 220 by omega) ?_
    refine TT.astN (cd := cd74) (321) (k) rfl rfl rfl rfl (show k < 220 by omega) ?_
    refine TT.steps (cd := cd74) 4 (c' := (18, [(2, 295), (0, ((k : Nat) : Int))], [(0, 0), (0, ((k : Nat) : Int)), (2, 317)], (up2 σ 321 k (σ 318 k)))) rfl rfl ?_
    refine TT.astN (cd := cd74) (317) (k) rfl rfl rfl rfl (show k < 220 by omega) ?_
    refine TT.steps (cd := cd74) 6 (c' := (25, [(2, 295), (0, ((k : Nat) : Int))], [(0, ((k : Nat) : Int)), (2, 320), (0, ((k : Nat) : Int)), (2, 318)], (up2 (up2 σ 321 k (σ 318 k)) 317 k 0))) rfl rfl ?_
    refine TT.aldN (cd := cd74) (320) (k) rfl rfl rfl rfl (show k < 220 by omega) ?_
    refine TT.top0 (z := (σ 320 k)) ((up2_far (k := 317) (k' := 320) _ _ _ _ (by decide)).trans (up2_far (k := 321) (k' := 320) _ _ _ _ (by decide))) ?_
    refine TT.astN (cd := cd74) (318) (k) rfl rfl rfl rfl (show k < 220 by omega) ?_
    refine TT.steps (cd := cd74) 4 (c' := (31, [(2, 295), (0, ((k : Nat) : Int))], [(0, -1), (0, ((k : Nat) : Int)), (2, 319)], (up2 (up2 (up2 σ 321 k (σ 318 k)) 317 k 0) 318 k (σ 320 k)))) rfl rfl ?_
    refine TT.astN (cd := cd74) (319) (k) rfl rfl rfl rfl (show k < 220 by omega) ?_
    exact TT.ret (cd := cd74) rfl rfl rfl rfl (⟨rfl, by unfold mDie; first | (rw [if_pos (by omega)]; done) | (rw [if_neg (by omega)]; done)⟩)
/-- behind the day of a year: places, wishes -/
def mY1 (τ : AH) (v : Nat) : Nat → AH
  | 0 => τ
  | n + 1 => if τ 334 n = mY1 τ v n 321 ((10 * v) + n) then up2 (up2 (mY1 τ v n) 320 ((10 * v) + n) (τ 334 n)) 321 ((10 * v) + n) (mY1 τ v n 320 ((10 * v) + n)) else up2 (mY1 τ v n) 320 ((10 * v) + n) (τ 334 n)
theorem mY1_fr (τ : AH) (v n c j : Nat) (h : c ≠ 320 ∧ c ≠ 321) : mY1 τ v n c j = τ c j := by
  induction n with
  | zero => rfl
  | succ n ih => rw [mY1]; split <;> simp [up2, h.1, h.2, ih]
/-- one by one they die or grow older: how many died, the heap -/
def mY2 (τ : AH) (v : Nat) : Nat → Nat × AH
  | 0 => (0, τ)
  | n + 1 => if mDrw (mSeed ((mY2 τ v n).2 295 43)) < (mY2 τ v n).2 317 ((10 * v) + n) then ((mY2 τ v n).1 + 1, mDie (up2 (mY2 τ v n).2 295 43 (mSeed ((mY2 τ v n).2 295 43))) ((10 * v) + n))
      else ((mY2 τ v n).1, up2 (up2 (mY2 τ v n).2 295 43 (mSeed ((mY2 τ v n).2 295 43))) 317 ((10 * v) + n) (if (mY2 τ v n).2 317 ((10 * v) + n) < 99 then aAdd ((mY2 τ v n).2 317 ((10 * v) + n)) 1 else 99))
theorem mY2_le (τ : AH) (v n : Nat) : (mY2 τ v n).1 ≤ n := by
  induction n with
  | zero => exact Nat.le_refl _
  | succ n ih => rw [mY2]; split <;> simp <;> omega
theorem mY2_fr (τ : AH) (v n c j : Nat) (h : c ≠ 321 ∧ c ≠ 317 ∧ c ≠ 318 ∧ c ≠ 319 ∧ c ≠ 295) : (mY2 τ v n).2 c j = τ c j := by
  induction n with
  | zero => rfl
  | succ n ih =>
    rw [mY2]
    split
    · dsimp only
      rw [mDie_fr _ _ _ _ ⟨h.1, h.2.1, h.2.2.1, h.2.2.2.1⟩, up2_far _ _ _ _ h.2.2.2.2, ih]
    · dsimp only
      rw [up2_far _ _ _ _ h.2.1, up2_far _ _ _ _ h.2.2.2.2, ih]
theorem mY2_M (τ : AH) (v n j : Nat) (h : j ≠ 43) : (mY2 τ v n).2 295 j = τ 295 j := by
  induction n with
  | zero => rfl
  | succ n ih =>
    rw [mY2]
    split
    · dsimp only
      rw [mDie_fr _ _ _ _ (by decide), up2_by _ _ _ h, ih]
    · dsimp only
      rw [up2_far _ _ _ _ (by decide), up2_by _ _ _ h, ih]
theorem l_year1 (X : AX) (Q : Option AV → AH → Prop) (np v : Nat) (hv2 : v < 22) (σ : AH) {b : Nat} (hb : σ 295 13 = (b : Int)) (hb2 : b < 2) (hnp : σ 307 b = (np : Int)) (hnp2 : np ≤ 10) (kk : ∀ x2 x3 x4 : AV, TT X 75 (47, [(2, 295), (0, ((v : Nat) : Int)), x2, x3, x4], [], mY1 σ v np) Q) : ∀ (d n : Nat), n + d = np → ∀ x3 x4 : AV, TT X 75 (5, [(2, 295), (0, ((v : Nat) : Int)), (0, ((n : Nat) : Int)), x3, x4], [], mY1 σ v n) Q := by
  intro d
  induction d with
  | zero =>
    intro n hn x3 x4
    have hnn : n = np := by omega
    refine TT.steps (cd := cd75) 5 (c' := (10, [(2, 295), (0, ((v : Nat) : Int)), (0, ((n : Nat) : Int)), x3, x4], [(0, ((mY1 σ v n) 295 13)), (2, 307), (0, ((n : Nat) : Int))], (mY1 σ v n))) rfl rfl ?_
    refine TT.top0 (z := ((b : Nat) : Int)) ((mY1_fr _ _ _ 295 (13) (by decide)).trans hb) ?_
    refine TT.aldN (cd := cd75) (307) (b) rfl rfl rfl rfl (show b < 2 by omega) ?_
    refine TT.top0 (z := ((np : Nat) : Int)) ((mY1_fr _ _ _ 307 (b) (by decide)).trans hnp) ?_
    refine TT.steps (cd := cd75) 1 (c' := ((if decide (((np : Nat) : Int) ≤ ((n : Nat) : Int)) = true then 47 else 12), [(2, 295), (0, ((v : Nat) : Int)), (0, ((n : Nat) : Int)), x3, x4], [], (mY1 σ v n))) rfl rfl ?_
    refine TT.br (p := ((np : Nat) : Int) ≤ ((n : Nat) : Int)) (fun h1 => ?_) (fun h1 => absurd (show ((np : Nat) : Int) ≤ ((n : Nat) : Int) by omega) h1)
    subst hnn
    exact kk _ _ _
  | succ d ih =>
    intro n hn x3 x4
    refine TT.steps (cd := cd75) 5 (c' := (10, [(2, 295), (0, ((v : Nat) : Int)), (0, ((n : Nat) : Int)), x3, x4], [(0, ((mY1 σ v n) 295 13)), (2, 307), (0, ((n : Nat) : Int))], (mY1 σ v n))) rfl rfl ?_
    refine TT.top0 (z := ((b : Nat) : Int)) ((mY1_fr _ _ _ 295 (13) (by decide)).trans hb) ?_
    refine TT.aldN (cd := cd75) (307) (b) rfl rfl rfl rfl (show b < 2 by omega) ?_
    refine TT.top0 (z := ((np : Nat) : Int)) ((mY1_fr _ _ _ 307 (b) (by decide)).trans hnp) ?_
    refine TT.steps (cd := cd75) 1 (c' := ((if decide (((np : Nat) : Int) ≤ ((n : Nat) : Int)) = true then 47 else 12), [(2, 295), (0, ((v : Nat) : Int)), (0, ((n : Nat) : Int)), x3, x4], [], (mY1 σ v n))) rfl rfl ?_
    refine TT.br (p := ((np : Nat) : Int) ≤ ((n : Nat) : Int)) (fun h1 => absurd h1 (show ¬ (((np : Nat) : Int) ≤ ((n : Nat) : Int)) by omega)) (fun h1 => ?_)
    refine TT.steps (cd := cd75) 3 (c' := (15, [(2, 295), (0, ((v : Nat) : Int)), (0, ((n : Nat) : Int)), x3, x4], [(0, (aMul 10 ((v : Nat) : Int)))], (mY1 σ v n))) rfl rfl ?_
    refine TT.top0 (z := ((10 * v : Nat) : Int)) (aMul_n (a := 10) (b := v) (by omega)) ?_
    refine TT.steps (cd := cd75) 2 (c' := (17, [(2, 295), (0, ((v : Nat) : Int)), (0, ((n : Nat) : Int)), x3, x4], [(0, (aAdd ((10 * v : Nat) : Int) ((n : Nat) : Int)))], (mY1 σ v n))) rfl rfl ?_
    refine TT.top0 (z := (((10 * v) + n : Nat) : Int)) (aAdd_n (a := 10 * v) (b := n) (by omega)) ?_
    refine TT.steps (cd := cd75) 4 (c' := (21, [(2, 295), (0, ((v : Nat) : Int)), (0, ((n : Nat) : Int)), (0, (((10 * v) + n : Nat) : Int)), x4], [(0, (((10 * v) + n : Nat) : Int)), (2, 320)], (mY1 σ v n))) rfl rfl ?_
    refine TT.aldN (cd := cd75) (320) ((10 * v) + n) rfl rfl rfl rfl (show (10 * v) + n < 220 by omega) ?_
    refine TT.steps (cd := cd75) 7 (c' := (29, [(2, 295), (0, ((v : Nat) : Int)), (0, ((n : Nat) : Int)), (0, (((10 * v) + n : Nat) : Int)), (0, ((mY1 σ v n) 320 ((10 * v) + n)))], [(0, ((n : Nat) : Int)), (2, 334), (0, (((10 * v) + n : Nat) : Int)), (2, 320)], (mY1 σ v n))) rfl rfl ?_
    refine TT.aldN (cd := cd75) (334) (n) rfl rfl rfl rfl (show n < 10 by omega) ?_
    refine TT.top0 (z := (σ 334 n)) (mY1_fr _ _ _ 334 (n) (by decide)) ?_
    refine TT.astN (cd := cd75) (320) ((10 * v) + n) rfl rfl rfl rfl (show (10 * v) + n < 220 by omega) ?_
    refine TT.steps (cd := cd75) 3 (c' := (34, [(2, 295), (0, ((v : Nat) : Int)), (0, ((n : Nat) : Int)), (0, (((10 * v) + n : Nat) : Int)), (0, ((mY1 σ v n) 320 ((10 * v) + n)))], [(0, (((10 * v) + n : Nat) : Int)), (2, 320)], (up2 (mY1 σ v n) 320 ((10 * v) + n) (σ 334 n)))) rfl rfl ?_
    refine TT.aldN (cd := cd75) (320) ((10 * v) + n) rfl rfl rfl rfl (show (10 * v) + n < 220 by omega) ?_
    refine TT.top0 (z := (σ 334 n)) (up2_hit _ _ _ _) ?_
    refine TT.steps (cd := cd75) 3 (c' := (38, [(2, 295), (0, ((v : Nat) : Int)), (0, ((n : Nat) : Int)), (0, (((10 * v) + n : Nat) : Int)), (0, ((mY1 σ v n) 320 ((10 * v) + n)))], [(0, (((10 * v) + n : Nat) : Int)), (2, 321), (0, (σ 334 n))], (up2 (mY1 σ v n) 320 ((10 * v) + n) (σ 334 n)))) rfl rfl ?_
    refine TT.aldN (cd := cd75) (321) ((10 * v) + n) rfl rfl rfl rfl (show (10 * v) + n < 220 by omega) ?_
    refine TT.top0 (z := ((mY1 σ v n) 321 ((10 * v) + n))) (up2_far (k := 320) (k' := 321) _ _ _ _ (by decide)) ?_
    refine TT.steps (cd := cd75) 1 (c' := ((if decide (¬ (σ 334 n) = ((mY1 σ v n) 321 ((10 * v) + n))) = true then 45 else 40), [(2, 295), (0, ((v : Nat) : Int)), (0, ((n : Nat) : Int)), (0, (((10 * v) + n : Nat) : Int)), (0, ((mY1 σ v n) 320 ((10 * v) + n)))], [], (up2 (mY1 σ v n) 320 ((10 * v) + n) (σ 334 n)))) rfl rfl ?_
    refine TT.br (p := ¬ (σ 334 n) = ((mY1 σ v n) 321 ((10 * v) + n))) (fun h2 => ?_) (fun h2 => ?_)
    · refine TT.inc (cd := cd75) ((n + 1 : Nat) : Int) rfl rfl rfl rfl (fun h => absurd h.2 (show ¬ (0 = 1) by decide)) (aAdd_n (a := n) (b := 1) (by omega)) (ls' := [(2, 295), (0, ((v : Nat) : Int)), (0, ((n + 1 : Nat) : Int)), (0, (((10 * v) + n : Nat) : Int)), (0, ((mY1 σ v n) 320 ((10 * v) + n)))]) rfl ?_
      refine TT.steps (cd := cd75) 1 (c' := (5, [(2, 295), (0, ((v : Nat) : Int)), (0, ((n + 1 : Nat) : Int)), (0, (((10 * v) + n : Nat) : Int)), (0, ((mY1 σ v n) 320 ((10 * v) + n)))], [], (up2 (mY1 σ v n) 320 ((10 * v) + n) (σ 334 n)))) rfl rfl ?_
      refine TT.sg (σ' := mY1 σ v (n + 1)) ?_ (ih (n + 1) (by omega) _ _)
      simp only [mY1]
      first | (rw [if_pos (by omega)]; done) | (rw [if_neg (by omega)]; done)
    · refine TT.steps (cd := cd75) 4 (c' := (44, [(2, 295), (0, ((v : Nat) : Int)), (0, ((n : Nat) : Int)), (0, (((10 * v) + n : Nat) : Int)), (0, ((mY1 σ v n) 320 ((10 * v) + n)))], [(0, ((mY1 σ v n) 320 ((10 * v) + n))), (0, (((10 * v) + n : Nat) : Int)), (2, 321)], (up2 (mY1 σ v n) 320 ((10 * v) + n) (σ 334 n)))) rfl rfl ?_
      refine TT.astN (cd := cd75) (321) ((10 * v) + n) rfl rfl rfl rfl (show (10 * v) + n < 220 by omega) ?_
      refine TT.inc (cd := cd75) ((n + 1 : Nat) : Int) rfl rfl rfl rfl (fun h => absurd h.2 (show ¬ (0 = 1) by decide)) (aAdd_n (a := n) (b := 1) (by omega)) (ls' := [(2, 295), (0, ((v : Nat) : Int)), (0, ((n + 1 : Nat) : Int)), (0, (((10 * v) + n : Nat) : Int)), (0, ((mY1 σ v n) 320 ((10 * v) + n)))]) rfl ?_
      refine TT.steps (cd := cd75) 1 (c' := (5, [(2, 295), (0, ((v : Nat) : Int)), (0, ((n + 1 : Nat) : Int)), (0, (((10 * v) + n : Nat) : Int)), (0, ((mY1 σ v n) 320 ((10 * v) + n)))], [], (up2 (up2 (mY1 σ v n) 320 ((10 * v) + n) (σ 334 n)) 321 ((10 * v) + n) ((mY1 σ v n) 320 ((10 * v) + n))))) rfl rfl ?_
      refine TT.sg (σ' := mY1 σ v (n + 1)) ?_ (ih (n + 1) (by omega) _ _)
      simp only [mY1]
      first | (rw [if_pos (by omega)]; done) | (rw [if_neg (by omega)]; done)
theorem l_year2 (X : AX) (Q : Option AV → AH → Prop) (np v : Nat) (hv2 : v < 22) (σ : AH) {b : Nat} (hb : σ 295 13 = (b : Int)) (hb2 : b < 2) (hnp : σ 307 b = (np : Int)) (hnp2 : np ≤ 10) (kk : ∀ x3 x4 : AV, TT X 75 (97, [(2, 295), (0, ((v : Nat) : Int)), (0, (((mY2 σ v np).1 : Nat) : Int)), x3, x4], [], (mY2 σ v np).2) Q) : ∀ (d n : Nat), n + d = np → ∀ x4 : AV, TT X 75 (51, [(2, 295), (0, ((v : Nat) : Int)), (0, (((mY2 σ v n).1 : Nat) : Int)), (0, ((n : Nat) : Int)), x4], [], (mY2 σ v n).2) Q := by
  intro d
  induction d with
  | zero =>
    intro n hn x4
    have hnn : n = np := by omega
    refine TT.steps (cd := cd75) 5 (c' := (56, [(2, 295), (0, ((v : Nat) : Int)), (0, (((mY2 σ v n).1 : Nat) : Int)), (0, ((n : Nat) : Int)), x4], [(0, (((mY2 σ v n).2) 295 13)), (2, 307), (0, ((n : Nat) : Int))], ((mY2 σ v n).2))) rfl rfl ?_
    refine TT.top0 (z := ((b : Nat) : Int)) ((mY2_M _ _ _ (13) (by decide)).trans hb) ?_
    refine TT.aldN (cd := cd75) (307) (b) rfl rfl rfl rfl (show b < 2 by (have := mY2_le σ v n; omega)) ?_
    refine TT.top0 (z := ((np : Nat) : Int)) ((mY2_fr _ _ _ 307 (b) (by decide)).trans hnp) ?_
    refine TT.steps (cd := cd75) 1 (c' := ((if decide (((np : Nat) : Int) ≤ ((n : Nat) : Int)) = true then 97 else 58), [(2, 295), (0, ((v : Nat) : Int)), (0, (((mY2 σ v n).1 : Nat) : Int)), (0, ((n : Nat) : Int)), x4], [], ((mY2 σ v n).2))) rfl rfl ?_
    refine TT.br (p := ((np : Nat) : Int) ≤ ((n : Nat) : Int)) (fun h1 => ?_) (fun h1 => absurd (show ((np : Nat) : Int) ≤ ((n : Nat) : Int) by omega) h1)
    subst hnn
    exact kk _ _
  | succ d ih =>
    intro n hn x4
    refine TT.steps (cd := cd75) 5 (c' := (56, [(2, 295), (0, ((v : Nat) : Int)), (0, (((mY2 σ v n).1 : Nat) : Int)), (0, ((n : Nat) : Int)), x4], [(0, (((mY2 σ v n).2) 295 13)), (2, 307), (0, ((n : Nat) : Int))], ((mY2 σ v n).2))) rfl rfl ?_
    refine TT.top0 (z := ((b : Nat) : Int)) ((mY2_M _ _ _ (13) (by decide)).trans hb) ?_
    refine TT.aldN (cd := cd75) (307) (b) rfl rfl rfl rfl (show b < 2 by (have := mY2_le σ v n; omega)) ?_
    refine TT.top0 (z := ((np : Nat) : Int)) ((mY2_fr _ _ _ 307 (b) (by decide)).trans hnp) ?_
    refine TT.steps (cd := cd75) 1 (c' := ((if decide (((np : Nat) : Int) ≤ ((n : Nat) : Int)) = true then 97 else 58), [(2, 295), (0, ((v : Nat) : Int)), (0, (((mY2 σ v n).1 : Nat) : Int)), (0, ((n : Nat) : Int)), x4], [], ((mY2 σ v n).2))) rfl rfl ?_
    refine TT.br (p := ((np : Nat) : Int) ≤ ((n : Nat) : Int)) (fun h1 => absurd h1 (show ¬ (((np : Nat) : Int) ≤ ((n : Nat) : Int)) by omega)) (fun h1 => ?_)
    refine TT.steps (cd := cd75) 3 (c' := (61, [(2, 295), (0, ((v : Nat) : Int)), (0, (((mY2 σ v n).1 : Nat) : Int)), (0, ((n : Nat) : Int)), x4], [(0, (aMul 10 ((v : Nat) : Int)))], ((mY2 σ v n).2))) rfl rfl ?_
    refine TT.top0 (z := ((10 * v : Nat) : Int)) (aMul_n (a := 10) (b := v) (by (have := mY2_le σ v n; omega))) ?_
    refine TT.steps (cd := cd75) 2 (c' := (63, [(2, 295), (0, ((v : Nat) : Int)), (0, (((mY2 σ v n).1 : Nat) : Int)), (0, ((n : Nat) : Int)), x4], [(0, (aAdd ((10 * v : Nat) : Int) ((n : Nat) : Int)))], ((mY2 σ v n).2))) rfl rfl ?_
    refine TT.top0 (z := (((10 * v) + n : Nat) : Int)) (aAdd_n (a := 10 * v) (b := n) (by (have := mY2_le σ v n; omega))) ?_
    refine TT.steps (cd := cd75) 3 (c' := (66, [(2, 295), (0, ((v : Nat) : Int)), (0, (((mY2 σ v n).1 : Nat) : Int)), (0, ((n : Nat) : Int)), (0, (((10 * v) + n : Nat) : Int))], [(0, 100), (2, 295)], ((mY2 σ v n).2))) rfl rfl ?_
    refine TT.call (cd := cd75) rfl rfl rfl (by decide) rfl (t_draw X ((mY2 σ v n).2)) (fun r2 σ2 hq => ?_)
    rw [hq.1, hq.2]
    refine TT.steps (cd := cd75) 3 (c' := (70, [(2, 295), (0, ((v : Nat) : Int)), (0, (((mY2 σ v n).1 : Nat) : Int)), (0, ((n : Nat) : Int)), (0, (((10 * v) + n : Nat) : Int))], [(0, (((10 * v) + n : Nat) : Int)), (2, 317), (0, (mDrw (mSeed (((mY2 σ v n).2) 295 43))))], (up2 ((mY2 σ v n).2) 295 43 (mSeed (((mY2 σ v n).2) 295 43))))) rfl rfl ?_
    refine TT.aldN (cd := cd75) (317) ((10 * v) + n) rfl rfl rfl rfl (show (10 * v) + n < 220 by (have := mY2_le σ v n; omega)) ?_
    refine TT.top0 (z := (((mY2 σ v n).2) 317 ((10 * v) + n))) (up2_far (k := 295) (k' := 317) _ _ _ _ (by decide)) ?_
    refine TT.steps (cd := cd75) 1 (c' := ((if decide ((((mY2 σ v n).2) 317 ((10 * v) + n)) ≤ (mDrw (mSeed (((mY2 σ v n).2) 295 43)))) = true then 77 else 72), [(2, 295), (0, ((v : Nat) : Int)), (0, (((mY2 σ v n).1 : Nat) : Int)), (0, ((n : Nat) : Int)), (0, (((10 * v) + n : Nat) : Int))], [], (up2 ((mY2 σ v n).2) 295 43 (mSeed (((mY2 σ v n).2) 295 43))))) rfl rfl ?_
    refine TT.br (p := (((mY2 σ v n).2) 317 ((10 * v) + n)) ≤ (mDrw (mSeed (((mY2 σ v n).2) 295 43)))) (fun h3 => ?_) (fun h3 => ?_)
    · refine TT.steps (cd := cd75) 6 (c' := (83, [(2, 295), (0, ((v : Nat) : Int)), (0, (((mY2 σ v n).1 : Nat) : Int)), (0, ((n : Nat) : Int)), (0, (((10 * v) + n : Nat) : Int))], [(0, (((10 * v) + n : Nat) : Int)), (2, 317), (0, (((10 * v) + n : Nat) : Int)), (2, 317)], (up2 ((mY2 σ v n).2) 295 43 (mSeed (((mY2 σ v n).2) 295 43))))) rfl rfl ?_
      refine TT.aldN (cd := cd75) (317) ((10 * v) + n) rfl rfl rfl rfl (show (10 * v) + n < 220 by (have := mY2_le σ v n; omega)) ?_
      refine TT.top0 (z := (((mY2 σ v n).2) 317 ((10 * v) + n))) (up2_far (k := 295) (k' := 317) _ _ _ _ (by decide)) ?_
      refine TT.steps (cd := cd75) 2 (c' := ((if decide (99 ≤ (((mY2 σ v n).2) 317 ((10 * v) + n))) = true then 93 else 86), [(2, 295), (0, ((v : Nat) : Int)), (0, (((mY2 σ v n).1 : Nat) : Int)), (0, ((n : Nat) : Int)), (0, (((10 * v) + n : Nat) : Int))], [(0, (((10 * v) + n : Nat) : Int)), (2, 317)], (up2 ((mY2 σ v n).2) 295 43 (mSeed (((mY2 σ v n).2) 295 43))))) rfl rfl ?_
      refine TT.br (p := 99 ≤ (((mY2 σ v n).2) 317 ((10 * v) + n))) (fun h4 => ?_) (fun h4 => ?_)
      · refine TT.steps (cd := cd75) 1 (c' := (94, [(2, 295), (0, ((v : Nat) : Int)), (0, (((mY2 σ v n).1 : Nat) : Int)), (0, ((n : Nat) : Int)), (0, (((10 * v) + n : Nat) : Int))], [(0, 99), (0, (((10 * v) + n : Nat) : Int)), (2, 317)], (up2 ((mY2 σ v n).2) 295 43 (mSeed (((mY2 σ v n).2) 295 43))))) rfl rfl ?_
        refine TT.astN (cd := cd75) (317) ((10 * v) + n) rfl rfl rfl rfl (show (10 * v) + n < 220 by (have := mY2_le σ v n; omega)) ?_
        refine TT.inc (cd := cd75) ((n + 1 : Nat) : Int) rfl rfl rfl rfl (fun h => absurd h.2 (show ¬ (0 = 1) by decide)) (aAdd_n (a := n) (b := 1) (by (have := mY2_le σ v n; omega))) (ls' := [(2, 295), (0, ((v : Nat) : Int)), (0, (((mY2 σ v n).1 : Nat) : Int)), (0, ((n + 1 : Nat) : Int)), (0, (((10 * v) + n : Nat) : Int))]) rfl ?_
        refine TT.steps (cd := cd75) 1 (c' := (51, [(2, 295), (0, ((v : Nat) : Int)), (0, (((mY2 σ v n).1 : Nat) : Int)), (0, ((n + 1 : Nat) : Int)), (0, (((10 * v) + n : Nat) : Int))], [], (up2 (up2 ((mY2 σ v n).2) 295 43 (mSeed (((mY2 σ v n).2) 295 43))) 317 ((10 * v) + n) 99))) rfl rfl ?_
        have e1 : mY2 σ v (n + 1) = ((mY2 σ v n).1, (up2 (up2 ((mY2 σ v n).2) 295 43 (mSeed (((mY2 σ v n).2) 295 43))) 317 ((10 * v) + n) 99)) := by
          rw [mY2]
          first | (rw [if_pos (by omega)]; done) | (rw [if_neg (by omega), if_pos (by omega)]; done) | (rw [if_neg (by omega), if_neg (by omega)]; done)
        have := ih (n + 1) (by omega) (0, (((10 * v) + n : Nat) : Int))
        rw [e1] at this
        exact this
      · refine TT.steps (cd := cd75) 3 (c' := (89, [(2, 295), (0, ((v : Nat) : Int)), (0, (((mY2 σ v n).1 : Nat) : Int)), (0, ((n : Nat) : Int)), (0, (((10 * v) + n : Nat) : Int))], [(0, (((10 * v) + n : Nat) : Int)), (2, 317), (0, (((10 * v) + n : Nat) : Int)), (2, 317)], (up2 ((mY2 σ v n).2) 295 43 (mSeed (((mY2 σ v n).2) 295 43))))) rfl rfl ?_
        refine TT.aldN (cd := cd75) (317) ((10 * v) + n) rfl rfl rfl rfl (show (10 * v) + n < 220 by (have := mY2_le σ v n; omega)) ?_
        refine TT.top0 (z := (((mY2 σ v n).2) 317 ((10 * v) + n))) (up2_far (k := 295) (k' := 317) _ _ _ _ (by decide)) ?_
        refine TT.steps (cd := cd75) 2 (c' := (92, [(2, 295), (0, ((v : Nat) : Int)), (0, (((mY2 σ v n).1 : Nat) : Int)), (0, ((n : Nat) : Int)), (0, (((10 * v) + n : Nat) : Int))], [(0, (aAdd (((mY2 σ v n).2) 317 ((10 * v) + n)) 1)), (0, (((10 * v) + n : Nat) : Int)), (2, 317)], (up2 ((mY2 σ v n).2) 295 43 (mSeed (((mY2 σ v n).2) 295 43))))) rfl rfl ?_
        refine TT.steps (cd := cd75) 1 (c' := (94, [(2, 295), (0, ((v : Nat) : Int)), (0, (((mY2 σ v n).1 : Nat) : Int)), (0, ((n : Nat) : Int)), (0, (((10 * v) + n : Nat) : Int))], [(0, (aAdd (((mY2 σ v n).2) 317 ((10 * v) + n)) 1)), (0, (((10 * v) + n : Nat) : Int)), (2, 317)], (up2 ((mY2 σ v n).2) 295 43 (mSeed (((mY2 σ v n).2) 295 43))))) rfl rfl ?_
        refine TT.astN (cd := cd75) (317) ((10 * v) + n) rfl rfl rfl rfl (show (10 * v) + n < 220 by (have := mY2_le σ v n; omega)) ?_
        refine TT.inc (cd := cd75) ((n + 1 : Nat) : Int) rfl rfl rfl rfl (fun h => absurd h.2 (show ¬ (0 = 1) by decide)) (aAdd_n (a := n) (b := 1) (by (have := mY2_le σ v n; omega))) (ls' := [(2, 295), (0, ((v : Nat) : Int)), (0, (((mY2 σ v n).1 : Nat) : Int)), (0, ((n + 1 : Nat) : Int)), (0, (((10 * v) + n : Nat) : Int))]) rfl ?_
        refine TT.steps (cd := cd75) 1 (c' := (51, [(2, 295), (0, ((v : Nat) : Int)), (0, (((mY2 σ v n).1 : Nat) : Int)), (0, ((n + 1 : Nat) : Int)), (0, (((10 * v) + n : Nat) : Int))], [], (up2 (up2 ((mY2 σ v n).2) 295 43 (mSeed (((mY2 σ v n).2) 295 43))) 317 ((10 * v) + n) (aAdd (((mY2 σ v n).2) 317 ((10 * v) + n)) 1)))) rfl rfl ?_
        have e1 : mY2 σ v (n + 1) = ((mY2 σ v n).1, (up2 (up2 ((mY2 σ v n).2) 295 43 (mSeed (((mY2 σ v n).2) 295 43))) 317 ((10 * v) + n) (aAdd (((mY2 σ v n).2) 317 ((10 * v) + n)) 1))) := by
          rw [mY2]
          first | (rw [if_pos (by omega)]; done) | (rw [if_neg (by omega), if_pos (by omega)]; done) | (rw [if_neg (by omega), if_neg (by omega)]; done)
        have := ih (n + 1) (by omega) (0, (((10 * v) + n : Nat) : Int))
        rw [e1] at this
        exact this
    · refine TT.steps (cd := cd75) 2 (c' := (74, [(2, 295), (0, ((v : Nat) : Int)), (0, (((mY2 σ v n).1 : Nat) : Int)), (0, ((n : Nat) : Int)), (0, (((10 * v) + n : Nat) : Int))], [(0, (((10 * v) + n : Nat) : Int)), (2, 295)], (up2 ((mY2 σ v n).2) 295 43 (mSeed (((mY2 σ v n).2) 295 43))))) rfl rfl ?_
      refine TT.call (cd := cd75) rfl rfl rfl (by decide) rfl (t_dies X ((10 * v) + n) (by omega) (up2 ((mY2 σ v n).2) 295 43 (mSeed (((mY2 σ v n).2) 295 43)))) (fun r5 σ5 hq => ?_)
      rw [hq.1, hq.2]
      refine TT.inc (cd := cd75) ((((mY2 σ v n).1) + 1 : Nat) : Int) rfl rfl rfl rfl (fun h => absurd h.2 (show ¬ (0 = 1) by decide)) (aAdd_n (a := (mY2 σ v n).1) (b := 1) (by (have := mY2_le σ v n; omega))) (ls' := [(2, 295), (0, ((v : Nat) : Int)), (0, ((((mY2 σ v n).1) + 1 : Nat) : Int)), (0, ((n : Nat) : Int)), (0, (((10 * v) + n : Nat) : Int))]) rfl ?_
      refine TT.steps (cd := cd75) 1 (c' := (95, [(2, 295), (0, ((v : Nat) : Int)), (0, ((((mY2 σ v n).1) + 1 : Nat) : Int)), (0, ((n : Nat) : Int)), (0, (((10 * v) + n : Nat) : Int))], [], (mDie (up2 ((mY2 σ v n).2) 295 43 (mSeed (((mY2 σ v n).2) 295 43))) ((10 * v) + n)))) rfl rfl ?_
      refine TT.inc (cd := cd75) ((n + 1 : Nat) : Int) rfl rfl rfl rfl (fun h => absurd h.2 (show ¬ (0 = 1) by decide)) (aAdd_n (a := n) (b := 1) (by (have := mY2_le σ v n; omega))) (ls' := [(2, 295), (0, ((v : Nat) : Int)), (0, ((((mY2 σ v n).1) + 1 : Nat) : Int)), (0, ((n + 1 : Nat) : Int)), (0, (((10 * v) + n : Nat) : Int))]) rfl ?_
      refine TT.steps (cd := cd75) 1 (c' := (51, [(2, 295), (0, ((v : Nat) : Int)), (0, ((((mY2 σ v n).1) + 1 : Nat) : Int)), (0, ((n + 1 : Nat) : Int)), (0, (((10 * v) + n : Nat) : Int))], [], (mDie (up2 ((mY2 σ v n).2) 295 43 (mSeed (((mY2 σ v n).2) 295 43))) ((10 * v) + n)))) rfl rfl ?_
      have e1 : mY2 σ v (n + 1) = (((mY2 σ v n).1) + 1, (mDie (up2 ((mY2 σ v n).2) 295 43 (mSeed (((mY2 σ v n).2) 295 43))) ((10 * v) + n))) := by
        rw [mY2]
        first | (rw [if_pos (by omega)]; done) | (rw [if_neg (by omega), if_pos (by omega)]; done) | (rw [if_neg (by omega), if_neg (by omega)]; done)
      have := ih (n + 1) (by omega) (0, (((10 * v) + n : Nat) : Int))
      rw [e1] at this
      exact this
