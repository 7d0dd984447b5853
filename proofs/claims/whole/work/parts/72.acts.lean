theorem v_save_0 (X : AX) (w : Nat) (hw2 : w ≤ 20) (σ : AH) (htp : σ 48 2 = 0) (hw : σ 48 0 = (w : Int))  : TT X 113 (0, [(2, 48), (2, 36), (9, 0)], [], σ) (fun r σ' => r = none ∧ ∃ τ, CP σ τ 50 36 ∧ σ' = up2 (up2 τ 48 2 1) 48 0 ((if w = 20 then 20 else w + 1 : Nat) : Int)) := by
  refine TT.steps (cd := cd113) 4 (c' := (4, [(2, 48), (2, 36), (9, 0)], [(0, (σ 48 2)), (2, 49)], σ)) rfl rfl ?_
  refine TT.top0 (z := 0) htp ?_
  refine TT.aaldN (cd := cd113) 49 0 50 rfl rfl rfl (Or.inl rfl) (by decide) rfl ?_
  refine TT.steps (cd := cd113) 5 (c' := (10, [(2, 48), (2, 36), (2, 50)], [(2, 36), (2, 50)], σ)) rfl rfl ?_
  refine TT.call (cd := cd113) rfl rfl rfl (by decide) rfl (v_copy_50_36 X σ) (fun r1 σ1 hq => ?_)
  obtain ⟨rfl, hC⟩ := hq
  refine TT.steps (cd := cd113) 3 (c' := (14, [(2, 48), (2, 36), (2, 50)], [(0, (σ1 48 2)), (2, 48)], σ1)) rfl rfl ?_
  refine TT.top0 (z := 0) ((hC.1 48 (2) (by omega)).trans htp) ?_
  refine TT.steps (cd := cd113) 2 (c' := (16, [(2, 48), (2, 36), (2, 50)], [(0, (aAdd 0 1)), (2, 48)], σ1)) rfl rfl ?_
  refine TT.top0 (z := 1) (by decide) ?_
  refine TT.steps (cd := cd113) 2 (c' := (18, [(2, 48), (2, 36), (2, 50)], [(0, (aRem 1 20)), (2, 48)], σ1)) rfl rfl ?_
  refine TT.top0 (z := 1) (by decide) ?_
  refine TT.steps (cd := cd113) 4 (c' := (22, [(2, 48), (2, 36), (2, 50)], [(0, ((up2 σ1 48 2 1) 48 0)), (2, 48)], (up2 σ1 48 2 1))) rfl rfl ?_
  refine TT.top0 (z := ((w : Nat) : Int)) (((up2_by _ _ (j := 2) (j' := 0) _ (by decide)).trans (hC.1 48 (0) (by omega))).trans hw) ?_
  refine TT.steps (cd := cd113) 2 (c' := (24, [(2, 48), (2, 36), (2, 50)], [(0, (aAdd ((w : Nat) : Int) 1)), (2, 48)], (up2 σ1 48 2 1))) rfl rfl ?_
  refine TT.top0 (z := ((w + 1 : Nat) : Int)) (aAdd_n (a := w) (b := 1) (by omega)) ?_
  refine TT.steps (cd := cd113) 1 (c' := (25, [(2, 48), (2, 36), (2, 50)], [(0, 20), (0, ((w + 1 : Nat) : Int)), (2, 48)], (up2 σ1 48 2 1))) rfl rfl ?_
  refine TT.steps (cd := cd113) 1 (c' := (26, [(2, 48), (2, 36), (2, 50)], [(0, (aMin ((w + 1 : Nat) : Int) 20)), (2, 48)], (up2 σ1 48 2 1))) rfl rfl ?_
  refine TT.top0 (z := (((if w = 20 then 20 else w + 1) : Nat) : Int)) (by unfold aMin; split <;> split <;> omega) ?_
  refine TT.steps (cd := cd113) 1 (c' := (27, [(2, 48), (2, 36), (2, 50)], [], (up2 (up2 σ1 48 2 1) 48 0 (((if w = 20 then 20 else w + 1) : Nat) : Int)))) rfl rfl ?_
  exact TT.ret (cd := cd113) rfl rfl rfl rfl (⟨rfl, _, hC, rfl⟩)
theorem v_restore0_0 (X : AX) (σ : AH) (htp : σ 48 2 = 0) (hw : σ 48 0 = 0)  : TT X 114 (0, [(2, 48), (2, 36), (9, 0), (9, 0)], [], σ) (fun r σ' => r = some (0, 0) ∧ σ' = σ) := by
  refine TT.steps (cd := cd114) 2 (c' := (2, [(2, 48), (2, 36), (9, 0), (9, 0)], [(0, (σ 48 2))], σ)) rfl rfl ?_
  refine TT.top0 (z := 0) htp ?_
  refine TT.steps (cd := cd114) 2 (c' := (4, [(2, 48), (2, 36), (9, 0), (9, 0)], [(0, (aAdd 0 20))], σ)) rfl rfl ?_
  refine TT.top0 (z := 20) (by decide) ?_
  refine TT.steps (cd := cd114) 2 (c' := (6, [(2, 48), (2, 36), (9, 0), (9, 0)], [(0, (aSub 20 1))], σ)) rfl rfl ?_
  refine TT.top0 (z := 19) (by decide) ?_
  refine TT.steps (cd := cd114) 2 (c' := (8, [(2, 48), (2, 36), (9, 0), (9, 0)], [(0, (aRem 19 20))], σ)) rfl rfl ?_
  refine TT.top0 (z := 19) (by decide) ?_
  refine TT.steps (cd := cd114) 4 (c' := (12, [(2, 48), (2, 36), (0, 19), (9, 0)], [(0, 19), (2, 49)], σ)) rfl rfl ?_
  refine TT.aaldN (cd := cd114) 49 19 164 rfl rfl rfl (Or.inl rfl) (by decide) rfl ?_
  refine TT.steps (cd := cd114) 3 (c' := (16, [(2, 48), (2, 36), (0, 19), (2, 164)], [(0, (σ 48 0))], σ)) rfl rfl ?_
  refine TT.top0 (z := 0) hw ?_
  refine TT.steps (cd := cd114) 2 (c' := (20, [(2, 48), (2, 36), (0, 19), (2, 164)], [(0, 0)], σ)) rfl rfl ?_
  exact TT.ret (cd := cd114) rfl rfl rfl rfl (⟨rfl, rfl⟩)
theorem v_restore1_0 (X : AX) (w : Nat) (hw0 : 0 < w) (hw2 : w ≤ 20) (σ : AH) (htp : σ 48 2 = 0) (hw : σ 48 0 = (w : Int))  : TT X 114 (0, [(2, 48), (2, 36), (9, 0), (9, 0)], [], σ) (fun r σ' => r = some (0, 1) ∧ ∃ τ, CP σ τ 36 164 ∧ σ' = up2 (up2 τ 48 2 19) 48 0 ((w - 1 : Nat) : Int)) := by
  refine TT.steps (cd := cd114) 2 (c' := (2, [(2, 48), (2, 36), (9, 0), (9, 0)], [(0, (σ 48 2))], σ)) rfl rfl ?_
  refine TT.top0 (z := 0) htp ?_
  refine TT.steps (cd := cd114) 2 (c' := (4, [(2, 48), (2, 36), (9, 0), (9, 0)], [(0, (aAdd 0 20))], σ)) rfl rfl ?_
  refine TT.top0 (z := 20) (by decide) ?_
  refine TT.steps (cd := cd114) 2 (c' := (6, [(2, 48), (2, 36), (9, 0), (9, 0)], [(0, (aSub 20 1))], σ)) rfl rfl ?_
  refine TT.top0 (z := 19) (by decide) ?_
  refine TT.steps (cd := cd114) 2 (c' := (8, [(2, 48), (2, 36), (9, 0), (9, 0)], [(0, (aRem 19 20))], σ)) rfl rfl ?_
  refine TT.top0 (z := 19) (by decide) ?_
  refine TT.steps (cd := cd114) 4 (c' := (12, [(2, 48), (2, 36), (0, 19), (9, 0)], [(0, 19), (2, 49)], σ)) rfl rfl ?_
  refine TT.aaldN (cd := cd114) 49 19 164 rfl rfl rfl (Or.inl rfl) (by decide) rfl ?_
  refine TT.steps (cd := cd114) 3 (c' := (16, [(2, 48), (2, 36), (0, 19), (2, 164)], [(0, (σ 48 0))], σ)) rfl rfl ?_
  refine TT.top0 (z := ((w : Nat) : Int)) hw ?_
  refine TT.steps (cd := cd114) 1 (c' := ((if decide (((w : Nat) : Int) = 0) = true then 19 else 17), [(2, 48), (2, 36), (0, 19), (2, 164)], [], σ)) rfl rfl ?_
  refine TT.br (p := ((w : Nat) : Int) = 0) (fun h1 => absurd h1 (show ¬ (((w : Nat) : Int) = 0) by omega)) (fun h1 => ?_)
  refine TT.steps (cd := cd114) 4 (c' := (23, [(2, 48), (2, 36), (0, 19), (2, 164)], [(2, 164), (2, 36)], σ)) rfl rfl ?_
  refine TT.call (cd := cd114) rfl rfl rfl (by decide) rfl (v_copy_36_164 X σ) (fun r2 σ2 hq => ?_)
  obtain ⟨rfl, hC⟩ := hq
  refine TT.steps (cd := cd114) 6 (c' := (30, [(2, 48), (2, 36), (0, 19), (2, 164)], [(0, ((up2 σ2 48 2 19) 48 0)), (2, 48)], (up2 σ2 48 2 19))) rfl rfl ?_
  refine TT.top0 (z := ((w : Nat) : Int)) (((up2_by _ _ (j := 2) (j' := 0) _ (by decide)).trans (hC.1 48 (0) (by omega))).trans hw) ?_
  refine TT.steps (cd := cd114) 2 (c' := (32, [(2, 48), (2, 36), (0, 19), (2, 164)], [(0, (aSub ((w : Nat) : Int) 1)), (2, 48)], (up2 σ2 48 2 19))) rfl rfl ?_
  refine TT.top0 (z := ((w - 1 : Nat) : Int)) (aSub_n (a := w) (b := 1) (by omega) (by omega)) ?_
  refine TT.steps (cd := cd114) 2 (c' := (34, [(2, 48), (2, 36), (0, 19), (2, 164)], [(0, 1)], (up2 (up2 σ2 48 2 19) 48 0 ((w - 1 : Nat) : Int)))) rfl rfl ?_
  exact TT.ret (cd := cd114) rfl rfl rfl rfl (⟨rfl, _, hC, rfl⟩)
theorem v_save_1 (X : AX) (w : Nat) (hw2 : w ≤ 20) (σ : AH) (htp : σ 48 2 = 1) (hw : σ 48 0 = (w : Int))  : TT X 113 (0, [(2, 48), (2, 36), (9, 0)], [], σ) (fun r σ' => r = none ∧ ∃ τ, CP σ τ 56 36 ∧ σ' = up2 (up2 τ 48 2 2) 48 0 ((if w = 20 then 20 else w + 1 : Nat) : Int)) := by
  refine TT.steps (cd := cd113) 4 (c' := (4, [(2, 48), (2, 36), (9, 0)], [(0, (σ 48 2)), (2, 49)], σ)) rfl rfl ?_
  refine TT.top0 (z := 1) htp ?_
  refine TT.aaldN (cd := cd113) 49 1 56 rfl rfl rfl (Or.inl rfl) (by decide) rfl ?_
  refine TT.steps (cd := cd113) 5 (c' := (10, [(2, 48), (2, 36), (2, 56)], [(2, 36), (2, 56)], σ)) rfl rfl ?_
  refine TT.call (cd := cd113) rfl rfl rfl (by decide) rfl (v_copy_56_36 X σ) (fun r1 σ1 hq => ?_)
  obtain ⟨rfl, hC⟩ := hq
  refine TT.steps (cd := cd113) 3 (c' := (14, [(2, 48), (2, 36), (2, 56)], [(0, (σ1 48 2)), (2, 48)], σ1)) rfl rfl ?_
  refine TT.top0 (z := 1) ((hC.1 48 (2) (by omega)).trans htp) ?_
  refine TT.steps (cd := cd113) 2 (c' := (16, [(2, 48), (2, 36), (2, 56)], [(0, (aAdd 1 1)), (2, 48)], σ1)) rfl rfl ?_
  refine TT.top0 (z := 2) (by decide) ?_
  refine TT.steps (cd := cd113) 2 (c' := (18, [(2, 48), (2, 36), (2, 56)], [(0, (aRem 2 20)), (2, 48)], σ1)) rfl rfl ?_
  refine TT.top0 (z := 2) (by decide) ?_
  refine TT.steps (cd := cd113) 4 (c' := (22, [(2, 48), (2, 36), (2, 56)], [(0, ((up2 σ1 48 2 2) 48 0)), (2, 48)], (up2 σ1 48 2 2))) rfl rfl ?_
  refine TT.top0 (z := ((w : Nat) : Int)) (((up2_by _ _ (j := 2) (j' := 0) _ (by decide)).trans (hC.1 48 (0) (by omega))).trans hw) ?_
  refine TT.steps (cd := cd113) 2 (c' := (24, [(2, 48), (2, 36), (2, 56)], [(0, (aAdd ((w : Nat) : Int) 1)), (2, 48)], (up2 σ1 48 2 2))) rfl rfl ?_
  refine TT.top0 (z := ((w + 1 : Nat) : Int)) (aAdd_n (a := w) (b := 1) (by omega)) ?_
  refine TT.steps (cd := cd113) 1 (c' := (25, [(2, 48), (2, 36), (2, 56)], [(0, 20), (0, ((w + 1 : Nat) : Int)), (2, 48)], (up2 σ1 48 2 2))) rfl rfl ?_
  refine TT.steps (cd := cd113) 1 (c' := (26, [(2, 48), (2, 36), (2, 56)], [(0, (aMin ((w + 1 : Nat) : Int) 20)), (2, 48)], (up2 σ1 48 2 2))) rfl rfl ?_
  refine TT.top0 (z := (((if w = 20 then 20 else w + 1) : Nat) : Int)) (by unfold aMin; split <;> split <;> omega) ?_
  refine TT.steps (cd := cd113) 1 (c' := (27, [(2, 48), (2, 36), (2, 56)], [], (up2 (up2 σ1 48 2 2) 48 0 (((if w = 20 then 20 else w + 1) : Nat) : Int)))) rfl rfl ?_
  exact TT.ret (cd := cd113) rfl rfl rfl rfl (⟨rfl, _, hC, rfl⟩)
theorem v_restore0_1 (X : AX) (σ : AH) (htp : σ 48 2 = 1) (hw : σ 48 0 = 0)  : TT X 114 (0, [(2, 48), (2, 36), (9, 0), (9, 0)], [], σ) (fun r σ' => r = some (0, 0) ∧ σ' = σ) := by
  refine TT.steps (cd := cd114) 2 (c' := (2, [(2, 48), (2, 36), (9, 0), (9, 0)], [(0, (σ 48 2))], σ)) rfl rfl ?_
  refine TT.top0 (z := 1) htp ?_
  refine TT.steps (cd := cd114) 2 (c' := (4, [(2, 48), (2, 36), (9, 0), (9, 0)], [(0, (aAdd 1 20))], σ)) rfl rfl ?_
  refine TT.top0 (z := 21) (by decide) ?_
  refine TT.steps (cd := cd114) 2 (c' := (6, [(2, 48), (2, 36), (9, 0), (9, 0)], [(0, (aSub 21 1))], σ)) rfl rfl ?_
  refine TT.top0 (z := 20) (by decide) ?_
  refine TT.steps (cd := cd114) 2 (c' := (8, [(2, 48), (2, 36), (9, 0), (9, 0)], [(0, (aRem 20 20))], σ)) rfl rfl ?_
  refine TT.top0 (z := 0) (by decide) ?_
  refine TT.steps (cd := cd114) 4 (c' := (12, [(2, 48), (2, 36), (0, 0), (9, 0)], [(0, 0), (2, 49)], σ)) rfl rfl ?_
  refine TT.aaldN (cd := cd114) 49 0 50 rfl rfl rfl (Or.inl rfl) (by decide) rfl ?_
  refine TT.steps (cd := cd114) 3 (c' := (16, [(2, 48), (2, 36), (0, 0), (2, 50)], [(0, (σ 48 0))], σ)) rfl rfl ?_
  refine TT.top0 (z := 0) hw ?_
  refine TT.steps (cd := cd114) 2 (c' := (20, [(2, 48), (2, 36), (0, 0), (2, 50)], [(0, 0)], σ)) rfl rfl ?_
  exact TT.ret (cd := cd114) rfl rfl rfl rfl (⟨rfl, rfl⟩)
theorem v_restore1_1 (X : AX) (w : Nat) (hw0 : 0 < w) (hw2 : w ≤ 20) (σ : AH) (htp : σ 48 2 = 1) (hw : σ 48 0 = (w : Int))  : TT X 114 (0, [(2, 48), (2, 36), (9, 0), (9, 0)], [], σ) (fun r σ' => r = some (0, 1) ∧ ∃ τ, CP σ τ 36 50 ∧ σ' = up2 (up2 τ 48 2 0) 48 0 ((w - 1 : Nat) : Int)) := by
  refine TT.steps (cd := cd114) 2 (c' := (2, [(2, 48), (2, 36), (9, 0), (9, 0)], [(0, (σ 48 2))], σ)) rfl rfl ?_
  refine TT.top0 (z := 1) htp ?_
  refine TT.steps (cd := cd114) 2 (c' := (4, [(2, 48), (2, 36), (9, 0), (9, 0)], [(0, (aAdd 1 20))], σ)) rfl rfl ?_
  refine TT.top0 (z := 21) (by decide) ?_
  refine TT.steps (cd := cd114) 2 (c' := (6, [(2, 48), (2, 36), (9, 0), (9, 0)], [(0, (aSub 21 1))], σ)) rfl rfl ?_
  refine TT.top0 (z := 20) (by decide) ?_
  refine TT.steps (cd := cd114) 2 (c' := (8, [(2, 48), (2, 36), (9, 0), (9, 0)], [(0, (aRem 20 20))], σ)) rfl rfl ?_
  refine TT.top0 (z := 0) (by decide) ?_
  refine TT.steps (cd := cd114) 4 (c' := (12, [(2, 48), (2, 36), (0, 0), (9, 0)], [(0, 0), (2, 49)], σ)) rfl rfl ?_
  refine TT.aaldN (cd := cd114) 49 0 50 rfl rfl rfl (Or.inl rfl) (by decide) rfl ?_
  refine TT.steps (cd := cd114) 3 (c' := (16, [(2, 48), (2, 36), (0, 0), (2, 50)], [(0, (σ 48 0))], σ)) rfl rfl ?_
  refine TT.top0 (z := ((w : Nat) : Int)) hw ?_
  refine TT.steps (cd := cd114) 1 (c' := ((if decide (((w : Nat) : Int) = 0) = true then 19 else 17), [(2, 48), (2, 36), (0, 0), (2, 50)], [], σ)) rfl rfl ?_
  refine TT.br (p := ((w : Nat) : Int) = 0) (fun h1 => absurd h1 (show ¬ (((w : Nat) : Int) = 0) by omega)) (fun h1 => ?_)
  refine TT.steps (cd := cd114) 4 (c' := (23, [(2, 48), (2, 36), (0, 0), (2, 50)], [(2, 50), (2, 36)], σ)) rfl rfl ?_
  refine TT.call (cd := cd114) rfl rfl rfl (by decide) rfl (v_copy_36_50 X σ) (fun r2 σ2 hq => ?_)
  obtain ⟨rfl, hC⟩ := hq
  refine TT.steps (cd := cd114) 6 (c' := (30, [(2, 48), (2, 36), (0, 0), (2, 50)], [(0, ((up2 σ2 48 2 0) 48 0)), (2, 48)], (up2 σ2 48 2 0))) rfl rfl ?_
  refine TT.top0 (z := ((w : Nat) : Int)) (((up2_by _ _ (j := 2) (j' := 0) _ (by decide)).trans (hC.1 48 (0) (by omega))).trans hw) ?_
  refine TT.steps (cd := cd114) 2 (c' := (32, [(2, 48), (2, 36), (0, 0), (2, 50)], [(0, (aSub ((w : Nat) : Int) 1)), (2, 48)], (up2 σ2 48 2 0))) rfl rfl ?_
  refine TT.top0 (z := ((w - 1 : Nat) : Int)) (aSub_n (a := w) (b := 1) (by omega) (by omega)) ?_
  refine TT.steps (cd := cd114) 2 (c' := (34, [(2, 48), (2, 36), (0, 0), (2, 50)], [(0, 1)], (up2 (up2 σ2 48 2 0) 48 0 ((w - 1 : Nat) : Int)))) rfl rfl ?_
  exact TT.ret (cd := cd114) rfl rfl rfl rfl (⟨rfl, _, hC, rfl⟩)
theorem v_save_2 (X : AX) (w : Nat) (hw2 : w ≤ 20) (σ : AH) (htp : σ 48 2 = 2) (hw : σ 48 0 = (w : Int))  : TT X 113 (0, [(2, 48), (2, 36), (9, 0)], [], σ) (fun r σ' => r = none ∧ ∃ τ, CP σ τ 62 36 ∧ σ' = up2 (up2 τ 48 2 3) 48 0 ((if w = 20 then 20 else w + 1 : Nat) : Int)) := by
  refine TT.steps (cd := cd113) 4 (c' := (4, [(2, 48), (2, 36), (9, 0)], [(0, (σ 48 2)), (2, 49)], σ)) rfl rfl ?_
  refine TT.top0 (z := 2) htp ?_
  refine TT.aaldN (cd := cd113) 49 2 62 rfl rfl rfl (Or.inl rfl) (by decide) rfl ?_
  refine TT.steps (cd := cd113) 5 (c' := (10, [(2, 48), (2, 36), (2, 62)], [(2, 36), (2, 62)], σ)) rfl rfl ?_
  refine TT.call (cd := cd113) rfl rfl rfl (by decide) rfl (v_copy_62_36 X σ) (fun r1 σ1 hq => ?_)
  obtain ⟨rfl, hC⟩ := hq
  refine TT.steps (cd := cd113) 3 (c' := (14, [(2, 48), (2, 36), (2, 62)], [(0, (σ1 48 2)), (2, 48)], σ1)) rfl rfl ?_
  refine TT.top0 (z := 2) ((hC.1 48 (2) (by omega)).trans htp) ?_
  refine TT.steps (cd := cd113) 2 (c' := (16, [(2, 48), (2, 36), (2, 62)], [(0, (aAdd 2 1)), (2, 48)], σ1)) rfl rfl ?_
  refine TT.top0 (z := 3) (by decide) ?_
  refine TT.steps (cd := cd113) 2 (c' := (18, [(2, 48), (2, 36), (2, 62)], [(0, (aRem 3 20)), (2, 48)], σ1)) rfl rfl ?_
  refine TT.top0 (z := 3) (by decide) ?_
  refine TT.steps (cd := cd113) 4 (c' := (22, [(2, 48), (2, 36), (2, 62)], [(0, ((up2 σ1 48 2 3) 48 0)), (2, 48)], (up2 σ1 48 2 3))) rfl rfl ?_
  refine TT.top0 (z := ((w : Nat) : Int)) (((up2_by _ _ (j := 2) (j' := 0) _ (by decide)).trans (hC.1 48 (0) (by omega))).trans hw) ?_
  refine TT.steps (cd := cd113) 2 (c' := (24, [(2, 48), (2, 36), (2, 62)], [(0, (aAdd ((w : Nat) : Int) 1)), (2, 48)], (up2 σ1 48 2 3))) rfl rfl ?_
  refine TT.top0 (z := ((w + 1 : Nat) : Int)) (aAdd_n (a := w) (b := 1) (by omega)) ?_
  refine TT.steps (cd := cd113) 1 (c' := (25, [(2, 48), (2, 36), (2, 62)], [(0, 20), (0, ((w + 1 : Nat) : Int)), (2, 48)], (up2 σ1 48 2 3))) rfl rfl ?_
  refine TT.steps (cd := cd113) 1 (c' := (26, [(2, 48), (2, 36), (2, 62)], [(0, (aMin ((w + 1 : Nat) : Int) 20)), (2, 48)], (up2 σ1 48 2 3))) rfl rfl ?_
  refine TT.top0 (z := (((if w = 20 then 20 else w + 1) : Nat) : Int)) (by unfold aMin; split <;> split <;> omega) ?_
  refine TT.steps (cd := cd113) 1 (c' := (27, [(2, 48), (2, 36), (2, 62)], [], (up2 (up2 σ1 48 2 3) 48 0 (((if w = 20 then 20 else w + 1) : Nat) : Int)))) rfl rfl ?_
  exact TT.ret (cd := cd113) rfl rfl rfl rfl (⟨rfl, _, hC, rfl⟩)
theorem v_restore0_2 (X : AX) (σ : AH) (htp : σ 48 2 = 2) (hw : σ 48 0 = 0)  : TT X 114 (0, [(2, 48), (2, 36), (9, 0), (9, 0)], [], σ) (fun r σ' => r = some (0, 0) ∧ σ' = σ) := by
  refine TT.steps (cd := cd114) 2 (c' := (2, [(2, 48), (2, 36), (9, 0), (9, 0)], [(0, (σ 48 2))], σ)) rfl rfl ?_
  refine TT.top0 (z := 2) htp ?_
  refine TT.steps (cd := cd114) 2 (c' := (4, [(2, 48), (2, 36), (9, 0), (9, 0)], [(0, (aAdd 2 20))], σ)) rfl rfl ?_
  refine TT.top0 (z := 22) (by decide) ?_
  refine TT.steps (cd := cd114) 2 (c' := (6, [(2, 48), (2, 36), (9, 0), (9, 0)], [(0, (aSub 22 1))], σ)) rfl rfl ?_
  refine TT.top0 (z := 21) (by decide) ?_
  refine TT.steps (cd := cd114) 2 (c' := (8, [(2, 48), (2, 36), (9, 0), (9, 0)], [(0, (aRem 21 20))], σ)) rfl rfl ?_
  refine TT.top0 (z := 1) (by decide) ?_
  refine TT.steps (cd := cd114) 4 (c' := (12, [(2, 48), (2, 36), (0, 1), (9, 0)], [(0, 1), (2, 49)], σ)) rfl rfl ?_
  refine TT.aaldN (cd := cd114) 49 1 56 rfl rfl rfl (Or.inl rfl) (by decide) rfl ?_
  refine TT.steps (cd := cd114) 3 (c' := (16, [(2, 48), (2, 36), (0, 1), (2, 56)], [(0, (σ 48 0))], σ)) rfl rfl ?_
  refine TT.top0 (z := 0) hw ?_
  refine TT.steps (cd := cd114) 2 (c' := (20, [(2, 48), (2, 36), (0, 1), (2, 56)], [(0, 0)], σ)) rfl rfl ?_
  exact TT.ret (cd := cd114) rfl rfl rfl rfl (⟨rfl, rfl⟩)
theorem v_restore1_2 (X : AX) (w : Nat) (hw0 : 0 < w) (hw2 : w ≤ 20) (σ : AH) (htp : σ 48 2 = 2) (hw : σ 48 0 = (w : Int))  : TT X 114 (0, [(2, 48), (2, 36), (9, 0), (9, 0)], [], σ) (fun r σ' => r = some (0, 1) ∧ ∃ τ, CP σ τ 36 56 ∧ σ' = up2 (up2 τ 48 2 1) 48 0 ((w - 1 : Nat) : Int)) := by
  refine TT.steps (cd := cd114) 2 (c' := (2, [(2, 48), (2, 36), (9, 0), (9, 0)], [(0, (σ 48 2))], σ)) rfl rfl ?_
  refine TT.top0 (z := 2) htp ?_
  refine TT.steps (cd := cd114) 2 (c' := (4, [(2, 48), (2, 36), (9, 0), (9, 0)], [(0, (aAdd 2 20))], σ)) rfl rfl ?_
  refine TT.top0 (z := 22) (by decide) ?_
  refine TT.steps (cd := cd114) 2 (c' := (6, [(2, 48), (2, 36), (9, 0), (9, 0)], [(0, (aSub 22 1))], σ)) rfl rfl ?_
  refine TT.top0 (z := 21) (by decide) ?_
  refine TT.steps (cd := cd114) 2 (c' := (8, [(2, 48), (2, 36), (9, 0), (9, 0)], [(0, (aRem 21 20))], σ)) rfl rfl ?_
  refine TT.top0 (z := 1) (by decide) ?_
  refine TT.steps (cd := cd114) 4 (c' := (12, [(2, 48), (2, 36), (0, 1), (9, 0)], [(0, 1), (2, 49)], σ)) rfl rfl ?_
  refine TT.aaldN (cd := cd114) 49 1 56 rfl rfl rfl (Or.inl rfl) (by decide) rfl ?_
  refine TT.steps (cd := cd114) 3 (c' := (16, [(2, 48), (2, 36), (0, 1), (2, 56)], [(0, (σ 48 0))], σ)) rfl rfl ?_
  refine TT.top0 (z := ((w : Nat) : Int)) hw ?_
  refine TT.steps (cd := cd114) 1 (c' := ((if decide (((w : Nat) : Int) = 0) = true then 19 else 17), [(2, 48), (2, 36), (0, 1), (2, 56)], [], σ)) rfl rfl ?_
  refine TT.br (p := ((w : Nat) : Int) = 0) (fun h1 => absurd h1 (show ¬ (((w : Nat) : Int) = 0) by omega)) (fun h1 => ?_)
  refine TT.steps (cd := cd114) 4 (c' := (23, [(2, 48), (2, 36), (0, 1), (2, 56)], [(2, 56), (2, 36)], σ)) rfl rfl ?_
  refine TT.call (cd := cd114) rfl rfl rfl (by decide) rfl (v_copy_36_56 X σ) (fun r2 σ2 hq => ?_)
  obtain ⟨rfl, hC⟩ := hq
  refine TT.steps (cd := cd114) 6 (c' := (30, [(2, 48), (2, 36), (0, 1), (2, 56)], [(0, ((up2 σ2 48 2 1) 48 0)), (2, 48)], (up2 σ2 48 2 1))) rfl rfl ?_
  refine TT.top0 (z := ((w : Nat) : Int)) (((up2_by _ _ (j := 2) (j' := 0) _ (by decide)).trans (hC.1 48 (0) (by omega))).trans hw) ?_
  refine TT.steps (cd := cd114) 2 (c' := (32, [(2, 48), (2, 36), (0, 1), (2, 56)], [(0, (aSub ((w : Nat) : Int) 1)), (2, 48)], (up2 σ2 48 2 1))) rfl rfl ?_
  refine TT.top0 (z := ((w - 1 : Nat) : Int)) (aSub_n (a := w) (b := 1) (by omega) (by omega)) ?_
  refine TT.steps (cd := cd114) 2 (c' := (34, [(2, 48), (2, 36), (0, 1), (2, 56)], [(0, 1)], (up2 (up2 σ2 48 2 1) 48 0 ((w - 1 : Nat) : Int)))) rfl rfl ?_
  exact TT.ret (cd := cd114) rfl rfl rfl rfl (⟨rfl, _, hC, rfl⟩)
theorem v_save_3 (X : AX) (w : Nat) (hw2 : w ≤ 20) (σ : AH) (htp : σ 48 2 = 3) (hw : σ 48 0 = (w : Int))  : TT X 113 (0, [(2, 48), (2, 36), (9, 0)], [], σ) (fun r σ' => r = none ∧ ∃ τ, CP σ τ 68 36 ∧ σ' = up2 (up2 τ 48 2 4) 48 0 ((if w = 20 then 20 else w + 1 : Nat) : Int)) := by
  refine TT.steps (cd := cd113) 4 (c' := (4, [(2, 48), (2, 36), (9, 0)], [(0, (σ 48 2)), (2, 49)], σ)) rfl rfl ?_
  refine TT.top0 (z := 3) htp ?_
  refine TT.aaldN (cd := cd113) 49 3 68 rfl rfl rfl (Or.inl rfl) (by decide) rfl ?_
  refine TT.steps (cd := cd113) 5 (c' := (10, [(2, 48), (2, 36), (2, 68)], [(2, 36), (2, 68)], σ)) rfl rfl ?_
  refine TT.call (cd := cd113) rfl rfl rfl (by decide) rfl (v_copy_68_36 X σ) (fun r1 σ1 hq => ?_)
  obtain ⟨rfl, hC⟩ := hq
  refine TT.steps (cd := cd113) 3 (c' := (14, [(2, 48), (2, 36), (2, 68)], [(0, (σ1 48 2)), (2, 48)], σ1)) rfl rfl ?_
  refine TT.top0 (z := 3) ((hC.1 48 (2) (by omega)).trans htp) ?_
  refine TT.steps (cd := cd113) 2 (c' := (16, [(2, 48), (2, 36), (2, 68)], [(0, (aAdd 3 1)), (2, 48)], σ1)) rfl rfl ?_
  refine TT.top0 (z := 4) (by decide) ?_
  refine TT.steps (cd := cd113) 2 (c' := (18, [(2, 48), (2, 36), (2, 68)], [(0, (aRem 4 20)), (2, 48)], σ1)) rfl rfl ?_
  refine TT.top0 (z := 4) (by decide) ?_
  refine TT.steps (cd := cd113) 4 (c' := (22, [(2, 48), (2, 36), (2, 68)], [(0, ((up2 σ1 48 2 4) 48 0)), (2, 48)], (up2 σ1 48 2 4))) rfl rfl ?_
  refine TT.top0 (z := ((w : Nat) : Int)) (((up2_by _ _ (j := 2) (j' := 0) _ (by decide)).trans (hC.1 48 (0) (by omega))).trans hw) ?_
  refine TT.steps (cd := cd113) 2 (c' := (24, [(2, 48), (2, 36), (2, 68)], [(0, (aAdd ((w : Nat) : Int) 1)), (2, 48)], (up2 σ1 48 2 4))) rfl rfl ?_
  refine TT.top0 (z := ((w + 1 : Nat) : Int)) (aAdd_n (a := w) (b := 1) (by omega)) ?_
  refine TT.steps (cd := cd113) 1 (c' := (25, [(2, 48), (2, 36), (2, 68)], [(0, 20), (0, ((w + 1 : Nat) : Int)), (2, 48)], (up2 σ1 48 2 4))) rfl rfl ?_
  refine TT.steps (cd := cd113) 1 (c' := (26, [(2, 48), (2, 36), (2, 68)], [(0, (aMin ((w + 1 : Nat) : Int) 20)), (2, 48)], (up2 σ1 48 2 4))) rfl rfl ?_
  refine TT.top0 (z := (((if w = 20 then 20 else w + 1) : Nat) : Int)) (by unfold aMin; split <;> split <;> omega) ?_
  refine TT.steps (cd := cd113) 1 (c' := (27, [(2, 48), (2, 36), (2, 68)], [], (up2 (up2 σ1 48 2 4) 48 0 (((if w = 20 then 20 else w + 1) : Nat) : Int)))) rfl rfl ?_
  exact TT.ret (cd := cd113) rfl rfl rfl rfl (⟨rfl, _, hC, rfl⟩)
theorem v_restore0_3 (X : AX) (σ : AH) (htp : σ 48 2 = 3) (hw : σ 48 0 = 0)  : TT X 114 (0, [(2, 48), (2, 36), (9, 0), (9, 0)], [], σ) (fun r σ' => r = some (0, 0) ∧ σ' = σ) := by
  refine TT.steps (cd := cd114) 2 (c' := (2, [(2, 48), (2, 36), (9, 0), (9, 0)], [(0, (σ 48 2))], σ)) rfl rfl ?_
  refine TT.top0 (z := 3) htp ?_
  refine TT.steps (cd := cd114) 2 (c' := (4, [(2, 48), (2, 36), (9, 0), (9, 0)], [(0, (aAdd 3 20))], σ)) rfl rfl ?_
  refine TT.top0 (z := 23) (by decide) ?_
  refine TT.steps (cd := cd114) 2 (c' := (6, [(2, 48), (2, 36), (9, 0), (9, 0)], [(0, (aSub 23 1))], σ)) rfl rfl ?_
  refine TT.top0 (z := 22) (by decide) ?_
  refine TT.steps (cd := cd114) 2 (c' := (8, [(2, 48), (2, 36), (9, 0), (9, 0)], [(0, (aRem 22 20))], σ)) rfl rfl ?_
  refine TT.top0 (z := 2) (by decide) ?_
  refine TT.steps (cd := cd114) 4 (c' := (12, [(2, 48), (2, 36), (0, 2), (9, 0)], [(0, 2), (2, 49)], σ)) rfl rfl ?_
  refine TT.aaldN (cd := cd114) 49 2 62 rfl rfl rfl (Or.inl rfl) (by decide) rfl ?_
  refine TT.steps (cd := cd114) 3 (c' := (16, [(2, 48), (2, 36), (0, 2), (2, 62)], [(0, (σ 48 0))], σ)) rfl rfl ?_
  refine TT.top0 (z := 0) hw ?_
  refine TT.steps (cd := cd114) 2 (c' := (20, [(2, 48), (2, 36), (0, 2), (2, 62)], [(0, 0)], σ)) rfl rfl ?_
  exact TT.ret (cd := cd114) rfl rfl rfl rfl (⟨rfl, rfl⟩)
theorem v_restore1_3 (X : AX) (w : Nat) (hw0 : 0 < w) (hw2 : w ≤ 20) (σ : AH) (htp : σ 48 2 = 3) (hw : σ 48 0 = (w : Int))  : TT X 114 (0, [(2, 48), (2, 36), (9, 0), (9, 0)], [], σ) (fun r σ' => r = some (0, 1) ∧ ∃ τ, CP σ τ 36 62 ∧ σ' = up2 (up2 τ 48 2 2) 48 0 ((w - 1 : Nat) : Int)) := by
  refine TT.steps (cd := cd114) 2 (c' := (2, [(2, 48), (2, 36), (9, 0), (9, 0)], [(0, (σ 48 2))], σ)) rfl rfl ?_
  refine TT.top0 (z := 3) htp ?_
  refine TT.steps (cd := cd114) 2 (c' := (4, [(2, 48), (2, 36), (9, 0), (9, 0)], [(0, (aAdd 3 20))], σ)) rfl rfl ?_
  refine TT.top0 (z := 23) (by decide) ?_
  refine TT.steps (cd := cd114) 2 (c' := (6, [(2, 48), (2, 36), (9, 0), (9, 0)], [(0, (aSub 23 1))], σ)) rfl rfl ?_
  refine TT.top0 (z := 22) (by decide) ?_
  refine TT.steps (cd := cd114) 2 (c' := (8, [(2, 48), (2, 36), (9, 0), (9, 0)], [(0, (aRem 22 20))], σ)) rfl rfl ?_
  refine TT.top0 (z := 2) (by decide) ?_
  refine TT.steps (cd := cd114) 4 (c' := (12, [(2, 48), (2, 36), (0, 2), (9, 0)], [(0, 2), (2, 49)], σ)) rfl rfl ?_
  refine TT.aaldN (cd := cd114) 49 2 62 rfl rfl rfl (Or.inl rfl) (by decide) rfl ?_
  refine TT.steps (cd := cd114) 3 (c' := (16, [(2, 48), (2, 36), (0, 2), (2, 62)], [(0, (σ 48 0))], σ)) rfl rfl ?_
  refine TT.top0 (z := ((w : Nat) : Int)) hw ?_
  refine TT.steps (cd := cd114) 1 (c' := ((if decide (((w : Nat) : Int) = 0) = true then 19 else 17), [(2, 48), (2, 36), (0, 2), (2, 62)], [], σ)) rfl rfl ?_
  refine TT.br (p := ((w : Nat) : Int) = 0) (fun h1 => absurd h1 (show ¬ (((w : Nat) : Int) = 0) by omega)) (fun h1 => ?_)
  refine TT.steps (cd := cd114) 4 (c' := (23, [(2, 48), (2, 36), (0, 2), (2, 62)], [(2, 62), (2, 36)], σ)) rfl rfl ?_
  refine TT.call (cd := cd114) rfl rfl rfl (by decide) rfl (v_copy_36_62 X σ) (fun r2 σ2 hq => ?_)
  obtain ⟨rfl, hC⟩ := hq
  refine TT.steps (cd := cd114) 6 (c' := (30, [(2, 48), (2, 36), (0, 2), (2, 62)], [(0, ((up2 σ2 48 2 2) 48 0)), (2, 48)], (up2 σ2 48 2 2))) rfl rfl ?_
  refine TT.top0 (z := ((w : Nat) : Int)) (((up2_by _ _ (j := 2) (j' := 0) _ (by decide)).trans (hC.1 48 (0) (by omega))).trans hw) ?_
  refine TT.steps (cd := cd114) 2 (c' := (32, [(2, 48), (2, 36), (0, 2), (2, 62)], [(0, (aSub ((w : Nat) : Int) 1)), (2, 48)], (up2 σ2 48 2 2))) rfl rfl ?_
  refine TT.top0 (z := ((w - 1 : Nat) : Int)) (aSub_n (a := w) (b := 1) (by omega) (by omega)) ?_
  refine TT.steps (cd := cd114) 2 (c' := (34, [(2, 48), (2, 36), (0, 2), (2, 62)], [(0, 1)], (up2 (up2 σ2 48 2 2) 48 0 ((w - 1 : Nat) : Int)))) rfl rfl ?_
  exact TT.ret (cd := cd114) rfl rfl rfl rfl (⟨rfl, _, hC, rfl⟩)
theorem v_save_4 (X : AX) (w : Nat) (hw2 : w ≤ 20) (σ : AH) (htp : σ 48 2 = 4) (hw : σ 48 0 = (w : Int))  : TT X 113 (0, [(2, 48), (2, 36), (9, 0)], [], σ) (fun r σ' => r = none ∧ ∃ τ, CP σ τ 74 36 ∧ σ' = up2 (up2 τ 48 2 5) 48 0 ((if w = 20 then 20 else w + 1 : Nat) : Int)) := by
  refine TT.steps (cd := cd113) 4 (c' := (4, [(2, 48), (2, 36), (9, 0)], [(0, (σ 48 2)), (2, 49)], σ)) rfl rfl ?_
  refine TT.top0 (z := 4) htp ?_
  refine TT.aaldN (cd := cd113) 49 4 74 rfl rfl rfl (Or.inl rfl) (by decide) rfl ?_
  refine TT.steps (cd := cd113) 5 (c' := (10, [(2, 48), (2, 36), (2, 74)], [(2, 36), (2, 74)], σ)) rfl rfl ?_
  refine TT.call (cd := cd113) rfl rfl rfl (by decide) rfl (v_copy_74_36 X σ) (fun r1 σ1 hq => ?_)
  obtain ⟨rfl, hC⟩ := hq
  refine TT.steps (cd := cd113) 3 (c' := (14, [(2, 48), (2, 36), (2, 74)], [(0, (σ1 48 2)), (2, 48)], σ1)) rfl rfl ?_
  refine TT.top0 (z := 4) ((hC.1 48 (2) (by omega)).trans htp) ?_
  refine TT.steps (cd := cd113) 2 (c' := (16, [(2, 48), (2, 36), (2, 74)], [(0, (aAdd 4 1)), (2, 48)], σ1)) rfl rfl ?_
  refine TT.top0 (z := 5) (by decide) ?_
  refine TT.steps (cd := cd113) 2 (c' := (18, [(2, 48), (2, 36), (2, 74)], [(0, (aRem 5 20)), (2, 48)], σ1)) rfl rfl ?_
  refine TT.top0 (z := 5) (by decide) ?_
  refine TT.steps (cd := cd113) 4 (c' := (22, [(2, 48), (2, 36), (2, 74)], [(0, ((up2 σ1 48 2 5) 48 0)), (2, 48)], (up2 σ1 48 2 5))) rfl rfl ?_
  refine TT.top0 (z := ((w : Nat) : Int)) (((up2_by _ _ (j := 2) (j' := 0) _ (by decide)).trans (hC.1 48 (0) (by omega))).trans hw) ?_
  refine TT.steps (cd := cd113) 2 (c' := (24, [(2, 48), (2, 36), (2, 74)], [(0, (aAdd ((w : Nat) : Int) 1)), (2, 48)], (up2 σ1 48 2 5))) rfl rfl ?_
  refine TT.top0 (z := ((w + 1 : Nat) : Int)) (aAdd_n (a := w) (b := 1) (by omega)) ?_
  refine TT.steps (cd := cd113) 1 (c' := (25, [(2, 48), (2, 36), (2, 74)], [(0, 20), (0, ((w + 1 : Nat) : Int)), (2, 48)], (up2 σ1 48 2 5))) rfl rfl ?_
  refine TT.steps (cd := cd113) 1 (c' := (26, [(2, 48), (2, 36), (2, 74)], [(0, (aMin ((w + 1 : Nat) : Int) 20)), (2, 48)], (up2 σ1 48 2 5))) rfl rfl ?_
  refine TT.top0 (z := (((if w = 20 then 20 else w + 1) : Nat) : Int)) (by unfold aMin; split <;> split <;> omega) ?_
  refine TT.steps (cd := cd113) 1 (c' := (27, [(2, 48), (2, 36), (2, 74)], [], (up2 (up2 σ1 48 2 5) 48 0 (((if w = 20 then 20 else w + 1) : Nat) : Int)))) rfl rfl ?_
  exact TT.ret (cd := cd113) rfl rfl rfl rfl (⟨rfl, _, hC, rfl⟩)
theorem v_restore0_4 (X : AX) (σ : AH) (htp : σ 48 2 = 4) (hw : σ 48 0 = 0)  : TT X 114 (0, [(2, 48), (2, 36), (9, 0), (9, 0)], [], σ) (fun r σ' => r = some (0, 0) ∧ σ' = σ) := by
  refine TT.steps (cd := cd114) 2 (c' := (2, [(2, 48), (2, 36), (9, 0), (9, 0)], [(0, (σ 48 2))], σ)) rfl rfl ?_
  refine TT.top0 (z := 4) htp ?_
  refine TT.steps (cd := cd114) 2 (c' := (4, [(2, 48), (2, 36), (9, 0), (9, 0)], [(0, (aAdd 4 20))], σ)) rfl rfl ?_
  refine TT.top0 (z := 24) (by decide) ?_
  refine TT.steps (cd := cd114) 2 (c' := (6, [(2, 48), (2, 36), (9, 0), (9, 0)], [(0, (aSub 24 1))], σ)) rfl rfl ?_
  refine TT.top0 (z := 23) (by decide) ?_
  refine TT.steps (cd := cd114) 2 (c' := (8, [(2, 48), (2, 36), (9, 0), (9, 0)], [(0, (aRem 23 20))], σ)) rfl rfl ?_
  refine TT.top0 (z := 3) (by decide) ?_
  refine TT.steps (cd := cd114) 4 (c' := (12, [(2, 48), (2, 36), (0, 3), (9, 0)], [(0, 3), (2, 49)], σ)) rfl rfl ?_
  refine TT.aaldN (cd := cd114) 49 3 68 rfl rfl rfl (Or.inl rfl) (by decide) rfl ?_
  refine TT.steps (cd := cd114) 3 (c' := (16, [(2, 48), (2, 36), (0, 3), (2, 68)], [(0, (σ 48 0))], σ)) rfl rfl ?_
  refine TT.top0 (z := 0) hw ?_
  refine TT.steps (cd := cd114) 2 (c' := (20, [(2, 48), (2, 36), (0, 3), (2, 68)], [(0, 0)], σ)) rfl rfl ?_
  exact TT.ret (cd := cd114) rfl rfl rfl rfl (⟨rfl, rfl⟩)
theorem v_restore1_4 (X : AX) (w : Nat) (hw0 : 0 < w) (hw2 : w ≤ 20) (σ : AH) (htp : σ 48 2 = 4) (hw : σ 48 0 = (w : Int))  : TT X 114 (0, [(2, 48), (2, 36), (9, 0), (9, 0)], [], σ) (fun r σ' => r = some (0, 1) ∧ ∃ τ, CP σ τ 36 68 ∧ σ' = up2 (up2 τ 48 2 3) 48 0 ((w - 1 : Nat) : Int)) := by
  refine TT.steps (cd := cd114) 2 (c' := (2, [(2, 48), (2, 36), (9, 0), (9, 0)], [(0, (σ 48 2))], σ)) rfl rfl ?_
  refine TT.top0 (z := 4) htp ?_
  refine TT.steps (cd := cd114) 2 (c' := (4, [(2, 48), (2, 36), (9, 0), (9, 0)], [(0, (aAdd 4 20))], σ)) rfl rfl ?_
  refine TT.top0 (z := 24) (by decide) ?_
  refine TT.steps (cd := cd114) 2 (c' := (6, [(2, 48), (2, 36), (9, 0), (9, 0)], [(0, (aSub 24 1))], σ)) rfl rfl ?_
  refine TT.top0 (z := 23) (by decide) ?_
  refine TT.steps (cd := cd114) 2 (c' := (8, [(2, 48), (2, 36), (9, 0), (9, 0)], [(0, (aRem 23 20))], σ)) rfl rfl ?_
  refine TT.top0 (z := 3) (by decide) ?_
  refine TT.steps (cd := cd114) 4 (c' := (12, [(2, 48), (2, 36), (0, 3), (9, 0)], [(0, 3), (2, 49)], σ)) rfl rfl ?_
  refine TT.aaldN (cd := cd114) 49 3 68 rfl rfl rfl (Or.inl rfl) (by decide) rfl ?_
  refine TT.steps (cd := cd114) 3 (c' := (16, [(2, 48), (2, 36), (0, 3), (2, 68)], [(0, (σ 48 0))], σ)) rfl rfl ?_
  refine TT.top0 (z := ((w : Nat) : Int)) hw ?_
  refine TT.steps (cd := cd114) 1 (c' := ((if decide (((w : Nat) : Int) = 0) = true then 19 else 17), [(2, 48), (2, 36), (0, 3), (2, 68)], [], σ)) rfl rfl ?_
  refine TT.br (p := ((w : Nat) : Int) = 0) (fun h1 => absurd h1 (show ¬ (((w : Nat) : Int) = 0) by omega)) (fun h1 => ?_)
  refine TT.steps (cd := cd114) 4 (c' := (23, [(2, 48), (2, 36), (0, 3), (2, 68)], [(2, 68), (2, 36)], σ)) rfl rfl ?_
  refine TT.call (cd := cd114) rfl rfl rfl (by decide) rfl (v_copy_36_68 X σ) (fun r2 σ2 hq => ?_)
  obtain ⟨rfl, hC⟩ := hq
  refine TT.steps (cd := cd114) 6 (c' := (30, [(2, 48), (2, 36), (0, 3), (2, 68)], [(0, ((up2 σ2 48 2 3) 48 0)), (2, 48)], (up2 σ2 48 2 3))) rfl rfl ?_
  refine TT.top0 (z := ((w : Nat) : Int)) (((up2_by _ _ (j := 2) (j' := 0) _ (by decide)).trans (hC.1 48 (0) (by omega))).trans hw) ?_
  refine TT.steps (cd := cd114) 2 (c' := (32, [(2, 48), (2, 36), (0, 3), (2, 68)], [(0, (aSub ((w : Nat) : Int) 1)), (2, 48)], (up2 σ2 48 2 3))) rfl rfl ?_
  refine TT.top0 (z := ((w - 1 : Nat) : Int)) (aSub_n (a := w) (b := 1) (by omega) (by omega)) ?_
  refine TT.steps (cd := cd114) 2 (c' := (34, [(2, 48), (2, 36), (0, 3), (2, 68)], [(0, 1)], (up2 (up2 σ2 48 2 3) 48 0 ((w - 1 : Nat) : Int)))) rfl rfl ?_
  exact TT.ret (cd := cd114) rfl rfl rfl rfl (⟨rfl, _, hC, rfl⟩)
theorem v_save_5 (X : AX) (w : Nat) (hw2 : w ≤ 20) (σ : AH) (htp : σ 48 2 = 5) (hw : σ 48 0 = (w : Int))  : TT X 113 (0, [(2, 48), (2, 36), (9, 0)], [], σ) (fun r σ' => r = none ∧ ∃ τ, CP σ τ 80 36 ∧ σ' = up2 (up2 τ 48 2 6) 48 0 ((if w = 20 then 20 else w + 1 : Nat) : Int)) := by
  refine TT.steps (cd := cd113) 4 (c' := (4, [(2, 48), (2, 36), (9, 0)], [(0, (σ 48 2)), (2, 49)], σ)) rfl rfl ?_
  refine TT.top0 (z := 5) htp ?_
  refine TT.aaldN (cd := cd113) 49 5 80 rfl rfl rfl (Or.inl rfl) (by decide) rfl ?_
  refine TT.steps (cd := cd113) 5 (c' := (10, [(2, 48), (2, 36), (2, 80)], [(2, 36), (2, 80)], σ)) rfl rfl ?_
  refine TT.call (cd := cd113) rfl rfl rfl (by decide) rfl (v_copy_80_36 X σ) (fun r1 σ1 hq => ?_)
  obtain ⟨rfl, hC⟩ := hq
  refine TT.steps (cd := cd113) 3 (c' := (14, [(2, 48), (2, 36), (2, 80)], [(0, (σ1 48 2)), (2, 48)], σ1)) rfl rfl ?_
  refine TT.top0 (z := 5) ((hC.1 48 (2) (by omega)).trans htp) ?_
  refine TT.steps (cd := cd113) 2 (c' := (16, [(2, 48), (2, 36), (2, 80)], [(0, (aAdd 5 1)), (2, 48)], σ1)) rfl rfl ?_
  refine TT.top0 (z := 6) (by decide) ?_
  refine TT.steps (cd := cd113) 2 (c' := (18, [(2, 48), (2, 36), (2, 80)], [(0, (aRem 6 20)), (2, 48)], σ1)) rfl rfl ?_
  refine TT.top0 (z := 6) (by decide) ?_
  refine TT.steps (cd := cd113) 4 (c' := (22, [(2, 48), (2, 36), (2, 80)], [(0, ((up2 σ1 48 2 6) 48 0)), (2, 48)], (up2 σ1 48 2 6))) rfl rfl ?_
  refine TT.top0 (z := ((w : Nat) : Int)) (((up2_by _ _ (j := 2) (j' := 0) _ (by decide)).trans (hC.1 48 (0) (by omega))).trans hw) ?_
  refine TT.steps (cd := cd113) 2 (c' := (24, [(2, 48), (2, 36), (2, 80)], [(0, (aAdd ((w : Nat) : Int) 1)), (2, 48)], (up2 σ1 48 2 6))) rfl rfl ?_
  refine TT.top0 (z := ((w + 1 : Nat) : Int)) (aAdd_n (a := w) (b := 1) (by omega)) ?_
  refine TT.steps (cd := cd113) 1 (c' := (25, [(2, 48), (2, 36), (2, 80)], [(0, 20), (0, ((w + 1 : Nat) : Int)), (2, 48)], (up2 σ1 48 2 6))) rfl rfl ?_
  refine TT.steps (cd := cd113) 1 (c' := (26, [(2, 48), (2, 36), (2, 80)], [(0, (aMin ((w + 1 : Nat) : Int) 20)), (2, 48)], (up2 σ1 48 2 6))) rfl rfl ?_
  refine TT.top0 (z := (((if w = 20 then 20 else w + 1) : Nat) : Int)) (by unfold aMin; split <;> split <;> omega) ?_
  refine TT.steps (cd := cd113) 1 (c' := (27, [(2, 48), (2, 36), (2, 80)], [], (up2 (up2 σ1 48 2 6) 48 0 (((if w = 20 then 20 else w + 1) : Nat) : Int)))) rfl rfl ?_
  exact TT.ret (cd := cd113) rfl rfl rfl rfl (⟨rfl, _, hC, rfl⟩)
theorem v_restore0_5 (X : AX) (σ : AH) (htp : σ 48 2 = 5) (hw : σ 48 0 = 0)  : TT X 114 (0, [(2, 48), (2, 36), (9, 0), (9, 0)], [], σ) (fun r σ' => r = some (0, 0) ∧ σ' = σ) := by
  refine TT.steps (cd := cd114) 2 (c' := (2, [(2, 48), (2, 36), (9, 0), (9, 0)], [(0, (σ 48 2))], σ)) rfl rfl ?_
  refine TT.top0 (z := 5) htp ?_
  refine TT.steps (cd := cd114) 2 (c' := (4, [(2, 48), (2, 36), (9, 0), (9, 0)], [(0, (aAdd 5 20))], σ)) rfl rfl ?_
  refine TT.top0 (z := 25) (by decide) ?_
  refine TT.steps (cd := cd114) 2 (c' := (6, [(2, 48), (2, 36), (9, 0), (9, 0)], [(0, (aSub 25 1))], σ)) rfl rfl ?_
  refine TT.top0 (z := 24) (by decide) ?_
  refine TT.steps (cd := cd114) 2 (c' := (8, [(2, 48), (2, 36), (9, 0), (9, 0)], [(0, (aRem 24 20))], σ)) rfl rfl ?_
  refine TT.top0 (z := 4) (by decide) ?_
  refine TT.steps (cd := cd114) 4 (c' := (12, [(2, 48), (2, 36), (0, 4), (9, 0)], [(0, 4), (2, 49)], σ)) rfl rfl ?_
  refine TT.aaldN (cd := cd114) 49 4 74 rfl rfl rfl (Or.inl rfl) (by decide) rfl ?_
  refine TT.steps (cd := cd114) 3 (c' := (16, [(2, 48), (2, 36), (0, 4), (2, 74)], [(0, (σ 48 0))], σ)) rfl rfl ?_
  refine TT.top0 (z := 0) hw ?_
  refine TT.steps (cd := cd114) 2 (c' := (20, [(2, 48), (2, 36), (0, 4), (2, 74)], [(0, 0)], σ)) rfl rfl ?_
  exact TT.ret (cd := cd114) rfl rfl rfl rfl (⟨rfl, rfl⟩)
theorem v_restore1_5 (X : AX) (w : Nat) (hw0 : 0 < w) (hw2 : w ≤ 20) (σ : AH) (htp : σ 48 2 = 5) (hw : σ 48 0 = (w : Int))  : TT X 114 (0, [(2, 48), (2, 36), (9, 0), (9, 0)], [], σ) (fun r σ' => r = some (0, 1) ∧ ∃ τ, CP σ τ 36 74 ∧ σ' = up2 (up2 τ 48 2 4) 48 0 ((w - 1 : Nat) : Int)) := by
  refine TT.steps (cd := cd114) 2 (c' := (2, [(2, 48), (2, 36), (9, 0), (9, 0)], [(0, (σ 48 2))], σ)) rfl rfl ?_
  refine TT.top0 (z := 5) htp ?_
  refine TT.steps (cd := cd114) 2 (c' := (4, [(2, 48), (2, 36), (9, 0), (9, 0)], [(0, (aAdd 5 20))], σ)) rfl rfl ?_
  refine TT.top0 (z := 25) (by decide) ?_
  refine TT.steps (cd := cd114) 2 (c' := (6, [(2, 48), (2, 36), (9, 0), (9, 0)], [(0, (aSub 25 1))], σ)) rfl rfl ?_
  refine TT.top0 (z := 24) (by decide) ?_
  refine TT.steps (cd := cd114) 2 (c' := (8, [(2, 48), (2, 36), (9, 0), (9, 0)], [(0, (aRem 24 20))], σ)) rfl rfl ?_
  refine TT.top0 (z := 4) (by decide) ?_
  refine TT.steps (cd := cd114) 4 (c' := (12, [(2, 48), (2, 36), (0, 4), (9, 0)], [(0, 4), (2, 49)], σ)) rfl rfl ?_
  refine TT.aaldN (cd := cd114) 49 4 74 rfl rfl rfl (Or.inl rfl) (by decide) rfl ?_
  refine TT.steps (cd := cd114) 3 (c' := (16, [(2, 48), (2, 36), (0, 4), (2, 74)], [(0, (σ 48 0))], σ)) rfl rfl ?_
  refine TT.top0 (z := ((w : Nat) : Int)) hw ?_
  refine TT.steps (cd := cd114) 1 (c' := ((if decide (((w : Nat) : Int) = 0) = true then 19 else 17), [(2, 48), (2, 36), (0, 4), (2, 74)], [], σ)) rfl rfl ?_
  refine TT.br (p := ((w : Nat) : Int) = 0) (fun h1 => absurd h1 (show ¬ (((w : Nat) : Int) = 0) by omega)) (fun h1 => ?_)
  refine TT.steps (cd := cd114) 4 (c' := (23, [(2, 48), (2, 36), (0, 4), (2, 74)], [(2, 74), (2, 36)], σ)) rfl rfl ?_
  refine TT.call (cd := cd114) rfl rfl rfl (by decide) rfl (v_copy_36_74 X σ) (fun r2 σ2 hq => ?_)
  obtain ⟨rfl, hC⟩ := hq
  refine TT.steps (cd := cd114) 6 (c' := (30, [(2, 48), (2, 36), (0, 4), (2, 74)], [(0, ((up2 σ2 48 2 4) 48 0)), (2, 48)], (up2 σ2 48 2 4))) rfl rfl ?_
  refine TT.top0 (z := ((w : Nat) : Int)) (((up2_by _ _ (j := 2) (j' := 0) _ (by decide)).trans (hC.1 48 (0) (by omega))).trans hw) ?_
  refine TT.steps (cd := cd114) 2 (c' := (32, [(2, 48), (2, 36), (0, 4), (2, 74)], [(0, (aSub ((w : Nat) : Int) 1)), (2, 48)], (up2 σ2 48 2 4))) rfl rfl ?_
  refine TT.top0 (z := ((w - 1 : Nat) : Int)) (aSub_n (a := w) (b := 1) (by omega) (by omega)) ?_
  refine TT.steps (cd := cd114) 2 (c' := (34, [(2, 48), (2, 36), (0, 4), (2, 74)], [(0, 1)], (up2 (up2 σ2 48 2 4) 48 0 ((w - 1 : Nat) : Int)))) rfl rfl ?_
  exact TT.ret (cd := cd114) rfl rfl rfl rfl (⟨rfl, _, hC, rfl⟩)
theorem v_save_6 (X : AX) (w : Nat) (hw2 : w ≤ 20) (σ : AH) (htp : σ 48 2 = 6) (hw : σ 48 0 = (w : Int))  : TT X 113 (0, [(2, 48), (2, 36), (9, 0)], [], σ) (fun r σ' => r = none ∧ ∃ τ, CP σ τ 86 36 ∧ σ' = up2 (up2 τ 48 2 7) 48 0 ((if w = 20 then 20 else w + 1 : Nat) : Int)) := by
  refine TT.steps (cd := cd113) 4 (c' := (4, [(2, 48), (2, 36), (9, 0)], [(0, (σ 48 2)), (2, 49)], σ)) rfl rfl ?_
  refine TT.top0 (z := 6) htp ?_
  refine TT.aaldN (cd := cd113) 49 6 86 rfl rfl rfl (Or.inl rfl) (by decide) rfl ?_
  refine TT.steps (cd := cd113) 5 (c' := (10, [(2, 48), (2, 36), (2, 86)], [(2, 36), (2, 86)], σ)) rfl rfl ?_
  refine TT.call (cd := cd113) rfl rfl rfl (by decide) rfl (v_copy_86_36 X σ) (fun r1 σ1 hq => ?_)
  obtain ⟨rfl, hC⟩ := hq
  refine TT.steps (cd := cd113) 3 (c' := (14, [(2, 48), (2, 36), (2, 86)], [(0, (σ1 48 2)), (2, 48)], σ1)) rfl rfl ?_
  refine TT.top0 (z := 6) ((hC.1 48 (2) (by omega)).trans htp) ?_
  refine TT.steps (cd := cd113) 2 (c' := (16, [(2, 48), (2, 36), (2, 86)], [(0, (aAdd 6 1)), (2, 48)], σ1)) rfl rfl ?_
  refine TT.top0 (z := 7) (by decide) ?_
  refine TT.steps (cd := cd113) 2 (c' := (18, [(2, 48), (2, 36), (2, 86)], [(0, (aRem 7 20)), (2, 48)], σ1)) rfl rfl ?_
  refine TT.top0 (z := 7) (by decide) ?_
  refine TT.steps (cd := cd113) 4 (c' := (22, [(2, 48), (2, 36), (2, 86)], [(0, ((up2 σ1 48 2 7) 48 0)), (2, 48)], (up2 σ1 48 2 7))) rfl rfl ?_
  refine TT.top0 (z := ((w : Nat) : Int)) (((up2_by _ _ (j := 2) (j' := 0) _ (by decide)).trans (hC.1 48 (0) (by omega))).trans hw) ?_
  refine TT.steps (cd := cd113) 2 (c' := (24, [(2, 48), (2, 36), (2, 86)], [(0, (aAdd ((w : Nat) : Int) 1)), (2, 48)], (up2 σ1 48 2 7))) rfl rfl ?_
  refine TT.top0 (z := ((w + 1 : Nat) : Int)) (aAdd_n (a := w) (b := 1) (by omega)) ?_
  refine TT.steps (cd := cd113) 1 (c' := (25, [(2, 48), (2, 36), (2, 86)], [(0, 20), (0, ((w + 1 : Nat) : Int)), (2, 48)], (up2 σ1 48 2 7))) rfl rfl ?_
  refine TT.steps (cd := cd113) 1 (c' := (26, [(2, 48), (2, 36), (2, 86)], [(0, (aMin ((w + 1 : Nat) : Int) 20)), (2, 48)], (up2 σ1 48 2 7))) rfl rfl ?_
  refine TT.top0 (z := (((if w = 20 then 20 else w + 1) : Nat) : Int)) (by unfold aMin; split <;> split <;> omega) ?_
  refine TT.steps (cd := cd113) 1 (c' := (27, [(2, 48), (2, 36), (2, 86)], [], (up2 (up2 σ1 48 2 7) 48 0 (((if w = 20 then 20 else w + 1) : Nat) : Int)))) rfl rfl ?_
  exact TT.ret (cd := cd113) rfl rfl rfl rfl (⟨rfl, _, hC, rfl⟩)
theorem v_restore0_6 (X : AX) (σ : AH) (htp : σ 48 2 = 6) (hw : σ 48 0 = 0)  : TT X 114 (0, [(2, 48), (2, 36), (9, 0), (9, 0)], [], σ) (fun r σ' => r = some (0, 0) ∧ σ' = σ) := by
  refine TT.steps (cd := cd114) 2 (c' := (2, [(2, 48), (2, 36), (9, 0), (9, 0)], [(0, (σ 48 2))], σ)) rfl rfl ?_
  refine TT.top0 (z := 6) htp ?_
  refine TT.steps (cd := cd114) 2 (c' := (4, [(2, 48), (2, 36), (9, 0), (9, 0)], [(0, (aAdd 6 20))], σ)) rfl rfl ?_
  refine TT.top0 (z := 26) (by decide) ?_
  refine TT.steps (cd := cd114) 2 (c' := (6, [(2, 48), (2, 36), (9, 0), (9, 0)], [(0, (aSub 26 1))], σ)) rfl rfl ?_
  refine TT.top0 (z := 25) (by decide) ?_
  refine TT.steps (cd := cd114) 2 (c' := (8, [(2, 48), (2, 36), (9, 0), (9, 0)], [(0, (aRem 25 20))], σ)) rfl rfl ?_
  refine TT.top0 (z := 5) (by decide) ?_
  refine TT.steps (cd := cd114) 4 (c' := (12, [(2, 48), (2, 36), (0, 5), (9, 0)], [(0, 5), (2, 49)], σ)) rfl rfl ?_
  refine TT.aaldN (cd := cd114) 49 5 80 rfl rfl rfl (Or.inl rfl) (by decide) rfl ?_
  refine TT.steps (cd := cd114) 3 (c' := (16, [(2, 48), (2, 36), (0, 5), (2, 80)], [(0, (σ 48 0))], σ)) rfl rfl ?_
  refine TT.top0 (z := 0) hw ?_
  refine TT.steps (cd := cd114) 2 (c' := (20, [(2, 48), (2, 36), (0, 5), (2, 80)], [(0, 0)], σ)) rfl rfl ?_
  exact TT.ret (cd := cd114) rfl rfl rfl rfl (⟨rfl, rfl⟩)
theorem v_restore1_6 (X : AX) (w : Nat) (hw0 : 0 < w) (hw2 : w ≤ 20) (σ : AH) (htp : σ 48 2 = 6) (hw : σ 48 0 = (w : Int))  : TT X 114 (0, [(2, 48), (2, 36), (9, 0), (9, 0)], [], σ) (fun r σ' => r = some (0, 1) ∧ ∃ τ, CP σ τ 36 80 ∧ σ' = up2 (up2 τ 48 2 5) 48 0 ((w - 1 : Nat) : Int)) := by
  refine TT.steps (cd := cd114) 2 (c' := (2, [(2, 48), (2, 36), (9, 0), (9, 0)], [(0, (σ 48 2))], σ)) rfl rfl ?_
  refine TT.top0 (z := 6) htp ?_
  refine TT.steps (cd := cd114) 2 (c' := (4, [(2, 48), (2, 36), (9, 0), (9, 0)], [(0, (aAdd 6 20))], σ)) rfl rfl ?_
  refine TT.top0 (z := 26) (by decide) ?_
  refine TT.steps (cd := cd114) 2 (c' := (6, [(2, 48), (2, 36), (9, 0), (9, 0)], [(0, (aSub 26 1))], σ)) rfl rfl ?_
  refine TT.top0 (z := 25) (by decide) ?_
  refine TT.steps (cd := cd114) 2 (c' := (8, [(2, 48), (2, 36), (9, 0), (9, 0)], [(0, (aRem 25 20))], σ)) rfl rfl ?_
  refine TT.top0 (z := 5) (by decide) ?_
  refine TT.steps (cd := cd114) 4 (c' := (12, [(2, 48), (2, 36), (0, 5), (9, 0)], [(0, 5), (2, 49)], σ)) rfl rfl ?_
  refine TT.aaldN (cd := cd114) 49 5 80 rfl rfl rfl (Or.inl rfl) (by decide) rfl ?_
  refine TT.steps (cd := cd114) 3 (c' := (16, [(2, 48), (2, 36), (0, 5), (2, 80)], [(0, (σ 48 0))], σ)) rfl rfl ?_
  refine TT.top0 (z := ((w : Nat) : Int)) hw ?_
  refine TT.steps (cd := cd114) 1 (c' := ((if decide (((w : Nat) : Int) = 0) = true then 19 else 17), [(2, 48), (2, 36), (0, 5), (2, 80)], [], σ)) rfl rfl ?_
  refine TT.br (p := ((w : Nat) : Int) = 0) (fun h1 => absurd h1 (show ¬ (((w : Nat) : Int) = 0) by omega)) (fun h1 => ?_)
  refine TT.steps (cd := cd114) 4 (c' := (23, [(2, 48), (2, 36), (0, 5), (2, 80)], [(2, 80), (2, 36)], σ)) rfl rfl ?_
  refine TT.call (cd := cd114) rfl rfl rfl (by decide) rfl (v_copy_36_80 X σ) (fun r2 σ2 hq => ?_)
  obtain ⟨rfl, hC⟩ := hq
  refine TT.steps (cd := cd114) 6 (c' := (30, [(2, 48), (2, 36), (0, 5), (2, 80)], [(0, ((up2 σ2 48 2 5) 48 0)), (2, 48)], (up2 σ2 48 2 5))) rfl rfl ?_
  refine TT.top0 (z := ((w : Nat) : Int)) (((up2_by _ _ (j := 2) (j' := 0) _ (by decide)).trans (hC.1 48 (0) (by omega))).trans hw) ?_
  refine TT.steps (cd := cd114) 2 (c' := (32, [(2, 48), (2, 36), (0, 5), (2, 80)], [(0, (aSub ((w : Nat) : Int) 1)), (2, 48)], (up2 σ2 48 2 5))) rfl rfl ?_
  refine TT.top0 (z := ((w - 1 : Nat) : Int)) (aSub_n (a := w) (b := 1) (by omega) (by omega)) ?_
  refine TT.steps (cd := cd114) 2 (c' := (34, [(2, 48), (2, 36), (0, 5), (2, 80)], [(0, 1)], (up2 (up2 σ2 48 2 5) 48 0 ((w - 1 : Nat) : Int)))) rfl rfl ?_
  exact TT.ret (cd := cd114) rfl rfl rfl rfl (⟨rfl, _, hC, rfl⟩)
theorem v_save_7 (X : AX) (w : Nat) (hw2 : w ≤ 20) (σ : AH) (htp : σ 48 2 = 7) (hw : σ 48 0 = (w : Int))  : TT X 113 (0, [(2, 48), (2, 36), (9, 0)], [], σ) (fun r σ' => r = none ∧ ∃ τ, CP σ τ 92 36 ∧ σ' = up2 (up2 τ 48 2 8) 48 0 ((if w = 20 then 20 else w + 1 : Nat) : Int)) := by
  refine TT.steps (cd := cd113) 4 (c' := (4, [(2, 48), (2, 36), (9, 0)], [(0, (σ 48 2)), (2, 49)], σ)) rfl rfl ?_
  refine TT.top0 (z := 7) htp ?_
  refine TT.aaldN (cd := cd113) 49 7 92 rfl rfl rfl (Or.inl rfl) (by decide) rfl ?_
  refine TT.steps (cd := cd113) 5 (c' := (10, [(2, 48), (2, 36), (2, 92)], [(2, 36), (2, 92)], σ)) rfl rfl ?_
  refine TT.call (cd := cd113) rfl rfl rfl (by decide) rfl (v_copy_92_36 X σ) (fun r1 σ1 hq => ?_)
  obtain ⟨rfl, hC⟩ := hq
  refine TT.steps (cd := cd113) 3 (c' := (14, [(2, 48), (2, 36), (2, 92)], [(0, (σ1 48 2)), (2, 48)], σ1)) rfl rfl ?_
  refine TT.top0 (z := 7) ((hC.1 48 (2) (by omega)).trans htp) ?_
  refine TT.steps (cd := cd113) 2 (c' := (16, [(2, 48), (2, 36), (2, 92)], [(0, (aAdd 7 1)), (2, 48)], σ1)) rfl rfl ?_
  refine TT.top0 (z := 8) (by decide) ?_
  refine TT.steps (cd := cd113) 2 (c' := (18, [(2, 48), (2, 36), (2, 92)], [(0, (aRem 8 20)), (2, 48)], σ1)) rfl rfl ?_
  refine TT.top0 (z := 8) (by decide) ?_
  refine TT.steps (cd := cd113) 4 (c' := (22, [(2, 48), (2, 36), (2, 92)], [(0, ((up2 σ1 48 2 8) 48 0)), (2, 48)], (up2 σ1 48 2 8))) rfl rfl ?_
  refine TT.top0 (z := ((w : Nat) : Int)) (((up2_by _ _ (j := 2) (j' := 0) _ (by decide)).trans (hC.1 48 (0) (by omega))).trans hw) ?_
  refine TT.steps (cd := cd113) 2 (c' := (24, [(2, 48), (2, 36), (2, 92)], [(0, (aAdd ((w : Nat) : Int) 1)), (2, 48)], (up2 σ1 48 2 8))) rfl rfl ?_
  refine TT.top0 (z := ((w + 1 : Nat) : Int)) (aAdd_n (a := w) (b := 1) (by omega)) ?_
  refine TT.steps (cd := cd113) 1 (c' := (25, [(2, 48), (2, 36), (2, 92)], [(0, 20), (0, ((w + 1 : Nat) : Int)), (2, 48)], (up2 σ1 48 2 8))) rfl rfl ?_
  refine TT.steps (cd := cd113) 1 (c' := (26, [(2, 48), (2, 36), (2, 92)], [(0, (aMin ((w + 1 : Nat) : Int) 20)), (2, 48)], (up2 σ1 48 2 8))) rfl rfl ?_
  refine TT.top0 (z := (((if w = 20 then 20 else w + 1) : Nat) : Int)) (by unfold aMin; split <;> split <;> omega) ?_
  refine TT.steps (cd := cd113) 1 (c' := (27, [(2, 48), (2, 36), (2, 92)], [], (up2 (up2 σ1 48 2 8) 48 0 (((if w = 20 then 20 else w + 1) : Nat) : Int)))) rfl rfl ?_
  exact TT.ret (cd := cd113) rfl rfl rfl rfl (⟨rfl, _, hC, rfl⟩)
theorem v_restore0_7 (X : AX) (σ : AH) (htp : σ 48 2 = 7) (hw : σ 48 0 = 0)  : TT X 114 (0, [(2, 48), (2, 36), (9, 0), (9, 0)], [], σ) (fun r σ' => r = some (0, 0) ∧ σ' = σ) := by
  refine TT.steps (cd := cd114) 2 (c' := (2, [(2, 48), (2, 36), (9, 0), (9, 0)], [(0, (σ 48 2))], σ)) rfl rfl ?_
  refine TT.top0 (z := 7) htp ?_
  refine TT.steps (cd := cd114) 2 (c' := (4, [(2, 48), (2, 36), (9, 0), (9, 0)], [(0, (aAdd 7 20))], σ)) rfl rfl ?_
  refine TT.top0 (z := 27) (by decide) ?_
  refine TT.steps (cd := cd114) 2 (c' := (6, [(2, 48), (2, 36), (9, 0), (9, 0)], [(0, (aSub 27 1))], σ)) rfl rfl ?_
  refine TT.top0 (z := 26) (by decide) ?_
  refine TT.steps (cd := cd114) 2 (c' := (8, [(2, 48), (2, 36), (9, 0), (9, 0)], [(0, (aRem 26 20))], σ)) rfl rfl ?_
  refine TT.top0 (z := 6) (by decide) ?_
  refine TT.steps (cd := cd114) 4 (c' := (12, [(2, 48), (2, 36), (0, 6), (9, 0)], [(0, 6), (2, 49)], σ)) rfl rfl ?_
  refine TT.aaldN (cd := cd114) 49 6 86 rfl rfl rfl (Or.inl rfl) (by decide) rfl ?_
  refine TT.steps (cd := cd114) 3 (c' := (16, [(2, 48), (2, 36), (0, 6), (2, 86)], [(0, (σ 48 0))], σ)) rfl rfl ?_
  refine TT.top0 (z := 0) hw ?_
  refine TT.steps (cd := cd114) 2 (c' := (20, [(2, 48), (2, 36), (0, 6), (2, 86)], [(0, 0)], σ)) rfl rfl ?_
  exact TT.ret (cd := cd114) rfl rfl rfl rfl (⟨rfl, rfl⟩)
theorem v_restore1_7 (X : AX) (w : Nat) (hw0 : 0 < w) (hw2 : w ≤ 20) (σ : AH) (htp : σ 48 2 = 7) (hw : σ 48 0 = (w : Int))  : TT X 114 (0, [(2, 48), (2, 36), (9, 0), (9, 0)], [], σ) (fun r σ' => r = some (0, 1) ∧ ∃ τ, CP σ τ 36 86 ∧ σ' = up2 (up2 τ 48 2 6) 48 0 ((w - 1 : Nat) : Int)) := by
  refine TT.steps (cd := cd114) 2 (c' := (2, [(2, 48), (2, 36), (9, 0), (9, 0)], [(0, (σ 48 2))], σ)) rfl rfl ?_
  refine TT.top0 (z := 7) htp ?_
  refine TT.steps (cd := cd114) 2 (c' := (4, [(2, 48), (2, 36), (9, 0), (9, 0)], [(0, (aAdd 7 20))], σ)) rfl rfl ?_
  refine TT.top0 (z := 27) (by decide) ?_
  refine TT.steps (cd := cd114) 2 (c' := (6, [(2, 48), (2, 36), (9, 0), (9, 0)], [(0, (aSub 27 1))], σ)) rfl rfl ?_
  refine TT.top0 (z := 26) (by decide) ?_
  refine TT.steps (cd := cd114) 2 (c' := (8, [(2, 48), (2, 36), (9, 0), (9, 0)], [(0, (aRem 26 20))], σ)) rfl rfl ?_
  refine TT.top0 (z := 6) (by decide) ?_
  refine TT.steps (cd := cd114) 4 (c' := (12, [(2, 48), (2, 36), (0, 6), (9, 0)], [(0, 6), (2, 49)], σ)) rfl rfl ?_
  refine TT.aaldN (cd := cd114) 49 6 86 rfl rfl rfl (Or.inl rfl) (by decide) rfl ?_
  refine TT.steps (cd := cd114) 3 (c' := (16, [(2, 48), (2, 36), (0, 6), (2, 86)], [(0, (σ 48 0))], σ)) rfl rfl ?_
  refine TT.top0 (z := ((w : Nat) : Int)) hw ?_
  refine TT.steps (cd := cd114) 1 (c' := ((if decide (((w : Nat) : Int) = 0) = true then 19 else 17), [(2, 48), (2, 36), (0, 6), (2, 86)], [], σ)) rfl rfl ?_
  refine TT.br (p := ((w : Nat) : Int) = 0) (fun h1 => absurd h1 (show ¬ (((w : Nat) : Int) = 0) by omega)) (fun h1 => ?_)
  refine TT.steps (cd := cd114) 4 (c' := (23, [(2, 48), (2, 36), (0, 6), (2, 86)], [(2, 86), (2, 36)], σ)) rfl rfl ?_
  refine TT.call (cd := cd114) rfl rfl rfl (by decide) rfl (v_copy_36_86 X σ) (fun r2 σ2 hq => ?_)
  obtain ⟨rfl, hC⟩ := hq
  refine TT.steps (cd := cd114) 6 (c' := (30, [(2, 48), (2, 36), (0, 6), (2, 86)], [(0, ((up2 σ2 48 2 6) 48 0)), (2, 48)], (up2 σ2 48 2 6))) rfl rfl ?_
  refine TT.top0 (z := ((w : Nat) : Int)) (((up2_by _ _ (j := 2) (j' := 0) _ (by decide)).trans (hC.1 48 (0) (by omega))).trans hw) ?_
  refine TT.steps (cd := cd114) 2 (c' := (32, [(2, 48), (2, 36), (0, 6), (2, 86)], [(0, (aSub ((w : Nat) : Int) 1)), (2, 48)], (up2 σ2 48 2 6))) rfl rfl ?_
  refine TT.top0 (z := ((w - 1 : Nat) : Int)) (aSub_n (a := w) (b := 1) (by omega) (by omega)) ?_
  refine TT.steps (cd := cd114) 2 (c' := (34, [(2, 48), (2, 36), (0, 6), (2, 86)], [(0, 1)], (up2 (up2 σ2 48 2 6) 48 0 ((w - 1 : Nat) : Int)))) rfl rfl ?_
  exact TT.ret (cd := cd114) rfl rfl rfl rfl (⟨rfl, _, hC, rfl⟩)
theorem v_save_8 (X : AX) (w : Nat) (hw2 : w ≤ 20) (σ : AH) (htp : σ 48 2 = 8) (hw : σ 48 0 = (w : Int))  : TT X 113 (0, [(2, 48), (2, 36), (9, 0)], [], σ) (fun r σ' => r = none ∧ ∃ τ, CP σ τ 98 36 ∧ σ' = up2 (up2 τ 48 2 9) 48 0 ((if w = 20 then 20 else w + 1 : Nat) : Int)) := by
  refine TT.steps (cd := cd113) 4 (c' := (4, [(2, 48), (2, 36), (9, 0)], [(0, (σ 48 2)), (2, 49)], σ)) rfl rfl ?_
  refine TT.top0 (z := 8) htp ?_
  refine TT.aaldN (cd := cd113) 49 8 98 rfl rfl rfl (Or.inl rfl) (by decide) rfl ?_
  refine TT.steps (cd := cd113) 5 (c' := (10, [(2, 48), (2, 36), (2, 98)], [(2, 36), (2, 98)], σ)) rfl rfl ?_
  refine TT.call (cd := cd113) rfl rfl rfl (by decide) rfl (v_copy_98_36 X σ) (fun r1 σ1 hq => ?_)
  obtain ⟨rfl, hC⟩ := hq
  refine TT.steps (cd := cd113) 3 (c' := (14, [(2, 48), (2, 36), (2, 98)], [(0, (σ1 48 2)), (2, 48)], σ1)) rfl rfl ?_
  refine TT.top0 (z := 8) ((hC.1 48 (2) (by omega)).trans htp) ?_
  refine TT.steps (cd := cd113) 2 (c' := (16, [(2, 48), (2, 36), (2, 98)], [(0, (aAdd 8 1)), (2, 48)], σ1)) rfl rfl ?_
  refine TT.top0 (z := 9) (by decide) ?_
  refine TT.steps (cd := cd113) 2 (c' := (18, [(2, 48), (2, 36), (2, 98)], [(0, (aRem 9 20)), (2, 48)], σ1)) rfl rfl ?_
  refine TT.top0 (z := 9) (by decide) ?_
  refine TT.steps (cd := cd113) 4 (c' := (22, [(2, 48), (2, 36), (2, 98)], [(0, ((up2 σ1 48 2 9) 48 0)), (2, 48)], (up2 σ1 48 2 9))) rfl rfl ?_
  refine TT.top0 (z := ((w : Nat) : Int)) (((up2_by _ _ (j := 2) (j' := 0) _ (by decide)).trans (hC.1 48 (0) (by omega))).trans hw) ?_
  refine TT.steps (cd := cd113) 2 (c' := (24, [(2, 48), (2, 36), (2, 98)], [(0, (aAdd ((w : Nat) : Int) 1)), (2, 48)], (up2 σ1 48 2 9))) rfl rfl ?_
  refine TT.top0 (z := ((w + 1 : Nat) : Int)) (aAdd_n (a := w) (b := 1) (by omega)) ?_
  refine TT.steps (cd := cd113) 1 (c' := (25, [(2, 48), (2, 36), (2, 98)], [(0, 20), (0, ((w + 1 : Nat) : Int)), (2, 48)], (up2 σ1 48 2 9))) rfl rfl ?_
  refine TT.steps (cd := cd113) 1 (c' := (26, [(2, 48), (2, 36), (2, 98)], [(0, (aMin ((w + 1 : Nat) : Int) 20)), (2, 48)], (up2 σ1 48 2 9))) rfl rfl ?_
  refine TT.top0 (z := (((if w = 20 then 20 else w + 1) : Nat) : Int)) (by unfold aMin; split <;> split <;> omega) ?_
  refine TT.steps (cd := cd113) 1 (c' := (27, [(2, 48), (2, 36), (2, 98)], [], (up2 (up2 σ1 48 2 9) 48 0 (((if w = 20 then 20 else w + 1) : Nat) : Int)))) rfl rfl ?_
  exact TT.ret (cd := cd113) rfl rfl rfl rfl (⟨rfl, _, hC, rfl⟩)
theorem v_restore0_8 (X : AX) (σ : AH) (htp : σ 48 2 = 8) (hw : σ 48 0 = 0)  : TT X 114 (0, [(2, 48), (2, 36), (9, 0), (9, 0)], [], σ) (fun r σ' => r = some (0, 0) ∧ σ' = σ) := by
  refine TT.steps (cd := cd114) 2 (c' := (2, [(2, 48), (2, 36), (9, 0), (9, 0)], [(0, (σ 48 2))], σ)) rfl rfl ?_
  refine TT.top0 (z := 8) htp ?_
  refine TT.steps (cd := cd114) 2 (c' := (4, [(2, 48), (2, 36), (9, 0), (9, 0)], [(0, (aAdd 8 20))], σ)) rfl rfl ?_
  refine TT.top0 (z := 28) (by decide) ?_
  refine TT.steps (cd := cd114) 2 (c' := (6, [(2, 48), (2, 36), (9, 0), (9, 0)], [(0, (aSub 28 1))], σ)) rfl rfl ?_
  refine TT.top0 (z := 27) (by decide) ?_
  refine TT.steps (cd := cd114) 2 (c' := (8, [(2, 48), (2, 36), (9, 0), (9, 0)], [(0, (aRem 27 20))], σ)) rfl rfl ?_
  refine TT.top0 (z := 7) (by decide) ?_
  refine TT.steps (cd := cd114) 4 (c' := (12, [(2, 48), (2, 36), (0, 7), (9, 0)], [(0, 7), (2, 49)], σ)) rfl rfl ?_
  refine TT.aaldN (cd := cd114) 49 7 92 rfl rfl rfl (Or.inl rfl) (by decide) rfl ?_
  refine TT.steps (cd := cd114) 3 (c' := (16, [(2, 48), (2, 36), (0, 7), (2, 92)], [(0, (σ 48 0))], σ)) rfl rfl ?_
  refine TT.top0 (z := 0) hw ?_
  refine TT.steps (cd := cd114) 2 (c' := (20, [(2, 48), (2, 36), (0, 7), (2, 92)], [(0, 0)], σ)) rfl rfl ?_
  exact TT.ret (cd := cd114) rfl rfl rfl rfl (⟨rfl, rfl⟩)
theorem v_restore1_8 (X : AX) (w : Nat) (hw0 : 0 < w) (hw2 : w ≤ 20) (σ : AH) (htp : σ 48 2 = 8) (hw : σ 48 0 = (w : Int))  : TT X 114 (0, [(2, 48), (2, 36), (9, 0), (9, 0)], [], σ) (fun r σ' => r = some (0, 1) ∧ ∃ τ, CP σ τ 36 92 ∧ σ' = up2 (up2 τ 48 2 7) 48 0 ((w - 1 : Nat) : Int)) := by
  refine TT.steps (cd := cd114) 2 (c' := (2, [(2, 48), (2, 36), (9, 0), (9, 0)], [(0, (σ 48 2))], σ)) rfl rfl ?_
  refine TT.top0 (z := 8) htp ?_
  refine TT.steps (cd := cd114) 2 (c' := (4, [(2, 48), (2, 36), (9, 0), (9, 0)], [(0, (aAdd 8 20))], σ)) rfl rfl ?_
  refine TT.top0 (z := 28) (by decide) ?_
  refine TT.steps (cd := cd114) 2 (c' := (6, [(2, 48), (2, 36), (9, 0), (9, 0)], [(0, (aSub 28 1))], σ)) rfl rfl ?_
  refine TT.top0 (z := 27) (by decide) ?_
  refine TT.steps (cd := cd114) 2 (c' := (8, [(2, 48), (2, 36), (9, 0), (9, 0)], [(0, (aRem 27 20))], σ)) rfl rfl ?_
  refine TT.top0 (z := 7) (by decide) ?_
  refine TT.steps (cd := cd114) 4 (c' := (12, [(2, 48), (2, 36), (0, 7), (9, 0)], [(0, 7), (2, 49)], σ)) rfl rfl ?_
  refine TT.aaldN (cd := cd114) 49 7 92 rfl rfl rfl (Or.inl rfl) (by decide) rfl ?_
  refine TT.steps (cd := cd114) 3 (c' := (16, [(2, 48), (2, 36), (0, 7), (2, 92)], [(0, (σ 48 0))], σ)) rfl rfl ?_
  refine TT.top0 (z := ((w : Nat) : Int)) hw ?_
  refine TT.steps (cd := cd114) 1 (c' := ((if decide (((w : Nat) : Int) = 0) = true then 19 else 17), [(2, 48), (2, 36), (0, 7), (2, 92)], [], σ)) rfl rfl ?_
  refine TT.br (p := ((w : Nat) : Int) = 0) (fun h1 => absurd h1 (show ¬ (((w : Nat) : Int) = 0) by omega)) (fun h1 => ?_)
  refine TT.steps (cd := cd114) 4 (c' := (23, [(2, 48), (2, 36), (0, 7), (2, 92)], [(2, 92), (2, 36)], σ)) rfl rfl ?_
  refine TT.call (cd := cd114) rfl rfl rfl (by decide) rfl (v_copy_36_92 X σ) (fun r2 σ2 hq => ?_)
  obtain ⟨rfl, hC⟩ := hq
  refine TT.steps (cd := cd114) 6 (c' := (30, [(2, 48), (2, 36), (0, 7), (2, 92)], [(0, ((up2 σ2 48 2 7) 48 0)), (2, 48)], (up2 σ2 48 2 7))) rfl rfl ?_
  refine TT.top0 (z := ((w : Nat) : Int)) (((up2_by _ _ (j := 2) (j' := 0) _ (by decide)).trans (hC.1 48 (0) (by omega))).trans hw) ?_
  refine TT.steps (cd := cd114) 2 (c' := (32, [(2, 48), (2, 36), (0, 7), (2, 92)], [(0, (aSub ((w : Nat) : Int) 1)), (2, 48)], (up2 σ2 48 2 7))) rfl rfl ?_
  refine TT.top0 (z := ((w - 1 : Nat) : Int)) (aSub_n (a := w) (b := 1) (by omega) (by omega)) ?_
  refine TT.steps (cd := cd114) 2 (c' := (34, [(2, 48), (2, 36), (0, 7), (2, 92)], [(0, 1)], (up2 (up2 σ2 48 2 7) 48 0 ((w - 1 : Nat) : Int)))) rfl rfl ?_
  exact TT.ret (cd := cd114) rfl rfl rfl rfl (⟨rfl, _, hC, rfl⟩)
theorem v_save_9 (X : AX) (w : Nat) (hw2 : w ≤ 20) (σ : AH) (htp : σ 48 2 = 9) (hw : σ 48 0 = (w : Int))  : TT X 113 (0, [(2, 48), (2, 36), (9, 0)], [], σ) (fun r σ' => r = none ∧ ∃ τ, CP σ τ 104 36 ∧ σ' = up2 (up2 τ 48 2 10) 48 0 ((if w = 20 then 20 else w + 1 : Nat) : Int)) := by
  refine TT.steps (cd := cd113) 4 (c' := (4, [(2, 48), (2, 36), (9, 0)], [(0, (σ 48 2)), (2, 49)], σ)) rfl rfl ?_
  refine TT.top0 (z := 9) htp ?_
  refine TT.aaldN (cd := cd113) 49 9 104 rfl rfl rfl (Or.inl rfl) (by decide) rfl ?_
  refine TT.steps (cd := cd113) 5 (c' := (10, [(2, 48), (2, 36), (2, 104)], [(2, 36), (2, 104)], σ)) rfl rfl ?_
  refine TT.call (cd := cd113) rfl rfl rfl (by decide) rfl (v_copy_104_36 X σ) (fun r1 σ1 hq => ?_)
  obtain ⟨rfl, hC⟩ := hq
  refine TT.steps (cd := cd113) 3 (c' := (14, [(2, 48), (2, 36), (2, 104)], [(0, (σ1 48 2)), (2, 48)], σ1)) rfl rfl ?_
  refine TT.top0 (z := 9) ((hC.1 48 (2) (by omega)).trans htp) ?_
  refine TT.steps (cd := cd113) 2 (c' := (16, [(2, 48), (2, 36), (2, 104)], [(0, (aAdd 9 1)), (2, 48)], σ1)) rfl rfl ?_
  refine TT.top0 (z := 10) (by decide) ?_
  refine TT.steps (cd := cd113) 2 (c' := (18, [(2, 48), (2, 36), (2, 104)], [(0, (aRem 10 20)), (2, 48)], σ1)) rfl rfl ?_
  refine TT.top0 (z := 10) (by decide) ?_
  refine TT.steps (cd := cd113) 4 (c' := (22, [(2, 48), (2, 36), (2, 104)], [(0, ((up2 σ1 48 2 10) 48 0)), (2, 48)], (up2 σ1 48 2 10))) rfl rfl ?_
  refine TT.top0 (z := ((w : Nat) : Int)) (((up2_by _ _ (j := 2) (j' := 0) _ (by decide)).trans (hC.1 48 (0) (by omega))).trans hw) ?_
  refine TT.steps (cd := cd113) 2 (c' := (24, [(2, 48), (2, 36), (2, 104)], [(0, (aAdd ((w : Nat) : Int) 1)), (2, 48)], (up2 σ1 48 2 10))) rfl rfl ?_
  refine TT.top0 (z := ((w + 1 : Nat) : Int)) (aAdd_n (a := w) (b := 1) (by omega)) ?_
  refine TT.steps (cd := cd113) 1 (c' := (25, [(2, 48), (2, 36), (2, 104)], [(0, 20), (0, ((w + 1 : Nat) : Int)), (2, 48)], (up2 σ1 48 2 10))) rfl rfl ?_
  refine TT.steps (cd := cd113) 1 (c' := (26, [(2, 48), (2, 36), (2, 104)], [(0, (aMin ((w + 1 : Nat) : Int) 20)), (2, 48)], (up2 σ1 48 2 10))) rfl rfl ?_
  refine TT.top0 (z := (((if w = 20 then 20 else w + 1) : Nat) : Int)) (by unfold aMin; split <;> split <;> omega) ?_
  refine TT.steps (cd := cd113) 1 (c' := (27, [(2, 48), (2, 36), (2, 104)], [], (up2 (up2 σ1 48 2 10) 48 0 (((if w = 20 then 20 else w + 1) : Nat) : Int)))) rfl rfl ?_
  exact TT.ret (cd := cd113) rfl rfl rfl rfl (⟨rfl, _, hC, rfl⟩)
theorem v_restore0_9 (X : AX) (σ : AH) (htp : σ 48 2 = 9) (hw : σ 48 0 = 0)  : TT X 114 (0, [(2, 48), (2, 36), (9, 0), (9, 0)], [], σ) (fun r σ' => r = some (0, 0) ∧ σ' = σ) := by
  refine TT.steps (cd := cd114) 2 (c' := (2, [(2, 48), (2, 36), (9, 0), (9, 0)], [(0, (σ 48 2))], σ)) rfl rfl ?_
  refine TT.top0 (z := 9) htp ?_
  refine TT.steps (cd := cd114) 2 (c' := (4, [(2, 48), (2, 36), (9, 0), (9, 0)], [(0, (aAdd 9 20))], σ)) rfl rfl ?_
  refine TT.top0 (z := 29) (by decide) ?_
  refine TT.steps (cd := cd114) 2 (c' := (6, [(2, 48), (2, 36), (9, 0), (9, 0)], [(0, (aSub 29 1))], σ)) rfl rfl ?_
  refine TT.top0 (z := 28) (by decide) ?_
  refine TT.steps (cd := cd114) 2 (c' := (8, [(2, 48), (2, 36), (9, 0), (9, 0)], [(0, (aRem 28 20))], σ)) rfl rfl ?_
  refine TT.top0 (z := 8) (by decide) ?_
  refine TT.steps (cd := cd114) 4 (c' := (12, [(2, 48), (2, 36), (0, 8), (9, 0)], [(0, 8), (2, 49)], σ)) rfl rfl ?_
  refine TT.aaldN (cd := cd114) 49 8 98 rfl rfl rfl (Or.inl rfl) (by decide) rfl ?_
  refine TT.steps (cd := cd114) 3 (c' := (16, [(2, 48), (2, 36), (0, 8), (2, 98)], [(0, (σ 48 0))], σ)) rfl rfl ?_
  refine TT.top0 (z := 0) hw ?_
  refine TT.steps (cd := cd114) 2 (c' := (20, [(2, 48), (2, 36), (0, 8), (2, 98)], [(0, 0)], σ)) rfl rfl ?_
  exact TT.ret (cd := cd114) rfl rfl rfl rfl (⟨rfl, rfl⟩)
theorem v_restore1_9 (X : AX) (w : Nat) (hw0 : 0 < w) (hw2 : w ≤ 20) (σ : AH) (htp : σ 48 2 = 9) (hw : σ 48 0 = (w : Int))  : TT X 114 (0, [(2, 48), (2, 36), (9, 0), (9, 0)], [], σ) (fun r σ' => r = some (0, 1) ∧ ∃ τ, CP σ τ 36 98 ∧ σ' = up2 (up2 τ 48 2 8) 48 0 ((w - 1 : Nat) : Int)) := by
  refine TT.steps (cd := cd114) 2 (c' := (2, [(2, 48), (2, 36), (9, 0), (9, 0)], [(0, (σ 48 2))], σ)) rfl rfl ?_
  refine TT.top0 (z := 9) htp ?_
  refine TT.steps (cd := cd114) 2 (c' := (4, [(2, 48), (2, 36), (9, 0), (9, 0)], [(0, (aAdd 9 20))], σ)) rfl rfl ?_
  refine TT.top0 (z := 29) (by decide) ?_
  refine TT.steps (cd := cd114) 2 (c' := (6, [(2, 48), (2, 36), (9, 0), (9, 0)], [(0, (aSub 29 1))], σ)) rfl rfl ?_
  refine TT.top0 (z := 28) (by decide) ?_
  refine TT.steps (cd := cd114) 2 (c' := (8, [(2, 48), (2, 36), (9, 0), (9, 0)], [(0, (aRem 28 20))], σ)) rfl rfl ?_
  refine TT.top0 (z := 8) (by decide) ?_
  refine TT.steps (cd := cd114) 4 (c' := (12, [(2, 48), (2, 36), (0, 8), (9, 0)], [(0, 8), (2, 49)], σ)) rfl rfl ?_
  refine TT.aaldN (cd := cd114) 49 8 98 rfl rfl rfl (Or.inl rfl) (by decide) rfl ?_
  refine TT.steps (cd := cd114) 3 (c' := (16, [(2, 48), (2, 36), (0, 8), (2, 98)], [(0, (σ 48 0))], σ)) rfl rfl ?_
  refine TT.top0 (z := ((w : Nat) : Int)) hw ?_
  refine TT.steps (cd := cd114) 1 (c' := ((if decide (((w : Nat) : Int) = 0) = true then 19 else 17), [(2, 48), (2, 36), (0, 8), (2, 98)], [], σ)) rfl rfl ?_
  refine TT.br (p := ((w : Nat) : Int) = 0) (fun h1 => absurd h1 (show ¬ (((w : Nat) : Int) = 0) by omega)) (fun h1 => ?_)
  refine TT.steps (cd := cd114) 4 (c' := (23, [(2, 48), (2, 36), (0, 8), (2, 98)], [(2, 98), (2, 36)], σ)) rfl rfl ?_
  refine TT.call (cd := cd114) rfl rfl rfl (by decide) rfl (v_copy_36_98 X σ) (fun r2 σ2 hq => ?_)
  obtain ⟨rfl, hC⟩ := hq
  refine TT.steps (cd := cd114) 6 (c' := (30, [(2, 48), (2, 36), (0, 8), (2, 98)], [(0, ((up2 σ2 48 2 8) 48 0)), (2, 48)], (up2 σ2 48 2 8))) rfl rfl ?_
  refine TT.top0 (z := ((w : Nat) : Int)) (((up2_by _ _ (j := 2) (j' := 0) _ (by decide)).trans (hC.1 48 (0) (by omega))).trans hw) ?_
  refine TT.steps (cd := cd114) 2 (c' := (32, [(2, 48), (2, 36), (0, 8), (2, 98)], [(0, (aSub ((w : Nat) : Int) 1)), (2, 48)], (up2 σ2 48 2 8))) rfl rfl ?_
  refine TT.top0 (z := ((w - 1 : Nat) : Int)) (aSub_n (a := w) (b := 1) (by omega) (by omega)) ?_
  refine TT.steps (cd := cd114) 2 (c' := (34, [(2, 48), (2, 36), (0, 8), (2, 98)], [(0, 1)], (up2 (up2 σ2 48 2 8) 48 0 ((w - 1 : Nat) : Int)))) rfl rfl ?_
  exact TT.ret (cd := cd114) rfl rfl rfl rfl (⟨rfl, _, hC, rfl⟩)
theorem v_save_10 (X : AX) (w : Nat) (hw2 : w ≤ 20) (σ : AH) (htp : σ 48 2 = 10) (hw : σ 48 0 = (w : Int))  : TT X 113 (0, [(2, 48), (2, 36), (9, 0)], [], σ) (fun r σ' => r = none ∧ ∃ τ, CP σ τ 110 36 ∧ σ' = up2 (up2 τ 48 2 11) 48 0 ((if w = 20 then 20 else w + 1 : Nat) : Int)) := by
  refine TT.steps (cd := cd113) 4 (c' := (4, [(2, 48), (2, 36), (9, 0)], [(0, (σ 48 2)), (2, 49)], σ)) rfl rfl ?_
  refine TT.top0 (z := 10) htp ?_
  refine TT.aaldN (cd := cd113) 49 10 110 rfl rfl rfl (Or.inl rfl) (by decide) rfl ?_
  refine TT.steps (cd := cd113) 5 (c' := (10, [(2, 48), (2, 36), (2, 110)], [(2, 36), (2, 110)], σ)) rfl rfl ?_
  refine TT.call (cd := cd113) rfl rfl rfl (by decide) rfl (v_copy_110_36 X σ) (fun r1 σ1 hq => ?_)
  obtain ⟨rfl, hC⟩ := hq
  refine TT.steps (cd := cd113) 3 (c' := (14, [(2, 48), (2, 36), (2, 110)], [(0, (σ1 48 2)), (2, 48)], σ1)) rfl rfl ?_
  refine TT.top0 (z := 10) ((hC.1 48 (2) (by omega)).trans htp) ?_
  refine TT.steps (cd := cd113) 2 (c' := (16, [(2, 48), (2, 36), (2, 110)], [(0, (aAdd 10 1)), (2, 48)], σ1)) rfl rfl ?_
  refine TT.top0 (z := 11) (by decide) ?_
  refine TT.steps (cd := cd113) 2 (c' := (18, [(2, 48), (2, 36), (2, 110)], [(0, (aRem 11 20)), (2, 48)], σ1)) rfl rfl ?_
  refine TT.top0 (z := 11) (by decide) ?_
  refine TT.steps (cd := cd113) 4 (c' := (22, [(2, 48), (2, 36), (2, 110)], [(0, ((up2 σ1 48 2 11) 48 0)), (2, 48)], (up2 σ1 48 2 11))) rfl rfl ?_
  refine TT.top0 (z := ((w : Nat) : Int)) (((up2_by _ _ (j := 2) (j' := 0) _ (by decide)).trans (hC.1 48 (0) (by omega))).trans hw) ?_
  refine TT.steps (cd := cd113) 2 (c' := (24, [(2, 48), (2, 36), (2, 110)], [(0, (aAdd ((w : Nat) : Int) 1)), (2, 48)], (up2 σ1 48 2 11))) rfl rfl ?_
  refine TT.top0 (z := ((w + 1 : Nat) : Int)) (aAdd_n (a := w) (b := 1) (by omega)) ?_
  refine TT.steps (cd := cd113) 1 (c' := (25, [(2, 48), (2, 36), (2, 110)], [(0, 20), (0, ((w + 1 : Nat) : Int)), (2, 48)], (up2 σ1 48 2 11))) rfl rfl ?_
  refine TT.steps (cd := cd113) 1 (c' := (26, [(2, 48), (2, 36), (2, 110)], [(0, (aMin ((w + 1 : Nat) : Int) 20)), (2, 48)], (up2 σ1 48 2 11))) rfl rfl ?_
  refine TT.top0 (z := (((if w = 20 then 20 else w + 1) : Nat) : Int)) (by unfold aMin; split <;> split <;> omega) ?_
  refine TT.steps (cd := cd113) 1 (c' := (27, [(2, 48), (2, 36), (2, 110)], [], (up2 (up2 σ1 48 2 11) 48 0 (((if w = 20 then 20 else w + 1) : Nat) : Int)))) rfl rfl ?_
  exact TT.ret (cd := cd113) rfl rfl rfl rfl (⟨rfl, _, hC, rfl⟩)
theorem v_restore0_10 (X : AX) (σ : AH) (htp : σ 48 2 = 10) (hw : σ 48 0 = 0)  : TT X 114 (0, [(2, 48), (2, 36), (9, 0), (9, 0)], [], σ) (fun r σ' => r = some (0, 0) ∧ σ' = σ) := by
  refine TT.steps (cd := cd114) 2 (c' := (2, [(2, 48), (2, 36), (9, 0), (9, 0)], [(0, (σ 48 2))], σ)) rfl rfl ?_
  refine TT.top0 (z := 10) htp ?_
  refine TT.steps (cd := cd114) 2 (c' := (4, [(2, 48), (2, 36), (9, 0), (9, 0)], [(0, (aAdd 10 20))], σ)) rfl rfl ?_
  refine TT.top0 (z := 30) (by decide) ?_
  refine TT.steps (cd := cd114) 2 (c' := (6, [(2, 48), (2, 36), (9, 0), (9, 0)], [(0, (aSub 30 1))], σ)) rfl rfl ?_
  refine TT.top0 (z := 29) (by decide) ?_
  refine TT.steps (cd := cd114) 2 (c' := (8, [(2, 48), (2, 36), (9, 0), (9, 0)], [(0, (aRem 29 20))], σ)) rfl rfl ?_
  refine TT.top0 (z := 9) (by decide) ?_
  refine TT.steps (cd := cd114) 4 (c' := (12, [(2, 48), (2, 36), (0, 9), (9, 0)], [(0, 9), (2, 49)], σ)) rfl rfl ?_
  refine TT.aaldN (cd := cd114) 49 9 104 rfl rfl rfl (Or.inl rfl) (by decide) rfl ?_
  refine TT.steps (cd := cd114) 3 (c' := (16, [(2, 48), (2, 36), (0, 9), (2, 104)], [(0, (σ 48 0))], σ)) rfl rfl ?_
  refine TT.top0 (z := 0) hw ?_
  refine TT.steps (cd := cd114) 2 (c' := (20, [(2, 48), (2, 36), (0, 9), (2, 104)], [(0, 0)], σ)) rfl rfl ?_
  exact TT.ret (cd := cd114) rfl rfl rfl rfl (⟨rfl, rfl⟩)
theorem v_restore1_10 (X : AX) (w : Nat) (hw0 : 0 < w) (hw2 : w ≤ 20) (σ : AH) (htp : σ 48 2 = 10) (hw : σ 48 0 = (w : Int))  : TT X 114 (0, [(2, 48), (2, 36), (9, 0), (9, 0)], [], σ) (fun r σ' => r = some (0, 1) ∧ ∃ τ, CP σ τ 36 104 ∧ σ' = up2 (up2 τ 48 2 9) 48 0 ((w - 1 : Nat) : Int)) := by
  refine TT.steps (cd := cd114) 2 (c' := (2, [(2, 48), (2, 36), (9, 0), (9, 0)], [(0, (σ 48 2))], σ)) rfl rfl ?_
  refine TT.top0 (z := 10) htp ?_
  refine TT.steps (cd := cd114) 2 (c' := (4, [(2, 48), (2, 36), (9, 0), (9, 0)], [(0, (aAdd 10 20))], σ)) rfl rfl ?_
  refine TT.top0 (z := 30) (by decide) ?_
  refine TT.steps (cd := cd114) 2 (c' := (6, [(2, 48), (2, 36), (9, 0), (9, 0)], [(0, (aSub 30 1))], σ)) rfl rfl ?_
  refine TT.top0 (z := 29) (by decide) ?_
  refine TT.steps (cd := cd114) 2 (c' := (8, [(2, 48), (2, 36), (9, 0), (9, 0)], [(0, (aRem 29 20))], σ)) rfl rfl ?_
  refine TT.top0 (z := 9) (by decide) ?_
  refine TT.steps (cd := cd114) 4 (c' := (12, [(2, 48), (2, 36), (0, 9), (9, 0)], [(0, 9), (2, 49)], σ)) rfl rfl ?_
  refine TT.aaldN (cd := cd114) 49 9 104 rfl rfl rfl (Or.inl rfl) (by decide) rfl ?_
  refine TT.steps (cd := cd114) 3 (c' := (16, [(2, 48), (2, 36), (0, 9), (2, 104)], [(0, (σ 48 0))], σ)) rfl rfl ?_
  refine TT.top0 (z := ((w : Nat) : Int)) hw ?_
  refine TT.steps (cd := cd114) 1 (c' := ((if decide (((w : Nat) : Int) = 0) = true then 19 else 17), [(2, 48), (2, 36), (0, 9), (2, 104)], [], σ)) rfl rfl ?_
  refine TT.br (p := ((w : Nat) : Int) = 0) (fun h1 => absurd h1 (show ¬ (((w : Nat) : Int) = 0) by omega)) (fun h1 => ?_)
  refine TT.steps (cd := cd114) 4 (c' := (23, [(2, 48), (2, 36), (0, 9), (2, 104)], [(2, 104), (2, 36)], σ)) rfl rfl ?_
  refine TT.call (cd := cd114) rfl rfl rfl (by decide) rfl (v_copy_36_104 X σ) (fun r2 σ2 hq => ?_)
  obtain ⟨rfl, hC⟩ := hq
  refine TT.steps (cd := cd114) 6 (c' := (30, [(2, 48), (2, 36), (0, 9), (2, 104)], [(0, ((up2 σ2 48 2 9) 48 0)), (2, 48)], (up2 σ2 48 2 9))) rfl rfl ?_
  refine TT.top0 (z := ((w : Nat) : Int)) (((up2_by _ _ (j := 2) (j' := 0) _ (by decide)).trans (hC.1 48 (0) (by omega))).trans hw) ?_
  refine TT.steps (cd := cd114) 2 (c' := (32, [(2, 48), (2, 36), (0, 9), (2, 104)], [(0, (aSub ((w : Nat) : Int) 1)), (2, 48)], (up2 σ2 48 2 9))) rfl rfl ?_
  refine TT.top0 (z := ((w - 1 : Nat) : Int)) (aSub_n (a := w) (b := 1) (by omega) (by omega)) ?_
  refine TT.steps (cd := cd114) 2 (c' := (34, [(2, 48), (2, 36), (0, 9), (2, 104)], [(0, 1)], (up2 (up2 σ2 48 2 9) 48 0 ((w - 1 : Nat) : Int)))) rfl rfl ?_
  exact TT.ret (cd := cd114) rfl rfl rfl rfl (⟨rfl, _, hC, rfl⟩)
theorem v_save_11 (X : AX) (w : Nat) (hw2 : w ≤ 20) (σ : AH) (htp : σ 48 2 = 11) (hw : σ 48 0 = (w : Int))  : TT X 113 (0, [(2, 48), (2, 36), (9, 0)], [], σ) (fun r σ' => r = none ∧ ∃ τ, CP σ τ 116 36 ∧ σ' = up2 (up2 τ 48 2 12) 48 0 ((if w = 20 then 20 else w + 1 : Nat) : Int)) := by
  refine TT.steps (cd := cd113) 4 (c' := (4, [(2, 48), (2, 36), (9, 0)], [(0, (σ 48 2)), (2, 49)], σ)) rfl rfl ?_
  refine TT.top0 (z := 11) htp ?_
  refine TT.aaldN (cd := cd113) 49 11 116 rfl rfl rfl (Or.inl rfl) (by decide) rfl ?_
  refine TT.steps (cd := cd113) 5 (c' := (10, [(2, 48), (2, 36), (2, 116)], [(2, 36), (2, 116)], σ)) rfl rfl ?_
  refine TT.call (cd := cd113) rfl rfl rfl (by decide) rfl (v_copy_116_36 X σ) (fun r1 σ1 hq => ?_)
  obtain ⟨rfl, hC⟩ := hq
  refine TT.steps (cd := cd113) 3 (c' := (14, [(2, 48), (2, 36), (2, 116)], [(0, (σ1 48 2)), (2, 48)], σ1)) rfl rfl ?_
  refine TT.top0 (z := 11) ((hC.1 48 (2) (by omega)).trans htp) ?_
  refine TT.steps (cd := cd113) 2 (c' := (16, [(2, 48), (2, 36), (2, 116)], [(0, (aAdd 11 1)), (2, 48)], σ1)) rfl rfl ?_
  refine TT.top0 (z := 12) (by decide) ?_
  refine TT.steps (cd := cd113) 2 (c' := (18, [(2, 48), (2, 36), (2, 116)], [(0, (aRem 12 20)), (2, 48)], σ1)) rfl rfl ?_
  refine TT.top0 (z := 12) (by decide) ?_
  refine TT.steps (cd := cd113) 4 (c' := (22, [(2, 48), (2, 36), (2, 116)], [(0, ((up2 σ1 48 2 12) 48 0)), (2, 48)], (up2 σ1 48 2 12))) rfl rfl ?_
  refine TT.top0 (z := ((w : Nat) : Int)) (((up2_by _ _ (j := 2) (j' := 0) _ (by decide)).trans (hC.1 48 (0) (by omega))).trans hw) ?_
  refine TT.steps (cd := cd113) 2 (c' := (24, [(2, 48), (2, 36), (2, 116)], [(0, (aAdd ((w : Nat) : Int) 1)), (2, 48)], (up2 σ1 48 2 12))) rfl rfl ?_
  refine TT.top0 (z := ((w + 1 : Nat) : Int)) (aAdd_n (a := w) (b := 1) (by omega)) ?_
  refine TT.steps (cd := cd113) 1 (c' := (25, [(2, 48), (2, 36), (2, 116)], [(0, 20), (0, ((w + 1 : Nat) : Int)), (2, 48)], (up2 σ1 48 2 12))) rfl rfl ?_
  refine TT.steps (cd := cd113) 1 (c' := (26, [(2, 48), (2, 36), (2, 116)], [(0, (aMin ((w + 1 : Nat) : Int) 20)), (2, 48)], (up2 σ1 48 2 12))) rfl rfl ?_
  refine TT.top0 (z := (((if w = 20 then 20 else w + 1) : Nat) : Int)) (by unfold aMin; split <;> split <;> omega) ?_
  refine TT.steps (cd := cd113) 1 (c' := (27, [(2, 48), (2, 36), (2, 116)], [], (up2 (up2 σ1 48 2 12) 48 0 (((if w = 20 then 20 else w + 1) : Nat) : Int)))) rfl rfl ?_
  exact TT.ret (cd := cd113) rfl rfl rfl rfl (⟨rfl, _, hC, rfl⟩)
theorem v_restore0_11 (X : AX) (σ : AH) (htp : σ 48 2 = 11) (hw : σ 48 0 = 0)  : TT X 114 (0, [(2, 48), (2, 36), (9, 0), (9, 0)], [], σ) (fun r σ' => r = some (0, 0) ∧ σ' = σ) := by
  refine TT.steps (cd := cd114) 2 (c' := (2, [(2, 48), (2, 36), (9, 0), (9, 0)], [(0, (σ 48 2))], σ)) rfl rfl ?_
  refine TT.top0 (z := 11) htp ?_
  refine TT.steps (cd := cd114) 2 (c' := (4, [(2, 48), (2, 36), (9, 0), (9, 0)], [(0, (aAdd 11 20))], σ)) rfl rfl ?_
  refine TT.top0 (z := 31) (by decide) ?_
  refine TT.steps (cd := cd114) 2 (c' := (6, [(2, 48), (2, 36), (9, 0), (9, 0)], [(0, (aSub 31 1))], σ)) rfl rfl ?_
  refine TT.top0 (z := 30) (by decide) ?_
  refine TT.steps (cd := cd114) 2 (c' := (8, [(2, 48), (2, 36), (9, 0), (9, 0)], [(0, (aRem 30 20))], σ)) rfl rfl ?_
  refine TT.top0 (z := 10) (by decide) ?_
  refine TT.steps (cd := cd114) 4 (c' := (12, [(2, 48), (2, 36), (0, 10), (9, 0)], [(0, 10), (2, 49)], σ)) rfl rfl ?_
  refine TT.aaldN (cd := cd114) 49 10 110 rfl rfl rfl (Or.inl rfl) (by decide) rfl ?_
  refine TT.steps (cd := cd114) 3 (c' := (16, [(2, 48), (2, 36), (0, 10), (2, 110)], [(0, (σ 48 0))], σ)) rfl rfl ?_
  refine TT.top0 (z := 0) hw ?_
  refine TT.steps (cd := cd114) 2 (c' := (20, [(2, 48), (2, 36), (0, 10), (2, 110)], [(0, 0)], σ)) rfl rfl ?_
  exact TT.ret (cd := cd114) rfl rfl rfl rfl (⟨rfl, rfl⟩)
theorem v_restore1_11 (X : AX) (w : Nat) (hw0 : 0 < w) (hw2 : w ≤ 20) (σ : AH) (htp : σ 48 2 = 11) (hw : σ 48 0 = (w : Int))  : TT X 114 (0, [(2, 48), (2, 36), (9, 0), (9, 0)], [], σ) (fun r σ' => r = some (0, 1) ∧ ∃ τ, CP σ τ 36 110 ∧ σ' = up2 (up2 τ 48 2 10) 48 0 ((w - 1 : Nat) : Int)) := by
  refine TT.steps (cd := cd114) 2 (c' := (2, [(2, 48), (2, 36), (9, 0), (9, 0)], [(0, (σ 48 2))], σ)) rfl rfl ?_
  refine TT.top0 (z := 11) htp ?_
  refine TT.steps (cd := cd114) 2 (c' := (4, [(2, 48), (2, 36), (9, 0), (9, 0)], [(0, (aAdd 11 20))], σ)) rfl rfl ?_
  refine TT.top0 (z := 31) (by decide) ?_
  refine TT.steps (cd := cd114) 2 (c' := (6, [(2, 48), (2, 36), (9, 0), (9, 0)], [(0, (aSub 31 1))], σ)) rfl rfl ?_
  refine TT.top0 (z := 30) (by decide) ?_
  refine TT.steps (cd := cd114) 2 (c' := (8, [(2, 48), (2, 36), (9, 0), (9, 0)], [(0, (aRem 30 20))], σ)) rfl rfl ?_
  refine TT.top0 (z := 10) (by decide) ?_
  refine TT.steps (cd := cd114) 4 (c' := (12, [(2, 48), (2, 36), (0, 10), (9, 0)], [(0, 10), (2, 49)], σ)) rfl rfl ?_
  refine TT.aaldN (cd := cd114) 49 10 110 rfl rfl rfl (Or.inl rfl) (by decide) rfl ?_
  refine TT.steps (cd := cd114) 3 (c' := (16, [(2, 48), (2, 36), (0, 10), (2, 110)], [(0, (σ 48 0))], σ)) rfl rfl ?_
  refine TT.top0 (z := ((w : Nat) : Int)) hw ?_
  refine TT.steps (cd := cd114) 1 (c' := ((if decide (((w : Nat) : Int) = 0) = true then 19 else 17), [(2, 48), (2, 36), (0, 10), (2, 110)], [], σ)) rfl rfl ?_
  refine TT.br (p := ((w : Nat) : Int) = 0) (fun h1 => absurd h1 (show ¬ (((w : Nat) : Int) = 0) by omega)) (fun h1 => ?_)
  refine TT.steps (cd := cd114) 4 (c' := (23, [(2, 48), (2, 36), (0, 10), (2, 110)], [(2, 110), (2, 36)], σ)) rfl rfl ?_
  refine TT.call (cd := cd114) rfl rfl rfl (by decide) rfl (v_copy_36_110 X σ) (fun r2 σ2 hq => ?_)
  obtain ⟨rfl, hC⟩ := hq
  refine TT.steps (cd := cd114) 6 (c' := (30, [(2, 48), (2, 36), (0, 10), (2, 110)], [(0, ((up2 σ2 48 2 10) 48 0)), (2, 48)], (up2 σ2 48 2 10))) rfl rfl ?_
  refine TT.top0 (z := ((w : Nat) : Int)) (((up2_by _ _ (j := 2) (j' := 0) _ (by decide)).trans (hC.1 48 (0) (by omega))).trans hw) ?_
  refine TT.steps (cd := cd114) 2 (c' := (32, [(2, 48), (2, 36), (0, 10), (2, 110)], [(0, (aSub ((w : Nat) : Int) 1)), (2, 48)], (up2 σ2 48 2 10))) rfl rfl ?_
  refine TT.top0 (z := ((w - 1 : Nat) : Int)) (aSub_n (a := w) (b := 1) (by omega) (by omega)) ?_
  refine TT.steps (cd := cd114) 2 (c' := (34, [(2, 48), (2, 36), (0, 10), (2, 110)], [(0, 1)], (up2 (up2 σ2 48 2 10) 48 0 ((w - 1 : Nat) : Int)))) rfl rfl ?_
  exact TT.ret (cd := cd114) rfl rfl rfl rfl (⟨rfl, _, hC, rfl⟩)
theorem v_save_12 (X : AX) (w : Nat) (hw2 : w ≤ 20) (σ : AH) (htp : σ 48 2 = 12) (hw : σ 48 0 = (w : Int))  : TT X 113 (0, [(2, 48), (2, 36), (9, 0)], [], σ) (fun r σ' => r = none ∧ ∃ τ, CP σ τ 122 36 ∧ σ' = up2 (up2 τ 48 2 13) 48 0 ((if w = 20 then 20 else w + 1 : Nat) : Int)) := by
  refine TT.steps (cd := cd113) 4 (c' := (4, [(2, 48), (2, 36), (9, 0)], [(0, (σ 48 2)), (2, 49)], σ)) rfl rfl ?_
  refine TT.top0 (z := 12) htp ?_
  refine TT.aaldN (cd := cd113) 49 12 122 rfl rfl rfl (Or.inl rfl) (by decide) rfl ?_
  refine TT.steps (cd := cd113) 5 (c' := (10, [(2, 48), (2, 36), (2, 122)], [(2, 36), (2, 122)], σ)) rfl rfl ?_
  refine TT.call (cd := cd113) rfl rfl rfl (by decide) rfl (v_copy_122_36 X σ) (fun r1 σ1 hq => ?_)
  obtain ⟨rfl, hC⟩ := hq
  refine TT.steps (cd := cd113) 3 (c' := (14, [(2, 48), (2, 36), (2, 122)], [(0, (σ1 48 2)), (2, 48)], σ1)) rfl rfl ?_
  refine TT.top0 (z := 12) ((hC.1 48 (2) (by omega)).trans htp) ?_
  refine TT.steps (cd := cd113) 2 (c' := (16, [(2, 48), (2, 36), (2, 122)], [(0, (aAdd 12 1)), (2, 48)], σ1)) rfl rfl ?_
  refine TT.top0 (z := 13) (by decide) ?_
  refine TT.steps (cd := cd113) 2 (c' := (18, [(2, 48), (2, 36), (2, 122)], [(0, (aRem 13 20)), (2, 48)], σ1)) rfl rfl ?_
  refine TT.top0 (z := 13) (by decide) ?_
  refine TT.steps (cd := cd113) 4 (c' := (22, [(2, 48), (2, 36), (2, 122)], [(0, ((up2 σ1 48 2 13) 48 0)), (2, 48)], (up2 σ1 48 2 13))) rfl rfl ?_
  refine TT.top0 (z := ((w : Nat) : Int)) (((up2_by _ _ (j := 2) (j' := 0) _ (by decide)).trans (hC.1 48 (0) (by omega))).trans hw) ?_
  refine TT.steps (cd := cd113) 2 (c' := (24, [(2, 48), (2, 36), (2, 122)], [(0, (aAdd ((w : Nat) : Int) 1)), (2, 48)], (up2 σ1 48 2 13))) rfl rfl ?_
  refine TT.top0 (z := ((w + 1 : Nat) : Int)) (aAdd_n (a := w) (b := 1) (by omega)) ?_
  refine TT.steps (cd := cd113) 1 (c' := (25, [(2, 48), (2, 36), (2, 122)], [(0, 20), (0, ((w + 1 : Nat) : Int)), (2, 48)], (up2 σ1 48 2 13))) rfl rfl ?_
  refine TT.steps (cd := cd113) 1 (c' := (26, [(2, 48), (2, 36), (2, 122)], [(0, (aMin ((w + 1 : Nat) : Int) 20)), (2, 48)], (up2 σ1 48 2 13))) rfl rfl ?_
  refine TT.top0 (z := (((if w = 20 then 20 else w + 1) : Nat) : Int)) (by unfold aMin; split <;> split <;> omega) ?_
  refine TT.steps (cd := cd113) 1 (c' := (27, [(2, 48), (2, 36), (2, 122)], [], (up2 (up2 σ1 48 2 13) 48 0 (((if w = 20 then 20 else w + 1) : Nat) : Int)))) rfl rfl ?_
  exact TT.ret (cd := cd113) rfl rfl rfl rfl (⟨rfl, _, hC, rfl⟩)
theorem v_restore0_12 (X : AX) (σ : AH) (htp : σ 48 2 = 12) (hw : σ 48 0 = 0)  : TT X 114 (0, [(2, 48), (2, 36), (9, 0), (9, 0)], [], σ) (fun r σ' => r = some (0, 0) ∧ σ' = σ) := by
  refine TT.steps (cd := cd114) 2 (c' := (2, [(2, 48), (2, 36), (9, 0), (9, 0)], [(0, (σ 48 2))], σ)) rfl rfl ?_
  refine TT.top0 (z := 12) htp ?_
  refine TT.steps (cd := cd114) 2 (c' := (4, [(2, 48), (2, 36), (9, 0), (9, 0)], [(0, (aAdd 12 20))], σ)) rfl rfl ?_
  refine TT.top0 (z := 32) (by decide) ?_
  refine TT.steps (cd := cd114) 2 (c' := (6, [(2, 48), (2, 36), (9, 0), (9, 0)], [(0, (aSub 32 1))], σ)) rfl rfl ?_
  refine TT.top0 (z := 31) (by decide) ?_
  refine TT.steps (cd := cd114) 2 (c' := (8, [(2, 48), (2, 36), (9, 0), (9, 0)], [(0, (aRem 31 20))], σ)) rfl rfl ?_
  refine TT.top0 (z := 11) (by decide) ?_
  refine TT.steps (cd := cd114) 4 (c' := (12, [(2, 48), (2, 36), (0, 11), (9, 0)], [(0, 11), (2, 49)], σ)) rfl rfl ?_
  refine TT.aaldN (cd := cd114) 49 11 116 rfl rfl rfl (Or.inl rfl) (by decide) rfl ?_
  refine TT.steps (cd := cd114) 3 (c' := (16, [(2, 48), (2, 36), (0, 11), (2, 116)], [(0, (σ 48 0))], σ)) rfl rfl ?_
  refine TT.top0 (z := 0) hw ?_
  refine TT.steps (cd := cd114) 2 (c' := (20, [(2, 48), (2, 36), (0, 11), (2, 116)], [(0, 0)], σ)) rfl rfl ?_
  exact TT.ret (cd := cd114) rfl rfl rfl rfl (⟨rfl, rfl⟩)
theorem v_restore1_12 (X : AX) (w : Nat) (hw0 : 0 < w) (hw2 : w ≤ 20) (σ : AH) (htp : σ 48 2 = 12) (hw : σ 48 0 = (w : Int))  : TT X 114 (0, [(2, 48), (2, 36), (9, 0), (9, 0)], [], σ) (fun r σ' => r = some (0, 1) ∧ ∃ τ, CP σ τ 36 116 ∧ σ' = up2 (up2 τ 48 2 11) 48 0 ((w - 1 : Nat) : Int)) := by
  refine TT.steps (cd := cd114) 2 (c' := (2, [(2, 48), (2, 36), (9, 0), (9, 0)], [(0, (σ 48 2))], σ)) rfl rfl ?_
  refine TT.top0 (z := 12) htp ?_
  refine TT.steps (cd := cd114) 2 (c' := (4, [(2, 48), (2, 36), (9, 0), (9, 0)], [(0, (aAdd 12 20))], σ)) rfl rfl ?_
  refine TT.top0 (z := 32) (by decide) ?_
  refine TT.steps (cd := cd114) 2 (c' := (6, [(2, 48), (2, 36), (9, 0), (9, 0)], [(0, (aSub 32 1))], σ)) rfl rfl ?_
  refine TT.top0 (z := 31) (by decide) ?_
  refine TT.steps (cd := cd114) 2 (c' := (8, [(2, 48), (2, 36), (9, 0), (9, 0)], [(0, (aRem 31 20))], σ)) rfl rfl ?_
  refine TT.top0 (z := 11) (by decide) ?_
  refine TT.steps (cd := cd114) 4 (c' := (12, [(2, 48), (2, 36), (0, 11), (9, 0)], [(0, 11), (2, 49)], σ)) rfl rfl ?_
  refine TT.aaldN (cd := cd114) 49 11 116 rfl rfl rfl (Or.inl rfl) (by decide) rfl ?_
  refine TT.steps (cd := cd114) 3 (c' := (16, [(2, 48), (2, 36), (0, 11), (2, 116)], [(0, (σ 48 0))], σ)) rfl rfl ?_
  refine TT.top0 (z := ((w : Nat) : Int)) hw ?_
  refine TT.steps (cd := cd114) 1 (c' := ((if decide (((w : Nat) : Int) = 0) = true then 19 else 17), [(2, 48), (2, 36), (0, 11), (2, 116)], [], σ)) rfl rfl ?_
  refine TT.br (p := ((w : Nat) : Int) = 0) (fun h1 => absurd h1 (show ¬ (((w : Nat) : Int) = 0) by omega)) (fun h1 => ?_)
  refine TT.steps (cd := cd114) 4 (c' := (23, [(2, 48), (2, 36), (0, 11), (2, 116)], [(2, 116), (2, 36)], σ)) rfl rfl ?_
  refine TT.call (cd := cd114) rfl rfl rfl (by decide) rfl (v_copy_36_116 X σ) (fun r2 σ2 hq => ?_)
  obtain ⟨rfl, hC⟩ := hq
  refine TT.steps (cd := cd114) 6 (c' := (30, [(2, 48), (2, 36), (0, 11), (2, 116)], [(0, ((up2 σ2 48 2 11) 48 0)), (2, 48)], (up2 σ2 48 2 11))) rfl rfl ?_
  refine TT.top0 (z := ((w : Nat) : Int)) (((up2_by _ _ (j := 2) (j' := 0) _ (by decide)).trans (hC.1 48 (0) (by omega))).trans hw) ?_
  refine TT.steps (cd := cd114) 2 (c' := (32, [(2, 48), (2, 36), (0, 11), (2, 116)], [(0, (aSub ((w : Nat) : Int) 1)), (2, 48)], (up2 σ2 48 2 11))) rfl rfl ?_
  refine TT.top0 (z := ((w - 1 : Nat) : Int)) (aSub_n (a := w) (b := 1) (by omega) (by omega)) ?_
  refine TT.steps (cd := cd114) 2 (c' := (34, [(2, 48), (2, 36), (0, 11), (2, 116)], [(0, 1)], (up2 (up2 σ2 48 2 11) 48 0 ((w - 1 : Nat) : Int)))) rfl rfl ?_
  exact TT.ret (cd := cd114) rfl rfl rfl rfl (⟨rfl, _, hC, rfl⟩)
theorem v_save_13 (X : AX) (w : Nat) (hw2 : w ≤ 20) (σ : AH) (htp : σ 48 2 = 13) (hw : σ 48 0 = (w : Int))  : TT X 113 (0, [(2, 48), (2, 36), (9, 0)], [], σ) (fun r σ' => r = none ∧ ∃ τ, CP σ τ 128 36 ∧ σ' = up2 (up2 τ 48 2 14) 48 0 ((if w = 20 then 20 else w + 1 : Nat) : Int)) := by
  refine TT.steps (cd := cd113) 4 (c' := (4, [(2, 48), (2, 36), (9, 0)], [(0, (σ 48 2)), (2, 49)], σ)) rfl rfl ?_
  refine TT.top0 (z := 13) htp ?_
  refine TT.aaldN (cd := cd113) 49 13 128 rfl rfl rfl (Or.inl rfl) (by decide) rfl ?_
  refine TT.steps (cd := cd113) 5 (c' := (10, [(2, 48), (2, 36), (2, 128)], [(2, 36), (2, 128)], σ)) rfl rfl ?_
  refine TT.call (cd := cd113) rfl rfl rfl (by decide) rfl (v_copy_128_36 X σ) (fun r1 σ1 hq => ?_)
  obtain ⟨rfl, hC⟩ := hq
  refine TT.steps (cd := cd113) 3 (c' := (14, [(2, 48), (2, 36), (2, 128)], [(0, (σ1 48 2)), (2, 48)], σ1)) rfl rfl ?_
  refine TT.top0 (z := 13) ((hC.1 48 (2) (by omega)).trans htp) ?_
  refine TT.steps (cd := cd113) 2 (c' := (16, [(2, 48), (2, 36), (2, 128)], [(0, (aAdd 13 1)), (2, 48)], σ1)) rfl rfl ?_
  refine TT.top0 (z := 14) (by decide) ?_
  refine TT.steps (cd := cd113) 2 (c' := (18, [(2, 48), (2, 36), (2, 128)], [(0, (aRem 14 20)), (2, 48)], σ1)) rfl rfl ?_
  refine TT.top0 (z := 14) (by decide) ?_
  refine TT.steps (cd := cd113) 4 (c' := (22, [(2, 48), (2, 36), (2, 128)], [(0, ((up2 σ1 48 2 14) 48 0)), (2, 48)], (up2 σ1 48 2 14))) rfl rfl ?_
  refine TT.top0 (z := ((w : Nat) : Int)) (((up2_by _ _ (j := 2) (j' := 0) _ (by decide)).trans (hC.1 48 (0) (by omega))).trans hw) ?_
  refine TT.steps (cd := cd113) 2 (c' := (24, [(2, 48), (2, 36), (2, 128)], [(0, (aAdd ((w : Nat) : Int) 1)), (2, 48)], (up2 σ1 48 2 14))) rfl rfl ?_
  refine TT.top0 (z := ((w + 1 : Nat) : Int)) (aAdd_n (a := w) (b := 1) (by omega)) ?_
  refine TT.steps (cd := cd113) 1 (c' := (25, [(2, 48), (2, 36), (2, 128)], [(0, 20), (0, ((w + 1 : Nat) : Int)), (2, 48)], (up2 σ1 48 2 14))) rfl rfl ?_
  refine TT.steps (cd := cd113) 1 (c' := (26, [(2, 48), (2, 36), (2, 128)], [(0, (aMin ((w + 1 : Nat) : Int) 20)), (2, 48)], (up2 σ1 48 2 14))) rfl rfl ?_
  refine TT.top0 (z := (((if w = 20 then 20 else w + 1) : Nat) : Int)) (by unfold aMin; split <;> split <;> omega) ?_
  refine TT.steps (cd := cd113) 1 (c' := (27, [(2, 48), (2, 36), (2, 128)], [], (up2 (up2 σ1 48 2 14) 48 0 (((if w = 20 then 20 else w + 1) : Nat) : Int)))) rfl rfl ?_
  exact TT.ret (cd := cd113) rfl rfl rfl rfl (⟨rfl, _, hC, rfl⟩)
theorem v_restore0_13 (X : AX) (σ : AH) (htp : σ 48 2 = 13) (hw : σ 48 0 = 0)  : TT X 114 (0, [(2, 48), (2, 36), (9, 0), (9, 0)], [], σ) (fun r σ' => r = some (0, 0) ∧ σ' = σ) := by
  refine TT.steps (cd := cd114) 2 (c' := (2, [(2, 48), (2, 36), (9, 0), (9, 0)], [(0, (σ 48 2))], σ)) rfl rfl ?_
  refine TT.top0 (z := 13) htp ?_
  refine TT.steps (cd := cd114) 2 (c' := (4, [(2, 48), (2, 36), (9, 0), (9, 0)], [(0, (aAdd 13 20))], σ)) rfl rfl ?_
  refine TT.top0 (z := 33) (by decide) ?_
  refine TT.steps (cd := cd114) 2 (c' := (6, [(2, 48), (2, 36), (9, 0), (9, 0)], [(0, (aSub 33 1))], σ)) rfl rfl ?_
  refine TT.top0 (z := 32) (by decide) ?_
  refine TT.steps (cd := cd114) 2 (c' := (8, [(2, 48), (2, 36), (9, 0), (9, 0)], [(0, (aRem 32 20))], σ)) rfl rfl ?_
  refine TT.top0 (z := 12) (by decide) ?_
  refine TT.steps (cd := cd114) 4 (c' := (12, [(2, 48), (2, 36), (0, 12), (9, 0)], [(0, 12), (2, 49)], σ)) rfl rfl ?_
  refine TT.aaldN (cd := cd114) 49 12 122 rfl rfl rfl (Or.inl rfl) (by decide) rfl ?_
  refine TT.steps (cd := cd114) 3 (c' := (16, [(2, 48), (2, 36), (0, 12), (2, 122)], [(0, (σ 48 0))], σ)) rfl rfl ?_
  refine TT.top0 (z := 0) hw ?_
  refine TT.steps (cd := cd114) 2 (c' := (20, [(2, 48), (2, 36), (0, 12), (2, 122)], [(0, 0)], σ)) rfl rfl ?_
  exact TT.ret (cd := cd114) rfl rfl rfl rfl (⟨rfl, rfl⟩)
theorem v_restore1_13 (X : AX) (w : Nat) (hw0 : 0 < w) (hw2 : w ≤ 20) (σ : AH) (htp : σ 48 2 = 13) (hw : σ 48 0 = (w : Int))  : TT X 114 (0, [(2, 48), (2, 36), (9, 0), (9, 0)], [], σ) (fun r σ' => r = some (0, 1) ∧ ∃ τ, CP σ τ 36 122 ∧ σ' = up2 (up2 τ 48 2 12) 48 0 ((w - 1 : Nat) : Int)) := by
  refine TT.steps (cd := cd114) 2 (c' := (2, [(2, 48), (2, 36), (9, 0), (9, 0)], [(0, (σ 48 2))], σ)) rfl rfl ?_
  refine TT.top0 (z := 13) htp ?_
  refine TT.steps (cd := cd114) 2 (c' := (4, [(2, 48), (2, 36), (9, 0), (9, 0)], [(0, (aAdd 13 20))], σ)) rfl rfl ?_
  refine TT.top0 (z := 33) (by decide) ?_
  refine TT.steps (cd := cd114) 2 (c' := (6, [(2, 48), (2, 36), (9, 0), (9, 0)], [(0, (aSub 33 1))], σ)) rfl rfl ?_
  refine TT.top0 (z := 32) (by decide) ?_
  refine TT.steps (cd := cd114) 2 (c' := (8, [(2, 48), (2, 36), (9, 0), (9, 0)], [(0, (aRem 32 20))], σ)) rfl rfl ?_
  refine TT.top0 (z := 12) (by decide) ?_
  refine TT.steps (cd := cd114) 4 (c' := (12, [(2, 48), (2, 36), (0, 12), (9, 0)], [(0, 12), (2, 49)], σ)) rfl rfl ?_
  refine TT.aaldN (cd := cd114) 49 12 122 rfl rfl rfl (Or.inl rfl) (by decide) rfl ?_
  refine TT.steps (cd := cd114) 3 (c' := (16, [(2, 48), (2, 36), (0, 12), (2, 122)], [(0, (σ 48 0))], σ)) rfl rfl ?_
  refine TT.top0 (z := ((w : Nat) : Int)) hw ?_
  refine TT.steps (cd := cd114) 1 (c' := ((if decide (((w : Nat) : Int) = 0) = true then 19 else 17), [(2, 48), (2, 36), (0, 12), (2, 122)], [], σ)) rfl rfl ?_
  refine TT.br (p := ((w : Nat) : Int) = 0) (fun h1 => absurd h1 (show ¬ (((w : Nat) : Int) = 0) by omega)) (fun h1 => ?_)
  refine TT.steps (cd := cd114) 4 (c' := (23, [(2, 48), (2, 36), (0, 12), (2, 122)], [(2, 122), (2, 36)], σ)) rfl rfl ?_
  refine TT.call (cd := cd114) rfl rfl rfl (by decide) rfl (v_copy_36_122 X σ) (fun r2 σ2 hq => ?_)
  obtain ⟨rfl, hC⟩ := hq
  refine TT.steps (cd := cd114) 6 (c' := (30, [(2, 48), (2, 36), (0, 12), (2, 122)], [(0, ((up2 σ2 48 2 12) 48 0)), (2, 48)], (up2 σ2 48 2 12))) rfl rfl ?_
  refine TT.top0 (z := ((w : Nat) : Int)) (((up2_by _ _ (j := 2) (j' := 0) _ (by decide)).trans (hC.1 48 (0) (by omega))).trans hw) ?_
  refine TT.steps (cd := cd114) 2 (c' := (32, [(2, 48), (2, 36), (0, 12), (2, 122)], [(0, (aSub ((w : Nat) : Int) 1)), (2, 48)], (up2 σ2 48 2 12))) rfl rfl ?_
  refine TT.top0 (z := ((w - 1 : Nat) : Int)) (aSub_n (a := w) (b := 1) (by omega) (by omega)) ?_
  refine TT.steps (cd := cd114) 2 (c' := (34, [(2, 48), (2, 36), (0, 12), (2, 122)], [(0, 1)], (up2 (up2 σ2 48 2 12) 48 0 ((w - 1 : Nat) : Int)))) rfl rfl ?_
  exact TT.ret (cd := cd114) rfl rfl rfl rfl (⟨rfl, _, hC, rfl⟩)
theorem v_save_14 (X : AX) (w : Nat) (hw2 : w ≤ 20) (σ : AH) (htp : σ 48 2 = 14) (hw : σ 48 0 = (w : Int))  : TT X 113 (0, [(2, 48), (2, 36), (9, 0)], [], σ) (fun r σ' => r = none ∧ ∃ τ, CP σ τ 134 36 ∧ σ' = up2 (up2 τ 48 2 15) 48 0 ((if w = 20 then 20 else w + 1 : Nat) : Int)) := by
  refine TT.steps (cd := cd113) 4 (c' := (4, [(2, 48), (2, 36), (9, 0)], [(0, (σ 48 2)), (2, 49)], σ)) rfl rfl ?_
  refine TT.top0 (z := 14) htp ?_
  refine TT.aaldN (cd := cd113) 49 14 134 rfl rfl rfl (Or.inl rfl) (by decide) rfl ?_
  refine TT.steps (cd := cd113) 5 (c' := (10, [(2, 48), (2, 36), (2, 134)], [(2, 36), (2, 134)], σ)) rfl rfl ?_
  refine TT.call (cd := cd113) rfl rfl rfl (by decide) rfl (v_copy_134_36 X σ) (fun r1 σ1 hq => ?_)
  obtain ⟨rfl, hC⟩ := hq
  refine TT.steps (cd := cd113) 3 (c' := (14, [(2, 48), (2, 36), (2, 134)], [(0, (σ1 48 2)), (2, 48)], σ1)) rfl rfl ?_
  refine TT.top0 (z := 14) ((hC.1 48 (2) (by omega)).trans htp) ?_
  refine TT.steps (cd := cd113) 2 (c' := (16, [(2, 48), (2, 36), (2, 134)], [(0, (aAdd 14 1)), (2, 48)], σ1)) rfl rfl ?_
  refine TT.top0 (z := 15) (by decide) ?_
  refine TT.steps (cd := cd113) 2 (c' := (18, [(2, 48), (2, 36), (2, 134)], [(0, (aRem 15 20)), (2, 48)], σ1)) rfl rfl ?_
  refine TT.top0 (z := 15) (by decide) ?_
  refine TT.steps (cd := cd113) 4 (c' := (22, [(2, 48), (2, 36), (2, 134)], [(0, ((up2 σ1 48 2 15) 48 0)), (2, 48)], (up2 σ1 48 2 15))) rfl rfl ?_
  refine TT.top0 (z := ((w : Nat) : Int)) (((up2_by _ _ (j := 2) (j' := 0) _ (by decide)).trans (hC.1 48 (0) (by omega))).trans hw) ?_
  refine TT.steps (cd := cd113) 2 (c' := (24, [(2, 48), (2, 36), (2, 134)], [(0, (aAdd ((w : Nat) : Int) 1)), (2, 48)], (up2 σ1 48 2 15))) rfl rfl ?_
  refine TT.top0 (z := ((w + 1 : Nat) : Int)) (aAdd_n (a := w) (b := 1) (by omega)) ?_
  refine TT.steps (cd := cd113) 1 (c' := (25, [(2, 48), (2, 36), (2, 134)], [(0, 20), (0, ((w + 1 : Nat) : Int)), (2, 48)], (up2 σ1 48 2 15))) rfl rfl ?_
  refine TT.steps (cd := cd113) 1 (c' := (26, [(2, 48), (2, 36), (2, 134)], [(0, (aMin ((w + 1 : Nat) : Int) 20)), (2, 48)], (up2 σ1 48 2 15))) rfl rfl ?_
  refine TT.top0 (z := (((if w = 20 then 20 else w + 1) : Nat) : Int)) (by unfold aMin; split <;> split <;> omega) ?_
  refine TT.steps (cd := cd113) 1 (c' := (27, [(2, 48), (2, 36), (2, 134)], [], (up2 (up2 σ1 48 2 15) 48 0 (((if w = 20 then 20 else w + 1) : Nat) : Int)))) rfl rfl ?_
  exact TT.ret (cd := cd113) rfl rfl rfl rfl (⟨rfl, _, hC, rfl⟩)
theorem v_restore0_14 (X : AX) (σ : AH) (htp : σ 48 2 = 14) (hw : σ 48 0 = 0)  : TT X 114 (0, [(2, 48), (2, 36), (9, 0), (9, 0)], [], σ) (fun r σ' => r = some (0, 0) ∧ σ' = σ) := by
  refine TT.steps (cd := cd114) 2 (c' := (2, [(2, 48), (2, 36), (9, 0), (9, 0)], [(0, (σ 48 2))], σ)) rfl rfl ?_
  refine TT.top0 (z := 14) htp ?_
  refine TT.steps (cd := cd114) 2 (c' := (4, [(2, 48), (2, 36), (9, 0), (9, 0)], [(0, (aAdd 14 20))], σ)) rfl rfl ?_
  refine TT.top0 (z := 34) (by decide) ?_
  refine TT.steps (cd := cd114) 2 (c' := (6, [(2, 48), (2, 36), (9, 0), (9, 0)], [(0, (aSub 34 1))], σ)) rfl rfl ?_
  refine TT.top0 (z := 33) (by decide) ?_
  refine TT.steps (cd := cd114) 2 (c' := (8, [(2, 48), (2, 36), (9, 0), (9, 0)], [(0, (aRem 33 20))], σ)) rfl rfl ?_
  refine TT.top0 (z := 13) (by decide) ?_
  refine TT.steps (cd := cd114) 4 (c' := (12, [(2, 48), (2, 36), (0, 13), (9, 0)], [(0, 13), (2, 49)], σ)) rfl rfl ?_
  refine TT.aaldN (cd := cd114) 49 13 128 rfl rfl rfl (Or.inl rfl) (by decide) rfl ?_
  refine TT.steps (cd := cd114) 3 (c' := (16, [(2, 48), (2, 36), (0, 13), (2, 128)], [(0, (σ 48 0))], σ)) rfl rfl ?_
  refine TT.top0 (z := 0) hw ?_
  refine TT.steps (cd := cd114) 2 (c' := (20, [(2, 48), (2, 36), (0, 13), (2, 128)], [(0, 0)], σ)) rfl rfl ?_
  exact TT.ret (cd := cd114) rfl rfl rfl rfl (⟨rfl, rfl⟩)
theorem v_restore1_14 (X : AX) (w : Nat) (hw0 : 0 < w) (hw2 : w ≤ 20) (σ : AH) (htp : σ 48 2 = 14) (hw : σ 48 0 = (w : Int))  : TT X 114 (0, [(2, 48), (2, 36), (9, 0), (9, 0)], [], σ) (fun r σ' => r = some (0, 1) ∧ ∃ τ, CP σ τ 36 128 ∧ σ' = up2 (up2 τ 48 2 13) 48 0 ((w - 1 : Nat) : Int)) := by
  refine TT.steps (cd := cd114) 2 (c' := (2, [(2, 48), (2, 36), (9, 0), (9, 0)], [(0, (σ 48 2))], σ)) rfl rfl ?_
  refine TT.top0 (z := 14) htp ?_
  refine TT.steps (cd := cd114) 2 (c' := (4, [(2, 48), (2, 36), (9, 0), (9, 0)], [(0, (aAdd 14 20))], σ)) rfl rfl ?_
  refine TT.top0 (z := 34) (by decide) ?_
  refine TT.steps (cd := cd114) 2 (c' := (6, [(2, 48), (2, 36), (9, 0), (9, 0)], [(0, (aSub 34 1))], σ)) rfl rfl ?_
  refine TT.top0 (z := 33) (by decide) ?_
  refine TT.steps (cd := cd114) 2 (c' := (8, [(2, 48), (2, 36), (9, 0), (9, 0)], [(0, (aRem 33 20))], σ)) rfl rfl ?_
  refine TT.top0 (z := 13) (by decide) ?_
  refine TT.steps (cd := cd114) 4 (c' := (12, [(2, 48), (2, 36), (0, 13), (9, 0)], [(0, 13), (2, 49)], σ)) rfl rfl ?_
  refine TT.aaldN (cd := cd114) 49 13 128 rfl rfl rfl (Or.inl rfl) (by decide) rfl ?_
  refine TT.steps (cd := cd114) 3 (c' := (16, [(2, 48), (2, 36), (0, 13), (2, 128)], [(0, (σ 48 0))], σ)) rfl rfl ?_
  refine TT.top0 (z := ((w : Nat) : Int)) hw ?_
  refine TT.steps (cd := cd114) 1 (c' := ((if decide (((w : Nat) : Int) = 0) = true then 19 else 17), [(2, 48), (2, 36), (0, 13), (2, 128)], [], σ)) rfl rfl ?_
  refine TT.br (p := ((w : Nat) : Int) = 0) (fun h1 => absurd h1 (show ¬ (((w : Nat) : Int) = 0) by omega)) (fun h1 => ?_)
  refine TT.steps (cd := cd114) 4 (c' := (23, [(2, 48), (2, 36), (0, 13), (2, 128)], [(2, 128), (2, 36)], σ)) rfl rfl ?_
  refine TT.call (cd := cd114) rfl rfl rfl (by decide) rfl (v_copy_36_128 X σ) (fun r2 σ2 hq => ?_)
  obtain ⟨rfl, hC⟩ := hq
  refine TT.steps (cd := cd114) 6 (c' := (30, [(2, 48), (2, 36), (0, 13), (2, 128)], [(0, ((up2 σ2 48 2 13) 48 0)), (2, 48)], (up2 σ2 48 2 13))) rfl rfl ?_
  refine TT.top0 (z := ((w : Nat) : Int)) (((up2_by _ _ (j := 2) (j' := 0) _ (by decide)).trans (hC.1 48 (0) (by omega))).trans hw) ?_
  refine TT.steps (cd := cd114) 2 (c' := (32, [(2, 48), (2, 36), (0, 13), (2, 128)], [(0, (aSub ((w : Nat) : Int) 1)), (2, 48)], (up2 σ2 48 2 13))) rfl rfl ?_
  refine TT.top0 (z := ((w - 1 : Nat) : Int)) (aSub_n (a := w) (b := 1) (by omega) (by omega)) ?_
  refine TT.steps (cd := cd114) 2 (c' := (34, [(2, 48), (2, 36), (0, 13), (2, 128)], [(0, 1)], (up2 (up2 σ2 48 2 13) 48 0 ((w - 1 : Nat) : Int)))) rfl rfl ?_
  exact TT.ret (cd := cd114) rfl rfl rfl rfl (⟨rfl, _, hC, rfl⟩)
theorem v_save_15 (X : AX) (w : Nat) (hw2 : w ≤ 20) (σ : AH) (htp : σ 48 2 = 15) (hw : σ 48 0 = (w : Int))  : TT X 113 (0, [(2, 48), (2, 36), (9, 0)], [], σ) (fun r σ' => r = none ∧ ∃ τ, CP σ τ 140 36 ∧ σ' = up2 (up2 τ 48 2 16) 48 0 ((if w = 20 then 20 else w + 1 : Nat) : Int)) := by
  refine TT.steps (cd := cd113) 4 (c' := (4, [(2, 48), (2, 36), (9, 0)], [(0, (σ 48 2)), (2, 49)], σ)) rfl rfl ?_
  refine TT.top0 (z := 15) htp ?_
  refine TT.aaldN (cd := cd113) 49 15 140 rfl rfl rfl (Or.inl rfl) (by decide) rfl ?_
  refine TT.steps (cd := cd113) 5 (c' := (10, [(2, 48), (2, 36), (2, 140)], [(2, 36), (2, 140)], σ)) rfl rfl ?_
  refine TT.call (cd := cd113) rfl rfl rfl (by decide) rfl (v_copy_140_36 X σ) (fun r1 σ1 hq => ?_)
  obtain ⟨rfl, hC⟩ := hq
  refine TT.steps (cd := cd113) 3 (c' := (14, [(2, 48), (2, 36), (2, 140)], [(0, (σ1 48 2)), (2, 48)], σ1)) rfl rfl ?_
  refine TT.top0 (z := 15) ((hC.1 48 (2) (by omega)).trans htp) ?_
  refine TT.steps (cd := cd113) 2 (c' := (16, [(2, 48), (2, 36), (2, 140)], [(0, (aAdd 15 1)), (2, 48)], σ1)) rfl rfl ?_
  refine TT.top0 (z := 16) (by decide) ?_
  refine TT.steps (cd := cd113) 2 (c' := (18, [(2, 48), (2, 36), (2, 140)], [(0, (aRem 16 20)), (2, 48)], σ1)) rfl rfl ?_
  refine TT.top0 (z := 16) (by decide) ?_
  refine TT.steps (cd := cd113) 4 (c' := (22, [(2, 48), (2, 36), (2, 140)], [(0, ((up2 σ1 48 2 16) 48 0)), (2, 48)], (up2 σ1 48 2 16))) rfl rfl ?_
  refine TT.top0 (z := ((w : Nat) : Int)) (((up2_by _ _ (j := 2) (j' := 0) _ (by decide)).trans (hC.1 48 (0) (by omega))).trans hw) ?_
  refine TT.steps (cd := cd113) 2 (c' := (24, [(2, 48), (2, 36), (2, 140)], [(0, (aAdd ((w : Nat) : Int) 1)), (2, 48)], (up2 σ1 48 2 16))) rfl rfl ?_
  refine TT.top0 (z := ((w + 1 : Nat) : Int)) (aAdd_n (a := w) (b := 1) (by omega)) ?_
  refine TT.steps (cd := cd113) 1 (c' := (25, [(2, 48), (2, 36), (2, 140)], [(0, 20), (0, ((w + 1 : Nat) : Int)), (2, 48)], (up2 σ1 48 2 16))) rfl rfl ?_
  refine TT.steps (cd := cd113) 1 (c' := (26, [(2, 48), (2, 36), (2, 140)], [(0, (aMin ((w + 1 : Nat) : Int) 20)), (2, 48)], (up2 σ1 48 2 16))) rfl rfl ?_
  refine TT.top0 (z := (((if w = 20 then 20 else w + 1) : Nat) : Int)) (by unfold aMin; split <;> split <;> omega) ?_
  refine TT.steps (cd := cd113) 1 (c' := (27, [(2, 48), (2, 36), (2, 140)], [], (up2 (up2 σ1 48 2 16) 48 0 (((if w = 20 then 20 else w + 1) : Nat) : Int)))) rfl rfl ?_
  exact TT.ret (cd := cd113) rfl rfl rfl rfl (⟨rfl, _, hC, rfl⟩)
theorem v_restore0_15 (X : AX) (σ : AH) (htp : σ 48 2 = 15) (hw : σ 48 0 = 0)  : TT X 114 (0, [(2, 48), (2, 36), (9, 0), (9, 0)], [], σ) (fun r σ' => r = some (0, 0) ∧ σ' = σ) := by
  refine TT.steps (cd := cd114) 2 (c' := (2, [(2, 48), (2, 36), (9, 0), (9, 0)], [(0, (σ 48 2))], σ)) rfl rfl ?_
  refine TT.top0 (z := 15) htp ?_
  refine TT.steps (cd := cd114) 2 (c' := (4, [(2, 48), (2, 36), (9, 0), (9, 0)], [(0, (aAdd 15 20))], σ)) rfl rfl ?_
  refine TT.top0 (z := 35) (by decide) ?_
  refine TT.steps (cd := cd114) 2 (c' := (6, [(2, 48), (2, 36), (9, 0), (9, 0)], [(0, (aSub 35 1))], σ)) rfl rfl ?_
  refine TT.top0 (z := 34) (by decide) ?_
  refine TT.steps (cd := cd114) 2 (c' := (8, [(2, 48), (2, 36), (9, 0), (9, 0)], [(0, (aRem 34 20))], σ)) rfl rfl ?_
  refine TT.top0 (z := 14) (by decide) ?_
  refine TT.steps (cd := cd114) 4 (c' := (12, [(2, 48), (2, 36), (0, 14), (9, 0)], [(0, 14), (2, 49)], σ)) rfl rfl ?_
  refine TT.aaldN (cd := cd114) 49 14 134 rfl rfl rfl (Or.inl rfl) (by decide) rfl ?_
  refine TT.steps (cd := cd114) 3 (c' := (16, [(2, 48), (2, 36), (0, 14), (2, 134)], [(0, (σ 48 0))], σ)) rfl rfl ?_
  refine TT.top0 (z := 0) hw ?_
  refine TT.steps (cd := cd114) 2 (c' := (20, [(2, 48), (2, 36), (0, 14), (2, 134)], [(0, 0)], σ)) rfl rfl ?_
  exact TT.ret (cd := cd114) rfl rfl rfl rfl (⟨rfl, rfl⟩)
theorem v_restore1_15 (X : AX) (w : Nat) (hw0 : 0 < w) (hw2 : w ≤ 20) (σ : AH) (htp : σ 48 2 = 15) (hw : σ 48 0 = (w : Int))  : TT X 114 (0, [(2, 48), (2, 36), (9, 0), (9, 0)], [], σ) (fun r σ' => r = some (0, 1) ∧ ∃ τ, CP σ τ 36 134 ∧ σ' = up2 (up2 τ 48 2 14) 48 0 ((w - 1 : Nat) : Int)) := by
  refine TT.steps (cd := cd114) 2 (c' := (2, [(2, 48), (2, 36), (9, 0), (9, 0)], [(0, (σ 48 2))], σ)) rfl rfl ?_
  refine TT.top0 (z := 15) htp ?_
  refine TT.steps (cd := cd114) 2 (c' := (4, [(2, 48), (2, 36), (9, 0), (9, 0)], [(0, (aAdd 15 20))], σ)) rfl rfl ?_
  refine TT.top0 (z := 35) (by decide) ?_
  refine TT.steps (cd := cd114) 2 (c' := (6, [(2, 48), (2, 36), (9, 0), (9, 0)], [(0, (aSub 35 1))], σ)) rfl rfl ?_
  refine TT.top0 (z := 34) (by decide) ?_
  refine TT.steps (cd := cd114) 2 (c' := (8, [(2, 48), (2, 36), (9, 0), (9, 0)], [(0, (aRem 34 20))], σ)) rfl rfl ?_
  refine TT.top0 (z := 14) (by decide) ?_
  refine TT.steps (cd := cd114) 4 (c' := (12, [(2, 48), (2, 36), (0, 14), (9, 0)], [(0, 14), (2, 49)], σ)) rfl rfl ?_
  refine TT.aaldN (cd := cd114) 49 14 134 rfl rfl rfl (Or.inl rfl) (by decide) rfl ?_
  refine TT.steps (cd := cd114) 3 (c' := (16, [(2, 48), (2, 36), (0, 14), (2, 134)], [(0, (σ 48 0))], σ)) rfl rfl ?_
  refine TT.top0 (z := ((w : Nat) : Int)) hw ?_
  refine TT.steps (cd := cd114) 1 (c' := ((if decide (((w : Nat) : Int) = 0) = true then 19 else 17), [(2, 48), (2, 36), (0, 14), (2, 134)], [], σ)) rfl rfl ?_
  refine TT.br (p := ((w : Nat) : Int) = 0) (fun h1 => absurd h1 (show ¬ (((w : Nat) : Int) = 0) by omega)) (fun h1 => ?_)
  refine TT.steps (cd := cd114) 4 (c' := (23, [(2, 48), (2, 36), (0, 14), (2, 134)], [(2, 134), (2, 36)], σ)) rfl rfl ?_
  refine TT.call (cd := cd114) rfl rfl rfl (by decide) rfl (v_copy_36_134 X σ) (fun r2 σ2 hq => ?_)
  obtain ⟨rfl, hC⟩ := hq
  refine TT.steps (cd := cd114) 6 (c' := (30, [(2, 48), (2, 36), (0, 14), (2, 134)], [(0, ((up2 σ2 48 2 14) 48 0)), (2, 48)], (up2 σ2 48 2 14))) rfl rfl ?_
  refine TT.top0 (z := ((w : Nat) : Int)) (((up2_by _ _ (j := 2) (j' := 0) _ (by decide)).trans (hC.1 48 (0) (by omega))).trans hw) ?_
  refine TT.steps (cd := cd114) 2 (c' := (32, [(2, 48), (2, 36), (0, 14), (2, 134)], [(0, (aSub ((w : Nat) : Int) 1)), (2, 48)], (up2 σ2 48 2 14))) rfl rfl ?_
  refine TT.top0 (z := ((w - 1 : Nat) : Int)) (aSub_n (a := w) (b := 1) (by omega) (by omega)) ?_
  refine TT.steps (cd := cd114) 2 (c' := (34, [(2, 48), (2, 36), (0, 14), (2, 134)], [(0, 1)], (up2 (up2 σ2 48 2 14) 48 0 ((w - 1 : Nat) : Int)))) rfl rfl ?_
  exact TT.ret (cd := cd114) rfl rfl rfl rfl (⟨rfl, _, hC, rfl⟩)
theorem v_save_16 (X : AX) (w : Nat) (hw2 : w ≤ 20) (σ : AH) (htp : σ 48 2 = 16) (hw : σ 48 0 = (w : Int))  : TT X 113 (0, [(2, 48), (2, 36), (9, 0)], [], σ) (fun r σ' => r = none ∧ ∃ τ, CP σ τ 146 36 ∧ σ' = up2 (up2 τ 48 2 17) 48 0 ((if w = 20 then 20 else w + 1 : Nat) : Int)) := by
  refine TT.steps (cd := cd113) 4 (c' := (4, [(2, 48), (2, 36), (9, 0)], [(0, (σ 48 2)), (2, 49)], σ)) rfl rfl ?_
  refine TT.top0 (z := 16) htp ?_
  refine TT.aaldN (cd := cd113) 49 16 146 rfl rfl rfl (Or.inl rfl) (by decide) rfl ?_
  refine TT.steps (cd := cd113) 5 (c' := (10, [(2, 48), (2, 36), (2, 146)], [(2, 36), (2, 146)], σ)) rfl rfl ?_
  refine TT.call (cd := cd113) rfl rfl rfl (by decide) rfl (v_copy_146_36 X σ) (fun r1 σ1 hq => ?_)
  obtain ⟨rfl, hC⟩ := hq
  refine TT.steps (cd := cd113) 3 (c' := (14, [(2, 48), (2, 36), (2, 146)], [(0, (σ1 48 2)), (2, 48)], σ1)) rfl rfl ?_
  refine TT.top0 (z := 16) ((hC.1 48 (2) (by omega)).trans htp) ?_
  refine TT.steps (cd := cd113) 2 (c' := (16, [(2, 48), (2, 36), (2, 146)], [(0, (aAdd 16 1)), (2, 48)], σ1)) rfl rfl ?_
  refine TT.top0 (z := 17) (by decide) ?_
  refine TT.steps (cd := cd113) 2 (c' := (18, [(2, 48), (2, 36), (2, 146)], [(0, (aRem 17 20)), (2, 48)], σ1)) rfl rfl ?_
  refine TT.top0 (z := 17) (by decide) ?_
  refine TT.steps (cd := cd113) 4 (c' := (22, [(2, 48), (2, 36), (2, 146)], [(0, ((up2 σ1 48 2 17) 48 0)), (2, 48)], (up2 σ1 48 2 17))) rfl rfl ?_
  refine TT.top0 (z := ((w : Nat) : Int)) (((up2_by _ _ (j := 2) (j' := 0) _ (by decide)).trans (hC.1 48 (0) (by omega))).trans hw) ?_
  refine TT.steps (cd := cd113) 2 (c' := (24, [(2, 48), (2, 36), (2, 146)], [(0, (aAdd ((w : Nat) : Int) 1)), (2, 48)], (up2 σ1 48 2 17))) rfl rfl ?_
  refine TT.top0 (z := ((w + 1 : Nat) : Int)) (aAdd_n (a := w) (b := 1) (by omega)) ?_
  refine TT.steps (cd := cd113) 1 (c' := (25, [(2, 48), (2, 36), (2, 146)], [(0, 20), (0, ((w + 1 : Nat) : Int)), (2, 48)], (up2 σ1 48 2 17))) rfl rfl ?_
  refine TT.steps (cd := cd113) 1 (c' := (26, [(2, 48), (2, 36), (2, 146)], [(0, (aMin ((w + 1 : Nat) : Int) 20)), (2, 48)], (up2 σ1 48 2 17))) rfl rfl ?_
  refine TT.top0 (z := (((if w = 20 then 20 else w + 1) : Nat) : Int)) (by unfold aMin; split <;> split <;> omega) ?_
  refine TT.steps (cd := cd113) 1 (c' := (27, [(2, 48), (2, 36), (2, 146)], [], (up2 (up2 σ1 48 2 17) 48 0 (((if w = 20 then 20 else w + 1) : Nat) : Int)))) rfl rfl ?_
  exact TT.ret (cd := cd113) rfl rfl rfl rfl (⟨rfl, _, hC, rfl⟩)
theorem v_restore0_16 (X : AX) (σ : AH) (htp : σ 48 2 = 16) (hw : σ 48 0 = 0)  : TT X 114 (0, [(2, 48), (2, 36), (9, 0), (9, 0)], [], σ) (fun r σ' => r = some (0, 0) ∧ σ' = σ) := by
  refine TT.steps (cd := cd114) 2 (c' := (2, [(2, 48), (2, 36), (9, 0), (9, 0)], [(0, (σ 48 2))], σ)) rfl rfl ?_
  refine TT.top0 (z := 16) htp ?_
  refine TT.steps (cd := cd114) 2 (c' := (4, [(2, 48), (2, 36), (9, 0), (9, 0)], [(0, (aAdd 16 20))], σ)) rfl rfl ?_
  refine TT.top0 (z := 36) (by decide) ?_
  refine TT.steps (cd := cd114) 2 (c' := (6, [(2, 48), (2, 36), (9, 0), (9, 0)], [(0, (aSub 36 1))], σ)) rfl rfl ?_
  refine TT.top0 (z := 35) (by decide) ?_
  refine TT.steps (cd := cd114) 2 (c' := (8, [(2, 48), (2, 36), (9, 0), (9, 0)], [(0, (aRem 35 20))], σ)) rfl rfl ?_
  refine TT.top0 (z := 15) (by decide) ?_
  refine TT.steps (cd := cd114) 4 (c' := (12, [(2, 48), (2, 36), (0, 15), (9, 0)], [(0, 15), (2, 49)], σ)) rfl rfl ?_
  refine TT.aaldN (cd := cd114) 49 15 140 rfl rfl rfl (Or.inl rfl) (by decide) rfl ?_
  refine TT.steps (cd := cd114) 3 (c' := (16, [(2, 48), (2, 36), (0, 15), (2, 140)], [(0, (σ 48 0))], σ)) rfl rfl ?_
  refine TT.top0 (z := 0) hw ?_
  refine TT.steps (cd := cd114) 2 (c' := (20, [(2, 48), (2, 36), (0, 15), (2, 140)], [(0, 0)], σ)) rfl rfl ?_
  exact TT.ret (cd := cd114) rfl rfl rfl rfl (⟨rfl, rfl⟩)
theorem v_restore1_16 (X : AX) (w : Nat) (hw0 : 0 < w) (hw2 : w ≤ 20) (σ : AH) (htp : σ 48 2 = 16) (hw : σ 48 0 = (w : Int))  : TT X 114 (0, [(2, 48), (2, 36), (9, 0), (9, 0)], [], σ) (fun r σ' => r = some (0, 1) ∧ ∃ τ, CP σ τ 36 140 ∧ σ' = up2 (up2 τ 48 2 15) 48 0 ((w - 1 : Nat) : Int)) := by
  refine TT.steps (cd := cd114) 2 (c' := (2, [(2, 48), (2, 36), (9, 0), (9, 0)], [(0, (σ 48 2))], σ)) rfl rfl ?_
  refine TT.top0 (z := 16) htp ?_
  refine TT.steps (cd := cd114) 2 (c' := (4, [(2, 48), (2, 36), (9, 0), (9, 0)], [(0, (aAdd 16 20))], σ)) rfl rfl ?_
  refine TT.top0 (z := 36) (by decide) ?_
  refine TT.steps (cd := cd114) 2 (c' := (6, [(2, 48), (2, 36), (9, 0), (9, 0)], [(0, (aSub 36 1))], σ)) rfl rfl ?_
  refine TT.top0 (z := 35) (by decide) ?_
  refine TT.steps (cd := cd114) 2 (c' := (8, [(2, 48), (2, 36), (9, 0), (9, 0)], [(0, (aRem 35 20))], σ)) rfl rfl ?_
  refine TT.top0 (z := 15) (by decide) ?_
  refine TT.steps (cd := cd114) 4 (c' := (12, [(2, 48), (2, 36), (0, 15), (9, 0)], [(0, 15), (2, 49)], σ)) rfl rfl ?_
  refine TT.aaldN (cd := cd114) 49 15 140 rfl rfl rfl (Or.inl rfl) (by decide) rfl ?_
  refine TT.steps (cd := cd114) 3 (c' := (16, [(2, 48), (2, 36), (0, 15), (2, 140)], [(0, (σ 48 0))], σ)) rfl rfl ?_
  refine TT.top0 (z := ((w : Nat) : Int)) hw ?_
  refine TT.steps (cd := cd114) 1 (c' := ((if decide (((w : Nat) : Int) = 0) = true then 19 else 17), [(2, 48), (2, 36), (0, 15), (2, 140)], [], σ)) rfl rfl ?_
  refine TT.br (p := ((w : Nat) : Int) = 0) (fun h1 => absurd h1 (show ¬ (((w : Nat) : Int) = 0) by omega)) (fun h1 => ?_)
  refine TT.steps (cd := cd114) 4 (c' := (23, [(2, 48), (2, 36), (0, 15), (2, 140)], [(2, 140), (2, 36)], σ)) rfl rfl ?_
  refine TT.call (cd := cd114) rfl rfl rfl (by decide) rfl (v_copy_36_140 X σ) (fun r2 σ2 hq => ?_)
  obtain ⟨rfl, hC⟩ := hq
  refine TT.steps (cd := cd114) 6 (c' := (30, [(2, 48), (2, 36), (0, 15), (2, 140)], [(0, ((up2 σ2 48 2 15) 48 0)), (2, 48)], (up2 σ2 48 2 15))) rfl rfl ?_
  refine TT.top0 (z := ((w : Nat) : Int)) (((up2_by _ _ (j := 2) (j' := 0) _ (by decide)).trans (hC.1 48 (0) (by omega))).trans hw) ?_
  refine TT.steps (cd := cd114) 2 (c' := (32, [(2, 48), (2, 36), (0, 15), (2, 140)], [(0, (aSub ((w : Nat) : Int) 1)), (2, 48)], (up2 σ2 48 2 15))) rfl rfl ?_
  refine TT.top0 (z := ((w - 1 : Nat) : Int)) (aSub_n (a := w) (b := 1) (by omega) (by omega)) ?_
  refine TT.steps (cd := cd114) 2 (c' := (34, [(2, 48), (2, 36), (0, 15), (2, 140)], [(0, 1)], (up2 (up2 σ2 48 2 15) 48 0 ((w - 1 : Nat) : Int)))) rfl rfl ?_
  exact TT.ret (cd := cd114) rfl rfl rfl rfl (⟨rfl, _, hC, rfl⟩)
theorem v_save_17 (X : AX) (w : Nat) (hw2 : w ≤ 20) (σ : AH) (htp : σ 48 2 = 17) (hw : σ 48 0 = (w : Int))  : TT X 113 (0, [(2, 48), (2, 36), (9, 0)], [], σ) (fun r σ' => r = none ∧ ∃ τ, CP σ τ 152 36 ∧ σ' = up2 (up2 τ 48 2 18) 48 0 ((if w = 20 then 20 else w + 1 : Nat) : Int)) := by
  refine TT.steps (cd := cd113) 4 (c' := (4, [(2, 48), (2, 36), (9, 0)], [(0, (σ 48 2)), (2, 49)], σ)) rfl rfl ?_
  refine TT.top0 (z := 17) htp ?_
  refine TT.aaldN (cd := cd113) 49 17 152 rfl rfl rfl (Or.inl rfl) (by decide) rfl ?_
  refine TT.steps (cd := cd113) 5 (c' := (10, [(2, 48), (2, 36), (2, 152)], [(2, 36), (2, 152)], σ)) rfl rfl ?_
  refine TT.call (cd := cd113) rfl rfl rfl (by decide) rfl (v_copy_152_36 X σ) (fun r1 σ1 hq => ?_)
  obtain ⟨rfl, hC⟩ := hq
  refine TT.steps (cd := cd113) 3 (c' := (14, [(2, 48), (2, 36), (2, 152)], [(0, (σ1 48 2)), (2, 48)], σ1)) rfl rfl ?_
  refine TT.top0 (z := 17) ((hC.1 48 (2) (by omega)).trans htp) ?_
  refine TT.steps (cd := cd113) 2 (c' := (16, [(2, 48), (2, 36), (2, 152)], [(0, (aAdd 17 1)), (2, 48)], σ1)) rfl rfl ?_
  refine TT.top0 (z := 18) (by decide) ?_
  refine TT.steps (cd := cd113) 2 (c' := (18, [(2, 48), (2, 36), (2, 152)], [(0, (aRem 18 20)), (2, 48)], σ1)) rfl rfl ?_
  refine TT.top0 (z := 18) (by decide) ?_
  refine TT.steps (cd := cd113) 4 (c' := (22, [(2, 48), (2, 36), (2, 152)], [(0, ((up2 σ1 48 2 18) 48 0)), (2, 48)], (up2 σ1 48 2 18))) rfl rfl ?_
  refine TT.top0 (z := ((w : Nat) : Int)) (((up2_by _ _ (j := 2) (j' := 0) _ (by decide)).trans (hC.1 48 (0) (by omega))).trans hw) ?_
  refine TT.steps (cd := cd113) 2 (c' := (24, [(2, 48), (2, 36), (2, 152)], [(0, (aAdd ((w : Nat) : Int) 1)), (2, 48)], (up2 σ1 48 2 18))) rfl rfl ?_
  refine TT.top0 (z := ((w + 1 : Nat) : Int)) (aAdd_n (a := w) (b := 1) (by omega)) ?_
  refine TT.steps (cd := cd113) 1 (c' := (25, [(2, 48), (2, 36), (2, 152)], [(0, 20), (0, ((w + 1 : Nat) : Int)), (2, 48)], (up2 σ1 48 2 18))) rfl rfl ?_
  refine TT.steps (cd := cd113) 1 (c' := (26, [(2, 48), (2, 36), (2, 152)], [(0, (aMin ((w + 1 : Nat) : Int) 20)), (2, 48)], (up2 σ1 48 2 18))) rfl rfl ?_
  refine TT.top0 (z := (((if w = 20 then 20 else w + 1) : Nat) : Int)) (by unfold aMin; split <;> split <;> omega) ?_
  refine TT.steps (cd := cd113) 1 (c' := (27, [(2, 48), (2, 36), (2, 152)], [], (up2 (up2 σ1 48 2 18) 48 0 (((if w = 20 then 20 else w + 1) : Nat) : Int)))) rfl rfl ?_
  exact TT.ret (cd := cd113) rfl rfl rfl rfl (⟨rfl, _, hC, rfl⟩)
theorem v_restore0_17 (X : AX) (σ : AH) (htp : σ 48 2 = 17) (hw : σ 48 0 = 0)  : TT X 114 (0, [(2, 48), (2, 36), (9, 0), (9, 0)], [], σ) (fun r σ' => r = some (0, 0) ∧ σ' = σ) := by
  refine TT.steps (cd := cd114) 2 (c' := (2, [(2, 48), (2, 36), (9, 0), (9, 0)], [(0, (σ 48 2))], σ)) rfl rfl ?_
  refine TT.top0 (z := 17) htp ?_
  refine TT.steps (cd := cd114) 2 (c' := (4, [(2, 48), (2, 36), (9, 0), (9, 0)], [(0, (aAdd 17 20))], σ)) rfl rfl ?_
  refine TT.top0 (z := 37) (by decide) ?_
  refine TT.steps (cd := cd114) 2 (c' := (6, [(2, 48), (2, 36), (9, 0), (9, 0)], [(0, (aSub 37 1))], σ)) rfl rfl ?_
  refine TT.top0 (z := 36) (by decide) ?_
  refine TT.steps (cd := cd114) 2 (c' := (8, [(2, 48), (2, 36), (9, 0), (9, 0)], [(0, (aRem 36 20))], σ)) rfl rfl ?_
  refine TT.top0 (z := 16) (by decide) ?_
  refine TT.steps (cd := cd114) 4 (c' := (12, [(2, 48), (2, 36), (0, 16), (9, 0)], [(0, 16), (2, 49)], σ)) rfl rfl ?_
  refine TT.aaldN (cd := cd114) 49 16 146 rfl rfl rfl (Or.inl rfl) (by decide) rfl ?_
  refine TT.steps (cd := cd114) 3 (c' := (16, [(2, 48), (2, 36), (0, 16), (2, 146)], [(0, (σ 48 0))], σ)) rfl rfl ?_
  refine TT.top0 (z := 0) hw ?_
  refine TT.steps (cd := cd114) 2 (c' := (20, [(2, 48), (2, 36), (0, 16), (2, 146)], [(0, 0)], σ)) rfl rfl ?_
  exact TT.ret (cd := cd114) rfl rfl rfl rfl (⟨rfl, rfl⟩)
theorem v_restore1_17 (X : AX) (w : Nat) (hw0 : 0 < w) (hw2 : w ≤ 20) (σ : AH) (htp : σ 48 2 = 17) (hw : σ 48 0 = (w : Int))  : TT X 114 (0, [(2, 48), (2, 36), (9, 0), (9, 0)], [], σ) (fun r σ' => r = some (0, 1) ∧ ∃ τ, CP σ τ 36 146 ∧ σ' = up2 (up2 τ 48 2 16) 48 0 ((w - 1 : Nat) : Int)) := by
  refine TT.steps (cd := cd114) 2 (c' := (2, [(2, 48), (2, 36), (9, 0), (9, 0)], [(0, (σ 48 2))], σ)) rfl rfl ?_
  refine TT.top0 (z := 17) htp ?_
  refine TT.steps (cd := cd114) 2 (c' := (4, [(2, 48), (2, 36), (9, 0), (9, 0)], [(0, (aAdd 17 20))], σ)) rfl rfl ?_
  refine TT.top0 (z := 37) (by decide) ?_
  refine TT.steps (cd := cd114) 2 (c' := (6, [(2, 48), (2, 36), (9, 0), (9, 0)], [(0, (aSub 37 1))], σ)) rfl rfl ?_
  refine TT.top0 (z := 36) (by decide) ?_
  refine TT.steps (cd := cd114) 2 (c' := (8, [(2, 48), (2, 36), (9, 0), (9, 0)], [(0, (aRem 36 20))], σ)) rfl rfl ?_
  refine TT.top0 (z := 16) (by decide) ?_
  refine TT.steps (cd := cd114) 4 (c' := (12, [(2, 48), (2, 36), (0, 16), (9, 0)], [(0, 16), (2, 49)], σ)) rfl rfl ?_
  refine TT.aaldN (cd := cd114) 49 16 146 rfl rfl rfl (Or.inl rfl) (by decide) rfl ?_
  refine TT.steps (cd := cd114) 3 (c' := (16, [(2, 48), (2, 36), (0, 16), (2, 146)], [(0, (σ 48 0))], σ)) rfl rfl ?_
  refine TT.top0 (z := ((w : Nat) : Int)) hw ?_
  refine TT.steps (cd := cd114) 1 (c' := ((if decide (((w : Nat) : Int) = 0) = true then 19 else 17), [(2, 48), (2, 36), (0, 16), (2, 146)], [], σ)) rfl rfl ?_
  refine TT.br (p := ((w : Nat) : Int) = 0) (fun h1 => absurd h1 (show ¬ (((w : Nat) : Int) = 0) by omega)) (fun h1 => ?_)
  refine TT.steps (cd := cd114) 4 (c' := (23, [(2, 48), (2, 36), (0, 16), (2, 146)], [(2, 146), (2, 36)], σ)) rfl rfl ?_
  refine TT.call (cd := cd114) rfl rfl rfl (by decide) rfl (v_copy_36_146 X σ) (fun r2 σ2 hq => ?_)
  obtain ⟨rfl, hC⟩ := hq
  refine TT.steps (cd := cd114) 6 (c' := (30, [(2, 48), (2, 36), (0, 16), (2, 146)], [(0, ((up2 σ2 48 2 16) 48 0)), (2, 48)], (up2 σ2 48 2 16))) rfl rfl ?_
  refine TT.top0 (z := ((w : Nat) : Int)) (((up2_by _ _ (j := 2) (j' := 0) _ (by decide)).trans (hC.1 48 (0) (by omega))).trans hw) ?_
  refine TT.steps (cd := cd114) 2 (c' := (32, [(2, 48), (2, 36), (0, 16), (2, 146)], [(0, (aSub ((w : Nat) : Int) 1)), (2, 48)], (up2 σ2 48 2 16))) rfl rfl ?_
  refine TT.top0 (z := ((w - 1 : Nat) : Int)) (aSub_n (a := w) (b := 1) (by omega) (by omega)) ?_
  refine TT.steps (cd := cd114) 2 (c' := (34, [(2, 48), (2, 36), (0, 16), (2, 146)], [(0, 1)], (up2 (up2 σ2 48 2 16) 48 0 ((w - 1 : Nat) : Int)))) rfl rfl ?_
  exact TT.ret (cd := cd114) rfl rfl rfl rfl (⟨rfl, _, hC, rfl⟩)
theorem v_save_18 (X : AX) (w : Nat) (hw2 : w ≤ 20) (σ : AH) (htp : σ 48 2 = 18) (hw : σ 48 0 = (w : Int))  : TT X 113 (0, [(2, 48), (2, 36), (9, 0)], [], σ) (fun r σ' => r = none ∧ ∃ τ, CP σ τ 158 36 ∧ σ' = up2 (up2 τ 48 2 19) 48 0 ((if w = 20 then 20 else w + 1 : Nat) : Int)) := by
  refine TT.steps (cd := cd113) 4 (c' := (4, [(2, 48), (2, 36), (9, 0)], [(0, (σ 48 2)), (2, 49)], σ)) rfl rfl ?_
  refine TT.top0 (z := 18) htp ?_
  refine TT.aaldN (cd := cd113) 49 18 158 rfl rfl rfl (Or.inl rfl) (by decide) rfl ?_
  refine TT.steps (cd := cd113) 5 (c' := (10, [(2, 48), (2, 36), (2, 158)], [(2, 36), (2, 158)], σ)) rfl rfl ?_
  refine TT.call (cd := cd113) rfl rfl rfl (by decide) rfl (v_copy_158_36 X σ) (fun r1 σ1 hq => ?_)
  obtain ⟨rfl, hC⟩ := hq
  refine TT.steps (cd := cd113) 3 (c' := (14, [(2, 48), (2, 36), (2, 158)], [(0, (σ1 48 2)), (2, 48)], σ1)) rfl rfl ?_
  refine TT.top0 (z := 18) ((hC.1 48 (2) (by omega)).trans htp) ?_
  refine TT.steps (cd := cd113) 2 (c' := (16, [(2, 48), (2, 36), (2, 158)], [(0, (aAdd 18 1)), (2, 48)], σ1)) rfl rfl ?_
  refine TT.top0 (z := 19) (by decide) ?_
  refine TT.steps (cd := cd113) 2 (c' := (18, [(2, 48), (2, 36), (2, 158)], [(0, (aRem 19 20)), (2, 48)], σ1)) rfl rfl ?_
  refine TT.top0 (z := 19) (by decide) ?_
  refine TT.steps (cd := cd113) 4 (c' := (22, [(2, 48), (2, 36), (2, 158)], [(0, ((up2 σ1 48 2 19) 48 0)), (2, 48)], (up2 σ1 48 2 19))) rfl rfl ?_
  refine TT.top0 (z := ((w : Nat) : Int)) (((up2_by _ _ (j := 2) (j' := 0) _ (by decide)).trans (hC.1 48 (0) (by omega))).trans hw) ?_
  refine TT.steps (cd := cd113) 2 (c' := (24, [(2, 48), (2, 36), (2, 158)], [(0, (aAdd ((w : Nat) : Int) 1)), (2, 48)], (up2 σ1 48 2 19))) rfl rfl ?_
  refine TT.top0 (z := ((w + 1 : Nat) : Int)) (aAdd_n (a := w) (b := 1) (by omega)) ?_
  refine TT.steps (cd := cd113) 1 (c' := (25, [(2, 48), (2, 36), (2, 158)], [(0, 20), (0, ((w + 1 : Nat) : Int)), (2, 48)], (up2 σ1 48 2 19))) rfl rfl ?_
  refine TT.steps (cd := cd113) 1 (c' := (26, [(2, 48), (2, 36), (2, 158)], [(0, (aMin ((w + 1 : Nat) : Int) 20)), (2, 48)], (up2 σ1 48 2 19))) rfl rfl ?_
  refine TT.top0 (z := (((if w = 20 then 20 else w + 1) : Nat) : Int)) (by unfold aMin; split <;> split <;> omega) ?_
  refine TT.steps (cd := cd113) 1 (c' := (27, [(2, 48), (2, 36), (2, 158)], [], (up2 (up2 σ1 48 2 19) 48 0 (((if w = 20 then 20 else w + 1) : Nat) : Int)))) rfl rfl ?_
  exact TT.ret (cd := cd113) rfl rfl rfl rfl (⟨rfl, _, hC, rfl⟩)
theorem v_restore0_18 (X : AX) (σ : AH) (htp : σ 48 2 = 18) (hw : σ 48 0 = 0)  : TT X 114 (0, [(2, 48), (2, 36), (9, 0), (9, 0)], [], σ) (fun r σ' => r = some (0, 0) ∧ σ' = σ) := by
  refine TT.steps (cd := cd114) 2 (c' := (2, [(2, 48), (2, 36), (9, 0), (9, 0)], [(0, (σ 48 2))], σ)) rfl rfl ?_
  refine TT.top0 (z := 18) htp ?_
  refine TT.steps (cd := cd114) 2 (c' := (4, [(2, 48), (2, 36), (9, 0), (9, 0)], [(0, (aAdd 18 20))], σ)) rfl rfl ?_
  refine TT.top0 (z := 38) (by decide) ?_
  refine TT.steps (cd := cd114) 2 (c' := (6, [(2, 48), (2, 36), (9, 0), (9, 0)], [(0, (aSub 38 1))], σ)) rfl rfl ?_
  refine TT.top0 (z := 37) (by decide) ?_
  refine TT.steps (cd := cd114) 2 (c' := (8, [(2, 48), (2, 36), (9, 0), (9, 0)], [(0, (aRem 37 20))], σ)) rfl rfl ?_
  refine TT.top0 (z := 17) (by decide) ?_
  refine TT.steps (cd := cd114) 4 (c' := (12, [(2, 48), (2, 36), (0, 17), (9, 0)], [(0, 17), (2, 49)], σ)) rfl rfl ?_
  refine TT.aaldN (cd := cd114) 49 17 152 rfl rfl rfl (Or.inl rfl) (by decide) rfl ?_
  refine TT.steps (cd := cd114) 3 (c' := (16, [(2, 48), (2, 36), (0, 17), (2, 152)], [(0, (σ 48 0))], σ)) rfl rfl ?_
  refine TT.top0 (z := 0) hw ?_
  refine TT.steps (cd := cd114) 2 (c' := (20, [(2, 48), (2, 36), (0, 17), (2, 152)], [(0, 0)], σ)) rfl rfl ?_
  exact TT.ret (cd := cd114) rfl rfl rfl rfl (⟨rfl, rfl⟩)
theorem v_restore1_18 (X : AX) (w : Nat) (hw0 : 0 < w) (hw2 : w ≤ 20) (σ : AH) (htp : σ 48 2 = 18) (hw : σ 48 0 = (w : Int))  : TT X 114 (0, [(2, 48), (2, 36), (9, 0), (9, 0)], [], σ) (fun r σ' => r = some (0, 1) ∧ ∃ τ, CP σ τ 36 152 ∧ σ' = up2 (up2 τ 48 2 17) 48 0 ((w - 1 : Nat) : Int)) := by
  refine TT.steps (cd := cd114) 2 (c' := (2, [(2, 48), (2, 36), (9, 0), (9, 0)], [(0, (σ 48 2))], σ)) rfl rfl ?_
  refine TT.top0 (z := 18) htp ?_
  refine TT.steps (cd := cd114) 2 (c' := (4, [(2, 48), (2, 36), (9, 0), (9, 0)], [(0, (aAdd 18 20))], σ)) rfl rfl ?_
  refine TT.top0 (z := 38) (by decide) ?_
  refine TT.steps (cd := cd114) 2 (c' := (6, [(2, 48), (2, 36), (9, 0), (9, 0)], [(0, (aSub 38 1))], σ)) rfl rfl ?_
  refine TT.top0 (z := 37) (by decide) ?_
  refine TT.steps (cd := cd114) 2 (c' := (8, [(2, 48), (2, 36), (9, 0), (9, 0)], [(0, (aRem 37 20))], σ)) rfl rfl ?_
  refine TT.top0 (z := 17) (by decide) ?_
  refine TT.steps (cd := cd114) 4 (c' := (12, [(2, 48), (2, 36), (0, 17), (9, 0)], [(0, 17), (2, 49)], σ)) rfl rfl ?_
  refine TT.aaldN (cd := cd114) 49 17 152 rfl rfl rfl (Or.inl rfl) (by decide) rfl ?_
  refine TT.steps (cd := cd114) 3 (c' := (16, [(2, 48), (2, 36), (0, 17), (2, 152)], [(0, (σ 48 0))], σ)) rfl rfl ?_
  refine TT.top0 (z := ((w : Nat) : Int)) hw ?_
  refine TT.steps (cd := cd114) 1 (c' := ((if decide (((w : Nat) : Int) = 0) = true then 19 else 17), [(2, 48), (2, 36), (0, 17), (2, 152)], [], σ)) rfl rfl ?_
  refine TT.br (p := ((w : Nat) : Int) = 0) (fun h1 => absurd h1 (show ¬ (((w : Nat) : Int) = 0) by omega)) (fun h1 => ?_)
  refine TT.steps (cd := cd114) 4 (c' := (23, [(2, 48), (2, 36), (0, 17), (2, 152)], [(2, 152), (2, 36)], σ)) rfl rfl ?_
  refine TT.call (cd := cd114) rfl rfl rfl (by decide) rfl (v_copy_36_152 X σ) (fun r2 σ2 hq => ?_)
  obtain ⟨rfl, hC⟩ := hq
  refine TT.steps (cd := cd114) 6 (c' := (30, [(2, 48), (2, 36), (0, 17), (2, 152)], [(0, ((up2 σ2 48 2 17) 48 0)), (2, 48)], (up2 σ2 48 2 17))) rfl rfl ?_
  refine TT.top0 (z := ((w : Nat) : Int)) (((up2_by _ _ (j := 2) (j' := 0) _ (by decide)).trans (hC.1 48 (0) (by omega))).trans hw) ?_
  refine TT.steps (cd := cd114) 2 (c' := (32, [(2, 48), (2, 36), (0, 17), (2, 152)], [(0, (aSub ((w : Nat) : Int) 1)), (2, 48)], (up2 σ2 48 2 17))) rfl rfl ?_
  refine TT.top0 (z := ((w - 1 : Nat) : Int)) (aSub_n (a := w) (b := 1) (by omega) (by omega)) ?_
  refine TT.steps (cd := cd114) 2 (c' := (34, [(2, 48), (2, 36), (0, 17), (2, 152)], [(0, 1)], (up2 (up2 σ2 48 2 17) 48 0 ((w - 1 : Nat) : Int)))) rfl rfl ?_
  exact TT.ret (cd := cd114) rfl rfl rfl rfl (⟨rfl, _, hC, rfl⟩)
theorem v_save_19 (X : AX) (w : Nat) (hw2 : w ≤ 20) (σ : AH) (htp : σ 48 2 = 19) (hw : σ 48 0 = (w : Int))  : TT X 113 (0, [(2, 48), (2, 36), (9, 0)], [], σ) (fun r σ' => r = none ∧ ∃ τ, CP σ τ 164 36 ∧ σ' = up2 (up2 τ 48 2 0) 48 0 ((if w = 20 then 20 else w + 1 : Nat) : Int)) := by
  refine TT.steps (cd := cd113) 4 (c' := (4, [(2, 48), (2, 36), (9, 0)], [(0, (σ 48 2)), (2, 49)], σ)) rfl rfl ?_
  refine TT.top0 (z := 19) htp ?_
  refine TT.aaldN (cd := cd113) 49 19 164 rfl rfl rfl (Or.inl rfl) (by decide) rfl ?_
  refine TT.steps (cd := cd113) 5 (c' := (10, [(2, 48), (2, 36), (2, 164)], [(2, 36), (2, 164)], σ)) rfl rfl ?_
  refine TT.call (cd := cd113) rfl rfl rfl (by decide) rfl (v_copy_164_36 X σ) (fun r1 σ1 hq => ?_)
  obtain ⟨rfl, hC⟩ := hq
  refine TT.steps (cd := cd113) 3 (c' := (14, [(2, 48), (2, 36), (2, 164)], [(0, (σ1 48 2)), (2, 48)], σ1)) rfl rfl ?_
  refine TT.top0 (z := 19) ((hC.1 48 (2) (by omega)).trans htp) ?_
  refine TT.steps (cd := cd113) 2 (c' := (16, [(2, 48), (2, 36), (2, 164)], [(0, (aAdd 19 1)), (2, 48)], σ1)) rfl rfl ?_
  refine TT.top0 (z := 20) (by decide) ?_
  refine TT.steps (cd := cd113) 2 (c' := (18, [(2, 48), (2, 36), (2, 164)], [(0, (aRem 20 20)), (2, 48)], σ1)) rfl rfl ?_
  refine TT.top0 (z := 0) (by decide) ?_
  refine TT.steps (cd := cd113) 4 (c' := (22, [(2, 48), (2, 36), (2, 164)], [(0, ((up2 σ1 48 2 0) 48 0)), (2, 48)], (up2 σ1 48 2 0))) rfl rfl ?_
  refine TT.top0 (z := ((w : Nat) : Int)) (((up2_by _ _ (j := 2) (j' := 0) _ (by decide)).trans (hC.1 48 (0) (by omega))).trans hw) ?_
  refine TT.steps (cd := cd113) 2 (c' := (24, [(2, 48), (2, 36), (2, 164)], [(0, (aAdd ((w : Nat) : Int) 1)), (2, 48)], (up2 σ1 48 2 0))) rfl rfl ?_
  refine TT.top0 (z := ((w + 1 : Nat) : Int)) (aAdd_n (a := w) (b := 1) (by omega)) ?_
  refine TT.steps (cd := cd113) 1 (c' := (25, [(2, 48), (2, 36), (2, 164)], [(0, 20), (0, ((w + 1 : Nat) : Int)), (2, 48)], (up2 σ1 48 2 0))) rfl rfl ?_
  refine TT.steps (cd := cd113) 1 (c' := (26, [(2, 48), (2, 36), (2, 164)], [(0, (aMin ((w + 1 : Nat) : Int) 20)), (2, 48)], (up2 σ1 48 2 0))) rfl rfl ?_
  refine TT.top0 (z := (((if w = 20 then 20 else w + 1) : Nat) : Int)) (by unfold aMin; split <;> split <;> omega) ?_
  refine TT.steps (cd := cd113) 1 (c' := (27, [(2, 48), (2, 36), (2, 164)], [], (up2 (up2 σ1 48 2 0) 48 0 (((if w = 20 then 20 else w + 1) : Nat) : Int)))) rfl rfl ?_
  exact TT.ret (cd := cd113) rfl rfl rfl rfl (⟨rfl, _, hC, rfl⟩)
theorem v_restore0_19 (X : AX) (σ : AH) (htp : σ 48 2 = 19) (hw : σ 48 0 = 0)  : TT X 114 (0, [(2, 48), (2, 36), (9, 0), (9, 0)], [], σ) (fun r σ' => r = some (0, 0) ∧ σ' = σ) := by
  refine TT.steps (cd := cd114) 2 (c' := (2, [(2, 48), (2, 36), (9, 0), (9, 0)], [(0, (σ 48 2))], σ)) rfl rfl ?_
  refine TT.top0 (z := 19) htp ?_
  refine TT.steps (cd := cd114) 2 (c' := (4, [(2, 48), (2, 36), (9, 0), (9, 0)], [(0, (aAdd 19 20))], σ)) rfl rfl ?_
  refine TT.top0 (z := 39) (by decide) ?_
  refine TT.steps (cd := cd114) 2 (c' := (6, [(2, 48), (2, 36), (9, 0), (9, 0)], [(0, (aSub 39 1))], σ)) rfl rfl ?_
  refine TT.top0 (z := 38) (by decide) ?_
  refine TT.steps (cd := cd114) 2 (c' := (8, [(2, 48), (2, 36), (9, 0), (9, 0)], [(0, (aRem 38 20))], σ)) rfl rfl ?_
  refine TT.top0 (z := 18) (by decide) ?_
  refine TT.steps (cd := cd114) 4 (c' := (12, [(2, 48), (2, 36), (0, 18), (9, 0)], [(0, 18), (2, 49)], σ)) rfl rfl ?_
  refine TT.aaldN (cd := cd114) 49 18 158 rfl rfl rfl (Or.inl rfl) (by decide) rfl ?_
  refine TT.steps (cd := cd114) 3 (c' := (16, [(2, 48), (2, 36), (0, 18), (2, 158)], [(0, (σ 48 0))], σ)) rfl rfl ?_
  refine TT.top0 (z := 0) hw ?_
  refine TT.steps (cd := cd114) 2 (c' := (20, [(2, 48), (2, 36), (0, 18), (2, 158)], [(0, 0)], σ)) rfl rfl ?_
  exact TT.ret (cd := cd114) rfl rfl rfl rfl (⟨rfl, rfl⟩)
theorem v_restore1_19 (X : AX) (w : Nat) (hw0 : 0 < w) (hw2 : w ≤ 20) (σ : AH) (htp : σ 48 2 = 19) (hw : σ 48 0 = (w : Int))  : TT X 114 (0, [(2, 48), (2, 36), (9, 0), (9, 0)], [], σ) (fun r σ' => r = some (0, 1) ∧ ∃ τ, CP σ τ 36 158 ∧ σ' = up2 (up2 τ 48 2 18) 48 0 ((w - 1 : Nat) : Int)) := by
  refine TT.steps (cd := cd114) 2 (c' := (2, [(2, 48), (2, 36), (9, 0), (9, 0)], [(0, (σ 48 2))], σ)) rfl rfl ?_
  refine TT.top0 (z := 19) htp ?_
  refine TT.steps (cd := cd114) 2 (c' := (4, [(2, 48), (2, 36), (9, 0), (9, 0)], [(0, (aAdd 19 20))], σ)) rfl rfl ?_
  refine TT.top0 (z := 39) (by decide) ?_
  refine TT.steps (cd := cd114) 2 (c' := (6, [(2, 48), (2, 36), (9, 0), (9, 0)], [(0, (aSub 39 1))], σ)) rfl rfl ?_
  refine TT.top0 (z := 38) (by decide) ?_
  refine TT.steps (cd := cd114) 2 (c' := (8, [(2, 48), (2, 36), (9, 0), (9, 0)], [(0, (aRem 38 20))], σ)) rfl rfl ?_
  refine TT.top0 (z := 18) (by decide) ?_
  refine TT.steps (cd := cd114) 4 (c' := (12, [(2, 48), (2, 36), (0, 18), (9, 0)], [(0, 18), (2, 49)], σ)) rfl rfl ?_
  refine TT.aaldN (cd := cd114) 49 18 158 rfl rfl rfl (Or.inl rfl) (by decide) rfl ?_
  refine TT.steps (cd := cd114) 3 (c' := (16, [(2, 48), (2, 36), (0, 18), (2, 158)], [(0, (σ 48 0))], σ)) rfl rfl ?_
  refine TT.top0 (z := ((w : Nat) : Int)) hw ?_
  refine TT.steps (cd := cd114) 1 (c' := ((if decide (((w : Nat) : Int) = 0) = true then 19 else 17), [(2, 48), (2, 36), (0, 18), (2, 158)], [], σ)) rfl rfl ?_
  refine TT.br (p := ((w : Nat) : Int) = 0) (fun h1 => absurd h1 (show ¬ (((w : Nat) : Int) = 0) by omega)) (fun h1 => ?_)
  refine TT.steps (cd := cd114) 4 (c' := (23, [(2, 48), (2, 36), (0, 18), (2, 158)], [(2, 158), (2, 36)], σ)) rfl rfl ?_
  refine TT.call (cd := cd114) rfl rfl rfl (by decide) rfl (v_copy_36_158 X σ) (fun r2 σ2 hq => ?_)
  obtain ⟨rfl, hC⟩ := hq
  refine TT.steps (cd := cd114) 6 (c' := (30, [(2, 48), (2, 36), (0, 18), (2, 158)], [(0, ((up2 σ2 48 2 18) 48 0)), (2, 48)], (up2 σ2 48 2 18))) rfl rfl ?_
  refine TT.top0 (z := ((w : Nat) : Int)) (((up2_by _ _ (j := 2) (j' := 0) _ (by decide)).trans (hC.1 48 (0) (by omega))).trans hw) ?_
  refine TT.steps (cd := cd114) 2 (c' := (32, [(2, 48), (2, 36), (0, 18), (2, 158)], [(0, (aSub ((w : Nat) : Int) 1)), (2, 48)], (up2 σ2 48 2 18))) rfl rfl ?_
  refine TT.top0 (z := ((w - 1 : Nat) : Int)) (aSub_n (a := w) (b := 1) (by omega) (by omega)) ?_
  refine TT.steps (cd := cd114) 2 (c' := (34, [(2, 48), (2, 36), (0, 18), (2, 158)], [(0, 1)], (up2 (up2 σ2 48 2 18) 48 0 ((w - 1 : Nat) : Int)))) rfl rfl ?_
  exact TT.ret (cd := cd114) rfl rfl rfl rfl (⟨rfl, _, hC, rfl⟩)
theorem v_save (X : AX) (tp : Nat) (htp2 : tp < 20) (w : Nat) (hw2 : w ≤ 20) (σ : AH) (htp : σ 48 2 = (tp : Int)) (hw : σ 48 0 = (w : Int)) : TT X 113 (0, [(2, 48), (2, 36), (9, 0)], [], σ) (fun r σ' => r = none ∧ ∃ τ, CP σ τ (50 + 6 * tp) 36 ∧ σ' = up2 (up2 τ 48 2 (((tp + 1) % 20 : Nat) : Int)) 48 0 ((if w = 20 then 20 else w + 1 : Nat) : Int)) := by
  rcases (show tp = 0 ∨ tp = 1 ∨ tp = 2 ∨ tp = 3 ∨ tp = 4 ∨ tp = 5 ∨ tp = 6 ∨ tp = 7 ∨ tp = 8 ∨ tp = 9 ∨ tp = 10 ∨ tp = 11 ∨ tp = 12 ∨ tp = 13 ∨ tp = 14 ∨ tp = 15 ∨ tp = 16 ∨ tp = 17 ∨ tp = 18 ∨ tp = 19 by omega) with rfl | rfl | rfl | rfl | rfl | rfl | rfl | rfl | rfl | rfl | rfl | rfl | rfl | rfl | rfl | rfl | rfl | rfl | rfl | rfl
  · exact v_save_0 X w hw2 σ htp hw
  · exact v_save_1 X w hw2 σ htp hw
  · exact v_save_2 X w hw2 σ htp hw
  · exact v_save_3 X w hw2 σ htp hw
  · exact v_save_4 X w hw2 σ htp hw
  · exact v_save_5 X w hw2 σ htp hw
  · exact v_save_6 X w hw2 σ htp hw
  · exact v_save_7 X w hw2 σ htp hw
  · exact v_save_8 X w hw2 σ htp hw
  · exact v_save_9 X w hw2 σ htp hw
  · exact v_save_10 X w hw2 σ htp hw
  · exact v_save_11 X w hw2 σ htp hw
  · exact v_save_12 X w hw2 σ htp hw
  · exact v_save_13 X w hw2 σ htp hw
  · exact v_save_14 X w hw2 σ htp hw
  · exact v_save_15 X w hw2 σ htp hw
  · exact v_save_16 X w hw2 σ htp hw
  · exact v_save_17 X w hw2 σ htp hw
  · exact v_save_18 X w hw2 σ htp hw
  · exact v_save_19 X w hw2 σ htp hw
theorem v_restore0 (X : AX) (tp : Nat) (htp2 : tp < 20) (σ : AH) (htp : σ 48 2 = (tp : Int)) (hw : σ 48 0 = 0) : TT X 114 (0, [(2, 48), (2, 36), (9, 0), (9, 0)], [], σ) (fun r σ' => r = some (0, 0) ∧ σ' = σ) := by
  rcases (show tp = 0 ∨ tp = 1 ∨ tp = 2 ∨ tp = 3 ∨ tp = 4 ∨ tp = 5 ∨ tp = 6 ∨ tp = 7 ∨ tp = 8 ∨ tp = 9 ∨ tp = 10 ∨ tp = 11 ∨ tp = 12 ∨ tp = 13 ∨ tp = 14 ∨ tp = 15 ∨ tp = 16 ∨ tp = 17 ∨ tp = 18 ∨ tp = 19 by omega) with rfl | rfl | rfl | rfl | rfl | rfl | rfl | rfl | rfl | rfl | rfl | rfl | rfl | rfl | rfl | rfl | rfl | rfl | rfl | rfl
  · exact v_restore0_0 X σ htp hw
  · exact v_restore0_1 X σ htp hw
  · exact v_restore0_2 X σ htp hw
  · exact v_restore0_3 X σ htp hw
  · exact v_restore0_4 X σ htp hw
  · exact v_restore0_5 X σ htp hw
  · exact v_restore0_6 X σ htp hw
  · exact v_restore0_7 X σ htp hw
  · exact v_restore0_8 X σ htp hw
  · exact v_restore0_9 X σ htp hw
  · exact v_restore0_10 X σ htp hw
  · exact v_restore0_11 X σ htp hw
  · exact v_restore0_12 X σ htp hw
  · exact v_restore0_13 X σ htp hw
  · exact v_restore0_14 X σ htp hw
  · exact v_restore0_15 X σ htp hw
  · exact v_restore0_16 X σ htp hw
  · exact v_restore0_17 X σ htp hw
  · exact v_restore0_18 X σ htp hw
  · exact v_restore0_19 X σ htp hw
theorem v_restore1 (X : AX) (tp : Nat) (htp2 : tp < 20) (w : Nat) (hw0 : 0 < w) (hw2 : w ≤ 20) (σ : AH) (htp : σ 48 2 = (tp : Int)) (hw : σ 48 0 = (w : Int)) : TT X 114 (0, [(2, 48), (2, 36), (9, 0), (9, 0)], [], σ) (fun r σ' => r = some (0, 1) ∧ ∃ τ, CP σ τ 36 (50 + 6 * ((tp + 19) % 20)) ∧ σ' = up2 (up2 τ 48 2 (((tp + 19) % 20 : Nat) : Int)) 48 0 ((w - 1 : Nat) : Int)) := by
  rcases (show tp = 0 ∨ tp = 1 ∨ tp = 2 ∨ tp = 3 ∨ tp = 4 ∨ tp = 5 ∨ tp = 6 ∨ tp = 7 ∨ tp = 8 ∨ tp = 9 ∨ tp = 10 ∨ tp = 11 ∨ tp = 12 ∨ tp = 13 ∨ tp = 14 ∨ tp = 15 ∨ tp = 16 ∨ tp = 17 ∨ tp = 18 ∨ tp = 19 by omega) with rfl | rfl | rfl | rfl | rfl | rfl | rfl | rfl | rfl | rfl | rfl | rfl | rfl | rfl | rfl | rfl | rfl | rfl | rfl | rfl
  · exact v_restore1_0 X w hw0 hw2 σ htp hw
  · exact v_restore1_1 X w hw0 hw2 σ htp hw
  · exact v_restore1_2 X w hw0 hw2 σ htp hw
  · exact v_restore1_3 X w hw0 hw2 σ htp hw
  · exact v_restore1_4 X w hw0 hw2 σ htp hw
  · exact v_restore1_5 X w hw0 hw2 σ htp hw
  · exact v_restore1_6 X w hw0 hw2 σ htp hw
  · exact v_restore1_7 X w hw0 hw2 σ htp hw
  · exact v_restore1_8 X w hw0 hw2 σ htp hw
  · exact v_restore1_9 X w hw0 hw2 σ htp hw
  · exact v_restore1_10 X w hw0 hw2 σ htp hw
  · exact v_restore1_11 X w hw0 hw2 σ htp hw
  · exact v_restore1_12 X w hw0 hw2 σ htp hw
  · exact v_restore1_13 X w hw0 hw2 σ htp hw
  · exact v_restore1_14 X w hw0 hw2 σ htp hw
  · exact v_restore1_15 X w hw0 hw2 σ htp hw
  · exact v_restore1_16 X w hw0 hw2 σ htp hw
  · exact v_restore1_17 X w hw0 hw2 σ htp hw
  · exact v_restore1_18 X w hw0 hw2 σ htp hw
  · exact v_restore1_19 X w hw0 hw2 σ htp hw
