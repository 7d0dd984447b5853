/-! line of both. -/
theorem u_exch_170 (X : AX) {τ : AH} (h33 : τ 3 3 = 170)  : TT X 146 (0, [(2, 3), (2, 8), (9, 0)], [], τ) (fun r σ' => r = some (2, 170) ∧ σ' = up2 τ 3 3 8) := by
  refine TT.steps (cd := cd146) 2 (c' := (2, [(2, 3), (2, 8), (9, 0)], [(2, (τ 3 3))], τ)) rfl rfl ?_
  refine TT.top0 (z := 170) h33 ?_
  refine TT.steps (cd := cd146) 5 (c' := (7, [(2, 3), (2, 8), (2, 170)], [(2, 170)], (up2 τ 3 3 8))) rfl rfl ?_
  exact TT.ret (cd := cd146) rfl rfl rfl rfl (⟨rfl, rfl⟩)
theorem K_line_8 (X : AX) {σ ρ : AH} {b np nt ns : Nat} {L : Nat → Nat} {C : Nat → Nat → Nat} {w tp u tl oc : Nat} (h : IV σ ρ 8 b np nt ns L C w tp u tl oc) (hJ : (σ 30 1 = 0 ∧ σ 30 2 = 0) ∧ (σ 192 1 = 0 ∧ σ 192 2 = 0)) : TT X 183 (0, [(2, 0), (9, 0)], [], σ) (fun r σ' => ∃ ρ', (∃ z : Int, r = some (0, z)) ∧ TT X 29 (0, [(2, 295), (9, 0)], [], ρ) (fun r' ρ'' => r' = r ∧ ρ'' = ρ') ∧ EX σ' ρ' ∧ (∀ K j, 295 ≤ K → σ' K j = σ K j) ∧ (∀ j, (j = 1 ∨ j = 2) → σ' 30 j = σ 30 j ∧ σ' 192 j = σ 192 j) ∧ (∀ K j, K < 295 → ρ' K j = ρ K j)) := by
  obtain ⟨⟨hl, h05, h33⟩, hL, hN, hPT, hF, hA, hTp, hO, hM, hH⟩ := id h
  obtain ⟨t1, t2, t3, t4⟩ := id hTp
  have hb13 := hL.2.1.1
  have hb2' := hL.2.1.2.1
  obtain ⟨bi, hbi⟩ : ∃ bi, b + bi = 1 := ⟨1 - b, by omega⟩
  refine TT.steps (cd := cd183) 4 (c' := (4, [(2, 0), (9, 0)], [(2, 1), (2, 3)], σ)) rfl rfl ?_
  refine TT.call (cd := cd183) rfl rfl rfl (by decide) rfl (Z_read_170 X h hbi) (fun r1 τ' hq => ?_)
  obtain ⟨f, N, c, K, S, V, P, ρ1, n1, hn1, hre, hCF, hRF, h11, hfin⟩ := hq
  have h33z : τ' 3 3 = ((170 : Nat) : Int) := (hCF 3 3 (by omega) (by omega) (by omega)).trans h33
  have h05z : τ' 0 5 = ((8 : Nat) : Int) := (hCF 0 5 (by omega) (by omega) (by omega)).trans h05
  have hb1 : ρ1 295 13 = (b : Int) := (hRF 295 13 (by omega) (fun q => by have := IB_r q; omega)).trans hb13
  rcases hfin with ⟨g, hd0, i, np1, nt1, ns1, L1, C1, hX⟩ | ⟨g, kd, pl, b1, b2, b3, b4⟩
  · subst g
    obtain ⟨-, ⟨-, h30, h31⟩, -, -, -, hR, ⟨h32, h9⟩, -, hD⟩ := id hX
    have m2 := hD.1.2.1.2.2
    have n2 := hD.1.2.2.1.1
    have hrun : TT X 29 (0, [(2, 295), (9, 0)], [], ρ) (fun r' ρ'' => r' = some (0, ((n1 : Nat) : Int)) ∧ ρ'' = (mBg (up2 (up2 (up2 ρ1 295 10 0) 295 11 (-1)) 295 13 ((bi : Nat) : Int)) bi np1)) := by
      refine hre _ ?_
      refine TT.steps (cd := cd29) 3 (c' := (66, [(2, 295), (0, ((n1 : Nat) : Int))], [(0, (ρ1 295 8)), (2, 295)], ρ1)) rfl rfl ?_
      refine TT.top0 (z := 0) hR.1 ?_
      refine TT.steps (cd := cd29) 4 (c' := (70, [(2, 295), (0, ((n1 : Nat) : Int))], [(0, ((up2 ρ1 295 10 0) 295 9)), (2, 295)], (up2 ρ1 295 10 0))) rfl rfl ?_
      refine TT.top0 (z := (-1)) ((up2_by _ _ (j := 10) (j' := 9) _ (by decide)).trans h9) ?_
      refine TT.steps (cd := cd29) 3 (c' := (73, [(2, 295), (0, ((n1 : Nat) : Int))], [(0, ((up2 (up2 ρ1 295 10 0) 295 11 (-1)) 295 8))], (up2 (up2 ρ1 295 10 0) 295 11 (-1)))) rfl rfl ?_
      refine TT.top0 (z := 0) (((up2_by _ _ (j := 11) (j' := 8) _ (by decide)).trans (up2_by _ _ (j := 10) (j' := 8) _ (by decide))).trans hR.1) ?_
      refine TT.steps (cd := cd29) 4 (c' := (81, [(2, 295), (0, ((n1 : Nat) : Int))], [(0, ((up2 (up2 ρ1 295 10 0) 295 11 (-1)) 295 32)), (2, 295)], (up2 (up2 ρ1 295 10 0) 295 11 (-1)))) rfl rfl ?_
      refine TT.top0 (z := ((bi : Nat) : Int)) (((up2_by _ _ (j := 11) (j' := 32) _ (by decide)).trans (up2_by _ _ (j := 10) (j' := 32) _ (by decide))).trans h32) ?_
      refine TT.steps (cd := cd29) 2 (c' := (83, [(2, 295), (0, ((n1 : Nat) : Int))], [(2, 295)], (up2 (up2 (up2 ρ1 295 10 0) 295 11 (-1)) 295 13 ((bi : Nat) : Int)))) rfl rfl ?_
      refine TT.call (cd := cd29) rfl rfl rfl (by decide) rfl (t_begin X np1 (up2 (up2 (up2 ρ1 295 10 0) 295 11 (-1)) 295 13 ((bi : Nat) : Int)) (b := bi) (up2_hit _ _ _ _) (by omega) (by rw [up2_nq _ (by omega), up2_nq _ (by omega), up2_nq _ (by omega)]; exact m2) n2) (fun r801 σ801 hq => ?_)
      rw [hq.1, hq.2]
      refine TT.steps (cd := cd29) 1 (c' := (85, [(2, 295), (0, ((n1 : Nat) : Int))], [(0, ((n1 : Nat) : Int))], (mBg (up2 (up2 (up2 ρ1 295 10 0) 295 11 (-1)) 295 13 ((bi : Nat) : Int)) bi np1))) rfl rfl ?_
      exact TT.ret (cd := cd29) rfl rfl rfl rfl ⟨rfl, rfl⟩
    show TT X 183 (5, [(2, 0), (9, 0)], [(0, 1)], τ') _
    refine TT.steps (cd := cd183) 12 (c' := (21, [(2, 0), (0, 1)], [(2, ((up2 τ' 1 1 0) 0 5)), (2, 3), (2, 0)], (up2 τ' 1 1 0))) rfl rfl ?_
    refine TT.top0 (z := 8) ((up2_far (k := 1) (k' := 0) _ _ _ _ (by decide)).trans h05z) ?_
    refine TT.call (cd := cd183) rfl rfl rfl (by decide) rfl (u_exch_170 X (τ := (up2 τ' 1 1 0)) ((up2_nq _ (by omega)).trans h33z)) (fun r52 σ52 hq => ?_)
    rw [hq.1, hq.2]
    refine TT.steps (cd := cd183) 5 (c' := (27, [(2, 0), (0, 1)], [(2, ((up2 (up2 (up2 τ' 1 1 0) 3 3 8) 0 5 170) 0 5)), (2, 36)], (up2 (up2 (up2 τ' 1 1 0) 3 3 8) 0 5 170))) rfl rfl ?_
    refine TT.top0 (z := 170) (up2_hit _ _ _ _) ?_
    refine TT.steps (cd := cd183) 1 (c' := (28, [(2, 0), (0, 1)], [(2, 192), (2, 36)], (up2 (up2 (up2 τ' 1 1 0) 3 3 8) 0 5 170))) rfl rfl ?_
    refine TT.call (cd := cd183) rfl rfl rfl (by decide) rfl (v_copy_36_192 X (up2 (up2 (up2 τ' 1 1 0) 3 3 8) 0 5 170)) (fun r53 σ53 hq => ?_)
    obtain ⟨rfl, hcp⟩ := hq
    refine TT.steps (cd := cd183) 1 (c' := (30, [(2, 0), (0, 1)], [(2, 0)], σ53)) rfl rfl ?_
    refine TT.call (cd := cd183) rfl rfl rfl (by decide) rfl (v_startAnew X σ53) (fun r54 σ54 hq => ?_)
    rw [hq.1, hq.2]
    refine TT.steps (cd := cd183) 2 (c' := (33, [(2, 0), (0, 1)], [(2, ((up2 (up2 σ53 48 0 0) 289 0 0) 0 5))], (up2 (up2 σ53 48 0 0) 289 0 0))) rfl rfl ?_
    refine TT.top0 (z := 170) ((((up2_far (k := 289) (k' := 0) _ _ _ _ (by decide)).trans (up2_far (k := 48) (k' := 0) _ _ _ _ (by decide))).trans (hcp.1 0 (5) (by omega))).trans (up2_hit _ _ _ _)) ?_
    refine TT.steps (cd := cd183) 1 (c' := (34, [(2, 0), (0, 1)], [(0, ((up2 (up2 σ53 48 0 0) 289 0 0) 170 0))], (up2 (up2 σ53 48 0 0) 289 0 0))) rfl rfl ?_
    refine TT.top0 (z := ((n1 : Nat) : Int)) (((((((up2_far (k := 289) (k' := 170) _ _ _ _ (by decide)).trans (up2_far (k := 48) (k' := 170) _ _ _ _ (by decide))).trans (hcp.1 170 (0) (by omega))).trans (up2_far (k := 0) (k' := 170) _ _ _ _ (by decide))).trans (up2_far (k := 3) (k' := 170) _ _ _ _ (by decide))).trans (up2_far (k := 1) (k' := 170) _ _ _ _ (by decide))).trans hd0) ?_
    refine TT.ret (cd := cd183) rfl rfl rfl rfl ⟨(mBg (up2 (up2 (up2 ρ1 295 10 0) 295 11 (-1)) 295 13 ((bi : Nat) : Int)) bi np1), ⟨_, rfl⟩, by exact hrun, ⟨_, _, _, _, _, _, _, _, _, _, _, _, IV_ln1 (τ := τ') h (d := 170) (by omega) hbi hCF hRF hD h11 hJ.2 (fun K j a1 a2 a3 a4 a5 a6 => by rw [up2_nq _ (by omega), up2_nq _ (by omega), hcp.1 _ _ (by omega), up2_nq _ (by omega), up2_nq _ (by omega), up2_nq _ (by omega)]) ⟨?_, ?_⟩ (((((up2_far (k := 289) (k' := 3) _ _ _ _ (by decide)).trans (up2_far (k := 48) (k' := 3) _ _ _ _ (by decide))).trans (hcp.1 3 (3) (by omega))).trans (up2_far (k := 0) (k' := 3) _ _ _ _ (by decide))).trans (up2_hit _ _ _ _)) ((((up2_far (k := 289) (k' := 0) _ _ _ _ (by decide)).trans (up2_far (k := 48) (k' := 0) _ _ _ _ (by decide))).trans (hcp.1 0 (5) (by omega))).trans (up2_hit _ _ _ _)) ((((((up2_far (k := 289) (k' := 1) _ _ _ _ (by decide)).trans (up2_far (k := 48) (k' := 1) _ _ _ _ (by decide))).trans (hcp.1 1 (1) (by omega))).trans (up2_far (k := 0) (k' := 1) _ _ _ _ (by decide))).trans (up2_far (k := 3) (k' := 1) _ _ _ _ (by decide))).trans (up2_hit _ _ _ _)) ((up2_far (k := 289) (k' := 48) _ _ _ _ (by decide)).trans (up2_hit _ _ _ _)) (up2_hit _ _ _ _) (fun j hj => ?_) (fun i j a1 a2 a3 => ?_)⟩, fun K j hK => ?_, fun j hj => ⟨?_, ?_⟩, fun K j hK => ?_⟩
    · exact (((((((up2_far (k := 289) (k' := 3) _ _ _ _ (by decide)).trans (up2_far (k := 48) (k' := 3) _ _ _ _ (by decide))).trans (hcp.1 3 (0) (by omega))).trans (up2_far (k := 0) (k' := 3) _ _ _ _ (by decide))).trans (up2_by _ _ (j := 3) (j' := 0) _ (by decide))).trans (up2_far (k := 1) (k' := 3) _ _ _ _ (by decide))).trans h30)
    · exact (((((((up2_far (k := 289) (k' := 3) _ _ _ _ (by decide)).trans (up2_far (k := 48) (k' := 3) _ _ _ _ (by decide))).trans (hcp.1 3 (1) (by omega))).trans (up2_far (k := 0) (k' := 3) _ _ _ _ (by decide))).trans (up2_by _ _ (j := 3) (j' := 1) _ (by decide))).trans (up2_far (k := 1) (k' := 3) _ _ _ _ (by decide))).trans h31)
    · rw [up2_nq _ (by omega), up2_nq _ (by omega), hcp.2.1 j hj, up2_nq _ (by omega), up2_nq _ (by omega), up2_nq _ (by omega)]
    · rw [up2_nq _ (by omega), up2_nq _ (by omega), hcp.2.2 i j a1 a2 a3, up2_nq _ (by omega), up2_nq _ (by omega), up2_nq _ (by omega)]
    · rw [up2_nq _ (by omega), up2_nq _ (by omega), hcp.1 _ _ (by omega), up2_nq _ (by omega), up2_nq _ (by omega), up2_nq _ (by omega)]; exact hCF K j (by omega) (by omega) (by omega)
    · rw [up2_nq _ (by omega), up2_nq _ (by omega), hcp.1 _ _ (by omega), up2_nq _ (by omega), up2_nq _ (by omega), up2_nq _ (by omega)]; exact hCF _ _ (by omega) (by omega) (by omega)
    · rw [up2_nq _ (by omega), up2_nq _ (by omega), hcp.1 _ _ (by omega), up2_nq _ (by omega), up2_nq _ (by omega), up2_nq _ (by omega)]; exact hCF _ _ (by omega) (by omega) (by omega)
    · rw [(mBg_p _ _ _).2.2 K j (by omega) (by omega) (by omega), up2_nq _ (by omega), up2_nq _ (by omega), up2_nq _ (by omega)]; exact hRF K j (by omega) (fun q => by have := IB_r q; omega)
  · subst g
    have hrun : TT X 29 (0, [(2, 295), (9, 0)], [], ρ) (fun r' ρ'' => r' = some (0, -1) ∧ ρ'' = (up2 (up2 (up2 ρ1 295 10 kd) 295 11 pl) 315 1 (aAdd (ρ1 315 1) 1))) := by
      refine hre _ ?_
      refine TT.steps (cd := cd29) 3 (c' := (66, [(2, 295), (0, ((n1 : Nat) : Int))], [(0, (ρ1 295 8)), (2, 295)], ρ1)) rfl rfl ?_
      refine TT.top0 (z := kd) b4.1 ?_
      refine TT.steps (cd := cd29) 4 (c' := (70, [(2, 295), (0, ((n1 : Nat) : Int))], [(0, ((up2 ρ1 295 10 kd) 295 9)), (2, 295)], (up2 ρ1 295 10 kd))) rfl rfl ?_
      refine TT.top0 (z := pl) ((up2_by _ _ (j := 10) (j' := 9) _ (by decide)).trans b4.2) ?_
      refine TT.steps (cd := cd29) 3 (c' := (73, [(2, 295), (0, ((n1 : Nat) : Int))], [(0, ((up2 (up2 ρ1 295 10 kd) 295 11 pl) 295 8))], (up2 (up2 ρ1 295 10 kd) 295 11 pl))) rfl rfl ?_
      refine TT.top0 (z := kd) (((up2_by _ _ (j := 11) (j' := 8) _ (by decide)).trans (up2_by _ _ (j := 10) (j' := 8) _ (by decide))).trans b4.1) ?_
      refine TT.steps (cd := cd29) 1 (c' := ((if decide (kd ≤ 0) = true then 78 else 74), [(2, 295), (0, ((n1 : Nat) : Int))], [], (up2 (up2 ρ1 295 10 kd) 295 11 pl))) rfl rfl ?_
      refine TT.br (p := kd ≤ 0) (fun h851 => absurd h851 (show ¬ (kd ≤ 0) by omega)) (fun h851 => ?_)
      refine TT.steps (cd := cd29) 2 (c' := (76, [(2, 295), (0, ((n1 : Nat) : Int))], [(0, 1), (2, 295)], (up2 (up2 ρ1 295 10 kd) 295 11 pl))) rfl rfl ?_
      refine TT.call (cd := cd29) rfl rfl rfl (by decide) rfl (t_refuses X 1 (by decide) (up2 (up2 ρ1 295 10 kd) 295 11 pl)) (fun r852 σ852 hq => ?_)
      rw [hq.1, hq.2]
      refine TT.sg (σ' := (up2 (up2 (up2 ρ1 295 10 kd) 295 11 pl) 315 1 (aAdd (ρ1 315 1) 1))) (by rw [up2_nq _ (by omega), up2_nq _ (by omega)]) ?_
      exact TT.ret (cd := cd29) rfl rfl rfl rfl ⟨rfl, rfl⟩
    show TT X 183 (5, [(2, 0), (9, 0)], [(0, 0)], τ') _
    refine TT.steps (cd := cd183) 9 (c' := (14, [(2, 0), (0, 0)], [(0, 1), (2, 0)], (up2 τ' 1 1 0))) rfl rfl ?_
    refine TT.call (cd := cd183) rfl rfl rfl (by decide) rfl (w_refuse X 1 (by decide) (up2 τ' 1 1 0)) (fun r52 σ52 hq => ?_)
    rw [hq.1, hq.2]
    refine TT.ret (cd := cd183) rfl rfl rfl rfl ⟨(up2 (up2 (up2 ρ1 295 10 kd) 295 11 pl) 315 1 (aAdd (ρ1 315 1) 1)), ⟨_, rfl⟩, by exact hrun, ⟨_, _, _, _, _, _, _, _, _, _, _, _, IV_ln0 (d := 170) h (by omega) hbi (fun K j a1 a2 a3 a4 a5 => ?_) (fun K j a1 a2 a3 => ?_) ?_ ?_ ⟨?_, ?_⟩ ?_⟩, fun K j hK => ?_, fun j hj => ⟨?_, ?_⟩, fun K j hK => ?_⟩
    · rw [up2_nq _ (by omega), up2_nq _ (by omega)]; exact hCF K j a1 a2 (by omega)
    · rw [up2_nq _ (by omega), up2_nq _ (by omega), up2_nq _ (by omega)]; exact hRF K j (by omega) a2
    · rw [up2_nq _ (by omega), up2_hit]
    · rw [up2_nq _ (by omega), up2_nq _ (by omega), up2_nq _ (by omega)]; exact h11
    · rw [up2_nq _ (by omega), up2_nq _ (by omega), up2_nq _ (by omega), up2_nq _ (by omega), up2_hit]; exact b2
    · rw [up2_nq _ (by omega), up2_nq _ (by omega), up2_nq _ (by omega), up2_hit]; exact b3
    · rw [up2_hit, up2_hit, up2_nq _ (by omega), hCF 293 1 (by omega) (by omega) (by omega), hRF 315 1 (by omega) (fun q => by have := IB_r q; omega), hM.2.2 1 (by decide)]
    · rw [up2_nq _ (by omega), up2_nq _ (by omega)]; exact hCF K j (by omega) (by omega) (by omega)
    · rw [up2_nq _ (by omega), up2_nq _ (by omega)]; exact hCF _ _ (by omega) (by omega) (by omega)
    · rw [up2_nq _ (by omega), up2_nq _ (by omega)]; exact hCF _ _ (by omega) (by omega) (by omega)
    · rw [up2_nq _ (by omega), up2_nq _ (by omega), up2_nq _ (by omega)]; exact hRF K j (by omega) (fun q => by have := IB_r q; omega)
theorem u_exch_8 (X : AX) {τ : AH} (h33 : τ 3 3 = 8)  : TT X 146 (0, [(2, 3), (2, 170), (9, 0)], [], τ) (fun r σ' => r = some (2, 8) ∧ σ' = up2 τ 3 3 170) := by
  refine TT.steps (cd := cd146) 2 (c' := (2, [(2, 3), (2, 170), (9, 0)], [(2, (τ 3 3))], τ)) rfl rfl ?_
  refine TT.top0 (z := 8) h33 ?_
  refine TT.steps (cd := cd146) 5 (c' := (7, [(2, 3), (2, 170), (2, 8)], [(2, 8)], (up2 τ 3 3 170))) rfl rfl ?_
  exact TT.ret (cd := cd146) rfl rfl rfl rfl (⟨rfl, rfl⟩)
theorem K_line_170 (X : AX) {σ ρ : AH} {b np nt ns : Nat} {L : Nat → Nat} {C : Nat → Nat → Nat} {w tp u tl oc : Nat} (h : IV σ ρ 170 b np nt ns L C w tp u tl oc) (hJ : (σ 30 1 = 0 ∧ σ 30 2 = 0) ∧ (σ 192 1 = 0 ∧ σ 192 2 = 0)) : TT X 183 (0, [(2, 0), (9, 0)], [], σ) (fun r σ' => ∃ ρ', (∃ z : Int, r = some (0, z)) ∧ TT X 29 (0, [(2, 295), (9, 0)], [], ρ) (fun r' ρ'' => r' = r ∧ ρ'' = ρ') ∧ EX σ' ρ' ∧ (∀ K j, 295 ≤ K → σ' K j = σ K j) ∧ (∀ j, (j = 1 ∨ j = 2) → σ' 30 j = σ 30 j ∧ σ' 192 j = σ 192 j) ∧ (∀ K j, K < 295 → ρ' K j = ρ K j)) := by
  obtain ⟨⟨hl, h05, h33⟩, hL, hN, hPT, hF, hA, hTp, hO, hM, hH⟩ := id h
  obtain ⟨t1, t2, t3, t4⟩ := id hTp
  have hb13 := hL.2.1.1
  have hb2' := hL.2.1.2.1
  obtain ⟨bi, hbi⟩ : ∃ bi, b + bi = 1 := ⟨1 - b, by omega⟩
  refine TT.steps (cd := cd183) 4 (c' := (4, [(2, 0), (9, 0)], [(2, 1), (2, 3)], σ)) rfl rfl ?_
  refine TT.call (cd := cd183) rfl rfl rfl (by decide) rfl (Z_read_8 X h hbi) (fun r1 τ' hq => ?_)
  obtain ⟨f, N, c, K, S, V, P, ρ1, n1, hn1, hre, hCF, hRF, h11, hfin⟩ := hq
  have h33z : τ' 3 3 = ((8 : Nat) : Int) := (hCF 3 3 (by omega) (by omega) (by omega)).trans h33
  have h05z : τ' 0 5 = ((170 : Nat) : Int) := (hCF 0 5 (by omega) (by omega) (by omega)).trans h05
  have hb1 : ρ1 295 13 = (b : Int) := (hRF 295 13 (by omega) (fun q => by have := IB_r q; omega)).trans hb13
  rcases hfin with ⟨g, hd0, i, np1, nt1, ns1, L1, C1, hX⟩ | ⟨g, kd, pl, b1, b2, b3, b4⟩
  · subst g
    obtain ⟨-, ⟨-, h30, h31⟩, -, -, -, hR, ⟨h32, h9⟩, -, hD⟩ := id hX
    have m2 := hD.1.2.1.2.2
    have n2 := hD.1.2.2.1.1
    have hrun : TT X 29 (0, [(2, 295), (9, 0)], [], ρ) (fun r' ρ'' => r' = some (0, ((n1 : Nat) : Int)) ∧ ρ'' = (mBg (up2 (up2 (up2 ρ1 295 10 0) 295 11 (-1)) 295 13 ((bi : Nat) : Int)) bi np1)) := by
      refine hre _ ?_
      refine TT.steps (cd := cd29) 3 (c' := (66, [(2, 295), (0, ((n1 : Nat) : Int))], [(0, (ρ1 295 8)), (2, 295)], ρ1)) rfl rfl ?_
      refine TT.top0 (z := 0) hR.1 ?_
      refine TT.steps (cd := cd29) 4 (c' := (70, [(2, 295), (0, ((n1 : Nat) : Int))], [(0, ((up2 ρ1 295 10 0) 295 9)), (2, 295)], (up2 ρ1 295 10 0))) rfl rfl ?_
      refine TT.top0 (z := (-1)) ((up2_by _ _ (j := 10) (j' := 9) _ (by decide)).trans h9) ?_
      refine TT.steps (cd := cd29) 3 (c' := (73, [(2, 295), (0, ((n1 : Nat) : Int))], [(0, ((up2 (up2 ρ1 295 10 0) 295 11 (-1)) 295 8))], (up2 (up2 ρ1 295 10 0) 295 11 (-1)))) rfl rfl ?_
      refine TT.top0 (z := 0) (((up2_by _ _ (j := 11) (j' := 8) _ (by decide)).trans (up2_by _ _ (j := 10) (j' := 8) _ (by decide))).trans hR.1) ?_
      refine TT.steps (cd := cd29) 4 (c' := (81, [(2, 295), (0, ((n1 : Nat) : Int))], [(0, ((up2 (up2 ρ1 295 10 0) 295 11 (-1)) 295 32)), (2, 295)], (up2 (up2 ρ1 295 10 0) 295 11 (-1)))) rfl rfl ?_
      refine TT.top0 (z := ((bi : Nat) : Int)) (((up2_by _ _ (j := 11) (j' := 32) _ (by decide)).trans (up2_by _ _ (j := 10) (j' := 32) _ (by decide))).trans h32) ?_
      refine TT.steps (cd := cd29) 2 (c' := (83, [(2, 295), (0, ((n1 : Nat) : Int))], [(2, 295)], (up2 (up2 (up2 ρ1 295 10 0) 295 11 (-1)) 295 13 ((bi : Nat) : Int)))) rfl rfl ?_
      refine TT.call (cd := cd29) rfl rfl rfl (by decide) rfl (t_begin X np1 (up2 (up2 (up2 ρ1 295 10 0) 295 11 (-1)) 295 13 ((bi : Nat) : Int)) (b := bi) (up2_hit _ _ _ _) (by omega) (by rw [up2_nq _ (by omega), up2_nq _ (by omega), up2_nq _ (by omega)]; exact m2) n2) (fun r801 σ801 hq => ?_)
      rw [hq.1, hq.2]
      refine TT.steps (cd := cd29) 1 (c' := (85, [(2, 295), (0, ((n1 : Nat) : Int))], [(0, ((n1 : Nat) : Int))], (mBg (up2 (up2 (up2 ρ1 295 10 0) 295 11 (-1)) 295 13 ((bi : Nat) : Int)) bi np1))) rfl rfl ?_
      exact TT.ret (cd := cd29) rfl rfl rfl rfl ⟨rfl, rfl⟩
    show TT X 183 (5, [(2, 0), (9, 0)], [(0, 1)], τ') _
    refine TT.steps (cd := cd183) 12 (c' := (21, [(2, 0), (0, 1)], [(2, ((up2 τ' 1 1 0) 0 5)), (2, 3), (2, 0)], (up2 τ' 1 1 0))) rfl rfl ?_
    refine TT.top0 (z := 170) ((up2_far (k := 1) (k' := 0) _ _ _ _ (by decide)).trans h05z) ?_
    refine TT.call (cd := cd183) rfl rfl rfl (by decide) rfl (u_exch_8 X (τ := (up2 τ' 1 1 0)) ((up2_nq _ (by omega)).trans h33z)) (fun r52 σ52 hq => ?_)
    rw [hq.1, hq.2]
    refine TT.steps (cd := cd183) 5 (c' := (27, [(2, 0), (0, 1)], [(2, ((up2 (up2 (up2 τ' 1 1 0) 3 3 170) 0 5 8) 0 5)), (2, 36)], (up2 (up2 (up2 τ' 1 1 0) 3 3 170) 0 5 8))) rfl rfl ?_
    refine TT.top0 (z := 8) (up2_hit _ _ _ _) ?_
    refine TT.steps (cd := cd183) 1 (c' := (28, [(2, 0), (0, 1)], [(2, 30), (2, 36)], (up2 (up2 (up2 τ' 1 1 0) 3 3 170) 0 5 8))) rfl rfl ?_
    refine TT.call (cd := cd183) rfl rfl rfl (by decide) rfl (v_copy_36_30 X (up2 (up2 (up2 τ' 1 1 0) 3 3 170) 0 5 8)) (fun r53 σ53 hq => ?_)
    obtain ⟨rfl, hcp⟩ := hq
    refine TT.steps (cd := cd183) 1 (c' := (30, [(2, 0), (0, 1)], [(2, 0)], σ53)) rfl rfl ?_
    refine TT.call (cd := cd183) rfl rfl rfl (by decide) rfl (v_startAnew X σ53) (fun r54 σ54 hq => ?_)
    rw [hq.1, hq.2]
    refine TT.steps (cd := cd183) 2 (c' := (33, [(2, 0), (0, 1)], [(2, ((up2 (up2 σ53 48 0 0) 289 0 0) 0 5))], (up2 (up2 σ53 48 0 0) 289 0 0))) rfl rfl ?_
    refine TT.top0 (z := 8) ((((up2_far (k := 289) (k' := 0) _ _ _ _ (by decide)).trans (up2_far (k := 48) (k' := 0) _ _ _ _ (by decide))).trans (hcp.1 0 (5) (by omega))).trans (up2_hit _ _ _ _)) ?_
    refine TT.steps (cd := cd183) 1 (c' := (34, [(2, 0), (0, 1)], [(0, ((up2 (up2 σ53 48 0 0) 289 0 0) 8 0))], (up2 (up2 σ53 48 0 0) 289 0 0))) rfl rfl ?_
    refine TT.top0 (z := ((n1 : Nat) : Int)) (((((((up2_far (k := 289) (k' := 8) _ _ _ _ (by decide)).trans (up2_far (k := 48) (k' := 8) _ _ _ _ (by decide))).trans (hcp.1 8 (0) (by omega))).trans (up2_far (k := 0) (k' := 8) _ _ _ _ (by decide))).trans (up2_far (k := 3) (k' := 8) _ _ _ _ (by decide))).trans (up2_far (k := 1) (k' := 8) _ _ _ _ (by decide))).trans hd0) ?_
    refine TT.ret (cd := cd183) rfl rfl rfl rfl ⟨(mBg (up2 (up2 (up2 ρ1 295 10 0) 295 11 (-1)) 295 13 ((bi : Nat) : Int)) bi np1), ⟨_, rfl⟩, by exact hrun, ⟨_, _, _, _, _, _, _, _, _, _, _, _, IV_ln1 (τ := τ') h (d := 8) (by omega) hbi hCF hRF hD h11 hJ.1 (fun K j a1 a2 a3 a4 a5 a6 => by rw [up2_nq _ (by omega), up2_nq _ (by omega), hcp.1 _ _ (by omega), up2_nq _ (by omega), up2_nq _ (by omega), up2_nq _ (by omega)]) ⟨?_, ?_⟩ (((((up2_far (k := 289) (k' := 3) _ _ _ _ (by decide)).trans (up2_far (k := 48) (k' := 3) _ _ _ _ (by decide))).trans (hcp.1 3 (3) (by omega))).trans (up2_far (k := 0) (k' := 3) _ _ _ _ (by decide))).trans (up2_hit _ _ _ _)) ((((up2_far (k := 289) (k' := 0) _ _ _ _ (by decide)).trans (up2_far (k := 48) (k' := 0) _ _ _ _ (by decide))).trans (hcp.1 0 (5) (by omega))).trans (up2_hit _ _ _ _)) ((((((up2_far (k := 289) (k' := 1) _ _ _ _ (by decide)).trans (up2_far (k := 48) (k' := 1) _ _ _ _ (by decide))).trans (hcp.1 1 (1) (by omega))).trans (up2_far (k := 0) (k' := 1) _ _ _ _ (by decide))).trans (up2_far (k := 3) (k' := 1) _ _ _ _ (by decide))).trans (up2_hit _ _ _ _)) ((up2_far (k := 289) (k' := 48) _ _ _ _ (by decide)).trans (up2_hit _ _ _ _)) (up2_hit _ _ _ _) (fun j hj => ?_) (fun i j a1 a2 a3 => ?_)⟩, fun K j hK => ?_, fun j hj => ⟨?_, ?_⟩, fun K j hK => ?_⟩
    · exact (((((((up2_far (k := 289) (k' := 3) _ _ _ _ (by decide)).trans (up2_far (k := 48) (k' := 3) _ _ _ _ (by decide))).trans (hcp.1 3 (0) (by omega))).trans (up2_far (k := 0) (k' := 3) _ _ _ _ (by decide))).trans (up2_by _ _ (j := 3) (j' := 0) _ (by decide))).trans (up2_far (k := 1) (k' := 3) _ _ _ _ (by decide))).trans h30)
    · exact (((((((up2_far (k := 289) (k' := 3) _ _ _ _ (by decide)).trans (up2_far (k := 48) (k' := 3) _ _ _ _ (by decide))).trans (hcp.1 3 (1) (by omega))).trans (up2_far (k := 0) (k' := 3) _ _ _ _ (by decide))).trans (up2_by _ _ (j := 3) (j' := 1) _ (by decide))).trans (up2_far (k := 1) (k' := 3) _ _ _ _ (by decide))).trans h31)
    · rw [up2_nq _ (by omega), up2_nq _ (by omega), hcp.2.1 j hj, up2_nq _ (by omega), up2_nq _ (by omega), up2_nq _ (by omega)]
    · rw [up2_nq _ (by omega), up2_nq _ (by omega), hcp.2.2 i j a1 a2 a3, up2_nq _ (by omega), up2_nq _ (by omega), up2_nq _ (by omega)]
    · rw [up2_nq _ (by omega), up2_nq _ (by omega), hcp.1 _ _ (by omega), up2_nq _ (by omega), up2_nq _ (by omega), up2_nq _ (by omega)]; exact hCF K j (by omega) (by omega) (by omega)
    · rw [up2_nq _ (by omega), up2_nq _ (by omega), hcp.1 _ _ (by omega), up2_nq _ (by omega), up2_nq _ (by omega), up2_nq _ (by omega)]; exact hCF _ _ (by omega) (by omega) (by omega)
    · rw [up2_nq _ (by omega), up2_nq _ (by omega), hcp.1 _ _ (by omega), up2_nq _ (by omega), up2_nq _ (by omega), up2_nq _ (by omega)]; exact hCF _ _ (by omega) (by omega) (by omega)
    · rw [(mBg_p _ _ _).2.2 K j (by omega) (by omega) (by omega), up2_nq _ (by omega), up2_nq _ (by omega), up2_nq _ (by omega)]; exact hRF K j (by omega) (fun q => by have := IB_r q; omega)
  · subst g
    have hrun : TT X 29 (0, [(2, 295), (9, 0)], [], ρ) (fun r' ρ'' => r' = some (0, -1) ∧ ρ'' = (up2 (up2 (up2 ρ1 295 10 kd) 295 11 pl) 315 1 (aAdd (ρ1 315 1) 1))) := by
      refine hre _ ?_
      refine TT.steps (cd := cd29) 3 (c' := (66, [(2, 295), (0, ((n1 : Nat) : Int))], [(0, (ρ1 295 8)), (2, 295)], ρ1)) rfl rfl ?_
      refine TT.top0 (z := kd) b4.1 ?_
      refine TT.steps (cd := cd29) 4 (c' := (70, [(2, 295), (0, ((n1 : Nat) : Int))], [(0, ((up2 ρ1 295 10 kd) 295 9)), (2, 295)], (up2 ρ1 295 10 kd))) rfl rfl ?_
      refine TT.top0 (z := pl) ((up2_by _ _ (j := 10) (j' := 9) _ (by decide)).trans b4.2) ?_
      refine TT.steps (cd := cd29) 3 (c' := (73, [(2, 295), (0, ((n1 : Nat) : Int))], [(0, ((up2 (up2 ρ1 295 10 kd) 295 11 pl) 295 8))], (up2 (up2 ρ1 295 10 kd) 295 11 pl))) rfl rfl ?_
      refine TT.top0 (z := kd) (((up2_by _ _ (j := 11) (j' := 8) _ (by decide)).trans (up2_by _ _ (j := 10) (j' := 8) _ (by decide))).trans b4.1) ?_
      refine TT.steps (cd := cd29) 1 (c' := ((if decide (kd ≤ 0) = true then 78 else 74), [(2, 295), (0, ((n1 : Nat) : Int))], [], (up2 (up2 ρ1 295 10 kd) 295 11 pl))) rfl rfl ?_
      refine TT.br (p := kd ≤ 0) (fun h851 => absurd h851 (show ¬ (kd ≤ 0) by omega)) (fun h851 => ?_)
      refine TT.steps (cd := cd29) 2 (c' := (76, [(2, 295), (0, ((n1 : Nat) : Int))], [(0, 1), (2, 295)], (up2 (up2 ρ1 295 10 kd) 295 11 pl))) rfl rfl ?_
      refine TT.call (cd := cd29) rfl rfl rfl (by decide) rfl (t_refuses X 1 (by decide) (up2 (up2 ρ1 295 10 kd) 295 11 pl)) (fun r852 σ852 hq => ?_)
      rw [hq.1, hq.2]
      refine TT.sg (σ' := (up2 (up2 (up2 ρ1 295 10 kd) 295 11 pl) 315 1 (aAdd (ρ1 315 1) 1))) (by rw [up2_nq _ (by omega), up2_nq _ (by omega)]) ?_
      exact TT.ret (cd := cd29) rfl rfl rfl rfl ⟨rfl, rfl⟩
    show TT X 183 (5, [(2, 0), (9, 0)], [(0, 0)], τ') _
    refine TT.steps (cd := cd183) 9 (c' := (14, [(2, 0), (0, 0)], [(0, 1), (2, 0)], (up2 τ' 1 1 0))) rfl rfl ?_
    refine TT.call (cd := cd183) rfl rfl rfl (by decide) rfl (w_refuse X 1 (by decide) (up2 τ' 1 1 0)) (fun r52 σ52 hq => ?_)
    rw [hq.1, hq.2]
    refine TT.ret (cd := cd183) rfl rfl rfl rfl ⟨(up2 (up2 (up2 ρ1 295 10 kd) 295 11 pl) 315 1 (aAdd (ρ1 315 1) 1)), ⟨_, rfl⟩, by exact hrun, ⟨_, _, _, _, _, _, _, _, _, _, _, _, IV_ln0 (d := 8) h (by omega) hbi (fun K j a1 a2 a3 a4 a5 => ?_) (fun K j a1 a2 a3 => ?_) ?_ ?_ ⟨?_, ?_⟩ ?_⟩, fun K j hK => ?_, fun j hj => ⟨?_, ?_⟩, fun K j hK => ?_⟩
    · rw [up2_nq _ (by omega), up2_nq _ (by omega)]; exact hCF K j a1 a2 (by omega)
    · rw [up2_nq _ (by omega), up2_nq _ (by omega), up2_nq _ (by omega)]; exact hRF K j (by omega) a2
    · rw [up2_nq _ (by omega), up2_hit]
    · rw [up2_nq _ (by omega), up2_nq _ (by omega), up2_nq _ (by omega)]; exact h11
    · rw [up2_nq _ (by omega), up2_nq _ (by omega), up2_nq _ (by omega), up2_nq _ (by omega), up2_hit]; exact b2
    · rw [up2_nq _ (by omega), up2_nq _ (by omega), up2_nq _ (by omega), up2_hit]; exact b3
    · rw [up2_hit, up2_hit, up2_nq _ (by omega), hCF 293 1 (by omega) (by omega) (by omega), hRF 315 1 (by omega) (fun q => by have := IB_r q; omega), hM.2.2 1 (by decide)]
    · rw [up2_nq _ (by omega), up2_nq _ (by omega)]; exact hCF K j (by omega) (by omega) (by omega)
    · rw [up2_nq _ (by omega), up2_nq _ (by omega)]; exact hCF _ _ (by omega) (by omega) (by omega)
    · rw [up2_nq _ (by omega), up2_nq _ (by omega)]; exact hCF _ _ (by omega) (by omega) (by omega)
    · rw [up2_nq _ (by omega), up2_nq _ (by omega), up2_nq _ (by omega)]; exact hRF K j (by omega) (fun q => by have := IB_r q; omega)
theorem K_line (X : AX) {l : Nat} {σ ρ : AH} {b np nt ns : Nat} {L : Nat → Nat} {C : Nat → Nat → Nat} {w tp u tl oc : Nat} (h : IV σ ρ l b np nt ns L C w tp u tl oc) (hJ : (σ 30 1 = 0 ∧ σ 30 2 = 0) ∧ (σ 192 1 = 0 ∧ σ 192 2 = 0)) : TT X 183 (0, [(2, 0), (9, 0)], [], σ) (fun r σ' => ∃ ρ', (∃ z : Int, r = some (0, z)) ∧ TT X 29 (0, [(2, 295), (9, 0)], [], ρ) (fun r' ρ'' => r' = r ∧ ρ'' = ρ') ∧ EX σ' ρ' ∧ (∀ K j, 295 ≤ K → σ' K j = σ K j) ∧ (∀ j, (j = 1 ∨ j = 2) → σ' 30 j = σ 30 j ∧ σ' 192 j = σ 192 j) ∧ (∀ K j, K < 295 → ρ' K j = ρ K j)) := by
  rcases h.1.1 with rfl | rfl
  · exact K_line_8 X h hJ
  · exact K_line_170 X h hJ
