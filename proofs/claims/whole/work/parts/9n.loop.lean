/-! A train's calls: both parsers, the loop. -/
theorem rl_16 {f : Nat → Int} {N i : Nat} {K : Nat → Int} {S : Nat → Nat} {V : Nat → Int} {P : Nat → Nat} {ρ : AH} (h : RTk f N K S V P i ρ) (h16 : K i = 16) : ρ 295 3 = 3 := ((rl_sign h (rl_no17 h (by omega)).2.1).mpr h16).1
set_option maxHeartbeats 40000000 in
theorem Z_loop_8 (X : AX) {f : Nat → Int} {N c : Nat} {K : Nat → Int} {S : Nat → Nat} {V : Nat → Int} {P : Nat → Nat} {bi np nt ns : Nat} {L : Nat → Nat} {C : Nat → Nat → Nat} : ∀ (m n : Nat), n + m = 8 → ∀ (i : Nat) (cs : Nat → Nat) (τ ρ : AH) (y : AV), LPd f N c K S V P 8 bi np nt ns L C i n cs τ ρ → (n = 1 ∨ K i = 7) → TT X 153 (33, [(2, 3), (0, ((nt : Nat) : Int)), (0, (UB cs n)), (0, ((n : Nat) : Int))], [], τ) (fun r τ' => GQ X f N c K S V P 8 bi nt y τ ρ r τ') := by
  intro m
  induction m with
  | zero =>
    intro n hm i cs τ ρ y hP hor
    obtain ⟨hX, hnt, ⟨hn1, hn8⟩, hTn⟩ := id hP
    obtain ⟨hT, ⟨hC, hf0, hf1⟩, h34, hi, h33, hR, ⟨h32, hf9⟩, hb2, hD⟩ := id hX
    obtain ⟨⟨⟨d1, d2, d3, d4⟩, ⟨m0, m1, m2⟩, ⟨n2, n1, n0, s1, s2⟩, hTr, hCa, hAf, hPr, hDi⟩, ⟨hN0, hN1, hN2⟩, hPD⟩ := id hD
    obtain ⟨t1, t2, t3, h304, h5c, h6c, h7c⟩ := id hTn
    have hk7 : K i = 7 := by omega
    have hpl : plc K S V i = ((S i : Nat) : Int) := by unfold plc; rw [if_neg (by omega), Int.add_zero]
    refine TT.steps (cd := cd153) 3 (c' := ((if decide (((n : Nat) : Int) < 8) = true then 40 else 36), [(2, 3), (0, ((nt : Nat) : Int)), (0, (UB cs n)), (0, ((n : Nat) : Int))], [], τ)) rfl rfl ?_
    refine TT.br (p := ((n : Nat) : Int) < 8) (fun h1 => absurd h1 (show ¬ (((n : Nat) : Int) < 8) by omega)) (fun h1 => ?_)
    refine TT.steps (cd := cd153) 2 (c' := (38, [(2, 3), (0, ((nt : Nat) : Int)), (0, (UB cs n)), (0, ((n : Nat) : Int))], [(0, 1), (2, 3)], τ)) rfl rfl ?_
    refine TT.call (cd := cd153) rfl rfl rfl (by decide) rfl (u_fail1 X hT (τ := τ) hC h34 (by omega)) (fun r2 σ2 hq => ?_)
    rw [hq.1, hq.2]
    refine TT.ret (cd := cd153) rfl rfl rfl rfl (Or.inl ⟨rfl, ?_⟩)
    refine TT.steps (cd := cd25) 3 (c' := (77, [(2, 295), (0, (((6 * bi) + nt : Nat) : Int)), (0, 1), y], [(0, (((6 * bi) + nt : Nat) : Int)), (2, 304)], ρ)) rfl rfl ?_
    refine TT.aldN (cd := cd25) (304) ((6 * bi) + nt) rfl rfl rfl rfl (show (6 * bi) + nt < 12 by omega) ?_
    refine TT.top0 (z := ((n : Nat) : Int)) h304 ?_
    refine TT.steps (cd := cd25) 2 (c' := ((if decide (¬ ((n : Nat) : Int) = 8) = true then 94 else 80), [(2, 295), (0, (((6 * bi) + nt : Nat) : Int)), (0, 1), y], [], ρ)) rfl rfl ?_
    refine TT.br (p := ¬ ((n : Nat) : Int) = 8) (fun h103 => absurd h103 (show ¬ (¬ ((n : Nat) : Int) = 8) by omega)) (fun h103 => ?_)
    refine TT.steps (cd := cd25) 2 (c' := (82, [(2, 295), (0, (((6 * bi) + nt : Nat) : Int)), (0, 1), y], [(0, (ρ 295 3))], ρ)) rfl rfl ?_
    refine TT.top0 (z := 1) ((rl_word hR (rl_no17 hR (by omega)).2.1 (by decide)).mpr hk7).1 ?_
    refine TT.steps (cd := cd25) 2 (c' := (84, [(2, 295), (0, (((6 * bi) + nt : Nat) : Int)), (0, 1), y], [], ρ)) rfl rfl ?_
    refine seg84 X _ hT hR ((0, (((6 * bi) + nt : Nat) : Int))) ((0, 1)) y (fun σ104 hT104 hF104 => ?_)
    refine TT.steps (cd := cd25) 2 (c' := (96, [(2, 295), (0, (((6 * bi) + nt : Nat) : Int)), (0, 1), y], [(1, 418330731890), (2, 295)], σ104)) rfl rfl ?_
    refine TT.call (cd := cd25) rfl rfl rfl (by decide) rfl (r_mustF X 418330731890 (ρ := σ104) (by rw [hT104.1]; decide)) (fun r105 σ105 hq => ?_)
    rw [hq.1, hq.2]
    refine TT.steps (cd := cd25) 3 (c' := (100, [(2, 295), (0, (((6 * bi) + nt : Nat) : Int)), (0, 1), y], [(0, 99), (0, 1), (2, 295)], σ104)) rfl rfl ?_
    refine TT.call (cd := cd25) rfl rfl rfl (by decide) rfl (r_numF X 1 99 (ρ := σ104) (by rw [hT104.1]; decide)) (fun r106 σ106 hq => ?_)
    rw [hq.1, hq.2]
    refine TT.steps (cd := cd25) 3 (c' := (104, [(2, 295), (0, (((6 * bi) + nt : Nat) : Int)), (0, 1), (0, 0)], [(0, (σ104 295 8))], σ104)) rfl rfl ?_
    refine TT.top0 (z := 1) hT104.1 ?_
    refine TT.steps (cd := cd25) 3 (c' := (111, [(2, 295), (0, (((6 * bi) + nt : Nat) : Int)), (0, 1), (0, 0)], [(0, (σ104 295 8))], σ104)) rfl rfl ?_
    refine TT.top0 (z := 1) hT104.1 ?_
    refine TT.steps (cd := cd25) 8 (c' := (123, [(2, 295), (0, (((6 * bi) + nt : Nat) : Int)), (0, 0), (0, 0)], [(0, (σ104 295 8))], σ104)) rfl rfl ?_
    refine TT.top0 (z := 1) hT104.1 ?_
    refine TT.steps (cd := cd25) 1 (c' := (133, [(2, 295), (0, (((6 * bi) + nt : Nat) : Int)), (0, 0), (0, 0)], [], σ104)) rfl rfl ?_
    exact TT.ret (cd := cd25) rfl rfl rfl rfl ⟨rfl, (CFR_f (CFR.refl _ _) _ _), (RFR_B (RFR.refl _ _) hF104), Or.inr (Or.inr ⟨rfl, 1, (plc K S V i), by decide, (cF_0 _ _ _).1, (cF_0 _ _ _).2, hT104⟩)⟩
  | succ m ih =>
    intro n hm i cs τ ρ y hP hor
    obtain ⟨hX, hnt, ⟨hn1, hn8⟩, hTn⟩ := id hP
    obtain ⟨hT, ⟨hC, hf0, hf1⟩, h34, hi, h33, hR, ⟨h32, hf9⟩, hb2, hD⟩ := id hX
    obtain ⟨⟨⟨d1, d2, d3, d4⟩, ⟨m0, m1, m2⟩, ⟨n2, n1, n0, s1, s2⟩, hTr, hCa, hAf, hPr, hDi⟩, ⟨hN0, hN1, hN2⟩, hPD⟩ := id hD
    obtain ⟨t1, t2, t3, h304, h5c, h6c, h7c⟩ := id hTn
    have hn8l : n < 8 := by omega

    refine TT.steps (cd := cd153) 3 (c' := ((if decide (((n : Nat) : Int) < 8) = true then 40 else 36), [(2, 3), (0, ((nt : Nat) : Int)), (0, (UB cs n)), (0, ((n : Nat) : Int))], [], τ)) rfl rfl ?_
    refine TT.br (p := ((n : Nat) : Int) < 8) (fun h1 => ?_) (fun h1 => absurd (show ((n : Nat) : Int) < 8 by omega) h1)
    refine TT.steps (cd := cd153) 2 (c' := (42, [(2, 3), (0, ((nt : Nat) : Int)), (0, (UB cs n)), (0, ((n : Nat) : Int))], [(0, 7), (2, 3)], τ)) rfl rfl ?_
    by_cases hk1 : K i = 7
    · have hl1 : i < c := td_lt hT (by omega) ⟨by omega, by omega⟩
      refine TT.call (cd := cd153) rfl rfl rfl (by decide) rfl ((u_take X hT (τ := τ) hC h34 (by omega) 7).mono (fun _ _ h => h.1 hk1)) (fun r2 σ2 hq => ?_)
      rw [hq.1, hq.2]
      refine TT.steps (cd := cd153) 4 (c' := (47, [(2, 3), (0, ((nt : Nat) : Int)), (0, (UB cs n)), (0, ((n : Nat) : Int))], [(0, 99), (0, 1), (2, 3)], (up2 τ 3 4 ((i + 1 : Nat) : Int)))) rfl rfl ?_
      by_cases hk2 : K (i + 1) = 15
      · by_cases hr2 : 1 ≤ V (i + 1) ∧ V (i + 1) ≤ 99
        · have hl2 : i + 1 < c := td_lt hT (by omega) ⟨by omega, by omega⟩
          refine TT.call (cd := cd153) rfl rfl rfl (by decide) rfl ((u_takeNumber X hT (τ := (up2 τ 3 4 ((i + 1 : Nat) : Int))) (CT_w hC _ _ _ (by omega)) (up2_hit _ _ _ _) (by omega) 1 99).mono (fun _ _ h => h.2.2 ⟨hk2, hr2⟩)) (fun r4 σ4 hq => ?_)
          rw [hq.1, hq.2]
          refine TT.steps (cd := cd153) 3 (c' := (53, [(2, 3), (0, ((nt : Nat) : Int)), (0, (UB cs n)), (0, ((n : Nat) : Int))], [(2, ((up2 (up2 (up2 τ 3 4 ((i + 1 : Nat) : Int)) 3 5 (V (i + 1))) 3 4 ((i + 2 : Nat) : Int)) 3 3))], (up2 (up2 (up2 τ 3 4 ((i + 1 : Nat) : Int)) 3 5 (V (i + 1))) 3 4 ((i + 2 : Nat) : Int)))) rfl rfl ?_
          refine TT.top0 (z := 8) ((((up2_by _ _ (j := 4) (j' := 3) _ (by decide)).trans (up2_by _ _ (j := 5) (j' := 3) _ (by decide))).trans (up2_by _ _ (j := 4) (j' := 3) _ (by decide))).trans h33) ?_
          refine TT.steps (cd := cd153) 2 (c' := (55, [(2, 3), (0, ((nt : Nat) : Int)), (0, (UB cs n)), (0, ((n : Nat) : Int))], [(0, ((nt : Nat) : Int)), (2, 23)], (up2 (up2 (up2 τ 3 4 ((i + 1 : Nat) : Int)) 3 5 (V (i + 1))) 3 4 ((i + 2 : Nat) : Int)))) rfl rfl ?_
          refine TT.aaldN (cd := cd153) 23 (nt) (24 + nt) rfl rfl rfl (Or.inr rfl) (show nt < 6 by omega) (fxg_23 nt (by omega)) ?_
          refine TT.steps (cd := cd153) 3 (c' := (59, [(2, 3), (0, ((nt : Nat) : Int)), (0, (UB cs n)), (0, ((n : Nat) : Int))], [(0, ((up2 (up2 (up2 τ 3 4 ((i + 1 : Nat) : Int)) 3 5 (V (i + 1))) 3 4 ((i + 2 : Nat) : Int)) 3 5)), (0, ((n : Nat) : Int)), (2, ((24 + nt : Nat) : Int))], (up2 (up2 (up2 τ 3 4 ((i + 1 : Nat) : Int)) 3 5 (V (i + 1))) 3 4 ((i + 2 : Nat) : Int)))) rfl rfl ?_
          refine TT.top0 (z := (V (i + 1))) ((up2_by _ _ (j := 4) (j' := 5) _ (by decide)).trans (up2_hit _ _ _ _)) ?_
          refine TT.astN (cd := cd153) (24 + nt) (n) rfl rfl rfl (kdg_23 nt (by omega)).1 (show n < ln (24 + nt) by rw [(kdg_23 nt (by omega)).2]; omega) ?_
          refine TT.steps (cd := cd153) 2 (c' := (62, [(2, 3), (0, ((nt : Nat) : Int)), (0, (UB cs n)), (0, ((n : Nat) : Int))], [(0, (UB cs n)), (2, 3)], (up2 (up2 (up2 (up2 τ 3 4 ((i + 1 : Nat) : Int)) 3 5 (V (i + 1))) 3 4 ((i + 2 : Nat) : Int)) (24 + nt) n (V (i + 1))))) rfl rfl ?_
          by_cases hk3 : K (i + 2) = 14
          · skip
            obtain ⟨q0_3, e0_3⟩ : ∃ z, fstI (fun k => decide (τ 9 k = V (i + 2))) ns 0 = z := ⟨_, rfl⟩
            have hl3 : i + 2 < c := td_lt hT (by omega) ⟨by omega, by omega⟩
            rcases fstI_r (fun k => decide (τ 9 k = V (i + 2))) ns 0 with g3 | ⟨s3, g3, -, hs3, -⟩
            · rw [e0_3] at g3
              refine TT.call (cd := cd153) rfl rfl rfl (by decide) rfl ((u_stat_8 X hT (τ := (up2 (up2 (up2 (up2 τ 3 4 ((i + 1 : Nat) : Int)) 3 5 (V (i + 1))) 3 4 ((i + 2 : Nat) : Int)) (24 + nt) n (V (i + 1)))) (CT_w (CT_w (CT_w (CT_w hC _ _ _ (by omega)) _ _ _ (by omega)) _ _ _ (by omega)) _ _ _ (by omega)) ((up2_far (k := 24 + nt) (k' := 3) _ _ _ _ (by omega)).trans (up2_hit _ _ _ _)) (by omega) (((((up2_far (k := 24 + nt) (k' := 3) _ _ _ _ (by omega)).trans (up2_by _ _ (j := 4) (j' := 3) _ (by decide))).trans (up2_by _ _ (j := 5) (j' := 3) _ (by decide))).trans (up2_by _ _ (j := 4) (j' := 3) _ (by decide))).trans h33) (((((up2_far (k := 24 + nt) (k' := 8) _ _ _ _ (by omega)).trans (up2_far (k := 3) (k' := 8) _ _ _ _ (by decide))).trans (up2_far (k := 3) (k' := 8) _ _ _ _ (by decide))).trans (up2_far (k := 3) (k' := 8) _ _ _ _ (by decide))).trans d1) n0 (((((up2_far (k := 24 + nt) (k' := 8) _ _ _ _ (by omega)).trans (up2_far (k := 3) (k' := 8) _ _ _ _ (by decide))).trans (up2_far (k := 3) (k' := 8) _ _ _ _ (by decide))).trans (up2_far (k := 3) (k' := 8) _ _ _ _ (by decide))).trans d2) n1 (((((up2_far (k := 24 + nt) (k' := 30) _ _ _ _ (by omega)).trans (up2_far (k := 3) (k' := 30) _ _ _ _ (by decide))).trans (up2_far (k := 3) (k' := 30) _ _ _ _ (by decide))).trans (up2_far (k := 3) (k' := 30) _ _ _ _ (by decide))).trans d4) n2 q0_3 (by simp only [up2_far _ _ _ _ (show 9 ≠ 24 + nt by omega), up2_far _ _ _ _ (show 9 ≠ 3 by decide)]; exact e0_3) (UB cs n) hk3).mono (fun _ _ h => h.1 (Or.inl g3))) (fun r6 σ6 hq => ?_)
              rw [hq.1, hq.2]
              refine TT.steps (cd := cd153) 2 (c' := (65, [(2, 3), (0, ((nt : Nat) : Int)), (0, (UB cs n)), (0, ((n : Nat) : Int))], [(0, 0)], (cFail (up2 (up2 (up2 (up2 (up2 τ 3 4 ((i + 1 : Nat) : Int)) 3 5 (V (i + 1))) 3 4 ((i + 2 : Nat) : Int)) (24 + nt) n (V (i + 1))) 3 5 q0_3) 3 ((S (i + 2) : Nat) : Int)))) rfl rfl ?_
              refine TT.ret (cd := cd153) rfl rfl rfl rfl (Or.inl ⟨rfl, ?_⟩)
              have hpl : plc K S V (i + 2) = ((S (i + 2) : Nat) : Int) := by unfold plc; rw [if_neg (by omega), Int.add_zero]
              rw [← hpl]
              refine TT.steps (cd := cd25) 3 (c' := (77, [(2, 295), (0, (((6 * bi) + nt : Nat) : Int)), (0, 1), y], [(0, (((6 * bi) + nt : Nat) : Int)), (2, 304)], ρ)) rfl rfl ?_
              refine TT.aldN (cd := cd25) (304) ((6 * bi) + nt) rfl rfl rfl rfl (show (6 * bi) + nt < 12 by omega) ?_
              refine TT.top0 (z := ((n : Nat) : Int)) h304 ?_
              refine TT.steps (cd := cd25) 2 (c' := ((if decide (¬ ((n : Nat) : Int) = 8) = true then 94 else 80), [(2, 295), (0, (((6 * bi) + nt : Nat) : Int)), (0, 1), y], [], ρ)) rfl rfl ?_
              refine TT.br (p := ¬ ((n : Nat) : Int) = 8) (fun h107 => ?_) (fun h107 => absurd (show ¬ ((n : Nat) : Int) = 8 by omega) h107)
              refine TT.steps (cd := cd25) 2 (c' := (96, [(2, 295), (0, (((6 * bi) + nt : Nat) : Int)), (0, 1), y], [(1, 418330731890), (2, 295)], ρ)) rfl rfl ?_
              refine TT.call (cd := cd25) rfl rfl rfl (by decide) rfl (r_mustO X (ρ := ρ) hT hR (k0 := 7) (by decide) (by omega) hk1) (fun r108 σ108 hq => ?_)
              obtain ⟨hq1, hR108, hF108⟩ := hq
              replace hR108 : RTk f N K S V P (i + 1) σ108 := hR108
              rw [hq1]
              refine TT.steps (cd := cd25) 3 (c' := (100, [(2, 295), (0, (((6 * bi) + nt : Nat) : Int)), (0, 1), y], [(0, 99), (0, 1), (2, 295)], σ108)) rfl rfl ?_
              refine TT.call (cd := cd25) rfl rfl rfl (by decide) rfl (r_numO X 1 99 (ρ := σ108) hT hR108 (by omega) hk2 hr2) (fun r109 σ109 hq => ?_)
              obtain ⟨hq1, hR109, hF109⟩ := hq
              replace hR109 : RTk f N K S V P (i + 2) σ109 := hR109
              rw [hq1]
              refine TT.steps (cd := cd25) 3 (c' := (104, [(2, 295), (0, (((6 * bi) + nt : Nat) : Int)), (0, 1), (0, (V (i + 1)))], [(0, (σ109 295 8))], σ109)) rfl rfl ?_
              refine TT.top0 (z := 0) (((hF109 _ (8) (by omega)).trans (hF108 _ (8) (by omega))).trans hR.1) ?_
              refine TT.steps (cd := cd25) 4 (c' := (108, [(2, 295), (0, (((6 * bi) + nt : Nat) : Int)), (0, 1), (0, (V (i + 1)))], [(0, (V (i + 1))), (0, (((6 * bi) + nt : Nat) : Int)), (2, 295)], σ109)) rfl rfl ?_
              refine TT.call (cd := cd25) rfl rfl rfl (by decide) rfl (r_callR X (V (i + 1)) (ρ := σ109) hT hR109 (((hF109 _ (32) (by omega)).trans (hF108 _ (32) (by omega))).trans h32) hb2 (((hF109 297 (bi) (by omega)).trans (hF108 297 (bi) (by omega))).trans m0) n0 (((hF109 300 (bi) (by omega)).trans (hF108 300 (bi) (by omega))).trans m1) n1 (((hF109 307 (bi) (by omega)).trans (hF108 307 (bi) (by omega))).trans m2) n2 q0_3 ((rx_eq (τ := τ) (A := 9) (fun j hj => by rw [((hF109 298 (14 * bi + j) (by omega)).trans (hF108 298 (14 * bi + j) (by omega)))]; exact hN0 j hj) ((rl_name hR109 (rl_no17 hR109 (by omega)).2.1).1 hk3).2.2).trans e0_3) (kx := (6 * bi) + nt) (m := n) (by omega) (by omega) (((hF109 304 ((6 * bi) + nt) (by omega)).trans (hF108 304 ((6 * bi) + nt) (by omega))).trans h304) hk3 g3) (fun r110 σ110 hq => ?_)
              obtain ⟨hq1, hT110, hF110⟩ := hq
              rw [hq1]
              refine TT.steps (cd := cd25) 2 (c' := (111, [(2, 295), (0, (((6 * bi) + nt : Nat) : Int)), (0, 1), (0, (V (i + 1)))], [(0, (σ110 295 8))], σ110)) rfl rfl ?_
              refine TT.top0 (z := 3) hT110.1 ?_
              refine TT.steps (cd := cd25) 8 (c' := (123, [(2, 295), (0, (((6 * bi) + nt : Nat) : Int)), (0, 0), (0, (V (i + 1)))], [(0, (σ110 295 8))], σ110)) rfl rfl ?_
              refine TT.top0 (z := 3) hT110.1 ?_
              refine TT.steps (cd := cd25) 1 (c' := (133, [(2, 295), (0, (((6 * bi) + nt : Nat) : Int)), (0, 0), (0, (V (i + 1)))], [], σ110)) rfl rfl ?_
              exact TT.ret (cd := cd25) rfl rfl rfl rfl ⟨rfl, (CFR_f (CFR_3 (CFR_d (CFR_3 (CFR_3 (CFR_3 (CFR.refl _ _) _ _ (by decide)) _ _ (by decide)) _ _ (by decide)) _ _ _ (by omega) (by omega)) _ _ (by decide)) _ _), (RFR_B (RFR_A (RFR_A (RFR.refl _ _) hF108) hF109) hF110), Or.inr (Or.inr ⟨rfl, 3, (plc K S V (i + 2)), by decide, (cF_0 _ _ _).1, (cF_0 _ _ _).2, hT110⟩)⟩
            · rw [e0_3] at g3
              subst g3
              have hs3' : s3 < 14 := by omega
              by_cases hse3 : ∃ j, j < n ∧ cs j = s3
              · refine TT.call (cd := cd153) rfl rfl rfl (by decide) rfl ((u_stat_8 X hT (τ := (up2 (up2 (up2 (up2 τ 3 4 ((i + 1 : Nat) : Int)) 3 5 (V (i + 1))) 3 4 ((i + 2 : Nat) : Int)) (24 + nt) n (V (i + 1)))) (CT_w (CT_w (CT_w (CT_w hC _ _ _ (by omega)) _ _ _ (by omega)) _ _ _ (by omega)) _ _ _ (by omega)) ((up2_far (k := 24 + nt) (k' := 3) _ _ _ _ (by omega)).trans (up2_hit _ _ _ _)) (by omega) (((((up2_far (k := 24 + nt) (k' := 3) _ _ _ _ (by omega)).trans (up2_by _ _ (j := 4) (j' := 3) _ (by decide))).trans (up2_by _ _ (j := 5) (j' := 3) _ (by decide))).trans (up2_by _ _ (j := 4) (j' := 3) _ (by decide))).trans h33) (((((up2_far (k := 24 + nt) (k' := 8) _ _ _ _ (by omega)).trans (up2_far (k := 3) (k' := 8) _ _ _ _ (by decide))).trans (up2_far (k := 3) (k' := 8) _ _ _ _ (by decide))).trans (up2_far (k := 3) (k' := 8) _ _ _ _ (by decide))).trans d1) n0 (((((up2_far (k := 24 + nt) (k' := 8) _ _ _ _ (by omega)).trans (up2_far (k := 3) (k' := 8) _ _ _ _ (by decide))).trans (up2_far (k := 3) (k' := 8) _ _ _ _ (by decide))).trans (up2_far (k := 3) (k' := 8) _ _ _ _ (by decide))).trans d2) n1 (((((up2_far (k := 24 + nt) (k' := 30) _ _ _ _ (by omega)).trans (up2_far (k := 3) (k' := 30) _ _ _ _ (by decide))).trans (up2_far (k := 3) (k' := 30) _ _ _ _ (by decide))).trans (up2_far (k := 3) (k' := 30) _ _ _ _ (by decide))).trans d4) n2 ((s3 : Nat) : Int) (by simp only [up2_far _ _ _ _ (show 9 ≠ 24 + nt by omega), up2_far _ _ _ _ (show 9 ≠ 3 by decide)]; exact e0_3) (UB cs n) hk3).mono (fun _ _ h => h.1 (Or.inr ((ub_bit hs3').mpr hse3)))) (fun r7 σ7 hq => ?_)
                rw [hq.1, hq.2]
                refine TT.steps (cd := cd153) 2 (c' := (65, [(2, 3), (0, ((nt : Nat) : Int)), (0, (UB cs n)), (0, ((n : Nat) : Int))], [(0, 0)], (cFail (up2 (up2 (up2 (up2 (up2 τ 3 4 ((i + 1 : Nat) : Int)) 3 5 (V (i + 1))) 3 4 ((i + 2 : Nat) : Int)) (24 + nt) n (V (i + 1))) 3 5 ((s3 : Nat) : Int)) 3 ((S (i + 2) : Nat) : Int)))) rfl rfl ?_
                refine TT.ret (cd := cd153) rfl rfl rfl rfl (Or.inl ⟨rfl, ?_⟩)
                refine TT.steps (cd := cd25) 3 (c' := (77, [(2, 295), (0, (((6 * bi) + nt : Nat) : Int)), (0, 1), y], [(0, (((6 * bi) + nt : Nat) : Int)), (2, 304)], ρ)) rfl rfl ?_
                refine TT.aldN (cd := cd25) (304) ((6 * bi) + nt) rfl rfl rfl rfl (show (6 * bi) + nt < 12 by omega) ?_
                refine TT.top0 (z := ((n : Nat) : Int)) h304 ?_
                refine TT.steps (cd := cd25) 2 (c' := ((if decide (¬ ((n : Nat) : Int) = 8) = true then 94 else 80), [(2, 295), (0, (((6 * bi) + nt : Nat) : Int)), (0, 1), y], [], ρ)) rfl rfl ?_
                refine TT.br (p := ¬ ((n : Nat) : Int) = 8) (fun h108 => ?_) (fun h108 => absurd (show ¬ ((n : Nat) : Int) = 8 by omega) h108)
                refine TT.steps (cd := cd25) 2 (c' := (96, [(2, 295), (0, (((6 * bi) + nt : Nat) : Int)), (0, 1), y], [(1, 418330731890), (2, 295)], ρ)) rfl rfl ?_
                refine TT.call (cd := cd25) rfl rfl rfl (by decide) rfl (r_mustO X (ρ := ρ) hT hR (k0 := 7) (by decide) (by omega) hk1) (fun r109 σ109 hq => ?_)
                obtain ⟨hq1, hR109, hF109⟩ := hq
                replace hR109 : RTk f N K S V P (i + 1) σ109 := hR109
                rw [hq1]
                refine TT.steps (cd := cd25) 3 (c' := (100, [(2, 295), (0, (((6 * bi) + nt : Nat) : Int)), (0, 1), y], [(0, 99), (0, 1), (2, 295)], σ109)) rfl rfl ?_
                refine TT.call (cd := cd25) rfl rfl rfl (by decide) rfl (r_numO X 1 99 (ρ := σ109) hT hR109 (by omega) hk2 hr2) (fun r110 σ110 hq => ?_)
                obtain ⟨hq1, hR110, hF110⟩ := hq
                replace hR110 : RTk f N K S V P (i + 2) σ110 := hR110
                rw [hq1]
                refine TT.steps (cd := cd25) 3 (c' := (104, [(2, 295), (0, (((6 * bi) + nt : Nat) : Int)), (0, 1), (0, (V (i + 1)))], [(0, (σ110 295 8))], σ110)) rfl rfl ?_
                refine TT.top0 (z := 0) (((hF110 _ (8) (by omega)).trans (hF109 _ (8) (by omega))).trans hR.1) ?_
                refine TT.steps (cd := cd25) 4 (c' := (108, [(2, 295), (0, (((6 * bi) + nt : Nat) : Int)), (0, 1), (0, (V (i + 1)))], [(0, (V (i + 1))), (0, (((6 * bi) + nt : Nat) : Int)), (2, 295)], σ110)) rfl rfl ?_
                refine TT.call (cd := cd25) rfl rfl rfl (by decide) rfl (r_callE X (V (i + 1)) (ρ := σ110) hT hR110 (((hF110 _ (32) (by omega)).trans (hF109 _ (32) (by omega))).trans h32) hb2 (((hF110 297 (bi) (by omega)).trans (hF109 297 (bi) (by omega))).trans m0) n0 (((hF110 300 (bi) (by omega)).trans (hF109 300 (bi) (by omega))).trans m1) n1 (((hF110 307 (bi) (by omega)).trans (hF109 307 (bi) (by omega))).trans m2) n2 (kx := (6 * bi) + nt) (m := n) (by omega) (by omega) (((hF110 304 ((6 * bi) + nt) (by omega)).trans (hF109 304 ((6 * bi) + nt) (by omega))).trans h304) cs (fun j hj => (((hF110 305 (8 * ((6 * bi) + nt) + j) (by omega)).trans (hF109 305 (8 * ((6 * bi) + nt) + j) (by omega)))).trans (h5c j hj).2.1) s3 ((rx_eq (τ := τ) (A := 9) (fun j hj => by rw [((hF110 298 (14 * bi + j) (by omega)).trans (hF109 298 (14 * bi + j) (by omega)))]; exact hN0 j hj) ((rl_name hR110 (rl_no17 hR110 (by omega)).2.1).1 hk3).2.2).trans e0_3) hk3 hse3) (fun r111 σ111 hq => ?_)
                obtain ⟨hq1, hT111, hF111⟩ := hq
                rw [hq1]
                refine TT.steps (cd := cd25) 2 (c' := (111, [(2, 295), (0, (((6 * bi) + nt : Nat) : Int)), (0, 1), (0, (V (i + 1)))], [(0, (σ111 295 8))], σ111)) rfl rfl ?_
                refine TT.top0 (z := 3) hT111.1 ?_
                refine TT.steps (cd := cd25) 8 (c' := (123, [(2, 295), (0, (((6 * bi) + nt : Nat) : Int)), (0, 0), (0, (V (i + 1)))], [(0, (σ111 295 8))], σ111)) rfl rfl ?_
                refine TT.top0 (z := 3) hT111.1 ?_
                refine TT.steps (cd := cd25) 1 (c' := (133, [(2, 295), (0, (((6 * bi) + nt : Nat) : Int)), (0, 0), (0, (V (i + 1)))], [], σ111)) rfl rfl ?_
                exact TT.ret (cd := cd25) rfl rfl rfl rfl ⟨rfl, (CFR_f (CFR_3 (CFR_d (CFR_3 (CFR_3 (CFR_3 (CFR.refl _ _) _ _ (by decide)) _ _ (by decide)) _ _ (by decide)) _ _ _ (by omega) (by omega)) _ _ (by decide)) _ _), (RFR_B (RFR_A (RFR_A (RFR.refl _ _) hF109) hF110) hF111), Or.inr (Or.inr ⟨rfl, 3, ((S (i + 2) : Nat) : Int), by decide, (cF_0 _ _ _).1, (cF_0 _ _ _).2, hT111⟩)⟩
              · refine TT.call (cd := cd153) rfl rfl rfl (by decide) rfl ((u_stat_8 X hT (τ := (up2 (up2 (up2 (up2 τ 3 4 ((i + 1 : Nat) : Int)) 3 5 (V (i + 1))) 3 4 ((i + 2 : Nat) : Int)) (24 + nt) n (V (i + 1)))) (CT_w (CT_w (CT_w (CT_w hC _ _ _ (by omega)) _ _ _ (by omega)) _ _ _ (by omega)) _ _ _ (by omega)) ((up2_far (k := 24 + nt) (k' := 3) _ _ _ _ (by omega)).trans (up2_hit _ _ _ _)) (by omega) (((((up2_far (k := 24 + nt) (k' := 3) _ _ _ _ (by omega)).trans (up2_by _ _ (j := 4) (j' := 3) _ (by decide))).trans (up2_by _ _ (j := 5) (j' := 3) _ (by decide))).trans (up2_by _ _ (j := 4) (j' := 3) _ (by decide))).trans h33) (((((up2_far (k := 24 + nt) (k' := 8) _ _ _ _ (by omega)).trans (up2_far (k := 3) (k' := 8) _ _ _ _ (by decide))).trans (up2_far (k := 3) (k' := 8) _ _ _ _ (by decide))).trans (up2_far (k := 3) (k' := 8) _ _ _ _ (by decide))).trans d1) n0 (((((up2_far (k := 24 + nt) (k' := 8) _ _ _ _ (by omega)).trans (up2_far (k := 3) (k' := 8) _ _ _ _ (by decide))).trans (up2_far (k := 3) (k' := 8) _ _ _ _ (by decide))).trans (up2_far (k := 3) (k' := 8) _ _ _ _ (by decide))).trans d2) n1 (((((up2_far (k := 24 + nt) (k' := 30) _ _ _ _ (by omega)).trans (up2_far (k := 3) (k' := 30) _ _ _ _ (by decide))).trans (up2_far (k := 3) (k' := 30) _ _ _ _ (by decide))).trans (up2_far (k := 3) (k' := 30) _ _ _ _ (by decide))).trans d4) n2 ((s3 : Nat) : Int) (by simp only [up2_far _ _ _ _ (show 9 ≠ 24 + nt by omega), up2_far _ _ _ _ (show 9 ≠ 3 by decide)]; exact e0_3) (UB cs n) hk3).mono (fun _ _ h => h.2 (fun hh => by rcases hh with hh | hh; (exact absurd hh (by omega)); exact absurd hh (fun hb => hse3 ((ub_bit hs3').mp hb))))) (fun r8 σ8 hq => ?_)
                rw [hq.1, hq.2]
                refine TT.steps (cd := cd153) 3 (c' := (68, [(2, 3), (0, ((nt : Nat) : Int)), (0, (UB cs n)), (0, ((n : Nat) : Int))], [(2, ((up2 (up2 (up2 (up2 (up2 (up2 τ 3 4 ((i + 1 : Nat) : Int)) 3 5 (V (i + 1))) 3 4 ((i + 2 : Nat) : Int)) (24 + nt) n (V (i + 1))) 3 5 ((s3 : Nat) : Int)) 3 4 ((i + 3 : Nat) : Int)) 3 3))], (up2 (up2 (up2 (up2 (up2 (up2 τ 3 4 ((i + 1 : Nat) : Int)) 3 5 (V (i + 1))) 3 4 ((i + 2 : Nat) : Int)) (24 + nt) n (V (i + 1))) 3 5 ((s3 : Nat) : Int)) 3 4 ((i + 3 : Nat) : Int)))) rfl rfl ?_
                refine TT.top0 (z := 8) (((((((up2_by _ _ (j := 4) (j' := 3) _ (by decide)).trans (up2_by _ _ (j := 5) (j' := 3) _ (by decide))).trans (up2_far (k := 24 + nt) (k' := 3) _ _ _ _ (by omega))).trans (up2_by _ _ (j := 4) (j' := 3) _ (by decide))).trans (up2_by _ _ (j := 5) (j' := 3) _ (by decide))).trans (up2_by _ _ (j := 4) (j' := 3) _ (by decide))).trans h33) ?_
                refine TT.steps (cd := cd153) 2 (c' := (70, [(2, 3), (0, ((nt : Nat) : Int)), (0, (UB cs n)), (0, ((n : Nat) : Int))], [(0, ((nt : Nat) : Int)), (2, 16)], (up2 (up2 (up2 (up2 (up2 (up2 τ 3 4 ((i + 1 : Nat) : Int)) 3 5 (V (i + 1))) 3 4 ((i + 2 : Nat) : Int)) (24 + nt) n (V (i + 1))) 3 5 ((s3 : Nat) : Int)) 3 4 ((i + 3 : Nat) : Int)))) rfl rfl ?_
                refine TT.aaldN (cd := cd153) 16 (nt) (17 + nt) rfl rfl rfl (Or.inr rfl) (show nt < 6 by omega) (fxg_16 nt (by omega)) ?_
                refine TT.steps (cd := cd153) 3 (c' := (74, [(2, 3), (0, ((nt : Nat) : Int)), (0, (UB cs n)), (0, ((n : Nat) : Int))], [(0, ((up2 (up2 (up2 (up2 (up2 (up2 τ 3 4 ((i + 1 : Nat) : Int)) 3 5 (V (i + 1))) 3 4 ((i + 2 : Nat) : Int)) (24 + nt) n (V (i + 1))) 3 5 ((s3 : Nat) : Int)) 3 4 ((i + 3 : Nat) : Int)) 3 5)), (0, ((n : Nat) : Int)), (2, ((17 + nt : Nat) : Int))], (up2 (up2 (up2 (up2 (up2 (up2 τ 3 4 ((i + 1 : Nat) : Int)) 3 5 (V (i + 1))) 3 4 ((i + 2 : Nat) : Int)) (24 + nt) n (V (i + 1))) 3 5 ((s3 : Nat) : Int)) 3 4 ((i + 3 : Nat) : Int)))) rfl rfl ?_
                refine TT.top0 (z := ((s3 : Nat) : Int)) ((up2_by _ _ (j := 4) (j' := 5) _ (by decide)).trans (up2_hit _ _ _ _)) ?_
                refine TT.astN (cd := cd153) (17 + nt) (n) rfl rfl rfl (kdg_16 nt (by omega)).1 (show n < ln (17 + nt) by rw [(kdg_16 nt (by omega)).2]; omega) ?_
                refine TT.steps (cd := cd153) 4 (c' := (79, [(2, 3), (0, ((nt : Nat) : Int)), (0, (UB cs n)), (0, ((n : Nat) : Int))], [(0, ((up2 (up2 (up2 (up2 (up2 (up2 (up2 τ 3 4 ((i + 1 : Nat) : Int)) 3 5 (V (i + 1))) 3 4 ((i + 2 : Nat) : Int)) (24 + nt) n (V (i + 1))) 3 5 ((s3 : Nat) : Int)) 3 4 ((i + 3 : Nat) : Int)) (17 + nt) n ((s3 : Nat) : Int)) 3 5)), (0, 1), (0, (UB cs n))], (up2 (up2 (up2 (up2 (up2 (up2 (up2 τ 3 4 ((i + 1 : Nat) : Int)) 3 5 (V (i + 1))) 3 4 ((i + 2 : Nat) : Int)) (24 + nt) n (V (i + 1))) 3 5 ((s3 : Nat) : Int)) 3 4 ((i + 3 : Nat) : Int)) (17 + nt) n ((s3 : Nat) : Int)))) rfl rfl ?_
                refine TT.top0 (z := ((s3 : Nat) : Int)) (((up2_far (k := 17 + nt) (k' := 3) _ _ _ _ (by omega)).trans (up2_by _ _ (j := 4) (j' := 5) _ (by decide))).trans (up2_hit _ _ _ _)) ?_
                refine TT.steps (cd := cd153) 2 (c' := (81, [(2, 3), (0, ((nt : Nat) : Int)), (0, (UB cs n)), (0, ((n : Nat) : Int))], [(0, (aOr (UB cs n) (aShl 1 ((s3 : Nat) : Int))))], (up2 (up2 (up2 (up2 (up2 (up2 (up2 τ 3 4 ((i + 1 : Nat) : Int)) 3 5 (V (i + 1))) 3 4 ((i + 2 : Nat) : Int)) (24 + nt) n (V (i + 1))) 3 5 ((s3 : Nat) : Int)) 3 4 ((i + 3 : Nat) : Int)) (17 + nt) n ((s3 : Nat) : Int)))) rfl rfl ?_
                refine TT.top0 (z := (aOr (UB cs n) (aShl 1 ((s3 : Nat) : Int)))) rfl ?_
                refine TT.steps (cd := cd153) 1 (c' := (82, [(2, 3), (0, ((nt : Nat) : Int)), (0, (aOr (UB cs n) (aShl 1 ((s3 : Nat) : Int)))), (0, ((n : Nat) : Int))], [], (up2 (up2 (up2 (up2 (up2 (up2 (up2 τ 3 4 ((i + 1 : Nat) : Int)) 3 5 (V (i + 1))) 3 4 ((i + 2 : Nat) : Int)) (24 + nt) n (V (i + 1))) 3 5 ((s3 : Nat) : Int)) 3 4 ((i + 3 : Nat) : Int)) (17 + nt) n ((s3 : Nat) : Int)))) rfl rfl ?_
                refine TT.inc (cd := cd153) ((n + 1 : Nat) : Int) rfl rfl rfl rfl (fun h => absurd h.2 (show ¬ (0 = 1) by decide)) (aAdd_n (a := n) (b := 1) (by omega)) (ls' := [(2, 3), (0, ((nt : Nat) : Int)), (0, (aOr (UB cs n) (aShl 1 ((s3 : Nat) : Int)))), (0, ((n + 1 : Nat) : Int))]) rfl ?_
                refine TT.steps (cd := cd153) 4 (c' := ((if decide (((n + 1 : Nat) : Int) < 2) = true then 33 else 29), [(2, 3), (0, ((nt : Nat) : Int)), (0, (aOr (UB cs n) (aShl 1 ((s3 : Nat) : Int)))), (0, ((n + 1 : Nat) : Int))], [], (up2 (up2 (up2 (up2 (up2 (up2 (up2 τ 3 4 ((i + 1 : Nat) : Int)) 3 5 (V (i + 1))) 3 4 ((i + 2 : Nat) : Int)) (24 + nt) n (V (i + 1))) 3 5 ((s3 : Nat) : Int)) 3 4 ((i + 3 : Nat) : Int)) (17 + nt) n ((s3 : Nat) : Int)))) rfl rfl ?_
                refine TT.br (p := ((n + 1 : Nat) : Int) < 2) (fun h9 => absurd h9 (show ¬ (((n + 1 : Nat) : Int) < 2) by omega)) (fun h9 => ?_)
                refine TT.steps (cd := cd153) 1 (c' := (30, [(2, 3), (0, ((nt : Nat) : Int)), (0, (aOr (UB cs n) (aShl 1 ((s3 : Nat) : Int)))), (0, ((n + 1 : Nat) : Int))], [(2, 3)], (up2 (up2 (up2 (up2 (up2 (up2 (up2 τ 3 4 ((i + 1 : Nat) : Int)) 3 5 (V (i + 1))) 3 4 ((i + 2 : Nat) : Int)) (24 + nt) n (V (i + 1))) 3 5 ((s3 : Nat) : Int)) 3 4 ((i + 3 : Nat) : Int)) (17 + nt) n ((s3 : Nat) : Int)))) rfl rfl ?_
                refine TT.call (cd := cd153) rfl rfl rfl (by decide) rfl (u_kind X hT (τ := (up2 (up2 (up2 (up2 (up2 (up2 (up2 τ 3 4 ((i + 1 : Nat) : Int)) 3 5 (V (i + 1))) 3 4 ((i + 2 : Nat) : Int)) (24 + nt) n (V (i + 1))) 3 5 ((s3 : Nat) : Int)) 3 4 ((i + 3 : Nat) : Int)) (17 + nt) n ((s3 : Nat) : Int))) (CT_w (CT_w (CT_w (CT_w (CT_w (CT_w (CT_w hC _ _ _ (by omega)) _ _ _ (by omega)) _ _ _ (by omega)) _ _ _ (by omega)) _ _ _ (by omega)) _ _ _ (by omega)) _ _ _ (by omega)) ((up2_far (k := 17 + nt) (k' := 3) _ _ _ _ (by omega)).trans (up2_hit _ _ _ _)) (by omega)) (fun r10 σ10 hq => ?_)
                rw [hq.1, hq.2]
                refine TT.steps (cd := cd153) 2 (c' := ((if decide (¬ (K (i + 3)) = 7) = true then 84 else 33), [(2, 3), (0, ((nt : Nat) : Int)), (0, (aOr (UB cs n) (aShl 1 ((s3 : Nat) : Int)))), (0, ((n + 1 : Nat) : Int))], [], (up2 (up2 (up2 (up2 (up2 (up2 (up2 τ 3 4 ((i + 1 : Nat) : Int)) 3 5 (V (i + 1))) 3 4 ((i + 2 : Nat) : Int)) (24 + nt) n (V (i + 1))) 3 5 ((s3 : Nat) : Int)) 3 4 ((i + 3 : Nat) : Int)) (17 + nt) n ((s3 : Nat) : Int)))) rfl rfl ?_
                refine TT.br (p := ¬ (K (i + 3)) = 7) (fun h11 => ?_) (fun h11 => ?_)
                · refine TT.steps (cd := cd153) 2 (c' := (86, [(2, 3), (0, ((nt : Nat) : Int)), (0, (aOr (UB cs n) (aShl 1 ((s3 : Nat) : Int)))), (0, ((n + 1 : Nat) : Int))], [(2, ((up2 (up2 (up2 (up2 (up2 (up2 (up2 τ 3 4 ((i + 1 : Nat) : Int)) 3 5 (V (i + 1))) 3 4 ((i + 2 : Nat) : Int)) (24 + nt) n (V (i + 1))) 3 5 ((s3 : Nat) : Int)) 3 4 ((i + 3 : Nat) : Int)) (17 + nt) n ((s3 : Nat) : Int)) 3 3))], (up2 (up2 (up2 (up2 (up2 (up2 (up2 τ 3 4 ((i + 1 : Nat) : Int)) 3 5 (V (i + 1))) 3 4 ((i + 2 : Nat) : Int)) (24 + nt) n (V (i + 1))) 3 5 ((s3 : Nat) : Int)) 3 4 ((i + 3 : Nat) : Int)) (17 + nt) n ((s3 : Nat) : Int)))) rfl rfl ?_
                  refine TT.top0 (z := 8) ((((((((up2_far (k := 17 + nt) (k' := 3) _ _ _ _ (by omega)).trans (up2_by _ _ (j := 4) (j' := 3) _ (by decide))).trans (up2_by _ _ (j := 5) (j' := 3) _ (by decide))).trans (up2_far (k := 24 + nt) (k' := 3) _ _ _ _ (by omega))).trans (up2_by _ _ (j := 4) (j' := 3) _ (by decide))).trans (up2_by _ _ (j := 5) (j' := 3) _ (by decide))).trans (up2_by _ _ (j := 4) (j' := 3) _ (by decide))).trans h33) ?_
                  refine TT.steps (cd := cd153) 3 (c' := (89, [(2, 3), (0, ((nt : Nat) : Int)), (0, (aOr (UB cs n) (aShl 1 ((s3 : Nat) : Int)))), (0, ((n + 1 : Nat) : Int))], [(0, ((n + 1 : Nat) : Int)), (0, ((nt : Nat) : Int)), (2, 15)], (up2 (up2 (up2 (up2 (up2 (up2 (up2 τ 3 4 ((i + 1 : Nat) : Int)) 3 5 (V (i + 1))) 3 4 ((i + 2 : Nat) : Int)) (24 + nt) n (V (i + 1))) 3 5 ((s3 : Nat) : Int)) 3 4 ((i + 3 : Nat) : Int)) (17 + nt) n ((s3 : Nat) : Int)))) rfl rfl ?_
                  refine TT.astN (cd := cd153) (15) (nt) rfl rfl rfl rfl (show nt < 6 by omega) ?_
                  refine TT.steps (cd := cd153) 1 (c' := (91, [(2, 3), (0, ((nt : Nat) : Int)), (0, (aOr (UB cs n) (aShl 1 ((s3 : Nat) : Int)))), (0, ((n + 1 : Nat) : Int))], [(0, 1)], (up2 (up2 (up2 (up2 (up2 (up2 (up2 (up2 τ 3 4 ((i + 1 : Nat) : Int)) 3 5 (V (i + 1))) 3 4 ((i + 2 : Nat) : Int)) (24 + nt) n (V (i + 1))) 3 5 ((s3 : Nat) : Int)) 3 4 ((i + 3 : Nat) : Int)) (17 + nt) n ((s3 : Nat) : Int)) 15 nt ((n + 1 : Nat) : Int)))) rfl rfl ?_
                  refine TT.ret (cd := cd153) rfl rfl rfl rfl (Or.inr ⟨rfl, ?_⟩)
                  refine TT.steps (cd := cd25) 3 (c' := (77, [(2, 295), (0, (((6 * bi) + nt : Nat) : Int)), (0, 1), y], [(0, (((6 * bi) + nt : Nat) : Int)), (2, 304)], ρ)) rfl rfl ?_
                  refine TT.aldN (cd := cd25) (304) ((6 * bi) + nt) rfl rfl rfl rfl (show (6 * bi) + nt < 12 by omega) ?_
                  refine TT.top0 (z := ((n : Nat) : Int)) h304 ?_
                  refine TT.steps (cd := cd25) 2 (c' := ((if decide (¬ ((n : Nat) : Int) = 8) = true then 94 else 80), [(2, 295), (0, (((6 * bi) + nt : Nat) : Int)), (0, 1), y], [], ρ)) rfl rfl ?_
                  refine TT.br (p := ¬ ((n : Nat) : Int) = 8) (fun h112 => ?_) (fun h112 => absurd (show ¬ ((n : Nat) : Int) = 8 by omega) h112)
                  refine TT.steps (cd := cd25) 2 (c' := (96, [(2, 295), (0, (((6 * bi) + nt : Nat) : Int)), (0, 1), y], [(1, 418330731890), (2, 295)], ρ)) rfl rfl ?_
                  refine TT.call (cd := cd25) rfl rfl rfl (by decide) rfl (r_mustO X (ρ := ρ) hT hR (k0 := 7) (by decide) (by omega) hk1) (fun r113 σ113 hq => ?_)
                  obtain ⟨hq1, hR113, hF113⟩ := hq
                  replace hR113 : RTk f N K S V P (i + 1) σ113 := hR113
                  rw [hq1]
                  refine TT.steps (cd := cd25) 3 (c' := (100, [(2, 295), (0, (((6 * bi) + nt : Nat) : Int)), (0, 1), y], [(0, 99), (0, 1), (2, 295)], σ113)) rfl rfl ?_
                  refine TT.call (cd := cd25) rfl rfl rfl (by decide) rfl (r_numO X 1 99 (ρ := σ113) hT hR113 (by omega) hk2 hr2) (fun r114 σ114 hq => ?_)
                  obtain ⟨hq1, hR114, hF114⟩ := hq
                  replace hR114 : RTk f N K S V P (i + 2) σ114 := hR114
                  rw [hq1]
                  refine TT.steps (cd := cd25) 3 (c' := (104, [(2, 295), (0, (((6 * bi) + nt : Nat) : Int)), (0, 1), (0, (V (i + 1)))], [(0, (σ114 295 8))], σ114)) rfl rfl ?_
                  refine TT.top0 (z := 0) (((hF114 _ (8) (by omega)).trans (hF113 _ (8) (by omega))).trans hR.1) ?_
                  refine TT.steps (cd := cd25) 4 (c' := (108, [(2, 295), (0, (((6 * bi) + nt : Nat) : Int)), (0, 1), (0, (V (i + 1)))], [(0, (V (i + 1))), (0, (((6 * bi) + nt : Nat) : Int)), (2, 295)], σ114)) rfl rfl ?_
                  refine TT.call (cd := cd25) rfl rfl rfl (by decide) rfl (r_callO X (V (i + 1)) (ρ := σ114) hT hR114 (((hF114 _ (32) (by omega)).trans (hF113 _ (32) (by omega))).trans h32) hb2 (((hF114 297 (bi) (by omega)).trans (hF113 297 (bi) (by omega))).trans m0) n0 (((hF114 300 (bi) (by omega)).trans (hF113 300 (bi) (by omega))).trans m1) n1 (((hF114 307 (bi) (by omega)).trans (hF113 307 (bi) (by omega))).trans m2) n2 (kx := (6 * bi) + nt) (m := n) (by omega) (by omega) (((hF114 304 ((6 * bi) + nt) (by omega)).trans (hF113 304 ((6 * bi) + nt) (by omega))).trans h304) cs (fun j hj => (((hF114 305 (8 * ((6 * bi) + nt) + j) (by omega)).trans (hF113 305 (8 * ((6 * bi) + nt) + j) (by omega)))).trans (h5c j hj).2.1) s3 ((rx_eq (τ := τ) (A := 9) (fun j hj => by rw [((hF114 298 (14 * bi + j) (by omega)).trans (hF113 298 (14 * bi + j) (by omega)))]; exact hN0 j hj) ((rl_name hR114 (rl_no17 hR114 (by omega)).2.1).1 hk3).2.2).trans e0_3) (by omega) hk3 (fun j hj q_ => hse3 ⟨j, hj, q_⟩)) (fun r115 σ115 hq => ?_)
                  obtain ⟨hq1, ρm115, hR115, hF115, hq2⟩ := hq
                  replace hR115 : RTk f N K S V P (i + 3) ρm115 := hR115
                  rw [hq1, hq2]
                  refine TT.sg (σ' := (up2 (up2 (up2 ρm115 305 (8 * ((6 * bi) + nt) + n) ((s3 : Nat) : Int)) 306 (8 * ((6 * bi) + nt) + n) (V (i + 1))) 304 ((6 * bi) + nt) ((n + 1 : Nat) : Int))) rfl ?_
                  refine TT.steps (cd := cd25) 2 (c' := (111, [(2, 295), (0, (((6 * bi) + nt : Nat) : Int)), (0, 1), (0, (V (i + 1)))], [(0, ((up2 (up2 (up2 ρm115 305 (8 * ((6 * bi) + nt) + n) ((s3 : Nat) : Int)) 306 (8 * ((6 * bi) + nt) + n) (V (i + 1))) 304 ((6 * bi) + nt) ((n + 1 : Nat) : Int)) 295 8))], (up2 (up2 (up2 ρm115 305 (8 * ((6 * bi) + nt) + n) ((s3 : Nat) : Int)) 306 (8 * ((6 * bi) + nt) + n) (V (i + 1))) 304 ((6 * bi) + nt) ((n + 1 : Nat) : Int)))) rfl rfl ?_
                  refine TT.top0 (z := 0) (((((((up2_far (k := 304) (k' := 295) _ _ _ _ (by decide)).trans (up2_far (k := 306) (k' := 295) _ _ _ _ (by decide))).trans (up2_far (k := 305) (k' := 295) _ _ _ _ (by decide))).trans (hF115 _ (8) (by omega))).trans (hF114 _ (8) (by omega))).trans (hF113 _ (8) (by omega))).trans hR.1) ?_
                  refine TT.steps (cd := cd25) 3 (c' := (114, [(2, 295), (0, (((6 * bi) + nt : Nat) : Int)), (0, 1), (0, (V (i + 1)))], [(0, ((up2 (up2 (up2 ρm115 305 (8 * ((6 * bi) + nt) + n) ((s3 : Nat) : Int)) 306 (8 * ((6 * bi) + nt) + n) (V (i + 1))) 304 ((6 * bi) + nt) ((n + 1 : Nat) : Int)) 295 3))], (up2 (up2 (up2 ρm115 305 (8 * ((6 * bi) + nt) + n) ((s3 : Nat) : Int)) 306 (8 * ((6 * bi) + nt) + n) (V (i + 1))) 304 ((6 * bi) + nt) ((n + 1 : Nat) : Int)))) rfl rfl ?_
                  refine TT.top0 (z := (ρm115 295 3)) (((up2_far (k := 304) (k' := 295) _ _ _ _ (by decide)).trans (up2_far (k := 306) (k' := 295) _ _ _ _ (by decide))).trans (up2_far (k := 305) (k' := 295) _ _ _ _ (by decide))) ?_
                  refine TT.steps (cd := cd25) 2 (c' := ((if decide (¬ (ρm115 295 3) = 1) = true then 118 else 116), [(2, 295), (0, (((6 * bi) + nt : Nat) : Int)), (0, 1), (0, (V (i + 1)))], [], (up2 (up2 (up2 ρm115 305 (8 * ((6 * bi) + nt) + n) ((s3 : Nat) : Int)) 306 (8 * ((6 * bi) + nt) + n) (V (i + 1))) 304 ((6 * bi) + nt) ((n + 1 : Nat) : Int)))) rfl rfl ?_
                  refine TT.br (p := ¬ (ρm115 295 3) = 1) (fun h116 => ?_) (fun h116 => ?_)
                  · refine TT.steps (cd := cd25) 7 (c' := (123, [(2, 295), (0, (((6 * bi) + nt : Nat) : Int)), (0, 0), (0, (V (i + 1)))], [(0, ((up2 (up2 (up2 ρm115 305 (8 * ((6 * bi) + nt) + n) ((s3 : Nat) : Int)) 306 (8 * ((6 * bi) + nt) + n) (V (i + 1))) 304 ((6 * bi) + nt) ((n + 1 : Nat) : Int)) 295 8))], (up2 (up2 (up2 ρm115 305 (8 * ((6 * bi) + nt) + n) ((s3 : Nat) : Int)) 306 (8 * ((6 * bi) + nt) + n) (V (i + 1))) 304 ((6 * bi) + nt) ((n + 1 : Nat) : Int)))) rfl rfl ?_
                    refine TT.top0 (z := 0) (((((((up2_far (k := 304) (k' := 295) _ _ _ _ (by decide)).trans (up2_far (k := 306) (k' := 295) _ _ _ _ (by decide))).trans (up2_far (k := 305) (k' := 295) _ _ _ _ (by decide))).trans (hF115 _ (8) (by omega))).trans (hF114 _ (8) (by omega))).trans (hF113 _ (8) (by omega))).trans hR.1) ?_
                    refine TT.steps (cd := cd25) 5 (c' := (128, [(2, 295), (0, (((6 * bi) + nt : Nat) : Int)), (0, 0), (0, (V (i + 1)))], [(0, ((up2 (up2 (up2 ρm115 305 (8 * ((6 * bi) + nt) + n) ((s3 : Nat) : Int)) 306 (8 * ((6 * bi) + nt) + n) (V (i + 1))) 304 ((6 * bi) + nt) ((n + 1 : Nat) : Int)) 295 32)), (2, 300)], (up2 (up2 (up2 ρm115 305 (8 * ((6 * bi) + nt) + n) ((s3 : Nat) : Int)) 306 (8 * ((6 * bi) + nt) + n) (V (i + 1))) 304 ((6 * bi) + nt) ((n + 1 : Nat) : Int)))) rfl rfl ?_
                    refine TT.top0 (z := ((bi : Nat) : Int)) (((((((up2_far (k := 304) (k' := 295) _ _ _ _ (by decide)).trans (up2_far (k := 306) (k' := 295) _ _ _ _ (by decide))).trans (up2_far (k := 305) (k' := 295) _ _ _ _ (by decide))).trans (hF115 _ (32) (by omega))).trans (hF114 _ (32) (by omega))).trans (hF113 _ (32) (by omega))).trans h32) ?_
                    refine TT.steps (cd := cd25) 1 (c' := (129, [(2, 295), (0, (((6 * bi) + nt : Nat) : Int)), (0, 0), (0, (V (i + 1)))], [(0, ((bi : Nat) : Int)), (2, 300), (0, ((bi : Nat) : Int)), (2, 300)], (up2 (up2 (up2 ρm115 305 (8 * ((6 * bi) + nt) + n) ((s3 : Nat) : Int)) 306 (8 * ((6 * bi) + nt) + n) (V (i + 1))) 304 ((6 * bi) + nt) ((n + 1 : Nat) : Int)))) rfl rfl ?_
                    refine TT.aldN (cd := cd25) (300) (bi) rfl rfl rfl rfl (show bi < 2 by omega) ?_
                    refine TT.top0 (z := ((nt : Nat) : Int)) (((((((up2_far (k := 304) (k' := 300) _ _ _ _ (by decide)).trans (up2_far (k := 306) (k' := 300) _ _ _ _ (by decide))).trans (up2_far (k := 305) (k' := 300) _ _ _ _ (by decide))).trans (hF115 300 (bi) (by omega))).trans (hF114 300 (bi) (by omega))).trans (hF113 300 (bi) (by omega))).trans m1) ?_
                    refine TT.steps (cd := cd25) 2 (c' := (132, [(2, 295), (0, (((6 * bi) + nt : Nat) : Int)), (0, 0), (0, (V (i + 1)))], [(0, (aAdd ((nt : Nat) : Int) 1)), (0, ((bi : Nat) : Int)), (2, 300)], (up2 (up2 (up2 ρm115 305 (8 * ((6 * bi) + nt) + n) ((s3 : Nat) : Int)) 306 (8 * ((6 * bi) + nt) + n) (V (i + 1))) 304 ((6 * bi) + nt) ((n + 1 : Nat) : Int)))) rfl rfl ?_
                    refine TT.top0 (z := ((nt + 1 : Nat) : Int)) (aAdd_n (a := nt) (b := 1) (by omega)) ?_
                    refine TT.astN (cd := cd25) (300) (bi) rfl rfl rfl rfl (show bi < 2 by omega) ?_
                    refine TT.ret (cd := cd25) rfl rfl rfl rfl ⟨rfl, (CFR_d (CFR_d (CFR_3 (CFR_3 (CFR_d (CFR_3 (CFR_3 (CFR_3 (CFR.refl _ _) _ _ (by decide)) _ _ (by decide)) _ _ (by decide)) _ _ _ (by omega) (by omega)) _ _ (by decide)) _ _ (by decide)) _ _ _ (by omega) (by omega)) _ _ _ (by omega) (by omega)), (RFR_w (RFR_w (RFR_w (RFR_w (RFR_A (RFR_A (RFR_A (RFR.refl _ _) hF113) hF114) hF115) _ _ _ (ib48 bi 305 (by decide) (by decide) (by omega) (by omega))) _ _ _ (ib48 bi 306 (by decide) (by decide) (by omega) (by omega))) _ _ _ (ib6 bi 304 (by decide) (by decide) (by omega))) _ _ _ (ib300 bi)), Or.inl ⟨rfl, i + 3, np, nt + 1, ns, (fun t => if t = nt then n + 1 else L t), (fun t k => if t = nt then csU cs n s3 k else C t k), hT, ⟨(CT_w (CT_w (CT_w (CT_w (CT_w (CT_w (CT_w (CT_w (CT_w hC _ _ _ (by omega)) _ _ _ (by omega)) _ _ _ (by omega)) _ _ _ (by omega)) _ _ _ (by omega)) _ _ _ (by omega)) _ _ _ (by omega)) _ _ _ (by omega)) _ _ _ (by omega)), ((((((((((up2_far (k := 8) (k' := 3) _ _ _ _ (by decide)).trans (up2_far (k := 15) (k' := 3) _ _ _ _ (by decide))).trans (up2_far (k := 17 + nt) (k' := 3) _ _ _ _ (by omega))).trans (up2_by _ _ (j := 4) (j' := 0) _ (by decide))).trans (up2_by _ _ (j := 5) (j' := 0) _ (by decide))).trans (up2_far (k := 24 + nt) (k' := 3) _ _ _ _ (by omega))).trans (up2_by _ _ (j := 4) (j' := 0) _ (by decide))).trans (up2_by _ _ (j := 5) (j' := 0) _ (by decide))).trans (up2_by _ _ (j := 4) (j' := 0) _ (by decide))).trans hf0), ((((((((((up2_far (k := 8) (k' := 3) _ _ _ _ (by decide)).trans (up2_far (k := 15) (k' := 3) _ _ _ _ (by decide))).trans (up2_far (k := 17 + nt) (k' := 3) _ _ _ _ (by omega))).trans (up2_by _ _ (j := 4) (j' := 1) _ (by decide))).trans (up2_by _ _ (j := 5) (j' := 1) _ (by decide))).trans (up2_far (k := 24 + nt) (k' := 3) _ _ _ _ (by omega))).trans (up2_by _ _ (j := 4) (j' := 1) _ (by decide))).trans (up2_by _ _ (j := 5) (j' := 1) _ (by decide))).trans (up2_by _ _ (j := 4) (j' := 1) _ (by decide))).trans hf1)⟩, ((((up2_far (k := 8) (k' := 3) _ _ _ _ (by decide)).trans (up2_far (k := 15) (k' := 3) _ _ _ _ (by decide))).trans (up2_far (k := 17 + nt) (k' := 3) _ _ _ _ (by omega))).trans (up2_hit _ _ _ _)), by omega, ((((((((((up2_far (k := 8) (k' := 3) _ _ _ _ (by decide)).trans (up2_far (k := 15) (k' := 3) _ _ _ _ (by decide))).trans (up2_far (k := 17 + nt) (k' := 3) _ _ _ _ (by omega))).trans (up2_by _ _ (j := 4) (j' := 3) _ (by decide))).trans (up2_by _ _ (j := 5) (j' := 3) _ (by decide))).trans (up2_far (k := 24 + nt) (k' := 3) _ _ _ _ (by omega))).trans (up2_by _ _ (j := 4) (j' := 3) _ (by decide))).trans (up2_by _ _ (j := 5) (j' := 3) _ (by decide))).trans (up2_by _ _ (j := 4) (j' := 3) _ (by decide))).trans h33), (RTk_w (RTk_w (RTk_w (RTk_w hR115 _ _ _ (by decide)) _ _ _ (by decide)) _ _ _ (by decide)) _ _ _ (by decide)), ⟨((((((((up2_far (k := 300) (k' := 295) _ _ _ _ (by decide)).trans (up2_far (k := 304) (k' := 295) _ _ _ _ (by decide))).trans (up2_far (k := 306) (k' := 295) _ _ _ _ (by decide))).trans (up2_far (k := 305) (k' := 295) _ _ _ _ (by decide))).trans (hF115 _ (32) (by omega))).trans (hF114 _ (32) (by omega))).trans (hF113 _ (32) (by omega))).trans h32), ((((((((up2_far (k := 300) (k' := 295) _ _ _ _ (by decide)).trans (up2_far (k := 304) (k' := 295) _ _ _ _ (by decide))).trans (up2_far (k := 306) (k' := 295) _ _ _ _ (by decide))).trans (up2_far (k := 305) (k' := 295) _ _ _ _ (by decide))).trans (hF115 _ (9) (by omega))).trans (hF114 _ (9) (by omega))).trans (hF113 _ (9) (by omega))).trans hf9)⟩, hb2, DRl_tr (L := L) (C := C) (τ := (up2 (up2 (up2 (up2 (up2 (up2 (up2 τ 3 4 ((i + 1 : Nat) : Int)) 3 5 (V (i + 1))) 3 4 ((i + 2 : Nat) : Int)) (24 + nt) n (V (i + 1))) 3 5 ((s3 : Nat) : Int)) 3 4 ((i + 3 : Nat) : Int)) (17 + nt) n ((s3 : Nat) : Int))) (ρ := (up2 (up2 (up2 ρm115 305 (8 * ((6 * bi) + nt) + n) ((s3 : Nat) : Int)) 306 (8 * ((6 * bi) + nt) + n) (V (i + 1))) 304 ((6 * bi) + nt) ((n + 1 : Nat) : Int))) (n := n + 1) (cs := csU cs n s3) ?_ ?_ hnt (by omega) (by omega) ?_ ?_ ?_ ?_ ?_⟩⟩
                    · exact DRl_fr hD hnt hb2 (fun K j h1 h2 h3 h4 => by rw [up2_nq _ (by omega), up2_nq _ (by omega), up2_nq _ (by omega), up2_nq _ (by omega), up2_nq _ (by omega), up2_nq _ (by omega), up2_nq _ (by omega)]) (fun K j h1 h2 h3 => by rw [up2_nq _ (by omega), up2_nq _ (by omega), up2_nq _ (by omega), hF115 K j (by omega), hF114 K j (by omega), hF113 K j (by omega)])
                    · exact TRN_s hTn hnt hn8l s3 (by omega) (V (i + 1)) (by omega) hse3 (fun K j h1 h2 h3 => by rw [up2_nq _ (by omega), up2_nq _ (by omega), up2_nq _ (by omega), up2_nq _ (by omega), up2_nq _ (by omega), up2_nq _ (by omega), up2_nq _ (by omega)]) (fun K j h1 h2 h3 => by rw [up2_nq _ (by omega), up2_nq _ (by omega), up2_nq _ (by omega), hF115 K j (by omega), hF114 K j (by omega), hF113 K j (by omega)]) (up2_hit _ _ _ _) ((((up2_far (k := 17 + nt) (k' := 24 + nt) _ _ _ _ (by omega)).trans (up2_far (k := 3) (k' := 24 + nt) _ _ _ _ (by omega))).trans (up2_far (k := 3) (k' := 24 + nt) _ _ _ _ (by omega))).trans (up2_hit _ _ _ _)) (up2_hit _ _ _ _) (((up2_far (k := 304) (k' := 305) _ _ _ _ (by decide)).trans (up2_far (k := 306) (k' := 305) _ _ _ _ (by decide))).trans (up2_hit _ _ _ _)) ((up2_far (k := 304) (k' := 306) _ _ _ _ (by decide)).trans (up2_hit _ _ _ _))
                    · intro K j h1 h2 h3; rw [up2_nq _ (by omega), up2_nq _ (by omega)]
                    · intro K j h1 h2; rw [up2_nq _ (by omega)]
                    · rw [up2_hit]
                    · exact (up2_nq _ (by omega)).trans (up2_hit _ _ _ _)
                    · rw [up2_hit]
                  · refine TT.steps (cd := cd25) 9 (c' := (77, [(2, 295), (0, (((6 * bi) + nt : Nat) : Int)), (0, 1), (0, (V (i + 1)))], [(0, (((6 * bi) + nt : Nat) : Int)), (2, 304)], (up2 (up2 (up2 ρm115 305 (8 * ((6 * bi) + nt) + n) ((s3 : Nat) : Int)) 306 (8 * ((6 * bi) + nt) + n) (V (i + 1))) 304 ((6 * bi) + nt) ((n + 1 : Nat) : Int)))) rfl rfl ?_
                    refine TT.aldN (cd := cd25) (304) ((6 * bi) + nt) rfl rfl rfl rfl (show (6 * bi) + nt < 12 by omega) ?_
                    refine TT.top0 (z := ((n + 1 : Nat) : Int)) (up2_hit _ _ _ _) ?_
                    refine TT.steps (cd := cd25) 2 (c' := ((if decide (¬ ((n + 1 : Nat) : Int) = 8) = true then 94 else 80), [(2, 295), (0, (((6 * bi) + nt : Nat) : Int)), (0, 1), (0, (V (i + 1)))], [], (up2 (up2 (up2 ρm115 305 (8 * ((6 * bi) + nt) + n) ((s3 : Nat) : Int)) 306 (8 * ((6 * bi) + nt) + n) (V (i + 1))) 304 ((6 * bi) + nt) ((n + 1 : Nat) : Int)))) rfl rfl ?_
                    refine TT.br (p := ¬ ((n + 1 : Nat) : Int) = 8) (fun h117 => ?_) (fun h117 => ?_)
                    · refine TT.steps (cd := cd25) 2 (c' := (96, [(2, 295), (0, (((6 * bi) + nt : Nat) : Int)), (0, 1), (0, (V (i + 1)))], [(1, 418330731890), (2, 295)], (up2 (up2 (up2 ρm115 305 (8 * ((6 * bi) + nt) + n) ((s3 : Nat) : Int)) 306 (8 * ((6 * bi) + nt) + n) (V (i + 1))) 304 ((6 * bi) + nt) ((n + 1 : Nat) : Int)))) rfl rfl ?_
                      refine TT.call (cd := cd25) rfl rfl rfl (by decide) rfl (r_mustN X (ρ := (up2 (up2 (up2 ρm115 305 (8 * ((6 * bi) + nt) + n) ((s3 : Nat) : Int)) 306 (8 * ((6 * bi) + nt) + n) (V (i + 1))) 304 ((6 * bi) + nt) ((n + 1 : Nat) : Int))) hT (RTk_w (RTk_w (RTk_w hR115 _ _ _ (by decide)) _ _ _ (by decide)) _ _ _ (by decide)) (k0 := 7) (by decide) (by omega)) (fun r118 σ118 hq => ?_)
                      obtain ⟨hq1, hT118, hF118⟩ := hq
                      rw [hq1]
                      refine TT.steps (cd := cd25) 3 (c' := (100, [(2, 295), (0, (((6 * bi) + nt : Nat) : Int)), (0, 1), (0, (V (i + 1)))], [(0, 99), (0, 1), (2, 295)], σ118)) rfl rfl ?_
                      refine TT.call (cd := cd25) rfl rfl rfl (by decide) rfl (r_numF X 1 99 (ρ := σ118) (by rw [hT118.1]; decide)) (fun r119 σ119 hq => ?_)
                      rw [hq.1, hq.2]
                      refine TT.steps (cd := cd25) 3 (c' := (104, [(2, 295), (0, (((6 * bi) + nt : Nat) : Int)), (0, 1), (0, 0)], [(0, (σ118 295 8))], σ118)) rfl rfl ?_
                      refine TT.top0 (z := 1) hT118.1 ?_
                      refine TT.steps (cd := cd25) 3 (c' := (111, [(2, 295), (0, (((6 * bi) + nt : Nat) : Int)), (0, 1), (0, 0)], [(0, (σ118 295 8))], σ118)) rfl rfl ?_
                      refine TT.top0 (z := 1) hT118.1 ?_
                      refine TT.steps (cd := cd25) 8 (c' := (123, [(2, 295), (0, (((6 * bi) + nt : Nat) : Int)), (0, 0), (0, 0)], [(0, (σ118 295 8))], σ118)) rfl rfl ?_
                      refine TT.top0 (z := 1) hT118.1 ?_
                      refine TT.steps (cd := cd25) 1 (c' := (133, [(2, 295), (0, (((6 * bi) + nt : Nat) : Int)), (0, 0), (0, 0)], [], σ118)) rfl rfl ?_
                      exact TT.ret (cd := cd25) rfl rfl rfl rfl ⟨rfl, (CFR_d (CFR_d (CFR_3 (CFR_3 (CFR_d (CFR_3 (CFR_3 (CFR_3 (CFR.refl _ _) _ _ (by decide)) _ _ (by decide)) _ _ (by decide)) _ _ _ (by omega) (by omega)) _ _ (by decide)) _ _ (by decide)) _ _ _ (by omega) (by omega)) _ _ _ (by omega) (by omega)), (RFR_B (RFR_w (RFR_w (RFR_w (RFR_A (RFR_A (RFR_A (RFR.refl _ _) hF113) hF114) hF115) _ _ _ (ib48 bi 305 (by decide) (by decide) (by omega) (by omega))) _ _ _ (ib48 bi 306 (by decide) (by decide) (by omega) (by omega))) _ _ _ (ib6 bi 304 (by decide) (by decide) (by omega))) hF118), Or.inr (Or.inl ⟨rfl, i + 3, by omega, (CT_w (CT_w (CT_w (CT_w (CT_w (CT_w (CT_w (CT_w (CT_w hC _ _ _ (by omega)) _ _ _ (by omega)) _ _ _ (by omega)) _ _ _ (by omega)) _ _ _ (by omega)) _ _ _ (by omega)) _ _ _ (by omega)) _ _ _ (by omega)) _ _ _ (by omega)), ((((up2_far (k := 8) (k' := 3) _ _ _ _ (by decide)).trans (up2_far (k := 15) (k' := 3) _ _ _ _ (by decide))).trans (up2_far (k := 17 + nt) (k' := 3) _ _ _ _ (by omega))).trans (up2_hit _ _ _ _)), ((((((((((up2_far (k := 8) (k' := 3) _ _ _ _ (by decide)).trans (up2_far (k := 15) (k' := 3) _ _ _ _ (by decide))).trans (up2_far (k := 17 + nt) (k' := 3) _ _ _ _ (by omega))).trans (up2_by _ _ (j := 4) (j' := 3) _ (by decide))).trans (up2_by _ _ (j := 5) (j' := 3) _ (by decide))).trans (up2_far (k := 24 + nt) (k' := 3) _ _ _ _ (by omega))).trans (up2_by _ _ (j := 4) (j' := 3) _ (by decide))).trans (up2_by _ _ (j := 5) (j' := 3) _ (by decide))).trans (up2_by _ _ (j := 4) (j' := 3) _ (by decide))).trans h33), (fun h16 => by have h17 := rl_16 hR115 h16; omega), hT118⟩)⟩
                    · refine TT.steps (cd := cd25) 2 (c' := (82, [(2, 295), (0, (((6 * bi) + nt : Nat) : Int)), (0, 1), (0, (V (i + 1)))], [(0, ((up2 (up2 (up2 ρm115 305 (8 * ((6 * bi) + nt) + n) ((s3 : Nat) : Int)) 306 (8 * ((6 * bi) + nt) + n) (V (i + 1))) 304 ((6 * bi) + nt) ((n + 1 : Nat) : Int)) 295 3))], (up2 (up2 (up2 ρm115 305 (8 * ((6 * bi) + nt) + n) ((s3 : Nat) : Int)) 306 (8 * ((6 * bi) + nt) + n) (V (i + 1))) 304 ((6 * bi) + nt) ((n + 1 : Nat) : Int)))) rfl rfl ?_
                      refine TT.top0 (z := (ρm115 295 3)) (((up2_far (k := 304) (k' := 295) _ _ _ _ (by decide)).trans (up2_far (k := 306) (k' := 295) _ _ _ _ (by decide))).trans (up2_far (k := 305) (k' := 295) _ _ _ _ (by decide))) ?_
                      refine TT.steps (cd := cd25) 2 (c' := ((if decide (¬ (ρm115 295 3) = 1) = true then 94 else 84), [(2, 295), (0, (((6 * bi) + nt : Nat) : Int)), (0, 1), (0, (V (i + 1)))], [], (up2 (up2 (up2 ρm115 305 (8 * ((6 * bi) + nt) + n) ((s3 : Nat) : Int)) 306 (8 * ((6 * bi) + nt) + n) (V (i + 1))) 304 ((6 * bi) + nt) ((n + 1 : Nat) : Int)))) rfl rfl ?_
                      refine TT.br (p := ¬ (ρm115 295 3) = 1) (fun h120 => ?_) (fun h120 => ?_)
                      · refine TT.steps (cd := cd25) 2 (c' := (96, [(2, 295), (0, (((6 * bi) + nt : Nat) : Int)), (0, 1), (0, (V (i + 1)))], [(1, 418330731890), (2, 295)], (up2 (up2 (up2 ρm115 305 (8 * ((6 * bi) + nt) + n) ((s3 : Nat) : Int)) 306 (8 * ((6 * bi) + nt) + n) (V (i + 1))) 304 ((6 * bi) + nt) ((n + 1 : Nat) : Int)))) rfl rfl ?_
                        refine TT.call (cd := cd25) rfl rfl rfl (by decide) rfl (r_mustN X (ρ := (up2 (up2 (up2 ρm115 305 (8 * ((6 * bi) + nt) + n) ((s3 : Nat) : Int)) 306 (8 * ((6 * bi) + nt) + n) (V (i + 1))) 304 ((6 * bi) + nt) ((n + 1 : Nat) : Int))) hT (RTk_w (RTk_w (RTk_w hR115 _ _ _ (by decide)) _ _ _ (by decide)) _ _ _ (by decide)) (k0 := 7) (by decide) (by omega)) (fun r121 σ121 hq => ?_)
                        obtain ⟨hq1, hT121, hF121⟩ := hq
                        rw [hq1]
                        refine TT.steps (cd := cd25) 3 (c' := (100, [(2, 295), (0, (((6 * bi) + nt : Nat) : Int)), (0, 1), (0, (V (i + 1)))], [(0, 99), (0, 1), (2, 295)], σ121)) rfl rfl ?_
                        refine TT.call (cd := cd25) rfl rfl rfl (by decide) rfl (r_numF X 1 99 (ρ := σ121) (by rw [hT121.1]; decide)) (fun r122 σ122 hq => ?_)
                        rw [hq.1, hq.2]
                        refine TT.steps (cd := cd25) 3 (c' := (104, [(2, 295), (0, (((6 * bi) + nt : Nat) : Int)), (0, 1), (0, 0)], [(0, (σ121 295 8))], σ121)) rfl rfl ?_
                        refine TT.top0 (z := 1) hT121.1 ?_
                        refine TT.steps (cd := cd25) 3 (c' := (111, [(2, 295), (0, (((6 * bi) + nt : Nat) : Int)), (0, 1), (0, 0)], [(0, (σ121 295 8))], σ121)) rfl rfl ?_
                        refine TT.top0 (z := 1) hT121.1 ?_
                        refine TT.steps (cd := cd25) 8 (c' := (123, [(2, 295), (0, (((6 * bi) + nt : Nat) : Int)), (0, 0), (0, 0)], [(0, (σ121 295 8))], σ121)) rfl rfl ?_
                        refine TT.top0 (z := 1) hT121.1 ?_
                        refine TT.steps (cd := cd25) 1 (c' := (133, [(2, 295), (0, (((6 * bi) + nt : Nat) : Int)), (0, 0), (0, 0)], [], σ121)) rfl rfl ?_
                        exact TT.ret (cd := cd25) rfl rfl rfl rfl ⟨rfl, (CFR_d (CFR_d (CFR_3 (CFR_3 (CFR_d (CFR_3 (CFR_3 (CFR_3 (CFR.refl _ _) _ _ (by decide)) _ _ (by decide)) _ _ (by decide)) _ _ _ (by omega) (by omega)) _ _ (by decide)) _ _ (by decide)) _ _ _ (by omega) (by omega)) _ _ _ (by omega) (by omega)), (RFR_B (RFR_w (RFR_w (RFR_w (RFR_A (RFR_A (RFR_A (RFR.refl _ _) hF113) hF114) hF115) _ _ _ (ib48 bi 305 (by decide) (by decide) (by omega) (by omega))) _ _ _ (ib48 bi 306 (by decide) (by decide) (by omega) (by omega))) _ _ _ (ib6 bi 304 (by decide) (by decide) (by omega))) hF121), Or.inr (Or.inl ⟨rfl, i + 3, by omega, (CT_w (CT_w (CT_w (CT_w (CT_w (CT_w (CT_w (CT_w (CT_w hC _ _ _ (by omega)) _ _ _ (by omega)) _ _ _ (by omega)) _ _ _ (by omega)) _ _ _ (by omega)) _ _ _ (by omega)) _ _ _ (by omega)) _ _ _ (by omega)) _ _ _ (by omega)), ((((up2_far (k := 8) (k' := 3) _ _ _ _ (by decide)).trans (up2_far (k := 15) (k' := 3) _ _ _ _ (by decide))).trans (up2_far (k := 17 + nt) (k' := 3) _ _ _ _ (by omega))).trans (up2_hit _ _ _ _)), ((((((((((up2_far (k := 8) (k' := 3) _ _ _ _ (by decide)).trans (up2_far (k := 15) (k' := 3) _ _ _ _ (by decide))).trans (up2_far (k := 17 + nt) (k' := 3) _ _ _ _ (by omega))).trans (up2_by _ _ (j := 4) (j' := 3) _ (by decide))).trans (up2_by _ _ (j := 5) (j' := 3) _ (by decide))).trans (up2_far (k := 24 + nt) (k' := 3) _ _ _ _ (by omega))).trans (up2_by _ _ (j := 4) (j' := 3) _ (by decide))).trans (up2_by _ _ (j := 5) (j' := 3) _ (by decide))).trans (up2_by _ _ (j := 4) (j' := 3) _ (by decide))).trans h33), (fun h16 => by have h17 := rl_16 hR115 h16; omega), hT121⟩)⟩
                      · refine seg84 X _ hT (RTk_w (RTk_w (RTk_w hR115 _ _ _ (by decide)) _ _ _ (by decide)) _ _ _ (by decide)) ((0, (((6 * bi) + nt : Nat) : Int))) ((0, 1)) ((0, (V (i + 1)))) (fun σ123 hT123 hF123 => ?_)
                        refine TT.steps (cd := cd25) 2 (c' := (96, [(2, 295), (0, (((6 * bi) + nt : Nat) : Int)), (0, 1), (0, (V (i + 1)))], [(1, 418330731890), (2, 295)], σ123)) rfl rfl ?_
                        refine TT.call (cd := cd25) rfl rfl rfl (by decide) rfl (r_mustF X 418330731890 (ρ := σ123) (by rw [hT123.1]; decide)) (fun r124 σ124 hq => ?_)
                        rw [hq.1, hq.2]
                        refine TT.steps (cd := cd25) 3 (c' := (100, [(2, 295), (0, (((6 * bi) + nt : Nat) : Int)), (0, 1), (0, (V (i + 1)))], [(0, 99), (0, 1), (2, 295)], σ123)) rfl rfl ?_
                        refine TT.call (cd := cd25) rfl rfl rfl (by decide) rfl (r_numF X 1 99 (ρ := σ123) (by rw [hT123.1]; decide)) (fun r125 σ125 hq => ?_)
                        rw [hq.1, hq.2]
                        refine TT.steps (cd := cd25) 3 (c' := (104, [(2, 295), (0, (((6 * bi) + nt : Nat) : Int)), (0, 1), (0, 0)], [(0, (σ123 295 8))], σ123)) rfl rfl ?_
                        refine TT.top0 (z := 1) hT123.1 ?_
                        refine TT.steps (cd := cd25) 3 (c' := (111, [(2, 295), (0, (((6 * bi) + nt : Nat) : Int)), (0, 1), (0, 0)], [(0, (σ123 295 8))], σ123)) rfl rfl ?_
                        refine TT.top0 (z := 1) hT123.1 ?_
                        refine TT.steps (cd := cd25) 8 (c' := (123, [(2, 295), (0, (((6 * bi) + nt : Nat) : Int)), (0, 0), (0, 0)], [(0, (σ123 295 8))], σ123)) rfl rfl ?_
                        refine TT.top0 (z := 1) hT123.1 ?_
                        refine TT.steps (cd := cd25) 1 (c' := (133, [(2, 295), (0, (((6 * bi) + nt : Nat) : Int)), (0, 0), (0, 0)], [], σ123)) rfl rfl ?_
                        exact TT.ret (cd := cd25) rfl rfl rfl rfl ⟨rfl, (CFR_d (CFR_d (CFR_3 (CFR_3 (CFR_d (CFR_3 (CFR_3 (CFR_3 (CFR.refl _ _) _ _ (by decide)) _ _ (by decide)) _ _ (by decide)) _ _ _ (by omega) (by omega)) _ _ (by decide)) _ _ (by decide)) _ _ _ (by omega) (by omega)) _ _ _ (by omega) (by omega)), (RFR_B (RFR_w (RFR_w (RFR_w (RFR_A (RFR_A (RFR_A (RFR.refl _ _) hF113) hF114) hF115) _ _ _ (ib48 bi 305 (by decide) (by decide) (by omega) (by omega))) _ _ _ (ib48 bi 306 (by decide) (by decide) (by omega) (by omega))) _ _ _ (ib6 bi 304 (by decide) (by decide) (by omega))) hF123), Or.inr (Or.inl ⟨rfl, i + 3, by omega, (CT_w (CT_w (CT_w (CT_w (CT_w (CT_w (CT_w (CT_w (CT_w hC _ _ _ (by omega)) _ _ _ (by omega)) _ _ _ (by omega)) _ _ _ (by omega)) _ _ _ (by omega)) _ _ _ (by omega)) _ _ _ (by omega)) _ _ _ (by omega)) _ _ _ (by omega)), ((((up2_far (k := 8) (k' := 3) _ _ _ _ (by decide)).trans (up2_far (k := 15) (k' := 3) _ _ _ _ (by decide))).trans (up2_far (k := 17 + nt) (k' := 3) _ _ _ _ (by omega))).trans (up2_hit _ _ _ _)), ((((((((((up2_far (k := 8) (k' := 3) _ _ _ _ (by decide)).trans (up2_far (k := 15) (k' := 3) _ _ _ _ (by decide))).trans (up2_far (k := 17 + nt) (k' := 3) _ _ _ _ (by omega))).trans (up2_by _ _ (j := 4) (j' := 3) _ (by decide))).trans (up2_by _ _ (j := 5) (j' := 3) _ (by decide))).trans (up2_far (k := 24 + nt) (k' := 3) _ _ _ _ (by omega))).trans (up2_by _ _ (j := 4) (j' := 3) _ (by decide))).trans (up2_by _ _ (j := 5) (j' := 3) _ (by decide))).trans (up2_by _ _ (j := 4) (j' := 3) _ (by decide))).trans h33), (fun h16 => by have h17 := rl_16 hR115 h16; omega), hT123⟩)⟩
                · have hk7_4 : K (i + 3) = 7 := by omega
                  obtain ⟨r313, σ313, ⟨hq1_313, hR313, hF313⟩, dt313⟩ := TT.ex (r_mustO X (ρ := ρ) hT hR (k0 := 7) (by decide) (by omega) hk1)
                  subst hq1_313
                  replace hR313 : RTk f N K S V P (i + 1) σ313 := hR313
                  obtain ⟨r314, σ314, ⟨hq1_314, hR314, hF314⟩, dt314⟩ := TT.ex (r_numO X 1 99 (ρ := σ313) hT hR313 (by omega) hk2 hr2)
                  subst hq1_314
                  replace hR314 : RTk f N K S V P (i + 2) σ314 := hR314
                  obtain ⟨r315, σ315, ⟨hq1_315, ρm315, hR315, hF315, hq2_315⟩, dt315⟩ := TT.ex (r_callO X (V (i + 1)) (ρ := σ314) hT hR314 (((hF314 _ (32) (by omega)).trans (hF313 _ (32) (by omega))).trans h32) hb2 (((hF314 297 (bi) (by omega)).trans (hF313 297 (bi) (by omega))).trans m0) n0 (((hF314 300 (bi) (by omega)).trans (hF313 300 (bi) (by omega))).trans m1) n1 (((hF314 307 (bi) (by omega)).trans (hF313 307 (bi) (by omega))).trans m2) n2 (kx := (6 * bi) + nt) (m := n) (by omega) (by omega) (((hF314 304 ((6 * bi) + nt) (by omega)).trans (hF313 304 ((6 * bi) + nt) (by omega))).trans h304) cs (fun j hj => (((hF314 305 (8 * ((6 * bi) + nt) + j) (by omega)).trans (hF313 305 (8 * ((6 * bi) + nt) + j) (by omega)))).trans (h5c j hj).2.1) s3 ((rx_eq (τ := τ) (A := 9) (fun j hj => by rw [((hF314 298 (14 * bi + j) (by omega)).trans (hF313 298 (14 * bi + j) (by omega)))]; exact hN0 j hj) ((rl_name hR314 (rl_no17 hR314 (by omega)).2.1).1 hk3).2.2).trans e0_3) (by omega) hk3 (fun j hj q_ => hse3 ⟨j, hj, q_⟩))
                  subst hq1_315
                  subst hq2_315
                  replace hR315 : RTk f N K S V P (i + 3) ρm315 := hR315
                  have hP1 : LPd f N c K S V P 8 bi np nt ns L C (i + 3) (n + 1) (csU cs n s3) (up2 (up2 (up2 (up2 (up2 (up2 (up2 τ 3 4 ((i + 1 : Nat) : Int)) 3 5 (V (i + 1))) 3 4 ((i + 2 : Nat) : Int)) (24 + nt) n (V (i + 1))) 3 5 ((s3 : Nat) : Int)) 3 4 ((i + 3 : Nat) : Int)) (17 + nt) n ((s3 : Nat) : Int)) (up2 (up2 (up2 ρm315 305 (8 * ((6 * bi) + nt) + n) ((s3 : Nat) : Int)) 306 (8 * ((6 * bi) + nt) + n) (V (i + 1))) 304 ((6 * bi) + nt) ((n + 1 : Nat) : Int)) := ⟨⟨hT, ⟨(CT_w (CT_w (CT_w (CT_w (CT_w (CT_w (CT_w hC _ _ _ (by omega)) _ _ _ (by omega)) _ _ _ (by omega)) _ _ _ (by omega)) _ _ _ (by omega)) _ _ _ (by omega)) _ _ _ (by omega)), ((((((((up2_far (k := 17 + nt) (k' := 3) _ _ _ _ (by omega)).trans (up2_by _ _ (j := 4) (j' := 0) _ (by decide))).trans (up2_by _ _ (j := 5) (j' := 0) _ (by decide))).trans (up2_far (k := 24 + nt) (k' := 3) _ _ _ _ (by omega))).trans (up2_by _ _ (j := 4) (j' := 0) _ (by decide))).trans (up2_by _ _ (j := 5) (j' := 0) _ (by decide))).trans (up2_by _ _ (j := 4) (j' := 0) _ (by decide))).trans hf0), ((((((((up2_far (k := 17 + nt) (k' := 3) _ _ _ _ (by omega)).trans (up2_by _ _ (j := 4) (j' := 1) _ (by decide))).trans (up2_by _ _ (j := 5) (j' := 1) _ (by decide))).trans (up2_far (k := 24 + nt) (k' := 3) _ _ _ _ (by omega))).trans (up2_by _ _ (j := 4) (j' := 1) _ (by decide))).trans (up2_by _ _ (j := 5) (j' := 1) _ (by decide))).trans (up2_by _ _ (j := 4) (j' := 1) _ (by decide))).trans hf1)⟩, ((up2_far (k := 17 + nt) (k' := 3) _ _ _ _ (by omega)).trans (up2_hit _ _ _ _)), by omega, ((((((((up2_far (k := 17 + nt) (k' := 3) _ _ _ _ (by omega)).trans (up2_by _ _ (j := 4) (j' := 3) _ (by decide))).trans (up2_by _ _ (j := 5) (j' := 3) _ (by decide))).trans (up2_far (k := 24 + nt) (k' := 3) _ _ _ _ (by omega))).trans (up2_by _ _ (j := 4) (j' := 3) _ (by decide))).trans (up2_by _ _ (j := 5) (j' := 3) _ (by decide))).trans (up2_by _ _ (j := 4) (j' := 3) _ (by decide))).trans h33), (RTk_w (RTk_w (RTk_w hR315 _ _ _ (by decide)) _ _ _ (by decide)) _ _ _ (by decide)), ⟨(((((((up2_far (k := 304) (k' := 295) _ _ _ _ (by decide)).trans (up2_far (k := 306) (k' := 295) _ _ _ _ (by decide))).trans (up2_far (k := 305) (k' := 295) _ _ _ _ (by decide))).trans (hF315 _ (32) (by omega))).trans (hF314 _ (32) (by omega))).trans (hF313 _ (32) (by omega))).trans h32), (((((((up2_far (k := 304) (k' := 295) _ _ _ _ (by decide)).trans (up2_far (k := 306) (k' := 295) _ _ _ _ (by decide))).trans (up2_far (k := 305) (k' := 295) _ _ _ _ (by decide))).trans (hF315 _ (9) (by omega))).trans (hF314 _ (9) (by omega))).trans (hF313 _ (9) (by omega))).trans hf9)⟩, hb2, DRl_fr hD hnt hb2 (fun K j h1 h2 h3 h4 => by rw [up2_nq _ (by omega), up2_nq _ (by omega), up2_nq _ (by omega), up2_nq _ (by omega), up2_nq _ (by omega), up2_nq _ (by omega), up2_nq _ (by omega)]) (fun K j h1 h2 h3 => by rw [up2_nq _ (by omega), up2_nq _ (by omega), up2_nq _ (by omega), hF315 K j (by omega), hF314 K j (by omega), hF313 K j (by omega)])⟩, hnt, ⟨by omega, by omega⟩, TRN_s hTn hnt hn8l s3 (by omega) (V (i + 1)) (by omega) hse3 (fun K j h1 h2 h3 => by rw [up2_nq _ (by omega), up2_nq _ (by omega), up2_nq _ (by omega), up2_nq _ (by omega), up2_nq _ (by omega), up2_nq _ (by omega), up2_nq _ (by omega)]) (fun K j h1 h2 h3 => by rw [up2_nq _ (by omega), up2_nq _ (by omega), up2_nq _ (by omega), hF315 K j (by omega), hF314 K j (by omega), hF313 K j (by omega)]) (up2_hit _ _ _ _) ((((up2_far (k := 17 + nt) (k' := 24 + nt) _ _ _ _ (by omega)).trans (up2_far (k := 3) (k' := 24 + nt) _ _ _ _ (by omega))).trans (up2_far (k := 3) (k' := 24 + nt) _ _ _ _ (by omega))).trans (up2_hit _ _ _ _)) (up2_hit _ _ _ _) (((up2_far (k := 304) (k' := 305) _ _ _ _ (by decide)).trans (up2_far (k := 306) (k' := 305) _ _ _ _ (by decide))).trans (up2_hit _ _ _ _)) ((up2_far (k := 304) (k' := 306) _ _ _ _ (by decide)).trans (up2_hit _ _ _ _))⟩
                  refine TT.ls0 (ls' := [(2, 3), (0, ((nt : Nat) : Int)), (0, (UB (csU cs n s3) (n + 1))), (0, ((n + 1 : Nat) : Int))]) (by rw [ub_s hs3']) ?_
                  refine (ih (n + 1) (by omega) (i + 3) (csU cs n s3) (up2 (up2 (up2 (up2 (up2 (up2 (up2 τ 3 4 ((i + 1 : Nat) : Int)) 3 5 (V (i + 1))) 3 4 ((i + 2 : Nat) : Int)) (24 + nt) n (V (i + 1))) 3 5 ((s3 : Nat) : Int)) 3 4 ((i + 3 : Nat) : Int)) (17 + nt) n ((s3 : Nat) : Int)) (up2 (up2 (up2 ρm315 305 (8 * ((6 * bi) + nt) + n) ((s3 : Nat) : Int)) 306 (8 * ((6 * bi) + nt) + n) (V (i + 1))) 304 ((6 * bi) + nt) ((n + 1 : Nat) : Int)) (0, (V (i + 1))) hP1 (Or.inr hk7_4)).mono (fun r τ' h => ?_)
                  have hcf : CFR 8 τ (up2 (up2 (up2 (up2 (up2 (up2 (up2 τ 3 4 ((i + 1 : Nat) : Int)) 3 5 (V (i + 1))) 3 4 ((i + 2 : Nat) : Int)) (24 + nt) n (V (i + 1))) 3 5 ((s3 : Nat) : Int)) 3 4 ((i + 3 : Nat) : Int)) (17 + nt) n ((s3 : Nat) : Int)) := (CFR_d (CFR_3 (CFR_3 (CFR_d (CFR_3 (CFR_3 (CFR_3 (CFR.refl _ _) _ _ (by decide)) _ _ (by decide)) _ _ (by decide)) _ _ _ (by omega) (by omega)) _ _ (by decide)) _ _ (by decide)) _ _ _ (by omega) (by omega))
                  have hrf : RFR bi ρ (up2 (up2 (up2 ρm315 305 (8 * ((6 * bi) + nt) + n) ((s3 : Nat) : Int)) 306 (8 * ((6 * bi) + nt) + n) (V (i + 1))) 304 ((6 * bi) + nt) ((n + 1 : Nat) : Int)) := (RFR_w (RFR_w (RFR_w (RFR_A (RFR_A (RFR_A (RFR.refl _ _) hF313) hF314) hF315) _ _ _ (ib48 bi 305 (by decide) (by decide) (by omega) (by omega))) _ _ _ (ib48 bi 306 (by decide) (by decide) (by omega) (by omega))) _ _ _ (ib6 bi 304 (by decide) (by decide) (by omega)))
                  rcases h with ⟨g1, g2⟩ | ⟨g1, g2⟩
                  · refine Or.inl ⟨g1, ?_⟩
                    refine TT.steps (cd := cd25) 3 (c' := (77, [(2, 295), (0, (((6 * bi) + nt : Nat) : Int)), (0, 1), y], [(0, (((6 * bi) + nt : Nat) : Int)), (2, 304)], ρ)) rfl rfl ?_
                    refine TT.aldN (cd := cd25) (304) ((6 * bi) + nt) rfl rfl rfl rfl (show (6 * bi) + nt < 12 by omega) ?_
                    refine TT.top0 (z := ((n : Nat) : Int)) h304 ?_
                    refine TT.steps (cd := cd25) 2 (c' := ((if decide (¬ ((n : Nat) : Int) = 8) = true then 94 else 80), [(2, 295), (0, (((6 * bi) + nt : Nat) : Int)), (0, 1), y], [], ρ)) rfl rfl ?_
                    refine TT.br (p := ¬ ((n : Nat) : Int) = 8) (fun h416 => ?_) (fun h416 => absurd (show ¬ ((n : Nat) : Int) = 8 by omega) h416)
                    refine TT.steps (cd := cd25) 2 (c' := (96, [(2, 295), (0, (((6 * bi) + nt : Nat) : Int)), (0, 1), y], [(1, 418330731890), (2, 295)], ρ)) rfl rfl ?_
                    refine TT.call (cd := cd25) rfl rfl rfl (by decide) rfl (dt313) (fun r417 σ417 hq => ?_)
                    rw [hq.1, hq.2]
                    refine TT.steps (cd := cd25) 3 (c' := (100, [(2, 295), (0, (((6 * bi) + nt : Nat) : Int)), (0, 1), y], [(0, 99), (0, 1), (2, 295)], σ313)) rfl rfl ?_
                    refine TT.call (cd := cd25) rfl rfl rfl (by decide) rfl (dt314) (fun r418 σ418 hq => ?_)
                    rw [hq.1, hq.2]
                    refine TT.steps (cd := cd25) 3 (c' := (104, [(2, 295), (0, (((6 * bi) + nt : Nat) : Int)), (0, 1), (0, (V (i + 1)))], [(0, (σ314 295 8))], σ314)) rfl rfl ?_
                    refine TT.top0 (z := 0) (((hF314 _ (8) (by omega)).trans (hF313 _ (8) (by omega))).trans hR.1) ?_
                    refine TT.steps (cd := cd25) 4 (c' := (108, [(2, 295), (0, (((6 * bi) + nt : Nat) : Int)), (0, 1), (0, (V (i + 1)))], [(0, (V (i + 1))), (0, (((6 * bi) + nt : Nat) : Int)), (2, 295)], σ314)) rfl rfl ?_
                    refine TT.call (cd := cd25) rfl rfl rfl (by decide) rfl (dt315) (fun r419 σ419 hq => ?_)
                    rw [hq.1, hq.2]
                    refine TT.steps (cd := cd25) 2 (c' := (111, [(2, 295), (0, (((6 * bi) + nt : Nat) : Int)), (0, 1), (0, (V (i + 1)))], [(0, ((up2 (up2 (up2 ρm315 305 (8 * ((6 * bi) + nt) + n) ((s3 : Nat) : Int)) 306 (8 * ((6 * bi) + nt) + n) (V (i + 1))) 304 ((6 * bi) + nt) ((n + 1 : Nat) : Int)) 295 8))], (up2 (up2 (up2 ρm315 305 (8 * ((6 * bi) + nt) + n) ((s3 : Nat) : Int)) 306 (8 * ((6 * bi) + nt) + n) (V (i + 1))) 304 ((6 * bi) + nt) ((n + 1 : Nat) : Int)))) rfl rfl ?_
                    refine TT.top0 (z := 0) (((((((up2_far (k := 304) (k' := 295) _ _ _ _ (by decide)).trans (up2_far (k := 306) (k' := 295) _ _ _ _ (by decide))).trans (up2_far (k := 305) (k' := 295) _ _ _ _ (by decide))).trans (hF315 _ (8) (by omega))).trans (hF314 _ (8) (by omega))).trans (hF313 _ (8) (by omega))).trans hR.1) ?_
                    refine TT.steps (cd := cd25) 3 (c' := (114, [(2, 295), (0, (((6 * bi) + nt : Nat) : Int)), (0, 1), (0, (V (i + 1)))], [(0, ((up2 (up2 (up2 ρm315 305 (8 * ((6 * bi) + nt) + n) ((s3 : Nat) : Int)) 306 (8 * ((6 * bi) + nt) + n) (V (i + 1))) 304 ((6 * bi) + nt) ((n + 1 : Nat) : Int)) 295 3))], (up2 (up2 (up2 ρm315 305 (8 * ((6 * bi) + nt) + n) ((s3 : Nat) : Int)) 306 (8 * ((6 * bi) + nt) + n) (V (i + 1))) 304 ((6 * bi) + nt) ((n + 1 : Nat) : Int)))) rfl rfl ?_
                    refine TT.top0 (z := 1) ((((up2_far (k := 304) (k' := 295) _ _ _ _ (by decide)).trans (up2_far (k := 306) (k' := 295) _ _ _ _ (by decide))).trans (up2_far (k := 305) (k' := 295) _ _ _ _ (by decide))).trans ((rl_word hR315 (rl_no17 hR315 (by omega)).2.1 (by decide)).mpr hk7_4).1) ?_
                    refine TT.steps (cd := cd25) 8 (c' := (74, [(2, 295), (0, (((6 * bi) + nt : Nat) : Int)), (0, 1), (0, (V (i + 1)))], [], (up2 (up2 (up2 ρm315 305 (8 * ((6 * bi) + nt) + n) ((s3 : Nat) : Int)) 306 (8 * ((6 * bi) + nt) + n) (V (i + 1))) 304 ((6 * bi) + nt) ((n + 1 : Nat) : Int)))) rfl rfl ?_
                    exact g2.mono (fun r' ρ' h => ⟨h.1, hcf.trans h.2.1, hrf.trans h.2.2.1, h.2.2.2⟩)
                  · refine Or.inr ⟨g1, ?_⟩
                    refine TT.steps (cd := cd25) 3 (c' := (77, [(2, 295), (0, (((6 * bi) + nt : Nat) : Int)), (0, 1), y], [(0, (((6 * bi) + nt : Nat) : Int)), (2, 304)], ρ)) rfl rfl ?_
                    refine TT.aldN (cd := cd25) (304) ((6 * bi) + nt) rfl rfl rfl rfl (show (6 * bi) + nt < 12 by omega) ?_
                    refine TT.top0 (z := ((n : Nat) : Int)) h304 ?_
                    refine TT.steps (cd := cd25) 2 (c' := ((if decide (¬ ((n : Nat) : Int) = 8) = true then 94 else 80), [(2, 295), (0, (((6 * bi) + nt : Nat) : Int)), (0, 1), y], [], ρ)) rfl rfl ?_
                    refine TT.br (p := ¬ ((n : Nat) : Int) = 8) (fun h416 => ?_) (fun h416 => absurd (show ¬ ((n : Nat) : Int) = 8 by omega) h416)
                    refine TT.steps (cd := cd25) 2 (c' := (96, [(2, 295), (0, (((6 * bi) + nt : Nat) : Int)), (0, 1), y], [(1, 418330731890), (2, 295)], ρ)) rfl rfl ?_
                    refine TT.call (cd := cd25) rfl rfl rfl (by decide) rfl (dt313) (fun r417 σ417 hq => ?_)
                    rw [hq.1, hq.2]
                    refine TT.steps (cd := cd25) 3 (c' := (100, [(2, 295), (0, (((6 * bi) + nt : Nat) : Int)), (0, 1), y], [(0, 99), (0, 1), (2, 295)], σ313)) rfl rfl ?_
                    refine TT.call (cd := cd25) rfl rfl rfl (by decide) rfl (dt314) (fun r418 σ418 hq => ?_)
                    rw [hq.1, hq.2]
                    refine TT.steps (cd := cd25) 3 (c' := (104, [(2, 295), (0, (((6 * bi) + nt : Nat) : Int)), (0, 1), (0, (V (i + 1)))], [(0, (σ314 295 8))], σ314)) rfl rfl ?_
                    refine TT.top0 (z := 0) (((hF314 _ (8) (by omega)).trans (hF313 _ (8) (by omega))).trans hR.1) ?_
                    refine TT.steps (cd := cd25) 4 (c' := (108, [(2, 295), (0, (((6 * bi) + nt : Nat) : Int)), (0, 1), (0, (V (i + 1)))], [(0, (V (i + 1))), (0, (((6 * bi) + nt : Nat) : Int)), (2, 295)], σ314)) rfl rfl ?_
                    refine TT.call (cd := cd25) rfl rfl rfl (by decide) rfl (dt315) (fun r419 σ419 hq => ?_)
                    rw [hq.1, hq.2]
                    refine TT.steps (cd := cd25) 2 (c' := (111, [(2, 295), (0, (((6 * bi) + nt : Nat) : Int)), (0, 1), (0, (V (i + 1)))], [(0, ((up2 (up2 (up2 ρm315 305 (8 * ((6 * bi) + nt) + n) ((s3 : Nat) : Int)) 306 (8 * ((6 * bi) + nt) + n) (V (i + 1))) 304 ((6 * bi) + nt) ((n + 1 : Nat) : Int)) 295 8))], (up2 (up2 (up2 ρm315 305 (8 * ((6 * bi) + nt) + n) ((s3 : Nat) : Int)) 306 (8 * ((6 * bi) + nt) + n) (V (i + 1))) 304 ((6 * bi) + nt) ((n + 1 : Nat) : Int)))) rfl rfl ?_
                    refine TT.top0 (z := 0) (((((((up2_far (k := 304) (k' := 295) _ _ _ _ (by decide)).trans (up2_far (k := 306) (k' := 295) _ _ _ _ (by decide))).trans (up2_far (k := 305) (k' := 295) _ _ _ _ (by decide))).trans (hF315 _ (8) (by omega))).trans (hF314 _ (8) (by omega))).trans (hF313 _ (8) (by omega))).trans hR.1) ?_
                    refine TT.steps (cd := cd25) 3 (c' := (114, [(2, 295), (0, (((6 * bi) + nt : Nat) : Int)), (0, 1), (0, (V (i + 1)))], [(0, ((up2 (up2 (up2 ρm315 305 (8 * ((6 * bi) + nt) + n) ((s3 : Nat) : Int)) 306 (8 * ((6 * bi) + nt) + n) (V (i + 1))) 304 ((6 * bi) + nt) ((n + 1 : Nat) : Int)) 295 3))], (up2 (up2 (up2 ρm315 305 (8 * ((6 * bi) + nt) + n) ((s3 : Nat) : Int)) 306 (8 * ((6 * bi) + nt) + n) (V (i + 1))) 304 ((6 * bi) + nt) ((n + 1 : Nat) : Int)))) rfl rfl ?_
                    refine TT.top0 (z := 1) ((((up2_far (k := 304) (k' := 295) _ _ _ _ (by decide)).trans (up2_far (k := 306) (k' := 295) _ _ _ _ (by decide))).trans (up2_far (k := 305) (k' := 295) _ _ _ _ (by decide))).trans ((rl_word hR315 (rl_no17 hR315 (by omega)).2.1 (by decide)).mpr hk7_4).1) ?_
                    refine TT.steps (cd := cd25) 8 (c' := (74, [(2, 295), (0, (((6 * bi) + nt : Nat) : Int)), (0, 1), (0, (V (i + 1)))], [], (up2 (up2 (up2 ρm315 305 (8 * ((6 * bi) + nt) + n) ((s3 : Nat) : Int)) 306 (8 * ((6 * bi) + nt) + n) (V (i + 1))) 304 ((6 * bi) + nt) ((n + 1 : Nat) : Int)))) rfl rfl ?_
                    exact g2.mono (fun r' ρ' h => ⟨h.1, hcf.trans h.2.1, hrf.trans h.2.2.1, h.2.2.2⟩)
          · skip
            refine TT.call (cd := cd153) rfl rfl rfl (by decide) rfl (u_stat1_8 X hT (τ := (up2 (up2 (up2 (up2 τ 3 4 ((i + 1 : Nat) : Int)) 3 5 (V (i + 1))) 3 4 ((i + 2 : Nat) : Int)) (24 + nt) n (V (i + 1)))) (CT_w (CT_w (CT_w (CT_w hC _ _ _ (by omega)) _ _ _ (by omega)) _ _ _ (by omega)) _ _ _ (by omega)) ((up2_far (k := 24 + nt) (k' := 3) _ _ _ _ (by omega)).trans (up2_hit _ _ _ _)) (by omega) (((((up2_far (k := 24 + nt) (k' := 3) _ _ _ _ (by omega)).trans (up2_by _ _ (j := 4) (j' := 3) _ (by decide))).trans (up2_by _ _ (j := 5) (j' := 3) _ (by decide))).trans (up2_by _ _ (j := 4) (j' := 3) _ (by decide))).trans h33) (((((up2_far (k := 24 + nt) (k' := 8) _ _ _ _ (by omega)).trans (up2_far (k := 3) (k' := 8) _ _ _ _ (by decide))).trans (up2_far (k := 3) (k' := 8) _ _ _ _ (by decide))).trans (up2_far (k := 3) (k' := 8) _ _ _ _ (by decide))).trans d1) n0 (((((up2_far (k := 24 + nt) (k' := 8) _ _ _ _ (by omega)).trans (up2_far (k := 3) (k' := 8) _ _ _ _ (by decide))).trans (up2_far (k := 3) (k' := 8) _ _ _ _ (by decide))).trans (up2_far (k := 3) (k' := 8) _ _ _ _ (by decide))).trans d2) n1 (((((up2_far (k := 24 + nt) (k' := 30) _ _ _ _ (by omega)).trans (up2_far (k := 3) (k' := 30) _ _ _ _ (by decide))).trans (up2_far (k := 3) (k' := 30) _ _ _ _ (by decide))).trans (up2_far (k := 3) (k' := 30) _ _ _ _ (by decide))).trans d4) n2 (UB cs n) hk3) (fun r5 σ5 hq => ?_)
            rw [hq.1, hq.2]
            refine TT.steps (cd := cd153) 2 (c' := (65, [(2, 3), (0, ((nt : Nat) : Int)), (0, (UB cs n)), (0, ((n : Nat) : Int))], [(0, 0)], (cFail (up2 (up2 (up2 (up2 τ 3 4 ((i + 1 : Nat) : Int)) 3 5 (V (i + 1))) 3 4 ((i + 2 : Nat) : Int)) (24 + nt) n (V (i + 1))) 1 (plc K S V (i + 2))))) rfl rfl ?_
            refine TT.ret (cd := cd153) rfl rfl rfl rfl (Or.inl ⟨rfl, ?_⟩)
            refine TT.steps (cd := cd25) 3 (c' := (77, [(2, 295), (0, (((6 * bi) + nt : Nat) : Int)), (0, 1), y], [(0, (((6 * bi) + nt : Nat) : Int)), (2, 304)], ρ)) rfl rfl ?_
            refine TT.aldN (cd := cd25) (304) ((6 * bi) + nt) rfl rfl rfl rfl (show (6 * bi) + nt < 12 by omega) ?_
            refine TT.top0 (z := ((n : Nat) : Int)) h304 ?_
            refine TT.steps (cd := cd25) 2 (c' := ((if decide (¬ ((n : Nat) : Int) = 8) = true then 94 else 80), [(2, 295), (0, (((6 * bi) + nt : Nat) : Int)), (0, 1), y], [], ρ)) rfl rfl ?_
            refine TT.br (p := ¬ ((n : Nat) : Int) = 8) (fun h106 => ?_) (fun h106 => absurd (show ¬ ((n : Nat) : Int) = 8 by omega) h106)
            refine TT.steps (cd := cd25) 2 (c' := (96, [(2, 295), (0, (((6 * bi) + nt : Nat) : Int)), (0, 1), y], [(1, 418330731890), (2, 295)], ρ)) rfl rfl ?_
            refine TT.call (cd := cd25) rfl rfl rfl (by decide) rfl (r_mustO X (ρ := ρ) hT hR (k0 := 7) (by decide) (by omega) hk1) (fun r107 σ107 hq => ?_)
            obtain ⟨hq1, hR107, hF107⟩ := hq
            replace hR107 : RTk f N K S V P (i + 1) σ107 := hR107
            rw [hq1]
            refine TT.steps (cd := cd25) 3 (c' := (100, [(2, 295), (0, (((6 * bi) + nt : Nat) : Int)), (0, 1), y], [(0, 99), (0, 1), (2, 295)], σ107)) rfl rfl ?_
            refine TT.call (cd := cd25) rfl rfl rfl (by decide) rfl (r_numO X 1 99 (ρ := σ107) hT hR107 (by omega) hk2 hr2) (fun r108 σ108 hq => ?_)
            obtain ⟨hq1, hR108, hF108⟩ := hq
            replace hR108 : RTk f N K S V P (i + 2) σ108 := hR108
            rw [hq1]
            refine TT.steps (cd := cd25) 3 (c' := (104, [(2, 295), (0, (((6 * bi) + nt : Nat) : Int)), (0, 1), (0, (V (i + 1)))], [(0, (σ108 295 8))], σ108)) rfl rfl ?_
            refine TT.top0 (z := 0) (((hF108 _ (8) (by omega)).trans (hF107 _ (8) (by omega))).trans hR.1) ?_
            refine TT.steps (cd := cd25) 4 (c' := (108, [(2, 295), (0, (((6 * bi) + nt : Nat) : Int)), (0, 1), (0, (V (i + 1)))], [(0, (V (i + 1))), (0, (((6 * bi) + nt : Nat) : Int)), (2, 295)], σ108)) rfl rfl ?_
            refine TT.call (cd := cd25) rfl rfl rfl (by decide) rfl (r_callN X (V (i + 1)) (ρ := σ108) hT hR108 (kx := (6 * bi) + nt) (m := n) (by omega) (by omega) (((hF108 304 ((6 * bi) + nt) (by omega)).trans (hF107 304 ((6 * bi) + nt) (by omega))).trans h304) hk3) (fun r109 σ109 hq => ?_)
            obtain ⟨hq1, hT109, hF109⟩ := hq
            rw [hq1]
            refine TT.steps (cd := cd25) 2 (c' := (111, [(2, 295), (0, (((6 * bi) + nt : Nat) : Int)), (0, 1), (0, (V (i + 1)))], [(0, (σ109 295 8))], σ109)) rfl rfl ?_
            refine TT.top0 (z := 1) hT109.1 ?_
            refine TT.steps (cd := cd25) 8 (c' := (123, [(2, 295), (0, (((6 * bi) + nt : Nat) : Int)), (0, 0), (0, (V (i + 1)))], [(0, (σ109 295 8))], σ109)) rfl rfl ?_
            refine TT.top0 (z := 1) hT109.1 ?_
            refine TT.steps (cd := cd25) 1 (c' := (133, [(2, 295), (0, (((6 * bi) + nt : Nat) : Int)), (0, 0), (0, (V (i + 1)))], [], σ109)) rfl rfl ?_
            exact TT.ret (cd := cd25) rfl rfl rfl rfl ⟨rfl, (CFR_f (CFR_d (CFR_3 (CFR_3 (CFR_3 (CFR.refl _ _) _ _ (by decide)) _ _ (by decide)) _ _ (by decide)) _ _ _ (by omega) (by omega)) _ _), (RFR_B (RFR_A (RFR_A (RFR.refl _ _) hF107) hF108) hF109), Or.inr (Or.inr ⟨rfl, 1, (plc K S V (i + 2)), by decide, (cF_0 _ _ _).1, (cF_0 _ _ _).2, hT109⟩)⟩
        · refine TT.call (cd := cd153) rfl rfl rfl (by decide) rfl ((u_takeNumber X hT (τ := (up2 τ 3 4 ((i + 1 : Nat) : Int))) (CT_w hC _ _ _ (by omega)) (up2_hit _ _ _ _) (by omega) 1 99).mono (fun _ _ h => h.2.1 ⟨hk2, hr2⟩)) (fun r12 σ12 hq => ?_)
          rw [hq.1, hq.2]
          refine TT.steps (cd := cd153) 2 (c' := (50, [(2, 3), (0, ((nt : Nat) : Int)), (0, (UB cs n)), (0, ((n : Nat) : Int))], [(0, 0)], (cFail (up2 (up2 τ 3 4 ((i + 1 : Nat) : Int)) 3 5 (V (i + 1))) 4 ((S (i + 1) : Nat) : Int)))) rfl rfl ?_
          refine TT.ret (cd := cd153) rfl rfl rfl rfl (Or.inl ⟨rfl, ?_⟩)
          have hpl : plc K S V (i + 1) = ((S (i + 1) : Nat) : Int) := by unfold plc; rw [if_neg (by omega), Int.add_zero]
          rw [← hpl]
          refine TT.steps (cd := cd25) 3 (c' := (77, [(2, 295), (0, (((6 * bi) + nt : Nat) : Int)), (0, 1), y], [(0, (((6 * bi) + nt : Nat) : Int)), (2, 304)], ρ)) rfl rfl ?_
          refine TT.aldN (cd := cd25) (304) ((6 * bi) + nt) rfl rfl rfl rfl (show (6 * bi) + nt < 12 by omega) ?_
          refine TT.top0 (z := ((n : Nat) : Int)) h304 ?_
          refine TT.steps (cd := cd25) 2 (c' := ((if decide (¬ ((n : Nat) : Int) = 8) = true then 94 else 80), [(2, 295), (0, (((6 * bi) + nt : Nat) : Int)), (0, 1), y], [], ρ)) rfl rfl ?_
          refine TT.br (p := ¬ ((n : Nat) : Int) = 8) (fun h113 => ?_) (fun h113 => absurd (show ¬ ((n : Nat) : Int) = 8 by omega) h113)
          refine TT.steps (cd := cd25) 2 (c' := (96, [(2, 295), (0, (((6 * bi) + nt : Nat) : Int)), (0, 1), y], [(1, 418330731890), (2, 295)], ρ)) rfl rfl ?_
          refine TT.call (cd := cd25) rfl rfl rfl (by decide) rfl (r_mustO X (ρ := ρ) hT hR (k0 := 7) (by decide) (by omega) hk1) (fun r114 σ114 hq => ?_)
          obtain ⟨hq1, hR114, hF114⟩ := hq
          replace hR114 : RTk f N K S V P (i + 1) σ114 := hR114
          rw [hq1]
          refine TT.steps (cd := cd25) 3 (c' := (100, [(2, 295), (0, (((6 * bi) + nt : Nat) : Int)), (0, 1), y], [(0, 99), (0, 1), (2, 295)], σ114)) rfl rfl ?_
          refine TT.call (cd := cd25) rfl rfl rfl (by decide) rfl (r_numR X 1 99 (ρ := σ114) hT hR114 hk2 hr2) (fun r115 σ115 hq => ?_)
          obtain ⟨x115, hq1, hT115, hF115⟩ := hq
          rw [hq1]
          refine TT.steps (cd := cd25) 3 (c' := (104, [(2, 295), (0, (((6 * bi) + nt : Nat) : Int)), (0, 1), (0, x115)], [(0, (σ115 295 8))], σ115)) rfl rfl ?_
          refine TT.top0 (z := 4) hT115.1 ?_
          refine TT.steps (cd := cd25) 3 (c' := (111, [(2, 295), (0, (((6 * bi) + nt : Nat) : Int)), (0, 1), (0, x115)], [(0, (σ115 295 8))], σ115)) rfl rfl ?_
          refine TT.top0 (z := 4) hT115.1 ?_
          refine TT.steps (cd := cd25) 8 (c' := (123, [(2, 295), (0, (((6 * bi) + nt : Nat) : Int)), (0, 0), (0, x115)], [(0, (σ115 295 8))], σ115)) rfl rfl ?_
          refine TT.top0 (z := 4) hT115.1 ?_
          refine TT.steps (cd := cd25) 1 (c' := (133, [(2, 295), (0, (((6 * bi) + nt : Nat) : Int)), (0, 0), (0, x115)], [], σ115)) rfl rfl ?_
          exact TT.ret (cd := cd25) rfl rfl rfl rfl ⟨rfl, (CFR_f (CFR_3 (CFR_3 (CFR.refl _ _) _ _ (by decide)) _ _ (by decide)) _ _), (RFR_B (RFR_A (RFR.refl _ _) hF114) hF115), Or.inr (Or.inr ⟨rfl, 4, (plc K S V (i + 1)), by decide, (cF_0 _ _ _).1, (cF_0 _ _ _).2, hT115⟩)⟩
      · skip
        refine TT.call (cd := cd153) rfl rfl rfl (by decide) rfl ((u_takeNumber X hT (τ := (up2 τ 3 4 ((i + 1 : Nat) : Int))) (CT_w hC _ _ _ (by omega)) (up2_hit _ _ _ _) (by omega) 1 99).mono (fun _ _ h => h.1 hk2)) (fun r3 σ3 hq => ?_)
        rw [hq.1, hq.2]
        refine TT.steps (cd := cd153) 2 (c' := (50, [(2, 3), (0, ((nt : Nat) : Int)), (0, (UB cs n)), (0, ((n : Nat) : Int))], [(0, 0)], (cFail (up2 τ 3 4 ((i + 1 : Nat) : Int)) 1 (plc K S V (i + 1))))) rfl rfl ?_
        refine TT.ret (cd := cd153) rfl rfl rfl rfl (Or.inl ⟨rfl, ?_⟩)
        refine TT.steps (cd := cd25) 3 (c' := (77, [(2, 295), (0, (((6 * bi) + nt : Nat) : Int)), (0, 1), y], [(0, (((6 * bi) + nt : Nat) : Int)), (2, 304)], ρ)) rfl rfl ?_
        refine TT.aldN (cd := cd25) (304) ((6 * bi) + nt) rfl rfl rfl rfl (show (6 * bi) + nt < 12 by omega) ?_
        refine TT.top0 (z := ((n : Nat) : Int)) h304 ?_
        refine TT.steps (cd := cd25) 2 (c' := ((if decide (¬ ((n : Nat) : Int) = 8) = true then 94 else 80), [(2, 295), (0, (((6 * bi) + nt : Nat) : Int)), (0, 1), y], [], ρ)) rfl rfl ?_
        refine TT.br (p := ¬ ((n : Nat) : Int) = 8) (fun h104 => ?_) (fun h104 => absurd (show ¬ ((n : Nat) : Int) = 8 by omega) h104)
        refine TT.steps (cd := cd25) 2 (c' := (96, [(2, 295), (0, (((6 * bi) + nt : Nat) : Int)), (0, 1), y], [(1, 418330731890), (2, 295)], ρ)) rfl rfl ?_
        refine TT.call (cd := cd25) rfl rfl rfl (by decide) rfl (r_mustO X (ρ := ρ) hT hR (k0 := 7) (by decide) (by omega) hk1) (fun r105 σ105 hq => ?_)
        obtain ⟨hq1, hR105, hF105⟩ := hq
        replace hR105 : RTk f N K S V P (i + 1) σ105 := hR105
        rw [hq1]
        refine TT.steps (cd := cd25) 3 (c' := (100, [(2, 295), (0, (((6 * bi) + nt : Nat) : Int)), (0, 1), y], [(0, 99), (0, 1), (2, 295)], σ105)) rfl rfl ?_
        refine TT.call (cd := cd25) rfl rfl rfl (by decide) rfl (r_numN X 1 99 (ρ := σ105) hT hR105 hk2) (fun r106 σ106 hq => ?_)
        obtain ⟨x106, hq1, hT106, hF106⟩ := hq
        rw [hq1]
        refine TT.steps (cd := cd25) 3 (c' := (104, [(2, 295), (0, (((6 * bi) + nt : Nat) : Int)), (0, 1), (0, x106)], [(0, (σ106 295 8))], σ106)) rfl rfl ?_
        refine TT.top0 (z := 1) hT106.1 ?_
        refine TT.steps (cd := cd25) 3 (c' := (111, [(2, 295), (0, (((6 * bi) + nt : Nat) : Int)), (0, 1), (0, x106)], [(0, (σ106 295 8))], σ106)) rfl rfl ?_
        refine TT.top0 (z := 1) hT106.1 ?_
        refine TT.steps (cd := cd25) 8 (c' := (123, [(2, 295), (0, (((6 * bi) + nt : Nat) : Int)), (0, 0), (0, x106)], [(0, (σ106 295 8))], σ106)) rfl rfl ?_
        refine TT.top0 (z := 1) hT106.1 ?_
        refine TT.steps (cd := cd25) 1 (c' := (133, [(2, 295), (0, (((6 * bi) + nt : Nat) : Int)), (0, 0), (0, x106)], [], σ106)) rfl rfl ?_
        exact TT.ret (cd := cd25) rfl rfl rfl rfl ⟨rfl, (CFR_f (CFR_3 (CFR.refl _ _) _ _ (by decide)) _ _), (RFR_B (RFR_A (RFR.refl _ _) hF105) hF106), Or.inr (Or.inr ⟨rfl, 1, (plc K S V (i + 1)), by decide, (cF_0 _ _ _).1, (cF_0 _ _ _).2, hT106⟩)⟩
    · refine TT.call (cd := cd153) rfl rfl rfl (by decide) rfl ((u_take X hT (τ := τ) hC h34 (by omega) 7).mono (fun _ _ h => h.2 hk1)) (fun r13 σ13 hq => ?_)
      rw [hq.1, hq.2]
      refine TT.steps (cd := cd153) 2 (c' := (50, [(2, 3), (0, ((nt : Nat) : Int)), (0, (UB cs n)), (0, ((n : Nat) : Int))], [(0, 0)], (cFail τ 1 (plc K S V i)))) rfl rfl ?_
      refine TT.ret (cd := cd153) rfl rfl rfl rfl (Or.inl ⟨rfl, ?_⟩)
      refine TT.steps (cd := cd25) 3 (c' := (77, [(2, 295), (0, (((6 * bi) + nt : Nat) : Int)), (0, 1), y], [(0, (((6 * bi) + nt : Nat) : Int)), (2, 304)], ρ)) rfl rfl ?_
      refine TT.aldN (cd := cd25) (304) ((6 * bi) + nt) rfl rfl rfl rfl (show (6 * bi) + nt < 12 by omega) ?_
      refine TT.top0 (z := ((n : Nat) : Int)) h304 ?_
      refine TT.steps (cd := cd25) 2 (c' := ((if decide (¬ ((n : Nat) : Int) = 8) = true then 94 else 80), [(2, 295), (0, (((6 * bi) + nt : Nat) : Int)), (0, 1), y], [], ρ)) rfl rfl ?_
      refine TT.br (p := ¬ ((n : Nat) : Int) = 8) (fun h114 => ?_) (fun h114 => absurd (show ¬ ((n : Nat) : Int) = 8 by omega) h114)
      refine TT.steps (cd := cd25) 2 (c' := (96, [(2, 295), (0, (((6 * bi) + nt : Nat) : Int)), (0, 1), y], [(1, 418330731890), (2, 295)], ρ)) rfl rfl ?_
      refine TT.call (cd := cd25) rfl rfl rfl (by decide) rfl (r_mustN X (ρ := ρ) hT hR (k0 := 7) (by decide) hk1) (fun r115 σ115 hq => ?_)
      obtain ⟨hq1, hT115, hF115⟩ := hq
      rw [hq1]
      refine TT.steps (cd := cd25) 3 (c' := (100, [(2, 295), (0, (((6 * bi) + nt : Nat) : Int)), (0, 1), y], [(0, 99), (0, 1), (2, 295)], σ115)) rfl rfl ?_
      refine TT.call (cd := cd25) rfl rfl rfl (by decide) rfl (r_numF X 1 99 (ρ := σ115) (by rw [hT115.1]; decide)) (fun r116 σ116 hq => ?_)
      rw [hq.1, hq.2]
      refine TT.steps (cd := cd25) 3 (c' := (104, [(2, 295), (0, (((6 * bi) + nt : Nat) : Int)), (0, 1), (0, 0)], [(0, (σ115 295 8))], σ115)) rfl rfl ?_
      refine TT.top0 (z := 1) hT115.1 ?_
      refine TT.steps (cd := cd25) 3 (c' := (111, [(2, 295), (0, (((6 * bi) + nt : Nat) : Int)), (0, 1), (0, 0)], [(0, (σ115 295 8))], σ115)) rfl rfl ?_
      refine TT.top0 (z := 1) hT115.1 ?_
      refine TT.steps (cd := cd25) 8 (c' := (123, [(2, 295), (0, (((6 * bi) + nt : Nat) : Int)), (0, 0), (0, 0)], [(0, (σ115 295 8))], σ115)) rfl rfl ?_
      refine TT.top0 (z := 1) hT115.1 ?_
      refine TT.steps (cd := cd25) 1 (c' := (133, [(2, 295), (0, (((6 * bi) + nt : Nat) : Int)), (0, 0), (0, 0)], [], σ115)) rfl rfl ?_
      exact TT.ret (cd := cd25) rfl rfl rfl rfl ⟨rfl, (CFR_f (CFR.refl _ _) _ _), (RFR_B (RFR.refl _ _) hF115), Or.inr (Or.inr ⟨rfl, 1, (plc K S V i), by decide, (cF_0 _ _ _).1, (cF_0 _ _ _).2, hT115⟩)⟩
