/-! A station, the minutes of a stop: both parsers. -/
theorem Z_station_8 (X : AX) {f : Nat → Int} {N c i : Nat} {K : Nat → Int} {S : Nat → Nat} {V : Nat → Int} {P : Nat → Nat} {bi np nt ns : Nat} {L : Nat → Nat} {C : Nat → Nat → Nat} {τ ρ : AH} (hX : PX f N c K S V P 8 bi np nt ns L C i τ ρ) (hk0 : K i = 1) : TT X 150 (0, [(2, 3), (9, 0)], [], τ) (fun r τ' => TT X 22 (0, [(2, 295)], [], ρ) (fun r' ρ' => r' = none ∧ CFR 8 τ τ' ∧ RFR bi ρ ρ' ∧ OUT f N c K S V P 8 bi r τ' ρ')) := by
  obtain ⟨hT, ⟨hC, h30, h31⟩, h34, hi, h33, hR, ⟨h32, h9⟩, hb2, hD⟩ := id hX
  obtain ⟨⟨⟨d1, d2, d3, d4⟩, ⟨m0, m1, m2⟩, ⟨n2, n1, n0, s1, s2⟩, hTr, hCa, hAf, hPr, hDi⟩, ⟨hN0, hN1, hN2⟩, hPD⟩ := id hD
  refine TT.steps (cd := cd150) 2 (c' := (2, [(2, 3), (9, 0)], [(2, (τ 3 3))], τ)) rfl rfl ?_
  refine TT.top0 (z := 8) h33 ?_
  refine TT.steps (cd := cd150) 1 (c' := (3, [(2, 3), (9, 0)], [(0, (τ 8 1))], τ)) rfl rfl ?_
  refine TT.top0 (z := ((ns : Nat) : Int)) d1 ?_
  refine TT.steps (cd := cd150) 4 (c' := ((if decide (((ns : Nat) : Int) < 14) = true then 11 else 7), [(2, 3), (0, ((ns : Nat) : Int))], [], τ)) rfl rfl ?_
  refine TT.br (p := ((ns : Nat) : Int) < 14) (fun h1 => ?_) (fun h1 => ?_)
  · refine TT.steps (cd := cd150) 2 (c' := (13, [(2, 3), (0, ((ns : Nat) : Int))], [(0, 1), (2, 3)], τ)) rfl rfl ?_
    have hl1 : i < c := td_lt hT (by omega) ⟨by omega, by omega⟩
    refine TT.call (cd := cd150) rfl rfl rfl (by decide) rfl ((u_take X hT (τ := τ) hC h34 (by omega) 1).mono (fun _ _ h => h.1 hk0)) (fun r2 σ2 hq => ?_)
    rw [hq.1, hq.2]
    refine TT.steps (cd := cd150) 2 (c' := (16, [(2, 3), (0, ((ns : Nat) : Int))], [(2, 3)], (up2 τ 3 4 ((i + 1 : Nat) : Int)))) rfl rfl ?_
    by_cases hk2 : K (i + 1) = 14
    · skip
      obtain ⟨q0_2, e0_2⟩ : ∃ z, fstI (fun k => decide (τ 9 k = V (i + 1))) ns 0 = z := ⟨_, rfl⟩
      obtain ⟨q1_2, e1_2⟩ : ∃ z, fstI (fun k => decide (τ 10 k = V (i + 1))) nt 0 = z := ⟨_, rfl⟩
      obtain ⟨q2_2, e2_2⟩ : ∃ z, fstI (fun k => decide (τ 11 k = V (i + 1))) np 0 = z := ⟨_, rfl⟩
      by_cases hqq2 : q0_2 = -1 ∧ q1_2 = -1 ∧ q2_2 = -1
      · have hl2 : i + 1 < c := td_lt hT (by omega) ⟨by omega, by omega⟩
        refine TT.call (cd := cd150) rfl rfl rfl (by decide) rfl (u_newName3_8 X hT (τ := (up2 τ 3 4 ((i + 1 : Nat) : Int))) (CT_w hC _ _ _ (by omega)) (up2_hit _ _ _ _) (by omega) ((up2_by _ _ (j := 4) (j' := 3) _ (by decide)).trans h33) ((up2_far (k := 3) (k' := 8) _ _ _ _ (by decide)).trans d1) n0 ((up2_far (k := 3) (k' := 8) _ _ _ _ (by decide)).trans d2) n1 ((up2_far (k := 3) (k' := 30) _ _ _ _ (by decide)).trans d4) n2 q0_2 q1_2 q2_2 (by simp only [up2_far _ _ _ _ (show 9 ≠ 3 by decide)]; exact e0_2) (by simp only [up2_far _ _ _ _ (show 10 ≠ 3 by decide)]; exact e1_2) (by simp only [up2_far _ _ _ _ (show 11 ≠ 3 by decide)]; exact e2_2) hk2 hqq2) (fun r4 σ4 hq => ?_)
        rw [hq.1, hq.2]
        refine TT.steps (cd := cd150) 3 (c' := (22, [(2, 3), (0, ((ns : Nat) : Int))], [(2, ((up2 (up2 (up2 τ 3 4 ((i + 1 : Nat) : Int)) 3 5 (V (i + 1))) 3 4 ((i + 2 : Nat) : Int)) 3 3))], (up2 (up2 (up2 τ 3 4 ((i + 1 : Nat) : Int)) 3 5 (V (i + 1))) 3 4 ((i + 2 : Nat) : Int)))) rfl rfl ?_
        refine TT.top0 (z := 8) ((((up2_by _ _ (j := 4) (j' := 3) _ (by decide)).trans (up2_by _ _ (j := 5) (j' := 3) _ (by decide))).trans (up2_by _ _ (j := 4) (j' := 3) _ (by decide))).trans h33) ?_
        refine TT.steps (cd := cd150) 4 (c' := (26, [(2, 3), (0, ((ns : Nat) : Int))], [(0, ((up2 (up2 (up2 τ 3 4 ((i + 1 : Nat) : Int)) 3 5 (V (i + 1))) 3 4 ((i + 2 : Nat) : Int)) 3 5)), (0, ((ns : Nat) : Int)), (2, 9)], (up2 (up2 (up2 τ 3 4 ((i + 1 : Nat) : Int)) 3 5 (V (i + 1))) 3 4 ((i + 2 : Nat) : Int)))) rfl rfl ?_
        refine TT.top0 (z := (V (i + 1))) ((up2_by _ _ (j := 4) (j' := 5) _ (by decide)).trans (up2_hit _ _ _ _)) ?_
        refine TT.astN (cd := cd150) (9) (ns) rfl rfl rfl rfl (show ns < 14 by omega) ?_
        refine TT.steps (cd := cd150) 2 (c' := (29, [(2, 3), (0, ((ns : Nat) : Int))], [(2, ((up2 (up2 (up2 (up2 τ 3 4 ((i + 1 : Nat) : Int)) 3 5 (V (i + 1))) 3 4 ((i + 2 : Nat) : Int)) 9 ns (V (i + 1))) 3 3))], (up2 (up2 (up2 (up2 τ 3 4 ((i + 1 : Nat) : Int)) 3 5 (V (i + 1))) 3 4 ((i + 2 : Nat) : Int)) 9 ns (V (i + 1))))) rfl rfl ?_
        refine TT.top0 (z := 8) (((((up2_far (k := 9) (k' := 3) _ _ _ _ (by decide)).trans (up2_by _ _ (j := 4) (j' := 3) _ (by decide))).trans (up2_by _ _ (j := 5) (j' := 3) _ (by decide))).trans (up2_by _ _ (j := 4) (j' := 3) _ (by decide))).trans h33) ?_
        refine TT.steps (cd := cd150) 3 (c' := (32, [(2, 3), (0, ((ns : Nat) : Int))], [(0, (aAdd ((ns : Nat) : Int) 1)), (2, 8)], (up2 (up2 (up2 (up2 τ 3 4 ((i + 1 : Nat) : Int)) 3 5 (V (i + 1))) 3 4 ((i + 2 : Nat) : Int)) 9 ns (V (i + 1))))) rfl rfl ?_
        refine TT.top0 (z := ((ns + 1 : Nat) : Int)) (aAdd_n (a := ns) (b := 1) (by omega)) ?_
        refine TT.steps (cd := cd150) 2 (c' := (34, [(2, 3), (0, ((ns : Nat) : Int))], [(0, 1)], (up2 (up2 (up2 (up2 (up2 τ 3 4 ((i + 1 : Nat) : Int)) 3 5 (V (i + 1))) 3 4 ((i + 2 : Nat) : Int)) 9 ns (V (i + 1))) 8 1 ((ns + 1 : Nat) : Int)))) rfl rfl ?_
        refine TT.ret (cd := cd150) rfl rfl rfl rfl ?_
        refine TT.steps (cd := cd22) 5 (c' := (5, [(2, 295)], [(0, (ρ 295 32)), (2, 297), (2, 295)], ρ)) rfl rfl ?_
        refine TT.top0 (z := ((bi : Nat) : Int)) h32 ?_
        refine TT.aldN (cd := cd22) (297) (bi) rfl rfl rfl rfl (show bi < 2 by omega) ?_
        refine TT.top0 (z := ((ns : Nat) : Int)) m0 ?_
        refine TT.steps (cd := cd22) 2 (c' := ((if decide (¬ ((ns : Nat) : Int) = 14) = true then 10 else 8), [(2, 295)], [(2, 295)], ρ)) rfl rfl ?_
        refine TT.br (p := ¬ ((ns : Nat) : Int) = 14) (fun h105 => ?_) (fun h105 => absurd (show ¬ ((ns : Nat) : Int) = 14 by omega) h105)
        refine TT.steps (cd := cd22) 1 (c' := (11, [(2, 295)], [(0, 0), (2, 295)], ρ)) rfl rfl ?_
        refine TT.call (cd := cd22) rfl rfl rfl (by decide) rfl (r_cntO X (ρ := ρ) hT hR (by omega)) (fun r106 σ106 hq => ?_)
        obtain ⟨hq1, hR106, hF106⟩ := hq
        replace hR106 : RTk f N K S V P (i + 1) σ106 := hR106
        rw [hq1]
        refine TT.steps (cd := cd22) 6 (c' := (19, [(2, 295)], [(0, (σ106 295 32)), (0, 14), (2, 298)], σ106)) rfl rfl ?_
        refine TT.top0 (z := ((bi : Nat) : Int)) ((hF106 _ (32) (by omega)).trans h32) ?_
        refine TT.steps (cd := cd22) 1 (c' := (20, [(2, 295)], [(0, (aMul 14 ((bi : Nat) : Int))), (2, 298)], σ106)) rfl rfl ?_
        refine TT.top0 (z := ((14 * bi : Nat) : Int)) (aMul_n (a := 14) (b := bi) (by omega)) ?_
        refine TT.steps (cd := cd22) 4 (c' := (24, [(2, 295)], [(0, (σ106 295 32)), (2, 297), (0, ((14 * bi : Nat) : Int)), (2, 298)], σ106)) rfl rfl ?_
        refine TT.top0 (z := ((bi : Nat) : Int)) ((hF106 _ (32) (by omega)).trans h32) ?_
        refine TT.aldN (cd := cd22) (297) (bi) rfl rfl rfl rfl (show bi < 2 by omega) ?_
        refine TT.top0 (z := ((ns : Nat) : Int)) ((hF106 297 (bi) (by omega)).trans m0) ?_
        refine TT.steps (cd := cd22) 1 (c' := (26, [(2, 295)], [(0, (aAdd ((14 * bi : Nat) : Int) ((ns : Nat) : Int))), (2, 298)], σ106)) rfl rfl ?_
        refine TT.top0 (z := (((14 * bi) + ns : Nat) : Int)) (aAdd_n (a := 14 * bi) (b := ns) (by omega)) ?_
        refine TT.steps (cd := cd22) 1 (c' := (27, [(2, 295)], [(2, 295), (0, (((14 * bi) + ns : Nat) : Int)), (2, 298)], σ106)) rfl rfl ?_
        refine TT.call (cd := cd22) rfl rfl rfl (by decide) rfl ((r_fre X (ρ := σ106) hT hR106 ((hF106 _ (32) (by omega)).trans h32) hb2 ((hF106 297 (bi) (by omega)).trans m0) n0 ((hF106 300 (bi) (by omega)).trans m1) n1 ((hF106 307 (bi) (by omega)).trans m2) n2 q0_2 q1_2 q2_2 ((rx_eq (τ := τ) (A := 9) (fun j hj => by rw [(hF106 298 (14 * bi + j) (by omega))]; exact hN0 j hj) ((rl_name hR106 (rl_no17 hR106 (by omega)).2.1).1 hk2).2.2).trans e0_2) ((rx_eq (τ := τ) (A := 10) (fun j hj => by rw [(hF106 301 (6 * bi + j) (by omega))]; exact hN1 j hj) ((rl_name hR106 (rl_no17 hR106 (by omega)).2.1).1 hk2).2.2).trans e1_2) ((rx_eq (τ := τ) (A := 11) (fun j hj => by rw [(hF106 308 (10 * bi + j) (by omega))]; exact hN2 j hj) ((rl_name hR106 (rl_no17 hR106 (by omega)).2.1).1 hk2).2.2).trans e2_2) (by omega) hk2).mono (fun _ _ h => h.2 hqq2)) (fun r107 σ107 hq => ?_)
        obtain ⟨hq1, hR107, hF107⟩ := hq
        replace hR107 : RTk f N K S V P (i + 2) σ107 := hR107
        rw [hq1]
        refine TT.lastN (cd := cd22) (298) ((14 * bi) + ns) rfl rfl rfl rfl (show (14 * bi) + ns < 28 by omega) ?_
        refine TT.steps (cd := cd22) 2 (c' := (31, [(2, 295)], [(0, ((up2 σ107 298 ((14 * bi) + ns) (σ106 295 7)) 295 8))], (up2 σ107 298 ((14 * bi) + ns) (σ106 295 7)))) rfl rfl ?_
        refine TT.top0 (z := 0) ((((up2_far (k := 298) (k' := 295) _ _ _ _ (by decide)).trans (hF107 _ (8) (by omega))).trans (hF106 _ (8) (by omega))).trans hR.1) ?_
        refine TT.steps (cd := cd22) 5 (c' := (36, [(2, 295)], [(0, ((up2 σ107 298 ((14 * bi) + ns) (σ106 295 7)) 295 32)), (2, 297)], (up2 σ107 298 ((14 * bi) + ns) (σ106 295 7)))) rfl rfl ?_
        refine TT.top0 (z := ((bi : Nat) : Int)) ((((up2_far (k := 298) (k' := 295) _ _ _ _ (by decide)).trans (hF107 _ (32) (by omega))).trans (hF106 _ (32) (by omega))).trans h32) ?_
        refine TT.steps (cd := cd22) 1 (c' := (37, [(2, 295)], [(0, ((bi : Nat) : Int)), (2, 297), (0, ((bi : Nat) : Int)), (2, 297)], (up2 σ107 298 ((14 * bi) + ns) (σ106 295 7)))) rfl rfl ?_
        refine TT.aldN (cd := cd22) (297) (bi) rfl rfl rfl rfl (show bi < 2 by omega) ?_
        refine TT.top0 (z := ((ns : Nat) : Int)) ((((up2_far (k := 298) (k' := 297) _ _ _ _ (by decide)).trans (hF107 297 (bi) (by omega))).trans (hF106 297 (bi) (by omega))).trans m0) ?_
        refine TT.steps (cd := cd22) 2 (c' := (40, [(2, 295)], [(0, (aAdd ((ns : Nat) : Int) 1)), (0, ((bi : Nat) : Int)), (2, 297)], (up2 σ107 298 ((14 * bi) + ns) (σ106 295 7)))) rfl rfl ?_
        refine TT.top0 (z := ((ns + 1 : Nat) : Int)) (aAdd_n (a := ns) (b := 1) (by omega)) ?_
        refine TT.astN (cd := cd22) (297) (bi) rfl rfl rfl rfl (show bi < 2 by omega) ?_
        refine TT.ret (cd := cd22) rfl rfl rfl rfl ⟨rfl, (CFR_d (CFR_d (CFR_3 (CFR_3 (CFR_3 (CFR.refl _ _) _ _ (by decide)) _ _ (by decide)) _ _ (by decide)) _ _ _ (by omega) (by omega)) _ _ _ (by omega) (by omega)), (RFR_w (RFR_w (RFR_A (RFR_A (RFR.refl _ _) hF106) hF107) _ _ _ (ib298 bi (by omega))) _ _ _ (ib297 bi)), Or.inl ⟨rfl, i + 2, np, nt, ns + 1, L, C, hT, ⟨(CT_w (CT_w (CT_w (CT_w (CT_w hC _ _ _ (by omega)) _ _ _ (by omega)) _ _ _ (by omega)) _ _ _ (by omega)) _ _ _ (by omega)), ((((((up2_far (k := 8) (k' := 3) _ _ _ _ (by decide)).trans (up2_far (k := 9) (k' := 3) _ _ _ _ (by decide))).trans (up2_by _ _ (j := 4) (j' := 0) _ (by decide))).trans (up2_by _ _ (j := 5) (j' := 0) _ (by decide))).trans (up2_by _ _ (j := 4) (j' := 0) _ (by decide))).trans h30), ((((((up2_far (k := 8) (k' := 3) _ _ _ _ (by decide)).trans (up2_far (k := 9) (k' := 3) _ _ _ _ (by decide))).trans (up2_by _ _ (j := 4) (j' := 1) _ (by decide))).trans (up2_by _ _ (j := 5) (j' := 1) _ (by decide))).trans (up2_by _ _ (j := 4) (j' := 1) _ (by decide))).trans h31)⟩, (((up2_far (k := 8) (k' := 3) _ _ _ _ (by decide)).trans (up2_far (k := 9) (k' := 3) _ _ _ _ (by decide))).trans (up2_hit _ _ _ _)), (by omega), ((((((up2_far (k := 8) (k' := 3) _ _ _ _ (by decide)).trans (up2_far (k := 9) (k' := 3) _ _ _ _ (by decide))).trans (up2_by _ _ (j := 4) (j' := 3) _ (by decide))).trans (up2_by _ _ (j := 5) (j' := 3) _ (by decide))).trans (up2_by _ _ (j := 4) (j' := 3) _ (by decide))).trans h33), (RTk_w (RTk_w hR107 _ _ _ (by decide)) _ _ _ (by decide)), ⟨(((((up2_far (k := 297) (k' := 295) _ _ _ _ (by decide)).trans (up2_far (k := 298) (k' := 295) _ _ _ _ (by decide))).trans (hF107 _ (32) (by omega))).trans (hF106 _ (32) (by omega))).trans h32), (((((up2_far (k := 297) (k' := 295) _ _ _ _ (by decide)).trans (up2_far (k := 298) (k' := 295) _ _ _ _ (by decide))).trans (hF107 _ (9) (by omega))).trans (hF106 _ (9) (by omega))).trans h9)⟩, hb2, ?_⟩⟩
        refine DRl_st hD (by omega) (fun K j h1 h2 h3 => by rw [up2_nq _ (by omega), up2_nq _ (by omega), up2_nq _ (by omega), up2_nq _ (by omega), up2_nq _ (by omega)]) (fun K j h1 h2 h3 => by rw [up2_nq _ (by omega), up2_nq _ (by omega), hF107 K j (by omega), hF106 K j (by omega)]) ?_ ?_ ?_
        · rw [up2_hit]
        · rw [up2_hit]
        · rw [up2_nq _ (by omega), up2_hit, up2_nq _ (by omega), up2_hit]; exact ((rl_name hR106 (rl_no17 hR106 (by omega)).2.1).1 hk2).2.2
      · have hl2 : i + 1 < c := td_lt hT (by omega) ⟨by omega, by omega⟩
        refine TT.call (cd := cd150) rfl rfl rfl (by decide) rfl (u_newName2_8 X hT (τ := (up2 τ 3 4 ((i + 1 : Nat) : Int))) (CT_w hC _ _ _ (by omega)) (up2_hit _ _ _ _) (by omega) ((up2_by _ _ (j := 4) (j' := 3) _ (by decide)).trans h33) ((up2_far (k := 3) (k' := 8) _ _ _ _ (by decide)).trans d1) n0 ((up2_far (k := 3) (k' := 8) _ _ _ _ (by decide)).trans d2) n1 ((up2_far (k := 3) (k' := 30) _ _ _ _ (by decide)).trans d4) n2 q0_2 q1_2 q2_2 (by simp only [up2_far _ _ _ _ (show 9 ≠ 3 by decide)]; exact e0_2) (by simp only [up2_far _ _ _ _ (show 10 ≠ 3 by decide)]; exact e1_2) (by simp only [up2_far _ _ _ _ (show 11 ≠ 3 by decide)]; exact e2_2) hk2 hqq2) (fun r5 σ5 hq => ?_)
        rw [hq.1, hq.2]
        refine TT.steps (cd := cd150) 2 (c' := (19, [(2, 3), (0, ((ns : Nat) : Int))], [(0, 0)], (cFail (up2 (up2 τ 3 4 ((i + 1 : Nat) : Int)) 3 5 (V (i + 1))) 2 ((S (i + 1) : Nat) : Int)))) rfl rfl ?_
        refine TT.ret (cd := cd150) rfl rfl rfl rfl ?_
        have hpl : plc K S V (i + 1) = ((S (i + 1) : Nat) : Int) := by unfold plc; rw [if_neg (by omega), Int.add_zero]
        rw [← hpl]
        refine TT.steps (cd := cd22) 5 (c' := (5, [(2, 295)], [(0, (ρ 295 32)), (2, 297), (2, 295)], ρ)) rfl rfl ?_
        refine TT.top0 (z := ((bi : Nat) : Int)) h32 ?_
        refine TT.aldN (cd := cd22) (297) (bi) rfl rfl rfl rfl (show bi < 2 by omega) ?_
        refine TT.top0 (z := ((ns : Nat) : Int)) m0 ?_
        refine TT.steps (cd := cd22) 2 (c' := ((if decide (¬ ((ns : Nat) : Int) = 14) = true then 10 else 8), [(2, 295)], [(2, 295)], ρ)) rfl rfl ?_
        refine TT.br (p := ¬ ((ns : Nat) : Int) = 14) (fun h106 => ?_) (fun h106 => absurd (show ¬ ((ns : Nat) : Int) = 14 by omega) h106)
        refine TT.steps (cd := cd22) 1 (c' := (11, [(2, 295)], [(0, 0), (2, 295)], ρ)) rfl rfl ?_
        refine TT.call (cd := cd22) rfl rfl rfl (by decide) rfl (r_cntO X (ρ := ρ) hT hR (by omega)) (fun r107 σ107 hq => ?_)
        obtain ⟨hq1, hR107, hF107⟩ := hq
        replace hR107 : RTk f N K S V P (i + 1) σ107 := hR107
        rw [hq1]
        refine TT.steps (cd := cd22) 6 (c' := (19, [(2, 295)], [(0, (σ107 295 32)), (0, 14), (2, 298)], σ107)) rfl rfl ?_
        refine TT.top0 (z := ((bi : Nat) : Int)) ((hF107 _ (32) (by omega)).trans h32) ?_
        refine TT.steps (cd := cd22) 1 (c' := (20, [(2, 295)], [(0, (aMul 14 ((bi : Nat) : Int))), (2, 298)], σ107)) rfl rfl ?_
        refine TT.top0 (z := ((14 * bi : Nat) : Int)) (aMul_n (a := 14) (b := bi) (by omega)) ?_
        refine TT.steps (cd := cd22) 4 (c' := (24, [(2, 295)], [(0, (σ107 295 32)), (2, 297), (0, ((14 * bi : Nat) : Int)), (2, 298)], σ107)) rfl rfl ?_
        refine TT.top0 (z := ((bi : Nat) : Int)) ((hF107 _ (32) (by omega)).trans h32) ?_
        refine TT.aldN (cd := cd22) (297) (bi) rfl rfl rfl rfl (show bi < 2 by omega) ?_
        refine TT.top0 (z := ((ns : Nat) : Int)) ((hF107 297 (bi) (by omega)).trans m0) ?_
        refine TT.steps (cd := cd22) 1 (c' := (26, [(2, 295)], [(0, (aAdd ((14 * bi : Nat) : Int) ((ns : Nat) : Int))), (2, 298)], σ107)) rfl rfl ?_
        refine TT.top0 (z := (((14 * bi) + ns : Nat) : Int)) (aAdd_n (a := 14 * bi) (b := ns) (by omega)) ?_
        refine TT.steps (cd := cd22) 1 (c' := (27, [(2, 295)], [(2, 295), (0, (((14 * bi) + ns : Nat) : Int)), (2, 298)], σ107)) rfl rfl ?_
        refine TT.call (cd := cd22) rfl rfl rfl (by decide) rfl ((r_fre X (ρ := σ107) hT hR107 ((hF107 _ (32) (by omega)).trans h32) hb2 ((hF107 297 (bi) (by omega)).trans m0) n0 ((hF107 300 (bi) (by omega)).trans m1) n1 ((hF107 307 (bi) (by omega)).trans m2) n2 q0_2 q1_2 q2_2 ((rx_eq (τ := τ) (A := 9) (fun j hj => by rw [(hF107 298 (14 * bi + j) (by omega))]; exact hN0 j hj) ((rl_name hR107 (rl_no17 hR107 (by omega)).2.1).1 hk2).2.2).trans e0_2) ((rx_eq (τ := τ) (A := 10) (fun j hj => by rw [(hF107 301 (6 * bi + j) (by omega))]; exact hN1 j hj) ((rl_name hR107 (rl_no17 hR107 (by omega)).2.1).1 hk2).2.2).trans e1_2) ((rx_eq (τ := τ) (A := 11) (fun j hj => by rw [(hF107 308 (10 * bi + j) (by omega))]; exact hN2 j hj) ((rl_name hR107 (rl_no17 hR107 (by omega)).2.1).1 hk2).2.2).trans e2_2) (by omega) hk2).mono (fun _ _ h => h.1 hqq2)) (fun r108 σ108 hq => ?_)
        obtain ⟨x108, hq1, hT108, hF108⟩ := hq
        rw [hq1]
        refine TT.lastN (cd := cd22) (298) ((14 * bi) + ns) rfl rfl rfl rfl (show (14 * bi) + ns < 28 by omega) ?_
        refine TT.steps (cd := cd22) 2 (c' := (31, [(2, 295)], [(0, ((up2 σ108 298 ((14 * bi) + ns) x108) 295 8))], (up2 σ108 298 ((14 * bi) + ns) x108))) rfl rfl ?_
        refine TT.top0 (z := 2) ((up2_far (k := 298) (k' := 295) _ _ _ _ (by decide)).trans hT108.1) ?_
        refine TT.steps (cd := cd22) 1 (c' := (41, [(2, 295)], [], (up2 σ108 298 ((14 * bi) + ns) x108))) rfl rfl ?_
        exact TT.ret (cd := cd22) rfl rfl rfl rfl ⟨rfl, (CFR_f (CFR_3 (CFR_3 (CFR.refl _ _) _ _ (by decide)) _ _ (by decide)) _ _), (RFR_w (RFR_B (RFR_A (RFR.refl _ _) hF107) hF108) _ _ _ (ib298 bi (by omega))), Or.inr (Or.inr ⟨rfl, 2, (plc K S V (i + 1)), by decide, (cF_0 _ _ _).1, (cF_0 _ _ _).2, (FT_w hT108 _ _ _ (by decide))⟩)⟩
    · skip
      refine TT.call (cd := cd150) rfl rfl rfl (by decide) rfl (u_newName1_8 X hT (τ := (up2 τ 3 4 ((i + 1 : Nat) : Int))) (CT_w hC _ _ _ (by omega)) (up2_hit _ _ _ _) (by omega) ((up2_by _ _ (j := 4) (j' := 3) _ (by decide)).trans h33) ((up2_far (k := 3) (k' := 8) _ _ _ _ (by decide)).trans d1) n0 ((up2_far (k := 3) (k' := 8) _ _ _ _ (by decide)).trans d2) n1 ((up2_far (k := 3) (k' := 30) _ _ _ _ (by decide)).trans d4) n2 hk2) (fun r3 σ3 hq => ?_)
      rw [hq.1, hq.2]
      refine TT.steps (cd := cd150) 2 (c' := (19, [(2, 3), (0, ((ns : Nat) : Int))], [(0, 0)], (cFail (up2 τ 3 4 ((i + 1 : Nat) : Int)) 1 (plc K S V (i + 1))))) rfl rfl ?_
      refine TT.ret (cd := cd150) rfl rfl rfl rfl ?_
      refine TT.steps (cd := cd22) 5 (c' := (5, [(2, 295)], [(0, (ρ 295 32)), (2, 297), (2, 295)], ρ)) rfl rfl ?_
      refine TT.top0 (z := ((bi : Nat) : Int)) h32 ?_
      refine TT.aldN (cd := cd22) (297) (bi) rfl rfl rfl rfl (show bi < 2 by omega) ?_
      refine TT.top0 (z := ((ns : Nat) : Int)) m0 ?_
      refine TT.steps (cd := cd22) 2 (c' := ((if decide (¬ ((ns : Nat) : Int) = 14) = true then 10 else 8), [(2, 295)], [(2, 295)], ρ)) rfl rfl ?_
      refine TT.br (p := ¬ ((ns : Nat) : Int) = 14) (fun h104 => ?_) (fun h104 => absurd (show ¬ ((ns : Nat) : Int) = 14 by omega) h104)
      refine TT.steps (cd := cd22) 1 (c' := (11, [(2, 295)], [(0, 0), (2, 295)], ρ)) rfl rfl ?_
      refine TT.call (cd := cd22) rfl rfl rfl (by decide) rfl (r_cntO X (ρ := ρ) hT hR (by omega)) (fun r105 σ105 hq => ?_)
      obtain ⟨hq1, hR105, hF105⟩ := hq
      replace hR105 : RTk f N K S V P (i + 1) σ105 := hR105
      rw [hq1]
      refine TT.steps (cd := cd22) 6 (c' := (19, [(2, 295)], [(0, (σ105 295 32)), (0, 14), (2, 298)], σ105)) rfl rfl ?_
      refine TT.top0 (z := ((bi : Nat) : Int)) ((hF105 _ (32) (by omega)).trans h32) ?_
      refine TT.steps (cd := cd22) 1 (c' := (20, [(2, 295)], [(0, (aMul 14 ((bi : Nat) : Int))), (2, 298)], σ105)) rfl rfl ?_
      refine TT.top0 (z := ((14 * bi : Nat) : Int)) (aMul_n (a := 14) (b := bi) (by omega)) ?_
      refine TT.steps (cd := cd22) 4 (c' := (24, [(2, 295)], [(0, (σ105 295 32)), (2, 297), (0, ((14 * bi : Nat) : Int)), (2, 298)], σ105)) rfl rfl ?_
      refine TT.top0 (z := ((bi : Nat) : Int)) ((hF105 _ (32) (by omega)).trans h32) ?_
      refine TT.aldN (cd := cd22) (297) (bi) rfl rfl rfl rfl (show bi < 2 by omega) ?_
      refine TT.top0 (z := ((ns : Nat) : Int)) ((hF105 297 (bi) (by omega)).trans m0) ?_
      refine TT.steps (cd := cd22) 1 (c' := (26, [(2, 295)], [(0, (aAdd ((14 * bi : Nat) : Int) ((ns : Nat) : Int))), (2, 298)], σ105)) rfl rfl ?_
      refine TT.top0 (z := (((14 * bi) + ns : Nat) : Int)) (aAdd_n (a := 14 * bi) (b := ns) (by omega)) ?_
      refine TT.steps (cd := cd22) 1 (c' := (27, [(2, 295)], [(2, 295), (0, (((14 * bi) + ns : Nat) : Int)), (2, 298)], σ105)) rfl rfl ?_
      refine TT.call (cd := cd22) rfl rfl rfl (by decide) rfl (r_freN X hT hR105 hk2) (fun r106 σ106 hq => ?_)
      obtain ⟨x106, hq1, hT106, hF106⟩ := hq
      rw [hq1]
      refine TT.lastN (cd := cd22) (298) ((14 * bi) + ns) rfl rfl rfl rfl (show (14 * bi) + ns < 28 by omega) ?_
      refine TT.steps (cd := cd22) 2 (c' := (31, [(2, 295)], [(0, ((up2 σ106 298 ((14 * bi) + ns) x106) 295 8))], (up2 σ106 298 ((14 * bi) + ns) x106))) rfl rfl ?_
      refine TT.top0 (z := 1) ((up2_far (k := 298) (k' := 295) _ _ _ _ (by decide)).trans hT106.1) ?_
      refine TT.steps (cd := cd22) 1 (c' := (41, [(2, 295)], [], (up2 σ106 298 ((14 * bi) + ns) x106))) rfl rfl ?_
      exact TT.ret (cd := cd22) rfl rfl rfl rfl ⟨rfl, (CFR_f (CFR_3 (CFR.refl _ _) _ _ (by decide)) _ _), (RFR_w (RFR_B (RFR_A (RFR.refl _ _) hF105) hF106) _ _ _ (ib298 bi (by omega))), Or.inr (Or.inr ⟨rfl, 1, (plc K S V (i + 1)), by decide, (cF_0 _ _ _).1, (cF_0 _ _ _).2, (FT_w hT106 _ _ _ (by decide))⟩)⟩
  · refine TT.steps (cd := cd150) 2 (c' := (9, [(2, 3), (0, ((ns : Nat) : Int))], [(0, 5), (2, 3)], τ)) rfl rfl ?_
    refine TT.call (cd := cd150) rfl rfl rfl (by decide) rfl (u_failK X hT (τ := τ) hC h34 (by omega) 5 (by decide)) (fun r6 σ6 hq => ?_)
    rw [hq.1, hq.2]
    refine TT.ret (cd := cd150) rfl rfl rfl rfl ?_
    refine TT.steps (cd := cd22) 5 (c' := (5, [(2, 295)], [(0, (ρ 295 32)), (2, 297), (2, 295)], ρ)) rfl rfl ?_
    refine TT.top0 (z := ((bi : Nat) : Int)) h32 ?_
    refine TT.aldN (cd := cd22) (297) (bi) rfl rfl rfl rfl (show bi < 2 by omega) ?_
    refine TT.top0 (z := ((ns : Nat) : Int)) m0 ?_
    refine TT.steps (cd := cd22) 2 (c' := ((if decide (¬ ((ns : Nat) : Int) = 14) = true then 10 else 8), [(2, 295)], [(2, 295)], ρ)) rfl rfl ?_
    refine TT.br (p := ¬ ((ns : Nat) : Int) = 14) (fun h107 => absurd h107 (show ¬ (¬ ((ns : Nat) : Int) = 14) by omega)) (fun h107 => ?_)
    refine TT.steps (cd := cd22) 2 (c' := (11, [(2, 295)], [(0, 1), (2, 295)], ρ)) rfl rfl ?_
    refine TT.call (cd := cd22) rfl rfl rfl (by decide) rfl (r_cntF X (ρ := ρ) hT hR) (fun r108 σ108 hq => ?_)
    obtain ⟨hq1, hT108, hF108⟩ := hq
    rw [hq1]
    refine TT.steps (cd := cd22) 1 (c' := (13, [(2, 295)], [], σ108)) rfl rfl ?_
    exact TT.ret (cd := cd22) rfl rfl rfl rfl ⟨rfl, (CFR_f (CFR.refl _ _) _ _), (RFR_B (RFR.refl _ _) hF108), Or.inr (Or.inr ⟨rfl, 5, ((S i : Nat) : Int), by decide, (cF_0 _ _ _).1, (cF_0 _ _ _).2, hT108⟩)⟩
theorem Z_station_170 (X : AX) {f : Nat → Int} {N c i : Nat} {K : Nat → Int} {S : Nat → Nat} {V : Nat → Int} {P : Nat → Nat} {bi np nt ns : Nat} {L : Nat → Nat} {C : Nat → Nat → Nat} {τ ρ : AH} (hX : PX f N c K S V P 170 bi np nt ns L C i τ ρ) (hk0 : K i = 1) : TT X 150 (0, [(2, 3), (9, 0)], [], τ) (fun r τ' => TT X 22 (0, [(2, 295)], [], ρ) (fun r' ρ' => r' = none ∧ CFR 170 τ τ' ∧ RFR bi ρ ρ' ∧ OUT f N c K S V P 170 bi r τ' ρ')) := by
  obtain ⟨hT, ⟨hC, h30, h31⟩, h34, hi, h33, hR, ⟨h32, h9⟩, hb2, hD⟩ := id hX
  obtain ⟨⟨⟨d1, d2, d3, d4⟩, ⟨m0, m1, m2⟩, ⟨n2, n1, n0, s1, s2⟩, hTr, hCa, hAf, hPr, hDi⟩, ⟨hN0, hN1, hN2⟩, hPD⟩ := id hD
  refine TT.steps (cd := cd150) 2 (c' := (2, [(2, 3), (9, 0)], [(2, (τ 3 3))], τ)) rfl rfl ?_
  refine TT.top0 (z := 170) h33 ?_
  refine TT.steps (cd := cd150) 1 (c' := (3, [(2, 3), (9, 0)], [(0, (τ 170 1))], τ)) rfl rfl ?_
  refine TT.top0 (z := ((ns : Nat) : Int)) d1 ?_
  refine TT.steps (cd := cd150) 4 (c' := ((if decide (((ns : Nat) : Int) < 14) = true then 11 else 7), [(2, 3), (0, ((ns : Nat) : Int))], [], τ)) rfl rfl ?_
  refine TT.br (p := ((ns : Nat) : Int) < 14) (fun h1 => ?_) (fun h1 => ?_)
  · refine TT.steps (cd := cd150) 2 (c' := (13, [(2, 3), (0, ((ns : Nat) : Int))], [(0, 1), (2, 3)], τ)) rfl rfl ?_
    have hl1 : i < c := td_lt hT (by omega) ⟨by omega, by omega⟩
    refine TT.call (cd := cd150) rfl rfl rfl (by decide) rfl ((u_take X hT (τ := τ) hC h34 (by omega) 1).mono (fun _ _ h => h.1 hk0)) (fun r2 σ2 hq => ?_)
    rw [hq.1, hq.2]
    refine TT.steps (cd := cd150) 2 (c' := (16, [(2, 3), (0, ((ns : Nat) : Int))], [(2, 3)], (up2 τ 3 4 ((i + 1 : Nat) : Int)))) rfl rfl ?_
    by_cases hk2 : K (i + 1) = 14
    · skip
      obtain ⟨q0_2, e0_2⟩ : ∃ z, fstI (fun k => decide (τ 171 k = V (i + 1))) ns 0 = z := ⟨_, rfl⟩
      obtain ⟨q1_2, e1_2⟩ : ∃ z, fstI (fun k => decide (τ 172 k = V (i + 1))) nt 0 = z := ⟨_, rfl⟩
      obtain ⟨q2_2, e2_2⟩ : ∃ z, fstI (fun k => decide (τ 173 k = V (i + 1))) np 0 = z := ⟨_, rfl⟩
      by_cases hqq2 : q0_2 = -1 ∧ q1_2 = -1 ∧ q2_2 = -1
      · have hl2 : i + 1 < c := td_lt hT (by omega) ⟨by omega, by omega⟩
        refine TT.call (cd := cd150) rfl rfl rfl (by decide) rfl (u_newName3_170 X hT (τ := (up2 τ 3 4 ((i + 1 : Nat) : Int))) (CT_w hC _ _ _ (by omega)) (up2_hit _ _ _ _) (by omega) ((up2_by _ _ (j := 4) (j' := 3) _ (by decide)).trans h33) ((up2_far (k := 3) (k' := 170) _ _ _ _ (by decide)).trans d1) n0 ((up2_far (k := 3) (k' := 170) _ _ _ _ (by decide)).trans d2) n1 ((up2_far (k := 3) (k' := 192) _ _ _ _ (by decide)).trans d4) n2 q0_2 q1_2 q2_2 (by simp only [up2_far _ _ _ _ (show 171 ≠ 3 by decide)]; exact e0_2) (by simp only [up2_far _ _ _ _ (show 172 ≠ 3 by decide)]; exact e1_2) (by simp only [up2_far _ _ _ _ (show 173 ≠ 3 by decide)]; exact e2_2) hk2 hqq2) (fun r4 σ4 hq => ?_)
        rw [hq.1, hq.2]
        refine TT.steps (cd := cd150) 3 (c' := (22, [(2, 3), (0, ((ns : Nat) : Int))], [(2, ((up2 (up2 (up2 τ 3 4 ((i + 1 : Nat) : Int)) 3 5 (V (i + 1))) 3 4 ((i + 2 : Nat) : Int)) 3 3))], (up2 (up2 (up2 τ 3 4 ((i + 1 : Nat) : Int)) 3 5 (V (i + 1))) 3 4 ((i + 2 : Nat) : Int)))) rfl rfl ?_
        refine TT.top0 (z := 170) ((((up2_by _ _ (j := 4) (j' := 3) _ (by decide)).trans (up2_by _ _ (j := 5) (j' := 3) _ (by decide))).trans (up2_by _ _ (j := 4) (j' := 3) _ (by decide))).trans h33) ?_
        refine TT.steps (cd := cd150) 4 (c' := (26, [(2, 3), (0, ((ns : Nat) : Int))], [(0, ((up2 (up2 (up2 τ 3 4 ((i + 1 : Nat) : Int)) 3 5 (V (i + 1))) 3 4 ((i + 2 : Nat) : Int)) 3 5)), (0, ((ns : Nat) : Int)), (2, 171)], (up2 (up2 (up2 τ 3 4 ((i + 1 : Nat) : Int)) 3 5 (V (i + 1))) 3 4 ((i + 2 : Nat) : Int)))) rfl rfl ?_
        refine TT.top0 (z := (V (i + 1))) ((up2_by _ _ (j := 4) (j' := 5) _ (by decide)).trans (up2_hit _ _ _ _)) ?_
        refine TT.astN (cd := cd150) (171) (ns) rfl rfl rfl rfl (show ns < 14 by omega) ?_
        refine TT.steps (cd := cd150) 2 (c' := (29, [(2, 3), (0, ((ns : Nat) : Int))], [(2, ((up2 (up2 (up2 (up2 τ 3 4 ((i + 1 : Nat) : Int)) 3 5 (V (i + 1))) 3 4 ((i + 2 : Nat) : Int)) 171 ns (V (i + 1))) 3 3))], (up2 (up2 (up2 (up2 τ 3 4 ((i + 1 : Nat) : Int)) 3 5 (V (i + 1))) 3 4 ((i + 2 : Nat) : Int)) 171 ns (V (i + 1))))) rfl rfl ?_
        refine TT.top0 (z := 170) (((((up2_far (k := 171) (k' := 3) _ _ _ _ (by decide)).trans (up2_by _ _ (j := 4) (j' := 3) _ (by decide))).trans (up2_by _ _ (j := 5) (j' := 3) _ (by decide))).trans (up2_by _ _ (j := 4) (j' := 3) _ (by decide))).trans h33) ?_
        refine TT.steps (cd := cd150) 3 (c' := (32, [(2, 3), (0, ((ns : Nat) : Int))], [(0, (aAdd ((ns : Nat) : Int) 1)), (2, 170)], (up2 (up2 (up2 (up2 τ 3 4 ((i + 1 : Nat) : Int)) 3 5 (V (i + 1))) 3 4 ((i + 2 : Nat) : Int)) 171 ns (V (i + 1))))) rfl rfl ?_
        refine TT.top0 (z := ((ns + 1 : Nat) : Int)) (aAdd_n (a := ns) (b := 1) (by omega)) ?_
        refine TT.steps (cd := cd150) 2 (c' := (34, [(2, 3), (0, ((ns : Nat) : Int))], [(0, 1)], (up2 (up2 (up2 (up2 (up2 τ 3 4 ((i + 1 : Nat) : Int)) 3 5 (V (i + 1))) 3 4 ((i + 2 : Nat) : Int)) 171 ns (V (i + 1))) 170 1 ((ns + 1 : Nat) : Int)))) rfl rfl ?_
        refine TT.ret (cd := cd150) rfl rfl rfl rfl ?_
        refine TT.steps (cd := cd22) 5 (c' := (5, [(2, 295)], [(0, (ρ 295 32)), (2, 297), (2, 295)], ρ)) rfl rfl ?_
        refine TT.top0 (z := ((bi : Nat) : Int)) h32 ?_
        refine TT.aldN (cd := cd22) (297) (bi) rfl rfl rfl rfl (show bi < 2 by omega) ?_
        refine TT.top0 (z := ((ns : Nat) : Int)) m0 ?_
        refine TT.steps (cd := cd22) 2 (c' := ((if decide (¬ ((ns : Nat) : Int) = 14) = true then 10 else 8), [(2, 295)], [(2, 295)], ρ)) rfl rfl ?_
        refine TT.br (p := ¬ ((ns : Nat) : Int) = 14) (fun h105 => ?_) (fun h105 => absurd (show ¬ ((ns : Nat) : Int) = 14 by omega) h105)
        refine TT.steps (cd := cd22) 1 (c' := (11, [(2, 295)], [(0, 0), (2, 295)], ρ)) rfl rfl ?_
        refine TT.call (cd := cd22) rfl rfl rfl (by decide) rfl (r_cntO X (ρ := ρ) hT hR (by omega)) (fun r106 σ106 hq => ?_)
        obtain ⟨hq1, hR106, hF106⟩ := hq
        replace hR106 : RTk f N K S V P (i + 1) σ106 := hR106
        rw [hq1]
        refine TT.steps (cd := cd22) 6 (c' := (19, [(2, 295)], [(0, (σ106 295 32)), (0, 14), (2, 298)], σ106)) rfl rfl ?_
        refine TT.top0 (z := ((bi : Nat) : Int)) ((hF106 _ (32) (by omega)).trans h32) ?_
        refine TT.steps (cd := cd22) 1 (c' := (20, [(2, 295)], [(0, (aMul 14 ((bi : Nat) : Int))), (2, 298)], σ106)) rfl rfl ?_
        refine TT.top0 (z := ((14 * bi : Nat) : Int)) (aMul_n (a := 14) (b := bi) (by omega)) ?_
        refine TT.steps (cd := cd22) 4 (c' := (24, [(2, 295)], [(0, (σ106 295 32)), (2, 297), (0, ((14 * bi : Nat) : Int)), (2, 298)], σ106)) rfl rfl ?_
        refine TT.top0 (z := ((bi : Nat) : Int)) ((hF106 _ (32) (by omega)).trans h32) ?_
        refine TT.aldN (cd := cd22) (297) (bi) rfl rfl rfl rfl (show bi < 2 by omega) ?_
        refine TT.top0 (z := ((ns : Nat) : Int)) ((hF106 297 (bi) (by omega)).trans m0) ?_
        refine TT.steps (cd := cd22) 1 (c' := (26, [(2, 295)], [(0, (aAdd ((14 * bi : Nat) : Int) ((ns : Nat) : Int))), (2, 298)], σ106)) rfl rfl ?_
        refine TT.top0 (z := (((14 * bi) + ns : Nat) : Int)) (aAdd_n (a := 14 * bi) (b := ns) (by omega)) ?_
        refine TT.steps (cd := cd22) 1 (c' := (27, [(2, 295)], [(2, 295), (0, (((14 * bi) + ns : Nat) : Int)), (2, 298)], σ106)) rfl rfl ?_
        refine TT.call (cd := cd22) rfl rfl rfl (by decide) rfl ((r_fre X (ρ := σ106) hT hR106 ((hF106 _ (32) (by omega)).trans h32) hb2 ((hF106 297 (bi) (by omega)).trans m0) n0 ((hF106 300 (bi) (by omega)).trans m1) n1 ((hF106 307 (bi) (by omega)).trans m2) n2 q0_2 q1_2 q2_2 ((rx_eq (τ := τ) (A := 171) (fun j hj => by rw [(hF106 298 (14 * bi + j) (by omega))]; exact hN0 j hj) ((rl_name hR106 (rl_no17 hR106 (by omega)).2.1).1 hk2).2.2).trans e0_2) ((rx_eq (τ := τ) (A := 172) (fun j hj => by rw [(hF106 301 (6 * bi + j) (by omega))]; exact hN1 j hj) ((rl_name hR106 (rl_no17 hR106 (by omega)).2.1).1 hk2).2.2).trans e1_2) ((rx_eq (τ := τ) (A := 173) (fun j hj => by rw [(hF106 308 (10 * bi + j) (by omega))]; exact hN2 j hj) ((rl_name hR106 (rl_no17 hR106 (by omega)).2.1).1 hk2).2.2).trans e2_2) (by omega) hk2).mono (fun _ _ h => h.2 hqq2)) (fun r107 σ107 hq => ?_)
        obtain ⟨hq1, hR107, hF107⟩ := hq
        replace hR107 : RTk f N K S V P (i + 2) σ107 := hR107
        rw [hq1]
        refine TT.lastN (cd := cd22) (298) ((14 * bi) + ns) rfl rfl rfl rfl (show (14 * bi) + ns < 28 by omega) ?_
        refine TT.steps (cd := cd22) 2 (c' := (31, [(2, 295)], [(0, ((up2 σ107 298 ((14 * bi) + ns) (σ106 295 7)) 295 8))], (up2 σ107 298 ((14 * bi) + ns) (σ106 295 7)))) rfl rfl ?_
        refine TT.top0 (z := 0) ((((up2_far (k := 298) (k' := 295) _ _ _ _ (by decide)).trans (hF107 _ (8) (by omega))).trans (hF106 _ (8) (by omega))).trans hR.1) ?_
        refine TT.steps (cd := cd22) 5 (c' := (36, [(2, 295)], [(0, ((up2 σ107 298 ((14 * bi) + ns) (σ106 295 7)) 295 32)), (2, 297)], (up2 σ107 298 ((14 * bi) + ns) (σ106 295 7)))) rfl rfl ?_
        refine TT.top0 (z := ((bi : Nat) : Int)) ((((up2_far (k := 298) (k' := 295) _ _ _ _ (by decide)).trans (hF107 _ (32) (by omega))).trans (hF106 _ (32) (by omega))).trans h32) ?_
        refine TT.steps (cd := cd22) 1 (c' := (37, [(2, 295)], [(0, ((bi : Nat) : Int)), (2, 297), (0, ((bi : Nat) : Int)), (2, 297)], (up2 σ107 298 ((14 * bi) + ns) (σ106 295 7)))) rfl rfl ?_
        refine TT.aldN (cd := cd22) (297) (bi) rfl rfl rfl rfl (show bi < 2 by omega) ?_
        refine TT.top0 (z := ((ns : Nat) : Int)) ((((up2_far (k := 298) (k' := 297) _ _ _ _ (by decide)).trans (hF107 297 (bi) (by omega))).trans (hF106 297 (bi) (by omega))).trans m0) ?_
        refine TT.steps (cd := cd22) 2 (c' := (40, [(2, 295)], [(0, (aAdd ((ns : Nat) : Int) 1)), (0, ((bi : Nat) : Int)), (2, 297)], (up2 σ107 298 ((14 * bi) + ns) (σ106 295 7)))) rfl rfl ?_
        refine TT.top0 (z := ((ns + 1 : Nat) : Int)) (aAdd_n (a := ns) (b := 1) (by omega)) ?_
        refine TT.astN (cd := cd22) (297) (bi) rfl rfl rfl rfl (show bi < 2 by omega) ?_
        refine TT.ret (cd := cd22) rfl rfl rfl rfl ⟨rfl, (CFR_d (CFR_d (CFR_3 (CFR_3 (CFR_3 (CFR.refl _ _) _ _ (by decide)) _ _ (by decide)) _ _ (by decide)) _ _ _ (by omega) (by omega)) _ _ _ (by omega) (by omega)), (RFR_w (RFR_w (RFR_A (RFR_A (RFR.refl _ _) hF106) hF107) _ _ _ (ib298 bi (by omega))) _ _ _ (ib297 bi)), Or.inl ⟨rfl, i + 2, np, nt, ns + 1, L, C, hT, ⟨(CT_w (CT_w (CT_w (CT_w (CT_w hC _ _ _ (by omega)) _ _ _ (by omega)) _ _ _ (by omega)) _ _ _ (by omega)) _ _ _ (by omega)), ((((((up2_far (k := 170) (k' := 3) _ _ _ _ (by decide)).trans (up2_far (k := 171) (k' := 3) _ _ _ _ (by decide))).trans (up2_by _ _ (j := 4) (j' := 0) _ (by decide))).trans (up2_by _ _ (j := 5) (j' := 0) _ (by decide))).trans (up2_by _ _ (j := 4) (j' := 0) _ (by decide))).trans h30), ((((((up2_far (k := 170) (k' := 3) _ _ _ _ (by decide)).trans (up2_far (k := 171) (k' := 3) _ _ _ _ (by decide))).trans (up2_by _ _ (j := 4) (j' := 1) _ (by decide))).trans (up2_by _ _ (j := 5) (j' := 1) _ (by decide))).trans (up2_by _ _ (j := 4) (j' := 1) _ (by decide))).trans h31)⟩, (((up2_far (k := 170) (k' := 3) _ _ _ _ (by decide)).trans (up2_far (k := 171) (k' := 3) _ _ _ _ (by decide))).trans (up2_hit _ _ _ _)), (by omega), ((((((up2_far (k := 170) (k' := 3) _ _ _ _ (by decide)).trans (up2_far (k := 171) (k' := 3) _ _ _ _ (by decide))).trans (up2_by _ _ (j := 4) (j' := 3) _ (by decide))).trans (up2_by _ _ (j := 5) (j' := 3) _ (by decide))).trans (up2_by _ _ (j := 4) (j' := 3) _ (by decide))).trans h33), (RTk_w (RTk_w hR107 _ _ _ (by decide)) _ _ _ (by decide)), ⟨(((((up2_far (k := 297) (k' := 295) _ _ _ _ (by decide)).trans (up2_far (k := 298) (k' := 295) _ _ _ _ (by decide))).trans (hF107 _ (32) (by omega))).trans (hF106 _ (32) (by omega))).trans h32), (((((up2_far (k := 297) (k' := 295) _ _ _ _ (by decide)).trans (up2_far (k := 298) (k' := 295) _ _ _ _ (by decide))).trans (hF107 _ (9) (by omega))).trans (hF106 _ (9) (by omega))).trans h9)⟩, hb2, ?_⟩⟩
        refine DRl_st hD (by omega) (fun K j h1 h2 h3 => by rw [up2_nq _ (by omega), up2_nq _ (by omega), up2_nq _ (by omega), up2_nq _ (by omega), up2_nq _ (by omega)]) (fun K j h1 h2 h3 => by rw [up2_nq _ (by omega), up2_nq _ (by omega), hF107 K j (by omega), hF106 K j (by omega)]) ?_ ?_ ?_
        · rw [up2_hit]
        · rw [up2_hit]
        · rw [up2_nq _ (by omega), up2_hit, up2_nq _ (by omega), up2_hit]; exact ((rl_name hR106 (rl_no17 hR106 (by omega)).2.1).1 hk2).2.2
      · have hl2 : i + 1 < c := td_lt hT (by omega) ⟨by omega, by omega⟩
        refine TT.call (cd := cd150) rfl rfl rfl (by decide) rfl (u_newName2_170 X hT (τ := (up2 τ 3 4 ((i + 1 : Nat) : Int))) (CT_w hC _ _ _ (by omega)) (up2_hit _ _ _ _) (by omega) ((up2_by _ _ (j := 4) (j' := 3) _ (by decide)).trans h33) ((up2_far (k := 3) (k' := 170) _ _ _ _ (by decide)).trans d1) n0 ((up2_far (k := 3) (k' := 170) _ _ _ _ (by decide)).trans d2) n1 ((up2_far (k := 3) (k' := 192) _ _ _ _ (by decide)).trans d4) n2 q0_2 q1_2 q2_2 (by simp only [up2_far _ _ _ _ (show 171 ≠ 3 by decide)]; exact e0_2) (by simp only [up2_far _ _ _ _ (show 172 ≠ 3 by decide)]; exact e1_2) (by simp only [up2_far _ _ _ _ (show 173 ≠ 3 by decide)]; exact e2_2) hk2 hqq2) (fun r5 σ5 hq => ?_)
        rw [hq.1, hq.2]
        refine TT.steps (cd := cd150) 2 (c' := (19, [(2, 3), (0, ((ns : Nat) : Int))], [(0, 0)], (cFail (up2 (up2 τ 3 4 ((i + 1 : Nat) : Int)) 3 5 (V (i + 1))) 2 ((S (i + 1) : Nat) : Int)))) rfl rfl ?_
        refine TT.ret (cd := cd150) rfl rfl rfl rfl ?_
        have hpl : plc K S V (i + 1) = ((S (i + 1) : Nat) : Int) := by unfold plc; rw [if_neg (by omega), Int.add_zero]
        rw [← hpl]
        refine TT.steps (cd := cd22) 5 (c' := (5, [(2, 295)], [(0, (ρ 295 32)), (2, 297), (2, 295)], ρ)) rfl rfl ?_
        refine TT.top0 (z := ((bi : Nat) : Int)) h32 ?_
        refine TT.aldN (cd := cd22) (297) (bi) rfl rfl rfl rfl (show bi < 2 by omega) ?_
        refine TT.top0 (z := ((ns : Nat) : Int)) m0 ?_
        refine TT.steps (cd := cd22) 2 (c' := ((if decide (¬ ((ns : Nat) : Int) = 14) = true then 10 else 8), [(2, 295)], [(2, 295)], ρ)) rfl rfl ?_
        refine TT.br (p := ¬ ((ns : Nat) : Int) = 14) (fun h106 => ?_) (fun h106 => absurd (show ¬ ((ns : Nat) : Int) = 14 by omega) h106)
        refine TT.steps (cd := cd22) 1 (c' := (11, [(2, 295)], [(0, 0), (2, 295)], ρ)) rfl rfl ?_
        refine TT.call (cd := cd22) rfl rfl rfl (by decide) rfl (r_cntO X (ρ := ρ) hT hR (by omega)) (fun r107 σ107 hq => ?_)
        obtain ⟨hq1, hR107, hF107⟩ := hq
        replace hR107 : RTk f N K S V P (i + 1) σ107 := hR107
        rw [hq1]
        refine TT.steps (cd := cd22) 6 (c' := (19, [(2, 295)], [(0, (σ107 295 32)), (0, 14), (2, 298)], σ107)) rfl rfl ?_
        refine TT.top0 (z := ((bi : Nat) : Int)) ((hF107 _ (32) (by omega)).trans h32) ?_
        refine TT.steps (cd := cd22) 1 (c' := (20, [(2, 295)], [(0, (aMul 14 ((bi : Nat) : Int))), (2, 298)], σ107)) rfl rfl ?_
        refine TT.top0 (z := ((14 * bi : Nat) : Int)) (aMul_n (a := 14) (b := bi) (by omega)) ?_
        refine TT.steps (cd := cd22) 4 (c' := (24, [(2, 295)], [(0, (σ107 295 32)), (2, 297), (0, ((14 * bi : Nat) : Int)), (2, 298)], σ107)) rfl rfl ?_
        refine TT.top0 (z := ((bi : Nat) : Int)) ((hF107 _ (32) (by omega)).trans h32) ?_
        refine TT.aldN (cd := cd22) (297) (bi) rfl rfl rfl rfl (show bi < 2 by omega) ?_
        refine TT.top0 (z := ((ns : Nat) : Int)) ((hF107 297 (bi) (by omega)).trans m0) ?_
        refine TT.steps (cd := cd22) 1 (c' := (26, [(2, 295)], [(0, (aAdd ((14 * bi : Nat) : Int) ((ns : Nat) : Int))), (2, 298)], σ107)) rfl rfl ?_
        refine TT.top0 (z := (((14 * bi) + ns : Nat) : Int)) (aAdd_n (a := 14 * bi) (b := ns) (by omega)) ?_
        refine TT.steps (cd := cd22) 1 (c' := (27, [(2, 295)], [(2, 295), (0, (((14 * bi) + ns : Nat) : Int)), (2, 298)], σ107)) rfl rfl ?_
        refine TT.call (cd := cd22) rfl rfl rfl (by decide) rfl ((r_fre X (ρ := σ107) hT hR107 ((hF107 _ (32) (by omega)).trans h32) hb2 ((hF107 297 (bi) (by omega)).trans m0) n0 ((hF107 300 (bi) (by omega)).trans m1) n1 ((hF107 307 (bi) (by omega)).trans m2) n2 q0_2 q1_2 q2_2 ((rx_eq (τ := τ) (A := 171) (fun j hj => by rw [(hF107 298 (14 * bi + j) (by omega))]; exact hN0 j hj) ((rl_name hR107 (rl_no17 hR107 (by omega)).2.1).1 hk2).2.2).trans e0_2) ((rx_eq (τ := τ) (A := 172) (fun j hj => by rw [(hF107 301 (6 * bi + j) (by omega))]; exact hN1 j hj) ((rl_name hR107 (rl_no17 hR107 (by omega)).2.1).1 hk2).2.2).trans e1_2) ((rx_eq (τ := τ) (A := 173) (fun j hj => by rw [(hF107 308 (10 * bi + j) (by omega))]; exact hN2 j hj) ((rl_name hR107 (rl_no17 hR107 (by omega)).2.1).1 hk2).2.2).trans e2_2) (by omega) hk2).mono (fun _ _ h => h.1 hqq2)) (fun r108 σ108 hq => ?_)
        obtain ⟨x108, hq1, hT108, hF108⟩ := hq
        rw [hq1]
        refine TT.lastN (cd := cd22) (298) ((14 * bi) + ns) rfl rfl rfl rfl (show (14 * bi) + ns < 28 by omega) ?_
        refine TT.steps (cd := cd22) 2 (c' := (31, [(2, 295)], [(0, ((up2 σ108 298 ((14 * bi) + ns) x108) 295 8))], (up2 σ108 298 ((14 * bi) + ns) x108))) rfl rfl ?_
        refine TT.top0 (z := 2) ((up2_far (k := 298) (k' := 295) _ _ _ _ (by decide)).trans hT108.1) ?_
        refine TT.steps (cd := cd22) 1 (c' := (41, [(2, 295)], [], (up2 σ108 298 ((14 * bi) + ns) x108))) rfl rfl ?_
        exact TT.ret (cd := cd22) rfl rfl rfl rfl ⟨rfl, (CFR_f (CFR_3 (CFR_3 (CFR.refl _ _) _ _ (by decide)) _ _ (by decide)) _ _), (RFR_w (RFR_B (RFR_A (RFR.refl _ _) hF107) hF108) _ _ _ (ib298 bi (by omega))), Or.inr (Or.inr ⟨rfl, 2, (plc K S V (i + 1)), by decide, (cF_0 _ _ _).1, (cF_0 _ _ _).2, (FT_w hT108 _ _ _ (by decide))⟩)⟩
    · skip
      refine TT.call (cd := cd150) rfl rfl rfl (by decide) rfl (u_newName1_170 X hT (τ := (up2 τ 3 4 ((i + 1 : Nat) : Int))) (CT_w hC _ _ _ (by omega)) (up2_hit _ _ _ _) (by omega) ((up2_by _ _ (j := 4) (j' := 3) _ (by decide)).trans h33) ((up2_far (k := 3) (k' := 170) _ _ _ _ (by decide)).trans d1) n0 ((up2_far (k := 3) (k' := 170) _ _ _ _ (by decide)).trans d2) n1 ((up2_far (k := 3) (k' := 192) _ _ _ _ (by decide)).trans d4) n2 hk2) (fun r3 σ3 hq => ?_)
      rw [hq.1, hq.2]
      refine TT.steps (cd := cd150) 2 (c' := (19, [(2, 3), (0, ((ns : Nat) : Int))], [(0, 0)], (cFail (up2 τ 3 4 ((i + 1 : Nat) : Int)) 1 (plc K S V (i + 1))))) rfl rfl ?_
      refine TT.ret (cd := cd150) rfl rfl rfl rfl ?_
      refine TT.steps (cd := cd22) 5 (c' := (5, [(2, 295)], [(0, (ρ 295 32)), (2, 297), (2, 295)], ρ)) rfl rfl ?_
      refine TT.top0 (z := ((bi : Nat) : Int)) h32 ?_
      refine TT.aldN (cd := cd22) (297) (bi) rfl rfl rfl rfl (show bi < 2 by omega) ?_
      refine TT.top0 (z := ((ns : Nat) : Int)) m0 ?_
      refine TT.steps (cd := cd22) 2 (c' := ((if decide (¬ ((ns : Nat) : Int) = 14) = true then 10 else 8), [(2, 295)], [(2, 295)], ρ)) rfl rfl ?_
      refine TT.br (p := ¬ ((ns : Nat) : Int) = 14) (fun h104 => ?_) (fun h104 => absurd (show ¬ ((ns : Nat) : Int) = 14 by omega) h104)
      refine TT.steps (cd := cd22) 1 (c' := (11, [(2, 295)], [(0, 0), (2, 295)], ρ)) rfl rfl ?_
      refine TT.call (cd := cd22) rfl rfl rfl (by decide) rfl (r_cntO X (ρ := ρ) hT hR (by omega)) (fun r105 σ105 hq => ?_)
      obtain ⟨hq1, hR105, hF105⟩ := hq
      replace hR105 : RTk f N K S V P (i + 1) σ105 := hR105
      rw [hq1]
      refine TT.steps (cd := cd22) 6 (c' := (19, [(2, 295)], [(0, (σ105 295 32)), (0, 14), (2, 298)], σ105)) rfl rfl ?_
      refine TT.top0 (z := ((bi : Nat) : Int)) ((hF105 _ (32) (by omega)).trans h32) ?_
      refine TT.steps (cd := cd22) 1 (c' := (20, [(2, 295)], [(0, (aMul 14 ((bi : Nat) : Int))), (2, 298)], σ105)) rfl rfl ?_
      refine TT.top0 (z := ((14 * bi : Nat) : Int)) (aMul_n (a := 14) (b := bi) (by omega)) ?_
      refine TT.steps (cd := cd22) 4 (c' := (24, [(2, 295)], [(0, (σ105 295 32)), (2, 297), (0, ((14 * bi : Nat) : Int)), (2, 298)], σ105)) rfl rfl ?_
      refine TT.top0 (z := ((bi : Nat) : Int)) ((hF105 _ (32) (by omega)).trans h32) ?_
      refine TT.aldN (cd := cd22) (297) (bi) rfl rfl rfl rfl (show bi < 2 by omega) ?_
      refine TT.top0 (z := ((ns : Nat) : Int)) ((hF105 297 (bi) (by omega)).trans m0) ?_
      refine TT.steps (cd := cd22) 1 (c' := (26, [(2, 295)], [(0, (aAdd ((14 * bi : Nat) : Int) ((ns : Nat) : Int))), (2, 298)], σ105)) rfl rfl ?_
      refine TT.top0 (z := (((14 * bi) + ns : Nat) : Int)) (aAdd_n (a := 14 * bi) (b := ns) (by omega)) ?_
      refine TT.steps (cd := cd22) 1 (c' := (27, [(2, 295)], [(2, 295), (0, (((14 * bi) + ns : Nat) : Int)), (2, 298)], σ105)) rfl rfl ?_
      refine TT.call (cd := cd22) rfl rfl rfl (by decide) rfl (r_freN X hT hR105 hk2) (fun r106 σ106 hq => ?_)
      obtain ⟨x106, hq1, hT106, hF106⟩ := hq
      rw [hq1]
      refine TT.lastN (cd := cd22) (298) ((14 * bi) + ns) rfl rfl rfl rfl (show (14 * bi) + ns < 28 by omega) ?_
      refine TT.steps (cd := cd22) 2 (c' := (31, [(2, 295)], [(0, ((up2 σ106 298 ((14 * bi) + ns) x106) 295 8))], (up2 σ106 298 ((14 * bi) + ns) x106))) rfl rfl ?_
      refine TT.top0 (z := 1) ((up2_far (k := 298) (k' := 295) _ _ _ _ (by decide)).trans hT106.1) ?_
      refine TT.steps (cd := cd22) 1 (c' := (41, [(2, 295)], [], (up2 σ106 298 ((14 * bi) + ns) x106))) rfl rfl ?_
      exact TT.ret (cd := cd22) rfl rfl rfl rfl ⟨rfl, (CFR_f (CFR_3 (CFR.refl _ _) _ _ (by decide)) _ _), (RFR_w (RFR_B (RFR_A (RFR.refl _ _) hF105) hF106) _ _ _ (ib298 bi (by omega))), Or.inr (Or.inr ⟨rfl, 1, (plc K S V (i + 1)), by decide, (cF_0 _ _ _).1, (cF_0 _ _ _).2, (FT_w hT106 _ _ _ (by decide))⟩)⟩
  · refine TT.steps (cd := cd150) 2 (c' := (9, [(2, 3), (0, ((ns : Nat) : Int))], [(0, 5), (2, 3)], τ)) rfl rfl ?_
    refine TT.call (cd := cd150) rfl rfl rfl (by decide) rfl (u_failK X hT (τ := τ) hC h34 (by omega) 5 (by decide)) (fun r6 σ6 hq => ?_)
    rw [hq.1, hq.2]
    refine TT.ret (cd := cd150) rfl rfl rfl rfl ?_
    refine TT.steps (cd := cd22) 5 (c' := (5, [(2, 295)], [(0, (ρ 295 32)), (2, 297), (2, 295)], ρ)) rfl rfl ?_
    refine TT.top0 (z := ((bi : Nat) : Int)) h32 ?_
    refine TT.aldN (cd := cd22) (297) (bi) rfl rfl rfl rfl (show bi < 2 by omega) ?_
    refine TT.top0 (z := ((ns : Nat) : Int)) m0 ?_
    refine TT.steps (cd := cd22) 2 (c' := ((if decide (¬ ((ns : Nat) : Int) = 14) = true then 10 else 8), [(2, 295)], [(2, 295)], ρ)) rfl rfl ?_
    refine TT.br (p := ¬ ((ns : Nat) : Int) = 14) (fun h107 => absurd h107 (show ¬ (¬ ((ns : Nat) : Int) = 14) by omega)) (fun h107 => ?_)
    refine TT.steps (cd := cd22) 2 (c' := (11, [(2, 295)], [(0, 1), (2, 295)], ρ)) rfl rfl ?_
    refine TT.call (cd := cd22) rfl rfl rfl (by decide) rfl (r_cntF X (ρ := ρ) hT hR) (fun r108 σ108 hq => ?_)
    obtain ⟨hq1, hT108, hF108⟩ := hq
    rw [hq1]
    refine TT.steps (cd := cd22) 1 (c' := (13, [(2, 295)], [], σ108)) rfl rfl ?_
    exact TT.ret (cd := cd22) rfl rfl rfl rfl ⟨rfl, (CFR_f (CFR.refl _ _) _ _), (RFR_B (RFR.refl _ _) hF108), Or.inr (Or.inr ⟨rfl, 5, ((S i : Nat) : Int), by decide, (cF_0 _ _ _).1, (cF_0 _ _ _).2, hT108⟩)⟩
