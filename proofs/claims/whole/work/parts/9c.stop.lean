/-! The minutes of a stop: both parsers. -/
theorem Z_stop_8 (X : AX) {f : Nat → Int} {N c i : Nat} {K : Nat → Int} {S : Nat → Nat} {V : Nat → Int} {P : Nat → Nat} {bi np nt ns : Nat} {L : Nat → Nat} {C : Nat → Nat → Nat} {τ ρ : AH} (hX : PX f N c K S V P 8 bi np nt ns L C i τ ρ) (hk0 : K i = 2) : TT X 151 (0, [(2, 3)], [], τ) (fun r τ' => TT X 23 (0, [(2, 295), (9, 0)], [], ρ) (fun r' ρ' => r' = none ∧ CFR 8 τ τ' ∧ RFR bi ρ ρ' ∧ OUT f N c K S V P 8 bi r τ' ρ')) := by
  obtain ⟨hT, ⟨hC, h30, h31⟩, h34, hi, h33, hR, ⟨h32, h9⟩, hb2, hD⟩ := id hX
  obtain ⟨⟨⟨d1, d2, d3, d4⟩, ⟨m0, m1, m2⟩, ⟨n2, n1, n0, s1, s2⟩, hTr, hCa, hAf, hPr, hDi⟩, ⟨hN0, hN1, hN2⟩, hPD⟩ := id hD
  refine TT.steps (cd := cd151) 2 (c' := (2, [(2, 3)], [(0, 2), (2, 3)], τ)) rfl rfl ?_
  have hl1 : i < c := td_lt hT (by omega) ⟨by omega, by omega⟩
  refine TT.call (cd := cd151) rfl rfl rfl (by decide) rfl ((u_take X hT (τ := τ) hC h34 (by omega) 2).mono (fun _ _ h => h.1 hk0)) (fun r1 σ1 hq => ?_)
  rw [hq.1, hq.2]
  refine TT.steps (cd := cd151) 4 (c' := (7, [(2, 3)], [(0, 30), (0, 1), (2, 3)], (up2 τ 3 4 ((i + 1 : Nat) : Int)))) rfl rfl ?_
  by_cases hk2 : K (i + 1) = 15
  · by_cases hr2 : 1 ≤ V (i + 1) ∧ V (i + 1) ≤ 30
    · have hl2 : i + 1 < c := td_lt hT (by omega) ⟨by omega, by omega⟩
      refine TT.call (cd := cd151) rfl rfl rfl (by decide) rfl ((u_takeNumber X hT (τ := (up2 τ 3 4 ((i + 1 : Nat) : Int))) (CT_w hC _ _ _ (by omega)) (up2_hit _ _ _ _) (by omega) 1 30).mono (fun _ _ h => h.2.2 ⟨hk2, hr2⟩)) (fun r3 σ3 hq => ?_)
      rw [hq.1, hq.2]
      refine TT.steps (cd := cd151) 3 (c' := (13, [(2, 3)], [(2, ((up2 (up2 (up2 τ 3 4 ((i + 1 : Nat) : Int)) 3 5 (V (i + 1))) 3 4 ((i + 2 : Nat) : Int)) 3 3))], (up2 (up2 (up2 τ 3 4 ((i + 1 : Nat) : Int)) 3 5 (V (i + 1))) 3 4 ((i + 2 : Nat) : Int)))) rfl rfl ?_
      refine TT.top0 (z := 8) ((((up2_by _ _ (j := 4) (j' := 3) _ (by decide)).trans (up2_by _ _ (j := 5) (j' := 3) _ (by decide))).trans (up2_by _ _ (j := 4) (j' := 3) _ (by decide))).trans h33) ?_
      refine TT.steps (cd := cd151) 2 (c' := (15, [(2, 3)], [(0, ((up2 (up2 (up2 τ 3 4 ((i + 1 : Nat) : Int)) 3 5 (V (i + 1))) 3 4 ((i + 2 : Nat) : Int)) 3 5)), (2, 8)], (up2 (up2 (up2 τ 3 4 ((i + 1 : Nat) : Int)) 3 5 (V (i + 1))) 3 4 ((i + 2 : Nat) : Int)))) rfl rfl ?_
      refine TT.top0 (z := (V (i + 1))) ((up2_by _ _ (j := 4) (j' := 5) _ (by decide)).trans (up2_hit _ _ _ _)) ?_
      refine TT.steps (cd := cd151) 2 (c' := (17, [(2, 3)], [(0, 1)], (up2 (up2 (up2 (up2 τ 3 4 ((i + 1 : Nat) : Int)) 3 5 (V (i + 1))) 3 4 ((i + 2 : Nat) : Int)) 8 3 (V (i + 1))))) rfl rfl ?_
      refine TT.ret (cd := cd151) rfl rfl rfl rfl ?_
      refine TT.steps (cd := cd23) 2 (c' := (2, [(2, 295), (9, 0)], [(0, 0), (2, 295)], ρ)) rfl rfl ?_
      refine TT.call (cd := cd23) rfl rfl rfl (by decide) rfl (r_cntO X (ρ := ρ) hT hR (by omega)) (fun r104 σ104 hq => ?_)
      obtain ⟨hq1, hR104, hF104⟩ := hq
      replace hR104 : RTk f N K S V P (i + 1) σ104 := hR104
      rw [hq1]
      refine TT.steps (cd := cd23) 4 (c' := (8, [(2, 295), (9, 0)], [(0, 30), (0, 1), (2, 295)], σ104)) rfl rfl ?_
      refine TT.call (cd := cd23) rfl rfl rfl (by decide) rfl (r_numO X 1 30 (ρ := σ104) hT hR104 (by omega) hk2 hr2) (fun r105 σ105 hq => ?_)
      obtain ⟨hq1, hR105, hF105⟩ := hq
      replace hR105 : RTk f N K S V P (i + 2) σ105 := hR105
      rw [hq1]
      refine TT.steps (cd := cd23) 3 (c' := (12, [(2, 295), (0, (V (i + 1)))], [(0, (σ105 295 8))], σ105)) rfl rfl ?_
      refine TT.top0 (z := 0) (((hF105 _ (8) (by omega)).trans (hF104 _ (8) (by omega))).trans hR.1) ?_
      refine TT.steps (cd := cd23) 5 (c' := (17, [(2, 295), (0, (V (i + 1)))], [(0, (σ105 295 32)), (2, 299)], σ105)) rfl rfl ?_
      refine TT.top0 (z := ((bi : Nat) : Int)) (((hF105 _ (32) (by omega)).trans (hF104 _ (32) (by omega))).trans h32) ?_
      refine TT.steps (cd := cd23) 1 (c' := (18, [(2, 295), (0, (V (i + 1)))], [(0, (V (i + 1))), (0, ((bi : Nat) : Int)), (2, 299)], σ105)) rfl rfl ?_
      refine TT.astN (cd := cd23) (299) (bi) rfl rfl rfl rfl (show bi < 2 by omega) ?_
      refine TT.ret (cd := cd23) rfl rfl rfl rfl ⟨rfl, (CFR_d (CFR_3 (CFR_3 (CFR_3 (CFR.refl _ _) _ _ (by decide)) _ _ (by decide)) _ _ (by decide)) _ _ _ (by omega) (by omega)), (RFR_w (RFR_A (RFR_A (RFR.refl _ _) hF104) hF105) _ _ _ (ib299 bi)), Or.inl ⟨rfl, i + 2, np, nt, ns, L, C, hT, ⟨(CT_w (CT_w (CT_w (CT_w hC _ _ _ (by omega)) _ _ _ (by omega)) _ _ _ (by omega)) _ _ _ (by omega)), (((((up2_far (k := 8) (k' := 3) _ _ _ _ (by decide)).trans (up2_by _ _ (j := 4) (j' := 0) _ (by decide))).trans (up2_by _ _ (j := 5) (j' := 0) _ (by decide))).trans (up2_by _ _ (j := 4) (j' := 0) _ (by decide))).trans h30), (((((up2_far (k := 8) (k' := 3) _ _ _ _ (by decide)).trans (up2_by _ _ (j := 4) (j' := 1) _ (by decide))).trans (up2_by _ _ (j := 5) (j' := 1) _ (by decide))).trans (up2_by _ _ (j := 4) (j' := 1) _ (by decide))).trans h31)⟩, ((up2_far (k := 8) (k' := 3) _ _ _ _ (by decide)).trans (up2_hit _ _ _ _)), (by omega), (((((up2_far (k := 8) (k' := 3) _ _ _ _ (by decide)).trans (up2_by _ _ (j := 4) (j' := 3) _ (by decide))).trans (up2_by _ _ (j := 5) (j' := 3) _ (by decide))).trans (up2_by _ _ (j := 4) (j' := 3) _ (by decide))).trans h33), (RTk_w hR105 _ _ _ (by decide)), ⟨((((up2_far (k := 299) (k' := 295) _ _ _ _ (by decide)).trans (hF105 _ (32) (by omega))).trans (hF104 _ (32) (by omega))).trans h32), ((((up2_far (k := 299) (k' := 295) _ _ _ _ (by decide)).trans (hF105 _ (9) (by omega))).trans (hF104 _ (9) (by omega))).trans h9)⟩, hb2, ?_⟩⟩
      refine DRl_mv hD (fun K j h1 h2 h3 => by rw [up2_nq _ (by omega), up2_nq _ (by omega), up2_nq _ (by omega), up2_nq _ (by omega)]) (fun K j h1 h2 => by rw [up2_nq _ (by omega), hF105 K j (by omega), hF104 K j (by omega)]) ⟨?_, ?_, ?_⟩
      · rw [up2_hit, up2_hit]
      · rw [up2_hit]; omega
      · rw [up2_hit]; omega
    · refine TT.call (cd := cd151) rfl rfl rfl (by decide) rfl ((u_takeNumber X hT (τ := (up2 τ 3 4 ((i + 1 : Nat) : Int))) (CT_w hC _ _ _ (by omega)) (up2_hit _ _ _ _) (by omega) 1 30).mono (fun _ _ h => h.2.1 ⟨hk2, hr2⟩)) (fun r4 σ4 hq => ?_)
      rw [hq.1, hq.2]
      refine TT.steps (cd := cd151) 2 (c' := (10, [(2, 3)], [(0, 0)], (cFail (up2 (up2 τ 3 4 ((i + 1 : Nat) : Int)) 3 5 (V (i + 1))) 4 ((S (i + 1) : Nat) : Int)))) rfl rfl ?_
      refine TT.ret (cd := cd151) rfl rfl rfl rfl ?_
      have hpl : plc K S V (i + 1) = ((S (i + 1) : Nat) : Int) := by unfold plc; rw [if_neg (by omega), Int.add_zero]
      rw [← hpl]
      refine TT.steps (cd := cd23) 2 (c' := (2, [(2, 295), (9, 0)], [(0, 0), (2, 295)], ρ)) rfl rfl ?_
      refine TT.call (cd := cd23) rfl rfl rfl (by decide) rfl (r_cntO X (ρ := ρ) hT hR (by omega)) (fun r105 σ105 hq => ?_)
      obtain ⟨hq1, hR105, hF105⟩ := hq
      replace hR105 : RTk f N K S V P (i + 1) σ105 := hR105
      rw [hq1]
      refine TT.steps (cd := cd23) 4 (c' := (8, [(2, 295), (9, 0)], [(0, 30), (0, 1), (2, 295)], σ105)) rfl rfl ?_
      refine TT.call (cd := cd23) rfl rfl rfl (by decide) rfl (r_numR X 1 30 (ρ := σ105) hT hR105 hk2 hr2) (fun r106 σ106 hq => ?_)
      obtain ⟨x106, hq1, hT106, hF106⟩ := hq
      rw [hq1]
      refine TT.steps (cd := cd23) 3 (c' := (12, [(2, 295), (0, x106)], [(0, (σ106 295 8))], σ106)) rfl rfl ?_
      refine TT.top0 (z := 4) hT106.1 ?_
      refine TT.steps (cd := cd23) 1 (c' := (19, [(2, 295), (0, x106)], [], σ106)) rfl rfl ?_
      exact TT.ret (cd := cd23) rfl rfl rfl rfl ⟨rfl, (CFR_f (CFR_3 (CFR_3 (CFR.refl _ _) _ _ (by decide)) _ _ (by decide)) _ _), (RFR_B (RFR_A (RFR.refl _ _) hF105) hF106), Or.inr (Or.inr ⟨rfl, 4, (plc K S V (i + 1)), by decide, (cF_0 _ _ _).1, (cF_0 _ _ _).2, hT106⟩)⟩
  · skip
    refine TT.call (cd := cd151) rfl rfl rfl (by decide) rfl ((u_takeNumber X hT (τ := (up2 τ 3 4 ((i + 1 : Nat) : Int))) (CT_w hC _ _ _ (by omega)) (up2_hit _ _ _ _) (by omega) 1 30).mono (fun _ _ h => h.1 hk2)) (fun r2 σ2 hq => ?_)
    rw [hq.1, hq.2]
    refine TT.steps (cd := cd151) 2 (c' := (10, [(2, 3)], [(0, 0)], (cFail (up2 τ 3 4 ((i + 1 : Nat) : Int)) 1 (plc K S V (i + 1))))) rfl rfl ?_
    refine TT.ret (cd := cd151) rfl rfl rfl rfl ?_
    refine TT.steps (cd := cd23) 2 (c' := (2, [(2, 295), (9, 0)], [(0, 0), (2, 295)], ρ)) rfl rfl ?_
    refine TT.call (cd := cd23) rfl rfl rfl (by decide) rfl (r_cntO X (ρ := ρ) hT hR (by omega)) (fun r103 σ103 hq => ?_)
    obtain ⟨hq1, hR103, hF103⟩ := hq
    replace hR103 : RTk f N K S V P (i + 1) σ103 := hR103
    rw [hq1]
    refine TT.steps (cd := cd23) 4 (c' := (8, [(2, 295), (9, 0)], [(0, 30), (0, 1), (2, 295)], σ103)) rfl rfl ?_
    refine TT.call (cd := cd23) rfl rfl rfl (by decide) rfl (r_numN X 1 30 (ρ := σ103) hT hR103 hk2) (fun r104 σ104 hq => ?_)
    obtain ⟨x104, hq1, hT104, hF104⟩ := hq
    rw [hq1]
    refine TT.steps (cd := cd23) 3 (c' := (12, [(2, 295), (0, x104)], [(0, (σ104 295 8))], σ104)) rfl rfl ?_
    refine TT.top0 (z := 1) hT104.1 ?_
    refine TT.steps (cd := cd23) 1 (c' := (19, [(2, 295), (0, x104)], [], σ104)) rfl rfl ?_
    exact TT.ret (cd := cd23) rfl rfl rfl rfl ⟨rfl, (CFR_f (CFR_3 (CFR.refl _ _) _ _ (by decide)) _ _), (RFR_B (RFR_A (RFR.refl _ _) hF103) hF104), Or.inr (Or.inr ⟨rfl, 1, (plc K S V (i + 1)), by decide, (cF_0 _ _ _).1, (cF_0 _ _ _).2, hT104⟩)⟩
theorem Z_stop_170 (X : AX) {f : Nat → Int} {N c i : Nat} {K : Nat → Int} {S : Nat → Nat} {V : Nat → Int} {P : Nat → Nat} {bi np nt ns : Nat} {L : Nat → Nat} {C : Nat → Nat → Nat} {τ ρ : AH} (hX : PX f N c K S V P 170 bi np nt ns L C i τ ρ) (hk0 : K i = 2) : TT X 151 (0, [(2, 3)], [], τ) (fun r τ' => TT X 23 (0, [(2, 295), (9, 0)], [], ρ) (fun r' ρ' => r' = none ∧ CFR 170 τ τ' ∧ RFR bi ρ ρ' ∧ OUT f N c K S V P 170 bi r τ' ρ')) := by
  obtain ⟨hT, ⟨hC, h30, h31⟩, h34, hi, h33, hR, ⟨h32, h9⟩, hb2, hD⟩ := id hX
  obtain ⟨⟨⟨d1, d2, d3, d4⟩, ⟨m0, m1, m2⟩, ⟨n2, n1, n0, s1, s2⟩, hTr, hCa, hAf, hPr, hDi⟩, ⟨hN0, hN1, hN2⟩, hPD⟩ := id hD
  refine TT.steps (cd := cd151) 2 (c' := (2, [(2, 3)], [(0, 2), (2, 3)], τ)) rfl rfl ?_
  have hl1 : i < c := td_lt hT (by omega) ⟨by omega, by omega⟩
  refine TT.call (cd := cd151) rfl rfl rfl (by decide) rfl ((u_take X hT (τ := τ) hC h34 (by omega) 2).mono (fun _ _ h => h.1 hk0)) (fun r1 σ1 hq => ?_)
  rw [hq.1, hq.2]
  refine TT.steps (cd := cd151) 4 (c' := (7, [(2, 3)], [(0, 30), (0, 1), (2, 3)], (up2 τ 3 4 ((i + 1 : Nat) : Int)))) rfl rfl ?_
  by_cases hk2 : K (i + 1) = 15
  · by_cases hr2 : 1 ≤ V (i + 1) ∧ V (i + 1) ≤ 30
    · have hl2 : i + 1 < c := td_lt hT (by omega) ⟨by omega, by omega⟩
      refine TT.call (cd := cd151) rfl rfl rfl (by decide) rfl ((u_takeNumber X hT (τ := (up2 τ 3 4 ((i + 1 : Nat) : Int))) (CT_w hC _ _ _ (by omega)) (up2_hit _ _ _ _) (by omega) 1 30).mono (fun _ _ h => h.2.2 ⟨hk2, hr2⟩)) (fun r3 σ3 hq => ?_)
      rw [hq.1, hq.2]
      refine TT.steps (cd := cd151) 3 (c' := (13, [(2, 3)], [(2, ((up2 (up2 (up2 τ 3 4 ((i + 1 : Nat) : Int)) 3 5 (V (i + 1))) 3 4 ((i + 2 : Nat) : Int)) 3 3))], (up2 (up2 (up2 τ 3 4 ((i + 1 : Nat) : Int)) 3 5 (V (i + 1))) 3 4 ((i + 2 : Nat) : Int)))) rfl rfl ?_
      refine TT.top0 (z := 170) ((((up2_by _ _ (j := 4) (j' := 3) _ (by decide)).trans (up2_by _ _ (j := 5) (j' := 3) _ (by decide))).trans (up2_by _ _ (j := 4) (j' := 3) _ (by decide))).trans h33) ?_
      refine TT.steps (cd := cd151) 2 (c' := (15, [(2, 3)], [(0, ((up2 (up2 (up2 τ 3 4 ((i + 1 : Nat) : Int)) 3 5 (V (i + 1))) 3 4 ((i + 2 : Nat) : Int)) 3 5)), (2, 170)], (up2 (up2 (up2 τ 3 4 ((i + 1 : Nat) : Int)) 3 5 (V (i + 1))) 3 4 ((i + 2 : Nat) : Int)))) rfl rfl ?_
      refine TT.top0 (z := (V (i + 1))) ((up2_by _ _ (j := 4) (j' := 5) _ (by decide)).trans (up2_hit _ _ _ _)) ?_
      refine TT.steps (cd := cd151) 2 (c' := (17, [(2, 3)], [(0, 1)], (up2 (up2 (up2 (up2 τ 3 4 ((i + 1 : Nat) : Int)) 3 5 (V (i + 1))) 3 4 ((i + 2 : Nat) : Int)) 170 3 (V (i + 1))))) rfl rfl ?_
      refine TT.ret (cd := cd151) rfl rfl rfl rfl ?_
      refine TT.steps (cd := cd23) 2 (c' := (2, [(2, 295), (9, 0)], [(0, 0), (2, 295)], ρ)) rfl rfl ?_
      refine TT.call (cd := cd23) rfl rfl rfl (by decide) rfl (r_cntO X (ρ := ρ) hT hR (by omega)) (fun r104 σ104 hq => ?_)
      obtain ⟨hq1, hR104, hF104⟩ := hq
      replace hR104 : RTk f N K S V P (i + 1) σ104 := hR104
      rw [hq1]
      refine TT.steps (cd := cd23) 4 (c' := (8, [(2, 295), (9, 0)], [(0, 30), (0, 1), (2, 295)], σ104)) rfl rfl ?_
      refine TT.call (cd := cd23) rfl rfl rfl (by decide) rfl (r_numO X 1 30 (ρ := σ104) hT hR104 (by omega) hk2 hr2) (fun r105 σ105 hq => ?_)
      obtain ⟨hq1, hR105, hF105⟩ := hq
      replace hR105 : RTk f N K S V P (i + 2) σ105 := hR105
      rw [hq1]
      refine TT.steps (cd := cd23) 3 (c' := (12, [(2, 295), (0, (V (i + 1)))], [(0, (σ105 295 8))], σ105)) rfl rfl ?_
      refine TT.top0 (z := 0) (((hF105 _ (8) (by omega)).trans (hF104 _ (8) (by omega))).trans hR.1) ?_
      refine TT.steps (cd := cd23) 5 (c' := (17, [(2, 295), (0, (V (i + 1)))], [(0, (σ105 295 32)), (2, 299)], σ105)) rfl rfl ?_
      refine TT.top0 (z := ((bi : Nat) : Int)) (((hF105 _ (32) (by omega)).trans (hF104 _ (32) (by omega))).trans h32) ?_
      refine TT.steps (cd := cd23) 1 (c' := (18, [(2, 295), (0, (V (i + 1)))], [(0, (V (i + 1))), (0, ((bi : Nat) : Int)), (2, 299)], σ105)) rfl rfl ?_
      refine TT.astN (cd := cd23) (299) (bi) rfl rfl rfl rfl (show bi < 2 by omega) ?_
      refine TT.ret (cd := cd23) rfl rfl rfl rfl ⟨rfl, (CFR_d (CFR_3 (CFR_3 (CFR_3 (CFR.refl _ _) _ _ (by decide)) _ _ (by decide)) _ _ (by decide)) _ _ _ (by omega) (by omega)), (RFR_w (RFR_A (RFR_A (RFR.refl _ _) hF104) hF105) _ _ _ (ib299 bi)), Or.inl ⟨rfl, i + 2, np, nt, ns, L, C, hT, ⟨(CT_w (CT_w (CT_w (CT_w hC _ _ _ (by omega)) _ _ _ (by omega)) _ _ _ (by omega)) _ _ _ (by omega)), (((((up2_far (k := 170) (k' := 3) _ _ _ _ (by decide)).trans (up2_by _ _ (j := 4) (j' := 0) _ (by decide))).trans (up2_by _ _ (j := 5) (j' := 0) _ (by decide))).trans (up2_by _ _ (j := 4) (j' := 0) _ (by decide))).trans h30), (((((up2_far (k := 170) (k' := 3) _ _ _ _ (by decide)).trans (up2_by _ _ (j := 4) (j' := 1) _ (by decide))).trans (up2_by _ _ (j := 5) (j' := 1) _ (by decide))).trans (up2_by _ _ (j := 4) (j' := 1) _ (by decide))).trans h31)⟩, ((up2_far (k := 170) (k' := 3) _ _ _ _ (by decide)).trans (up2_hit _ _ _ _)), (by omega), (((((up2_far (k := 170) (k' := 3) _ _ _ _ (by decide)).trans (up2_by _ _ (j := 4) (j' := 3) _ (by decide))).trans (up2_by _ _ (j := 5) (j' := 3) _ (by decide))).trans (up2_by _ _ (j := 4) (j' := 3) _ (by decide))).trans h33), (RTk_w hR105 _ _ _ (by decide)), ⟨((((up2_far (k := 299) (k' := 295) _ _ _ _ (by decide)).trans (hF105 _ (32) (by omega))).trans (hF104 _ (32) (by omega))).trans h32), ((((up2_far (k := 299) (k' := 295) _ _ _ _ (by decide)).trans (hF105 _ (9) (by omega))).trans (hF104 _ (9) (by omega))).trans h9)⟩, hb2, ?_⟩⟩
      refine DRl_mv hD (fun K j h1 h2 h3 => by rw [up2_nq _ (by omega), up2_nq _ (by omega), up2_nq _ (by omega), up2_nq _ (by omega)]) (fun K j h1 h2 => by rw [up2_nq _ (by omega), hF105 K j (by omega), hF104 K j (by omega)]) ⟨?_, ?_, ?_⟩
      · rw [up2_hit, up2_hit]
      · rw [up2_hit]; omega
      · rw [up2_hit]; omega
    · refine TT.call (cd := cd151) rfl rfl rfl (by decide) rfl ((u_takeNumber X hT (τ := (up2 τ 3 4 ((i + 1 : Nat) : Int))) (CT_w hC _ _ _ (by omega)) (up2_hit _ _ _ _) (by omega) 1 30).mono (fun _ _ h => h.2.1 ⟨hk2, hr2⟩)) (fun r4 σ4 hq => ?_)
      rw [hq.1, hq.2]
      refine TT.steps (cd := cd151) 2 (c' := (10, [(2, 3)], [(0, 0)], (cFail (up2 (up2 τ 3 4 ((i + 1 : Nat) : Int)) 3 5 (V (i + 1))) 4 ((S (i + 1) : Nat) : Int)))) rfl rfl ?_
      refine TT.ret (cd := cd151) rfl rfl rfl rfl ?_
      have hpl : plc K S V (i + 1) = ((S (i + 1) : Nat) : Int) := by unfold plc; rw [if_neg (by omega), Int.add_zero]
      rw [← hpl]
      refine TT.steps (cd := cd23) 2 (c' := (2, [(2, 295), (9, 0)], [(0, 0), (2, 295)], ρ)) rfl rfl ?_
      refine TT.call (cd := cd23) rfl rfl rfl (by decide) rfl (r_cntO X (ρ := ρ) hT hR (by omega)) (fun r105 σ105 hq => ?_)
      obtain ⟨hq1, hR105, hF105⟩ := hq
      replace hR105 : RTk f N K S V P (i + 1) σ105 := hR105
      rw [hq1]
      refine TT.steps (cd := cd23) 4 (c' := (8, [(2, 295), (9, 0)], [(0, 30), (0, 1), (2, 295)], σ105)) rfl rfl ?_
      refine TT.call (cd := cd23) rfl rfl rfl (by decide) rfl (r_numR X 1 30 (ρ := σ105) hT hR105 hk2 hr2) (fun r106 σ106 hq => ?_)
      obtain ⟨x106, hq1, hT106, hF106⟩ := hq
      rw [hq1]
      refine TT.steps (cd := cd23) 3 (c' := (12, [(2, 295), (0, x106)], [(0, (σ106 295 8))], σ106)) rfl rfl ?_
      refine TT.top0 (z := 4) hT106.1 ?_
      refine TT.steps (cd := cd23) 1 (c' := (19, [(2, 295), (0, x106)], [], σ106)) rfl rfl ?_
      exact TT.ret (cd := cd23) rfl rfl rfl rfl ⟨rfl, (CFR_f (CFR_3 (CFR_3 (CFR.refl _ _) _ _ (by decide)) _ _ (by decide)) _ _), (RFR_B (RFR_A (RFR.refl _ _) hF105) hF106), Or.inr (Or.inr ⟨rfl, 4, (plc K S V (i + 1)), by decide, (cF_0 _ _ _).1, (cF_0 _ _ _).2, hT106⟩)⟩
  · skip
    refine TT.call (cd := cd151) rfl rfl rfl (by decide) rfl ((u_takeNumber X hT (τ := (up2 τ 3 4 ((i + 1 : Nat) : Int))) (CT_w hC _ _ _ (by omega)) (up2_hit _ _ _ _) (by omega) 1 30).mono (fun _ _ h => h.1 hk2)) (fun r2 σ2 hq => ?_)
    rw [hq.1, hq.2]
    refine TT.steps (cd := cd151) 2 (c' := (10, [(2, 3)], [(0, 0)], (cFail (up2 τ 3 4 ((i + 1 : Nat) : Int)) 1 (plc K S V (i + 1))))) rfl rfl ?_
    refine TT.ret (cd := cd151) rfl rfl rfl rfl ?_
    refine TT.steps (cd := cd23) 2 (c' := (2, [(2, 295), (9, 0)], [(0, 0), (2, 295)], ρ)) rfl rfl ?_
    refine TT.call (cd := cd23) rfl rfl rfl (by decide) rfl (r_cntO X (ρ := ρ) hT hR (by omega)) (fun r103 σ103 hq => ?_)
    obtain ⟨hq1, hR103, hF103⟩ := hq
    replace hR103 : RTk f N K S V P (i + 1) σ103 := hR103
    rw [hq1]
    refine TT.steps (cd := cd23) 4 (c' := (8, [(2, 295), (9, 0)], [(0, 30), (0, 1), (2, 295)], σ103)) rfl rfl ?_
    refine TT.call (cd := cd23) rfl rfl rfl (by decide) rfl (r_numN X 1 30 (ρ := σ103) hT hR103 hk2) (fun r104 σ104 hq => ?_)
    obtain ⟨x104, hq1, hT104, hF104⟩ := hq
    rw [hq1]
    refine TT.steps (cd := cd23) 3 (c' := (12, [(2, 295), (0, x104)], [(0, (σ104 295 8))], σ104)) rfl rfl ?_
    refine TT.top0 (z := 1) hT104.1 ?_
    refine TT.steps (cd := cd23) 1 (c' := (19, [(2, 295), (0, x104)], [], σ104)) rfl rfl ?_
    exact TT.ret (cd := cd23) rfl rfl rfl rfl ⟨rfl, (CFR_f (CFR_3 (CFR.refl _ _) _ _ (by decide)) _ _), (RFR_B (RFR_A (RFR.refl _ _) hF103) hF104), Or.inr (Or.inr ⟨rfl, 1, (plc K S V (i + 1)), by decide, (cF_0 _ _ _).1, (cF_0 _ _ _).2, hT104⟩)⟩
