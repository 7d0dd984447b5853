/-! A statement: both parsers. -/
set_option maxHeartbeats 40000000 in
theorem Z_stmt_170 (X : AX) {n : Nat} {f : Nat → Int} {N c i : Nat} {K : Nat → Int} {S : Nat → Nat} {V : Nat → Int} {P : Nat → Nat} {bi np nt ns : Nat} {L : Nat → Nat} {C : Nat → Nat → Nat} {τ ρ : AH} (hX : PX f N c K S V P 170 bi np nt ns L C i τ ρ) (hn0 : τ 170 0 = (n : Int)) (hn : n < 90) : TT X 149 (0, [(2, 3), (9, 0)], [], τ) (fun r τ' => ∃ ρ', (∀ Q : Option AV → AH → Prop, TT X 29 (50, [(2, 295), (0, ((n + 1 : Nat) : Int))], [], ρ') Q → TT X 29 (56, [(2, 295), (0, ((n : Nat) : Int))], [], ρ) Q) ∧ CFS 170 τ τ' ∧ RFR bi ρ ρ' ∧ SR f N c K S V P 170 bi (n + 1) r τ' ρ') := by
  obtain ⟨hT, ⟨hC, hf0, hf1⟩, h34, hi, h33, hR, ⟨h32, hf9⟩, hb2, hD⟩ := id hX
  obtain ⟨⟨⟨d1, d2, d3, d4⟩, ⟨m0, m1, m2⟩, ⟨n2, n1, n0, s1, s2⟩, hTr, hCa, hAf, hPr, hDi⟩, ⟨hN0, hN1, hN2⟩, hPD⟩ := id hD
  refine TT.steps (cd := cd149) 2 (c' := (2, [(2, 3), (9, 0)], [(2, (τ 3 3))], τ)) rfl rfl ?_
  refine TT.top0 (z := 170) h33 ?_
  refine TT.steps (cd := cd149) 1 (c' := (3, [(2, 3), (9, 0)], [(0, (τ 170 0))], τ)) rfl rfl ?_
  refine TT.top0 (z := ((n : Nat) : Int)) hn0 ?_
  refine TT.steps (cd := cd149) 2 (c' := ((if decide (((n : Nat) : Int) < 90) = true then 9 else 5), [(2, 3), (9, 0)], [], τ)) rfl rfl ?_
  refine TT.br (p := ((n : Nat) : Int) < 90) (fun h1 => ?_) (fun h1 => absurd (show ((n : Nat) : Int) < 90 by omega) h1)
  refine TT.steps (cd := cd149) 1 (c' := (10, [(2, 3), (9, 0)], [(2, 3)], τ)) rfl rfl ?_
  refine TT.call (cd := cd149) rfl rfl rfl (by decide) rfl (u_kind X hT (τ := τ) hC h34 (by omega)) (fun r2 σ2 hq => ?_)
  rw [hq.1, hq.2]
  refine TT.steps (cd := cd149) 1 (c' := ((swOf [(1, 12), (2, 16), (3, 20), (4, 28), (5, 28), (6, 28), (7, 28), (8, 24)] 28 (K i)), [(2, 3), (9, 0)], [], τ)) rfl rfl ?_
  refine TT.swc (fun h3 => ?_) (fun h3 => ?_)
  · refine TT.steps (cd := cd149) 1 (c' := (13, [(2, 3), (9, 0)], [(2, 3)], τ)) rfl rfl ?_
    refine TT.call (cd := cd149) rfl rfl rfl (by decide) rfl (Z_station_170 X hX (by omega)) (fun r1 τ1 hq => ?_)
    obtain ⟨ra, ρa, ⟨hra, hcf, hrf, hout⟩, dta⟩ := TT.ex hq
    subst hra
    have hst := r_st1 X hT hR (by omega) ρa dta
    have hd0 : τ1 170 0 = (n : Int) := (hcf 170 0 (by omega) (by omega)).trans hn0
    rcases hout with ⟨g1, i1, np1, nt1, ns1, L1, C1, hX1⟩ | ⟨g1, i1, a1, a2, a3, a4, a5, a6⟩ | ⟨g1, kd, pl, b1, b2, b3, b4⟩
    · subst g1
      obtain ⟨-, ⟨hC1, h301, h311⟩, h341, hi1, h331, hR1, ⟨h321, h91⟩, -, hD1⟩ := id hX1
      show TT X 149 (14, [(2, 3), (9, 0)], [(0, 1)], τ1) _
      refine TT.steps (cd := cd149) 4 (c' := (34, [(2, 3), (0, 1)], [(2, (τ1 3 3))], τ1)) rfl rfl ?_
      refine TT.top0 (z := 170) h331 ?_
      refine TT.steps (cd := cd149) 2 (c' := (36, [(2, 3), (0, 1)], [(0, (τ1 170 0)), (2, 170)], τ1)) rfl rfl ?_
      refine TT.top0 (z := ((n : Nat) : Int)) hd0 ?_
      refine TT.steps (cd := cd149) 2 (c' := (38, [(2, 3), (0, 1)], [(0, (aAdd ((n : Nat) : Int) 1)), (2, 170)], τ1)) rfl rfl ?_
      refine TT.top0 (z := ((n + 1 : Nat) : Int)) (aAdd_n (a := n) (b := 1) (by omega)) ?_
      refine TT.steps (cd := cd149) 5 (c' := (43, [(2, 3), (0, 1)], [(0, 16), (2, 3)], (up2 τ1 170 0 ((n + 1 : Nat) : Int)))) rfl rfl ?_
      by_cases hk51 : K i1 = 16
      · have hl51 : i1 < c := td_lt hT (by omega) ⟨by omega, by omega⟩
        refine TT.call (cd := cd149) rfl rfl rfl (by decide) rfl ((u_take X hT (τ := (up2 τ1 170 0 ((n + 1 : Nat) : Int))) (CT_w hC1 _ _ _ (by omega)) ((up2_far (k := 170) (k' := 3) _ _ _ _ (by decide)).trans h341) (by omega) 16).mono (fun _ _ h => h.1 hk51)) (fun r15 σ15 hq => ?_)
        rw [hq.1, hq.2]
        refine TT.steps (cd := cd149) 3 (c' := (48, [(2, 3), (0, 1)], [(0, 1)], (up2 (up2 τ1 170 0 ((n + 1 : Nat) : Int)) 3 4 ((i1 + 1 : Nat) : Int)))) rfl rfl ?_
        by_cases h5 : n + 1 = 90 ∧ ¬ K (i1 + 1) = 0
        · obtain ⟨rb, ρb, ⟨hrb, hft, hfb⟩, dtb⟩ := TT.ex (r_fin5 X hT hR1 (by omega) hk51 h5.2)
          subst hrb
          have e90 : (90 : Int) = ((n + 1 : Nat) : Int) := by omega
          rw [e90] at dtb
          exact TT.ret (cd := cd149) rfl rfl rfl rfl ⟨ρb, seg56 X (by omega) hst dtb, CFS_3 (CFS_0 (CFS_of hcf) _) _ _ (by decide), RFR_B hrf hfb, Or.inr (Or.inl ⟨rfl, (up2_nq _ (by omega)).trans (up2_hit _ _ _ _), h5.1, i1 + 1, by omega, (CT_w (CT_w hC1 _ _ _ (by omega)) _ _ _ (by omega)), (up2_hit _ _ _ _), (((up2_by _ _ (j := 4) (j' := 3) _ (by decide)).trans (up2_far (k := 170) (k' := 3) _ _ _ _ (by decide))).trans h331), h5.2, hft⟩)⟩
        · obtain ⟨rb, ρb, ⟨hrb, hRb, hfb⟩, dtb⟩ := TT.ex (r_finO X ((n + 1 : Nat) : Int) hT hR1 (by omega) hk51 (by by_cases q : K (i1 + 1) = 0; (exact Or.inr q); exact Or.inl (fun q2 => h5 ⟨by omega, q⟩)))
          subst hrb
          exact TT.ret (cd := cd149) rfl rfl rfl rfl ⟨ρb, seg56 X (by omega) hst dtb, CFS_3 (CFS_0 (CFS_of hcf) _) _ _ (by decide), RFR_A hrf hfb, Or.inl ⟨rfl, (up2_nq _ (by omega)).trans (up2_hit _ _ _ _), i1 + 1, np1, nt1, ns1, L1, C1, ⟨hT, ⟨(CT_w (CT_w hC1 _ _ _ (by omega)) _ _ _ (by omega)), (up2_nq _ (by omega)).trans ((up2_nq _ (by omega)).trans h301), (up2_nq _ (by omega)).trans ((up2_nq _ (by omega)).trans h311)⟩, (up2_hit _ _ _ _), by omega, (((up2_by _ _ (j := 4) (j' := 3) _ (by decide)).trans (up2_far (k := 170) (k' := 3) _ _ _ _ (by decide))).trans h331), hRb, ⟨(hfb _ _ (by omega)).trans h321, (hfb _ _ (by omega)).trans h91⟩, hb2, DRl_0 hD1 (fun K j q1 q2 => by rw [up2_nq _ (by omega), up2_nq _ (by omega)]) (fun K j q1 => hfb K j (by omega))⟩, by by_cases q : K (i1 + 1) = 0; (exact Or.inr q); exact Or.inl (by have : ¬ n + 1 = 90 := fun q2 => h5 ⟨q2, q⟩; omega)⟩⟩
      · refine TT.call (cd := cd149) rfl rfl rfl (by decide) rfl ((u_take X hT (τ := (up2 τ1 170 0 ((n + 1 : Nat) : Int))) (CT_w hC1 _ _ _ (by omega)) ((up2_far (k := 170) (k' := 3) _ _ _ _ (by decide)).trans h341) (by omega) 16).mono (fun _ _ h => h.2 hk51)) (fun r16 σ16 hq => ?_)
        rw [hq.1, hq.2]
        refine TT.steps (cd := cd149) 2 (c' := (48, [(2, 3), (0, 1)], [(0, 0)], (cFail (up2 τ1 170 0 ((n + 1 : Nat) : Int)) 1 (plc K S V i1)))) rfl rfl ?_
        obtain ⟨rb, ρb, ⟨hrb, hft, hfb⟩, dtb⟩ := TT.ex (r_finN X ((n + 1 : Nat) : Int) hT hR1 hk51)
        subst hrb
        exact TT.ret (cd := cd149) rfl rfl rfl rfl ⟨ρb, seg56 X (by omega) hst dtb, CFS_f (CFS_0 (CFS_of hcf) _) _ _, RFR_B hrf hfb, Or.inr (Or.inr ⟨rfl, 1, (plc K S V i1), by decide, (cF_0 _ _ _).1, (cF_0 _ _ _).2, hft⟩)⟩
    · subst g1
      obtain ⟨rb, ρb, ⟨hrb, hρb⟩, dtb⟩ := TT.ex (r_finF X ((n + 1 : Nat) : Int) (ρ := ρa) (by rw [a6.1]; decide))
      subst hrb
      subst hρb
      show TT X 149 (14, [(2, 3), (9, 0)], [(0, 1)], τ1) _
      refine TT.steps (cd := cd149) 4 (c' := (34, [(2, 3), (0, 1)], [(2, (τ1 3 3))], τ1)) rfl rfl ?_
      refine TT.top0 (z := 170) a4 ?_
      refine TT.steps (cd := cd149) 2 (c' := (36, [(2, 3), (0, 1)], [(0, (τ1 170 0)), (2, 170)], τ1)) rfl rfl ?_
      refine TT.top0 (z := ((n : Nat) : Int)) hd0 ?_
      refine TT.steps (cd := cd149) 2 (c' := (38, [(2, 3), (0, 1)], [(0, (aAdd ((n : Nat) : Int) 1)), (2, 170)], τ1)) rfl rfl ?_
      refine TT.top0 (z := ((n + 1 : Nat) : Int)) (aAdd_n (a := n) (b := 1) (by omega)) ?_
      refine TT.steps (cd := cd149) 5 (c' := (43, [(2, 3), (0, 1)], [(0, 16), (2, 3)], (up2 τ1 170 0 ((n + 1 : Nat) : Int)))) rfl rfl ?_
      refine TT.call (cd := cd149) rfl rfl rfl (by decide) rfl ((u_take X hT (τ := (up2 τ1 170 0 ((n + 1 : Nat) : Int))) (CT_w a2 _ _ _ (by omega)) ((up2_far (k := 170) (k' := 3) _ _ _ _ (by decide)).trans a3) (by omega) 16).mono (fun _ _ h => h.2 a5)) (fun r15 σ15 hq => ?_)
      rw [hq.1, hq.2]
      refine TT.steps (cd := cd149) 2 (c' := (48, [(2, 3), (0, 1)], [(0, 0)], (cFail (up2 τ1 170 0 ((n + 1 : Nat) : Int)) 1 (plc K S V i1)))) rfl rfl ?_
      exact TT.ret (cd := cd149) rfl rfl rfl rfl ⟨ρb, seg56 X (by omega) hst dtb, CFS_f (CFS_0 (CFS_of hcf) _) _ _, hrf, Or.inr (Or.inr ⟨rfl, 1, (plc K S V i1), by decide, (cF_0 _ _ _).1, (cF_0 _ _ _).2, a6⟩)⟩
    · subst g1
      obtain ⟨rb, ρb, ⟨hrb, hρb⟩, dtb⟩ := TT.ex (r_finF X ((n + 1 : Nat) : Int) (ρ := ρa) (by rw [b4.1]; exact b1))
      subst hrb
      subst hρb
      have h33z : τ1 3 3 = ((170 : Nat) : Int) := (hcf 3 3 (by omega) (by omega)).trans h33
      show TT X 149 (14, [(2, 3), (9, 0)], [(0, 0)], τ1) _
      refine TT.steps (cd := cd149) 4 (c' := (34, [(2, 3), (0, 0)], [(2, (τ1 3 3))], τ1)) rfl rfl ?_
      refine TT.top0 (z := 170) h33z ?_
      refine TT.steps (cd := cd149) 2 (c' := (36, [(2, 3), (0, 0)], [(0, (τ1 170 0)), (2, 170)], τ1)) rfl rfl ?_
      refine TT.top0 (z := ((n : Nat) : Int)) hd0 ?_
      refine TT.steps (cd := cd149) 2 (c' := (38, [(2, 3), (0, 0)], [(0, (aAdd ((n : Nat) : Int) 1)), (2, 170)], τ1)) rfl rfl ?_
      refine TT.top0 (z := ((n + 1 : Nat) : Int)) (aAdd_n (a := n) (b := 1) (by omega)) ?_
      refine TT.steps (cd := cd149) 4 (c' := (48, [(2, 3), (0, 0)], [(0, 0)], (up2 τ1 170 0 ((n + 1 : Nat) : Int)))) rfl rfl ?_
      exact TT.ret (cd := cd149) rfl rfl rfl rfl ⟨ρb, seg56 X (by omega) hst dtb, CFS_0 (CFS_of hcf) _, hrf, Or.inr (Or.inr ⟨rfl, kd, pl, b1, (up2_nq _ (by omega)).trans b2, (up2_nq _ (by omega)).trans b3, b4⟩)⟩
  refine TT.swc (fun h5 => ?_) (fun h5 => ?_)
  · refine TT.steps (cd := cd149) 1 (c' := (17, [(2, 3), (9, 0)], [(2, 3)], τ)) rfl rfl ?_
    refine TT.call (cd := cd149) rfl rfl rfl (by decide) rfl (Z_stop_170 X hX (by omega)) (fun r1 τ1 hq => ?_)
    obtain ⟨ra, ρa, ⟨hra, hcf, hrf, hout⟩, dta⟩ := TT.ex hq
    subst hra
    have hst := r_st2 X hT hR (by omega) ρa dta
    have hd0 : τ1 170 0 = (n : Int) := (hcf 170 0 (by omega) (by omega)).trans hn0
    rcases hout with ⟨g1, i1, np1, nt1, ns1, L1, C1, hX1⟩ | ⟨g1, i1, a1, a2, a3, a4, a5, a6⟩ | ⟨g1, kd, pl, b1, b2, b3, b4⟩
    · subst g1
      obtain ⟨-, ⟨hC1, h301, h311⟩, h341, hi1, h331, hR1, ⟨h321, h91⟩, -, hD1⟩ := id hX1
      show TT X 149 (18, [(2, 3), (9, 0)], [(0, 1)], τ1) _
      refine TT.steps (cd := cd149) 4 (c' := (34, [(2, 3), (0, 1)], [(2, (τ1 3 3))], τ1)) rfl rfl ?_
      refine TT.top0 (z := 170) h331 ?_
      refine TT.steps (cd := cd149) 2 (c' := (36, [(2, 3), (0, 1)], [(0, (τ1 170 0)), (2, 170)], τ1)) rfl rfl ?_
      refine TT.top0 (z := ((n : Nat) : Int)) hd0 ?_
      refine TT.steps (cd := cd149) 2 (c' := (38, [(2, 3), (0, 1)], [(0, (aAdd ((n : Nat) : Int) 1)), (2, 170)], τ1)) rfl rfl ?_
      refine TT.top0 (z := ((n + 1 : Nat) : Int)) (aAdd_n (a := n) (b := 1) (by omega)) ?_
      refine TT.steps (cd := cd149) 5 (c' := (43, [(2, 3), (0, 1)], [(0, 16), (2, 3)], (up2 τ1 170 0 ((n + 1 : Nat) : Int)))) rfl rfl ?_
      by_cases hk51 : K i1 = 16
      · have hl51 : i1 < c := td_lt hT (by omega) ⟨by omega, by omega⟩
        refine TT.call (cd := cd149) rfl rfl rfl (by decide) rfl ((u_take X hT (τ := (up2 τ1 170 0 ((n + 1 : Nat) : Int))) (CT_w hC1 _ _ _ (by omega)) ((up2_far (k := 170) (k' := 3) _ _ _ _ (by decide)).trans h341) (by omega) 16).mono (fun _ _ h => h.1 hk51)) (fun r17 σ17 hq => ?_)
        rw [hq.1, hq.2]
        refine TT.steps (cd := cd149) 3 (c' := (48, [(2, 3), (0, 1)], [(0, 1)], (up2 (up2 τ1 170 0 ((n + 1 : Nat) : Int)) 3 4 ((i1 + 1 : Nat) : Int)))) rfl rfl ?_
        by_cases h5 : n + 1 = 90 ∧ ¬ K (i1 + 1) = 0
        · obtain ⟨rb, ρb, ⟨hrb, hft, hfb⟩, dtb⟩ := TT.ex (r_fin5 X hT hR1 (by omega) hk51 h5.2)
          subst hrb
          have e90 : (90 : Int) = ((n + 1 : Nat) : Int) := by omega
          rw [e90] at dtb
          exact TT.ret (cd := cd149) rfl rfl rfl rfl ⟨ρb, seg56 X (by omega) hst dtb, CFS_3 (CFS_0 (CFS_of hcf) _) _ _ (by decide), RFR_B hrf hfb, Or.inr (Or.inl ⟨rfl, (up2_nq _ (by omega)).trans (up2_hit _ _ _ _), h5.1, i1 + 1, by omega, (CT_w (CT_w hC1 _ _ _ (by omega)) _ _ _ (by omega)), (up2_hit _ _ _ _), (((up2_by _ _ (j := 4) (j' := 3) _ (by decide)).trans (up2_far (k := 170) (k' := 3) _ _ _ _ (by decide))).trans h331), h5.2, hft⟩)⟩
        · obtain ⟨rb, ρb, ⟨hrb, hRb, hfb⟩, dtb⟩ := TT.ex (r_finO X ((n + 1 : Nat) : Int) hT hR1 (by omega) hk51 (by by_cases q : K (i1 + 1) = 0; (exact Or.inr q); exact Or.inl (fun q2 => h5 ⟨by omega, q⟩)))
          subst hrb
          exact TT.ret (cd := cd149) rfl rfl rfl rfl ⟨ρb, seg56 X (by omega) hst dtb, CFS_3 (CFS_0 (CFS_of hcf) _) _ _ (by decide), RFR_A hrf hfb, Or.inl ⟨rfl, (up2_nq _ (by omega)).trans (up2_hit _ _ _ _), i1 + 1, np1, nt1, ns1, L1, C1, ⟨hT, ⟨(CT_w (CT_w hC1 _ _ _ (by omega)) _ _ _ (by omega)), (up2_nq _ (by omega)).trans ((up2_nq _ (by omega)).trans h301), (up2_nq _ (by omega)).trans ((up2_nq _ (by omega)).trans h311)⟩, (up2_hit _ _ _ _), by omega, (((up2_by _ _ (j := 4) (j' := 3) _ (by decide)).trans (up2_far (k := 170) (k' := 3) _ _ _ _ (by decide))).trans h331), hRb, ⟨(hfb _ _ (by omega)).trans h321, (hfb _ _ (by omega)).trans h91⟩, hb2, DRl_0 hD1 (fun K j q1 q2 => by rw [up2_nq _ (by omega), up2_nq _ (by omega)]) (fun K j q1 => hfb K j (by omega))⟩, by by_cases q : K (i1 + 1) = 0; (exact Or.inr q); exact Or.inl (by have : ¬ n + 1 = 90 := fun q2 => h5 ⟨q2, q⟩; omega)⟩⟩
      · refine TT.call (cd := cd149) rfl rfl rfl (by decide) rfl ((u_take X hT (τ := (up2 τ1 170 0 ((n + 1 : Nat) : Int))) (CT_w hC1 _ _ _ (by omega)) ((up2_far (k := 170) (k' := 3) _ _ _ _ (by decide)).trans h341) (by omega) 16).mono (fun _ _ h => h.2 hk51)) (fun r18 σ18 hq => ?_)
        rw [hq.1, hq.2]
        refine TT.steps (cd := cd149) 2 (c' := (48, [(2, 3), (0, 1)], [(0, 0)], (cFail (up2 τ1 170 0 ((n + 1 : Nat) : Int)) 1 (plc K S V i1)))) rfl rfl ?_
        obtain ⟨rb, ρb, ⟨hrb, hft, hfb⟩, dtb⟩ := TT.ex (r_finN X ((n + 1 : Nat) : Int) hT hR1 hk51)
        subst hrb
        exact TT.ret (cd := cd149) rfl rfl rfl rfl ⟨ρb, seg56 X (by omega) hst dtb, CFS_f (CFS_0 (CFS_of hcf) _) _ _, RFR_B hrf hfb, Or.inr (Or.inr ⟨rfl, 1, (plc K S V i1), by decide, (cF_0 _ _ _).1, (cF_0 _ _ _).2, hft⟩)⟩
    · subst g1
      obtain ⟨rb, ρb, ⟨hrb, hρb⟩, dtb⟩ := TT.ex (r_finF X ((n + 1 : Nat) : Int) (ρ := ρa) (by rw [a6.1]; decide))
      subst hrb
      subst hρb
      show TT X 149 (18, [(2, 3), (9, 0)], [(0, 1)], τ1) _
      refine TT.steps (cd := cd149) 4 (c' := (34, [(2, 3), (0, 1)], [(2, (τ1 3 3))], τ1)) rfl rfl ?_
      refine TT.top0 (z := 170) a4 ?_
      refine TT.steps (cd := cd149) 2 (c' := (36, [(2, 3), (0, 1)], [(0, (τ1 170 0)), (2, 170)], τ1)) rfl rfl ?_
      refine TT.top0 (z := ((n : Nat) : Int)) hd0 ?_
      refine TT.steps (cd := cd149) 2 (c' := (38, [(2, 3), (0, 1)], [(0, (aAdd ((n : Nat) : Int) 1)), (2, 170)], τ1)) rfl rfl ?_
      refine TT.top0 (z := ((n + 1 : Nat) : Int)) (aAdd_n (a := n) (b := 1) (by omega)) ?_
      refine TT.steps (cd := cd149) 5 (c' := (43, [(2, 3), (0, 1)], [(0, 16), (2, 3)], (up2 τ1 170 0 ((n + 1 : Nat) : Int)))) rfl rfl ?_
      refine TT.call (cd := cd149) rfl rfl rfl (by decide) rfl ((u_take X hT (τ := (up2 τ1 170 0 ((n + 1 : Nat) : Int))) (CT_w a2 _ _ _ (by omega)) ((up2_far (k := 170) (k' := 3) _ _ _ _ (by decide)).trans a3) (by omega) 16).mono (fun _ _ h => h.2 a5)) (fun r17 σ17 hq => ?_)
      rw [hq.1, hq.2]
      refine TT.steps (cd := cd149) 2 (c' := (48, [(2, 3), (0, 1)], [(0, 0)], (cFail (up2 τ1 170 0 ((n + 1 : Nat) : Int)) 1 (plc K S V i1)))) rfl rfl ?_
      exact TT.ret (cd := cd149) rfl rfl rfl rfl ⟨ρb, seg56 X (by omega) hst dtb, CFS_f (CFS_0 (CFS_of hcf) _) _ _, hrf, Or.inr (Or.inr ⟨rfl, 1, (plc K S V i1), by decide, (cF_0 _ _ _).1, (cF_0 _ _ _).2, a6⟩)⟩
    · subst g1
      obtain ⟨rb, ρb, ⟨hrb, hρb⟩, dtb⟩ := TT.ex (r_finF X ((n + 1 : Nat) : Int) (ρ := ρa) (by rw [b4.1]; exact b1))
      subst hrb
      subst hρb
      have h33z : τ1 3 3 = ((170 : Nat) : Int) := (hcf 3 3 (by omega) (by omega)).trans h33
      show TT X 149 (18, [(2, 3), (9, 0)], [(0, 0)], τ1) _
      refine TT.steps (cd := cd149) 4 (c' := (34, [(2, 3), (0, 0)], [(2, (τ1 3 3))], τ1)) rfl rfl ?_
      refine TT.top0 (z := 170) h33z ?_
      refine TT.steps (cd := cd149) 2 (c' := (36, [(2, 3), (0, 0)], [(0, (τ1 170 0)), (2, 170)], τ1)) rfl rfl ?_
      refine TT.top0 (z := ((n : Nat) : Int)) hd0 ?_
      refine TT.steps (cd := cd149) 2 (c' := (38, [(2, 3), (0, 0)], [(0, (aAdd ((n : Nat) : Int) 1)), (2, 170)], τ1)) rfl rfl ?_
      refine TT.top0 (z := ((n + 1 : Nat) : Int)) (aAdd_n (a := n) (b := 1) (by omega)) ?_
      refine TT.steps (cd := cd149) 4 (c' := (48, [(2, 3), (0, 0)], [(0, 0)], (up2 τ1 170 0 ((n + 1 : Nat) : Int)))) rfl rfl ?_
      exact TT.ret (cd := cd149) rfl rfl rfl rfl ⟨ρb, seg56 X (by omega) hst dtb, CFS_0 (CFS_of hcf) _, hrf, Or.inr (Or.inr ⟨rfl, kd, pl, b1, (up2_nq _ (by omega)).trans b2, (up2_nq _ (by omega)).trans b3, b4⟩)⟩
  refine TT.swc (fun h7 => ?_) (fun h7 => ?_)
  · refine TT.steps (cd := cd149) 1 (c' := (21, [(2, 3), (9, 0)], [(2, 3)], τ)) rfl rfl ?_
    refine TT.call (cd := cd149) rfl rfl rfl (by decide) rfl (Z_train_170 X hX (by omega)) (fun r1 τ1 hq => ?_)
    obtain ⟨ra, ρa, ⟨hra, hcf, hrf, hout⟩, dta⟩ := TT.ex hq
    subst hra
    have hst := r_st3 X hT hR (by omega) ρa dta
    have hd0 : τ1 170 0 = (n : Int) := (hcf 170 0 (by omega) (by omega)).trans hn0
    rcases hout with ⟨g1, i1, np1, nt1, ns1, L1, C1, hX1⟩ | ⟨g1, i1, a1, a2, a3, a4, a5, a6⟩ | ⟨g1, kd, pl, b1, b2, b3, b4⟩
    · subst g1
      obtain ⟨-, ⟨hC1, h301, h311⟩, h341, hi1, h331, hR1, ⟨h321, h91⟩, -, hD1⟩ := id hX1
      show TT X 149 (22, [(2, 3), (9, 0)], [(0, 1)], τ1) _
      refine TT.steps (cd := cd149) 4 (c' := (34, [(2, 3), (0, 1)], [(2, (τ1 3 3))], τ1)) rfl rfl ?_
      refine TT.top0 (z := 170) h331 ?_
      refine TT.steps (cd := cd149) 2 (c' := (36, [(2, 3), (0, 1)], [(0, (τ1 170 0)), (2, 170)], τ1)) rfl rfl ?_
      refine TT.top0 (z := ((n : Nat) : Int)) hd0 ?_
      refine TT.steps (cd := cd149) 2 (c' := (38, [(2, 3), (0, 1)], [(0, (aAdd ((n : Nat) : Int) 1)), (2, 170)], τ1)) rfl rfl ?_
      refine TT.top0 (z := ((n + 1 : Nat) : Int)) (aAdd_n (a := n) (b := 1) (by omega)) ?_
      refine TT.steps (cd := cd149) 5 (c' := (43, [(2, 3), (0, 1)], [(0, 16), (2, 3)], (up2 τ1 170 0 ((n + 1 : Nat) : Int)))) rfl rfl ?_
      by_cases hk51 : K i1 = 16
      · have hl51 : i1 < c := td_lt hT (by omega) ⟨by omega, by omega⟩
        refine TT.call (cd := cd149) rfl rfl rfl (by decide) rfl ((u_take X hT (τ := (up2 τ1 170 0 ((n + 1 : Nat) : Int))) (CT_w hC1 _ _ _ (by omega)) ((up2_far (k := 170) (k' := 3) _ _ _ _ (by decide)).trans h341) (by omega) 16).mono (fun _ _ h => h.1 hk51)) (fun r19 σ19 hq => ?_)
        rw [hq.1, hq.2]
        refine TT.steps (cd := cd149) 3 (c' := (48, [(2, 3), (0, 1)], [(0, 1)], (up2 (up2 τ1 170 0 ((n + 1 : Nat) : Int)) 3 4 ((i1 + 1 : Nat) : Int)))) rfl rfl ?_
        by_cases h5 : n + 1 = 90 ∧ ¬ K (i1 + 1) = 0
        · obtain ⟨rb, ρb, ⟨hrb, hft, hfb⟩, dtb⟩ := TT.ex (r_fin5 X hT hR1 (by omega) hk51 h5.2)
          subst hrb
          have e90 : (90 : Int) = ((n + 1 : Nat) : Int) := by omega
          rw [e90] at dtb
          exact TT.ret (cd := cd149) rfl rfl rfl rfl ⟨ρb, seg56 X (by omega) hst dtb, CFS_3 (CFS_0 (CFS_of hcf) _) _ _ (by decide), RFR_B hrf hfb, Or.inr (Or.inl ⟨rfl, (up2_nq _ (by omega)).trans (up2_hit _ _ _ _), h5.1, i1 + 1, by omega, (CT_w (CT_w hC1 _ _ _ (by omega)) _ _ _ (by omega)), (up2_hit _ _ _ _), (((up2_by _ _ (j := 4) (j' := 3) _ (by decide)).trans (up2_far (k := 170) (k' := 3) _ _ _ _ (by decide))).trans h331), h5.2, hft⟩)⟩
        · obtain ⟨rb, ρb, ⟨hrb, hRb, hfb⟩, dtb⟩ := TT.ex (r_finO X ((n + 1 : Nat) : Int) hT hR1 (by omega) hk51 (by by_cases q : K (i1 + 1) = 0; (exact Or.inr q); exact Or.inl (fun q2 => h5 ⟨by omega, q⟩)))
          subst hrb
          exact TT.ret (cd := cd149) rfl rfl rfl rfl ⟨ρb, seg56 X (by omega) hst dtb, CFS_3 (CFS_0 (CFS_of hcf) _) _ _ (by decide), RFR_A hrf hfb, Or.inl ⟨rfl, (up2_nq _ (by omega)).trans (up2_hit _ _ _ _), i1 + 1, np1, nt1, ns1, L1, C1, ⟨hT, ⟨(CT_w (CT_w hC1 _ _ _ (by omega)) _ _ _ (by omega)), (up2_nq _ (by omega)).trans ((up2_nq _ (by omega)).trans h301), (up2_nq _ (by omega)).trans ((up2_nq _ (by omega)).trans h311)⟩, (up2_hit _ _ _ _), by omega, (((up2_by _ _ (j := 4) (j' := 3) _ (by decide)).trans (up2_far (k := 170) (k' := 3) _ _ _ _ (by decide))).trans h331), hRb, ⟨(hfb _ _ (by omega)).trans h321, (hfb _ _ (by omega)).trans h91⟩, hb2, DRl_0 hD1 (fun K j q1 q2 => by rw [up2_nq _ (by omega), up2_nq _ (by omega)]) (fun K j q1 => hfb K j (by omega))⟩, by by_cases q : K (i1 + 1) = 0; (exact Or.inr q); exact Or.inl (by have : ¬ n + 1 = 90 := fun q2 => h5 ⟨q2, q⟩; omega)⟩⟩
      · refine TT.call (cd := cd149) rfl rfl rfl (by decide) rfl ((u_take X hT (τ := (up2 τ1 170 0 ((n + 1 : Nat) : Int))) (CT_w hC1 _ _ _ (by omega)) ((up2_far (k := 170) (k' := 3) _ _ _ _ (by decide)).trans h341) (by omega) 16).mono (fun _ _ h => h.2 hk51)) (fun r20 σ20 hq => ?_)
        rw [hq.1, hq.2]
        refine TT.steps (cd := cd149) 2 (c' := (48, [(2, 3), (0, 1)], [(0, 0)], (cFail (up2 τ1 170 0 ((n + 1 : Nat) : Int)) 1 (plc K S V i1)))) rfl rfl ?_
        obtain ⟨rb, ρb, ⟨hrb, hft, hfb⟩, dtb⟩ := TT.ex (r_finN X ((n + 1 : Nat) : Int) hT hR1 hk51)
        subst hrb
        exact TT.ret (cd := cd149) rfl rfl rfl rfl ⟨ρb, seg56 X (by omega) hst dtb, CFS_f (CFS_0 (CFS_of hcf) _) _ _, RFR_B hrf hfb, Or.inr (Or.inr ⟨rfl, 1, (plc K S V i1), by decide, (cF_0 _ _ _).1, (cF_0 _ _ _).2, hft⟩)⟩
    · subst g1
      obtain ⟨rb, ρb, ⟨hrb, hρb⟩, dtb⟩ := TT.ex (r_finF X ((n + 1 : Nat) : Int) (ρ := ρa) (by rw [a6.1]; decide))
      subst hrb
      subst hρb
      show TT X 149 (22, [(2, 3), (9, 0)], [(0, 1)], τ1) _
      refine TT.steps (cd := cd149) 4 (c' := (34, [(2, 3), (0, 1)], [(2, (τ1 3 3))], τ1)) rfl rfl ?_
      refine TT.top0 (z := 170) a4 ?_
      refine TT.steps (cd := cd149) 2 (c' := (36, [(2, 3), (0, 1)], [(0, (τ1 170 0)), (2, 170)], τ1)) rfl rfl ?_
      refine TT.top0 (z := ((n : Nat) : Int)) hd0 ?_
      refine TT.steps (cd := cd149) 2 (c' := (38, [(2, 3), (0, 1)], [(0, (aAdd ((n : Nat) : Int) 1)), (2, 170)], τ1)) rfl rfl ?_
      refine TT.top0 (z := ((n + 1 : Nat) : Int)) (aAdd_n (a := n) (b := 1) (by omega)) ?_
      refine TT.steps (cd := cd149) 5 (c' := (43, [(2, 3), (0, 1)], [(0, 16), (2, 3)], (up2 τ1 170 0 ((n + 1 : Nat) : Int)))) rfl rfl ?_
      refine TT.call (cd := cd149) rfl rfl rfl (by decide) rfl ((u_take X hT (τ := (up2 τ1 170 0 ((n + 1 : Nat) : Int))) (CT_w a2 _ _ _ (by omega)) ((up2_far (k := 170) (k' := 3) _ _ _ _ (by decide)).trans a3) (by omega) 16).mono (fun _ _ h => h.2 a5)) (fun r19 σ19 hq => ?_)
      rw [hq.1, hq.2]
      refine TT.steps (cd := cd149) 2 (c' := (48, [(2, 3), (0, 1)], [(0, 0)], (cFail (up2 τ1 170 0 ((n + 1 : Nat) : Int)) 1 (plc K S V i1)))) rfl rfl ?_
      exact TT.ret (cd := cd149) rfl rfl rfl rfl ⟨ρb, seg56 X (by omega) hst dtb, CFS_f (CFS_0 (CFS_of hcf) _) _ _, hrf, Or.inr (Or.inr ⟨rfl, 1, (plc K S V i1), by decide, (cF_0 _ _ _).1, (cF_0 _ _ _).2, a6⟩)⟩
    · subst g1
      obtain ⟨rb, ρb, ⟨hrb, hρb⟩, dtb⟩ := TT.ex (r_finF X ((n + 1 : Nat) : Int) (ρ := ρa) (by rw [b4.1]; exact b1))
      subst hrb
      subst hρb
      have h33z : τ1 3 3 = ((170 : Nat) : Int) := (hcf 3 3 (by omega) (by omega)).trans h33
      show TT X 149 (22, [(2, 3), (9, 0)], [(0, 0)], τ1) _
      refine TT.steps (cd := cd149) 4 (c' := (34, [(2, 3), (0, 0)], [(2, (τ1 3 3))], τ1)) rfl rfl ?_
      refine TT.top0 (z := 170) h33z ?_
      refine TT.steps (cd := cd149) 2 (c' := (36, [(2, 3), (0, 0)], [(0, (τ1 170 0)), (2, 170)], τ1)) rfl rfl ?_
      refine TT.top0 (z := ((n : Nat) : Int)) hd0 ?_
      refine TT.steps (cd := cd149) 2 (c' := (38, [(2, 3), (0, 0)], [(0, (aAdd ((n : Nat) : Int) 1)), (2, 170)], τ1)) rfl rfl ?_
      refine TT.top0 (z := ((n + 1 : Nat) : Int)) (aAdd_n (a := n) (b := 1) (by omega)) ?_
      refine TT.steps (cd := cd149) 4 (c' := (48, [(2, 3), (0, 0)], [(0, 0)], (up2 τ1 170 0 ((n + 1 : Nat) : Int)))) rfl rfl ?_
      exact TT.ret (cd := cd149) rfl rfl rfl rfl ⟨ρb, seg56 X (by omega) hst dtb, CFS_0 (CFS_of hcf) _, hrf, Or.inr (Or.inr ⟨rfl, kd, pl, b1, (up2_nq _ (by omega)).trans b2, (up2_nq _ (by omega)).trans b3, b4⟩)⟩
  refine TT.swc (fun h9 => ?_) (fun h9 => ?_)
  · refine TT.steps (cd := cd149) 2 (c' := (30, [(2, 3), (9, 0)], [(0, 1), (2, 3)], τ)) rfl rfl ?_
    obtain ⟨ra, ρa, ⟨hra, hft, hfb⟩, dta⟩ := TT.ex (r_stN X hT hR (by omega))
    subst hra
    obtain ⟨rb, ρb, ⟨hrb, hρb⟩, dtb⟩ := TT.ex (r_finF X ((n + 1 : Nat) : Int) (ρ := ρa) (by rw [hft.1]; decide))
    subst hrb
    subst hρb
    refine TT.call (cd := cd149) rfl rfl rfl (by decide) rfl (u_fail1 X hT (τ := τ) hC h34 (by omega)) (fun r10 σ10 hq => ?_)
    rw [hq.1, hq.2]
    exact TT.ret (cd := cd149) rfl rfl rfl rfl ⟨ρb, seg56 X (by omega) dta dtb, CFS_f (CFS_of (CFR.refl _ _)) _ _, RFR_B (RFR.refl _ _) hfb, Or.inr (Or.inr ⟨rfl, 1, (plc K S V i), by decide, (cF_0 _ _ _).1, (cF_0 _ _ _).2, hft⟩)⟩
  refine TT.swc (fun h11 => ?_) (fun h11 => ?_)
  · refine TT.steps (cd := cd149) 2 (c' := (30, [(2, 3), (9, 0)], [(0, 1), (2, 3)], τ)) rfl rfl ?_
    obtain ⟨ra, ρa, ⟨hra, hft, hfb⟩, dta⟩ := TT.ex (r_stN X hT hR (by omega))
    subst hra
    obtain ⟨rb, ρb, ⟨hrb, hρb⟩, dtb⟩ := TT.ex (r_finF X ((n + 1 : Nat) : Int) (ρ := ρa) (by rw [hft.1]; decide))
    subst hrb
    subst hρb
    refine TT.call (cd := cd149) rfl rfl rfl (by decide) rfl (u_fail1 X hT (τ := τ) hC h34 (by omega)) (fun r12 σ12 hq => ?_)
    rw [hq.1, hq.2]
    exact TT.ret (cd := cd149) rfl rfl rfl rfl ⟨ρb, seg56 X (by omega) dta dtb, CFS_f (CFS_of (CFR.refl _ _)) _ _, RFR_B (RFR.refl _ _) hfb, Or.inr (Or.inr ⟨rfl, 1, (plc K S V i), by decide, (cF_0 _ _ _).1, (cF_0 _ _ _).2, hft⟩)⟩
  refine TT.swc (fun h13 => ?_) (fun h13 => ?_)
  · refine TT.steps (cd := cd149) 2 (c' := (30, [(2, 3), (9, 0)], [(0, 1), (2, 3)], τ)) rfl rfl ?_
    obtain ⟨ra, ρa, ⟨hra, hft, hfb⟩, dta⟩ := TT.ex (r_stN X hT hR (by omega))
    subst hra
    obtain ⟨rb, ρb, ⟨hrb, hρb⟩, dtb⟩ := TT.ex (r_finF X ((n + 1 : Nat) : Int) (ρ := ρa) (by rw [hft.1]; decide))
    subst hrb
    subst hρb
    refine TT.call (cd := cd149) rfl rfl rfl (by decide) rfl (u_fail1 X hT (τ := τ) hC h34 (by omega)) (fun r14 σ14 hq => ?_)
    rw [hq.1, hq.2]
    exact TT.ret (cd := cd149) rfl rfl rfl rfl ⟨ρb, seg56 X (by omega) dta dtb, CFS_f (CFS_of (CFR.refl _ _)) _ _, RFR_B (RFR.refl _ _) hfb, Or.inr (Or.inr ⟨rfl, 1, (plc K S V i), by decide, (cF_0 _ _ _).1, (cF_0 _ _ _).2, hft⟩)⟩
  refine TT.swc (fun h15 => ?_) (fun h15 => ?_)
  · refine TT.steps (cd := cd149) 2 (c' := (30, [(2, 3), (9, 0)], [(0, 1), (2, 3)], τ)) rfl rfl ?_
    obtain ⟨ra, ρa, ⟨hra, hft, hfb⟩, dta⟩ := TT.ex (r_stN X hT hR (by omega))
    subst hra
    obtain ⟨rb, ρb, ⟨hrb, hρb⟩, dtb⟩ := TT.ex (r_finF X ((n + 1 : Nat) : Int) (ρ := ρa) (by rw [hft.1]; decide))
    subst hrb
    subst hρb
    refine TT.call (cd := cd149) rfl rfl rfl (by decide) rfl (u_fail1 X hT (τ := τ) hC h34 (by omega)) (fun r16 σ16 hq => ?_)
    rw [hq.1, hq.2]
    exact TT.ret (cd := cd149) rfl rfl rfl rfl ⟨ρb, seg56 X (by omega) dta dtb, CFS_f (CFS_of (CFR.refl _ _)) _ _, RFR_B (RFR.refl _ _) hfb, Or.inr (Or.inr ⟨rfl, 1, (plc K S V i), by decide, (cF_0 _ _ _).1, (cF_0 _ _ _).2, hft⟩)⟩
  refine TT.swc (fun h17 => ?_) (fun h17 => ?_)
  · refine TT.steps (cd := cd149) 1 (c' := (25, [(2, 3), (9, 0)], [(2, 3)], τ)) rfl rfl ?_
    refine TT.call (cd := cd149) rfl rfl rfl (by decide) rfl (Z_person_170 X hX (by omega)) (fun r1 τ1 hq => ?_)
    obtain ⟨ra, ρa, ⟨hra, hcf, hrf, hout⟩, dta⟩ := TT.ex hq
    subst hra
    have hst := r_st8 X hT hR (by omega) ρa dta
    have hd0 : τ1 170 0 = (n : Int) := (hcf 170 0 (by omega) (by omega)).trans hn0
    rcases hout with ⟨g1, i1, np1, nt1, ns1, L1, C1, hX1⟩ | ⟨g1, i1, a1, a2, a3, a4, a5, a6⟩ | ⟨g1, kd, pl, b1, b2, b3, b4⟩
    · subst g1
      obtain ⟨-, ⟨hC1, h301, h311⟩, h341, hi1, h331, hR1, ⟨h321, h91⟩, -, hD1⟩ := id hX1
      show TT X 149 (26, [(2, 3), (9, 0)], [(0, 1)], τ1) _
      refine TT.steps (cd := cd149) 4 (c' := (34, [(2, 3), (0, 1)], [(2, (τ1 3 3))], τ1)) rfl rfl ?_
      refine TT.top0 (z := 170) h331 ?_
      refine TT.steps (cd := cd149) 2 (c' := (36, [(2, 3), (0, 1)], [(0, (τ1 170 0)), (2, 170)], τ1)) rfl rfl ?_
      refine TT.top0 (z := ((n : Nat) : Int)) hd0 ?_
      refine TT.steps (cd := cd149) 2 (c' := (38, [(2, 3), (0, 1)], [(0, (aAdd ((n : Nat) : Int) 1)), (2, 170)], τ1)) rfl rfl ?_
      refine TT.top0 (z := ((n + 1 : Nat) : Int)) (aAdd_n (a := n) (b := 1) (by omega)) ?_
      refine TT.steps (cd := cd149) 5 (c' := (43, [(2, 3), (0, 1)], [(0, 16), (2, 3)], (up2 τ1 170 0 ((n + 1 : Nat) : Int)))) rfl rfl ?_
      by_cases hk51 : K i1 = 16
      · have hl51 : i1 < c := td_lt hT (by omega) ⟨by omega, by omega⟩
        refine TT.call (cd := cd149) rfl rfl rfl (by decide) rfl ((u_take X hT (τ := (up2 τ1 170 0 ((n + 1 : Nat) : Int))) (CT_w hC1 _ _ _ (by omega)) ((up2_far (k := 170) (k' := 3) _ _ _ _ (by decide)).trans h341) (by omega) 16).mono (fun _ _ h => h.1 hk51)) (fun r29 σ29 hq => ?_)
        rw [hq.1, hq.2]
        refine TT.steps (cd := cd149) 3 (c' := (48, [(2, 3), (0, 1)], [(0, 1)], (up2 (up2 τ1 170 0 ((n + 1 : Nat) : Int)) 3 4 ((i1 + 1 : Nat) : Int)))) rfl rfl ?_
        by_cases h5 : n + 1 = 90 ∧ ¬ K (i1 + 1) = 0
        · obtain ⟨rb, ρb, ⟨hrb, hft, hfb⟩, dtb⟩ := TT.ex (r_fin5 X hT hR1 (by omega) hk51 h5.2)
          subst hrb
          have e90 : (90 : Int) = ((n + 1 : Nat) : Int) := by omega
          rw [e90] at dtb
          exact TT.ret (cd := cd149) rfl rfl rfl rfl ⟨ρb, seg56 X (by omega) hst dtb, CFS_3 (CFS_0 (CFS_of hcf) _) _ _ (by decide), RFR_B hrf hfb, Or.inr (Or.inl ⟨rfl, (up2_nq _ (by omega)).trans (up2_hit _ _ _ _), h5.1, i1 + 1, by omega, (CT_w (CT_w hC1 _ _ _ (by omega)) _ _ _ (by omega)), (up2_hit _ _ _ _), (((up2_by _ _ (j := 4) (j' := 3) _ (by decide)).trans (up2_far (k := 170) (k' := 3) _ _ _ _ (by decide))).trans h331), h5.2, hft⟩)⟩
        · obtain ⟨rb, ρb, ⟨hrb, hRb, hfb⟩, dtb⟩ := TT.ex (r_finO X ((n + 1 : Nat) : Int) hT hR1 (by omega) hk51 (by by_cases q : K (i1 + 1) = 0; (exact Or.inr q); exact Or.inl (fun q2 => h5 ⟨by omega, q⟩)))
          subst hrb
          exact TT.ret (cd := cd149) rfl rfl rfl rfl ⟨ρb, seg56 X (by omega) hst dtb, CFS_3 (CFS_0 (CFS_of hcf) _) _ _ (by decide), RFR_A hrf hfb, Or.inl ⟨rfl, (up2_nq _ (by omega)).trans (up2_hit _ _ _ _), i1 + 1, np1, nt1, ns1, L1, C1, ⟨hT, ⟨(CT_w (CT_w hC1 _ _ _ (by omega)) _ _ _ (by omega)), (up2_nq _ (by omega)).trans ((up2_nq _ (by omega)).trans h301), (up2_nq _ (by omega)).trans ((up2_nq _ (by omega)).trans h311)⟩, (up2_hit _ _ _ _), by omega, (((up2_by _ _ (j := 4) (j' := 3) _ (by decide)).trans (up2_far (k := 170) (k' := 3) _ _ _ _ (by decide))).trans h331), hRb, ⟨(hfb _ _ (by omega)).trans h321, (hfb _ _ (by omega)).trans h91⟩, hb2, DRl_0 hD1 (fun K j q1 q2 => by rw [up2_nq _ (by omega), up2_nq _ (by omega)]) (fun K j q1 => hfb K j (by omega))⟩, by by_cases q : K (i1 + 1) = 0; (exact Or.inr q); exact Or.inl (by have : ¬ n + 1 = 90 := fun q2 => h5 ⟨q2, q⟩; omega)⟩⟩
      · refine TT.call (cd := cd149) rfl rfl rfl (by decide) rfl ((u_take X hT (τ := (up2 τ1 170 0 ((n + 1 : Nat) : Int))) (CT_w hC1 _ _ _ (by omega)) ((up2_far (k := 170) (k' := 3) _ _ _ _ (by decide)).trans h341) (by omega) 16).mono (fun _ _ h => h.2 hk51)) (fun r30 σ30 hq => ?_)
        rw [hq.1, hq.2]
        refine TT.steps (cd := cd149) 2 (c' := (48, [(2, 3), (0, 1)], [(0, 0)], (cFail (up2 τ1 170 0 ((n + 1 : Nat) : Int)) 1 (plc K S V i1)))) rfl rfl ?_
        obtain ⟨rb, ρb, ⟨hrb, hft, hfb⟩, dtb⟩ := TT.ex (r_finN X ((n + 1 : Nat) : Int) hT hR1 hk51)
        subst hrb
        exact TT.ret (cd := cd149) rfl rfl rfl rfl ⟨ρb, seg56 X (by omega) hst dtb, CFS_f (CFS_0 (CFS_of hcf) _) _ _, RFR_B hrf hfb, Or.inr (Or.inr ⟨rfl, 1, (plc K S V i1), by decide, (cF_0 _ _ _).1, (cF_0 _ _ _).2, hft⟩)⟩
    · subst g1
      obtain ⟨rb, ρb, ⟨hrb, hρb⟩, dtb⟩ := TT.ex (r_finF X ((n + 1 : Nat) : Int) (ρ := ρa) (by rw [a6.1]; decide))
      subst hrb
      subst hρb
      show TT X 149 (26, [(2, 3), (9, 0)], [(0, 1)], τ1) _
      refine TT.steps (cd := cd149) 4 (c' := (34, [(2, 3), (0, 1)], [(2, (τ1 3 3))], τ1)) rfl rfl ?_
      refine TT.top0 (z := 170) a4 ?_
      refine TT.steps (cd := cd149) 2 (c' := (36, [(2, 3), (0, 1)], [(0, (τ1 170 0)), (2, 170)], τ1)) rfl rfl ?_
      refine TT.top0 (z := ((n : Nat) : Int)) hd0 ?_
      refine TT.steps (cd := cd149) 2 (c' := (38, [(2, 3), (0, 1)], [(0, (aAdd ((n : Nat) : Int) 1)), (2, 170)], τ1)) rfl rfl ?_
      refine TT.top0 (z := ((n + 1 : Nat) : Int)) (aAdd_n (a := n) (b := 1) (by omega)) ?_
      refine TT.steps (cd := cd149) 5 (c' := (43, [(2, 3), (0, 1)], [(0, 16), (2, 3)], (up2 τ1 170 0 ((n + 1 : Nat) : Int)))) rfl rfl ?_
      refine TT.call (cd := cd149) rfl rfl rfl (by decide) rfl ((u_take X hT (τ := (up2 τ1 170 0 ((n + 1 : Nat) : Int))) (CT_w a2 _ _ _ (by omega)) ((up2_far (k := 170) (k' := 3) _ _ _ _ (by decide)).trans a3) (by omega) 16).mono (fun _ _ h => h.2 a5)) (fun r29 σ29 hq => ?_)
      rw [hq.1, hq.2]
      refine TT.steps (cd := cd149) 2 (c' := (48, [(2, 3), (0, 1)], [(0, 0)], (cFail (up2 τ1 170 0 ((n + 1 : Nat) : Int)) 1 (plc K S V i1)))) rfl rfl ?_
      exact TT.ret (cd := cd149) rfl rfl rfl rfl ⟨ρb, seg56 X (by omega) hst dtb, CFS_f (CFS_0 (CFS_of hcf) _) _ _, hrf, Or.inr (Or.inr ⟨rfl, 1, (plc K S V i1), by decide, (cF_0 _ _ _).1, (cF_0 _ _ _).2, a6⟩)⟩
    · subst g1
      obtain ⟨rb, ρb, ⟨hrb, hρb⟩, dtb⟩ := TT.ex (r_finF X ((n + 1 : Nat) : Int) (ρ := ρa) (by rw [b4.1]; exact b1))
      subst hrb
      subst hρb
      have h33z : τ1 3 3 = ((170 : Nat) : Int) := (hcf 3 3 (by omega) (by omega)).trans h33
      show TT X 149 (26, [(2, 3), (9, 0)], [(0, 0)], τ1) _
      refine TT.steps (cd := cd149) 4 (c' := (34, [(2, 3), (0, 0)], [(2, (τ1 3 3))], τ1)) rfl rfl ?_
      refine TT.top0 (z := 170) h33z ?_
      refine TT.steps (cd := cd149) 2 (c' := (36, [(2, 3), (0, 0)], [(0, (τ1 170 0)), (2, 170)], τ1)) rfl rfl ?_
      refine TT.top0 (z := ((n : Nat) : Int)) hd0 ?_
      refine TT.steps (cd := cd149) 2 (c' := (38, [(2, 3), (0, 0)], [(0, (aAdd ((n : Nat) : Int) 1)), (2, 170)], τ1)) rfl rfl ?_
      refine TT.top0 (z := ((n + 1 : Nat) : Int)) (aAdd_n (a := n) (b := 1) (by omega)) ?_
      refine TT.steps (cd := cd149) 4 (c' := (48, [(2, 3), (0, 0)], [(0, 0)], (up2 τ1 170 0 ((n + 1 : Nat) : Int)))) rfl rfl ?_
      exact TT.ret (cd := cd149) rfl rfl rfl rfl ⟨ρb, seg56 X (by omega) hst dtb, CFS_0 (CFS_of hcf) _, hrf, Or.inr (Or.inr ⟨rfl, kd, pl, b1, (up2_nq _ (by omega)).trans b2, (up2_nq _ (by omega)).trans b3, b4⟩)⟩
  show TT X 149 (28, [(2, 3), (9, 0)], [], τ) _
  refine TT.steps (cd := cd149) 2 (c' := (30, [(2, 3), (9, 0)], [(0, 1), (2, 3)], τ)) rfl rfl ?_
  obtain ⟨ra, ρa, ⟨hra, hft, hfb⟩, dta⟩ := TT.ex (r_stN X hT hR (by omega))
  subst hra
  obtain ⟨rb, ρb, ⟨hrb, hρb⟩, dtb⟩ := TT.ex (r_finF X ((n + 1 : Nat) : Int) (ρ := ρa) (by rw [hft.1]; decide))
  subst hrb
  subst hρb
  refine TT.call (cd := cd149) rfl rfl rfl (by decide) rfl (u_fail1 X hT (τ := τ) hC h34 (by omega)) (fun r19 σ19 hq => ?_)
  rw [hq.1, hq.2]
  exact TT.ret (cd := cd149) rfl rfl rfl rfl ⟨ρb, seg56 X (by omega) dta dtb, CFS_f (CFS_of (CFR.refl _ _)) _ _, RFR_B (RFR.refl _ _) hfb, Or.inr (Or.inr ⟨rfl, 1, (plc K S V i), by decide, (cF_0 _ _ _).1, (cF_0 _ _ _).2, hft⟩)⟩
