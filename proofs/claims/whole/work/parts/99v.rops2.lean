/-! The reference's parser: what each of its words does. -/
theorem rl_no17 {f : Nat → Int} {N i : Nat} {K : Nat → Int} {S : Nat → Nat} {V : Nat → Int} {P : Nat → Nat} {ρ : AH} (h : RTk f N K S V P i ρ) (hk : ¬ K i = 17) : mLex ρ = ρ ∧ ρ 295 12 = -1 ∧ (K i = 17 → V i = 0) ∧ plc K S V i = (S i : Int) := by
  rcases rl_lex h with g | g
  · exact g
  · exact absurd g.1 hk
theorem r_mustF (X : AX) (w : Int) {ρ : AH} (h8 : 0 < ρ 295 8)  : TT X 18 (0, [(2, 295), (1, w), (9, 0)], [], ρ) (fun r σ' => r = none ∧ σ' = ρ) := by
  refine TT.steps (cd := cd18) 1 (c' := (1, [(2, 295), (1, w), (9, 0)], [(2, 295)], ρ)) rfl rfl ?_
  refine TT.call (cd := cd18) rfl rfl rfl (by decide) rfl (t_lex X ρ) (fun r1 σ1 hq => ?_)
  rw [hq.1, hq.2, mLex_1 h8]
  refine TT.steps (cd := cd18) 3 (c' := ((if decide ((ρ 295 8) ≤ 0) = true then 6 else 5), [(2, 295), (1, w), (9, 0)], [], ρ)) rfl rfl ?_
  refine TT.br (p := (ρ 295 8) ≤ 0) (fun h2 => absurd h2 (show ¬ ((ρ 295 8) ≤ 0) by omega)) (fun h2 => ?_)
  exact TT.ret (cd := cd18) rfl rfl rfl rfl (⟨rfl, rfl⟩)
theorem r_mustA (X : AX) {f : Nat → Int} {N c i : Nat} {K : Nat → Int} {S : Nat → Nat} {V : Nat → Int} {P : Nat → Nat} {ρ : AH} (hT : TD f N c K S V P) (hR : RTk f N K S V P i ρ) (hA : K i = 17 ∧ plc K S V i = (S i : Int) + V i ∧ mLex ρ = up2 (up2 ρ 295 8 1) 295 9 ((S i : Int) + V i)) {k0 : Int} (hk : 1 ≤ k0 ∧ k0 ≤ 13)  : TT X 18 (0, [(2, 295), (1, (OWi k0)), (9, 0)], [], ρ) (fun r σ' => r = none ∧ FT 1 (plc K S V i) σ' ∧ RFB ρ σ') := by
  refine TT.steps (cd := cd18) 1 (c' := (1, [(2, 295), (1, (OWi k0)), (9, 0)], [(2, 295)], ρ)) rfl rfl ?_
  refine TT.call (cd := cd18) rfl rfl rfl (by decide) rfl (t_lex X ρ) (fun r1 σ1 hq => ?_)
  rw [hq.1, hq.2, hA.2.2]
  refine TT.steps (cd := cd18) 2 (c' := (4, [(2, 295), (1, (OWi k0)), (9, 0)], [(0, ((up2 (up2 ρ 295 8 1) 295 9 (((S i : Nat) : Int) + V i)) 295 8))], (up2 (up2 ρ 295 8 1) 295 9 (((S i : Nat) : Int) + V i)))) rfl rfl ?_
  refine TT.top0 (z := 1) ((up2_by _ _ (j := 9) (j' := 8) _ (by decide)).trans (up2_hit _ _ _ _)) ?_
  refine TT.steps (cd := cd18) 1 (c' := (5, [(2, 295), (1, (OWi k0)), (9, 0)], [], (up2 (up2 ρ 295 8 1) 295 9 (((S i : Nat) : Int) + V i)))) rfl rfl ?_
  exact TT.ret (cd := cd18) rfl rfl rfl rfl (⟨rfl, (by rw [hA.2.1]; exact FT_bl _ _ _), RFB_bl _ _ _⟩)
theorem r_mustB (X : AX) {f : Nat → Int} {N c i : Nat} {K : Nat → Int} {S : Nat → Nat} {V : Nat → Int} {P : Nat → Nat} {ρ : AH} (hT : TD f N c K S V P) (hR : RTk f N K S V P i ρ) (hB : mLex ρ = ρ ∧ ρ 295 12 = -1 ∧ (K i = 17 → V i = 0) ∧ plc K S V i = (S i : Int)) {k0 : Int} (hk : 1 ≤ k0 ∧ k0 ≤ 13) (hne : ¬ K i = k0)  : TT X 18 (0, [(2, 295), (1, (OWi k0)), (9, 0)], [], ρ) (fun r σ' => r = none ∧ FT 1 (plc K S V i) σ' ∧ RFB ρ σ') := by
  refine TT.steps (cd := cd18) 1 (c' := (1, [(2, 295), (1, (OWi k0)), (9, 0)], [(2, 295)], ρ)) rfl rfl ?_
  refine TT.call (cd := cd18) rfl rfl rfl (by decide) rfl (t_lex X ρ) (fun r1 σ1 hq => ?_)
  rw [hq.1, hq.2, hB.1]
  refine TT.steps (cd := cd18) 2 (c' := (4, [(2, 295), (1, (OWi k0)), (9, 0)], [(0, (ρ 295 8))], ρ)) rfl rfl ?_
  refine TT.top0 (z := 0) hR.1 ?_
  refine TT.steps (cd := cd18) 3 (c' := (8, [(2, 295), (1, (OWi k0)), (9, 0)], [(1, (OWi k0)), (2, 295)], ρ)) rfl rfl ?_
  refine TT.call (cd := cd18) rfl rfl rfl (by decide) rfl (t_isWord X (OWi k0) ρ) (fun r2 σ2 hq => ?_)
  rw [hq.1, hq.2, if_neg (fun q => hne ((rl_word hR hB.2.1 hk).mp q))]
  refine TT.steps (cd := cd18) 5 (c' := (14, [(2, 295), (1, (OWi k0)), (9, 0)], [(0, (ρ 295 4)), (0, 1), (2, 295)], ρ)) rfl rfl ?_
  refine TT.top0 (z := (((S i) : Nat) : Int)) hR.2.2.2.1 ?_
  refine TT.call (cd := cd18) rfl rfl rfl (by decide) rfl (t_blame X 1 (((S i) : Nat) : Int) ρ) (fun r3 σ3 hq => ?_)
  rw [hq.1, hq.2, mBl_0 hR.1]
  refine TT.steps (cd := cd18) 2 (c' := (17, [(2, 295), (1, (OWi k0)), (9, 0)], [(0, ((up2 (up2 ρ 295 8 1) 295 9 (((S i) : Nat) : Int)) 295 8))], (up2 (up2 ρ 295 8 1) 295 9 (((S i) : Nat) : Int)))) rfl rfl ?_
  refine TT.top0 (z := 1) ((up2_by _ _ (j := 9) (j' := 8) _ (by decide)).trans (up2_hit _ _ _ _)) ?_
  refine TT.steps (cd := cd18) 1 (c' := (20, [(2, 295), (1, (OWi k0)), (9, 0)], [], (up2 (up2 ρ 295 8 1) 295 9 (((S i) : Nat) : Int)))) rfl rfl ?_
  exact TT.ret (cd := cd18) rfl rfl rfl rfl (⟨rfl, (by rw [hB.2.2.2]; exact FT_bl _ _ _), RFB_bl _ _ _⟩)
theorem r_mustO (X : AX) {f : Nat → Int} {N c i : Nat} {K : Nat → Int} {S : Nat → Nat} {V : Nat → Int} {P : Nat → Nat} {ρ : AH} (hT : TD f N c K S V P) (hR : RTk f N K S V P i ρ) {k0 : Int} (hk : 1 ≤ k0 ∧ k0 ≤ 13) (hi : i < c) (he : K i = k0)  : TT X 18 (0, [(2, 295), (1, (OWi k0)), (9, 0)], [], ρ) (fun r σ' => r = none ∧ RTk f N K S V P (i + 1) σ' ∧ RFA ρ σ') := by
  have hB := rl_no17 hR (by omega)
  refine TT.steps (cd := cd18) 1 (c' := (1, [(2, 295), (1, (OWi k0)), (9, 0)], [(2, 295)], ρ)) rfl rfl ?_
  refine TT.call (cd := cd18) rfl rfl rfl (by decide) rfl (t_lex X ρ) (fun r1 σ1 hq => ?_)
  rw [hq.1, hq.2, hB.1]
  refine TT.steps (cd := cd18) 2 (c' := (4, [(2, 295), (1, (OWi k0)), (9, 0)], [(0, (ρ 295 8))], ρ)) rfl rfl ?_
  refine TT.top0 (z := 0) hR.1 ?_
  refine TT.steps (cd := cd18) 3 (c' := (8, [(2, 295), (1, (OWi k0)), (9, 0)], [(1, (OWi k0)), (2, 295)], ρ)) rfl rfl ?_
  refine TT.call (cd := cd18) rfl rfl rfl (by decide) rfl (t_isWord X (OWi k0) ρ) (fun r2 σ2 hq => ?_)
  rw [hq.1, hq.2, if_pos ((rl_word hR hB.2.1 hk).mpr he)]
  refine TT.steps (cd := cd18) 3 (c' := (17, [(2, 295), (1, (OWi k0)), (9, 0)], [(0, (ρ 295 8))], ρ)) rfl rfl ?_
  refine TT.top0 (z := 0) hR.1 ?_
  refine TT.steps (cd := cd18) 2 (c' := (19, [(2, 295), (1, (OWi k0)), (9, 0)], [(2, 295)], ρ)) rfl rfl ?_
  refine TT.call (cd := cd18) rfl rfl rfl (by decide) rfl (r_ahead X hT hR hi) (fun r3 σ3 hq => ?_)
  obtain ⟨hq1, hq2, hq3⟩ := hq
  rw [hq1]
  exact TT.ret (cd := cd18) rfl rfl rfl rfl (⟨rfl, hq2, hq3⟩)
theorem r_mustN (X : AX) {f : Nat → Int} {N c i : Nat} {K : Nat → Int} {S : Nat → Nat} {V : Nat → Int} {P : Nat → Nat} {ρ : AH} (hT : TD f N c K S V P) (hR : RTk f N K S V P i ρ) {k0 : Int} (hk : 1 ≤ k0 ∧ k0 ≤ 13) (hne : ¬ K i = k0) : TT X 18 (0, [(2, 295), (1, OWi k0), (9, 0)], [], ρ) (fun r σ' => r = none ∧ FT 1 (plc K S V i) σ' ∧ RFB ρ σ') := by
  rcases rl_lex hR with hB | hA
  · exact r_mustB X hT hR hB hk hne
  · exact r_mustA X hT hR hA hk
theorem r_semF (X : AX) {ρ : AH} (h8 : 0 < ρ 295 8)  : TT X 11 (0, [(2, 295), (0, 59)], [], ρ) (fun r σ' => r = none ∧ σ' = ρ) := by
  refine TT.steps (cd := cd11) 1 (c' := (1, [(2, 295), (0, 59)], [(2, 295)], ρ)) rfl rfl ?_
  refine TT.call (cd := cd11) rfl rfl rfl (by decide) rfl (t_lex X ρ) (fun r1 σ1 hq => ?_)
  rw [hq.1, hq.2, mLex_1 h8]
  refine TT.steps (cd := cd11) 2 (c' := (4, [(2, 295), (0, 59)], [(0, 59), (2, 295)], ρ)) rfl rfl ?_
  refine TT.call (cd := cd11) rfl rfl rfl (by decide) rfl (t_isSign X 59 ρ) (fun r2 σ2 hq => ?_)
  rw [hq.1, hq.2]
  refine TT.steps (cd := cd11) 1 (c' := ((if decide (¬ ((if ρ 295 3 = 3 ∧ ρ 295 6 = 59 then 1 else 0) : Int) = 0) = true then 11 else 6), [(2, 295), (0, 59)], [], ρ)) rfl rfl ?_
  refine TT.br (p := ¬ ((if ρ 295 3 = 3 ∧ ρ 295 6 = 59 then 1 else 0) : Int) = 0) (fun h3 => ?_) (fun h3 => ?_)
  · replace h3 := ite_t h3
    refine TT.steps (cd := cd11) 3 (c' := ((if decide (¬ (ρ 295 8) = 0) = true then 16 else 14), [(2, 295), (0, 59)], [], ρ)) rfl rfl ?_
    refine TT.br (p := ¬ (ρ 295 8) = 0) (fun h4 => ?_) (fun h4 => absurd (show ¬ (ρ 295 8) = 0 by omega) h4)
    exact TT.ret (cd := cd11) rfl rfl rfl rfl (⟨rfl, rfl⟩)
  · replace h3 := ite_f (Decidable.not_not.mp h3)
    refine TT.steps (cd := cd11) 4 (c' := (10, [(2, 295), (0, 59)], [(0, (ρ 295 4)), (0, 1), (2, 295)], ρ)) rfl rfl ?_
    refine TT.call (cd := cd11) rfl rfl rfl (by decide) rfl (t_blame X 1 (ρ 295 4) ρ) (fun r5 σ5 hq => ?_)
    rw [hq.1, hq.2, mBl_1 h8]
    refine TT.steps (cd := cd11) 3 (c' := ((if decide (¬ (ρ 295 8) = 0) = true then 16 else 14), [(2, 295), (0, 59)], [], ρ)) rfl rfl ?_
    refine TT.br (p := ¬ (ρ 295 8) = 0) (fun h6 => ?_) (fun h6 => absurd (show ¬ (ρ 295 8) = 0 by omega) h6)
    exact TT.ret (cd := cd11) rfl rfl rfl rfl (⟨rfl, rfl⟩)
theorem r_semB (X : AX) {f : Nat → Int} {N c i : Nat} {K : Nat → Int} {S : Nat → Nat} {V : Nat → Int} {P : Nat → Nat} {ρ : AH} (hT : TD f N c K S V P) (hR : RTk f N K S V P i ρ) (hB : mLex ρ = ρ ∧ ρ 295 12 = -1 ∧ (K i = 17 → V i = 0) ∧ plc K S V i = (S i : Int)) (hne : ¬ K i = 16)  : TT X 11 (0, [(2, 295), (0, 59)], [], ρ) (fun r σ' => r = none ∧ FT 1 (plc K S V i) σ' ∧ RFB ρ σ') := by
  refine TT.steps (cd := cd11) 1 (c' := (1, [(2, 295), (0, 59)], [(2, 295)], ρ)) rfl rfl ?_
  refine TT.call (cd := cd11) rfl rfl rfl (by decide) rfl (t_lex X ρ) (fun r1 σ1 hq => ?_)
  rw [hq.1, hq.2, hB.1]
  refine TT.steps (cd := cd11) 2 (c' := (4, [(2, 295), (0, 59)], [(0, 59), (2, 295)], ρ)) rfl rfl ?_
  refine TT.call (cd := cd11) rfl rfl rfl (by decide) rfl (t_isSign X 59 ρ) (fun r2 σ2 hq => ?_)
  rw [hq.1, hq.2, if_neg (fun q => hne ((rl_sign hR hB.2.1).mp q))]
  refine TT.steps (cd := cd11) 5 (c' := (10, [(2, 295), (0, 59)], [(0, (ρ 295 4)), (0, 1), (2, 295)], ρ)) rfl rfl ?_
  refine TT.top0 (z := (((S i) : Nat) : Int)) hR.2.2.2.1 ?_
  refine TT.call (cd := cd11) rfl rfl rfl (by decide) rfl (t_blame X 1 (((S i) : Nat) : Int) ρ) (fun r3 σ3 hq => ?_)
  rw [hq.1, hq.2, mBl_0 hR.1]
  refine TT.steps (cd := cd11) 2 (c' := (13, [(2, 295), (0, 59)], [(0, ((up2 (up2 ρ 295 8 1) 295 9 (((S i) : Nat) : Int)) 295 8))], (up2 (up2 ρ 295 8 1) 295 9 (((S i) : Nat) : Int)))) rfl rfl ?_
  refine TT.top0 (z := 1) ((up2_by _ _ (j := 9) (j' := 8) _ (by decide)).trans (up2_hit _ _ _ _)) ?_
  refine TT.steps (cd := cd11) 1 (c' := (16, [(2, 295), (0, 59)], [], (up2 (up2 ρ 295 8 1) 295 9 (((S i) : Nat) : Int)))) rfl rfl ?_
  exact TT.ret (cd := cd11) rfl rfl rfl rfl (⟨rfl, (by rw [hB.2.2.2]; exact FT_bl _ _ _), RFB_bl _ _ _⟩)
theorem r_semO (X : AX) {f : Nat → Int} {N c i : Nat} {K : Nat → Int} {S : Nat → Nat} {V : Nat → Int} {P : Nat → Nat} {ρ : AH} (hT : TD f N c K S V P) (hR : RTk f N K S V P i ρ) (hi : i < c) (he : K i = 16)  : TT X 11 (0, [(2, 295), (0, 59)], [], ρ) (fun r σ' => r = none ∧ RTk f N K S V P (i + 1) σ' ∧ RFA ρ σ') := by
  have hB := rl_no17 hR (by omega)
  refine TT.steps (cd := cd11) 1 (c' := (1, [(2, 295), (0, 59)], [(2, 295)], ρ)) rfl rfl ?_
  refine TT.call (cd := cd11) rfl rfl rfl (by decide) rfl (t_lex X ρ) (fun r1 σ1 hq => ?_)
  rw [hq.1, hq.2, hB.1]
  refine TT.steps (cd := cd11) 2 (c' := (4, [(2, 295), (0, 59)], [(0, 59), (2, 295)], ρ)) rfl rfl ?_
  refine TT.call (cd := cd11) rfl rfl rfl (by decide) rfl (t_isSign X 59 ρ) (fun r2 σ2 hq => ?_)
  rw [hq.1, hq.2, if_pos ((rl_sign hR hB.2.1).mpr he)]
  refine TT.steps (cd := cd11) 3 (c' := (13, [(2, 295), (0, 59)], [(0, (ρ 295 8))], ρ)) rfl rfl ?_
  refine TT.top0 (z := 0) hR.1 ?_
  refine TT.steps (cd := cd11) 2 (c' := (15, [(2, 295), (0, 59)], [(2, 295)], ρ)) rfl rfl ?_
  refine TT.call (cd := cd11) rfl rfl rfl (by decide) rfl (r_ahead X hT hR hi) (fun r3 σ3 hq => ?_)
  obtain ⟨hq1, hq2, hq3⟩ := hq
  rw [hq1]
  exact TT.ret (cd := cd11) rfl rfl rfl rfl (⟨rfl, hq2, hq3⟩)
theorem r_numF (X : AX) (lo hi_ : Int) {ρ : AH} (h8 : 0 < ρ 295 8)  : TT X 16 (0, [(2, 295), (0, lo), (0, hi_), (9, 0)], [], ρ) (fun r σ' => r = some (0, 0) ∧ σ' = ρ) := by
  refine TT.steps (cd := cd16) 1 (c' := (1, [(2, 295), (0, lo), (0, hi_), (9, 0)], [(2, 295)], ρ)) rfl rfl ?_
  refine TT.call (cd := cd16) rfl rfl rfl (by decide) rfl (t_lex X ρ) (fun r1 σ1 hq => ?_)
  rw [hq.1, hq.2, mLex_1 h8]
  refine TT.steps (cd := cd16) 3 (c' := ((if decide ((ρ 295 8) ≤ 0) = true then 7 else 5), [(2, 295), (0, lo), (0, hi_), (9, 0)], [], ρ)) rfl rfl ?_
  refine TT.br (p := (ρ 295 8) ≤ 0) (fun h2 => absurd h2 (show ¬ ((ρ 295 8) ≤ 0) by omega)) (fun h2 => ?_)
  refine TT.steps (cd := cd16) 1 (c' := (6, [(2, 295), (0, lo), (0, hi_), (9, 0)], [(0, 0)], ρ)) rfl rfl ?_
  exact TT.ret (cd := cd16) rfl rfl rfl rfl (⟨rfl, rfl⟩)
theorem r_numA (X : AX) (lo hi_ : Int) {f : Nat → Int} {N c i : Nat} {K : Nat → Int} {S : Nat → Nat} {V : Nat → Int} {P : Nat → Nat} {ρ : AH} (hT : TD f N c K S V P) (hR : RTk f N K S V P i ρ) (hA : K i = 17 ∧ plc K S V i = (S i : Int) + V i ∧ mLex ρ = up2 (up2 ρ 295 8 1) 295 9 ((S i : Int) + V i))  : TT X 16 (0, [(2, 295), (0, lo), (0, hi_), (9, 0)], [], ρ) (fun r σ' => ∃ x, r = some (0, x) ∧ FT 1 (plc K S V i) σ' ∧ RFB ρ σ') := by
  refine TT.steps (cd := cd16) 1 (c' := (1, [(2, 295), (0, lo), (0, hi_), (9, 0)], [(2, 295)], ρ)) rfl rfl ?_
  refine TT.call (cd := cd16) rfl rfl rfl (by decide) rfl (t_lex X ρ) (fun r1 σ1 hq => ?_)
  rw [hq.1, hq.2, hA.2.2]
  refine TT.steps (cd := cd16) 2 (c' := (4, [(2, 295), (0, lo), (0, hi_), (9, 0)], [(0, ((up2 (up2 ρ 295 8 1) 295 9 (((S i : Nat) : Int) + V i)) 295 8))], (up2 (up2 ρ 295 8 1) 295 9 (((S i : Nat) : Int) + V i)))) rfl rfl ?_
  refine TT.top0 (z := 1) ((up2_by _ _ (j := 9) (j' := 8) _ (by decide)).trans (up2_hit _ _ _ _)) ?_
  refine TT.steps (cd := cd16) 2 (c' := (6, [(2, 295), (0, lo), (0, hi_), (9, 0)], [(0, 0)], (up2 (up2 ρ 295 8 1) 295 9 (((S i : Nat) : Int) + V i)))) rfl rfl ?_
  exact TT.ret (cd := cd16) rfl rfl rfl rfl (⟨_, rfl, (by rw [hA.2.1]; exact FT_bl _ _ _), RFB_bl _ _ _⟩)
theorem r_numB (X : AX) (lo hi_ : Int) {f : Nat → Int} {N c i : Nat} {K : Nat → Int} {S : Nat → Nat} {V : Nat → Int} {P : Nat → Nat} {ρ : AH} (hT : TD f N c K S V P) (hR : RTk f N K S V P i ρ) (hB : mLex ρ = ρ ∧ ρ 295 12 = -1 ∧ (K i = 17 → V i = 0) ∧ plc K S V i = (S i : Int)) (hne : ¬ K i = 15)  : TT X 16 (0, [(2, 295), (0, lo), (0, hi_), (9, 0)], [], ρ) (fun r σ' => ∃ x, r = some (0, x) ∧ FT 1 (plc K S V i) σ' ∧ RFB ρ σ') := by
  refine TT.steps (cd := cd16) 1 (c' := (1, [(2, 295), (0, lo), (0, hi_), (9, 0)], [(2, 295)], ρ)) rfl rfl ?_
  refine TT.call (cd := cd16) rfl rfl rfl (by decide) rfl (t_lex X ρ) (fun r1 σ1 hq => ?_)
  rw [hq.1, hq.2, hB.1]
  refine TT.steps (cd := cd16) 2 (c' := (4, [(2, 295), (0, lo), (0, hi_), (9, 0)], [(0, (ρ 295 8))], ρ)) rfl rfl ?_
  refine TT.top0 (z := 0) hR.1 ?_
  refine TT.steps (cd := cd16) 5 (c' := ((if decide ((ρ 295 3) = 2) = true then 16 else 11), [(2, 295), (0, lo), (0, hi_), (9, 0)], [], ρ)) rfl rfl ?_
  refine TT.br (p := (ρ 295 3) = 2) (fun h2 => absurd h2 (show ¬ ((ρ 295 3) = 2) by exact fun q => hne ((rl_num hR hB.2.1).1.mp q))) (fun h2 => ?_)
  refine TT.steps (cd := cd16) 4 (c' := (15, [(2, 295), (0, lo), (0, hi_), (9, 0)], [(0, (ρ 295 4)), (0, 1), (2, 295)], ρ)) rfl rfl ?_
  refine TT.top0 (z := (((S i) : Nat) : Int)) hR.2.2.2.1 ?_
  refine TT.call (cd := cd16) rfl rfl rfl (by decide) rfl (t_blame X 1 (((S i) : Nat) : Int) ρ) (fun r3 σ3 hq => ?_)
  rw [hq.1, hq.2, mBl_0 hR.1]
  refine TT.steps (cd := cd16) 2 (c' := (18, [(2, 295), (0, lo), (0, hi_), (9, 0)], [(0, ((up2 (up2 ρ 295 8 1) 295 9 (((S i) : Nat) : Int)) 295 8))], (up2 (up2 ρ 295 8 1) 295 9 (((S i) : Nat) : Int)))) rfl rfl ?_
  refine TT.top0 (z := 1) ((up2_by _ _ (j := 9) (j' := 8) _ (by decide)).trans (up2_hit _ _ _ _)) ?_
  refine TT.steps (cd := cd16) 3 (c' := (32, [(2, 295), (0, lo), (0, hi_), (9, 0)], [(0, ((up2 (up2 ρ 295 8 1) 295 9 (((S i) : Nat) : Int)) 295 6))], (up2 (up2 ρ 295 8 1) 295 9 (((S i) : Nat) : Int)))) rfl rfl ?_
  refine TT.top0 (z := (ρ 295 6)) ((up2_by _ _ (j := 9) (j' := 6) _ (by decide)).trans (up2_by _ _ (j := 8) (j' := 6) _ (by decide))) ?_
  refine TT.steps (cd := cd16) 3 (c' := (35, [(2, 295), (0, lo), (0, hi_), (0, (ρ 295 6))], [(0, ((up2 (up2 ρ 295 8 1) 295 9 (((S i) : Nat) : Int)) 295 8))], (up2 (up2 ρ 295 8 1) 295 9 (((S i) : Nat) : Int)))) rfl rfl ?_
  refine TT.top0 (z := 1) ((up2_by _ _ (j := 9) (j' := 8) _ (by decide)).trans (up2_hit _ _ _ _)) ?_
  refine TT.steps (cd := cd16) 2 (c' := (39, [(2, 295), (0, lo), (0, hi_), (0, (ρ 295 6))], [(0, (ρ 295 6))], (up2 (up2 ρ 295 8 1) 295 9 (((S i) : Nat) : Int)))) rfl rfl ?_
  exact TT.ret (cd := cd16) rfl rfl rfl rfl (⟨_, rfl, (by rw [hB.2.2.2]; exact FT_bl _ _ _), RFB_bl _ _ _⟩)
theorem r_numN (X : AX) (lo hi_ : Int) {f : Nat → Int} {N c i : Nat} {K : Nat → Int} {S : Nat → Nat} {V : Nat → Int} {P : Nat → Nat} {ρ : AH} (hT : TD f N c K S V P) (hR : RTk f N K S V P i ρ) (hne : ¬ K i = 15) : TT X 16 (0, [(2, 295), (0, lo), (0, hi_), (9, 0)], [], ρ) (fun r σ' => ∃ x, r = some (0, x) ∧ FT 1 (plc K S V i) σ' ∧ RFB ρ σ') := by
  rcases rl_lex hR with hB | hA
  · exact r_numB X lo hi_ hT hR hB hne
  · exact r_numA X lo hi_ hT hR hA
theorem r_numR (X : AX) (lo hi_ : Int) {f : Nat → Int} {N c i : Nat} {K : Nat → Int} {S : Nat → Nat} {V : Nat → Int} {P : Nat → Nat} {ρ : AH} (hT : TD f N c K S V P) (hR : RTk f N K S V P i ρ) (he : K i = 15) (hr : ¬ (lo ≤ V i ∧ V i ≤ hi_))  : TT X 16 (0, [(2, 295), (0, lo), (0, hi_), (9, 0)], [], ρ) (fun r σ' => ∃ x, r = some (0, x) ∧ FT 4 (plc K S V i) σ' ∧ RFB ρ σ') := by
  have hB := rl_no17 hR (by omega)
  refine TT.steps (cd := cd16) 1 (c' := (1, [(2, 295), (0, lo), (0, hi_), (9, 0)], [(2, 295)], ρ)) rfl rfl ?_
  refine TT.call (cd := cd16) rfl rfl rfl (by decide) rfl (t_lex X ρ) (fun r1 σ1 hq => ?_)
  rw [hq.1, hq.2, hB.1]
  refine TT.steps (cd := cd16) 2 (c' := (4, [(2, 295), (0, lo), (0, hi_), (9, 0)], [(0, (ρ 295 8))], ρ)) rfl rfl ?_
  refine TT.top0 (z := 0) hR.1 ?_
  refine TT.steps (cd := cd16) 3 (c' := (9, [(2, 295), (0, lo), (0, hi_), (9, 0)], [(0, (ρ 295 3))], ρ)) rfl rfl ?_
  refine TT.top0 (z := 2) ((rl_num hR hB.2.1).1.mpr he) ?_
  refine TT.steps (cd := cd16) 4 (c' := (18, [(2, 295), (0, lo), (0, hi_), (9, 0)], [(0, (ρ 295 8))], ρ)) rfl rfl ?_
  refine TT.top0 (z := 0) hR.1 ?_
  refine TT.steps (cd := cd16) 3 (c' := (21, [(2, 295), (0, lo), (0, hi_), (9, 0)], [(0, (ρ 295 6))], ρ)) rfl rfl ?_
  refine TT.top0 (z := (V i)) ((rl_num hR hB.2.1).2.1 he) ?_
  refine TT.steps (cd := cd16) 2 (c' := (23, [(2, 295), (0, lo), (0, hi_), (9, 0)], [(0, hi_), (0, lo), (0, (V i))], ρ)) rfl rfl ?_
  refine TT.call (cd := cd16) rfl rfl rfl (by decide) rfl (t_is X (V i) lo hi_ ρ) (fun r2 σ2 hq => ?_)
  rw [hq.1, hq.2, if_neg hr]
  refine TT.steps (cd := cd16) 5 (c' := (29, [(2, 295), (0, lo), (0, hi_), (9, 0)], [(0, (ρ 295 4)), (0, 4), (2, 295)], ρ)) rfl rfl ?_
  refine TT.top0 (z := (((S i) : Nat) : Int)) hR.2.2.2.1 ?_
  refine TT.call (cd := cd16) rfl rfl rfl (by decide) rfl (t_blame X 4 (((S i) : Nat) : Int) ρ) (fun r3 σ3 hq => ?_)
  rw [hq.1, hq.2, mBl_0 hR.1]
  refine TT.steps (cd := cd16) 2 (c' := (32, [(2, 295), (0, lo), (0, hi_), (9, 0)], [(0, ((up2 (up2 ρ 295 8 4) 295 9 (((S i) : Nat) : Int)) 295 6))], (up2 (up2 ρ 295 8 4) 295 9 (((S i) : Nat) : Int)))) rfl rfl ?_
  refine TT.top0 (z := (V i)) (((up2_by _ _ (j := 9) (j' := 6) _ (by decide)).trans (up2_by _ _ (j := 8) (j' := 6) _ (by decide))).trans ((rl_num hR hB.2.1).2.1 he)) ?_
  refine TT.steps (cd := cd16) 3 (c' := (35, [(2, 295), (0, lo), (0, hi_), (0, (V i))], [(0, ((up2 (up2 ρ 295 8 4) 295 9 (((S i) : Nat) : Int)) 295 8))], (up2 (up2 ρ 295 8 4) 295 9 (((S i) : Nat) : Int)))) rfl rfl ?_
  refine TT.top0 (z := 4) ((up2_by _ _ (j := 9) (j' := 8) _ (by decide)).trans (up2_hit _ _ _ _)) ?_
  refine TT.steps (cd := cd16) 2 (c' := (39, [(2, 295), (0, lo), (0, hi_), (0, (V i))], [(0, (V i))], (up2 (up2 ρ 295 8 4) 295 9 (((S i) : Nat) : Int)))) rfl rfl ?_
  exact TT.ret (cd := cd16) rfl rfl rfl rfl (⟨_, rfl, (by rw [hB.2.2.2]; exact FT_bl _ _ _), RFB_bl _ _ _⟩)
theorem r_numO (X : AX) (lo hi_ : Int) {f : Nat → Int} {N c i : Nat} {K : Nat → Int} {S : Nat → Nat} {V : Nat → Int} {P : Nat → Nat} {ρ : AH} (hT : TD f N c K S V P) (hR : RTk f N K S V P i ρ) (hi : i < c) (he : K i = 15) (hr : lo ≤ V i ∧ V i ≤ hi_)  : TT X 16 (0, [(2, 295), (0, lo), (0, hi_), (9, 0)], [], ρ) (fun r σ' => r = some (0, V i) ∧ RTk f N K S V P (i + 1) σ' ∧ RFA ρ σ') := by
  have hB := rl_no17 hR (by omega)
  refine TT.steps (cd := cd16) 1 (c' := (1, [(2, 295), (0, lo), (0, hi_), (9, 0)], [(2, 295)], ρ)) rfl rfl ?_
  refine TT.call (cd := cd16) rfl rfl rfl (by decide) rfl (t_lex X ρ) (fun r1 σ1 hq => ?_)
  rw [hq.1, hq.2, hB.1]
  refine TT.steps (cd := cd16) 2 (c' := (4, [(2, 295), (0, lo), (0, hi_), (9, 0)], [(0, (ρ 295 8))], ρ)) rfl rfl ?_
  refine TT.top0 (z := 0) hR.1 ?_
  refine TT.steps (cd := cd16) 3 (c' := (9, [(2, 295), (0, lo), (0, hi_), (9, 0)], [(0, (ρ 295 3))], ρ)) rfl rfl ?_
  refine TT.top0 (z := 2) ((rl_num hR hB.2.1).1.mpr he) ?_
  refine TT.steps (cd := cd16) 4 (c' := (18, [(2, 295), (0, lo), (0, hi_), (9, 0)], [(0, (ρ 295 8))], ρ)) rfl rfl ?_
  refine TT.top0 (z := 0) hR.1 ?_
  refine TT.steps (cd := cd16) 3 (c' := (21, [(2, 295), (0, lo), (0, hi_), (9, 0)], [(0, (ρ 295 6))], ρ)) rfl rfl ?_
  refine TT.top0 (z := (V i)) ((rl_num hR hB.2.1).2.1 he) ?_
  refine TT.steps (cd := cd16) 2 (c' := (23, [(2, 295), (0, lo), (0, hi_), (9, 0)], [(0, hi_), (0, lo), (0, (V i))], ρ)) rfl rfl ?_
  refine TT.call (cd := cd16) rfl rfl rfl (by decide) rfl (t_is X (V i) lo hi_ ρ) (fun r2 σ2 hq => ?_)
  rw [hq.1, hq.2, if_pos hr]
  refine TT.steps (cd := cd16) 3 (c' := (32, [(2, 295), (0, lo), (0, hi_), (9, 0)], [(0, (ρ 295 6))], ρ)) rfl rfl ?_
  refine TT.top0 (z := (V i)) ((rl_num hR hB.2.1).2.1 he) ?_
  refine TT.steps (cd := cd16) 3 (c' := (35, [(2, 295), (0, lo), (0, hi_), (0, (V i))], [(0, (ρ 295 8))], ρ)) rfl rfl ?_
  refine TT.top0 (z := 0) hR.1 ?_
  refine TT.steps (cd := cd16) 2 (c' := (37, [(2, 295), (0, lo), (0, hi_), (0, (V i))], [(2, 295)], ρ)) rfl rfl ?_
  refine TT.call (cd := cd16) rfl rfl rfl (by decide) rfl (r_ahead X hT hR hi) (fun r3 σ3 hq => ?_)
  obtain ⟨hq1, hq2, hq3⟩ := hq
  rw [hq1]
  refine TT.steps (cd := cd16) 1 (c' := (39, [(2, 295), (0, lo), (0, hi_), (0, (V i))], [(0, (V i))], σ3)) rfl rfl ?_
  exact TT.ret (cd := cd16) rfl rfl rfl rfl (⟨rfl, hq2, hq3⟩)
theorem r_cntF (X : AX) {f : Nat → Int} {N c i : Nat} {K : Nat → Int} {S : Nat → Nat} {V : Nat → Int} {P : Nat → Nat} {ρ : AH} (hT : TD f N c K S V P) (hR : RTk f N K S V P i ρ)  : TT X 17 (0, [(2, 295), (0, 1)], [], ρ) (fun r σ' => r = some (0, 0) ∧ FT 5 (S i : Int) σ' ∧ RFB ρ σ') := by
  refine TT.steps (cd := cd17) 2 (c' := (2, [(2, 295), (0, 1)], [(0, (ρ 295 8))], ρ)) rfl rfl ?_
  refine TT.top0 (z := 0) hR.1 ?_
  refine TT.steps (cd := cd17) 7 (c' := (9, [(2, 295), (0, 1)], [(0, (ρ 295 4)), (0, 5), (2, 295)], ρ)) rfl rfl ?_
  refine TT.top0 (z := (((S i) : Nat) : Int)) hR.2.2.2.1 ?_
  refine TT.call (cd := cd17) rfl rfl rfl (by decide) rfl (t_blame X 5 (((S i) : Nat) : Int) ρ) (fun r1 σ1 hq => ?_)
  rw [hq.1, hq.2, mBl_0 hR.1]
  refine TT.steps (cd := cd17) 2 (c' := (12, [(2, 295), (0, 1)], [(0, ((up2 (up2 ρ 295 8 5) 295 9 (((S i) : Nat) : Int)) 295 8))], (up2 (up2 ρ 295 8 5) 295 9 (((S i) : Nat) : Int)))) rfl rfl ?_
  refine TT.top0 (z := 5) ((up2_by _ _ (j := 9) (j' := 8) _ (by decide)).trans (up2_hit _ _ _ _)) ?_
  refine TT.steps (cd := cd17) 3 (c' := (17, [(2, 295), (0, 1)], [(0, ((up2 (up2 ρ 295 8 5) 295 9 (((S i) : Nat) : Int)) 295 8))], (up2 (up2 ρ 295 8 5) 295 9 (((S i) : Nat) : Int)))) rfl rfl ?_
  refine TT.top0 (z := 5) ((up2_by _ _ (j := 9) (j' := 8) _ (by decide)).trans (up2_hit _ _ _ _)) ?_
  refine TT.steps (cd := cd17) 2 (c' := (21, [(2, 295), (0, 1)], [(0, 0)], (up2 (up2 ρ 295 8 5) 295 9 (((S i) : Nat) : Int)))) rfl rfl ?_
  exact TT.ret (cd := cd17) rfl rfl rfl rfl (⟨rfl, FT_bl _ _ _, RFB_bl _ _ _⟩)
theorem r_cntO (X : AX) {f : Nat → Int} {N c i : Nat} {K : Nat → Int} {S : Nat → Nat} {V : Nat → Int} {P : Nat → Nat} {ρ : AH} (hT : TD f N c K S V P) (hR : RTk f N K S V P i ρ) (hi : i < c)  : TT X 17 (0, [(2, 295), (0, 0)], [], ρ) (fun r σ' => r = some (0, 1) ∧ RTk f N K S V P (i + 1) σ' ∧ RFA ρ σ') := by
  refine TT.steps (cd := cd17) 2 (c' := (2, [(2, 295), (0, 0)], [(0, (ρ 295 8))], ρ)) rfl rfl ?_
  refine TT.top0 (z := 0) hR.1 ?_
  refine TT.steps (cd := cd17) 5 (c' := (12, [(2, 295), (0, 0)], [(0, (ρ 295 8))], ρ)) rfl rfl ?_
  refine TT.top0 (z := 0) hR.1 ?_
  refine TT.steps (cd := cd17) 2 (c' := (14, [(2, 295), (0, 0)], [(2, 295)], ρ)) rfl rfl ?_
  refine TT.call (cd := cd17) rfl rfl rfl (by decide) rfl (r_ahead X hT hR hi) (fun r1 σ1 hq => ?_)
  obtain ⟨hq1, hq2, hq3⟩ := hq
  rw [hq1]
  refine TT.steps (cd := cd17) 2 (c' := (17, [(2, 295), (0, 0)], [(0, (σ1 295 8))], σ1)) rfl rfl ?_
  refine TT.top0 (z := 0) ((hq3 _ (8) (by omega)).trans hR.1) ?_
  refine TT.steps (cd := cd17) 3 (c' := (21, [(2, 295), (0, 0)], [(0, 1)], σ1)) rfl rfl ?_
  exact TT.ret (cd := cd17) rfl rfl rfl rfl (⟨rfl, hq2, hq3⟩)
