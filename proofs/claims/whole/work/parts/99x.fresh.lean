/-! The reference's parser: names that are new, stations. -/
theorem r_freF (X : AX) {ρ : AH} (h8 : 0 < ρ 295 8)  : TT X 19 (0, [(2, 295), (9, 0), (9, 0)], [], ρ) (fun r σ' => r = some (1, 0) ∧ σ' = ρ) := by
  refine TT.steps (cd := cd19) 1 (c' := (1, [(2, 295), (9, 0), (9, 0)], [(2, 295)], ρ)) rfl rfl ?_
  refine TT.call (cd := cd19) rfl rfl rfl (by decide) rfl (t_lex X ρ) (fun r1 σ1 hq => ?_)
  rw [hq.1, hq.2, mLex_1 h8]
  refine TT.steps (cd := cd19) 3 (c' := ((if decide ((ρ 295 8) ≤ 0) = true then 7 else 5), [(2, 295), (9, 0), (9, 0)], [], ρ)) rfl rfl ?_
  refine TT.br (p := (ρ 295 8) ≤ 0) (fun h2 => absurd h2 (show ¬ ((ρ 295 8) ≤ 0) by omega)) (fun h2 => ?_)
  refine TT.steps (cd := cd19) 1 (c' := (6, [(2, 295), (9, 0), (9, 0)], [(1, 0)], ρ)) rfl rfl ?_
  exact TT.ret (cd := cd19) rfl rfl rfl rfl (⟨rfl, rfl⟩)
theorem r_freA (X : AX) {f : Nat → Int} {N c i : Nat} {K : Nat → Int} {S : Nat → Nat} {V : Nat → Int} {P : Nat → Nat} {ρ : AH} (hT : TD f N c K S V P) (hR : RTk f N K S V P i ρ) (hA : K i = 17 ∧ plc K S V i = (S i : Int) + V i ∧ mLex ρ = up2 (up2 ρ 295 8 1) 295 9 ((S i : Int) + V i))  : TT X 19 (0, [(2, 295), (9, 0), (9, 0)], [], ρ) (fun r σ' => ∃ x, r = some (1, x) ∧ FT 1 (plc K S V i) σ' ∧ RFB ρ σ') := by
  refine TT.steps (cd := cd19) 1 (c' := (1, [(2, 295), (9, 0), (9, 0)], [(2, 295)], ρ)) rfl rfl ?_
  refine TT.call (cd := cd19) rfl rfl rfl (by decide) rfl (t_lex X ρ) (fun r1 σ1 hq => ?_)
  rw [hq.1, hq.2, hA.2.2]
  refine TT.steps (cd := cd19) 2 (c' := (4, [(2, 295), (9, 0), (9, 0)], [(0, ((up2 (up2 ρ 295 8 1) 295 9 (((S i : Nat) : Int) + V i)) 295 8))], (up2 (up2 ρ 295 8 1) 295 9 (((S i : Nat) : Int) + V i)))) rfl rfl ?_
  refine TT.top0 (z := 1) ((up2_by _ _ (j := 9) (j' := 8) _ (by decide)).trans (up2_hit _ _ _ _)) ?_
  refine TT.steps (cd := cd19) 2 (c' := (6, [(2, 295), (9, 0), (9, 0)], [(1, 0)], (up2 (up2 ρ 295 8 1) 295 9 (((S i : Nat) : Int) + V i)))) rfl rfl ?_
  exact TT.ret (cd := cd19) rfl rfl rfl rfl (⟨_, rfl, (by rw [hA.2.1]; exact FT_bl _ _ _), RFB_bl _ _ _⟩)
theorem r_freB1 (X : AX) {f : Nat → Int} {N c i : Nat} {K : Nat → Int} {S : Nat → Nat} {V : Nat → Int} {P : Nat → Nat} {ρ : AH} (hT : TD f N c K S V P) (hR : RTk f N K S V P i ρ) (hB : mLex ρ = ρ ∧ ρ 295 12 = -1 ∧ (K i = 17 → V i = 0) ∧ plc K S V i = (S i : Int)) (hs : ¬ ρ 295 3 = 1)  : TT X 19 (0, [(2, 295), (9, 0), (9, 0)], [], ρ) (fun r σ' => ∃ x, r = some (1, x) ∧ FT 1 (plc K S V i) σ' ∧ RFB ρ σ') := by
  refine TT.steps (cd := cd19) 1 (c' := (1, [(2, 295), (9, 0), (9, 0)], [(2, 295)], ρ)) rfl rfl ?_
  refine TT.call (cd := cd19) rfl rfl rfl (by decide) rfl (t_lex X ρ) (fun r1 σ1 hq => ?_)
  rw [hq.1, hq.2, hB.1]
  refine TT.steps (cd := cd19) 2 (c' := (4, [(2, 295), (9, 0), (9, 0)], [(0, (ρ 295 8))], ρ)) rfl rfl ?_
  refine TT.top0 (z := 0) hR.1 ?_
  refine TT.steps (cd := cd19) 5 (c' := ((if decide (¬ (ρ 295 3) = 1) = true then 16 else 11), [(2, 295), (9, 0), (9, 0)], [], ρ)) rfl rfl ?_
  refine TT.br (p := ¬ (ρ 295 3) = 1) (fun h2 => ?_) (fun h2 => absurd (show ¬ (ρ 295 3) = 1 by exact hs) h2)
  refine TT.steps (cd := cd19) 4 (c' := (20, [(2, 295), (9, 0), (9, 0)], [(0, (ρ 295 4)), (0, 1), (2, 295)], ρ)) rfl rfl ?_
  refine TT.top0 (z := (((S i) : Nat) : Int)) hR.2.2.2.1 ?_
  refine TT.call (cd := cd19) rfl rfl rfl (by decide) rfl (t_blame X 1 (((S i) : Nat) : Int) ρ) (fun r3 σ3 hq => ?_)
  rw [hq.1, hq.2, mBl_0 hR.1]
  refine TT.steps (cd := cd19) 7 (c' := (28, [(2, 295), (0, 0), (9, 0)], [(0, ((up2 (up2 ρ 295 8 1) 295 9 (((S i) : Nat) : Int)) 295 8))], (up2 (up2 ρ 295 8 1) 295 9 (((S i) : Nat) : Int)))) rfl rfl ?_
  refine TT.top0 (z := 1) ((up2_by _ _ (j := 9) (j' := 8) _ (by decide)).trans (up2_hit _ _ _ _)) ?_
  refine TT.steps (cd := cd19) 3 (c' := (45, [(2, 295), (0, 0), (9, 0)], [(1, ((up2 (up2 ρ 295 8 1) 295 9 (((S i) : Nat) : Int)) 295 7))], (up2 (up2 ρ 295 8 1) 295 9 (((S i) : Nat) : Int)))) rfl rfl ?_
  refine TT.top0 (z := (ρ 295 7)) ((up2_by _ _ (j := 9) (j' := 7) _ (by decide)).trans (up2_by _ _ (j := 8) (j' := 7) _ (by decide))) ?_
  refine TT.steps (cd := cd19) 3 (c' := (48, [(2, 295), (1, (ρ 295 7)), (9, 0)], [(0, ((up2 (up2 ρ 295 8 1) 295 9 (((S i) : Nat) : Int)) 295 8))], (up2 (up2 ρ 295 8 1) 295 9 (((S i) : Nat) : Int)))) rfl rfl ?_
  refine TT.top0 (z := 1) ((up2_by _ _ (j := 9) (j' := 8) _ (by decide)).trans (up2_hit _ _ _ _)) ?_
  refine TT.steps (cd := cd19) 2 (c' := (52, [(2, 295), (1, (ρ 295 7)), (9, 0)], [(1, (ρ 295 7))], (up2 (up2 ρ 295 8 1) 295 9 (((S i) : Nat) : Int)))) rfl rfl ?_
  exact TT.ret (cd := cd19) rfl rfl rfl rfl (⟨_, rfl, (by rw [hB.2.2.2]; exact FT_bl _ _ _), RFB_bl _ _ _⟩)
theorem r_freB2 (X : AX) {f : Nat → Int} {N c i : Nat} {K : Nat → Int} {S : Nat → Nat} {V : Nat → Int} {P : Nat → Nat} {ρ : AH} (hT : TD f N c K S V P) (hR : RTk f N K S V P i ρ) (hB : mLex ρ = ρ ∧ ρ 295 12 = -1 ∧ (K i = 17 → V i = 0) ∧ plc K S V i = (S i : Int)) (hs : ρ 295 3 = 1) (hm : mOwn (ρ 295 7))  : TT X 19 (0, [(2, 295), (9, 0), (9, 0)], [], ρ) (fun r σ' => ∃ x, r = some (1, x) ∧ FT 1 (plc K S V i) σ' ∧ RFB ρ σ') := by
  refine TT.steps (cd := cd19) 1 (c' := (1, [(2, 295), (9, 0), (9, 0)], [(2, 295)], ρ)) rfl rfl ?_
  refine TT.call (cd := cd19) rfl rfl rfl (by decide) rfl (t_lex X ρ) (fun r1 σ1 hq => ?_)
  rw [hq.1, hq.2, hB.1]
  refine TT.steps (cd := cd19) 2 (c' := (4, [(2, 295), (9, 0), (9, 0)], [(0, (ρ 295 8))], ρ)) rfl rfl ?_
  refine TT.top0 (z := 0) hR.1 ?_
  refine TT.steps (cd := cd19) 3 (c' := (9, [(2, 295), (9, 0), (9, 0)], [(0, (ρ 295 3))], ρ)) rfl rfl ?_
  refine TT.top0 (z := 1) hs ?_
  refine TT.steps (cd := cd19) 5 (c' := (14, [(2, 295), (9, 0), (9, 0)], [(1, (ρ 295 7)), (2, 295)], ρ)) rfl rfl ?_
  refine TT.call (cd := cd19) rfl rfl rfl (by decide) rfl (t_isOwn X (ρ 295 7) ρ) (fun r2 σ2 hq => ?_)
  rw [hq.1, hq.2, if_pos hm]
  refine TT.steps (cd := cd19) 5 (c' := (20, [(2, 295), (9, 0), (9, 0)], [(0, (ρ 295 4)), (0, 1), (2, 295)], ρ)) rfl rfl ?_
  refine TT.top0 (z := (((S i) : Nat) : Int)) hR.2.2.2.1 ?_
  refine TT.call (cd := cd19) rfl rfl rfl (by decide) rfl (t_blame X 1 (((S i) : Nat) : Int) ρ) (fun r3 σ3 hq => ?_)
  rw [hq.1, hq.2, mBl_0 hR.1]
  refine TT.steps (cd := cd19) 7 (c' := (28, [(2, 295), (0, 0), (9, 0)], [(0, ((up2 (up2 ρ 295 8 1) 295 9 (((S i) : Nat) : Int)) 295 8))], (up2 (up2 ρ 295 8 1) 295 9 (((S i) : Nat) : Int)))) rfl rfl ?_
  refine TT.top0 (z := 1) ((up2_by _ _ (j := 9) (j' := 8) _ (by decide)).trans (up2_hit _ _ _ _)) ?_
  refine TT.steps (cd := cd19) 3 (c' := (45, [(2, 295), (0, 0), (9, 0)], [(1, ((up2 (up2 ρ 295 8 1) 295 9 (((S i) : Nat) : Int)) 295 7))], (up2 (up2 ρ 295 8 1) 295 9 (((S i) : Nat) : Int)))) rfl rfl ?_
  refine TT.top0 (z := (ρ 295 7)) ((up2_by _ _ (j := 9) (j' := 7) _ (by decide)).trans (up2_by _ _ (j := 8) (j' := 7) _ (by decide))) ?_
  refine TT.steps (cd := cd19) 3 (c' := (48, [(2, 295), (1, (ρ 295 7)), (9, 0)], [(0, ((up2 (up2 ρ 295 8 1) 295 9 (((S i) : Nat) : Int)) 295 8))], (up2 (up2 ρ 295 8 1) 295 9 (((S i) : Nat) : Int)))) rfl rfl ?_
  refine TT.top0 (z := 1) ((up2_by _ _ (j := 9) (j' := 8) _ (by decide)).trans (up2_hit _ _ _ _)) ?_
  refine TT.steps (cd := cd19) 2 (c' := (52, [(2, 295), (1, (ρ 295 7)), (9, 0)], [(1, (ρ 295 7))], (up2 (up2 ρ 295 8 1) 295 9 (((S i) : Nat) : Int)))) rfl rfl ?_
  exact TT.ret (cd := cd19) rfl rfl rfl rfl (⟨_, rfl, (by rw [hB.2.2.2]; exact FT_bl _ _ _), RFB_bl _ _ _⟩)
theorem r_freN (X : AX) {f : Nat → Int} {N c i : Nat} {K : Nat → Int} {S : Nat → Nat} {V : Nat → Int} {P : Nat → Nat} {ρ : AH} (hT : TD f N c K S V P) (hR : RTk f N K S V P i ρ) (hne : ¬ K i = 14) : TT X 19 (0, [(2, 295), (9, 0), (9, 0)], [], ρ) (fun r σ' => ∃ x, r = some (1, x) ∧ FT 1 (plc K S V i) σ' ∧ RFB ρ σ') := by
  rcases rl_lex hR with hB | hA
  · by_cases hs : ρ 295 3 = 1
    · rcases (rl_name hR hB.2.1).2 hne with g | g
      · exact absurd hs g
      · exact r_freB2 X hT hR hB hs g
    · exact r_freB1 X hT hR hB hs
  · exact r_freA X hT hR hA
theorem r_looF (X : AX) {ρ : AH} (h8 : 0 < ρ 295 8)  : TT X 20 (0, [(2, 295), (9, 0)], [], ρ) (fun r σ' => r = some (0, 0) ∧ σ' = ρ) := by
  refine TT.steps (cd := cd20) 1 (c' := (1, [(2, 295), (9, 0)], [(2, 295)], ρ)) rfl rfl ?_
  refine TT.call (cd := cd20) rfl rfl rfl (by decide) rfl (t_lex X ρ) (fun r1 σ1 hq => ?_)
  rw [hq.1, hq.2, mLex_1 h8]
  refine TT.steps (cd := cd20) 3 (c' := ((if decide ((ρ 295 8) ≤ 0) = true then 7 else 5), [(2, 295), (9, 0)], [], ρ)) rfl rfl ?_
  refine TT.br (p := (ρ 295 8) ≤ 0) (fun h2 => absurd h2 (show ¬ ((ρ 295 8) ≤ 0) by omega)) (fun h2 => ?_)
  refine TT.steps (cd := cd20) 1 (c' := (6, [(2, 295), (9, 0)], [(0, 0)], ρ)) rfl rfl ?_
  exact TT.ret (cd := cd20) rfl rfl rfl rfl (⟨rfl, rfl⟩)
theorem r_looA (X : AX) {f : Nat → Int} {N c i : Nat} {K : Nat → Int} {S : Nat → Nat} {V : Nat → Int} {P : Nat → Nat} {ρ : AH} (hT : TD f N c K S V P) (hR : RTk f N K S V P i ρ) (hA : K i = 17 ∧ plc K S V i = (S i : Int) + V i ∧ mLex ρ = up2 (up2 ρ 295 8 1) 295 9 ((S i : Int) + V i))  : TT X 20 (0, [(2, 295), (9, 0)], [], ρ) (fun r σ' => ∃ x, r = some (0, x) ∧ FT 1 (plc K S V i) σ' ∧ RFB ρ σ') := by
  refine TT.steps (cd := cd20) 1 (c' := (1, [(2, 295), (9, 0)], [(2, 295)], ρ)) rfl rfl ?_
  refine TT.call (cd := cd20) rfl rfl rfl (by decide) rfl (t_lex X ρ) (fun r1 σ1 hq => ?_)
  rw [hq.1, hq.2, hA.2.2]
  refine TT.steps (cd := cd20) 2 (c' := (4, [(2, 295), (9, 0)], [(0, ((up2 (up2 ρ 295 8 1) 295 9 (((S i : Nat) : Int) + V i)) 295 8))], (up2 (up2 ρ 295 8 1) 295 9 (((S i : Nat) : Int) + V i)))) rfl rfl ?_
  refine TT.top0 (z := 1) ((up2_by _ _ (j := 9) (j' := 8) _ (by decide)).trans (up2_hit _ _ _ _)) ?_
  refine TT.steps (cd := cd20) 2 (c' := (6, [(2, 295), (9, 0)], [(0, 0)], (up2 (up2 ρ 295 8 1) 295 9 (((S i : Nat) : Int) + V i)))) rfl rfl ?_
  exact TT.ret (cd := cd20) rfl rfl rfl rfl (⟨_, rfl, (by rw [hA.2.1]; exact FT_bl _ _ _), RFB_bl _ _ _⟩)
theorem r_looB1 (X : AX) {f : Nat → Int} {N c i : Nat} {K : Nat → Int} {S : Nat → Nat} {V : Nat → Int} {P : Nat → Nat} {ρ : AH} (hT : TD f N c K S V P) (hR : RTk f N K S V P i ρ) (hB : mLex ρ = ρ ∧ ρ 295 12 = -1 ∧ (K i = 17 → V i = 0) ∧ plc K S V i = (S i : Int)) (hs : ¬ ρ 295 3 = 1)  : TT X 20 (0, [(2, 295), (9, 0)], [], ρ) (fun r σ' => ∃ x, r = some (0, x) ∧ FT 1 (plc K S V i) σ' ∧ RFB ρ σ') := by
  refine TT.steps (cd := cd20) 1 (c' := (1, [(2, 295), (9, 0)], [(2, 295)], ρ)) rfl rfl ?_
  refine TT.call (cd := cd20) rfl rfl rfl (by decide) rfl (t_lex X ρ) (fun r1 σ1 hq => ?_)
  rw [hq.1, hq.2, hB.1]
  refine TT.steps (cd := cd20) 2 (c' := (4, [(2, 295), (9, 0)], [(0, (ρ 295 8))], ρ)) rfl rfl ?_
  refine TT.top0 (z := 0) hR.1 ?_
  refine TT.steps (cd := cd20) 5 (c' := ((if decide (¬ (ρ 295 3) = 1) = true then 16 else 11), [(2, 295), (9, 0)], [], ρ)) rfl rfl ?_
  refine TT.br (p := ¬ (ρ 295 3) = 1) (fun h2 => ?_) (fun h2 => absurd (show ¬ (ρ 295 3) = 1 by exact hs) h2)
  refine TT.steps (cd := cd20) 4 (c' := (20, [(2, 295), (9, 0)], [(0, (ρ 295 4)), (0, 1), (2, 295)], ρ)) rfl rfl ?_
  refine TT.top0 (z := (((S i) : Nat) : Int)) hR.2.2.2.1 ?_
  refine TT.call (cd := cd20) rfl rfl rfl (by decide) rfl (t_blame X 1 (((S i) : Nat) : Int) ρ) (fun r3 σ3 hq => ?_)
  rw [hq.1, hq.2, mBl_0 hR.1]
  refine TT.steps (cd := cd20) 2 (c' := (23, [(2, 295), (9, 0)], [(0, ((up2 (up2 ρ 295 8 1) 295 9 (((S i) : Nat) : Int)) 295 8))], (up2 (up2 ρ 295 8 1) 295 9 (((S i) : Nat) : Int)))) rfl rfl ?_
  refine TT.top0 (z := 1) ((up2_by _ _ (j := 9) (j' := 8) _ (by decide)).trans (up2_hit _ _ _ _)) ?_
  refine TT.steps (cd := cd20) 6 (c' := (34, [(2, 295), (0, 0)], [(0, ((up2 (up2 ρ 295 8 1) 295 9 (((S i) : Nat) : Int)) 295 8))], (up2 (up2 ρ 295 8 1) 295 9 (((S i) : Nat) : Int)))) rfl rfl ?_
  refine TT.top0 (z := 1) ((up2_by _ _ (j := 9) (j' := 8) _ (by decide)).trans (up2_hit _ _ _ _)) ?_
  refine TT.steps (cd := cd20) 3 (c' := (45, [(2, 295), (0, 0)], [(0, ((up2 (up2 ρ 295 8 1) 295 9 (((S i) : Nat) : Int)) 295 8))], (up2 (up2 ρ 295 8 1) 295 9 (((S i) : Nat) : Int)))) rfl rfl ?_
  refine TT.top0 (z := 1) ((up2_by _ _ (j := 9) (j' := 8) _ (by decide)).trans (up2_hit _ _ _ _)) ?_
  refine TT.steps (cd := cd20) 3 (c' := (49, [(2, 295), (0, 0)], [(0, 0)], (up2 (up2 ρ 295 8 1) 295 9 (((S i) : Nat) : Int)))) rfl rfl ?_
  exact TT.ret (cd := cd20) rfl rfl rfl rfl (⟨_, rfl, (by rw [hB.2.2.2]; exact FT_bl _ _ _), RFB_bl _ _ _⟩)
theorem r_looB2 (X : AX) {f : Nat → Int} {N c i : Nat} {K : Nat → Int} {S : Nat → Nat} {V : Nat → Int} {P : Nat → Nat} {ρ : AH} (hT : TD f N c K S V P) (hR : RTk f N K S V P i ρ) (hB : mLex ρ = ρ ∧ ρ 295 12 = -1 ∧ (K i = 17 → V i = 0) ∧ plc K S V i = (S i : Int)) (hs : ρ 295 3 = 1) (hm : mOwn (ρ 295 7))  : TT X 20 (0, [(2, 295), (9, 0)], [], ρ) (fun r σ' => ∃ x, r = some (0, x) ∧ FT 1 (plc K S V i) σ' ∧ RFB ρ σ') := by
  refine TT.steps (cd := cd20) 1 (c' := (1, [(2, 295), (9, 0)], [(2, 295)], ρ)) rfl rfl ?_
  refine TT.call (cd := cd20) rfl rfl rfl (by decide) rfl (t_lex X ρ) (fun r1 σ1 hq => ?_)
  rw [hq.1, hq.2, hB.1]
  refine TT.steps (cd := cd20) 2 (c' := (4, [(2, 295), (9, 0)], [(0, (ρ 295 8))], ρ)) rfl rfl ?_
  refine TT.top0 (z := 0) hR.1 ?_
  refine TT.steps (cd := cd20) 3 (c' := (9, [(2, 295), (9, 0)], [(0, (ρ 295 3))], ρ)) rfl rfl ?_
  refine TT.top0 (z := 1) hs ?_
  refine TT.steps (cd := cd20) 5 (c' := (14, [(2, 295), (9, 0)], [(1, (ρ 295 7)), (2, 295)], ρ)) rfl rfl ?_
  refine TT.call (cd := cd20) rfl rfl rfl (by decide) rfl (t_isOwn X (ρ 295 7) ρ) (fun r2 σ2 hq => ?_)
  rw [hq.1, hq.2, if_pos hm]
  refine TT.steps (cd := cd20) 5 (c' := (20, [(2, 295), (9, 0)], [(0, (ρ 295 4)), (0, 1), (2, 295)], ρ)) rfl rfl ?_
  refine TT.top0 (z := (((S i) : Nat) : Int)) hR.2.2.2.1 ?_
  refine TT.call (cd := cd20) rfl rfl rfl (by decide) rfl (t_blame X 1 (((S i) : Nat) : Int) ρ) (fun r3 σ3 hq => ?_)
  rw [hq.1, hq.2, mBl_0 hR.1]
  refine TT.steps (cd := cd20) 2 (c' := (23, [(2, 295), (9, 0)], [(0, ((up2 (up2 ρ 295 8 1) 295 9 (((S i) : Nat) : Int)) 295 8))], (up2 (up2 ρ 295 8 1) 295 9 (((S i) : Nat) : Int)))) rfl rfl ?_
  refine TT.top0 (z := 1) ((up2_by _ _ (j := 9) (j' := 8) _ (by decide)).trans (up2_hit _ _ _ _)) ?_
  refine TT.steps (cd := cd20) 6 (c' := (34, [(2, 295), (0, 0)], [(0, ((up2 (up2 ρ 295 8 1) 295 9 (((S i) : Nat) : Int)) 295 8))], (up2 (up2 ρ 295 8 1) 295 9 (((S i) : Nat) : Int)))) rfl rfl ?_
  refine TT.top0 (z := 1) ((up2_by _ _ (j := 9) (j' := 8) _ (by decide)).trans (up2_hit _ _ _ _)) ?_
  refine TT.steps (cd := cd20) 3 (c' := (45, [(2, 295), (0, 0)], [(0, ((up2 (up2 ρ 295 8 1) 295 9 (((S i) : Nat) : Int)) 295 8))], (up2 (up2 ρ 295 8 1) 295 9 (((S i) : Nat) : Int)))) rfl rfl ?_
  refine TT.top0 (z := 1) ((up2_by _ _ (j := 9) (j' := 8) _ (by decide)).trans (up2_hit _ _ _ _)) ?_
  refine TT.steps (cd := cd20) 3 (c' := (49, [(2, 295), (0, 0)], [(0, 0)], (up2 (up2 ρ 295 8 1) 295 9 (((S i) : Nat) : Int)))) rfl rfl ?_
  exact TT.ret (cd := cd20) rfl rfl rfl rfl (⟨_, rfl, (by rw [hB.2.2.2]; exact FT_bl _ _ _), RFB_bl _ _ _⟩)
theorem r_looN (X : AX) {f : Nat → Int} {N c i : Nat} {K : Nat → Int} {S : Nat → Nat} {V : Nat → Int} {P : Nat → Nat} {ρ : AH} (hT : TD f N c K S V P) (hR : RTk f N K S V P i ρ) (hne : ¬ K i = 14) : TT X 20 (0, [(2, 295), (9, 0)], [], ρ) (fun r σ' => ∃ x, r = some (0, x) ∧ FT 1 (plc K S V i) σ' ∧ RFB ρ σ') := by
  rcases rl_lex hR with hB | hA
  · by_cases hs : ρ 295 3 = 1
    · rcases (rl_name hR hB.2.1).2 hne with g | g
      · exact absurd hs g
      · exact r_looB2 X hT hR hB hs g
    · exact r_looB1 X hT hR hB hs
  · exact r_looA X hT hR hA
theorem r_fre (X : AX) {f : Nat → Int} {N c i : Nat} {K : Nat → Int} {S : Nat → Nat} {V : Nat → Int} {P : Nat → Nat} {ρ : AH} (hT : TD f N c K S V P) (hR : RTk f N K S V P i ρ) {bi np nt ns : Nat} (h32 : ρ 295 32 = (bi : Int)) (hb2 : bi < 2) (m0 : ρ 297 bi = (ns : Int)) (n0 : ns ≤ 14) (m1 : ρ 300 bi = (nt : Int)) (n1 : nt ≤ 6) (m2 : ρ 307 bi = (np : Int)) (n2 : np ≤ 10) (q0 q1 q2 : Int) (e0 : (rxF ρ 298 14 bi ns (ρ 295 7)) = q0) (e1 : (rxF ρ 301 6 bi nt (ρ 295 7)) = q1) (e2 : (rxF ρ 308 10 bi np (ρ 295 7)) = q2) (hi : i < c) (he : K i = 14)  : TT X 19 (0, [(2, 295), (9, 0), (9, 0)], [], ρ) (fun r σ' => (¬ (q0 = -1 ∧ q1 = -1 ∧ q2 = -1) → ∃ x, r = some (1, x) ∧ FT 2 (plc K S V i) σ' ∧ RFB ρ σ') ∧ ((q0 = -1 ∧ q1 = -1 ∧ q2 = -1) → r = some (1, ρ 295 7) ∧ RTk f N K S V P (i + 1) σ' ∧ RFA ρ σ')) := by
  have hB := rl_no17 hR (by omega)
  obtain ⟨hs, hm, hn⟩ := (rl_name hR hB.2.1).1 he
  refine TT.steps (cd := cd19) 1 (c' := (1, [(2, 295), (9, 0), (9, 0)], [(2, 295)], ρ)) rfl rfl ?_
  refine TT.call (cd := cd19) rfl rfl rfl (by decide) rfl (t_lex X ρ) (fun r1 σ1 hq => ?_)
  rw [hq.1, hq.2, hB.1]
  refine TT.steps (cd := cd19) 2 (c' := (4, [(2, 295), (9, 0), (9, 0)], [(0, (ρ 295 8))], ρ)) rfl rfl ?_
  refine TT.top0 (z := 0) hR.1 ?_
  refine TT.steps (cd := cd19) 3 (c' := (9, [(2, 295), (9, 0), (9, 0)], [(0, (ρ 295 3))], ρ)) rfl rfl ?_
  refine TT.top0 (z := 1) hs ?_
  refine TT.steps (cd := cd19) 5 (c' := (14, [(2, 295), (9, 0), (9, 0)], [(1, (ρ 295 7)), (2, 295)], ρ)) rfl rfl ?_
  refine TT.call (cd := cd19) rfl rfl rfl (by decide) rfl (t_isOwn X (ρ 295 7) ρ) (fun r2 σ2 hq => ?_)
  rw [hq.1, hq.2, if_neg hm]
  refine TT.steps (cd := cd19) 8 (c' := (28, [(2, 295), (0, 0), (9, 0)], [(0, (ρ 295 8))], ρ)) rfl rfl ?_
  refine TT.top0 (z := 0) hR.1 ?_
  refine TT.steps (cd := cd19) 5 (c' := (33, [(2, 295), (0, 0), (9, 0)], [(1, (ρ 295 7)), (0, 0), (2, 295)], ρ)) rfl rfl ?_
  refine TT.call (cd := cd19) rfl rfl rfl (by decide) rfl (r_named0 X (ρ 295 7) h32 hb2 m0 n0 m1 n1 m2 n2) (fun r3 σ3 hq => ?_)
  rw [hq.1, hq.2, e0]
  refine TT.steps (cd := cd19) 2 (c' := ((if decide (q0 = (-1)) = true then 41 else 36), [(2, 295), (0, 0), (9, 0)], [], ρ)) rfl rfl ?_
  refine TT.br (p := q0 = (-1)) (fun h4 => ?_) (fun h4 => ?_)
  · refine TT.inc (cd := cd19) 1 rfl rfl rfl rfl (fun h => absurd h.2 (show ¬ (2 = 1) by decide)) (by decide) (ls' := [(2, 295), (0, 1), (9, 0)]) rfl ?_
    refine TT.steps (cd := cd19) 6 (c' := (28, [(2, 295), (0, 1), (9, 0)], [(0, (ρ 295 8))], ρ)) rfl rfl ?_
    refine TT.top0 (z := 0) hR.1 ?_
    refine TT.steps (cd := cd19) 5 (c' := (33, [(2, 295), (0, 1), (9, 0)], [(1, (ρ 295 7)), (0, 1), (2, 295)], ρ)) rfl rfl ?_
    refine TT.call (cd := cd19) rfl rfl rfl (by decide) rfl (r_named1 X (ρ 295 7) h32 hb2 m0 n0 m1 n1 m2 n2) (fun r5 σ5 hq => ?_)
    rw [hq.1, hq.2, e1]
    refine TT.steps (cd := cd19) 2 (c' := ((if decide (q1 = (-1)) = true then 41 else 36), [(2, 295), (0, 1), (9, 0)], [], ρ)) rfl rfl ?_
    refine TT.br (p := q1 = (-1)) (fun h6 => ?_) (fun h6 => ?_)
    · refine TT.inc (cd := cd19) 2 rfl rfl rfl rfl (fun h => absurd h.2 (show ¬ (2 = 1) by decide)) (by decide) (ls' := [(2, 295), (0, 2), (9, 0)]) rfl ?_
      refine TT.steps (cd := cd19) 6 (c' := (28, [(2, 295), (0, 2), (9, 0)], [(0, (ρ 295 8))], ρ)) rfl rfl ?_
      refine TT.top0 (z := 0) hR.1 ?_
      refine TT.steps (cd := cd19) 5 (c' := (33, [(2, 295), (0, 2), (9, 0)], [(1, (ρ 295 7)), (0, 2), (2, 295)], ρ)) rfl rfl ?_
      refine TT.call (cd := cd19) rfl rfl rfl (by decide) rfl (r_named2 X (ρ 295 7) h32 hb2 m0 n0 m1 n1 m2 n2) (fun r7 σ7 hq => ?_)
      rw [hq.1, hq.2, e2]
      refine TT.steps (cd := cd19) 2 (c' := ((if decide (q2 = (-1)) = true then 41 else 36), [(2, 295), (0, 2), (9, 0)], [], ρ)) rfl rfl ?_
      refine TT.br (p := q2 = (-1)) (fun h8 => ?_) (fun h8 => ?_)
      · refine TT.inc (cd := cd19) 3 rfl rfl rfl rfl (fun h => absurd h.2 (show ¬ (2 = 1) by decide)) (by decide) (ls' := [(2, 295), (0, 3), (9, 0)]) rfl ?_
        refine TT.steps (cd := cd19) 9 (c' := (48, [(2, 295), (1, (ρ 295 7)), (9, 0)], [(0, (ρ 295 8))], ρ)) rfl rfl ?_
        refine TT.top0 (z := 0) hR.1 ?_
        refine TT.steps (cd := cd19) 2 (c' := (50, [(2, 295), (1, (ρ 295 7)), (9, 0)], [(2, 295)], ρ)) rfl rfl ?_
        refine TT.call (cd := cd19) rfl rfl rfl (by decide) rfl (r_ahead X hT hR hi) (fun r9 σ9 hq => ?_)
        obtain ⟨hq1, hq2, hq3⟩ := hq
        rw [hq1]
        refine TT.steps (cd := cd19) 1 (c' := (52, [(2, 295), (1, (ρ 295 7)), (9, 0)], [(1, (ρ 295 7))], σ9)) rfl rfl ?_
        exact TT.ret (cd := cd19) rfl rfl rfl rfl ⟨fun hh => absurd hh (by omega), fun _ => ⟨rfl, hq2, hq3⟩⟩
      · refine TT.steps (cd := cd19) 4 (c' := (40, [(2, 295), (0, 2), (9, 0)], [(0, (ρ 295 4)), (0, 2), (2, 295)], ρ)) rfl rfl ?_
        refine TT.top0 (z := (((S i) : Nat) : Int)) hR.2.2.2.1 ?_
        refine TT.call (cd := cd19) rfl rfl rfl (by decide) rfl (t_blame X 2 (((S i) : Nat) : Int) ρ) (fun r10 σ10 hq => ?_)
        rw [hq.1, hq.2, mBl_0 hR.1]
        refine TT.inc (cd := cd19) 3 rfl rfl rfl rfl (fun h => absurd h.2 (show ¬ (2 = 1) by decide)) (by decide) (ls' := [(2, 295), (0, 3), (9, 0)]) rfl ?_
        refine TT.steps (cd := cd19) 6 (c' := (45, [(2, 295), (0, 3), (9, 0)], [(1, ((up2 (up2 ρ 295 8 2) 295 9 (((S i) : Nat) : Int)) 295 7))], (up2 (up2 ρ 295 8 2) 295 9 (((S i) : Nat) : Int)))) rfl rfl ?_
        refine TT.top0 (z := (ρ 295 7)) ((up2_by _ _ (j := 9) (j' := 7) _ (by decide)).trans (up2_by _ _ (j := 8) (j' := 7) _ (by decide))) ?_
        refine TT.steps (cd := cd19) 3 (c' := (48, [(2, 295), (1, (ρ 295 7)), (9, 0)], [(0, ((up2 (up2 ρ 295 8 2) 295 9 (((S i) : Nat) : Int)) 295 8))], (up2 (up2 ρ 295 8 2) 295 9 (((S i) : Nat) : Int)))) rfl rfl ?_
        refine TT.top0 (z := 2) ((up2_by _ _ (j := 9) (j' := 8) _ (by decide)).trans (up2_hit _ _ _ _)) ?_
        refine TT.steps (cd := cd19) 2 (c' := (52, [(2, 295), (1, (ρ 295 7)), (9, 0)], [(1, (ρ 295 7))], (up2 (up2 ρ 295 8 2) 295 9 (((S i) : Nat) : Int)))) rfl rfl ?_
        exact TT.ret (cd := cd19) rfl rfl rfl rfl ⟨fun _ => ⟨_, rfl, (by rw [hB.2.2.2]; exact FT_bl _ _ _), RFB_bl _ _ _⟩, fun hh => absurd hh (by omega)⟩
    · refine TT.steps (cd := cd19) 4 (c' := (40, [(2, 295), (0, 1), (9, 0)], [(0, (ρ 295 4)), (0, 2), (2, 295)], ρ)) rfl rfl ?_
      refine TT.top0 (z := (((S i) : Nat) : Int)) hR.2.2.2.1 ?_
      refine TT.call (cd := cd19) rfl rfl rfl (by decide) rfl (t_blame X 2 (((S i) : Nat) : Int) ρ) (fun r11 σ11 hq => ?_)
      rw [hq.1, hq.2, mBl_0 hR.1]
      refine TT.inc (cd := cd19) 2 rfl rfl rfl rfl (fun h => absurd h.2 (show ¬ (2 = 1) by decide)) (by decide) (ls' := [(2, 295), (0, 2), (9, 0)]) rfl ?_
      refine TT.steps (cd := cd19) 6 (c' := (28, [(2, 295), (0, 2), (9, 0)], [(0, ((up2 (up2 ρ 295 8 2) 295 9 (((S i) : Nat) : Int)) 295 8))], (up2 (up2 ρ 295 8 2) 295 9 (((S i) : Nat) : Int)))) rfl rfl ?_
      refine TT.top0 (z := 2) ((up2_by _ _ (j := 9) (j' := 8) _ (by decide)).trans (up2_hit _ _ _ _)) ?_
      refine TT.steps (cd := cd19) 3 (c' := (45, [(2, 295), (0, 2), (9, 0)], [(1, ((up2 (up2 ρ 295 8 2) 295 9 (((S i) : Nat) : Int)) 295 7))], (up2 (up2 ρ 295 8 2) 295 9 (((S i) : Nat) : Int)))) rfl rfl ?_
      refine TT.top0 (z := (ρ 295 7)) ((up2_by _ _ (j := 9) (j' := 7) _ (by decide)).trans (up2_by _ _ (j := 8) (j' := 7) _ (by decide))) ?_
      refine TT.steps (cd := cd19) 3 (c' := (48, [(2, 295), (1, (ρ 295 7)), (9, 0)], [(0, ((up2 (up2 ρ 295 8 2) 295 9 (((S i) : Nat) : Int)) 295 8))], (up2 (up2 ρ 295 8 2) 295 9 (((S i) : Nat) : Int)))) rfl rfl ?_
      refine TT.top0 (z := 2) ((up2_by _ _ (j := 9) (j' := 8) _ (by decide)).trans (up2_hit _ _ _ _)) ?_
      refine TT.steps (cd := cd19) 2 (c' := (52, [(2, 295), (1, (ρ 295 7)), (9, 0)], [(1, (ρ 295 7))], (up2 (up2 ρ 295 8 2) 295 9 (((S i) : Nat) : Int)))) rfl rfl ?_
      exact TT.ret (cd := cd19) rfl rfl rfl rfl ⟨fun _ => ⟨_, rfl, (by rw [hB.2.2.2]; exact FT_bl _ _ _), RFB_bl _ _ _⟩, fun hh => absurd hh (by omega)⟩
  · refine TT.steps (cd := cd19) 4 (c' := (40, [(2, 295), (0, 0), (9, 0)], [(0, (ρ 295 4)), (0, 2), (2, 295)], ρ)) rfl rfl ?_
    refine TT.top0 (z := (((S i) : Nat) : Int)) hR.2.2.2.1 ?_
    refine TT.call (cd := cd19) rfl rfl rfl (by decide) rfl (t_blame X 2 (((S i) : Nat) : Int) ρ) (fun r12 σ12 hq => ?_)
    rw [hq.1, hq.2, mBl_0 hR.1]
    refine TT.inc (cd := cd19) 1 rfl rfl rfl rfl (fun h => absurd h.2 (show ¬ (2 = 1) by decide)) (by decide) (ls' := [(2, 295), (0, 1), (9, 0)]) rfl ?_
    refine TT.steps (cd := cd19) 6 (c' := (28, [(2, 295), (0, 1), (9, 0)], [(0, ((up2 (up2 ρ 295 8 2) 295 9 (((S i) : Nat) : Int)) 295 8))], (up2 (up2 ρ 295 8 2) 295 9 (((S i) : Nat) : Int)))) rfl rfl ?_
    refine TT.top0 (z := 2) ((up2_by _ _ (j := 9) (j' := 8) _ (by decide)).trans (up2_hit _ _ _ _)) ?_
    refine TT.steps (cd := cd19) 3 (c' := (45, [(2, 295), (0, 1), (9, 0)], [(1, ((up2 (up2 ρ 295 8 2) 295 9 (((S i) : Nat) : Int)) 295 7))], (up2 (up2 ρ 295 8 2) 295 9 (((S i) : Nat) : Int)))) rfl rfl ?_
    refine TT.top0 (z := (ρ 295 7)) ((up2_by _ _ (j := 9) (j' := 7) _ (by decide)).trans (up2_by _ _ (j := 8) (j' := 7) _ (by decide))) ?_
    refine TT.steps (cd := cd19) 3 (c' := (48, [(2, 295), (1, (ρ 295 7)), (9, 0)], [(0, ((up2 (up2 ρ 295 8 2) 295 9 (((S i) : Nat) : Int)) 295 8))], (up2 (up2 ρ 295 8 2) 295 9 (((S i) : Nat) : Int)))) rfl rfl ?_
    refine TT.top0 (z := 2) ((up2_by _ _ (j := 9) (j' := 8) _ (by decide)).trans (up2_hit _ _ _ _)) ?_
    refine TT.steps (cd := cd19) 2 (c' := (52, [(2, 295), (1, (ρ 295 7)), (9, 0)], [(1, (ρ 295 7))], (up2 (up2 ρ 295 8 2) 295 9 (((S i) : Nat) : Int)))) rfl rfl ?_
    exact TT.ret (cd := cd19) rfl rfl rfl rfl ⟨fun _ => ⟨_, rfl, (by rw [hB.2.2.2]; exact FT_bl _ _ _), RFB_bl _ _ _⟩, fun hh => absurd hh (by omega)⟩
theorem r_loo (X : AX) {f : Nat → Int} {N c i : Nat} {K : Nat → Int} {S : Nat → Nat} {V : Nat → Int} {P : Nat → Nat} {ρ : AH} (hT : TD f N c K S V P) (hR : RTk f N K S V P i ρ) {bi np nt ns : Nat} (h32 : ρ 295 32 = (bi : Int)) (hb2 : bi < 2) (m0 : ρ 297 bi = (ns : Int)) (n0 : ns ≤ 14) (m1 : ρ 300 bi = (nt : Int)) (n1 : nt ≤ 6) (m2 : ρ 307 bi = (np : Int)) (n2 : np ≤ 10) (q0 : Int) (e0 : (rxF ρ 298 14 bi ns (ρ 295 7)) = q0) (he : K i = 14)  : TT X 20 (0, [(2, 295), (9, 0)], [], ρ) (fun r σ' => (q0 = -1 → ∃ x, r = some (0, x) ∧ FT 3 (plc K S V i) σ' ∧ RFB ρ σ') ∧ (¬ q0 = -1 → r = some (0, q0) ∧ σ' = ρ)) := by
  have hB := rl_no17 hR (by omega)
  obtain ⟨hs, hm, hn⟩ := (rl_name hR hB.2.1).1 he
  refine TT.steps (cd := cd20) 1 (c' := (1, [(2, 295), (9, 0)], [(2, 295)], ρ)) rfl rfl ?_
  refine TT.call (cd := cd20) rfl rfl rfl (by decide) rfl (t_lex X ρ) (fun r1 σ1 hq => ?_)
  rw [hq.1, hq.2, hB.1]
  refine TT.steps (cd := cd20) 2 (c' := (4, [(2, 295), (9, 0)], [(0, (ρ 295 8))], ρ)) rfl rfl ?_
  refine TT.top0 (z := 0) hR.1 ?_
  refine TT.steps (cd := cd20) 3 (c' := (9, [(2, 295), (9, 0)], [(0, (ρ 295 3))], ρ)) rfl rfl ?_
  refine TT.top0 (z := 1) hs ?_
  refine TT.steps (cd := cd20) 5 (c' := (14, [(2, 295), (9, 0)], [(1, (ρ 295 7)), (2, 295)], ρ)) rfl rfl ?_
  refine TT.call (cd := cd20) rfl rfl rfl (by decide) rfl (t_isOwn X (ρ 295 7) ρ) (fun r2 σ2 hq => ?_)
  rw [hq.1, hq.2, if_neg hm]
  refine TT.steps (cd := cd20) 3 (c' := (23, [(2, 295), (9, 0)], [(0, (ρ 295 8))], ρ)) rfl rfl ?_
  refine TT.top0 (z := 0) hR.1 ?_
  refine TT.steps (cd := cd20) 5 (c' := (30, [(2, 295), (9, 0)], [(1, (ρ 295 7)), (0, 0), (2, 295)], ρ)) rfl rfl ?_
  refine TT.call (cd := cd20) rfl rfl rfl (by decide) rfl (r_named0 X (ρ 295 7) h32 hb2 m0 n0 m1 n1 m2 n2) (fun r3 σ3 hq => ?_)
  rw [hq.1, hq.2, e0]
  refine TT.steps (cd := cd20) 3 (c' := (34, [(2, 295), (0, q0)], [(0, (ρ 295 8))], ρ)) rfl rfl ?_
  refine TT.top0 (z := 0) hR.1 ?_
  refine TT.steps (cd := cd20) 4 (c' := ((if decide (¬ q0 = (-1)) = true then 43 else 38), [(2, 295), (0, q0)], [], ρ)) rfl rfl ?_
  refine TT.br (p := ¬ q0 = (-1)) (fun h4 => ?_) (fun h4 => ?_)
  · refine TT.steps (cd := cd20) 2 (c' := (45, [(2, 295), (0, q0)], [(0, (ρ 295 8))], ρ)) rfl rfl ?_
    refine TT.top0 (z := 0) hR.1 ?_
    refine TT.steps (cd := cd20) 2 (c' := (49, [(2, 295), (0, q0)], [(0, q0)], ρ)) rfl rfl ?_
    exact TT.ret (cd := cd20) rfl rfl rfl rfl ⟨fun hh => absurd hh (by omega), fun _ => ⟨rfl, rfl⟩⟩
  · refine TT.steps (cd := cd20) 4 (c' := (42, [(2, 295), (0, q0)], [(0, (ρ 295 4)), (0, 3), (2, 295)], ρ)) rfl rfl ?_
    refine TT.top0 (z := (((S i) : Nat) : Int)) hR.2.2.2.1 ?_
    refine TT.call (cd := cd20) rfl rfl rfl (by decide) rfl (t_blame X 3 (((S i) : Nat) : Int) ρ) (fun r5 σ5 hq => ?_)
    rw [hq.1, hq.2, mBl_0 hR.1]
    refine TT.steps (cd := cd20) 2 (c' := (45, [(2, 295), (0, q0)], [(0, ((up2 (up2 ρ 295 8 3) 295 9 (((S i) : Nat) : Int)) 295 8))], (up2 (up2 ρ 295 8 3) 295 9 (((S i) : Nat) : Int)))) rfl rfl ?_
    refine TT.top0 (z := 3) ((up2_by _ _ (j := 9) (j' := 8) _ (by decide)).trans (up2_hit _ _ _ _)) ?_
    refine TT.steps (cd := cd20) 3 (c' := (49, [(2, 295), (0, q0)], [(0, 0)], (up2 (up2 ρ 295 8 3) 295 9 (((S i) : Nat) : Int)))) rfl rfl ?_
    exact TT.ret (cd := cd20) rfl rfl rfl rfl ⟨fun _ => ⟨_, rfl, (by rw [hB.2.2.2]; exact FT_bl _ _ _), RFB_bl _ _ _⟩, fun hh => absurd (by first | assumption | omega) hh⟩
theorem r_askF (X : AX) {ρ : AH} (h8 : 0 < ρ 295 8)  : TT X 21 (0, [(2, 295), (9, 0)], [], ρ) (fun r σ' => r = some (0, 0) ∧ σ' = ρ) := by
  refine TT.steps (cd := cd21) 1 (c' := (1, [(2, 295), (9, 0)], [(2, 295)], ρ)) rfl rfl ?_
  refine TT.call (cd := cd21) rfl rfl rfl (by decide) rfl (r_looF X h8) (fun r1 σ1 hq => ?_)
  rw [hq.1, hq.2]
  refine TT.steps (cd := cd21) 4 (c' := ((if decide (¬ (ρ 295 8) = 0) = true then 8 else 6), [(2, 295), (0, 0)], [], ρ)) rfl rfl ?_
  refine TT.br (p := ¬ (ρ 295 8) = 0) (fun h2 => ?_) (fun h2 => absurd (show ¬ (ρ 295 8) = 0 by omega) h2)
  refine TT.steps (cd := cd21) 3 (c' := ((if decide ((ρ 295 8) ≤ 0) = true then 13 else 11), [(2, 295), (0, 0)], [], ρ)) rfl rfl ?_
  refine TT.br (p := (ρ 295 8) ≤ 0) (fun h3 => absurd h3 (show ¬ ((ρ 295 8) ≤ 0) by omega)) (fun h3 => ?_)
  refine TT.steps (cd := cd21) 2 (c' := (14, [(2, 295), (0, 0)], [(0, 0)], ρ)) rfl rfl ?_
  exact TT.ret (cd := cd21) rfl rfl rfl rfl (⟨rfl, rfl⟩)
theorem r_askN (X : AX) {f : Nat → Int} {N c i : Nat} {K : Nat → Int} {S : Nat → Nat} {V : Nat → Int} {P : Nat → Nat} {ρ : AH} (hT : TD f N c K S V P) (hR : RTk f N K S V P i ρ) (hne : ¬ K i = 14)  : TT X 21 (0, [(2, 295), (9, 0)], [], ρ) (fun r σ' => ∃ x, r = some (0, x) ∧ FT 1 (plc K S V i) σ' ∧ RFB ρ σ') := by
  refine TT.steps (cd := cd21) 1 (c' := (1, [(2, 295), (9, 0)], [(2, 295)], ρ)) rfl rfl ?_
  refine TT.call (cd := cd21) rfl rfl rfl (by decide) rfl (r_looN X hT hR hne) (fun r1 σ1 hq => ?_)
  obtain ⟨x9, hq1, hq2, hq3⟩ := hq
  rw [hq1]
  refine TT.steps (cd := cd21) 3 (c' := (5, [(2, 295), (0, x9)], [(0, (σ1 295 8))], σ1)) rfl rfl ?_
  refine TT.top0 (z := 1) hq2.1 ?_
  refine TT.steps (cd := cd21) 3 (c' := (10, [(2, 295), (0, x9)], [(0, (σ1 295 8))], σ1)) rfl rfl ?_
  refine TT.top0 (z := 1) hq2.1 ?_
  refine TT.steps (cd := cd21) 3 (c' := (14, [(2, 295), (0, x9)], [(0, 0)], σ1)) rfl rfl ?_
  exact TT.ret (cd := cd21) rfl rfl rfl rfl (⟨_, rfl, hq2, hq3⟩)
theorem r_askR (X : AX) {f : Nat → Int} {N c i : Nat} {K : Nat → Int} {S : Nat → Nat} {V : Nat → Int} {P : Nat → Nat} {ρ : AH} (hT : TD f N c K S V P) (hR : RTk f N K S V P i ρ) {bi np nt ns : Nat} (h32 : ρ 295 32 = (bi : Int)) (hb2 : bi < 2) (m0 : ρ 297 bi = (ns : Int)) (n0 : ns ≤ 14) (m1 : ρ 300 bi = (nt : Int)) (n1 : nt ≤ 6) (m2 : ρ 307 bi = (np : Int)) (n2 : np ≤ 10) (q0 : Int) (e0 : (rxF ρ 298 14 bi ns (ρ 295 7)) = q0) (he : K i = 14) (hq0 : q0 = -1)  : TT X 21 (0, [(2, 295), (9, 0)], [], ρ) (fun r σ' => ∃ x, r = some (0, x) ∧ FT 3 (plc K S V i) σ' ∧ RFB ρ σ') := by
  refine TT.steps (cd := cd21) 1 (c' := (1, [(2, 295), (9, 0)], [(2, 295)], ρ)) rfl rfl ?_
  refine TT.call (cd := cd21) rfl rfl rfl (by decide) rfl ((r_loo X hT hR h32 hb2 m0 n0 m1 n1 m2 n2 q0 e0 he).mono (fun _ _ h => h.1 hq0)) (fun r1 σ1 hq => ?_)
  obtain ⟨x9, hq1, hq2, hq3⟩ := hq
  rw [hq1]
  refine TT.steps (cd := cd21) 3 (c' := (5, [(2, 295), (0, x9)], [(0, (σ1 295 8))], σ1)) rfl rfl ?_
  refine TT.top0 (z := 3) hq2.1 ?_
  refine TT.steps (cd := cd21) 3 (c' := (10, [(2, 295), (0, x9)], [(0, (σ1 295 8))], σ1)) rfl rfl ?_
  refine TT.top0 (z := 3) hq2.1 ?_
  refine TT.steps (cd := cd21) 3 (c' := (14, [(2, 295), (0, x9)], [(0, 0)], σ1)) rfl rfl ?_
  exact TT.ret (cd := cd21) rfl rfl rfl rfl (⟨_, rfl, hq2, hq3⟩)
theorem r_askO (X : AX) {f : Nat → Int} {N c i : Nat} {K : Nat → Int} {S : Nat → Nat} {V : Nat → Int} {P : Nat → Nat} {ρ : AH} (hT : TD f N c K S V P) (hR : RTk f N K S V P i ρ) {bi np nt ns : Nat} (h32 : ρ 295 32 = (bi : Int)) (hb2 : bi < 2) (m0 : ρ 297 bi = (ns : Int)) (n0 : ns ≤ 14) (m1 : ρ 300 bi = (nt : Int)) (n1 : nt ≤ 6) (m2 : ρ 307 bi = (np : Int)) (n2 : np ≤ 10) (q0 : Int) (e0 : (rxF ρ 298 14 bi ns (ρ 295 7)) = q0) (hi : i < c) (he : K i = 14) (hq0 : ¬ q0 = -1)  : TT X 21 (0, [(2, 295), (9, 0)], [], ρ) (fun r σ' => r = some (0, q0) ∧ RTk f N K S V P (i + 1) σ' ∧ RFA ρ σ') := by
  refine TT.steps (cd := cd21) 1 (c' := (1, [(2, 295), (9, 0)], [(2, 295)], ρ)) rfl rfl ?_
  refine TT.call (cd := cd21) rfl rfl rfl (by decide) rfl ((r_loo X hT hR h32 hb2 m0 n0 m1 n1 m2 n2 q0 e0 he).mono (fun _ _ h => h.2 hq0)) (fun r1 σ1 hq => ?_)
  rw [hq.1, hq.2]
  refine TT.steps (cd := cd21) 3 (c' := (5, [(2, 295), (0, q0)], [(0, (ρ 295 8))], ρ)) rfl rfl ?_
  refine TT.top0 (z := 0) hR.1 ?_
  refine TT.steps (cd := cd21) 2 (c' := (7, [(2, 295), (0, q0)], [(2, 295)], ρ)) rfl rfl ?_
  refine TT.call (cd := cd21) rfl rfl rfl (by decide) rfl (r_ahead X hT hR hi) (fun r2 σ2 hq => ?_)
  obtain ⟨hq1, hq2, hq3⟩ := hq
  rw [hq1]
  refine TT.steps (cd := cd21) 2 (c' := (10, [(2, 295), (0, q0)], [(0, (σ2 295 8))], σ2)) rfl rfl ?_
  refine TT.top0 (z := 0) ((hq3 _ (8) (by omega)).trans hR.1) ?_
  refine TT.steps (cd := cd21) 2 (c' := (14, [(2, 295), (0, q0)], [(0, q0)], σ2)) rfl rfl ?_
  exact TT.ret (cd := cd21) rfl rfl rfl rfl (⟨rfl, hq2, hq3⟩)
