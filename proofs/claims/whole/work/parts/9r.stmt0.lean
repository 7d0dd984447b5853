/-! A statement: both parsers. -/
theorem DRl_0 {τ τ' ρ ρ' : AH} {d bi np nt ns : Nat} {L : Nat → Nat} {C : Nat → Nat → Nat} (h : DRl τ ρ d bi np nt ns L C) (f : ∀ K j, (d ≤ K ∧ K ≤ d + 27) → ¬ (K = d ∧ j = 0) → τ' K j = τ K j) (g : ∀ K j, (297 ≤ K ∧ K ≤ 314) → ρ' K j = ρ K j) : DRl τ' ρ' d bi np nt ns L C := by
  refine DRl_mv h (fun K j h1 _ h3 => f K j h1 h3) (fun K j h1 _ => g K j h1) ?_
  rw [f _ _ (by omega) (by omega), g _ _ (by omega)]
  exact ⟨h.1.1.2.2.1, h.1.2.2.1.2.2.2⟩
def CFS (d : Nat) (τ τ' : AH) : Prop := ∀ K j, ¬ (K = 3 ∧ ¬ j = 3) → ¬ (d ≤ K ∧ K ≤ d + 27 ∧ ¬ (K = d + 22 ∧ ¬ j = 0)) → τ' K j = τ K j
theorem CFS_of {d : Nat} {τ τ' : AH} (h : CFR d τ τ') : CFS d τ τ' := fun K j h1 h2 => h K j h1 (fun e => h2 ⟨e.1, e.2.1, e.2.2.2⟩)
theorem CFS.trans {d : Nat} {τ τ' τ'' : AH} (h : CFS d τ τ') (h2 : CFS d τ' τ'') : CFS d τ τ'' := fun K j a b => (h2 K j a b).trans (h K j a b)
theorem CFS_3 {d : Nat} {τ τ' : AH} (h : CFS d τ τ') (j : Nat) (x : Int) (hj : ¬ j = 3) : CFS d τ (up2 τ' 3 j x) := fun K J h1 h2 => by
  rw [up2_nq _ (by omega)]
  exact h K J h1 h2
theorem CFS_0 {d : Nat} {τ τ' : AH} (h : CFS d τ τ') (x : Int) : CFS d τ (up2 τ' d 0 x) := fun K J h1 h2 => by
  rw [up2_nq _ (by omega)]
  exact h K J h1 h2
theorem CFS_f {d : Nat} {τ τ' : AH} (h : CFS d τ τ') (kd pl : Int) : CFS d τ (cFail τ' kd pl) := CFS_3 (CFS_3 h 0 _ (by decide)) 1 _ (by decide)
/-- behind n statements -/
def SR (f : Nat → Int) (N c : Nat) (K : Nat → Int) (S : Nat → Nat) (V : Nat → Int) (P : Nat → Nat) (d bi n : Nat) (r : Option AV) (τ ρ : AH) : Prop :=
  (r = some (0, 1) ∧ τ d 0 = (n : Int) ∧ ∃ i np nt ns L C, PX f N c K S V P d bi np nt ns L C i τ ρ ∧ (n < 90 ∨ K i = 0))
  ∨ (r = some (0, 1) ∧ τ d 0 = (n : Int) ∧ n = 90 ∧ ∃ i : Nat, i ≤ c ∧ CT c K S V τ ∧ τ 3 4 = (i : Int) ∧ τ 3 3 = (d : Int) ∧ ¬ K i = 0 ∧ FT 5 (S i : Int) ρ)
  ∨ (r = some (0, 0) ∧ ∃ kd pl : Int, 0 < kd ∧ τ 3 0 = kd ∧ τ 3 1 = pl ∧ FT kd pl ρ)
theorem r_isWB (X : AX) {f : Nat → Int} {N i : Nat} {K : Nat → Int} {S : Nat → Nat} {V : Nat → Int} {P : Nat → Nat} {ρ : AH} (h : RTk f N K S V P i ρ) (hl : ρ 295 12 = -1) {k0 : Int} (hk : 1 ≤ k0 ∧ k0 ≤ 13) (he : ¬ K i = k0) : TT X 10 (0, [(2, 295), (1, OWi k0), (9, 0)], [], ρ) (fun r σ' => r = some (0, 0) ∧ σ' = ρ) := (t_isWord X (OWi k0) ρ).mono (fun r σ' hr => ⟨by rw [hr.1, if_neg (fun q => he ((rl_word h hl hk).mp q))], hr.2⟩)
theorem r_stA (X : AX) {f : Nat → Int} {N c i : Nat} {K : Nat → Int} {S : Nat → Nat} {V : Nat → Int} {P : Nat → Nat} {ρ : AH} (hT : TD f N c K S V P) (hR : RTk f N K S V P i ρ) (hA : K i = 17 ∧ plc K S V i = (S i : Int) + V i ∧ mLex ρ = up2 (up2 ρ 295 8 1) 295 9 ((S i : Int) + V i))  : TT X 27 (0, [(2, 295)], [], ρ) (fun r σ' => r = none ∧ FT 1 (plc K S V i) σ' ∧ RFB ρ σ') := by
  refine TT.steps (cd := cd27) 1 (c' := (1, [(2, 295)], [(2, 295)], ρ)) rfl rfl ?_
  refine TT.call (cd := cd27) rfl rfl rfl (by decide) rfl (t_lex X ρ) (fun r1 σ1 hq => ?_)
  rw [hq.1, hq.2, hA.2.2]
  refine TT.steps (cd := cd27) 2 (c' := (4, [(2, 295)], [(0, ((up2 (up2 ρ 295 8 1) 295 9 (((S i : Nat) : Int) + V i)) 295 8))], (up2 (up2 ρ 295 8 1) 295 9 (((S i : Nat) : Int) + V i)))) rfl rfl ?_
  refine TT.top0 (z := 1) ((up2_by _ _ (j := 9) (j' := 8) _ (by decide)).trans (up2_hit _ _ _ _)) ?_
  refine TT.steps (cd := cd27) 1 (c' := (5, [(2, 295)], [], (up2 (up2 ρ 295 8 1) 295 9 (((S i : Nat) : Int) + V i)))) rfl rfl ?_
  exact TT.ret (cd := cd27) rfl rfl rfl rfl (⟨rfl, (by rw [hA.2.1]; exact FT_bl _ _ _), RFB_bl _ _ _⟩)
theorem r_stB (X : AX) {f : Nat → Int} {N c i : Nat} {K : Nat → Int} {S : Nat → Nat} {V : Nat → Int} {P : Nat → Nat} {ρ : AH} (hT : TD f N c K S V P) (hR : RTk f N K S V P i ρ) (hB : mLex ρ = ρ ∧ ρ 295 12 = -1 ∧ (K i = 17 → V i = 0) ∧ plc K S V i = (S i : Int)) (hne : ¬ K i = 1 ∧ ¬ K i = 2 ∧ ¬ K i = 3 ∧ ¬ K i = 8)  : TT X 27 (0, [(2, 295)], [], ρ) (fun r σ' => r = none ∧ FT 1 (plc K S V i) σ' ∧ RFB ρ σ') := by
  refine TT.steps (cd := cd27) 1 (c' := (1, [(2, 295)], [(2, 295)], ρ)) rfl rfl ?_
  refine TT.call (cd := cd27) rfl rfl rfl (by decide) rfl (t_lex X ρ) (fun r1 σ1 hq => ?_)
  rw [hq.1, hq.2, hB.1]
  refine TT.steps (cd := cd27) 2 (c' := (4, [(2, 295)], [(0, (ρ 295 8))], ρ)) rfl rfl ?_
  refine TT.top0 (z := 0) hR.1 ?_
  refine TT.steps (cd := cd27) 3 (c' := (8, [(2, 295)], [(1, 32497584235442030), (2, 295)], ρ)) rfl rfl ?_
  refine TT.call (cd := cd27) rfl rfl rfl (by decide) rfl (r_isWB X hR hB.2.1 (k0 := 1) (by decide) (by omega)) (fun r2 σ2 hq => ?_)
  rw [hq.1, hq.2]
  refine TT.steps (cd := cd27) 3 (c' := (15, [(2, 295)], [(1, 1937010544), (2, 295)], ρ)) rfl rfl ?_
  refine TT.call (cd := cd27) rfl rfl rfl (by decide) rfl (r_isWB X hR hB.2.1 (k0 := 2) (by decide) (by omega)) (fun r3 σ3 hq => ?_)
  rw [hq.1, hq.2]
  refine TT.steps (cd := cd27) 3 (c' := (22, [(2, 295)], [(1, 500135192942), (2, 295)], ρ)) rfl rfl ?_
  refine TT.call (cd := cd27) rfl rfl rfl (by decide) rfl (r_isWB X hR hB.2.1 (k0 := 3) (by decide) (by omega)) (fun r4 σ4 hq => ?_)
  rw [hq.1, hq.2]
  refine TT.steps (cd := cd27) 3 (c' := (29, [(2, 295)], [(1, 123581014175598), (2, 295)], ρ)) rfl rfl ?_
  refine TT.call (cd := cd27) rfl rfl rfl (by decide) rfl (r_isWB X hR hB.2.1 (k0 := 8) (by decide) (by omega)) (fun r5 σ5 hq => ?_)
  rw [hq.1, hq.2]
  refine TT.steps (cd := cd27) 5 (c' := (38, [(2, 295)], [(0, (ρ 295 4)), (0, 1), (2, 295)], ρ)) rfl rfl ?_
  refine TT.top0 (z := (((S i) : Nat) : Int)) hR.2.2.2.1 ?_
  refine TT.call (cd := cd27) rfl rfl rfl (by decide) rfl (t_blame X 1 (((S i) : Nat) : Int) ρ) (fun r6 σ6 hq => ?_)
  rw [hq.1, hq.2, mBl_0 hR.1]
  exact TT.ret (cd := cd27) rfl rfl rfl rfl (⟨rfl, (by rw [hB.2.2.2]; exact FT_bl _ _ _), RFB_bl _ _ _⟩)
theorem r_stN (X : AX) {f : Nat → Int} {N c i : Nat} {K : Nat → Int} {S : Nat → Nat} {V : Nat → Int} {P : Nat → Nat} {ρ : AH} (hT : TD f N c K S V P) (hR : RTk f N K S V P i ρ) (hne : ¬ K i = 1 ∧ ¬ K i = 2 ∧ ¬ K i = 3 ∧ ¬ K i = 8) : TT X 27 (0, [(2, 295)], [], ρ) (fun r σ' => r = none ∧ FT 1 (plc K S V i) σ' ∧ RFB ρ σ') := by
  rcases rl_lex hR with hB | hA
  · exact r_stB X hT hR hB hne
  · exact r_stA X hT hR hA
theorem r_st1 (X : AX) {f : Nat → Int} {N c i : Nat} {K : Nat → Int} {S : Nat → Nat} {V : Nat → Int} {P : Nat → Nat} {ρ : AH} (hT : TD f N c K S V P) (hR : RTk f N K S V P i ρ) (he : K i = 1) (ρa : AH) (dt : TT X 22 (0, [(2, 295)], [], ρ) (fun r σ => r = none ∧ σ = ρa))  : TT X 27 (0, [(2, 295)], [], ρ) (fun r σ' => r = none ∧ σ' = ρa) := by
  have hB := rl_no17 hR (by omega)
  refine TT.steps (cd := cd27) 1 (c' := (1, [(2, 295)], [(2, 295)], ρ)) rfl rfl ?_
  refine TT.call (cd := cd27) rfl rfl rfl (by decide) rfl (t_lex X ρ) (fun r1 σ1 hq => ?_)
  rw [hq.1, hq.2, hB.1]
  refine TT.steps (cd := cd27) 2 (c' := (4, [(2, 295)], [(0, (ρ 295 8))], ρ)) rfl rfl ?_
  refine TT.top0 (z := 0) hR.1 ?_
  refine TT.steps (cd := cd27) 3 (c' := (8, [(2, 295)], [(1, 32497584235442030), (2, 295)], ρ)) rfl rfl ?_
  refine TT.call (cd := cd27) rfl rfl rfl (by decide) rfl (r_isW1 X hR (k0 := 1) (by decide) he) (fun r2 σ2 hq => ?_)
  rw [hq.1, hq.2]
  refine TT.steps (cd := cd27) 2 (c' := (11, [(2, 295)], [(2, 295)], ρ)) rfl rfl ?_
  refine TT.call (cd := cd27) rfl rfl rfl (by decide) rfl (dt) (fun r3 σ3 hq => ?_)
  rw [hq.1, hq.2]
  refine TT.steps (cd := cd27) 1 (c' := (39, [(2, 295)], [], ρa)) rfl rfl ?_
  exact TT.ret (cd := cd27) rfl rfl rfl rfl (⟨rfl, rfl⟩)
theorem r_st2 (X : AX) {f : Nat → Int} {N c i : Nat} {K : Nat → Int} {S : Nat → Nat} {V : Nat → Int} {P : Nat → Nat} {ρ : AH} (hT : TD f N c K S V P) (hR : RTk f N K S V P i ρ) (he : K i = 2) (ρa : AH) (dt : TT X 23 (0, [(2, 295), (9, 0)], [], ρ) (fun r σ => r = none ∧ σ = ρa))  : TT X 27 (0, [(2, 295)], [], ρ) (fun r σ' => r = none ∧ σ' = ρa) := by
  have hB := rl_no17 hR (by omega)
  refine TT.steps (cd := cd27) 1 (c' := (1, [(2, 295)], [(2, 295)], ρ)) rfl rfl ?_
  refine TT.call (cd := cd27) rfl rfl rfl (by decide) rfl (t_lex X ρ) (fun r1 σ1 hq => ?_)
  rw [hq.1, hq.2, hB.1]
  refine TT.steps (cd := cd27) 2 (c' := (4, [(2, 295)], [(0, (ρ 295 8))], ρ)) rfl rfl ?_
  refine TT.top0 (z := 0) hR.1 ?_
  refine TT.steps (cd := cd27) 3 (c' := (8, [(2, 295)], [(1, 32497584235442030), (2, 295)], ρ)) rfl rfl ?_
  refine TT.call (cd := cd27) rfl rfl rfl (by decide) rfl (r_isW0 X hR (k0 := 1) (by decide) (by omega) (by omega)) (fun r2 σ2 hq => ?_)
  rw [hq.1, hq.2]
  refine TT.steps (cd := cd27) 3 (c' := (15, [(2, 295)], [(1, 1937010544), (2, 295)], ρ)) rfl rfl ?_
  refine TT.call (cd := cd27) rfl rfl rfl (by decide) rfl (r_isW1 X hR (k0 := 2) (by decide) he) (fun r3 σ3 hq => ?_)
  rw [hq.1, hq.2]
  refine TT.steps (cd := cd27) 2 (c' := (18, [(2, 295)], [(2, 295)], ρ)) rfl rfl ?_
  refine TT.call (cd := cd27) rfl rfl rfl (by decide) rfl (dt) (fun r4 σ4 hq => ?_)
  rw [hq.1, hq.2]
  refine TT.steps (cd := cd27) 1 (c' := (39, [(2, 295)], [], ρa)) rfl rfl ?_
  exact TT.ret (cd := cd27) rfl rfl rfl rfl (⟨rfl, rfl⟩)
theorem r_st3 (X : AX) {f : Nat → Int} {N c i : Nat} {K : Nat → Int} {S : Nat → Nat} {V : Nat → Int} {P : Nat → Nat} {ρ : AH} (hT : TD f N c K S V P) (hR : RTk f N K S V P i ρ) (he : K i = 3) (ρa : AH) (dt : TT X 25 (0, [(2, 295), (9, 0), (9, 0), (9, 0)], [], ρ) (fun r σ => r = none ∧ σ = ρa))  : TT X 27 (0, [(2, 295)], [], ρ) (fun r σ' => r = none ∧ σ' = ρa) := by
  have hB := rl_no17 hR (by omega)
  refine TT.steps (cd := cd27) 1 (c' := (1, [(2, 295)], [(2, 295)], ρ)) rfl rfl ?_
  refine TT.call (cd := cd27) rfl rfl rfl (by decide) rfl (t_lex X ρ) (fun r1 σ1 hq => ?_)
  rw [hq.1, hq.2, hB.1]
  refine TT.steps (cd := cd27) 2 (c' := (4, [(2, 295)], [(0, (ρ 295 8))], ρ)) rfl rfl ?_
  refine TT.top0 (z := 0) hR.1 ?_
  refine TT.steps (cd := cd27) 3 (c' := (8, [(2, 295)], [(1, 32497584235442030), (2, 295)], ρ)) rfl rfl ?_
  refine TT.call (cd := cd27) rfl rfl rfl (by decide) rfl (r_isW0 X hR (k0 := 1) (by decide) (by omega) (by omega)) (fun r2 σ2 hq => ?_)
  rw [hq.1, hq.2]
  refine TT.steps (cd := cd27) 3 (c' := (15, [(2, 295)], [(1, 1937010544), (2, 295)], ρ)) rfl rfl ?_
  refine TT.call (cd := cd27) rfl rfl rfl (by decide) rfl (r_isW0 X hR (k0 := 2) (by decide) (by omega) (by omega)) (fun r3 σ3 hq => ?_)
  rw [hq.1, hq.2]
  refine TT.steps (cd := cd27) 3 (c' := (22, [(2, 295)], [(1, 500135192942), (2, 295)], ρ)) rfl rfl ?_
  refine TT.call (cd := cd27) rfl rfl rfl (by decide) rfl (r_isW1 X hR (k0 := 3) (by decide) he) (fun r4 σ4 hq => ?_)
  rw [hq.1, hq.2]
  refine TT.steps (cd := cd27) 2 (c' := (25, [(2, 295)], [(2, 295)], ρ)) rfl rfl ?_
  refine TT.call (cd := cd27) rfl rfl rfl (by decide) rfl (dt) (fun r5 σ5 hq => ?_)
  rw [hq.1, hq.2]
  refine TT.steps (cd := cd27) 1 (c' := (39, [(2, 295)], [], ρa)) rfl rfl ?_
  exact TT.ret (cd := cd27) rfl rfl rfl rfl (⟨rfl, rfl⟩)
theorem r_st8 (X : AX) {f : Nat → Int} {N c i : Nat} {K : Nat → Int} {S : Nat → Nat} {V : Nat → Int} {P : Nat → Nat} {ρ : AH} (hT : TD f N c K S V P) (hR : RTk f N K S V P i ρ) (he : K i = 8) (ρa : AH) (dt : TT X 26 (0, [(2, 295), (9, 0), (9, 0)], [], ρ) (fun r σ => r = none ∧ σ = ρa))  : TT X 27 (0, [(2, 295)], [], ρ) (fun r σ' => r = none ∧ σ' = ρa) := by
  have hB := rl_no17 hR (by omega)
  refine TT.steps (cd := cd27) 1 (c' := (1, [(2, 295)], [(2, 295)], ρ)) rfl rfl ?_
  refine TT.call (cd := cd27) rfl rfl rfl (by decide) rfl (t_lex X ρ) (fun r1 σ1 hq => ?_)
  rw [hq.1, hq.2, hB.1]
  refine TT.steps (cd := cd27) 2 (c' := (4, [(2, 295)], [(0, (ρ 295 8))], ρ)) rfl rfl ?_
  refine TT.top0 (z := 0) hR.1 ?_
  refine TT.steps (cd := cd27) 3 (c' := (8, [(2, 295)], [(1, 32497584235442030), (2, 295)], ρ)) rfl rfl ?_
  refine TT.call (cd := cd27) rfl rfl rfl (by decide) rfl (r_isW0 X hR (k0 := 1) (by decide) (by omega) (by omega)) (fun r2 σ2 hq => ?_)
  rw [hq.1, hq.2]
  refine TT.steps (cd := cd27) 3 (c' := (15, [(2, 295)], [(1, 1937010544), (2, 295)], ρ)) rfl rfl ?_
  refine TT.call (cd := cd27) rfl rfl rfl (by decide) rfl (r_isW0 X hR (k0 := 2) (by decide) (by omega) (by omega)) (fun r3 σ3 hq => ?_)
  rw [hq.1, hq.2]
  refine TT.steps (cd := cd27) 3 (c' := (22, [(2, 295)], [(1, 500135192942), (2, 295)], ρ)) rfl rfl ?_
  refine TT.call (cd := cd27) rfl rfl rfl (by decide) rfl (r_isW0 X hR (k0 := 3) (by decide) (by omega) (by omega)) (fun r4 σ4 hq => ?_)
  rw [hq.1, hq.2]
  refine TT.steps (cd := cd27) 3 (c' := (29, [(2, 295)], [(1, 123581014175598), (2, 295)], ρ)) rfl rfl ?_
  refine TT.call (cd := cd27) rfl rfl rfl (by decide) rfl (r_isW1 X hR (k0 := 8) (by decide) he) (fun r5 σ5 hq => ?_)
  rw [hq.1, hq.2]
  refine TT.steps (cd := cd27) 2 (c' := (32, [(2, 295)], [(2, 295)], ρ)) rfl rfl ?_
  refine TT.call (cd := cd27) rfl rfl rfl (by decide) rfl (dt) (fun r6 σ6 hq => ?_)
  rw [hq.1, hq.2]
  refine TT.steps (cd := cd27) 1 (c' := (39, [(2, 295)], [], ρa)) rfl rfl ?_
  exact TT.ret (cd := cd27) rfl rfl rfl rfl (⟨rfl, rfl⟩)
theorem seg56 (X : AX) {n : Nat} (hn : n ≤ 90) {ρ ρa ρb : AH} (h27 : TT X 27 (0, [(2, 295)], [], ρ) (fun r σ => r = none ∧ σ = ρa)) (h28 : TT X 28 (0, [(2, 295), (0, ((n + 1 : Nat) : Int)), (9, 0)], [], ρa) (fun r σ => r = none ∧ σ = ρb)) : ∀ (Q : Option AV → AH → Prop), TT X 29 (50, [(2, 295), (0, ((n + 1 : Nat) : Int))], [], ρb) Q → TT X 29 (56, [(2, 295), (0, ((n : Nat) : Int))], [], ρ) Q := by
  intro Q hQ
  refine TT.steps (cd := cd29) 1 (c' := (57, [(2, 295), (0, ((n : Nat) : Int))], [(2, 295)], ρ)) rfl rfl ?_
  refine TT.call (cd := cd29) rfl rfl rfl (by decide) rfl (h27) (fun r1 σ1 hq => ?_)
  rw [hq.1, hq.2]
  refine TT.inc (cd := cd29) ((n + 1 : Nat) : Int) rfl rfl rfl rfl (fun h => absurd h.2 (show ¬ (2 = 1) by decide)) (aAdd_n (a := n) (b := 1) (by omega)) (ls' := [(2, 295), (0, ((n + 1 : Nat) : Int))]) rfl ?_
  refine TT.steps (cd := cd29) 2 (c' := (61, [(2, 295), (0, ((n + 1 : Nat) : Int))], [(0, ((n + 1 : Nat) : Int)), (2, 295)], ρa)) rfl rfl ?_
  refine TT.call (cd := cd29) rfl rfl rfl (by decide) rfl (h28) (fun r2 σ2 hq => ?_)
  rw [hq.1, hq.2]
  refine TT.steps (cd := cd29) 1 (c' := (50, [(2, 295), (0, ((n + 1 : Nat) : Int))], [], ρb)) rfl rfl ?_
  exact hQ
