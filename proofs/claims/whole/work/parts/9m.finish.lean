/-! What ends a statement: the reference. -/
theorem td_0 {f : Nat → Int} {N c : Nat} {K : Nat → Int} {S : Nat → Nat} {V : Nat → Int} {P : Nat → Nat} (h : TD f N c K S V P) {i : Nat} (hi : i ≤ c) : S i ≤ N ∧ (K i = 0 ↔ S i = N) := by
  obtain ⟨⟨a1, a2, -⟩, ht⟩ := h.2.2.2.2 i hi
  refine ⟨a2, ?_⟩
  rcases ht with ⟨e1, e2⟩ | ⟨e1, e2, -⟩ | ⟨e1, e2, -⟩ | ⟨e1, e2, -⟩ | ⟨-, n, hw, e⟩ | ⟨-, n, g1, g2, -, e⟩
  · exact ⟨fun _ => e1, fun _ => e2⟩
  · constructor <;> intro q <;> omega
  · constructor <;> intro q <;> omega
  · constructor <;> intro q <;> omega
  · have h1 := hw.1
    have h2 := hw.2.1
    constructor <;> intro q <;> omega
  · constructor <;> intro q <;> omega
theorem rl_fin (X : AX) (Q : Option AV → AH → Prop) (n : Int) (N : Nat) (ρ : AH) (hsz : ρ 295 2 = (N : Int)) (hN : N ≤ 1600) : ∀ (d a : Nat), a + d = N → TT X 28 (27, [(2, 295), (0, n), (0, (((skipF (ρ 296) d a) : Nat) : Int))], [], ρ) Q → TT X 28 (9, [(2, 295), (0, n), (0, ((a : Nat) : Int))], [], ρ) Q := by
  intro d
  induction d with
  | zero =>
    intro a hn kk
    refine TT.steps (cd := cd28) 3 (c' := (12, [(2, 295), (0, n), (0, ((a : Nat) : Int))], [(0, (ρ 295 2)), (0, ((a : Nat) : Int))], ρ)) rfl rfl ?_
    refine TT.top0 (z := ((N : Nat) : Int)) hsz ?_
    refine TT.steps (cd := cd28) 1 (c' := ((if decide (((N : Nat) : Int) ≤ ((a : Nat) : Int)) = true then 27 else 13), [(2, 295), (0, n), (0, ((a : Nat) : Int))], [], ρ)) rfl rfl ?_
    refine TT.br (p := ((N : Nat) : Int) ≤ ((a : Nat) : Int)) (fun h1 => ?_) (fun h1 => absurd (show ((N : Nat) : Int) ≤ ((a : Nat) : Int) by omega) h1)
    exact kk
  | succ d ih =>
    intro a hn kk
    rw [skipF] at kk
    refine TT.steps (cd := cd28) 3 (c' := (12, [(2, 295), (0, n), (0, ((a : Nat) : Int))], [(0, (ρ 295 2)), (0, ((a : Nat) : Int))], ρ)) rfl rfl ?_
    refine TT.top0 (z := ((N : Nat) : Int)) hsz ?_
    refine TT.steps (cd := cd28) 1 (c' := ((if decide (((N : Nat) : Int) ≤ ((a : Nat) : Int)) = true then 27 else 13), [(2, 295), (0, n), (0, ((a : Nat) : Int))], [], ρ)) rfl rfl ?_
    refine TT.br (p := ((N : Nat) : Int) ≤ ((a : Nat) : Int)) (fun h1 => absurd h1 (show ¬ (((N : Nat) : Int) ≤ ((a : Nat) : Int)) by omega)) (fun h1 => ?_)
    refine TT.steps (cd := cd28) 3 (c' := (16, [(2, 295), (0, n), (0, ((a : Nat) : Int))], [(0, ((a : Nat) : Int)), (2, 296)], ρ)) rfl rfl ?_
    refine TT.aldN (cd := cd28) (296) (a) rfl rfl rfl rfl (show a < 1800 by omega) ?_
    refine TT.steps (cd := cd28) 2 (c' := ((if decide ((ρ 296 a) = 32) = true then 25 else 19), [(2, 295), (0, n), (0, ((a : Nat) : Int))], [], ρ)) rfl rfl ?_
    refine TT.br (p := (ρ 296 a) = 32) (fun h2 => ?_) (fun h2 => ?_)
    · refine TT.inc (cd := cd28) ((a + 1 : Nat) : Int) rfl rfl rfl rfl (fun h => absurd h.2 (show ¬ (0 = 1) by decide)) (aAdd_n (a := a) (b := 1) (by omega)) (ls' := [(2, 295), (0, n), (0, ((a + 1 : Nat) : Int))]) rfl ?_
      refine TT.steps (cd := cd28) 1 (c' := (9, [(2, 295), (0, n), (0, ((a + 1 : Nat) : Int))], [], ρ)) rfl rfl ?_
      rw [if_pos (by omega)] at kk
      exact ih (a + 1) (by omega) kk
    · refine TT.steps (cd := cd28) 3 (c' := (22, [(2, 295), (0, n), (0, ((a : Nat) : Int))], [(0, ((a : Nat) : Int)), (2, 296)], ρ)) rfl rfl ?_
      refine TT.aldN (cd := cd28) (296) (a) rfl rfl rfl rfl (show a < 1800 by omega) ?_
      refine TT.steps (cd := cd28) 2 (c' := ((if decide (¬ (ρ 296 a) = 10) = true then 27 else 25), [(2, 295), (0, n), (0, ((a : Nat) : Int))], [], ρ)) rfl rfl ?_
      refine TT.br (p := ¬ (ρ 296 a) = 10) (fun h3 => ?_) (fun h3 => ?_)
      · rw [if_neg (by omega)] at kk
        exact kk
      · refine TT.inc (cd := cd28) ((a + 1 : Nat) : Int) rfl rfl rfl rfl (fun h => absurd h.2 (show ¬ (0 = 1) by decide)) (aAdd_n (a := a) (b := 1) (by omega)) (ls' := [(2, 295), (0, n), (0, ((a + 1 : Nat) : Int))]) rfl ?_
        refine TT.steps (cd := cd28) 1 (c' := (9, [(2, 295), (0, n), (0, ((a + 1 : Nat) : Int))], [], ρ)) rfl rfl ?_
        rw [if_pos (by omega)] at kk
        exact ih (a + 1) (by omega) kk
theorem rl_finX (X : AX) (Q : Option AV → AH → Prop) (n : Int) (N : Nat) (ρ : AH) (hsz : ρ 295 2 = (N : Int)) (hN : N ≤ 1600) (kk : ∀ a : Nat, TT X 28 (27, [(2, 295), (0, n), (0, ((a : Nat) : Int))], [], ρ) Q) (a : Nat) : TT X 28 (9, [(2, 295), (0, n), (0, ((a : Nat) : Int))], [], ρ) Q := by
  by_cases ha : a ≤ N
  · exact rl_fin X Q n N ρ hsz hN (N - a) a (by omega) (kk _)
  · refine TT.steps (cd := cd28) 3 (c' := (12, [(2, 295), (0, n), (0, ((a : Nat) : Int))], [(0, (ρ 295 2)), (0, ((a : Nat) : Int))], ρ)) rfl rfl ?_
    refine TT.top0 (z := ((N : Nat) : Int)) hsz ?_
    refine TT.steps (cd := cd28) 1 (c' := ((if decide (((N : Nat) : Int) ≤ ((a : Nat) : Int)) = true then 27 else 13), [(2, 295), (0, n), (0, ((a : Nat) : Int))], [], ρ)) rfl rfl ?_
    refine TT.br (p := ((N : Nat) : Int) ≤ ((a : Nat) : Int)) (fun h1 => ?_) (fun h1 => absurd (show ((N : Nat) : Int) ≤ ((a : Nat) : Int) by omega) h1)
    exact kk a
theorem r_finF (X : AX) (n : Int) {ρ : AH} (h8 : 0 < ρ 295 8)  : TT X 28 (0, [(2, 295), (0, n), (9, 0)], [], ρ) (fun r σ' => r = none ∧ σ' = ρ) := by
  refine TT.steps (cd := cd28) 1 (c' := (1, [(2, 295), (0, n), (9, 0)], [(2, 295)], ρ)) rfl rfl ?_
  refine TT.call (cd := cd28) rfl rfl rfl (by decide) rfl (t_lex X ρ) (fun r1 σ1 hq => ?_)
  rw [hq.1, hq.2, mLex_1 h8]
  refine TT.steps (cd := cd28) 3 (c' := ((if decide ((ρ 295 8) ≤ 0) = true then 6 else 5), [(2, 295), (0, n), (9, 0)], [], ρ)) rfl rfl ?_
  refine TT.br (p := (ρ 295 8) ≤ 0) (fun h2 => absurd h2 (show ¬ ((ρ 295 8) ≤ 0) by omega)) (fun h2 => ?_)
  exact TT.ret (cd := cd28) rfl rfl rfl rfl (⟨rfl, rfl⟩)
theorem r_finA (X : AX) (n : Int) {f : Nat → Int} {N c i : Nat} {K : Nat → Int} {S : Nat → Nat} {V : Nat → Int} {P : Nat → Nat} {ρ : AH} (hT : TD f N c K S V P) (hR : RTk f N K S V P i ρ) (hA : K i = 17 ∧ plc K S V i = (S i : Int) + V i ∧ mLex ρ = up2 (up2 ρ 295 8 1) 295 9 ((S i : Int) + V i))  : TT X 28 (0, [(2, 295), (0, n), (9, 0)], [], ρ) (fun r σ' => r = none ∧ FT 1 (plc K S V i) σ' ∧ RFB ρ σ') := by
  refine TT.steps (cd := cd28) 1 (c' := (1, [(2, 295), (0, n), (9, 0)], [(2, 295)], ρ)) rfl rfl ?_
  refine TT.call (cd := cd28) rfl rfl rfl (by decide) rfl (t_lex X ρ) (fun r1 σ1 hq => ?_)
  rw [hq.1, hq.2, hA.2.2]
  refine TT.steps (cd := cd28) 2 (c' := (4, [(2, 295), (0, n), (9, 0)], [(0, ((up2 (up2 ρ 295 8 1) 295 9 (((S i : Nat) : Int) + V i)) 295 8))], (up2 (up2 ρ 295 8 1) 295 9 (((S i : Nat) : Int) + V i)))) rfl rfl ?_
  refine TT.top0 (z := 1) ((up2_by _ _ (j := 9) (j' := 8) _ (by decide)).trans (up2_hit _ _ _ _)) ?_
  refine TT.steps (cd := cd28) 1 (c' := (5, [(2, 295), (0, n), (9, 0)], [], (up2 (up2 ρ 295 8 1) 295 9 (((S i : Nat) : Int) + V i)))) rfl rfl ?_
  exact TT.ret (cd := cd28) rfl rfl rfl rfl (⟨rfl, (by rw [hA.2.1]; exact FT_bl _ _ _), RFB_bl _ _ _⟩)
theorem rl_nn {f : Nat → Int} {N i : Nat} {K : Nat → Int} {S : Nat → Nat} {V : Nat → Int} {P : Nat → Nat} {ρ : AH} (hR : RTk f N K S V P i ρ) : ∃ p : Nat, ρ 295 5 = (p : Int) := by
  obtain ⟨h8, h2, h6, h4, hx⟩ := hR
  rcases hx with ⟨e, -, -⟩ | ⟨-, -, -, -, g⟩ | ⟨-, -, -, -, -, g⟩ | ⟨-, -, -, -, -, -, g⟩ | ⟨-, -, -, -, g⟩ | ⟨e, e2, -⟩
  · exact ⟨(ρ 295 5).toNat, by omega⟩
  · exact ⟨_, g⟩
  · exact ⟨_, g⟩
  · exact ⟨_, g⟩
  · exact ⟨_, g⟩
  · exact ⟨(ρ 295 5).toNat, by omega⟩
theorem rl_endP {f : Nat → Int} {N c i : Nat} {K : Nat → Int} {S : Nat → Nat} {V : Nat → Int} {P : Nat → Nat} {ρ : AH} (hT : TD f N c K S V P) (hR : RTk f N K S V P i ρ) (hi : i < c) : ρ 295 5 = (P (i + 1) : Int) ∧ P (i + 1) ≤ N ∧ skipF (ρ 296) (N - P (i + 1)) (P (i + 1)) = S (i + 1) := by
  have hk := hT.2.2.1 i hi
  have h1 := (hT.2.2.2.2 (i + 1) (by omega)).1
  have hN : P (i + 1) ≤ N := by have := h1.1; have := h1.2.1; omega
  obtain ⟨h8, h2, h6, h4, hx⟩ := hR
  refine ⟨?_, hN, by rw [h6]; exact skipF_eq _ _ (by omega) h1⟩
  rcases hx with ⟨e, -, -⟩ | ⟨-, -, -, -, g⟩ | ⟨-, -, -, -, -, g⟩ | ⟨-, -, -, -, -, -, g⟩ | ⟨-, -, -, -, g⟩ | ⟨e, -⟩
  · omega
  · exact g
  · exact g
  · exact g
  · exact g
  · omega
theorem r_finB (X : AX) (n : Int) {f : Nat → Int} {N c i : Nat} {K : Nat → Int} {S : Nat → Nat} {V : Nat → Int} {P : Nat → Nat} {ρ : AH} (hT : TD f N c K S V P) (hR : RTk f N K S V P i ρ) (hB : mLex ρ = ρ ∧ ρ 295 12 = -1 ∧ (K i = 17 → V i = 0) ∧ plc K S V i = (S i : Int)) (hne : ¬ K i = 16)  : TT X 28 (0, [(2, 295), (0, n), (9, 0)], [], ρ) (fun r σ' => r = none ∧ FT 1 (plc K S V i) σ' ∧ RFB ρ σ') := by
  refine TT.steps (cd := cd28) 1 (c' := (1, [(2, 295), (0, n), (9, 0)], [(2, 295)], ρ)) rfl rfl ?_
  refine TT.call (cd := cd28) rfl rfl rfl (by decide) rfl (t_lex X ρ) (fun r1 σ1 hq => ?_)
  rw [hq.1, hq.2, hB.1]
  refine TT.steps (cd := cd28) 2 (c' := (4, [(2, 295), (0, n), (9, 0)], [(0, (ρ 295 8))], ρ)) rfl rfl ?_
  refine TT.top0 (z := 0) hR.1 ?_
  refine TT.steps (cd := cd28) 4 (c' := (9, [(2, 295), (0, n), (0, (ρ 295 5))], [], ρ)) rfl rfl ?_
  obtain ⟨p5, hp5⟩ := rl_nn hR
  refine TT.ls0 (ls' := [(2, 295), (0, n), (0, ((p5 : Nat) : Int))]) (by rw [hp5]) ?_
  refine rl_finX X _ n N ρ hR.2.1 hT.2.1 (fun a9 => ?_) p5
  refine TT.steps (cd := cd28) 2 (c' := (29, [(2, 295), (0, n), (0, ((a9 : Nat) : Int))], [(0, 59), (2, 295)], ρ)) rfl rfl ?_
  refine TT.call (cd := cd28) rfl rfl rfl (by decide) rfl (t_isSign X 59 ρ) (fun r2 σ2 hq => ?_)
  rw [hq.1, hq.2, if_neg (fun q => hne ((rl_sign hR hB.2.1).mp q))]
  refine TT.steps (cd := cd28) 3 (c' := (44, [(2, 295), (0, n), (0, ((a9 : Nat) : Int))], [(0, 59), (2, 295)], ρ)) rfl rfl ?_
  refine TT.call (cd := cd28) rfl rfl rfl (by decide) rfl (r_semB X hT hR hB hne) (fun r3 σ3 hq => ?_)
  obtain ⟨hq1, hq2, hq3⟩ := hq
  rw [hq1]
  exact TT.ret (cd := cd28) rfl rfl rfl rfl (⟨rfl, hq2, hq3⟩)
theorem r_finN (X : AX) (n : Int) {f : Nat → Int} {N c i : Nat} {K : Nat → Int} {S : Nat → Nat} {V : Nat → Int} {P : Nat → Nat} {ρ : AH} (hT : TD f N c K S V P) (hR : RTk f N K S V P i ρ) (hne : ¬ K i = 16) : TT X 28 (0, [(2, 295), (0, n), (9, 0)], [], ρ) (fun r σ' => r = none ∧ FT 1 (plc K S V i) σ' ∧ RFB ρ σ') := by
  rcases rl_lex hR with hB | hA
  · exact r_finB X n hT hR hB hne
  · exact r_finA X n hT hR hA
theorem r_fin5 (X : AX) {f : Nat → Int} {N c i : Nat} {K : Nat → Int} {S : Nat → Nat} {V : Nat → Int} {P : Nat → Nat} {ρ : AH} (hT : TD f N c K S V P) (hR : RTk f N K S V P i ρ) (hi : i < c) (he : K i = 16) (h5 : ¬ K (i + 1) = 0)  : TT X 28 (0, [(2, 295), (0, 90), (9, 0)], [], ρ) (fun r σ' => r = none ∧ FT 5 (S (i + 1) : Int) σ' ∧ RFB ρ σ') := by
  have hB := rl_no17 hR (by omega)
  have h0 := td_0 hT (show i + 1 ≤ c by omega)
  refine TT.steps (cd := cd28) 1 (c' := (1, [(2, 295), (0, 90), (9, 0)], [(2, 295)], ρ)) rfl rfl ?_
  refine TT.call (cd := cd28) rfl rfl rfl (by decide) rfl (t_lex X ρ) (fun r1 σ1 hq => ?_)
  rw [hq.1, hq.2, hB.1]
  refine TT.steps (cd := cd28) 2 (c' := (4, [(2, 295), (0, 90), (9, 0)], [(0, (ρ 295 8))], ρ)) rfl rfl ?_
  refine TT.top0 (z := 0) hR.1 ?_
  refine TT.steps (cd := cd28) 4 (c' := (9, [(2, 295), (0, 90), (0, (ρ 295 5))], [], ρ)) rfl rfl ?_
  obtain ⟨hp5, hp6, hp7⟩ := rl_endP hT hR hi
  refine TT.ls0 (ls' := [(2, 295), (0, 90), (0, (((P (i + 1)) : Nat) : Int))]) (by rw [hp5]) ?_
  refine rl_fin X _ 90 N ρ hR.2.1 hT.2.1 (N - P (i + 1)) (P (i + 1)) (by omega) ?_
  rw [hp7]
  refine TT.steps (cd := cd28) 2 (c' := (29, [(2, 295), (0, 90), (0, (((S (i + 1)) : Nat) : Int))], [(0, 59), (2, 295)], ρ)) rfl rfl ?_
  refine TT.call (cd := cd28) rfl rfl rfl (by decide) rfl (t_isSign X 59 ρ) (fun r2 σ2 hq => ?_)
  rw [hq.1, hq.2, if_pos ((rl_sign hR hB.2.1).mpr he)]
  refine TT.steps (cd := cd28) 7 (c' := (37, [(2, 295), (0, 90), (0, (((S (i + 1)) : Nat) : Int))], [(0, (ρ 295 2)), (0, (((S (i + 1)) : Nat) : Int))], ρ)) rfl rfl ?_
  refine TT.top0 (z := ((N : Nat) : Int)) hR.2.1 ?_
  refine TT.steps (cd := cd28) 1 (c' := ((if decide (((N : Nat) : Int) ≤ (((S (i + 1)) : Nat) : Int)) = true then 42 else 38), [(2, 295), (0, 90), (0, (((S (i + 1)) : Nat) : Int))], [], ρ)) rfl rfl ?_
  refine TT.br (p := ((N : Nat) : Int) ≤ (((S (i + 1)) : Nat) : Int)) (fun h3 => absurd h3 (show ¬ (((N : Nat) : Int) ≤ (((S (i + 1)) : Nat) : Int)) by omega)) (fun h3 => ?_)
  refine TT.steps (cd := cd28) 3 (c' := (41, [(2, 295), (0, 90), (0, (((S (i + 1)) : Nat) : Int))], [(0, (((S (i + 1)) : Nat) : Int)), (0, 5), (2, 295)], ρ)) rfl rfl ?_
  refine TT.call (cd := cd28) rfl rfl rfl (by decide) rfl (t_blame X 5 (((S (i + 1)) : Nat) : Int) ρ) (fun r4 σ4 hq => ?_)
  rw [hq.1, hq.2, mBl_0 hR.1]
  refine TT.steps (cd := cd28) 2 (c' := (44, [(2, 295), (0, 90), (0, (((S (i + 1)) : Nat) : Int))], [(0, 59), (2, 295)], (up2 (up2 ρ 295 8 5) 295 9 (((S (i + 1)) : Nat) : Int)))) rfl rfl ?_
  refine TT.call (cd := cd28) rfl rfl rfl (by decide) rfl (r_semF X (ρ := (up2 (up2 ρ 295 8 5) 295 9 (((S (i + 1)) : Nat) : Int))) (by rw [up2_nq _ (by omega), up2_hit]; decide)) (fun r5 σ5 hq => ?_)
  rw [hq.1, hq.2]
  exact TT.ret (cd := cd28) rfl rfl rfl rfl (⟨rfl, FT_bl _ _ _, RFB_bl _ _ _⟩)
theorem r_finO (X : AX) (n : Int) {f : Nat → Int} {N c i : Nat} {K : Nat → Int} {S : Nat → Nat} {V : Nat → Int} {P : Nat → Nat} {ρ : AH} (hT : TD f N c K S V P) (hR : RTk f N K S V P i ρ) (hi : i < c) (he : K i = 16) (h5 : ¬ n = 90 ∨ K (i + 1) = 0)  : TT X 28 (0, [(2, 295), (0, n), (9, 0)], [], ρ) (fun r σ' => r = none ∧ RTk f N K S V P (i + 1) σ' ∧ RFA ρ σ') := by
  have hB := rl_no17 hR (by omega)
  have h0 := td_0 hT (show i + 1 ≤ c by omega)
  refine TT.steps (cd := cd28) 1 (c' := (1, [(2, 295), (0, n), (9, 0)], [(2, 295)], ρ)) rfl rfl ?_
  refine TT.call (cd := cd28) rfl rfl rfl (by decide) rfl (t_lex X ρ) (fun r1 σ1 hq => ?_)
  rw [hq.1, hq.2, hB.1]
  refine TT.steps (cd := cd28) 2 (c' := (4, [(2, 295), (0, n), (9, 0)], [(0, (ρ 295 8))], ρ)) rfl rfl ?_
  refine TT.top0 (z := 0) hR.1 ?_
  refine TT.steps (cd := cd28) 4 (c' := (9, [(2, 295), (0, n), (0, (ρ 295 5))], [], ρ)) rfl rfl ?_
  obtain ⟨hp5, hp6, hp7⟩ := rl_endP hT hR hi
  refine TT.ls0 (ls' := [(2, 295), (0, n), (0, (((P (i + 1)) : Nat) : Int))]) (by rw [hp5]) ?_
  refine rl_fin X _ n N ρ hR.2.1 hT.2.1 (N - P (i + 1)) (P (i + 1)) (by omega) ?_
  rw [hp7]
  refine TT.steps (cd := cd28) 2 (c' := (29, [(2, 295), (0, n), (0, (((S (i + 1)) : Nat) : Int))], [(0, 59), (2, 295)], ρ)) rfl rfl ?_
  refine TT.call (cd := cd28) rfl rfl rfl (by decide) rfl (t_isSign X 59 ρ) (fun r2 σ2 hq => ?_)
  rw [hq.1, hq.2, if_pos ((rl_sign hR hB.2.1).mpr he)]
  refine TT.steps (cd := cd28) 4 (c' := ((if decide (¬ n = 90) = true then 42 else 34), [(2, 295), (0, n), (0, (((S (i + 1)) : Nat) : Int))], [], ρ)) rfl rfl ?_
  refine TT.br (p := ¬ n = 90) (fun h3 => ?_) (fun h3 => ?_)
  · refine TT.steps (cd := cd28) 2 (c' := (44, [(2, 295), (0, n), (0, (((S (i + 1)) : Nat) : Int))], [(0, 59), (2, 295)], ρ)) rfl rfl ?_
    refine TT.call (cd := cd28) rfl rfl rfl (by decide) rfl (r_semO X hT hR hi he) (fun r4 σ4 hq => ?_)
    obtain ⟨hq1, hq2, hq3⟩ := hq
    rw [hq1]
    exact TT.ret (cd := cd28) rfl rfl rfl rfl (⟨rfl, hq2, hq3⟩)
  · refine TT.steps (cd := cd28) 3 (c' := (37, [(2, 295), (0, n), (0, (((S (i + 1)) : Nat) : Int))], [(0, (ρ 295 2)), (0, (((S (i + 1)) : Nat) : Int))], ρ)) rfl rfl ?_
    refine TT.top0 (z := ((N : Nat) : Int)) hR.2.1 ?_
    refine TT.steps (cd := cd28) 1 (c' := ((if decide (((N : Nat) : Int) ≤ (((S (i + 1)) : Nat) : Int)) = true then 42 else 38), [(2, 295), (0, n), (0, (((S (i + 1)) : Nat) : Int))], [], ρ)) rfl rfl ?_
    refine TT.br (p := ((N : Nat) : Int) ≤ (((S (i + 1)) : Nat) : Int)) (fun h5 => ?_) (fun h5 => ?_)
    · refine TT.steps (cd := cd28) 2 (c' := (44, [(2, 295), (0, n), (0, (((S (i + 1)) : Nat) : Int))], [(0, 59), (2, 295)], ρ)) rfl rfl ?_
      refine TT.call (cd := cd28) rfl rfl rfl (by decide) rfl (r_semO X hT hR hi he) (fun r6 σ6 hq => ?_)
      obtain ⟨hq1, hq2, hq3⟩ := hq
      rw [hq1]
      exact TT.ret (cd := cd28) rfl rfl rfl rfl (⟨rfl, hq2, hq3⟩)
    · exfalso; omega
