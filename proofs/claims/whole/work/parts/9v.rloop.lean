/-! The statements one by one: both parsers. -/
def RDF (f : Nat → Int) (N c : Nat) (K : Nat → Int) (S : Nat → Nat) (V : Nat → Int) (P : Nat → Nat) (d bi n : Nat) (r : Option AV) (τ ρ : AH) : Prop :=
  (r = some (0, 1) ∧ τ d 0 = (n : Int) ∧ ∃ i np nt ns L C, PX f N c K S V P d bi np nt ns L C i τ ρ) ∨ (r = some (0, 0) ∧ ∃ kd pl : Int, 0 < kd ∧ τ 3 0 = kd ∧ τ 3 1 = pl ∧ FT kd pl ρ)
theorem rl_zero {f : Nat → Int} {N i : Nat} {K : Nat → Int} {S : Nat → Nat} {V : Nat → Int} {P : Nat → Nat} {ρ : AH} (h : RTk f N K S V P i ρ) : ρ 295 3 = 0 ↔ K i = 0 := by
  obtain ⟨h8, h2, h6, h4, hx⟩ := h
  rcases hx with ⟨e, g, -⟩ | ⟨e, g, -⟩ | ⟨e, g, -⟩ | ⟨e, g, -⟩ | ⟨e, g, -⟩ | ⟨e, e2, -⟩
  · exact ⟨fun _ => e.1, fun _ => g⟩
  · constructor <;> intro q <;> omega
  · constructor <;> intro q <;> omega
  · constructor <;> intro q <;> omega
  · constructor <;> intro q <;> omega
  · constructor <;> intro q <;> omega
theorem Z_rexit_8 (X : AX) {n : Nat} {f : Nat → Int} {N c i : Nat} {K : Nat → Int} {S : Nat → Nat} {V : Nat → Int} {P : Nat → Nat} {bi np nt ns : Nat} {L : Nat → Nat} {C : Nat → Nat → Nat} {τ ρ : AH} (hX : PX f N c K S V P 8 bi np nt ns L C i τ ρ) (hn : n ≤ 90) (hd0 : τ 8 0 = (n : Int)) (h0 : K i = 0) : TT X 145 (20, [(2, 3), (2, 1), (0, 1), (0, ((n : Nat) : Int))], [], τ) (fun r τ' => ∃ (ρ' : AH) (n' : Nat), n' ≤ 91 ∧ (∀ Q : Option AV → AH → Prop, TT X 29 (63, [(2, 295), (0, ((n' : Nat) : Int))], [], ρ') Q → TT X 29 (50, [(2, 295), (0, ((n : Nat) : Int))], [], ρ) Q) ∧ CFS 8 τ τ' ∧ RFR bi ρ ρ' ∧ RDF f N c K S V P 8 bi n' r τ' ρ') := by
  obtain ⟨hT, ⟨hC, hf0, hf1⟩, h34, hi, h33, hR, ⟨h32, hf9⟩, hb2, hD⟩ := id hX
  obtain ⟨⟨⟨d1, d2, d3, d4⟩, ⟨m0, m1, m2⟩, ⟨n2, n1, n0, s1, s2⟩, hTr, hCa, hAf, hPr, hDi⟩, ⟨hN0, hN1, hN2⟩, hPD⟩ := id hD
  have hreach : ∀ Q : Option AV → AH → Prop, TT X 29 (63, [(2, 295), (0, ((n : Nat) : Int))], [], ρ) Q → TT X 29 (50, [(2, 295), (0, ((n : Nat) : Int))], [], ρ) Q := by
    intro Q hQ
    refine TT.steps (cd := cd29) 2 (c' := (52, [(2, 295), (0, ((n : Nat) : Int))], [(0, (ρ 295 8))], ρ)) rfl rfl ?_
    refine TT.top0 (z := 0) hR.1 ?_
    refine TT.steps (cd := cd29) 3 (c' := (55, [(2, 295), (0, ((n : Nat) : Int))], [(0, (ρ 295 3))], ρ)) rfl rfl ?_
    refine TT.top0 (z := 0) ((rl_zero hR).mpr h0) ?_
    refine TT.steps (cd := cd29) 1 (c' := (63, [(2, 295), (0, ((n : Nat) : Int))], [], ρ)) rfl rfl ?_
    exact hQ
  refine TT.steps (cd := cd145) 5 (c' := ((if decide (90 < ((n : Nat) : Int)) = true then 33 else 25), [(2, 3), (2, 1), (0, 1), (0, ((n : Nat) : Int))], [], τ)) rfl rfl ?_
  refine TT.br (p := 90 < ((n : Nat) : Int)) (fun h1 => absurd h1 (show ¬ (90 < ((n : Nat) : Int)) by omega)) (fun h1 => ?_)
  refine TT.steps (cd := cd145) 1 (c' := (26, [(2, 3), (2, 1), (0, 1), (0, ((n : Nat) : Int))], [(2, 3)], τ)) rfl rfl ?_
  refine TT.call (cd := cd145) rfl rfl rfl (by decide) rfl (u_kind X hT (τ := τ) hC h34 (by omega)) (fun r2 σ2 hq => ?_)
  rw [hq.1, hq.2]
  refine TT.steps (cd := cd145) 1 (c' := ((if decide ((K i) = 0) = true then 33 else 28), [(2, 3), (2, 1), (0, 1), (0, ((n : Nat) : Int))], [], τ)) rfl rfl ?_
  refine TT.br (p := (K i) = 0) (fun h3 => ?_) (fun h3 => absurd (show (K i) = 0 by exact h0) h3)
  refine TT.steps (cd := cd145) 1 (c' := (34, [(2, 3), (2, 1), (0, 1), (0, ((n : Nat) : Int))], [(0, 1)], τ)) rfl rfl ?_
  exact TT.ret (cd := cd145) rfl rfl rfl rfl ⟨ρ, n, by omega, hreach, CFS_of (CFR.refl _ _), RFR.refl _ _, Or.inl ⟨rfl, hd0, i, np, nt, ns, L, C, hX⟩⟩
theorem u_stmt5_8 (X : AX) {f : Nat → Int} {N c : Nat} {K : Nat → Int} {S : Nat → Nat} {V : Nat → Int} {P : Nat → Nat} {i : Nat} {τ ρ : AH} {bi : Nat} (hT : TD f N c K S V P) (hi : i ≤ c) (hC : CT c K S V τ) (h34 : τ 3 4 = (i : Int)) (h33 : τ 3 3 = ((8 : Nat) : Int)) (hk : ¬ K i = 0) (hd0 : τ 8 0 = ((90 : Nat) : Int))  : TT X 149 (0, [(2, 3), (9, 0)], [], τ) (fun r σ' => r = some (0, 0) ∧ σ' = cFail τ 5 (S i : Int)) := by
  refine TT.steps (cd := cd149) 2 (c' := (2, [(2, 3), (9, 0)], [(2, (τ 3 3))], τ)) rfl rfl ?_
  refine TT.top0 (z := 8) h33 ?_
  refine TT.steps (cd := cd149) 1 (c' := (3, [(2, 3), (9, 0)], [(0, (τ 8 0))], τ)) rfl rfl ?_
  refine TT.top0 (z := 90) hd0 ?_
  refine TT.steps (cd := cd149) 4 (c' := (7, [(2, 3), (9, 0)], [(0, 5), (2, 3)], τ)) rfl rfl ?_
  refine TT.call (cd := cd149) rfl rfl rfl (by decide) rfl (u_failK X hT hC h34 hi 5 (by decide)) (fun r1 σ1 hq => ?_)
  rw [hq.1, hq.2]
  exact TT.ret (cd := cd149) rfl rfl rfl rfl (⟨rfl, rfl⟩)
theorem Z_rfive_8 (X : AX) {f : Nat → Int} {N c : Nat} {K : Nat → Int} {S : Nat → Nat} {V : Nat → Int} {P : Nat → Nat} {i : Nat} {τ ρ : AH} {bi : Nat} (hT : TD f N c K S V P) (hi : i ≤ c) (hC : CT c K S V τ) (h34 : τ 3 4 = (i : Int)) (h33 : τ 3 3 = ((8 : Nat) : Int)) (hk : ¬ K i = 0) (hd0 : τ 8 0 = ((90 : Nat) : Int)) (hft : FT 5 (S i : Int) ρ) : TT X 145 (20, [(2, 3), (2, 1), (0, 1), (0, 90)], [], τ) (fun r τ' => ∃ (ρ' : AH) (n' : Nat), n' ≤ 91 ∧ (∀ Q : Option AV → AH → Prop, TT X 29 (63, [(2, 295), (0, ((n' : Nat) : Int))], [], ρ') Q → TT X 29 (50, [(2, 295), (0, ((90 : Nat) : Int))], [], ρ) Q) ∧ CFS 8 τ τ' ∧ RFR bi ρ ρ' ∧ RDF f N c K S V P 8 bi n' r τ' ρ') := by
  have hreach : ∀ Q : Option AV → AH → Prop, TT X 29 (63, [(2, 295), (0, ((90 : Nat) : Int))], [], ρ) Q → TT X 29 (50, [(2, 295), (0, ((90 : Nat) : Int))], [], ρ) Q := by
    intro Q hQ
    refine TT.steps (cd := cd29) 2 (c' := (52, [(2, 295), (0, 90)], [(0, (ρ 295 8))], ρ)) rfl rfl ?_
    refine TT.top0 (z := 5) hft.1 ?_
    refine TT.steps (cd := cd29) 1 (c' := (63, [(2, 295), (0, 90)], [], ρ)) rfl rfl ?_
    exact hQ
  refine TT.steps (cd := cd145) 6 (c' := (26, [(2, 3), (2, 1), (0, 1), (0, 90)], [(2, 3)], τ)) rfl rfl ?_
  refine TT.call (cd := cd145) rfl rfl rfl (by decide) rfl (u_kind X hT hC h34 hi) (fun r1 σ1 hq => ?_)
  rw [hq.1, hq.2]
  refine TT.steps (cd := cd145) 1 (c' := ((if decide ((K i) = 0) = true then 33 else 28), [(2, 3), (2, 1), (0, 1), (0, 90)], [], τ)) rfl rfl ?_
  refine TT.br (p := (K i) = 0) (fun h2 => absurd h2 (show ¬ ((K i) = 0) by exact hk)) (fun h2 => ?_)
  refine TT.steps (cd := cd145) 1 (c' := (29, [(2, 3), (2, 1), (0, 1), (0, 90)], [(2, 3)], τ)) rfl rfl ?_
  refine TT.call (cd := cd145) rfl rfl rfl (by decide) rfl (u_stmt5_8 X (bi := 0) (ρ := τ) hT hi hC h34 h33 hk hd0) (fun r3 σ3 hq => ?_)
  rw [hq.1, hq.2]
  refine TT.steps (cd := cd145) 1 (c' := (31, [(2, 3), (2, 1), (0, 0), (0, 90)], [], (cFail τ 5 ((S i : Nat) : Int)))) rfl rfl ?_
  refine TT.inc (cd := cd145) 91 rfl rfl rfl rfl (fun h => absurd h.2 (show ¬ (0 = 1) by decide)) (by decide) (ls' := [(2, 3), (2, 1), (0, 0), (0, 91)]) rfl ?_
  refine TT.steps (cd := cd145) 4 (c' := (34, [(2, 3), (2, 1), (0, 0), (0, 91)], [(0, 0)], (cFail τ 5 ((S i : Nat) : Int)))) rfl rfl ?_
  exact TT.ret (cd := cd145) rfl rfl rfl rfl ⟨ρ, 90, by omega, hreach, CFS_f (CFS_of (CFR.refl _ _)) _ _, RFR.refl _ _, Or.inr ⟨rfl, 5, (S i : Int), by decide, (cF_0 _ _ _).1, (cF_0 _ _ _).2, hft⟩⟩
theorem Z_rloop_8 (X : AX) {f : Nat → Int} {N c : Nat} {K : Nat → Int} {S : Nat → Nat} {V : Nat → Int} {P : Nat → Nat} {bi : Nat} (hT : TD f N c K S V P) : ∀ (m n : Nat), n + m = 90 → ∀ (τ ρ : AH), SR f N c K S V P 8 bi n (some (0, 1)) τ ρ → TT X 145 (20, [(2, 3), (2, 1), (0, 1), (0, ((n : Nat) : Int))], [], τ) (fun r τ' => ∃ (ρ' : AH) (n' : Nat), n' ≤ 91 ∧ (∀ Q : Option AV → AH → Prop, TT X 29 (63, [(2, 295), (0, ((n' : Nat) : Int))], [], ρ') Q → TT X 29 (50, [(2, 295), (0, ((n : Nat) : Int))], [], ρ) Q) ∧ CFS 8 τ τ' ∧ RFR bi ρ ρ' ∧ RDF f N c K S V P 8 bi n' r τ' ρ') := by
  intro m
  induction m with
  | zero =>
    intro n hm τ ρ hS
    have e : n = 90 := by omega
    subst e
    rcases hS with ⟨-, h1, i, np, nt, ns, L, C, hX, h2⟩ | ⟨-, h1, h2, i, a1, a2, a3, a4, a5, a6⟩ | ⟨g, -⟩
    · exact Z_rexit_8 X hX (by omega) h1 (by omega)
    · exact Z_rfive_8 X hT a1 a2 a3 a4 a5 h1 a6
    · cases g
  | succ m ih =>
    intro n hm τ ρ hS
    rcases hS with ⟨-, hd0, i, np, nt, ns, L, C, hX, h2⟩ | ⟨-, h1, h2, -⟩ | ⟨g, -⟩
    · by_cases h0 : K i = 0
      · exact Z_rexit_8 X hX (by omega) hd0 h0
      · obtain ⟨-, ⟨hC, hf0, hf1⟩, h34, hi, h33, hR, ⟨h32, hf9⟩, hb2, hD⟩ := id hX
        obtain ⟨⟨⟨d1, d2, d3, d4⟩, ⟨m0, m1, m2⟩, ⟨n2, n1, n0, s1, s2⟩, hTr, hCa, hAf, hPr, hDi⟩, ⟨hN0, hN1, hN2⟩, hPD⟩ := id hD
        have h56 : ∀ Q : Option AV → AH → Prop, TT X 29 (56, [(2, 295), (0, ((n : Nat) : Int))], [], ρ) Q → TT X 29 (50, [(2, 295), (0, ((n : Nat) : Int))], [], ρ) Q := by
          intro Q hQ
          refine TT.steps (cd := cd29) 2 (c' := (52, [(2, 295), (0, ((n : Nat) : Int))], [(0, (ρ 295 8))], ρ)) rfl rfl ?_
          refine TT.top0 (z := 0) hR.1 ?_
          refine TT.steps (cd := cd29) 4 (c' := ((if decide ((ρ 295 3) = 0) = true then 63 else 56), [(2, 295), (0, ((n : Nat) : Int))], [], ρ)) rfl rfl ?_
          refine TT.br (p := (ρ 295 3) = 0) (fun h901 => absurd h901 (show ¬ ((ρ 295 3) = 0) by exact fun q => h0 ((rl_zero hR).mp q))) (fun h901 => ?_)
          exact hQ
        refine TT.steps (cd := cd145) 5 (c' := ((if decide (90 < ((n : Nat) : Int)) = true then 33 else 25), [(2, 3), (2, 1), (0, 1), (0, ((n : Nat) : Int))], [], τ)) rfl rfl ?_
        refine TT.br (p := 90 < ((n : Nat) : Int)) (fun h1 => absurd h1 (show ¬ (90 < ((n : Nat) : Int)) by omega)) (fun h1 => ?_)
        refine TT.steps (cd := cd145) 1 (c' := (26, [(2, 3), (2, 1), (0, 1), (0, ((n : Nat) : Int))], [(2, 3)], τ)) rfl rfl ?_
        refine TT.call (cd := cd145) rfl rfl rfl (by decide) rfl (u_kind X hT (τ := τ) hC h34 (by omega)) (fun r2 σ2 hq => ?_)
        rw [hq.1, hq.2]
        refine TT.steps (cd := cd145) 1 (c' := ((if decide ((K i) = 0) = true then 33 else 28), [(2, 3), (2, 1), (0, 1), (0, ((n : Nat) : Int))], [], τ)) rfl rfl ?_
        refine TT.br (p := (K i) = 0) (fun h3 => absurd h3 (show ¬ ((K i) = 0) by exact h0)) (fun h3 => ?_)
        refine TT.steps (cd := cd145) 1 (c' := (29, [(2, 3), (2, 1), (0, 1), (0, ((n : Nat) : Int))], [(2, 3)], τ)) rfl rfl ?_
        refine TT.call (cd := cd145) rfl rfl rfl (by decide) rfl (Z_stmt_8 X hX hd0 (by omega)) (fun r1 τ1 hq => ?_)
        obtain ⟨ρ1, hr1, hcf, hrf, hsr⟩ := hq
        have hr2 : r1 = some (0, 0) ∨ (r1 = some (0, 1) ∧ SR f N c K S V P 8 bi (n + 1) (some (0, 1)) τ1 ρ1) := by
          rcases id hsr with ⟨g, -⟩ | ⟨g, -⟩ | ⟨g, -⟩
          · subst g; exact Or.inr ⟨rfl, hsr⟩
          · subst g; exact Or.inr ⟨rfl, hsr⟩
          · exact Or.inl g
        rcases hr2 with g | ⟨g, hsr1⟩
        · subst g
          have hend : ∃ kd pl : Int, 0 < kd ∧ τ1 3 0 = kd ∧ τ1 3 1 = pl ∧ FT kd pl ρ1 := by
            rcases hsr with ⟨g, -⟩ | ⟨g, -⟩ | ⟨-, g⟩
            · cases g
            · cases g
            · exact g
          obtain ⟨kd, pl, b1, b2, b3, b4⟩ := hend
          have h63 : ∀ Q : Option AV → AH → Prop, TT X 29 (63, [(2, 295), (0, ((n + 1 : Nat) : Int))], [], ρ1) Q → TT X 29 (50, [(2, 295), (0, ((n + 1 : Nat) : Int))], [], ρ1) Q := by
            intro Q hQ
            refine TT.steps (cd := cd29) 2 (c' := (52, [(2, 295), (0, ((n + 1 : Nat) : Int))], [(0, (ρ1 295 8))], ρ1)) rfl rfl ?_
            refine TT.top0 (z := kd) b4.1 ?_
            refine TT.steps (cd := cd29) 1 (c' := ((if decide (¬ kd = 0) = true then 63 else 53), [(2, 295), (0, ((n + 1 : Nat) : Int))], [], ρ1)) rfl rfl ?_
            refine TT.br (p := ¬ kd = 0) (fun h901 => ?_) (fun h901 => absurd (show ¬ kd = 0 by omega) h901)
            exact hQ
          show TT X 145 (30, [(2, 3), (2, 1), (0, 1), (0, ((n : Nat) : Int))], [(0, 0)], τ1) _
          refine TT.steps (cd := cd145) 1 (c' := (31, [(2, 3), (2, 1), (0, 0), (0, ((n : Nat) : Int))], [], τ1)) rfl rfl ?_
          refine TT.inc (cd := cd145) ((n + 1 : Nat) : Int) rfl rfl rfl rfl (fun h => absurd h.2 (show ¬ (0 = 1) by decide)) (aAdd_n (a := n) (b := 1) (by omega)) (ls' := [(2, 3), (2, 1), (0, 0), (0, ((n + 1 : Nat) : Int))]) rfl ?_
          refine TT.steps (cd := cd145) 4 (c' := (34, [(2, 3), (2, 1), (0, 0), (0, ((n + 1 : Nat) : Int))], [(0, 0)], τ1)) rfl rfl ?_
          exact TT.ret (cd := cd145) rfl rfl rfl rfl ⟨ρ1, n + 1, by omega, fun Q hQ => h56 Q (hr1 Q (h63 Q hQ)), hcf, hrf, Or.inr ⟨rfl, kd, pl, b1, b2, b3, b4⟩⟩
        · subst g
          show TT X 145 (30, [(2, 3), (2, 1), (0, 1), (0, ((n : Nat) : Int))], [(0, 1)], τ1) _
          refine TT.steps (cd := cd145) 1 (c' := (31, [(2, 3), (2, 1), (0, 1), (0, ((n : Nat) : Int))], [], τ1)) rfl rfl ?_
          refine TT.inc (cd := cd145) ((n + 1 : Nat) : Int) rfl rfl rfl rfl (fun h => absurd h.2 (show ¬ (0 = 1) by decide)) (aAdd_n (a := n) (b := 1) (by omega)) (ls' := [(2, 3), (2, 1), (0, 1), (0, ((n + 1 : Nat) : Int))]) rfl ?_
          refine TT.steps (cd := cd145) 1 (c' := (20, [(2, 3), (2, 1), (0, 1), (0, ((n + 1 : Nat) : Int))], [], τ1)) rfl rfl ?_
          refine (ih (n + 1) (by omega) τ1 ρ1 hsr1).mono (fun r τ' h => ?_)
          obtain ⟨ρ', n', h1, h2, h3, h4, h5⟩ := h
          exact ⟨ρ', n', h1, fun Q hQ => h56 Q (hr1 Q (h2 Q hQ)), hcf.trans h3, hrf.trans h4, h5⟩
    · omega
    · cases g
theorem Z_rexit_170 (X : AX) {n : Nat} {f : Nat → Int} {N c i : Nat} {K : Nat → Int} {S : Nat → Nat} {V : Nat → Int} {P : Nat → Nat} {bi np nt ns : Nat} {L : Nat → Nat} {C : Nat → Nat → Nat} {τ ρ : AH} (hX : PX f N c K S V P 170 bi np nt ns L C i τ ρ) (hn : n ≤ 90) (hd0 : τ 170 0 = (n : Int)) (h0 : K i = 0) : TT X 145 (20, [(2, 3), (2, 1), (0, 1), (0, ((n : Nat) : Int))], [], τ) (fun r τ' => ∃ (ρ' : AH) (n' : Nat), n' ≤ 91 ∧ (∀ Q : Option AV → AH → Prop, TT X 29 (63, [(2, 295), (0, ((n' : Nat) : Int))], [], ρ') Q → TT X 29 (50, [(2, 295), (0, ((n : Nat) : Int))], [], ρ) Q) ∧ CFS 170 τ τ' ∧ RFR bi ρ ρ' ∧ RDF f N c K S V P 170 bi n' r τ' ρ') := by
  obtain ⟨hT, ⟨hC, hf0, hf1⟩, h34, hi, h33, hR, ⟨h32, hf9⟩, hb2, hD⟩ := id hX
  obtain ⟨⟨⟨d1, d2, d3, d4⟩, ⟨m0, m1, m2⟩, ⟨n2, n1, n0, s1, s2⟩, hTr, hCa, hAf, hPr, hDi⟩, ⟨hN0, hN1, hN2⟩, hPD⟩ := id hD
  have hreach : ∀ Q : Option AV → AH → Prop, TT X 29 (63, [(2, 295), (0, ((n : Nat) : Int))], [], ρ) Q → TT X 29 (50, [(2, 295), (0, ((n : Nat) : Int))], [], ρ) Q := by
    intro Q hQ
    refine TT.steps (cd := cd29) 2 (c' := (52, [(2, 295), (0, ((n : Nat) : Int))], [(0, (ρ 295 8))], ρ)) rfl rfl ?_
    refine TT.top0 (z := 0) hR.1 ?_
    refine TT.steps (cd := cd29) 3 (c' := (55, [(2, 295), (0, ((n : Nat) : Int))], [(0, (ρ 295 3))], ρ)) rfl rfl ?_
    refine TT.top0 (z := 0) ((rl_zero hR).mpr h0) ?_
    refine TT.steps (cd := cd29) 1 (c' := (63, [(2, 295), (0, ((n : Nat) : Int))], [], ρ)) rfl rfl ?_
    exact hQ
  refine TT.steps (cd := cd145) 5 (c' := ((if decide (90 < ((n : Nat) : Int)) = true then 33 else 25), [(2, 3), (2, 1), (0, 1), (0, ((n : Nat) : Int))], [], τ)) rfl rfl ?_
  refine TT.br (p := 90 < ((n : Nat) : Int)) (fun h1 => absurd h1 (show ¬ (90 < ((n : Nat) : Int)) by omega)) (fun h1 => ?_)
  refine TT.steps (cd := cd145) 1 (c' := (26, [(2, 3), (2, 1), (0, 1), (0, ((n : Nat) : Int))], [(2, 3)], τ)) rfl rfl ?_
  refine TT.call (cd := cd145) rfl rfl rfl (by decide) rfl (u_kind X hT (τ := τ) hC h34 (by omega)) (fun r2 σ2 hq => ?_)
  rw [hq.1, hq.2]
  refine TT.steps (cd := cd145) 1 (c' := ((if decide ((K i) = 0) = true then 33 else 28), [(2, 3), (2, 1), (0, 1), (0, ((n : Nat) : Int))], [], τ)) rfl rfl ?_
  refine TT.br (p := (K i) = 0) (fun h3 => ?_) (fun h3 => absurd (show (K i) = 0 by exact h0) h3)
  refine TT.steps (cd := cd145) 1 (c' := (34, [(2, 3), (2, 1), (0, 1), (0, ((n : Nat) : Int))], [(0, 1)], τ)) rfl rfl ?_
  exact TT.ret (cd := cd145) rfl rfl rfl rfl ⟨ρ, n, by omega, hreach, CFS_of (CFR.refl _ _), RFR.refl _ _, Or.inl ⟨rfl, hd0, i, np, nt, ns, L, C, hX⟩⟩
theorem u_stmt5_170 (X : AX) {f : Nat → Int} {N c : Nat} {K : Nat → Int} {S : Nat → Nat} {V : Nat → Int} {P : Nat → Nat} {i : Nat} {τ ρ : AH} {bi : Nat} (hT : TD f N c K S V P) (hi : i ≤ c) (hC : CT c K S V τ) (h34 : τ 3 4 = (i : Int)) (h33 : τ 3 3 = ((170 : Nat) : Int)) (hk : ¬ K i = 0) (hd0 : τ 170 0 = ((90 : Nat) : Int))  : TT X 149 (0, [(2, 3), (9, 0)], [], τ) (fun r σ' => r = some (0, 0) ∧ σ' = cFail τ 5 (S i : Int)) := by
  refine TT.steps (cd := cd149) 2 (c' := (2, [(2, 3), (9, 0)], [(2, (τ 3 3))], τ)) rfl rfl ?_
  refine TT.top0 (z := 170) h33 ?_
  refine TT.steps (cd := cd149) 1 (c' := (3, [(2, 3), (9, 0)], [(0, (τ 170 0))], τ)) rfl rfl ?_
  refine TT.top0 (z := 90) hd0 ?_
  refine TT.steps (cd := cd149) 4 (c' := (7, [(2, 3), (9, 0)], [(0, 5), (2, 3)], τ)) rfl rfl ?_
  refine TT.call (cd := cd149) rfl rfl rfl (by decide) rfl (u_failK X hT hC h34 hi 5 (by decide)) (fun r1 σ1 hq => ?_)
  rw [hq.1, hq.2]
  exact TT.ret (cd := cd149) rfl rfl rfl rfl (⟨rfl, rfl⟩)
theorem Z_rfive_170 (X : AX) {f : Nat → Int} {N c : Nat} {K : Nat → Int} {S : Nat → Nat} {V : Nat → Int} {P : Nat → Nat} {i : Nat} {τ ρ : AH} {bi : Nat} (hT : TD f N c K S V P) (hi : i ≤ c) (hC : CT c K S V τ) (h34 : τ 3 4 = (i : Int)) (h33 : τ 3 3 = ((170 : Nat) : Int)) (hk : ¬ K i = 0) (hd0 : τ 170 0 = ((90 : Nat) : Int)) (hft : FT 5 (S i : Int) ρ) : TT X 145 (20, [(2, 3), (2, 1), (0, 1), (0, 90)], [], τ) (fun r τ' => ∃ (ρ' : AH) (n' : Nat), n' ≤ 91 ∧ (∀ Q : Option AV → AH → Prop, TT X 29 (63, [(2, 295), (0, ((n' : Nat) : Int))], [], ρ') Q → TT X 29 (50, [(2, 295), (0, ((90 : Nat) : Int))], [], ρ) Q) ∧ CFS 170 τ τ' ∧ RFR bi ρ ρ' ∧ RDF f N c K S V P 170 bi n' r τ' ρ') := by
  have hreach : ∀ Q : Option AV → AH → Prop, TT X 29 (63, [(2, 295), (0, ((90 : Nat) : Int))], [], ρ) Q → TT X 29 (50, [(2, 295), (0, ((90 : Nat) : Int))], [], ρ) Q := by
    intro Q hQ
    refine TT.steps (cd := cd29) 2 (c' := (52, [(2, 295), (0, 90)], [(0, (ρ 295 8))], ρ)) rfl rfl ?_
    refine TT.top0 (z := 5) hft.1 ?_
    refine TT.steps (cd := cd29) 1 (c' := (63, [(2, 295), (0, 90)], [], ρ)) rfl rfl ?_
    exact hQ
  refine TT.steps (cd := cd145) 6 (c' := (26, [(2, 3), (2, 1), (0, 1), (0, 90)], [(2, 3)], τ)) rfl rfl ?_
  refine TT.call (cd := cd145) rfl rfl rfl (by decide) rfl (u_kind X hT hC h34 hi) (fun r1 σ1 hq => ?_)
  rw [hq.1, hq.2]
  refine TT.steps (cd := cd145) 1 (c' := ((if decide ((K i) = 0) = true then 33 else 28), [(2, 3), (2, 1), (0, 1), (0, 90)], [], τ)) rfl rfl ?_
  refine TT.br (p := (K i) = 0) (fun h2 => absurd h2 (show ¬ ((K i) = 0) by exact hk)) (fun h2 => ?_)
  refine TT.steps (cd := cd145) 1 (c' := (29, [(2, 3), (2, 1), (0, 1), (0, 90)], [(2, 3)], τ)) rfl rfl ?_
  refine TT.call (cd := cd145) rfl rfl rfl (by decide) rfl (u_stmt5_170 X (bi := 0) (ρ := τ) hT hi hC h34 h33 hk hd0) (fun r3 σ3 hq => ?_)
  rw [hq.1, hq.2]
  refine TT.steps (cd := cd145) 1 (c' := (31, [(2, 3), (2, 1), (0, 0), (0, 90)], [], (cFail τ 5 ((S i : Nat) : Int)))) rfl rfl ?_
  refine TT.inc (cd := cd145) 91 rfl rfl rfl rfl (fun h => absurd h.2 (show ¬ (0 = 1) by decide)) (by decide) (ls' := [(2, 3), (2, 1), (0, 0), (0, 91)]) rfl ?_
  refine TT.steps (cd := cd145) 4 (c' := (34, [(2, 3), (2, 1), (0, 0), (0, 91)], [(0, 0)], (cFail τ 5 ((S i : Nat) : Int)))) rfl rfl ?_
  exact TT.ret (cd := cd145) rfl rfl rfl rfl ⟨ρ, 90, by omega, hreach, CFS_f (CFS_of (CFR.refl _ _)) _ _, RFR.refl _ _, Or.inr ⟨rfl, 5, (S i : Int), by decide, (cF_0 _ _ _).1, (cF_0 _ _ _).2, hft⟩⟩
theorem Z_rloop_170 (X : AX) {f : Nat → Int} {N c : Nat} {K : Nat → Int} {S : Nat → Nat} {V : Nat → Int} {P : Nat → Nat} {bi : Nat} (hT : TD f N c K S V P) : ∀ (m n : Nat), n + m = 90 → ∀ (τ ρ : AH), SR f N c K S V P 170 bi n (some (0, 1)) τ ρ → TT X 145 (20, [(2, 3), (2, 1), (0, 1), (0, ((n : Nat) : Int))], [], τ) (fun r τ' => ∃ (ρ' : AH) (n' : Nat), n' ≤ 91 ∧ (∀ Q : Option AV → AH → Prop, TT X 29 (63, [(2, 295), (0, ((n' : Nat) : Int))], [], ρ') Q → TT X 29 (50, [(2, 295), (0, ((n : Nat) : Int))], [], ρ) Q) ∧ CFS 170 τ τ' ∧ RFR bi ρ ρ' ∧ RDF f N c K S V P 170 bi n' r τ' ρ') := by
  intro m
  induction m with
  | zero =>
    intro n hm τ ρ hS
    have e : n = 90 := by omega
    subst e
    rcases hS with ⟨-, h1, i, np, nt, ns, L, C, hX, h2⟩ | ⟨-, h1, h2, i, a1, a2, a3, a4, a5, a6⟩ | ⟨g, -⟩
    · exact Z_rexit_170 X hX (by omega) h1 (by omega)
    · exact Z_rfive_170 X hT a1 a2 a3 a4 a5 h1 a6
    · cases g
  | succ m ih =>
    intro n hm τ ρ hS
    rcases hS with ⟨-, hd0, i, np, nt, ns, L, C, hX, h2⟩ | ⟨-, h1, h2, -⟩ | ⟨g, -⟩
    · by_cases h0 : K i = 0
      · exact Z_rexit_170 X hX (by omega) hd0 h0
      · obtain ⟨-, ⟨hC, hf0, hf1⟩, h34, hi, h33, hR, ⟨h32, hf9⟩, hb2, hD⟩ := id hX
        obtain ⟨⟨⟨d1, d2, d3, d4⟩, ⟨m0, m1, m2⟩, ⟨n2, n1, n0, s1, s2⟩, hTr, hCa, hAf, hPr, hDi⟩, ⟨hN0, hN1, hN2⟩, hPD⟩ := id hD
        have h56 : ∀ Q : Option AV → AH → Prop, TT X 29 (56, [(2, 295), (0, ((n : Nat) : Int))], [], ρ) Q → TT X 29 (50, [(2, 295), (0, ((n : Nat) : Int))], [], ρ) Q := by
          intro Q hQ
          refine TT.steps (cd := cd29) 2 (c' := (52, [(2, 295), (0, ((n : Nat) : Int))], [(0, (ρ 295 8))], ρ)) rfl rfl ?_
          refine TT.top0 (z := 0) hR.1 ?_
          refine TT.steps (cd := cd29) 4 (c' := ((if decide ((ρ 295 3) = 0) = true then 63 else 56), [(2, 295), (0, ((n : Nat) : Int))], [], ρ)) rfl rfl ?_
          refine TT.br (p := (ρ 295 3) = 0) (fun h901 => absurd h901 (show ¬ ((ρ 295 3) = 0) by exact fun q => h0 ((rl_zero hR).mp q))) (fun h901 => ?_)
          exact hQ
        refine TT.steps (cd := cd145) 5 (c' := ((if decide (90 < ((n : Nat) : Int)) = true then 33 else 25), [(2, 3), (2, 1), (0, 1), (0, ((n : Nat) : Int))], [], τ)) rfl rfl ?_
        refine TT.br (p := 90 < ((n : Nat) : Int)) (fun h1 => absurd h1 (show ¬ (90 < ((n : Nat) : Int)) by omega)) (fun h1 => ?_)
        refine TT.steps (cd := cd145) 1 (c' := (26, [(2, 3), (2, 1), (0, 1), (0, ((n : Nat) : Int))], [(2, 3)], τ)) rfl rfl ?_
        refine TT.call (cd := cd145) rfl rfl rfl (by decide) rfl (u_kind X hT (τ := τ) hC h34 (by omega)) (fun r2 σ2 hq => ?_)
        rw [hq.1, hq.2]
        refine TT.steps (cd := cd145) 1 (c' := ((if decide ((K i) = 0) = true then 33 else 28), [(2, 3), (2, 1), (0, 1), (0, ((n : Nat) : Int))], [], τ)) rfl rfl ?_
        refine TT.br (p := (K i) = 0) (fun h3 => absurd h3 (show ¬ ((K i) = 0) by exact h0)) (fun h3 => ?_)
        refine TT.steps (cd := cd145) 1 (c' := (29, [(2, 3), (2, 1), (0, 1), (0, ((n : Nat) : Int))], [(2, 3)], τ)) rfl rfl ?_
        refine TT.call (cd := cd145) rfl rfl rfl (by decide) rfl (Z_stmt_170 X hX hd0 (by omega)) (fun r1 τ1 hq => ?_)
        obtain ⟨ρ1, hr1, hcf, hrf, hsr⟩ := hq
        have hr2 : r1 = some (0, 0) ∨ (r1 = some (0, 1) ∧ SR f N c K S V P 170 bi (n + 1) (some (0, 1)) τ1 ρ1) := by
          rcases id hsr with ⟨g, -⟩ | ⟨g, -⟩ | ⟨g, -⟩
          · subst g; exact Or.inr ⟨rfl, hsr⟩
          · subst g; exact Or.inr ⟨rfl, hsr⟩
          · exact Or.inl g
        rcases hr2 with g | ⟨g, hsr1⟩
        · subst g
          have hend : ∃ kd pl : Int, 0 < kd ∧ τ1 3 0 = kd ∧ τ1 3 1 = pl ∧ FT kd pl ρ1 := by
            rcases hsr with ⟨g, -⟩ | ⟨g, -⟩ | ⟨-, g⟩
            · cases g
            · cases g
            · exact g
          obtain ⟨kd, pl, b1, b2, b3, b4⟩ := hend
          have h63 : ∀ Q : Option AV → AH → Prop, TT X 29 (63, [(2, 295), (0, ((n + 1 : Nat) : Int))], [], ρ1) Q → TT X 29 (50, [(2, 295), (0, ((n + 1 : Nat) : Int))], [], ρ1) Q := by
            intro Q hQ
            refine TT.steps (cd := cd29) 2 (c' := (52, [(2, 295), (0, ((n + 1 : Nat) : Int))], [(0, (ρ1 295 8))], ρ1)) rfl rfl ?_
            refine TT.top0 (z := kd) b4.1 ?_
            refine TT.steps (cd := cd29) 1 (c' := ((if decide (¬ kd = 0) = true then 63 else 53), [(2, 295), (0, ((n + 1 : Nat) : Int))], [], ρ1)) rfl rfl ?_
            refine TT.br (p := ¬ kd = 0) (fun h901 => ?_) (fun h901 => absurd (show ¬ kd = 0 by omega) h901)
            exact hQ
          show TT X 145 (30, [(2, 3), (2, 1), (0, 1), (0, ((n : Nat) : Int))], [(0, 0)], τ1) _
          refine TT.steps (cd := cd145) 1 (c' := (31, [(2, 3), (2, 1), (0, 0), (0, ((n : Nat) : Int))], [], τ1)) rfl rfl ?_
          refine TT.inc (cd := cd145) ((n + 1 : Nat) : Int) rfl rfl rfl rfl (fun h => absurd h.2 (show ¬ (0 = 1) by decide)) (aAdd_n (a := n) (b := 1) (by omega)) (ls' := [(2, 3), (2, 1), (0, 0), (0, ((n + 1 : Nat) : Int))]) rfl ?_
          refine TT.steps (cd := cd145) 4 (c' := (34, [(2, 3), (2, 1), (0, 0), (0, ((n + 1 : Nat) : Int))], [(0, 0)], τ1)) rfl rfl ?_
          exact TT.ret (cd := cd145) rfl rfl rfl rfl ⟨ρ1, n + 1, by omega, fun Q hQ => h56 Q (hr1 Q (h63 Q hQ)), hcf, hrf, Or.inr ⟨rfl, kd, pl, b1, b2, b3, b4⟩⟩
        · subst g
          show TT X 145 (30, [(2, 3), (2, 1), (0, 1), (0, ((n : Nat) : Int))], [(0, 1)], τ1) _
          refine TT.steps (cd := cd145) 1 (c' := (31, [(2, 3), (2, 1), (0, 1), (0, ((n : Nat) : Int))], [], τ1)) rfl rfl ?_
          refine TT.inc (cd := cd145) ((n + 1 : Nat) : Int) rfl rfl rfl rfl (fun h => absurd h.2 (show ¬ (0 = 1) by decide)) (aAdd_n (a := n) (b := 1) (by omega)) (ls' := [(2, 3), (2, 1), (0, 1), (0, ((n + 1 : Nat) : Int))]) rfl ?_
          refine TT.steps (cd := cd145) 1 (c' := (20, [(2, 3), (2, 1), (0, 1), (0, ((n + 1 : Nat) : Int))], [], τ1)) rfl rfl ?_
          refine (ih (n + 1) (by omega) τ1 ρ1 hsr1).mono (fun r τ' h => ?_)
          obtain ⟨ρ', n', h1, h2, h3, h4, h5⟩ := h
          exact ⟨ρ', n', h1, fun Q hQ => h56 Q (hr1 Q (h2 Q hQ)), hcf.trans h3, hrf.trans h4, h5⟩
    · omega
    · cases g
