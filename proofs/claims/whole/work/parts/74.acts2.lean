/-! Acts of the class. -/
theorem IV_undo {σ τ υ ρ : AH} {l b np nt ns : Nat} {L : Nat → Nat} {C : Nat → Nat → Nat} {w tp u tl oc : Nat} (h : IV σ ρ l b np nt ns L C w tp u tl oc) (hw0 : 0 < w) (hc : CP σ υ 36 (50 + 6 * ((tp + 19) % 20))) (hτ : τ = up2 (up2 (up2 υ 48 2 (((tp + 19) % 20 : Nat) : Int)) 48 0 ((w - 1 : Nat) : Int)) 289 0 0) : IV τ (cpN (up2 ρ 295 42 ((w - 1 : Nat) : Int)) 0 (2 + (u + (w - 1)) % 20) 10) l b np nt ns L C (w - 1) ((tp + 19) % 20) u tl oc := by
  obtain ⟨⟨hl, i1, i2⟩, hL, hN, hP, hF, ⟨⟨s1, s2, s3, s4⟩, ⟨hw, htp, hu⟩, hA3⟩, ⟨t1, t2, t3, t4⟩, ⟨o1, o2, o3, o4⟩, ⟨m1, m2, m3⟩, hH⟩ := h
  have np2 := hL.2.2.1.1
  have cl := cpN_l (up2 ρ 295 42 ((w - 1 : Nat) : Int)) 0 (2 + (u + (w - 1)) % 20)
  have co := cpN_o (up2 ρ 295 42 ((w - 1 : Nat) : Int)) 0 (2 + (u + (w - 1)) % 20)
  have kf : ∀ K j, (K ≠ 295 ∧ (K < 316 ∨ 322 < K)) → cpN (up2 ρ 295 42 ((w - 1 : Nat) : Int)) 0 (2 + (u + (w - 1)) % 20) 10 K j = ρ K j := fun K j hK => (cpN_fr _ _ _ _ _ _ hK.2).trans (up2_far _ _ _ _ hK.1)
  have k1 : ∀ j, j ≠ 42 → cpN (up2 ρ 295 42 ((w - 1 : Nat) : Int)) 0 (2 + (u + (w - 1)) % 20) 10 295 j = ρ 295 j := fun j hj => (cpN_fr _ _ _ _ _ _ (by omega)).trans (up2_by _ _ _ hj)
  have f : ∀ K j, (K < 36 ∨ (41 < K ∧ K ≠ 48 ∧ K ≠ 289)) → τ K j = σ K j := by
    intro K j hK
    rw [hτ, up2_nq _ (by omega), up2_nq _ (by omega), up2_nq _ (by omega), hc.1 K j (by omega)]
  have f2 : ∀ K j, 36 ≤ K → K ≤ 41 → τ K j = υ K j := by
    intro K j hK h9
    rw [hτ, up2_nq _ (by omega), up2_nq _ (by omega), up2_nq _ (by omega)]
  have fL : ∀ K j, (l ≤ K ∧ K ≤ l + 22) → τ K j = σ K j := fun K j hK => f K j (by omega)
  refine ⟨⟨hl, ?_, ?_⟩, LT_mv hl hL fL (fun K j hK => kf K j (by omega)) (k1 13 (by decide)), NT_mv hN fL (fun K j hK => kf K j (by omega)), ?_, ?_, ⟨⟨?_, ?_, ?_, ?_⟩, ⟨?_, ?_, hu⟩, ?_⟩, ⟨?_, ?_, t3, ?_⟩, ⟨?_, ?_, o3, ?_⟩, ⟨?_, ?_, ?_⟩, ?_⟩
  · rw [f _ _ (by omega)]; exact i1
  · rw [f _ _ (by omega)]; exact i2
  · have hA := hA3 (w - 1) (by omega)
    rw [show (tp + 20 - w + (w - 1)) % 20 = (tp + 19) % 20 by omega] at hA
    refine PT_cq np2 hA (fun j hj => ?_) (fun i j a1 a2 a3 => ?_) ?_ (fun K p hK hp => ?_)
    · rw [f2 _ _ (by omega) (by omega)]; exact hc.2.1 j hj
    · rw [f2 _ _ (by omega) (by omega)]; exact hc.2.2 i j a1 a2 a3
    · rw [cl.1, up2_far _ _ _ _ (by decide)]
    · rw [cl.2 K p hK hp, up2_far _ _ _ _ (by omega)]
  · unfold FL; rw [k1 44 (by decide), k1 45 (by decide), k1 57 (by decide)]; exact hF
  · rw [hτ, up2_nq _ (by omega), up2_hit]
  · rw [hτ, up2_nq _ (by omega), up2_nq _ (by omega), up2_hit]
  · rw [cpN_fr _ _ _ _ _ _ (by omega), up2_hit]
  · rw [k1 _ (by decide)]; exact s4
  · omega
  · omega
  · intro k hk
    rw [show ((tp + 19) % 20 + 20 - (w - 1) + k) % 20 = (tp + 20 - w + k) % 20 by omega]
    have e1 : (tp + 20 - w + k) % 20 < 20 := Nat.mod_lt _ (by decide)
    refine PT_mv (hA3 k (by omega)) np2 (fun K j hK => f K j (by omega)) ?_ (fun K p hK hp => ?_)
    · rw [co.1 _ (by omega), up2_far _ _ _ _ (by decide)]
    · rw [co.2 _ _ (by omega) (by omega), up2_far _ _ _ _ (by omega)]
  · rw [f _ _ (by omega)]; exact t1
  · rw [k1 _ (by decide)]; exact t2
  · intro j hj; rw [f _ _ (by omega), kf _ _ (by omega)]; exact t4 j hj
  · rw [f _ _ (by omega)]; exact o1
  · rw [k1 _ (by decide)]; exact o2
  · intro j hj; rw [f _ _ (by omega), kf _ _ (by omega)]; exact o4 j hj
  · rw [f _ _ (by omega), k1 43 (by decide)]; exact m1
  · rw [f _ _ (by omega), f _ _ (by omega), k1 10 (by decide), k1 11 (by decide)]; exact m2
  · intro j hj; rw [f _ _ (by omega), kf _ _ (by omega)]; exact m3 j hj
  · left; rw [hτ, up2_hit]
theorem bs_xor (f g : Nat → Bool) {n : Nat} (hn : n ≤ 30) : aXor ((bs f n : Nat) : Int) ((bs g n : Nat) : Int) = ((bs (fun p => f p ^^ g p) n : Nat) : Int) := by
  unfold aXor
  have hx := p31 hn (bs_lt f n)
  have hy := p31 hn (bs_lt g n)
  have key : ((Int32.ofInt ((bs f n : Nat) : Int)) ^^^ (Int32.ofInt ((bs g n : Nat) : Int))).toBitVec.toNat = bs f n ^^^ bs g n := by
    rw [Int32.toBitVec_xor, BitVec.toNat_xor, i32n hx, i32n hy]
  have hlt : bs f n ^^^ bs g n < 2 ^ n := Nat.xor_lt_two_pow (bs_lt f n) (bs_lt g n)
  rw [i32b key (p31 hn hlt)]
  refine congrArg (fun x : Nat => (x : Int)) (bs_of hlt (fun p hp => ?_))
  rw [Nat.testBit_xor, bs_bit, bs_bit, decide_eq_true hp, Bool.true_and, Bool.true_and]
/-- one of the people is another one -/
theorem PT_1 {σ τ ρ ρ' : AH} {np ns p0 : Nat} (hn : np ≤ 10) (h : PT σ ρ 36 0 np ns) (h1 : ∀ K j, (36 ≤ K ∧ K ≤ 41) → ¬ (K = 36 ∧ j = 2) → ¬ (38 ≤ K ∧ j = p0) → τ K j = σ K j) (h2 : ∀ K j, (316 ≤ K ∧ K ≤ 322) → ¬ (317 ≤ K ∧ j = p0) → ρ' K j = ρ K j) (h17 : ρ' 317 p0 = ρ 317 p0) (hh : τ 36 2 = ((bs (zH ρ' 0) np : Nat) : Int)) (hp : p0 < np → (∃ s : Nat, s < ns ∧ τ 38 p0 = (s : Int) ∧ ρ' 318 p0 = (s : Int)) ∧ τ 39 p0 = ρ' 319 p0 ∧ (∃ s : Nat, s < ns ∧ τ 40 p0 = (s : Int) ∧ ρ' 320 p0 = (s : Int)) ∧ (∃ s : Nat, s < ns ∧ τ 41 p0 = (s : Int) ∧ ρ' 321 p0 = (s : Int)) ∧ (ρ' 319 p0 = -1 ∨ ∃ s : Nat, s < ns ∧ ρ' 319 p0 = (s : Int)) ∧ (ρ' 322 p0 = 0 ∨ ρ' 322 p0 = 1)) : PT τ ρ' 36 0 np ns := by
  obtain ⟨⟨b1, b2⟩, y, -, c⟩ := h
  refine ⟨⟨by rw [h1 _ _ (by omega) (by omega) (by omega)]; exact b1, fun p hp1 => ?_⟩, ?_, hh, fun p hp1 => ?_⟩
  · rw [Nat.mul_zero, Nat.zero_add]
    by_cases e : p = p0
    · subst e
      obtain ⟨g1, g2, g3, g4, -⟩ := hp hp1
      exact ⟨g1, g2, g3, g4⟩
    · have := b2 p hp1
      rw [Nat.mul_zero, Nat.zero_add] at this
      rw [h1 _ _ (by omega) (by omega) (by omega), h1 _ _ (by omega) (by omega) (by omega), h1 _ _ (by omega) (by omega) (by omega), h1 _ _ (by omega) (by omega) (by omega), h2 _ _ (by omega) (by omega), h2 _ _ (by omega) (by omega), h2 _ _ (by omega) (by omega), h2 _ _ (by omega) (by omega)]
      exact this
  · rw [h1 _ _ (by omega) (by omega) (by omega), h2 _ _ (by omega) (by omega)]; exact y
  · rw [Nat.mul_zero, Nat.zero_add]
    have := c p hp1
    rw [Nat.mul_zero, Nat.zero_add] at this
    obtain ⟨d1, d2, d3, d4, d5⟩ := this
    have e17 : ρ' 317 p = ρ 317 p := by
      by_cases e : p = p0
      · subst e; exact h17
      · exact h2 _ _ (by omega) (by omega)
    rw [h1 _ _ (by omega) (by omega) (by omega), e17]
    refine ⟨d1, d2, d3, ?_⟩
    by_cases e : p = p0
    · subst e
      exact (hp hp1).2.2.2.2
    · rw [h2 _ _ (by omega) (by omega), h2 _ _ (by omega) (by omega)]; exact ⟨d4, d5⟩
theorem w_beginAct (X : AX) {l : Nat} {σ ρ : AH} {b np nt ns : Nat} {L : Nat → Nat} {C : Nat → Nat → Nat} {w tp u tl oc : Nat} (h : IV σ ρ l b np nt ns L C w tp u tl oc)  : TT X 229 (0, [(2, 0)], [], σ) (fun r σ' => r = none ∧ IV σ' (mKeep ρ u w) l b np nt ns L C (nW w) ((tp + 1) % 20) (nU u w) tl oc ∧ σ' 289 0 = 0 ∧ (∀ K j, (K < 48 ∨ 169 < K) ∧ K ≠ 289 → σ' K j = σ K j)) := by
  obtain ⟨⟨hl, h05, h33⟩, hL, hN, hPT, hF, hA, hTp, hO, hM, hH⟩ := id h
  obtain ⟨⟨a1, a2, a3, a4⟩, ⟨b1, b2, b3, b4, b5⟩, ⟨c1, c2, c3, c4, c5⟩, hTr, hCa, hAf, hPr, hDi⟩ := id hL
  obtain ⟨hPb, ⟨y1, y2, y3⟩, hhi, hPp⟩ := id hPT
  obtain ⟨⟨s1, s2, s3, s4⟩, ⟨hw2, htp2, hu2⟩, hA3⟩ := id hA
  refine TT.steps (cd := cd229) 4 (c' := (4, [(2, 0)], [(2, 36), (2, 48)], σ)) rfl rfl ?_
  refine TT.call (cd := cd229) rfl rfl rfl (by decide) rfl (v_save X tp htp2 w hw2 σ s2 s1) (fun r1 σ1 hq => ?_)
  obtain ⟨rfl, υ, hC, hs⟩ := hq
  refine TT.steps (cd := cd229) 4 (c' := (9, [(2, 0)], [], (up2 σ1 289 0 0))) rfl rfl ?_
  exact TT.ret (cd := cd229) rfl rfl rfl rfl (⟨rfl, IV_keep h hC (by rw [hs]), up2_hit _ _ _ _, fun K j hK => by rw [up2_nq _ (by omega), hs, up2_nq _ (by omega), up2_nq _ (by omega)]; exact hC.1 K j (by omega)⟩)
theorem K_undo0 (X : AX) {l : Nat} {σ ρ : AH} {b np nt ns : Nat} {L : Nat → Nat} {C : Nat → Nat → Nat} {w tp u tl oc : Nat} (h : IV σ ρ l b np nt ns L C w tp u tl oc) (hw0 : w = 0)  : TT X 195 (0, [(2, 0)], [], σ) (fun r σ' => r = some (0, 0) ∧ EX σ' (up2 ρ 315 4 (aAdd (ρ 315 4) 1)) ∧ (∀ K j, (295 ≤ K ∨ K = 30 ∨ K = 192) → σ' K j = σ K j)) := by
  obtain ⟨⟨hl, h05, h33⟩, hL, hN, hPT, hF, hA, hTp, hO, hM, hH⟩ := id h
  obtain ⟨⟨a1, a2, a3, a4⟩, ⟨b1, b2, b3, b4, b5⟩, ⟨c1, c2, c3, c4, c5⟩, hTr, hCa, hAf, hPr, hDi⟩ := id hL
  obtain ⟨hPb, ⟨y1, y2, y3⟩, hhi, hPp⟩ := id hPT
  obtain ⟨⟨s1, s2, s3, s4⟩, ⟨hw2, htp2, hu2⟩, hA3⟩ := id hA
  refine TT.steps (cd := cd195) 4 (c' := (4, [(2, 0)], [(2, 36), (2, 48)], σ)) rfl rfl ?_
  refine TT.call (cd := cd195) rfl rfl rfl (by decide) rfl (v_restore0 X tp htp2 σ s2 (by rw [s1, hw0]; rfl)) (fun r1 σ1 hq => ?_)
  rw [hq.1, hq.2]
  refine TT.steps (cd := cd195) 3 (c' := (8, [(2, 0)], [(0, 4), (2, 0)], σ)) rfl rfl ?_
  refine TT.call (cd := cd195) rfl rfl rfl (by decide) rfl (w_deny X 4 (by decide) σ) (fun r2 σ2 hq => ?_)
  rw [hq.1, hq.2]
  exact TT.ret (cd := cd195) rfl rfl rfl rfl (⟨rfl, ⟨_, _, _, _, _, _, _, _, _, _, _, _, IV_ref h 4 (by decide)⟩, fun K j hK => up2_far _ _ _ _ (by omega)⟩)
theorem K_undo1 (X : AX) {l : Nat} {σ ρ : AH} {b np nt ns : Nat} {L : Nat → Nat} {C : Nat → Nat → Nat} {w tp u tl oc : Nat} (h : IV σ ρ l b np nt ns L C w tp u tl oc) (hw0 : 0 < w)  : TT X 195 (0, [(2, 0)], [], σ) (fun r σ' => r = some (0, 1) ∧ EX σ' (cpN (up2 ρ 295 42 ((w - 1 : Nat) : Int)) 0 (2 + (u + (w - 1)) % 20) 10) ∧ (∀ K j, (295 ≤ K ∨ K = 30 ∨ K = 192) → σ' K j = σ K j)) := by
  obtain ⟨⟨hl, h05, h33⟩, hL, hN, hPT, hF, hA, hTp, hO, hM, hH⟩ := id h
  obtain ⟨⟨a1, a2, a3, a4⟩, ⟨b1, b2, b3, b4, b5⟩, ⟨c1, c2, c3, c4, c5⟩, hTr, hCa, hAf, hPr, hDi⟩ := id hL
  obtain ⟨hPb, ⟨y1, y2, y3⟩, hhi, hPp⟩ := id hPT
  obtain ⟨⟨s1, s2, s3, s4⟩, ⟨hw2, htp2, hu2⟩, hA3⟩ := id hA
  refine TT.steps (cd := cd195) 4 (c' := (4, [(2, 0)], [(2, 36), (2, 48)], σ)) rfl rfl ?_
  refine TT.call (cd := cd195) rfl rfl rfl (by decide) rfl (v_restore1 X tp htp2 w hw0 hw2 σ s2 s1) (fun r1 σ1 hq => ?_)
  obtain ⟨rfl, υ, hC, hs⟩ := hq
  refine TT.steps (cd := cd195) 6 (c' := (15, [(2, 0)], [(0, 1)], (up2 σ1 289 0 0))) rfl rfl ?_
  exact TT.ret (cd := cd195) rfl rfl rfl rfl (⟨rfl, ⟨_, _, _, _, _, _, _, _, _, _, _, _, IV_undo h hw0 hC (by rw [hs])⟩, fun K j hK => by rw [up2_nq _ (by omega), hs, up2_nq _ (by omega), up2_nq _ (by omega)]; exact hC.1 K j (by omega)⟩)
theorem K_seed (X : AX) {l : Nat} {σ ρ : AH} {b np nt ns : Nat} {L : Nat → Nat} {C : Nat → Nat → Nat} {w tp u tl oc : Nat} (h : IV σ ρ l b np nt ns L C w tp u tl oc) (z : Int) (hz2 : z < 2147483648)  : TT X 196 (0, [(2, 0), (0, z)], [], σ) (fun r σ' => (z < 0 → r = some (0, 0) ∧ EX σ' (up2 ρ 315 5 (aAdd (ρ 315 5) 1))) ∧ (¬ z < 0 → r = some (0, 1) ∧ EX σ' (up2 ρ 295 43 z)) ∧ (∀ K j, (295 ≤ K ∨ K = 30 ∨ K = 192) → σ' K j = σ K j)) := by
  obtain ⟨⟨hl, h05, h33⟩, hL, hN, hPT, hF, hA, hTp, hO, hM, hH⟩ := id h
  obtain ⟨⟨a1, a2, a3, a4⟩, ⟨b1, b2, b3, b4, b5⟩, ⟨c1, c2, c3, c4, c5⟩, hTr, hCa, hAf, hPr, hDi⟩ := id hL
  obtain ⟨hPb, ⟨y1, y2, y3⟩, hhi, hPp⟩ := id hPT
  refine TT.steps (cd := cd196) 2 (c' := ((if decide (0 ≤ z) = true then 6 else 2), [(2, 0), (0, z)], [], σ)) rfl rfl ?_
  refine TT.br (p := 0 ≤ z) (fun h1 => ?_) (fun h1 => ?_)
  · refine TT.steps (cd := cd196) 4 (c' := (10, [(2, 0), (0, z)], [(0, 1)], (up2 σ 0 11 z))) rfl rfl ?_
    exact TT.ret (cd := cd196) rfl rfl rfl rfl ⟨fun hh => absurd hh (by omega), fun _ => ⟨rfl, ⟨_, _, _, _, _, _, _, _, _, _, _, _, IV_seed h z (by omega)⟩⟩, fun K j hK => up2_far _ _ _ _ (by omega)⟩
  · refine TT.steps (cd := cd196) 2 (c' := (4, [(2, 0), (0, z)], [(0, 5), (2, 0)], σ)) rfl rfl ?_
    refine TT.call (cd := cd196) rfl rfl rfl (by decide) rfl (w_deny X 5 (by decide) σ) (fun r2 σ2 hq => ?_)
    rw [hq.1, hq.2]
    exact TT.ret (cd := cd196) rfl rfl rfl rfl ⟨fun _ => ⟨rfl, ⟨_, _, _, _, _, _, _, _, _, _, _, _, IV_ref h 5 (by decide)⟩⟩, fun hh => absurd hh (by omega), fun K j hK => up2_far _ _ _ _ (by omega)⟩
theorem K_hire0_8 (X : AX) {σ ρ : AH} {b np nt ns : Nat} {L : Nat → Nat} {C : Nat → Nat → Nat} {w tp u tl oc : Nat} (h : IV σ ρ 8 b np nt ns L C w tp u tl oc) (p z : Int) (hp : ¬ (0 ≤ p ∧ p < (np : Int)))  : TT X 190 (0, [(2, 0), (0, p), (0, z)], [], σ) (fun r σ' => r = some (0, 0) ∧ EX σ' (up2 ρ 315 2 (aAdd (ρ 315 2) 1)) ∧ (∀ K j, (295 ≤ K ∨ K = 30 ∨ K = 192) → σ' K j = σ K j)) := by
  obtain ⟨⟨hl, h05, h33⟩, hL, hN, hPT, hF, hA, hTp, hO, hM, hH⟩ := id h
  obtain ⟨⟨a1, a2, a3, a4⟩, ⟨b1, b2, b3, b4, b5⟩, ⟨c1, c2, c3, c4, c5⟩, hTr, hCa, hAf, hPr, hDi⟩ := id hL
  obtain ⟨hPb, ⟨y1, y2, y3⟩, hhi, hPp⟩ := id hPT
  refine TT.steps (cd := cd190) 2 (c' := (2, [(2, 0), (0, p), (0, z)], [(0, p), (2, 0)], σ)) rfl rfl ?_
  refine TT.call (cd := cd190) rfl rfl rfl (by decide) rfl (w_isPerson X p σ) (fun r1 σ1 hq => ?_)
  rw [hq.1, hq.2, hPb.1, if_neg hp]
  refine TT.steps (cd := cd190) 3 (c' := (24, [(2, 0), (0, p), (0, z)], [(0, 2), (2, 0)], σ)) rfl rfl ?_
  refine TT.call (cd := cd190) rfl rfl rfl (by decide) rfl (w_deny X 2 (by decide) σ) (fun r2 σ2 hq => ?_)
  rw [hq.1, hq.2]
  exact TT.ret (cd := cd190) rfl rfl rfl rfl (⟨rfl, ⟨_, _, _, _, _, _, _, _, _, _, _, _, IV_ref h 2 (by decide)⟩, fun K j hK => up2_far _ _ _ _ (by omega)⟩)
theorem K_hire0_170 (X : AX) {σ ρ : AH} {b np nt ns : Nat} {L : Nat → Nat} {C : Nat → Nat → Nat} {w tp u tl oc : Nat} (h : IV σ ρ 170 b np nt ns L C w tp u tl oc) (p z : Int) (hp : ¬ (0 ≤ p ∧ p < (np : Int)))  : TT X 190 (0, [(2, 0), (0, p), (0, z)], [], σ) (fun r σ' => r = some (0, 0) ∧ EX σ' (up2 ρ 315 2 (aAdd (ρ 315 2) 1)) ∧ (∀ K j, (295 ≤ K ∨ K = 30 ∨ K = 192) → σ' K j = σ K j)) := by
  obtain ⟨⟨hl, h05, h33⟩, hL, hN, hPT, hF, hA, hTp, hO, hM, hH⟩ := id h
  obtain ⟨⟨a1, a2, a3, a4⟩, ⟨b1, b2, b3, b4, b5⟩, ⟨c1, c2, c3, c4, c5⟩, hTr, hCa, hAf, hPr, hDi⟩ := id hL
  obtain ⟨hPb, ⟨y1, y2, y3⟩, hhi, hPp⟩ := id hPT
  refine TT.steps (cd := cd190) 2 (c' := (2, [(2, 0), (0, p), (0, z)], [(0, p), (2, 0)], σ)) rfl rfl ?_
  refine TT.call (cd := cd190) rfl rfl rfl (by decide) rfl (w_isPerson X p σ) (fun r1 σ1 hq => ?_)
  rw [hq.1, hq.2, hPb.1, if_neg hp]
  refine TT.steps (cd := cd190) 3 (c' := (24, [(2, 0), (0, p), (0, z)], [(0, 2), (2, 0)], σ)) rfl rfl ?_
  refine TT.call (cd := cd190) rfl rfl rfl (by decide) rfl (w_deny X 2 (by decide) σ) (fun r2 σ2 hq => ?_)
  rw [hq.1, hq.2]
  exact TT.ret (cd := cd190) rfl rfl rfl rfl (⟨rfl, ⟨_, _, _, _, _, _, _, _, _, _, _, _, IV_ref h 2 (by decide)⟩, fun K j hK => up2_far _ _ _ _ (by omega)⟩)
theorem K_hire0 (X : AX) {l : Nat} {σ ρ : AH} {b np nt ns : Nat} {L : Nat → Nat} {C : Nat → Nat → Nat} {w tp u tl oc : Nat} (h : IV σ ρ l b np nt ns L C w tp u tl oc) (p z : Int) (hp : ¬ (0 ≤ p ∧ p < (np : Int)))  : TT X 190 (0, [(2, 0), (0, p), (0, z)], [], σ) (fun r σ' => r = some (0, 0) ∧ EX σ' (up2 ρ 315 2 (aAdd (ρ 315 2) 1)) ∧ (∀ K j, (295 ≤ K ∨ K = 30 ∨ K = 192) → σ' K j = σ K j)) := by
  rcases h.1.1 with rfl | rfl
  · exact K_hire0_8 X h p z hp
  · exact K_hire0_170 X h p z hp
theorem K_hire1_8 (X : AX) {σ ρ : AH} {b np nt ns : Nat} {L : Nat → Nat} {C : Nat → Nat → Nat} {w tp u tl oc : Nat} (h : IV σ ρ 8 b np nt ns L C w tp u tl oc) (p : Nat) (z : Int) (hz : z = 0 ∨ z = 1) (hp : p < np)  : TT X 190 (0, [(2, 0), (0, ((p : Nat) : Int)), (0, z)], [], σ) (fun r σ' => ((ρ 314 (10 * b + p) = 0 ∨ (ρ 322 p = 1 ∧ z = 1) ∨ (¬ ρ 322 p = 1 ∧ z = 0)) → r = some (0, 0) ∧ EX σ' (up2 ρ 315 2 (aAdd (ρ 315 2) 1))) ∧ (¬ (ρ 314 (10 * b + p) = 0 ∨ (ρ 322 p = 1 ∧ z = 1) ∨ (¬ ρ 322 p = 1 ∧ z = 0)) → r = some (0, 1) ∧ EX σ' (up2 (mKeep ρ u w) 322 p z)) ∧ (∀ K j, (295 ≤ K ∨ K = 30 ∨ K = 192) → σ' K j = σ K j)) := by
  obtain ⟨⟨hl, h05, h33⟩, hL, hN, hPT, hF, hA, hTp, hO, hM, hH⟩ := id h
  obtain ⟨⟨a1, a2, a3, a4⟩, ⟨b1, b2, b3, b4, b5⟩, ⟨c1, c2, c3, c4, c5⟩, hTr, hCa, hAf, hPr, hDi⟩ := id hL
  obtain ⟨hPb, ⟨y1, y2, y3⟩, hhi, hPp⟩ := id hPT
  refine TT.steps (cd := cd190) 2 (c' := (2, [(2, 0), (0, ((p : Nat) : Int)), (0, z)], [(0, ((p : Nat) : Int)), (2, 0)], σ)) rfl rfl ?_
  refine TT.call (cd := cd190) rfl rfl rfl (by decide) rfl (w_isPerson X ((p : Nat) : Int) σ) (fun r1 σ1 hq => ?_)
  rw [hq.1, hq.2, hPb.1, if_pos ⟨by omega, by omega⟩]
  refine TT.steps (cd := cd190) 3 (c' := (6, [(2, 0), (0, ((p : Nat) : Int)), (0, z)], [(2, (σ 0 5))], σ)) rfl rfl ?_
  refine TT.top0 (z := 8) h05 ?_
  refine TT.steps (cd := cd190) 2 (c' := (8, [(2, 0), (0, ((p : Nat) : Int)), (0, z)], [(0, ((p : Nat) : Int)), (2, 12)], σ)) rfl rfl ?_
  refine TT.aldN (cd := cd190) (12) (p) rfl rfl rfl rfl (show p < 10 by omega) ?_
  refine TT.top0 (z := (ρ 314 (10 * b + p))) (hPr p hp).1 ?_
  refine TT.steps (cd := cd190) 1 (c' := ((if decide ((ρ 314 (10 * b + p)) = 0) = true then 22 else 10), [(2, 0), (0, ((p : Nat) : Int)), (0, z)], [], σ)) rfl rfl ?_
  refine TT.br (p := (ρ 314 (10 * b + p)) = 0) (fun h2 => ?_) (fun h2 => ?_)
  · refine TT.steps (cd := cd190) 2 (c' := (24, [(2, 0), (0, ((p : Nat) : Int)), (0, z)], [(0, 2), (2, 0)], σ)) rfl rfl ?_
    refine TT.call (cd := cd190) rfl rfl rfl (by decide) rfl (w_deny X 2 (by decide) σ) (fun r3 σ3 hq => ?_)
    rw [hq.1, hq.2]
    exact TT.ret (cd := cd190) rfl rfl rfl rfl ⟨fun _ => ⟨rfl, ⟨_, _, _, _, _, _, _, _, _, _, _, _, IV_ref h 2 (by decide)⟩⟩, fun hh => absurd (by first | exact Or.inl (by assumption) | (right; omega)) hh, fun K j hK => up2_far _ _ _ _ (by omega)⟩
  · refine TT.steps (cd := cd190) 4 (c' := (14, [(2, 0), (0, ((p : Nat) : Int)), (0, z)], [(0, (σ 36 2)), (0, z)], σ)) rfl rfl ?_
    refine TT.top0 (z := ((bs (zH ρ 0) np : Nat) : Int)) hhi ?_
    refine TT.steps (cd := cd190) 1 (c' := (15, [(2, 0), (0, ((p : Nat) : Int)), (0, z)], [(0, ((p : Nat) : Int)), (0, ((bs (zH ρ 0) np : Nat) : Int)), (0, z)], σ)) rfl rfl ?_
    refine TT.call (cd := cd190) rfl rfl rfl (by decide) rfl (u_bit X ((bs (zH ρ 0) np : Nat) : Int) ((p : Nat) : Int) σ) (fun r4 σ4 hq => ?_)
    rw [hq.1, hq.2, bs_bitI _ (by omega) hp]
    rw [show (if zH ρ 0 p = true then (1 : Int) else 0) = (if ρ 322 p = 1 then 1 else 0) by simp [zH]]
    refine TT.steps (cd := cd190) 2 (c' := ((if decide (¬ ((if ρ 322 p = 1 then 1 else 0) : Int) = 1) = true then 20 else 18), [(2, 0), (0, ((p : Nat) : Int)), (0, z)], [(0, z)], σ)) rfl rfl ?_
    refine TT.br (p := ¬ ((if ρ 322 p = 1 then 1 else 0) : Int) = 1) (fun h5 => ?_) (fun h5 => ?_)
    · replace h5 := ite1_f h5
      refine TT.steps (cd := cd190) 2 (c' := ((if decide (¬ z = 0) = true then 26 else 22), [(2, 0), (0, ((p : Nat) : Int)), (0, z)], [], σ)) rfl rfl ?_
      refine TT.br (p := ¬ z = 0) (fun h6 => ?_) (fun h6 => ?_)
      · refine TT.steps (cd := cd190) 1 (c' := (27, [(2, 0), (0, ((p : Nat) : Int)), (0, z)], [(2, 0)], σ)) rfl rfl ?_
        refine TT.call (cd := cd190) rfl rfl rfl (by decide) rfl (w_beginAct X h) (fun r7 σ7 hq => ?_)
        obtain ⟨rfl, hIV, hB2, hB3⟩ := hq
        refine TT.steps (cd := cd190) 4 (c' := (32, [(2, 0), (0, ((p : Nat) : Int)), (0, z)], [(0, (σ7 36 2)), (2, 36)], σ7)) rfl rfl ?_
        refine TT.top0 (z := ((bs (zH ρ 0) np : Nat) : Int)) ((hB3 36 (2) (by omega)).trans hhi) ?_
        refine TT.steps (cd := cd190) 3 (c' := (35, [(2, 0), (0, ((p : Nat) : Int)), (0, z)], [(0, (aShl 1 ((p : Nat) : Int))), (0, ((bs (zH ρ 0) np : Nat) : Int)), (2, 36)], σ7)) rfl rfl ?_
        refine TT.top0 (z := ((bs (fun q => decide (q = p)) np : Nat) : Int)) (bs_shl (n := np) (p := p) (by omega) (by omega)) ?_
        refine TT.steps (cd := cd190) 1 (c' := (36, [(2, 0), (0, ((p : Nat) : Int)), (0, z)], [(0, (aXor ((bs (zH ρ 0) np : Nat) : Int) ((bs (fun q => decide (q = p)) np : Nat) : Int))), (2, 36)], σ7)) rfl rfl ?_
        refine TT.top0 (z := ((bs (fun q => zH ρ 0 q ^^ decide (q = p)) np : Nat) : Int)) (bs_xor _ _ (by omega)) ?_
        refine TT.steps (cd := cd190) 2 (c' := (38, [(2, 0), (0, ((p : Nat) : Int)), (0, z)], [(0, 1)], (up2 σ7 36 2 ((bs (fun q => zH ρ 0 q ^^ decide (q = p)) np : Nat) : Int)))) rfl rfl ?_
        refine TT.ret (cd := cd190) rfl rfl rfl rfl ⟨fun hh => absurd hh (by first | omega | (rintro (g | g) <;> first | contradiction | omega)), fun _ => ⟨rfl, ⟨_, _, _, _, _, _, _, _, _, _, _, _, IV_n hIV (fun K j hK hj => up2_nq _ (by omega)) hB2 ?_ ?_ ?_⟩⟩, fun K j hK => by rw [up2_far _ _ _ _ (by omega)]; exact hB3 K j (by omega)⟩
        · exact ⟨fun K j hK => up2_far _ _ _ _ (by omega), fun j hj => up2_far _ _ _ _ (by omega), fun j hj => up2_far _ _ _ _ (by omega), fun K j hK hj => up2_nq _ (by omega)⟩
        · refine PT_1 (p0 := p) c1 hIV.2.2.2.1 (fun K j hK h1 h2 => up2_nq _ (by omega)) (fun K j hK h1 => up2_nq _ (by omega)) (up2_far _ _ _ _ (by decide)) ?_ (fun _ => ?_)
          · rw [up2_hit]
            refine congrArg (fun x : Nat => (x : Int)) (bs_c (fun q hq3 => ?_))
            have eK : mKeep ρ u w 322 q = ρ 322 q := by rw [(mKeep_f ρ u w hA.2.1.1).2.2.2 _ _ (by omega), (cpN_o ρ _ 0).2 _ _ (by omega) (by omega)]
            show (decide (ρ 322 (10 * 0 + q) = 1) ^^ decide (q = p)) = decide (up2 (mKeep ρ u w) 322 p z 322 (10 * 0 + q) = 1)
            rw [show 10 * 0 + q = q by omega]
            by_cases e : q = p
            · subst e; rw [up2_hit, decide_eq_true (show q = q from rfl)]; rcases hz with hz | hz <;> subst hz <;> by_cases g : ρ 322 q = 1 <;> simp_all
            · rw [up2_by _ _ _ e, eK, decide_eq_false e]; simp
          · obtain ⟨⟨-, g2⟩, -, -, g3⟩ := id hIV.2.2.2.1
            have g2p := g2 p hp
            have g3p := g3 p hp
            rw [show 10 * 0 + p = p by omega] at g2p g3p
            rw [up2_far _ _ _ _ (by decide), up2_far _ _ _ _ (by decide), up2_far _ _ _ _ (by decide), up2_far _ _ _ _ (by decide), up2_far _ _ _ _ (by decide), up2_far _ _ _ _ (by decide), up2_far _ _ _ _ (by decide), up2_far _ _ _ _ (by decide), up2_hit]
            exact ⟨g2p.1, g2p.2.1, g2p.2.2.1, g2p.2.2.2, g3p.2.2.2.1, hz⟩
        · rw [up2_far _ _ _ _ (by decide), up2_far _ _ _ _ (by decide)]; exact hIV.2.2.2.2.2.2.2.2.1.1
      · refine TT.steps (cd := cd190) 2 (c' := (24, [(2, 0), (0, ((p : Nat) : Int)), (0, z)], [(0, 2), (2, 0)], σ)) rfl rfl ?_
        refine TT.call (cd := cd190) rfl rfl rfl (by decide) rfl (w_deny X 2 (by decide) σ) (fun r8 σ8 hq => ?_)
        rw [hq.1, hq.2]
        exact TT.ret (cd := cd190) rfl rfl rfl rfl ⟨fun _ => ⟨rfl, ⟨_, _, _, _, _, _, _, _, _, _, _, _, IV_ref h 2 (by decide)⟩⟩, fun hh => absurd (by first | exact Or.inl (by assumption) | (right; omega)) hh, fun K j hK => up2_far _ _ _ _ (by omega)⟩
    · replace h5 := ite1_t (Decidable.not_not.mp h5)
      refine TT.steps (cd := cd190) 3 (c' := ((if decide (¬ z = 1) = true then 26 else 22), [(2, 0), (0, ((p : Nat) : Int)), (0, z)], [], σ)) rfl rfl ?_
      refine TT.br (p := ¬ z = 1) (fun h9 => ?_) (fun h9 => ?_)
      · refine TT.steps (cd := cd190) 1 (c' := (27, [(2, 0), (0, ((p : Nat) : Int)), (0, z)], [(2, 0)], σ)) rfl rfl ?_
        refine TT.call (cd := cd190) rfl rfl rfl (by decide) rfl (w_beginAct X h) (fun r10 σ10 hq => ?_)
        obtain ⟨rfl, hIV, hB2, hB3⟩ := hq
        refine TT.steps (cd := cd190) 4 (c' := (32, [(2, 0), (0, ((p : Nat) : Int)), (0, z)], [(0, (σ10 36 2)), (2, 36)], σ10)) rfl rfl ?_
        refine TT.top0 (z := ((bs (zH ρ 0) np : Nat) : Int)) ((hB3 36 (2) (by omega)).trans hhi) ?_
        refine TT.steps (cd := cd190) 3 (c' := (35, [(2, 0), (0, ((p : Nat) : Int)), (0, z)], [(0, (aShl 1 ((p : Nat) : Int))), (0, ((bs (zH ρ 0) np : Nat) : Int)), (2, 36)], σ10)) rfl rfl ?_
        refine TT.top0 (z := ((bs (fun q => decide (q = p)) np : Nat) : Int)) (bs_shl (n := np) (p := p) (by omega) (by omega)) ?_
        refine TT.steps (cd := cd190) 1 (c' := (36, [(2, 0), (0, ((p : Nat) : Int)), (0, z)], [(0, (aXor ((bs (zH ρ 0) np : Nat) : Int) ((bs (fun q => decide (q = p)) np : Nat) : Int))), (2, 36)], σ10)) rfl rfl ?_
        refine TT.top0 (z := ((bs (fun q => zH ρ 0 q ^^ decide (q = p)) np : Nat) : Int)) (bs_xor _ _ (by omega)) ?_
        refine TT.steps (cd := cd190) 2 (c' := (38, [(2, 0), (0, ((p : Nat) : Int)), (0, z)], [(0, 1)], (up2 σ10 36 2 ((bs (fun q => zH ρ 0 q ^^ decide (q = p)) np : Nat) : Int)))) rfl rfl ?_
        refine TT.ret (cd := cd190) rfl rfl rfl rfl ⟨fun hh => absurd hh (by first | omega | (rintro (g | g) <;> first | contradiction | omega)), fun _ => ⟨rfl, ⟨_, _, _, _, _, _, _, _, _, _, _, _, IV_n hIV (fun K j hK hj => up2_nq _ (by omega)) hB2 ?_ ?_ ?_⟩⟩, fun K j hK => by rw [up2_far _ _ _ _ (by omega)]; exact hB3 K j (by omega)⟩
        · exact ⟨fun K j hK => up2_far _ _ _ _ (by omega), fun j hj => up2_far _ _ _ _ (by omega), fun j hj => up2_far _ _ _ _ (by omega), fun K j hK hj => up2_nq _ (by omega)⟩
        · refine PT_1 (p0 := p) c1 hIV.2.2.2.1 (fun K j hK h1 h2 => up2_nq _ (by omega)) (fun K j hK h1 => up2_nq _ (by omega)) (up2_far _ _ _ _ (by decide)) ?_ (fun _ => ?_)
          · rw [up2_hit]
            refine congrArg (fun x : Nat => (x : Int)) (bs_c (fun q hq3 => ?_))
            have eK : mKeep ρ u w 322 q = ρ 322 q := by rw [(mKeep_f ρ u w hA.2.1.1).2.2.2 _ _ (by omega), (cpN_o ρ _ 0).2 _ _ (by omega) (by omega)]
            show (decide (ρ 322 (10 * 0 + q) = 1) ^^ decide (q = p)) = decide (up2 (mKeep ρ u w) 322 p z 322 (10 * 0 + q) = 1)
            rw [show 10 * 0 + q = q by omega]
            by_cases e : q = p
            · subst e; rw [up2_hit, decide_eq_true (show q = q from rfl)]; rcases hz with hz | hz <;> subst hz <;> by_cases g : ρ 322 q = 1 <;> simp_all
            · rw [up2_by _ _ _ e, eK, decide_eq_false e]; simp
          · obtain ⟨⟨-, g2⟩, -, -, g3⟩ := id hIV.2.2.2.1
            have g2p := g2 p hp
            have g3p := g3 p hp
            rw [show 10 * 0 + p = p by omega] at g2p g3p
            rw [up2_far _ _ _ _ (by decide), up2_far _ _ _ _ (by decide), up2_far _ _ _ _ (by decide), up2_far _ _ _ _ (by decide), up2_far _ _ _ _ (by decide), up2_far _ _ _ _ (by decide), up2_far _ _ _ _ (by decide), up2_far _ _ _ _ (by decide), up2_hit]
            exact ⟨g2p.1, g2p.2.1, g2p.2.2.1, g2p.2.2.2, g3p.2.2.2.1, hz⟩
        · rw [up2_far _ _ _ _ (by decide), up2_far _ _ _ _ (by decide)]; exact hIV.2.2.2.2.2.2.2.2.1.1
      · refine TT.steps (cd := cd190) 2 (c' := (24, [(2, 0), (0, ((p : Nat) : Int)), (0, z)], [(0, 2), (2, 0)], σ)) rfl rfl ?_
        refine TT.call (cd := cd190) rfl rfl rfl (by decide) rfl (w_deny X 2 (by decide) σ) (fun r11 σ11 hq => ?_)
        rw [hq.1, hq.2]
        exact TT.ret (cd := cd190) rfl rfl rfl rfl ⟨fun _ => ⟨rfl, ⟨_, _, _, _, _, _, _, _, _, _, _, _, IV_ref h 2 (by decide)⟩⟩, fun hh => absurd (by first | exact Or.inl (by assumption) | (right; omega)) hh, fun K j hK => up2_far _ _ _ _ (by omega)⟩
theorem K_hire1_170 (X : AX) {σ ρ : AH} {b np nt ns : Nat} {L : Nat → Nat} {C : Nat → Nat → Nat} {w tp u tl oc : Nat} (h : IV σ ρ 170 b np nt ns L C w tp u tl oc) (p : Nat) (z : Int) (hz : z = 0 ∨ z = 1) (hp : p < np)  : TT X 190 (0, [(2, 0), (0, ((p : Nat) : Int)), (0, z)], [], σ) (fun r σ' => ((ρ 314 (10 * b + p) = 0 ∨ (ρ 322 p = 1 ∧ z = 1) ∨ (¬ ρ 322 p = 1 ∧ z = 0)) → r = some (0, 0) ∧ EX σ' (up2 ρ 315 2 (aAdd (ρ 315 2) 1))) ∧ (¬ (ρ 314 (10 * b + p) = 0 ∨ (ρ 322 p = 1 ∧ z = 1) ∨ (¬ ρ 322 p = 1 ∧ z = 0)) → r = some (0, 1) ∧ EX σ' (up2 (mKeep ρ u w) 322 p z)) ∧ (∀ K j, (295 ≤ K ∨ K = 30 ∨ K = 192) → σ' K j = σ K j)) := by
  obtain ⟨⟨hl, h05, h33⟩, hL, hN, hPT, hF, hA, hTp, hO, hM, hH⟩ := id h
  obtain ⟨⟨a1, a2, a3, a4⟩, ⟨b1, b2, b3, b4, b5⟩, ⟨c1, c2, c3, c4, c5⟩, hTr, hCa, hAf, hPr, hDi⟩ := id hL
  obtain ⟨hPb, ⟨y1, y2, y3⟩, hhi, hPp⟩ := id hPT
  refine TT.steps (cd := cd190) 2 (c' := (2, [(2, 0), (0, ((p : Nat) : Int)), (0, z)], [(0, ((p : Nat) : Int)), (2, 0)], σ)) rfl rfl ?_
  refine TT.call (cd := cd190) rfl rfl rfl (by decide) rfl (w_isPerson X ((p : Nat) : Int) σ) (fun r1 σ1 hq => ?_)
  rw [hq.1, hq.2, hPb.1, if_pos ⟨by omega, by omega⟩]
  refine TT.steps (cd := cd190) 3 (c' := (6, [(2, 0), (0, ((p : Nat) : Int)), (0, z)], [(2, (σ 0 5))], σ)) rfl rfl ?_
  refine TT.top0 (z := 170) h05 ?_
  refine TT.steps (cd := cd190) 2 (c' := (8, [(2, 0), (0, ((p : Nat) : Int)), (0, z)], [(0, ((p : Nat) : Int)), (2, 174)], σ)) rfl rfl ?_
  refine TT.aldN (cd := cd190) (174) (p) rfl rfl rfl rfl (show p < 10 by omega) ?_
  refine TT.top0 (z := (ρ 314 (10 * b + p))) (hPr p hp).1 ?_
  refine TT.steps (cd := cd190) 1 (c' := ((if decide ((ρ 314 (10 * b + p)) = 0) = true then 22 else 10), [(2, 0), (0, ((p : Nat) : Int)), (0, z)], [], σ)) rfl rfl ?_
  refine TT.br (p := (ρ 314 (10 * b + p)) = 0) (fun h2 => ?_) (fun h2 => ?_)
  · refine TT.steps (cd := cd190) 2 (c' := (24, [(2, 0), (0, ((p : Nat) : Int)), (0, z)], [(0, 2), (2, 0)], σ)) rfl rfl ?_
    refine TT.call (cd := cd190) rfl rfl rfl (by decide) rfl (w_deny X 2 (by decide) σ) (fun r3 σ3 hq => ?_)
    rw [hq.1, hq.2]
    exact TT.ret (cd := cd190) rfl rfl rfl rfl ⟨fun _ => ⟨rfl, ⟨_, _, _, _, _, _, _, _, _, _, _, _, IV_ref h 2 (by decide)⟩⟩, fun hh => absurd (by first | exact Or.inl (by assumption) | (right; omega)) hh, fun K j hK => up2_far _ _ _ _ (by omega)⟩
  · refine TT.steps (cd := cd190) 4 (c' := (14, [(2, 0), (0, ((p : Nat) : Int)), (0, z)], [(0, (σ 36 2)), (0, z)], σ)) rfl rfl ?_
    refine TT.top0 (z := ((bs (zH ρ 0) np : Nat) : Int)) hhi ?_
    refine TT.steps (cd := cd190) 1 (c' := (15, [(2, 0), (0, ((p : Nat) : Int)), (0, z)], [(0, ((p : Nat) : Int)), (0, ((bs (zH ρ 0) np : Nat) : Int)), (0, z)], σ)) rfl rfl ?_
    refine TT.call (cd := cd190) rfl rfl rfl (by decide) rfl (u_bit X ((bs (zH ρ 0) np : Nat) : Int) ((p : Nat) : Int) σ) (fun r4 σ4 hq => ?_)
    rw [hq.1, hq.2, bs_bitI _ (by omega) hp]
    rw [show (if zH ρ 0 p = true then (1 : Int) else 0) = (if ρ 322 p = 1 then 1 else 0) by simp [zH]]
    refine TT.steps (cd := cd190) 2 (c' := ((if decide (¬ ((if ρ 322 p = 1 then 1 else 0) : Int) = 1) = true then 20 else 18), [(2, 0), (0, ((p : Nat) : Int)), (0, z)], [(0, z)], σ)) rfl rfl ?_
    refine TT.br (p := ¬ ((if ρ 322 p = 1 then 1 else 0) : Int) = 1) (fun h5 => ?_) (fun h5 => ?_)
    · replace h5 := ite1_f h5
      refine TT.steps (cd := cd190) 2 (c' := ((if decide (¬ z = 0) = true then 26 else 22), [(2, 0), (0, ((p : Nat) : Int)), (0, z)], [], σ)) rfl rfl ?_
      refine TT.br (p := ¬ z = 0) (fun h6 => ?_) (fun h6 => ?_)
      · refine TT.steps (cd := cd190) 1 (c' := (27, [(2, 0), (0, ((p : Nat) : Int)), (0, z)], [(2, 0)], σ)) rfl rfl ?_
        refine TT.call (cd := cd190) rfl rfl rfl (by decide) rfl (w_beginAct X h) (fun r7 σ7 hq => ?_)
        obtain ⟨rfl, hIV, hB2, hB3⟩ := hq
        refine TT.steps (cd := cd190) 4 (c' := (32, [(2, 0), (0, ((p : Nat) : Int)), (0, z)], [(0, (σ7 36 2)), (2, 36)], σ7)) rfl rfl ?_
        refine TT.top0 (z := ((bs (zH ρ 0) np : Nat) : Int)) ((hB3 36 (2) (by omega)).trans hhi) ?_
        refine TT.steps (cd := cd190) 3 (c' := (35, [(2, 0), (0, ((p : Nat) : Int)), (0, z)], [(0, (aShl 1 ((p : Nat) : Int))), (0, ((bs (zH ρ 0) np : Nat) : Int)), (2, 36)], σ7)) rfl rfl ?_
        refine TT.top0 (z := ((bs (fun q => decide (q = p)) np : Nat) : Int)) (bs_shl (n := np) (p := p) (by omega) (by omega)) ?_
        refine TT.steps (cd := cd190) 1 (c' := (36, [(2, 0), (0, ((p : Nat) : Int)), (0, z)], [(0, (aXor ((bs (zH ρ 0) np : Nat) : Int) ((bs (fun q => decide (q = p)) np : Nat) : Int))), (2, 36)], σ7)) rfl rfl ?_
        refine TT.top0 (z := ((bs (fun q => zH ρ 0 q ^^ decide (q = p)) np : Nat) : Int)) (bs_xor _ _ (by omega)) ?_
        refine TT.steps (cd := cd190) 2 (c' := (38, [(2, 0), (0, ((p : Nat) : Int)), (0, z)], [(0, 1)], (up2 σ7 36 2 ((bs (fun q => zH ρ 0 q ^^ decide (q = p)) np : Nat) : Int)))) rfl rfl ?_
        refine TT.ret (cd := cd190) rfl rfl rfl rfl ⟨fun hh => absurd hh (by first | omega | (rintro (g | g) <;> first | contradiction | omega)), fun _ => ⟨rfl, ⟨_, _, _, _, _, _, _, _, _, _, _, _, IV_n hIV (fun K j hK hj => up2_nq _ (by omega)) hB2 ?_ ?_ ?_⟩⟩, fun K j hK => by rw [up2_far _ _ _ _ (by omega)]; exact hB3 K j (by omega)⟩
        · exact ⟨fun K j hK => up2_far _ _ _ _ (by omega), fun j hj => up2_far _ _ _ _ (by omega), fun j hj => up2_far _ _ _ _ (by omega), fun K j hK hj => up2_nq _ (by omega)⟩
        · refine PT_1 (p0 := p) c1 hIV.2.2.2.1 (fun K j hK h1 h2 => up2_nq _ (by omega)) (fun K j hK h1 => up2_nq _ (by omega)) (up2_far _ _ _ _ (by decide)) ?_ (fun _ => ?_)
          · rw [up2_hit]
            refine congrArg (fun x : Nat => (x : Int)) (bs_c (fun q hq3 => ?_))
            have eK : mKeep ρ u w 322 q = ρ 322 q := by rw [(mKeep_f ρ u w hA.2.1.1).2.2.2 _ _ (by omega), (cpN_o ρ _ 0).2 _ _ (by omega) (by omega)]
            show (decide (ρ 322 (10 * 0 + q) = 1) ^^ decide (q = p)) = decide (up2 (mKeep ρ u w) 322 p z 322 (10 * 0 + q) = 1)
            rw [show 10 * 0 + q = q by omega]
            by_cases e : q = p
            · subst e; rw [up2_hit, decide_eq_true (show q = q from rfl)]; rcases hz with hz | hz <;> subst hz <;> by_cases g : ρ 322 q = 1 <;> simp_all
            · rw [up2_by _ _ _ e, eK, decide_eq_false e]; simp
          · obtain ⟨⟨-, g2⟩, -, -, g3⟩ := id hIV.2.2.2.1
            have g2p := g2 p hp
            have g3p := g3 p hp
            rw [show 10 * 0 + p = p by omega] at g2p g3p
            rw [up2_far _ _ _ _ (by decide), up2_far _ _ _ _ (by decide), up2_far _ _ _ _ (by decide), up2_far _ _ _ _ (by decide), up2_far _ _ _ _ (by decide), up2_far _ _ _ _ (by decide), up2_far _ _ _ _ (by decide), up2_far _ _ _ _ (by decide), up2_hit]
            exact ⟨g2p.1, g2p.2.1, g2p.2.2.1, g2p.2.2.2, g3p.2.2.2.1, hz⟩
        · rw [up2_far _ _ _ _ (by decide), up2_far _ _ _ _ (by decide)]; exact hIV.2.2.2.2.2.2.2.2.1.1
      · refine TT.steps (cd := cd190) 2 (c' := (24, [(2, 0), (0, ((p : Nat) : Int)), (0, z)], [(0, 2), (2, 0)], σ)) rfl rfl ?_
        refine TT.call (cd := cd190) rfl rfl rfl (by decide) rfl (w_deny X 2 (by decide) σ) (fun r8 σ8 hq => ?_)
        rw [hq.1, hq.2]
        exact TT.ret (cd := cd190) rfl rfl rfl rfl ⟨fun _ => ⟨rfl, ⟨_, _, _, _, _, _, _, _, _, _, _, _, IV_ref h 2 (by decide)⟩⟩, fun hh => absurd (by first | exact Or.inl (by assumption) | (right; omega)) hh, fun K j hK => up2_far _ _ _ _ (by omega)⟩
    · replace h5 := ite1_t (Decidable.not_not.mp h5)
      refine TT.steps (cd := cd190) 3 (c' := ((if decide (¬ z = 1) = true then 26 else 22), [(2, 0), (0, ((p : Nat) : Int)), (0, z)], [], σ)) rfl rfl ?_
      refine TT.br (p := ¬ z = 1) (fun h9 => ?_) (fun h9 => ?_)
      · refine TT.steps (cd := cd190) 1 (c' := (27, [(2, 0), (0, ((p : Nat) : Int)), (0, z)], [(2, 0)], σ)) rfl rfl ?_
        refine TT.call (cd := cd190) rfl rfl rfl (by decide) rfl (w_beginAct X h) (fun r10 σ10 hq => ?_)
        obtain ⟨rfl, hIV, hB2, hB3⟩ := hq
        refine TT.steps (cd := cd190) 4 (c' := (32, [(2, 0), (0, ((p : Nat) : Int)), (0, z)], [(0, (σ10 36 2)), (2, 36)], σ10)) rfl rfl ?_
        refine TT.top0 (z := ((bs (zH ρ 0) np : Nat) : Int)) ((hB3 36 (2) (by omega)).trans hhi) ?_
        refine TT.steps (cd := cd190) 3 (c' := (35, [(2, 0), (0, ((p : Nat) : Int)), (0, z)], [(0, (aShl 1 ((p : Nat) : Int))), (0, ((bs (zH ρ 0) np : Nat) : Int)), (2, 36)], σ10)) rfl rfl ?_
        refine TT.top0 (z := ((bs (fun q => decide (q = p)) np : Nat) : Int)) (bs_shl (n := np) (p := p) (by omega) (by omega)) ?_
        refine TT.steps (cd := cd190) 1 (c' := (36, [(2, 0), (0, ((p : Nat) : Int)), (0, z)], [(0, (aXor ((bs (zH ρ 0) np : Nat) : Int) ((bs (fun q => decide (q = p)) np : Nat) : Int))), (2, 36)], σ10)) rfl rfl ?_
        refine TT.top0 (z := ((bs (fun q => zH ρ 0 q ^^ decide (q = p)) np : Nat) : Int)) (bs_xor _ _ (by omega)) ?_
        refine TT.steps (cd := cd190) 2 (c' := (38, [(2, 0), (0, ((p : Nat) : Int)), (0, z)], [(0, 1)], (up2 σ10 36 2 ((bs (fun q => zH ρ 0 q ^^ decide (q = p)) np : Nat) : Int)))) rfl rfl ?_
        refine TT.ret (cd := cd190) rfl rfl rfl rfl ⟨fun hh => absurd hh (by first | omega | (rintro (g | g) <;> first | contradiction | omega)), fun _ => ⟨rfl, ⟨_, _, _, _, _, _, _, _, _, _, _, _, IV_n hIV (fun K j hK hj => up2_nq _ (by omega)) hB2 ?_ ?_ ?_⟩⟩, fun K j hK => by rw [up2_far _ _ _ _ (by omega)]; exact hB3 K j (by omega)⟩
        · exact ⟨fun K j hK => up2_far _ _ _ _ (by omega), fun j hj => up2_far _ _ _ _ (by omega), fun j hj => up2_far _ _ _ _ (by omega), fun K j hK hj => up2_nq _ (by omega)⟩
        · refine PT_1 (p0 := p) c1 hIV.2.2.2.1 (fun K j hK h1 h2 => up2_nq _ (by omega)) (fun K j hK h1 => up2_nq _ (by omega)) (up2_far _ _ _ _ (by decide)) ?_ (fun _ => ?_)
          · rw [up2_hit]
            refine congrArg (fun x : Nat => (x : Int)) (bs_c (fun q hq3 => ?_))
            have eK : mKeep ρ u w 322 q = ρ 322 q := by rw [(mKeep_f ρ u w hA.2.1.1).2.2.2 _ _ (by omega), (cpN_o ρ _ 0).2 _ _ (by omega) (by omega)]
            show (decide (ρ 322 (10 * 0 + q) = 1) ^^ decide (q = p)) = decide (up2 (mKeep ρ u w) 322 p z 322 (10 * 0 + q) = 1)
            rw [show 10 * 0 + q = q by omega]
            by_cases e : q = p
            · subst e; rw [up2_hit, decide_eq_true (show q = q from rfl)]; rcases hz with hz | hz <;> subst hz <;> by_cases g : ρ 322 q = 1 <;> simp_all
            · rw [up2_by _ _ _ e, eK, decide_eq_false e]; simp
          · obtain ⟨⟨-, g2⟩, -, -, g3⟩ := id hIV.2.2.2.1
            have g2p := g2 p hp
            have g3p := g3 p hp
            rw [show 10 * 0 + p = p by omega] at g2p g3p
            rw [up2_far _ _ _ _ (by decide), up2_far _ _ _ _ (by decide), up2_far _ _ _ _ (by decide), up2_far _ _ _ _ (by decide), up2_far _ _ _ _ (by decide), up2_far _ _ _ _ (by decide), up2_far _ _ _ _ (by decide), up2_far _ _ _ _ (by decide), up2_hit]
            exact ⟨g2p.1, g2p.2.1, g2p.2.2.1, g2p.2.2.2, g3p.2.2.2.1, hz⟩
        · rw [up2_far _ _ _ _ (by decide), up2_far _ _ _ _ (by decide)]; exact hIV.2.2.2.2.2.2.2.2.1.1
      · refine TT.steps (cd := cd190) 2 (c' := (24, [(2, 0), (0, ((p : Nat) : Int)), (0, z)], [(0, 2), (2, 0)], σ)) rfl rfl ?_
        refine TT.call (cd := cd190) rfl rfl rfl (by decide) rfl (w_deny X 2 (by decide) σ) (fun r11 σ11 hq => ?_)
        rw [hq.1, hq.2]
        exact TT.ret (cd := cd190) rfl rfl rfl rfl ⟨fun _ => ⟨rfl, ⟨_, _, _, _, _, _, _, _, _, _, _, _, IV_ref h 2 (by decide)⟩⟩, fun hh => absurd (by first | exact Or.inl (by assumption) | (right; omega)) hh, fun K j hK => up2_far _ _ _ _ (by omega)⟩
theorem K_hire1 (X : AX) {l : Nat} {σ ρ : AH} {b np nt ns : Nat} {L : Nat → Nat} {C : Nat → Nat → Nat} {w tp u tl oc : Nat} (h : IV σ ρ l b np nt ns L C w tp u tl oc) (p : Nat) (z : Int) (hz : z = 0 ∨ z = 1) (hp : p < np)  : TT X 190 (0, [(2, 0), (0, ((p : Nat) : Int)), (0, z)], [], σ) (fun r σ' => ((ρ 314 (10 * b + p) = 0 ∨ (ρ 322 p = 1 ∧ z = 1) ∨ (¬ ρ 322 p = 1 ∧ z = 0)) → r = some (0, 0) ∧ EX σ' (up2 ρ 315 2 (aAdd (ρ 315 2) 1))) ∧ (¬ (ρ 314 (10 * b + p) = 0 ∨ (ρ 322 p = 1 ∧ z = 1) ∨ (¬ ρ 322 p = 1 ∧ z = 0)) → r = some (0, 1) ∧ EX σ' (up2 (mKeep ρ u w) 322 p z)) ∧ (∀ K j, (295 ≤ K ∨ K = 30 ∨ K = 192) → σ' K j = σ K j)) := by
  rcases h.1.1 with rfl | rfl
  · exact K_hire1_8 X h p z hz hp
  · exact K_hire1_170 X h p z hz hp
theorem K_wish0 (X : AX) {l : Nat} {σ ρ : AH} {b np nt ns : Nat} {L : Nat → Nat} {C : Nat → Nat → Nat} {w tp u tl oc : Nat} (h : IV σ ρ l b np nt ns L C w tp u tl oc) (p s : Int) (hp : ¬ (0 ≤ p ∧ p < (np : Int)))  : TT X 191 (0, [(2, 0), (0, p), (0, s)], [], σ) (fun r σ' => r = some (0, 0) ∧ EX σ' (up2 ρ 315 2 (aAdd (ρ 315 2) 1)) ∧ (∀ K j, (295 ≤ K ∨ K = 30 ∨ K = 192) → σ' K j = σ K j)) := by
  obtain ⟨⟨hl, h05, h33⟩, hL, hN, hPT, hF, hA, hTp, hO, hM, hH⟩ := id h
  obtain ⟨⟨a1, a2, a3, a4⟩, ⟨b1, b2, b3, b4, b5⟩, ⟨c1, c2, c3, c4, c5⟩, hTr, hCa, hAf, hPr, hDi⟩ := id hL
  obtain ⟨hPb, ⟨y1, y2, y3⟩, hhi, hPp⟩ := id hPT
  refine TT.steps (cd := cd191) 2 (c' := (2, [(2, 0), (0, p), (0, s)], [(0, p), (2, 0)], σ)) rfl rfl ?_
  refine TT.call (cd := cd191) rfl rfl rfl (by decide) rfl (w_isPerson X p σ) (fun r1 σ1 hq => ?_)
  rw [hq.1, hq.2, hPb.1, if_neg hp]
  refine TT.steps (cd := cd191) 3 (c' := (17, [(2, 0), (0, p), (0, s)], [(0, 2), (2, 0)], σ)) rfl rfl ?_
  refine TT.call (cd := cd191) rfl rfl rfl (by decide) rfl (w_deny X 2 (by decide) σ) (fun r2 σ2 hq => ?_)
  rw [hq.1, hq.2]
  exact TT.ret (cd := cd191) rfl rfl rfl rfl (⟨rfl, ⟨_, _, _, _, _, _, _, _, _, _, _, _, IV_ref h 2 (by decide)⟩, fun K j hK => up2_far _ _ _ _ (by omega)⟩)
theorem K_wish1 (X : AX) {l : Nat} {σ ρ : AH} {b np nt ns : Nat} {L : Nat → Nat} {C : Nat → Nat → Nat} {w tp u tl oc : Nat} (h : IV σ ρ l b np nt ns L C w tp u tl oc) (p : Nat) (s : Int) (hp : p < np) (hs : ¬ (0 ≤ s ∧ s < (ns : Int)))  : TT X 191 (0, [(2, 0), (0, ((p : Nat) : Int)), (0, s)], [], σ) (fun r σ' => r = some (0, 0) ∧ EX σ' (up2 ρ 315 2 (aAdd (ρ 315 2) 1)) ∧ (∀ K j, (295 ≤ K ∨ K = 30 ∨ K = 192) → σ' K j = σ K j)) := by
  obtain ⟨⟨hl, h05, h33⟩, hL, hN, hPT, hF, hA, hTp, hO, hM, hH⟩ := id h
  obtain ⟨⟨a1, a2, a3, a4⟩, ⟨b1, b2, b3, b4, b5⟩, ⟨c1, c2, c3, c4, c5⟩, hTr, hCa, hAf, hPr, hDi⟩ := id hL
  obtain ⟨hPb, ⟨y1, y2, y3⟩, hhi, hPp⟩ := id hPT
  refine TT.steps (cd := cd191) 2 (c' := (2, [(2, 0), (0, ((p : Nat) : Int)), (0, s)], [(0, ((p : Nat) : Int)), (2, 0)], σ)) rfl rfl ?_
  refine TT.call (cd := cd191) rfl rfl rfl (by decide) rfl (w_isPerson X ((p : Nat) : Int) σ) (fun r1 σ1 hq => ?_)
  rw [hq.1, hq.2, hPb.1, if_pos ⟨by omega, by omega⟩]
  refine TT.steps (cd := cd191) 3 (c' := (6, [(2, 0), (0, ((p : Nat) : Int)), (0, s)], [(0, s), (2, 0)], σ)) rfl rfl ?_
  refine TT.call (cd := cd191) rfl rfl rfl (by decide) rfl (w_isStation X hl s σ h05) (fun r2 σ2 hq => ?_)
  rw [hq.1, hq.2, a1, if_neg hs]
  refine TT.steps (cd := cd191) 3 (c' := (17, [(2, 0), (0, ((p : Nat) : Int)), (0, s)], [(0, 2), (2, 0)], σ)) rfl rfl ?_
  refine TT.call (cd := cd191) rfl rfl rfl (by decide) rfl (w_deny X 2 (by decide) σ) (fun r3 σ3 hq => ?_)
  rw [hq.1, hq.2]
  exact TT.ret (cd := cd191) rfl rfl rfl rfl (⟨rfl, ⟨_, _, _, _, _, _, _, _, _, _, _, _, IV_ref h 2 (by decide)⟩, fun K j hK => up2_far _ _ _ _ (by omega)⟩)
theorem K_wish2 (X : AX) {l : Nat} {σ ρ : AH} {b np nt ns : Nat} {L : Nat → Nat} {C : Nat → Nat → Nat} {w tp u tl oc : Nat} (h : IV σ ρ l b np nt ns L C w tp u tl oc) (p : Nat) (s : Int) (hp : p < np) (hs : 0 ≤ s ∧ s < (ns : Int))  : TT X 191 (0, [(2, 0), (0, ((p : Nat) : Int)), (0, s)], [], σ) (fun r σ' => ((ρ 321 p = s) → r = some (0, 0) ∧ EX σ' (up2 ρ 315 2 (aAdd (ρ 315 2) 1))) ∧ (¬ (ρ 321 p = s) → r = some (0, 1) ∧ EX σ' (up2 (mKeep ρ u w) 321 p s)) ∧ (∀ K j, (295 ≤ K ∨ K = 30 ∨ K = 192) → σ' K j = σ K j)) := by
  obtain ⟨⟨hl, h05, h33⟩, hL, hN, hPT, hF, hA, hTp, hO, hM, hH⟩ := id h
  obtain ⟨⟨a1, a2, a3, a4⟩, ⟨b1, b2, b3, b4, b5⟩, ⟨c1, c2, c3, c4, c5⟩, hTr, hCa, hAf, hPr, hDi⟩ := id hL
  obtain ⟨hPb, ⟨y1, y2, y3⟩, hhi, hPp⟩ := id hPT
  have hwp : σ 41 p = ρ 321 p := by obtain ⟨s1, -, e1, e2⟩ := (hPb.2 p hp).2.2.2; rw [show 10 * 0 + p = p by omega] at e2; rw [e1, e2]
  refine TT.steps (cd := cd191) 2 (c' := (2, [(2, 0), (0, ((p : Nat) : Int)), (0, s)], [(0, ((p : Nat) : Int)), (2, 0)], σ)) rfl rfl ?_
  refine TT.call (cd := cd191) rfl rfl rfl (by decide) rfl (w_isPerson X ((p : Nat) : Int) σ) (fun r1 σ1 hq => ?_)
  rw [hq.1, hq.2, hPb.1, if_pos ⟨by omega, by omega⟩]
  refine TT.steps (cd := cd191) 3 (c' := (6, [(2, 0), (0, ((p : Nat) : Int)), (0, s)], [(0, s), (2, 0)], σ)) rfl rfl ?_
  refine TT.call (cd := cd191) rfl rfl rfl (by decide) rfl (w_isStation X hl s σ h05) (fun r2 σ2 hq => ?_)
  rw [hq.1, hq.2, a1, if_pos hs]
  refine TT.steps (cd := cd191) 5 (c' := (12, [(2, 0), (0, ((p : Nat) : Int)), (0, s)], [(0, ((p : Nat) : Int)), (2, 41)], σ)) rfl rfl ?_
  refine TT.aldN (cd := cd191) (41) (p) rfl rfl rfl rfl (show p < 10 by omega) ?_
  refine TT.top0 (z := (ρ 321 p)) hwp ?_
  refine TT.steps (cd := cd191) 2 (c' := ((if decide (¬ (ρ 321 p) = s) = true then 19 else 15), [(2, 0), (0, ((p : Nat) : Int)), (0, s)], [], σ)) rfl rfl ?_
  refine TT.br (p := ¬ (ρ 321 p) = s) (fun h3 => ?_) (fun h3 => ?_)
  · refine TT.steps (cd := cd191) 1 (c' := (20, [(2, 0), (0, ((p : Nat) : Int)), (0, s)], [(2, 0)], σ)) rfl rfl ?_
    refine TT.call (cd := cd191) rfl rfl rfl (by decide) rfl (w_beginAct X h) (fun r4 σ4 hq => ?_)
    obtain ⟨rfl, hIV, hB2, hB3⟩ := hq
    refine TT.steps (cd := cd191) 5 (c' := (26, [(2, 0), (0, ((p : Nat) : Int)), (0, s)], [(0, s), (0, ((p : Nat) : Int)), (2, 41)], σ4)) rfl rfl ?_
    refine TT.astN (cd := cd191) (41) (p) rfl rfl rfl rfl (show p < 10 by omega) ?_
    refine TT.steps (cd := cd191) 1 (c' := (28, [(2, 0), (0, ((p : Nat) : Int)), (0, s)], [(0, 1)], (up2 σ4 41 p s))) rfl rfl ?_
    refine TT.ret (cd := cd191) rfl rfl rfl rfl ⟨fun hh => absurd hh (by omega), fun _ => ⟨rfl, ⟨_, _, _, _, _, _, _, _, _, _, _, _, IV_n hIV (fun K j hK hj => up2_nq _ (by omega)) hB2 ?_ ?_ ?_⟩⟩, fun K j hK => by rw [up2_far _ _ _ _ (by omega)]; exact hB3 K j (by omega)⟩
    · exact ⟨fun K j hK => up2_far _ _ _ _ (by omega), fun j hj => up2_far _ _ _ _ (by omega), fun j hj => up2_far _ _ _ _ (by omega), fun K j hK hj => up2_nq _ (by omega)⟩
    · obtain ⟨⟨-, g2⟩, -, gh, g3⟩ := id hIV.2.2.2.1
      have g2p := g2 p hp
      have g3p := g3 p hp
      rw [show 10 * 0 + p = p by omega] at g2p g3p
      refine PT_1 (p0 := p) c1 hIV.2.2.2.1 (fun K j hK h1 h2 => up2_nq _ (by omega)) (fun K j hK h1 => up2_nq _ (by omega)) (up2_far _ _ _ _ (by decide)) ?_ (fun _ => ?_)
      · rw [up2_far _ _ _ _ (by decide), gh]
        refine congrArg (fun x : Nat => (x : Int)) (bs_c (fun q hq3 => ?_))
        show decide _ = decide _
        rw [up2_far _ _ _ _ (by decide)]
      · obtain ⟨sn, rfl⟩ : ∃ sn : Nat, s = (sn : Int) := ⟨s.toNat, by omega⟩
        refine ⟨?_, ?_, ?_, ?_, ?_, ?_⟩
        · rw [up2_far _ _ _ _ (by decide), up2_far _ _ _ _ (by decide)]; exact g2p.1
        · rw [up2_far _ _ _ _ (by decide), up2_far _ _ _ _ (by decide)]; exact g2p.2.1
        · rw [up2_far _ _ _ _ (by decide), up2_far _ _ _ _ (by decide)]; exact g2p.2.2.1
        · rw [up2_hit, up2_hit]; exact ⟨sn, by omega, rfl, rfl⟩
        · rw [up2_far _ _ _ _ (by decide)]; exact g3p.2.2.2.1
        · rw [up2_far _ _ _ _ (by decide)]; exact g3p.2.2.2.2
    · rw [up2_far _ _ _ _ (by decide), up2_far _ _ _ _ (by decide)]; exact hIV.2.2.2.2.2.2.2.2.1.1
  · refine TT.steps (cd := cd191) 2 (c' := (17, [(2, 0), (0, ((p : Nat) : Int)), (0, s)], [(0, 2), (2, 0)], σ)) rfl rfl ?_
    refine TT.call (cd := cd191) rfl rfl rfl (by decide) rfl (w_deny X 2 (by decide) σ) (fun r5 σ5 hq => ?_)
    rw [hq.1, hq.2]
    exact TT.ret (cd := cd191) rfl rfl rfl rfl ⟨fun _ => ⟨rfl, ⟨_, _, _, _, _, _, _, _, _, _, _, _, IV_ref h 2 (by decide)⟩⟩, fun hh => absurd (by omega) hh, fun K j hK => up2_far _ _ _ _ (by omega)⟩
theorem K_move0 (X : AX) {l : Nat} {σ ρ : AH} {b np nt ns : Nat} {L : Nat → Nat} {C : Nat → Nat → Nat} {w tp u tl oc : Nat} (h : IV σ ρ l b np nt ns L C w tp u tl oc) (p s : Int) (hp : ¬ (0 ≤ p ∧ p < (np : Int)))  : TT X 192 (0, [(2, 0), (0, p), (0, s)], [], σ) (fun r σ' => r = some (0, 0) ∧ EX σ' (up2 ρ 315 2 (aAdd (ρ 315 2) 1)) ∧ (∀ K j, (295 ≤ K ∨ K = 30 ∨ K = 192) → σ' K j = σ K j)) := by
  obtain ⟨⟨hl, h05, h33⟩, hL, hN, hPT, hF, hA, hTp, hO, hM, hH⟩ := id h
  obtain ⟨⟨a1, a2, a3, a4⟩, ⟨b1, b2, b3, b4, b5⟩, ⟨c1, c2, c3, c4, c5⟩, hTr, hCa, hAf, hPr, hDi⟩ := id hL
  obtain ⟨hPb, ⟨y1, y2, y3⟩, hhi, hPp⟩ := id hPT
  refine TT.steps (cd := cd192) 2 (c' := (2, [(2, 0), (0, p), (0, s)], [(0, p), (2, 0)], σ)) rfl rfl ?_
  refine TT.call (cd := cd192) rfl rfl rfl (by decide) rfl (w_isPerson X p σ) (fun r1 σ1 hq => ?_)
  rw [hq.1, hq.2, hPb.1, if_neg hp]
  refine TT.steps (cd := cd192) 3 (c' := (17, [(2, 0), (0, p), (0, s)], [(0, 2), (2, 0)], σ)) rfl rfl ?_
  refine TT.call (cd := cd192) rfl rfl rfl (by decide) rfl (w_deny X 2 (by decide) σ) (fun r2 σ2 hq => ?_)
  rw [hq.1, hq.2]
  exact TT.ret (cd := cd192) rfl rfl rfl rfl (⟨rfl, ⟨_, _, _, _, _, _, _, _, _, _, _, _, IV_ref h 2 (by decide)⟩, fun K j hK => up2_far _ _ _ _ (by omega)⟩)
theorem K_move1 (X : AX) {l : Nat} {σ ρ : AH} {b np nt ns : Nat} {L : Nat → Nat} {C : Nat → Nat → Nat} {w tp u tl oc : Nat} (h : IV σ ρ l b np nt ns L C w tp u tl oc) (p : Nat) (s : Int) (hp : p < np) (hs : ¬ (0 ≤ s ∧ s < (ns : Int)))  : TT X 192 (0, [(2, 0), (0, ((p : Nat) : Int)), (0, s)], [], σ) (fun r σ' => r = some (0, 0) ∧ EX σ' (up2 ρ 315 2 (aAdd (ρ 315 2) 1)) ∧ (∀ K j, (295 ≤ K ∨ K = 30 ∨ K = 192) → σ' K j = σ K j)) := by
  obtain ⟨⟨hl, h05, h33⟩, hL, hN, hPT, hF, hA, hTp, hO, hM, hH⟩ := id h
  obtain ⟨⟨a1, a2, a3, a4⟩, ⟨b1, b2, b3, b4, b5⟩, ⟨c1, c2, c3, c4, c5⟩, hTr, hCa, hAf, hPr, hDi⟩ := id hL
  obtain ⟨hPb, ⟨y1, y2, y3⟩, hhi, hPp⟩ := id hPT
  refine TT.steps (cd := cd192) 2 (c' := (2, [(2, 0), (0, ((p : Nat) : Int)), (0, s)], [(0, ((p : Nat) : Int)), (2, 0)], σ)) rfl rfl ?_
  refine TT.call (cd := cd192) rfl rfl rfl (by decide) rfl (w_isPerson X ((p : Nat) : Int) σ) (fun r1 σ1 hq => ?_)
  rw [hq.1, hq.2, hPb.1, if_pos ⟨by omega, by omega⟩]
  refine TT.steps (cd := cd192) 3 (c' := (6, [(2, 0), (0, ((p : Nat) : Int)), (0, s)], [(0, s), (2, 0)], σ)) rfl rfl ?_
  refine TT.call (cd := cd192) rfl rfl rfl (by decide) rfl (w_isStation X hl s σ h05) (fun r2 σ2 hq => ?_)
  rw [hq.1, hq.2, a1, if_neg hs]
  refine TT.steps (cd := cd192) 3 (c' := (17, [(2, 0), (0, ((p : Nat) : Int)), (0, s)], [(0, 2), (2, 0)], σ)) rfl rfl ?_
  refine TT.call (cd := cd192) rfl rfl rfl (by decide) rfl (w_deny X 2 (by decide) σ) (fun r3 σ3 hq => ?_)
  rw [hq.1, hq.2]
  exact TT.ret (cd := cd192) rfl rfl rfl rfl (⟨rfl, ⟨_, _, _, _, _, _, _, _, _, _, _, _, IV_ref h 2 (by decide)⟩, fun K j hK => up2_far _ _ _ _ (by omega)⟩)
theorem K_move2 (X : AX) {l : Nat} {σ ρ : AH} {b np nt ns : Nat} {L : Nat → Nat} {C : Nat → Nat → Nat} {w tp u tl oc : Nat} (h : IV σ ρ l b np nt ns L C w tp u tl oc) (p : Nat) (s : Int) (hp : p < np) (hs : 0 ≤ s ∧ s < (ns : Int))  : TT X 192 (0, [(2, 0), (0, ((p : Nat) : Int)), (0, s)], [], σ) (fun r σ' => ((ρ 320 p = s) → r = some (0, 0) ∧ EX σ' (up2 ρ 315 2 (aAdd (ρ 315 2) 1))) ∧ (¬ (ρ 320 p = s) → r = some (0, 1) ∧ EX σ' (up2 (mKeep ρ u w) 320 p s)) ∧ (∀ K j, (295 ≤ K ∨ K = 30 ∨ K = 192) → σ' K j = σ K j)) := by
  obtain ⟨⟨hl, h05, h33⟩, hL, hN, hPT, hF, hA, hTp, hO, hM, hH⟩ := id h
  obtain ⟨⟨a1, a2, a3, a4⟩, ⟨b1, b2, b3, b4, b5⟩, ⟨c1, c2, c3, c4, c5⟩, hTr, hCa, hAf, hPr, hDi⟩ := id hL
  obtain ⟨hPb, ⟨y1, y2, y3⟩, hhi, hPp⟩ := id hPT
  have hwp : σ 40 p = ρ 320 p := by obtain ⟨s1, -, e1, e2⟩ := (hPb.2 p hp).2.2.1; rw [show 10 * 0 + p = p by omega] at e2; rw [e1, e2]
  refine TT.steps (cd := cd192) 2 (c' := (2, [(2, 0), (0, ((p : Nat) : Int)), (0, s)], [(0, ((p : Nat) : Int)), (2, 0)], σ)) rfl rfl ?_
  refine TT.call (cd := cd192) rfl rfl rfl (by decide) rfl (w_isPerson X ((p : Nat) : Int) σ) (fun r1 σ1 hq => ?_)
  rw [hq.1, hq.2, hPb.1, if_pos ⟨by omega, by omega⟩]
  refine TT.steps (cd := cd192) 3 (c' := (6, [(2, 0), (0, ((p : Nat) : Int)), (0, s)], [(0, s), (2, 0)], σ)) rfl rfl ?_
  refine TT.call (cd := cd192) rfl rfl rfl (by decide) rfl (w_isStation X hl s σ h05) (fun r2 σ2 hq => ?_)
  rw [hq.1, hq.2, a1, if_pos hs]
  refine TT.steps (cd := cd192) 5 (c' := (12, [(2, 0), (0, ((p : Nat) : Int)), (0, s)], [(0, ((p : Nat) : Int)), (2, 40)], σ)) rfl rfl ?_
  refine TT.aldN (cd := cd192) (40) (p) rfl rfl rfl rfl (show p < 10 by omega) ?_
  refine TT.top0 (z := (ρ 320 p)) hwp ?_
  refine TT.steps (cd := cd192) 2 (c' := ((if decide (¬ (ρ 320 p) = s) = true then 19 else 15), [(2, 0), (0, ((p : Nat) : Int)), (0, s)], [], σ)) rfl rfl ?_
  refine TT.br (p := ¬ (ρ 320 p) = s) (fun h3 => ?_) (fun h3 => ?_)
  · refine TT.steps (cd := cd192) 1 (c' := (20, [(2, 0), (0, ((p : Nat) : Int)), (0, s)], [(2, 0)], σ)) rfl rfl ?_
    refine TT.call (cd := cd192) rfl rfl rfl (by decide) rfl (w_beginAct X h) (fun r4 σ4 hq => ?_)
    obtain ⟨rfl, hIV, hB2, hB3⟩ := hq
    refine TT.steps (cd := cd192) 5 (c' := (26, [(2, 0), (0, ((p : Nat) : Int)), (0, s)], [(0, s), (0, ((p : Nat) : Int)), (2, 40)], σ4)) rfl rfl ?_
    refine TT.astN (cd := cd192) (40) (p) rfl rfl rfl rfl (show p < 10 by omega) ?_
    refine TT.steps (cd := cd192) 1 (c' := (28, [(2, 0), (0, ((p : Nat) : Int)), (0, s)], [(0, 1)], (up2 σ4 40 p s))) rfl rfl ?_
    refine TT.ret (cd := cd192) rfl rfl rfl rfl ⟨fun hh => absurd hh (by omega), fun _ => ⟨rfl, ⟨_, _, _, _, _, _, _, _, _, _, _, _, IV_n hIV (fun K j hK hj => up2_nq _ (by omega)) hB2 ?_ ?_ ?_⟩⟩, fun K j hK => by rw [up2_far _ _ _ _ (by omega)]; exact hB3 K j (by omega)⟩
    · exact ⟨fun K j hK => up2_far _ _ _ _ (by omega), fun j hj => up2_far _ _ _ _ (by omega), fun j hj => up2_far _ _ _ _ (by omega), fun K j hK hj => up2_nq _ (by omega)⟩
    · obtain ⟨⟨-, g2⟩, -, gh, g3⟩ := id hIV.2.2.2.1
      have g2p := g2 p hp
      have g3p := g3 p hp
      rw [show 10 * 0 + p = p by omega] at g2p g3p
      refine PT_1 (p0 := p) c1 hIV.2.2.2.1 (fun K j hK h1 h2 => up2_nq _ (by omega)) (fun K j hK h1 => up2_nq _ (by omega)) (up2_far _ _ _ _ (by decide)) ?_ (fun _ => ?_)
      · rw [up2_far _ _ _ _ (by decide), gh]
        refine congrArg (fun x : Nat => (x : Int)) (bs_c (fun q hq3 => ?_))
        show decide _ = decide _
        rw [up2_far _ _ _ _ (by decide)]
      · obtain ⟨sn, rfl⟩ : ∃ sn : Nat, s = (sn : Int) := ⟨s.toNat, by omega⟩
        refine ⟨?_, ?_, ?_, ?_, ?_, ?_⟩
        · rw [up2_far _ _ _ _ (by decide), up2_far _ _ _ _ (by decide)]; exact g2p.1
        · rw [up2_far _ _ _ _ (by decide), up2_far _ _ _ _ (by decide)]; exact g2p.2.1
        · rw [up2_hit, up2_hit]; exact ⟨sn, by omega, rfl, rfl⟩
        · rw [up2_far _ _ _ _ (by decide), up2_far _ _ _ _ (by decide)]; exact g2p.2.2.2
        · rw [up2_far _ _ _ _ (by decide)]; exact g3p.2.2.2.1
        · rw [up2_far _ _ _ _ (by decide)]; exact g3p.2.2.2.2
    · rw [up2_far _ _ _ _ (by decide), up2_far _ _ _ _ (by decide)]; exact hIV.2.2.2.2.2.2.2.2.1.1
  · refine TT.steps (cd := cd192) 2 (c' := (17, [(2, 0), (0, ((p : Nat) : Int)), (0, s)], [(0, 2), (2, 0)], σ)) rfl rfl ?_
    refine TT.call (cd := cd192) rfl rfl rfl (by decide) rfl (w_deny X 2 (by decide) σ) (fun r5 σ5 hq => ?_)
    rw [hq.1, hq.2]
    exact TT.ret (cd := cd192) rfl rfl rfl rfl ⟨fun _ => ⟨rfl, ⟨_, _, _, _, _, _, _, _, _, _, _, _, IV_ref h 2 (by decide)⟩⟩, fun hh => absurd (by omega) hh, fun K j hK => up2_far _ _ _ _ (by omega)⟩
