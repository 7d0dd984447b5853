/-! hiring. -/
theorem can_bs {σ ρ : AH} {l b np nt ns : Nat} {L : Nat → Nat} {C : Nat → Nat → Nat} (hL : LT σ ρ l b np nt ns L C) {z : Int} (hz : -2147483648 ≤ z ∧ z < 2147483648) (h : mCanC ρ b np z) : ∃ f : Nat → Bool, z = ((bs f np : Nat) : Int) := by
  have h1 := (can_iff hL hz).mpr h
  rw [sub_iff hz (p31 (show np ≤ 30 by have := hL.2.2.1.1; omega) (bs_lt _ np))] at h1
  obtain ⟨x, rfl, hx⟩ := h1
  refine ⟨x.testBit, congrArg (fun x : Nat => (x : Int)) (Nat.eq_of_testBit_eq (fun p => ?_))⟩
  rw [bs_bit]
  by_cases hp : p < np
  · simp [hp]
  · have : x.testBit p = false := by
      cases e : x.testBit p with
      | false => rfl
      | true =>
        have h2 := hx p e
        rw [bs_bit] at h2
        simp [hp] at h2
    rw [this]; simp [hp]
theorem mSame_p (σ : AH) (z : Int) (n : Nat) : mSame σ z n = 1 ↔ ∀ p : Nat, p < n → σ 322 p = aAnd (aShr z ((p : Nat) : Int)) 1 := by
  induction n with
  | zero => exact ⟨fun _ p hp => absurd hp (by omega), fun _ => rfl⟩
  | succ n ih =>
    rw [mSame]
    by_cases h : mSame σ z n = 1 ∧ σ 322 n = aAnd (aShr z ((n : Nat) : Int)) 1
    · rw [if_pos h]
      refine ⟨fun _ p hp => ?_, fun _ => rfl⟩
      by_cases e : p = n
      · subst e; exact h.2
      · exact ih.mp h.1 p (by omega)
    · rw [if_neg h]
      refine ⟨fun hh => absurd hh (by decide), fun hh => absurd ⟨ih.mpr (fun p hp => hh p (by omega)), hh n (by omega)⟩ h⟩
theorem same_iff {σ ρ : AH} {np ns : Nat} (hPT : PT σ ρ 36 0 np ns) (hn : np ≤ 10) (f : Nat → Bool) : mSame ρ ((bs f np : Nat) : Int) np = 1 ↔ ((bs f np : Nat) : Int) = ((bs (zH ρ 0) np : Nat) : Int) := by
  rw [mSame_p, bs_inj]
  constructor
  · intro h p hp
    have h1 := h p hp
    rw [bs_bitI f (by omega) hp] at h1
    show f p = decide (ρ 322 (10 * 0 + p) = 1)
    rw [show 10 * 0 + p = p by omega, h1]
    cases f p <;> simp
  · intro h p hp
    have h1 : f p = decide (ρ 322 (10 * 0 + p) = 1) := h p hp
    have g := (hPT.2.2.2 p hp).2.2.2.2
    rw [show 10 * 0 + p = p by omega] at h1 g
    rw [bs_bitI f (by omega) hp, h1]
    rcases g with g | g <;> rw [g] <;> simp
theorem mHN_p (σ : AH) (z : Int) (n : Nat) : (∀ p : Nat, p < n → mHN σ z n 322 p = aAnd (aShr z ((p : Nat) : Int)) 1) ∧ (∀ p : Nat, n ≤ p → mHN σ z n 322 p = σ 322 p) := by
  induction n with
  | zero => exact ⟨fun p hp => absurd hp (by omega), fun _ _ => rfl⟩
  | succ n ih =>
    refine ⟨fun p hp => ?_, fun p hp => ?_⟩
    · rw [mHN]
      by_cases e : p = n
      · subst e; rw [up2_hit]
      · rw [up2_nq _ (by omega)]; exact ih.1 p (by omega)
    · rw [mHN, up2_nq _ (by omega)]; exact ih.2 p (by omega)
theorem PT_hn {σ ρ : AH} {np ns : Nat} (hn : np ≤ 10) (h : PT σ ρ 36 0 np ns) (f : Nat → Bool) : PT (up2 σ 36 2 ((bs f np : Nat) : Int)) (mHN ρ ((bs f np : Nat) : Int) np) 36 0 np ns := by
  obtain ⟨⟨b1, b2⟩, y, -, c⟩ := h
  refine ⟨⟨(up2_nq _ (by omega)).trans b1, fun p hp => ?_⟩, ?_, ?_, fun p hp => ?_⟩
  · rw [up2_nq _ (by omega), up2_nq _ (by omega), up2_nq _ (by omega), up2_nq _ (by omega), mHN_fr _ _ _ _ _ (by decide), mHN_fr _ _ _ _ _ (by decide), mHN_fr _ _ _ _ _ (by decide), mHN_fr _ _ _ _ _ (by decide)]
    exact b2 p hp
  · rw [up2_nq _ (by omega), mHN_fr _ _ _ _ _ (by decide)]; exact y
  · rw [up2_hit]
    refine congrArg (fun x : Nat => (x : Int)) (bs_c (fun q hq => ?_))
    show f q = decide (mHN ρ ((bs f np : Nat) : Int) np 322 (10 * 0 + q) = 1)
    rw [show 10 * 0 + q = q by omega, (mHN_p ρ _ np).1 q hq, bs_bitI f (by omega) hq]
    cases f q <;> simp
  · obtain ⟨c1, c2, c3, c4, -⟩ := c p hp
    rw [up2_nq _ (by omega), mHN_fr _ _ _ 317 _ (by decide), mHN_fr _ _ _ 319 _ (by decide)]
    refine ⟨c1, c2, c3, c4, ?_⟩
    rw [show 10 * 0 + p = p by omega, (mHN_p ρ _ np).1 p hp, bs_bitI f (by omega) hp]
    cases f p <;> simp
theorem RN_hn (ρ : AH) (z : Int) {np : Nat} (hn : np ≤ 10) : RN ρ (mHN ρ z np) := by
  refine ⟨fun K j hK => mHN_fr _ _ _ _ _ (by omega), fun j hj => mHN_fr _ _ _ _ _ (by decide), fun j hj => mHN_fr _ _ _ _ _ (by decide), fun K j hK hj => ?_⟩
  by_cases e : K = 322
  · subst e; exact (mHN_p ρ z np).2 j (by omega)
  · exact mHN_fr _ _ _ _ _ e
theorem K_hiring0_8 (X : AX) {σ ρ : AH} {b np nt ns : Nat} {L : Nat → Nat} {C : Nat → Nat → Nat} {w tp u tl oc : Nat} (h : IV σ ρ 8 b np nt ns L C w tp u tl oc) (z : Int) (hz : -2147483648 ≤ z ∧ z < 2147483648) (hc : ¬ mCanC ρ b np z)  : TT X 203 (0, [(2, 0), (0, z)], [], σ) (fun r σ' => r = some (0, 0) ∧ EX σ' (up2 ρ 315 2 (aAdd (ρ 315 2) 1)) ∧ (∀ K j, (295 ≤ K ∨ K = 30 ∨ K = 192) → σ' K j = σ K j)) := by
  obtain ⟨⟨hl, h05, h33⟩, hL, hN, hPT, hF, hA, hTp, hO, hM, hH⟩ := id h
  obtain ⟨⟨a1, a2, a3, a4⟩, ⟨b1, b2, b3, b4, b5⟩, ⟨c1, c2, c3, c4, c5⟩, hTr, hCa, hAf, hPr, hDi⟩ := id hL
  obtain ⟨hPb, ⟨y1, y2, y3⟩, hhi, hPp⟩ := id hPT
  refine TT.steps (cd := cd203) 3 (c' := (3, [(2, 0), (0, z)], [(2, (σ 0 5)), (0, z)], σ)) rfl rfl ?_
  refine TT.top0 (z := 8) h05 ?_
  refine TT.call (cd := cd203) rfl rfl rfl (by decide) rfl (v_priced X hl hL) (fun r1 σ1 hq => ?_)
  rw [hq.1, hq.2]
  refine TT.steps (cd := cd203) 4 (c' := ((if decide ((aAnd z (aXor ((bs (pPr ρ b) np : Nat) : Int) (-1))) = 0) = true then 12 else 8), [(2, 0), (0, z)], [], σ)) rfl rfl ?_
  refine TT.br (p := (aAnd z (aXor ((bs (pPr ρ b) np : Nat) : Int) (-1))) = 0) (fun h2 => absurd h2 (show ¬ ((aAnd z (aXor ((bs (pPr ρ b) np : Nat) : Int) (-1))) = 0) by exact fun h0 => hc ((can_iff hL hz).mp h0))) (fun h2 => ?_)
  refine TT.steps (cd := cd203) 2 (c' := (10, [(2, 0), (0, z)], [(0, 2), (2, 0)], σ)) rfl rfl ?_
  refine TT.call (cd := cd203) rfl rfl rfl (by decide) rfl (w_deny X 2 (by decide) σ) (fun r3 σ3 hq => ?_)
  rw [hq.1, hq.2]
  exact TT.ret (cd := cd203) rfl rfl rfl rfl (⟨rfl, ⟨_, _, _, _, _, _, _, _, _, _, _, _, IV_ref h 2 (by decide)⟩, fun K j hK => up2_far _ _ _ _ (by omega)⟩)
theorem K_hiring0_170 (X : AX) {σ ρ : AH} {b np nt ns : Nat} {L : Nat → Nat} {C : Nat → Nat → Nat} {w tp u tl oc : Nat} (h : IV σ ρ 170 b np nt ns L C w tp u tl oc) (z : Int) (hz : -2147483648 ≤ z ∧ z < 2147483648) (hc : ¬ mCanC ρ b np z)  : TT X 203 (0, [(2, 0), (0, z)], [], σ) (fun r σ' => r = some (0, 0) ∧ EX σ' (up2 ρ 315 2 (aAdd (ρ 315 2) 1)) ∧ (∀ K j, (295 ≤ K ∨ K = 30 ∨ K = 192) → σ' K j = σ K j)) := by
  obtain ⟨⟨hl, h05, h33⟩, hL, hN, hPT, hF, hA, hTp, hO, hM, hH⟩ := id h
  obtain ⟨⟨a1, a2, a3, a4⟩, ⟨b1, b2, b3, b4, b5⟩, ⟨c1, c2, c3, c4, c5⟩, hTr, hCa, hAf, hPr, hDi⟩ := id hL
  obtain ⟨hPb, ⟨y1, y2, y3⟩, hhi, hPp⟩ := id hPT
  refine TT.steps (cd := cd203) 3 (c' := (3, [(2, 0), (0, z)], [(2, (σ 0 5)), (0, z)], σ)) rfl rfl ?_
  refine TT.top0 (z := 170) h05 ?_
  refine TT.call (cd := cd203) rfl rfl rfl (by decide) rfl (v_priced X hl hL) (fun r1 σ1 hq => ?_)
  rw [hq.1, hq.2]
  refine TT.steps (cd := cd203) 4 (c' := ((if decide ((aAnd z (aXor ((bs (pPr ρ b) np : Nat) : Int) (-1))) = 0) = true then 12 else 8), [(2, 0), (0, z)], [], σ)) rfl rfl ?_
  refine TT.br (p := (aAnd z (aXor ((bs (pPr ρ b) np : Nat) : Int) (-1))) = 0) (fun h2 => absurd h2 (show ¬ ((aAnd z (aXor ((bs (pPr ρ b) np : Nat) : Int) (-1))) = 0) by exact fun h0 => hc ((can_iff hL hz).mp h0))) (fun h2 => ?_)
  refine TT.steps (cd := cd203) 2 (c' := (10, [(2, 0), (0, z)], [(0, 2), (2, 0)], σ)) rfl rfl ?_
  refine TT.call (cd := cd203) rfl rfl rfl (by decide) rfl (w_deny X 2 (by decide) σ) (fun r3 σ3 hq => ?_)
  rw [hq.1, hq.2]
  exact TT.ret (cd := cd203) rfl rfl rfl rfl (⟨rfl, ⟨_, _, _, _, _, _, _, _, _, _, _, _, IV_ref h 2 (by decide)⟩, fun K j hK => up2_far _ _ _ _ (by omega)⟩)
theorem K_hiring0 (X : AX) {l : Nat} {σ ρ : AH} {b np nt ns : Nat} {L : Nat → Nat} {C : Nat → Nat → Nat} {w tp u tl oc : Nat} (h : IV σ ρ l b np nt ns L C w tp u tl oc) (z : Int) (hz : -2147483648 ≤ z ∧ z < 2147483648) (hc : ¬ mCanC ρ b np z)  : TT X 203 (0, [(2, 0), (0, z)], [], σ) (fun r σ' => r = some (0, 0) ∧ EX σ' (up2 ρ 315 2 (aAdd (ρ 315 2) 1)) ∧ (∀ K j, (295 ≤ K ∨ K = 30 ∨ K = 192) → σ' K j = σ K j)) := by
  rcases h.1.1 with rfl | rfl
  · exact K_hiring0_8 X h z hz hc
  · exact K_hiring0_170 X h z hz hc
theorem K_hiring1_8 (X : AX) {σ ρ : AH} {b np nt ns : Nat} {L : Nat → Nat} {C : Nat → Nat → Nat} {w tp u tl oc : Nat} (h : IV σ ρ 8 b np nt ns L C w tp u tl oc) (z : Int) (hz : -2147483648 ≤ z ∧ z < 2147483648) (hc : mCanC ρ b np z)  : TT X 203 (0, [(2, 0), (0, z)], [], σ) (fun r σ' => (mSame ρ z np = 1 → r = some (0, 1) ∧ EX σ' ρ) ∧ (¬ mSame ρ z np = 1 → r = some (0, 1) ∧ EX σ' (mHN (mKeep ρ u w) z np)) ∧ (∀ K j, (295 ≤ K ∨ K = 30 ∨ K = 192) → σ' K j = σ K j)) := by
  obtain ⟨⟨hl, h05, h33⟩, hL, hN, hPT, hF, hA, hTp, hO, hM, hH⟩ := id h
  obtain ⟨⟨a1, a2, a3, a4⟩, ⟨b1, b2, b3, b4, b5⟩, ⟨c1, c2, c3, c4, c5⟩, hTr, hCa, hAf, hPr, hDi⟩ := id hL
  obtain ⟨hPb, ⟨y1, y2, y3⟩, hhi, hPp⟩ := id hPT
  obtain ⟨f, rfl⟩ := can_bs hL hz hc
  have hsm := same_iff hPT c1 f
  refine TT.steps (cd := cd203) 3 (c' := (3, [(2, 0), (0, ((bs f np : Nat) : Int))], [(2, (σ 0 5)), (0, ((bs f np : Nat) : Int))], σ)) rfl rfl ?_
  refine TT.top0 (z := 8) h05 ?_
  refine TT.call (cd := cd203) rfl rfl rfl (by decide) rfl (v_priced X hl hL) (fun r1 σ1 hq => ?_)
  rw [hq.1, hq.2]
  refine TT.steps (cd := cd203) 4 (c' := ((if decide ((aAnd ((bs f np : Nat) : Int) (aXor ((bs (pPr ρ b) np : Nat) : Int) (-1))) = 0) = true then 12 else 8), [(2, 0), (0, ((bs f np : Nat) : Int))], [], σ)) rfl rfl ?_
  refine TT.br (p := (aAnd ((bs f np : Nat) : Int) (aXor ((bs (pPr ρ b) np : Nat) : Int) (-1))) = 0) (fun h2 => ?_) (fun h2 => absurd (show (aAnd ((bs f np : Nat) : Int) (aXor ((bs (pPr ρ b) np : Nat) : Int) (-1))) = 0 by exact (can_iff hL hz).mpr hc) h2)
  refine TT.steps (cd := cd203) 4 (c' := (16, [(2, 0), (0, ((bs f np : Nat) : Int))], [(0, (σ 36 2)), (0, ((bs f np : Nat) : Int))], σ)) rfl rfl ?_
  refine TT.top0 (z := ((bs (zH ρ 0) np : Nat) : Int)) hhi ?_
  refine TT.steps (cd := cd203) 1 (c' := ((if decide (((bs f np : Nat) : Int) = ((bs (zH ρ 0) np : Nat) : Int)) = true then 23 else 17), [(2, 0), (0, ((bs f np : Nat) : Int))], [], σ)) rfl rfl ?_
  refine TT.br (p := ((bs f np : Nat) : Int) = ((bs (zH ρ 0) np : Nat) : Int)) (fun h3 => ?_) (fun h3 => ?_)
  · refine TT.steps (cd := cd203) 1 (c' := (24, [(2, 0), (0, ((bs f np : Nat) : Int))], [(0, 1)], σ)) rfl rfl ?_
    exact TT.ret (cd := cd203) rfl rfl rfl rfl ⟨fun _ => ⟨rfl, ⟨_, _, _, _, _, _, _, _, _, _, _, _, h⟩⟩, fun hh => absurd (hsm.mpr (by first | assumption | exact Decidable.not_not.mp (by assumption))) hh, fun K j hK => rfl⟩
  · refine TT.steps (cd := cd203) 1 (c' := (18, [(2, 0), (0, ((bs f np : Nat) : Int))], [(2, 0)], σ)) rfl rfl ?_
    refine TT.call (cd := cd203) rfl rfl rfl (by decide) rfl (w_beginAct X h) (fun r4 σ4 hq => ?_)
    obtain ⟨rfl, hIV, hB2, hB3⟩ := hq
    refine TT.steps (cd := cd203) 5 (c' := (24, [(2, 0), (0, ((bs f np : Nat) : Int))], [(0, 1)], (up2 σ4 36 2 ((bs f np : Nat) : Int)))) rfl rfl ?_
    refine TT.ret (cd := cd203) rfl rfl rfl rfl ⟨fun hh => absurd (hsm.mp hh) (by assumption), fun _ => ⟨rfl, ⟨_, _, _, _, _, _, _, _, _, _, _, _, IV_n hIV (fun K j hK hj => up2_nq _ (by omega)) hB2 (RN_hn _ _ c1) (PT_hn c1 hIV.2.2.2.1 f) ?_⟩⟩, fun K j hK => by rw [up2_far _ _ _ _ (by omega)]; exact hB3 K j (by omega)⟩
    rw [up2_far _ _ _ _ (by decide), mHN_fr _ _ _ _ _ (by decide)]; exact hIV.2.2.2.2.2.2.2.2.1.1
theorem K_hiring1_170 (X : AX) {σ ρ : AH} {b np nt ns : Nat} {L : Nat → Nat} {C : Nat → Nat → Nat} {w tp u tl oc : Nat} (h : IV σ ρ 170 b np nt ns L C w tp u tl oc) (z : Int) (hz : -2147483648 ≤ z ∧ z < 2147483648) (hc : mCanC ρ b np z)  : TT X 203 (0, [(2, 0), (0, z)], [], σ) (fun r σ' => (mSame ρ z np = 1 → r = some (0, 1) ∧ EX σ' ρ) ∧ (¬ mSame ρ z np = 1 → r = some (0, 1) ∧ EX σ' (mHN (mKeep ρ u w) z np)) ∧ (∀ K j, (295 ≤ K ∨ K = 30 ∨ K = 192) → σ' K j = σ K j)) := by
  obtain ⟨⟨hl, h05, h33⟩, hL, hN, hPT, hF, hA, hTp, hO, hM, hH⟩ := id h
  obtain ⟨⟨a1, a2, a3, a4⟩, ⟨b1, b2, b3, b4, b5⟩, ⟨c1, c2, c3, c4, c5⟩, hTr, hCa, hAf, hPr, hDi⟩ := id hL
  obtain ⟨hPb, ⟨y1, y2, y3⟩, hhi, hPp⟩ := id hPT
  obtain ⟨f, rfl⟩ := can_bs hL hz hc
  have hsm := same_iff hPT c1 f
  refine TT.steps (cd := cd203) 3 (c' := (3, [(2, 0), (0, ((bs f np : Nat) : Int))], [(2, (σ 0 5)), (0, ((bs f np : Nat) : Int))], σ)) rfl rfl ?_
  refine TT.top0 (z := 170) h05 ?_
  refine TT.call (cd := cd203) rfl rfl rfl (by decide) rfl (v_priced X hl hL) (fun r1 σ1 hq => ?_)
  rw [hq.1, hq.2]
  refine TT.steps (cd := cd203) 4 (c' := ((if decide ((aAnd ((bs f np : Nat) : Int) (aXor ((bs (pPr ρ b) np : Nat) : Int) (-1))) = 0) = true then 12 else 8), [(2, 0), (0, ((bs f np : Nat) : Int))], [], σ)) rfl rfl ?_
  refine TT.br (p := (aAnd ((bs f np : Nat) : Int) (aXor ((bs (pPr ρ b) np : Nat) : Int) (-1))) = 0) (fun h2 => ?_) (fun h2 => absurd (show (aAnd ((bs f np : Nat) : Int) (aXor ((bs (pPr ρ b) np : Nat) : Int) (-1))) = 0 by exact (can_iff hL hz).mpr hc) h2)
  refine TT.steps (cd := cd203) 4 (c' := (16, [(2, 0), (0, ((bs f np : Nat) : Int))], [(0, (σ 36 2)), (0, ((bs f np : Nat) : Int))], σ)) rfl rfl ?_
  refine TT.top0 (z := ((bs (zH ρ 0) np : Nat) : Int)) hhi ?_
  refine TT.steps (cd := cd203) 1 (c' := ((if decide (((bs f np : Nat) : Int) = ((bs (zH ρ 0) np : Nat) : Int)) = true then 23 else 17), [(2, 0), (0, ((bs f np : Nat) : Int))], [], σ)) rfl rfl ?_
  refine TT.br (p := ((bs f np : Nat) : Int) = ((bs (zH ρ 0) np : Nat) : Int)) (fun h3 => ?_) (fun h3 => ?_)
  · refine TT.steps (cd := cd203) 1 (c' := (24, [(2, 0), (0, ((bs f np : Nat) : Int))], [(0, 1)], σ)) rfl rfl ?_
    exact TT.ret (cd := cd203) rfl rfl rfl rfl ⟨fun _ => ⟨rfl, ⟨_, _, _, _, _, _, _, _, _, _, _, _, h⟩⟩, fun hh => absurd (hsm.mpr (by first | assumption | exact Decidable.not_not.mp (by assumption))) hh, fun K j hK => rfl⟩
  · refine TT.steps (cd := cd203) 1 (c' := (18, [(2, 0), (0, ((bs f np : Nat) : Int))], [(2, 0)], σ)) rfl rfl ?_
    refine TT.call (cd := cd203) rfl rfl rfl (by decide) rfl (w_beginAct X h) (fun r4 σ4 hq => ?_)
    obtain ⟨rfl, hIV, hB2, hB3⟩ := hq
    refine TT.steps (cd := cd203) 5 (c' := (24, [(2, 0), (0, ((bs f np : Nat) : Int))], [(0, 1)], (up2 σ4 36 2 ((bs f np : Nat) : Int)))) rfl rfl ?_
    refine TT.ret (cd := cd203) rfl rfl rfl rfl ⟨fun hh => absurd (hsm.mp hh) (by assumption), fun _ => ⟨rfl, ⟨_, _, _, _, _, _, _, _, _, _, _, _, IV_n hIV (fun K j hK hj => up2_nq _ (by omega)) hB2 (RN_hn _ _ c1) (PT_hn c1 hIV.2.2.2.1 f) ?_⟩⟩, fun K j hK => by rw [up2_far _ _ _ _ (by omega)]; exact hB3 K j (by omega)⟩
    rw [up2_far _ _ _ _ (by decide), mHN_fr _ _ _ _ _ (by decide)]; exact hIV.2.2.2.2.2.2.2.2.1.1
theorem K_hiring1 (X : AX) {l : Nat} {σ ρ : AH} {b np nt ns : Nat} {L : Nat → Nat} {C : Nat → Nat → Nat} {w tp u tl oc : Nat} (h : IV σ ρ l b np nt ns L C w tp u tl oc) (z : Int) (hz : -2147483648 ≤ z ∧ z < 2147483648) (hc : mCanC ρ b np z)  : TT X 203 (0, [(2, 0), (0, z)], [], σ) (fun r σ' => (mSame ρ z np = 1 → r = some (0, 1) ∧ EX σ' ρ) ∧ (¬ mSame ρ z np = 1 → r = some (0, 1) ∧ EX σ' (mHN (mKeep ρ u w) z np)) ∧ (∀ K j, (295 ≤ K ∨ K = 30 ∨ K = 192) → σ' K j = σ K j)) := by
  rcases h.1.1 with rfl | rfl
  · exact K_hiring1_8 X h z hz hc
  · exact K_hiring1_170 X h z hz hc
