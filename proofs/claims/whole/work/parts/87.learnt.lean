/-! Hirings learnt, and the cheapest. -/
theorem IV_h {σ τ ρ : AH} {l b np nt ns : Nat} {L : Nat → Nat} {C : Nat → Nat → Nat} {w tp u tl oc : Nat} (h : IV σ ρ l b np nt ns L C w tp u tl oc) (h1 : ∀ K j, (K < 42 ∨ (47 < K ∧ K < 198) ∨ 254 < K) → ¬ (289 ≤ K ∧ K ≤ 292) → τ K j = σ K j) (hH : HKo τ l b np nt ns L C) : IV τ ρ l b np nt ns L C w tp u tl oc := by
  obtain ⟨⟨hl, i1, i2⟩, hL, hN, hP, hF, ⟨hA1, hA2, hA3⟩, ⟨t1, t2, t3, t4⟩, ⟨o1, o2, o3, o4⟩, ⟨m1, m2, m3⟩, -⟩ := h
  have np2 := hL.2.2.1.1
  have fL : ∀ K j, (l ≤ K ∧ K ≤ l + 22) → τ K j = σ K j := fun K j hK => h1 K j (by omega) (by omega)
  refine ⟨⟨hl, ?_, ?_⟩, LT_mv hl hL fL (fun _ _ _ => rfl) rfl, NT_mv hN fL (fun _ _ _ => rfl), ?_, hF, ⟨?_, hA2, ?_⟩, ⟨?_, t2, t3, ?_⟩, ⟨?_, o2, o3, ?_⟩, ⟨?_, ?_, ?_⟩, hH⟩
  · rw [h1 _ _ (by omega) (by omega)]; exact i1
  · rw [h1 _ _ (by omega) (by omega)]; exact i2
  · exact PT_mv hP np2 (fun K j hK => h1 K j (by omega) (by omega)) rfl (fun _ _ _ _ => rfl)
  · rw [h1 48 0 (by omega) (by omega), h1 48 2 (by omega) (by omega)]; exact hA1
  · intro k hk
    have e1 : (tp + 20 - w + k) % 20 < 20 := Nat.mod_lt _ (by decide)
    exact PT_mv (hA3 k hk) np2 (fun K j hK => h1 K j (by omega) (by omega)) rfl (fun _ _ _ _ => rfl)
  · rw [h1 _ _ (by omega) (by omega)]; exact t1
  · intro j hj; rw [h1 _ _ (by omega) (by omega)]; exact t4 j hj
  · rw [h1 _ _ (by omega) (by omega)]; exact o1
  · intro j hj; rw [h1 _ _ (by omega) (by omega)]; exact o4 j hj
  · rw [h1 _ _ (by omega) (by omega)]; exact m1
  · rw [h1 _ _ (by omega) (by omega), h1 _ _ (by omega) (by omega)]; exact m2
  · intro j hj; rw [h1 _ _ (by omega) (by omega)]; exact m3 j hj
theorem can_le {σ ρ : AH} {l b np nt ns : Nat} {L : Nat → Nat} {C : Nat → Nat → Nat} (hL : LT σ ρ l b np nt ns L C) {z : Nat} (hz : z < 2147483648) (h : mCanC ρ b np (z : Int)) : z ≤ bs (pPr ρ b) np := by
  have h1 := (can_iff hL (z := (z : Int)) (by omega)).mpr h
  rw [sub_iff (by omega) (p31 (show np ≤ 30 by have := hL.2.2.1.1; omega) (bs_lt _ np))] at h1
  obtain ⟨x, e, hx⟩ := h1
  have e2 : z = x := by omega
  subst e2
  have : z &&& bs (pPr ρ b) np = z := by
    apply Nat.eq_of_testBit_eq
    intro p
    rw [Nat.testBit_and]
    cases hp : z.testBit p with
    | false => rfl
    | true => rw [hx p hp]; rfl
  rw [← this]
  exact Nat.and_le_right
theorem LH_HK {σ τ ρ : AH} {l b np nt ns : Nat} {L : Nat → Nat} {C : Nat → Nat → Nat} (hl : l = 8 ∨ l = 170) (h : LHp σ τ l b np nt ns L C (bs (pPr ρ b) np + 1)) (hT : TI σ ρ l b np nt ns L C) : HK τ l b np nt ns L C := by
  obtain ⟨h1, h2, h3, h4⟩ := h
  have hn := hT.1.2.2.1.1
  intro ρ' a1 a2 a3
  have b1 : TI σ ρ' l b np nt ns L C := ⟨LT_mv hl a1 (fun K j hK => (h1 K j (by omega) (by omega)).symm) (fun _ _ _ => rfl) rfl, PT_mv a2 hn (fun K j hK => (h1 K j (by omega) (by omega)).symm) rfl (fun _ _ _ _ => rfl), a3⟩
  refine ⟨h2.2 ρ' b1, fun z hz hc => h4 z ?_ ρ' b1 hc⟩
  have e1 := can_le b1.1 (p31 (by omega) hz) hc
  have e2 : bs (pPr ρ' b) np = bs (pPr ρ b) np := by
    have g1 := h2.2 ρ' b1
    have g2 := h2.2 ρ hT
    rw [g1] at g2
    omega
  omega
theorem w_learn1_8 (X : AX) {σ ρ : AH} {b np nt ns : Nat} {L : Nat → Nat} {C : Nat → Nat → Nat} {w tp u tl oc : Nat} (h : IV σ ρ 8 b np nt ns L C w tp u tl oc) (h1 : σ 289 0 = 1) (hk : HK σ 8 b np nt ns L C)  : TT X 129 (0, [(2, 289), (2, 8), (2, 36), (2, 198), (9, 0)], [], σ) (fun r σ' => r = none ∧ IV σ' ρ 8 b np nt ns L C w tp u tl oc ∧ σ' 289 0 = 1 ∧ HK σ' 8 b np nt ns L C ∧ (∀ K j, (K < 198 ∨ 254 < K) → ¬ (289 ≤ K ∧ K ≤ 292) → σ' K j = σ K j)) := by
  obtain ⟨⟨hl, h05, h33⟩, hL, hN, hPT, hF, hA, hTp, hO, hM, hH⟩ := id h
  obtain ⟨⟨a1, a2, a3, a4⟩, ⟨b1, b2, b3, b4, b5⟩, ⟨c1, c2, c3, c4, c5⟩, hTr, hCa, hAf, hPr, hDi⟩ := id hL
  obtain ⟨hPb, ⟨y1, y2, y3⟩, hhi, hPp⟩ := id hPT
  refine TT.steps (cd := cd129) 2 (c' := (2, [(2, 289), (2, 8), (2, 36), (2, 198), (9, 0)], [(0, (σ 289 0))], σ)) rfl rfl ?_
  refine TT.top0 (z := 1) h1 ?_
  refine TT.steps (cd := cd129) 1 (c' := (3, [(2, 289), (2, 8), (2, 36), (2, 198), (9, 0)], [], σ)) rfl rfl ?_
  exact TT.ret (cd := cd129) rfl rfl rfl rfl (⟨rfl, h, h1, hk, fun _ _ _ _ => rfl⟩)
theorem w_learn0_8 (X : AX) {σ ρ : AH} {b np nt ns : Nat} {L : Nat → Nat} {C : Nat → Nat → Nat} {w tp u tl oc : Nat} (h : IV σ ρ 8 b np nt ns L C w tp u tl oc) (h0 : σ 289 0 = 0)  : TT X 129 (0, [(2, 289), (2, 8), (2, 36), (2, 198), (9, 0)], [], σ) (fun r σ' => r = none ∧ IV σ' ρ 8 b np nt ns L C w tp u tl oc ∧ σ' 289 0 = 1 ∧ HK σ' 8 b np nt ns L C ∧ (∀ K j, (K < 198 ∨ 254 < K) → ¬ (289 ≤ K ∧ K ≤ 292) → σ' K j = σ K j)) := by
  obtain ⟨⟨hl, h05, h33⟩, hL, hN, hPT, hF, hA, hTp, hO, hM, hH⟩ := id h
  obtain ⟨⟨a1, a2, a3, a4⟩, ⟨b1, b2, b3, b4, b5⟩, ⟨c1, c2, c3, c4, c5⟩, hTr, hCa, hAf, hPr, hDi⟩ := id hL
  obtain ⟨hPb, ⟨y1, y2, y3⟩, hhi, hPp⟩ := id hPT
  refine TT.steps (cd := cd129) 2 (c' := (2, [(2, 289), (2, 8), (2, 36), (2, 198), (9, 0)], [(0, (σ 289 0))], σ)) rfl rfl ?_
  refine TT.top0 (z := 0) h0 ?_
  refine TT.steps (cd := cd129) 6 (c' := (9, [(2, 289), (2, 8), (2, 36), (2, 198), (9, 0)], [(2, 8), (2, 289)], (up2 σ 289 0 1))) rfl rfl ?_
  refine TT.call (cd := cd129) rfl rfl rfl (by decide) rfl (v_priced X hl (σ := (up2 σ 289 0 1)) (LT_mv hl hL (fun K j hK => up2_nq _ (by omega)) (fun _ _ _ => rfl) rfl)) (fun r1 σ1 hq => ?_)
  rw [hq.1, hq.2]
  refine TT.steps (cd := cd129) 4 (c' := (14, [(2, 289), (2, 8), (2, 36), (2, 198), (9, 0)], [(2, 36), (2, 8), (2, 198)], (up2 (up2 σ 289 0 1) 289 4 ((bs (pPr ρ b) np : Nat) : Int)))) rfl rfl ?_
  refine TT.call (cd := cd129) rfl rfl rfl (by decide) rfl (v_prep X hl (Or.inl rfl) (σ := (up2 (up2 σ 289 0 1) 289 4 ((bs (pPr ρ b) np : Nat) : Int))) (ρ := ρ) (LT_mv hl hL (fun K j hK => (up2_nq _ (by omega)).trans (up2_nq _ (by omega))) (fun _ _ _ => rfl) rfl) (PTb_mv hPb (fun K j hK => (up2_nq _ (by omega)).trans (up2_nq _ (by omega))) (fun _ _ _ => rfl))) (fun r2 σ2 hq => ?_)
  obtain ⟨rfl, hP1, hF1⟩ := hq
  have hT : TI σ ρ 8 b np nt ns L C := ⟨hL, hPT, hF⟩
  have hPP : ∀ ρ', TI σ ρ' 8 b np nt ns L C → ((bs (pPr ρ b) np : Nat) : Int) = ((bs (pPr ρ' b) np : Nat) : Int) := fun ρ' h' => congrArg (fun x : Nat => (x : Int)) (bs_c (fun p hp => by show decide _ = decide _; rw [← (hPr p hp).1, ← (h'.1.2.2.2.2.2.2.1 p hp).1]))
  have hLH : LHp σ σ2 8 b np nt ns L C 0 := ⟨fun K j h1 h2 => (hF1 K j (by omega)).trans ((up2_nq _ (by omega)).trans (up2_nq _ (by omega))), ⟨(hF1 _ _ (by omega)).trans ((up2_nq _ (by omega)).trans (up2_hit _ _ _ _)), fun ρ' h' => (hF1 _ _ (by omega)).trans ((up2_hit _ _ _ _).trans (hPP ρ' h'))⟩, hP1, fun z hz => by omega⟩
  refine TT.steps (cd := cd129) 2 (c' := (17, [(2, 289), (2, 8), (2, 36), (2, 198), (0, 0)], [], σ2)) rfl rfl ?_
  refine (vl_learn_8 X hl hT (bs (pPr ρ b) np + 1) 0 (by omega) _ hLH).mono (fun r υ hh => ⟨hh.1, ?_, hh.2.2.1.1, LH_HK hl hh.2 hT, hh.2.1⟩)
  exact IV_h h (fun K j h1 h2 => hh.2.1 K j (by omega) h2) (Or.inr ⟨hh.2.2.1.1, LH_HK hl hh.2 hT⟩)
theorem w_learn1_170 (X : AX) {σ ρ : AH} {b np nt ns : Nat} {L : Nat → Nat} {C : Nat → Nat → Nat} {w tp u tl oc : Nat} (h : IV σ ρ 170 b np nt ns L C w tp u tl oc) (h1 : σ 289 0 = 1) (hk : HK σ 170 b np nt ns L C)  : TT X 129 (0, [(2, 289), (2, 170), (2, 36), (2, 198), (9, 0)], [], σ) (fun r σ' => r = none ∧ IV σ' ρ 170 b np nt ns L C w tp u tl oc ∧ σ' 289 0 = 1 ∧ HK σ' 170 b np nt ns L C ∧ (∀ K j, (K < 198 ∨ 254 < K) → ¬ (289 ≤ K ∧ K ≤ 292) → σ' K j = σ K j)) := by
  obtain ⟨⟨hl, h05, h33⟩, hL, hN, hPT, hF, hA, hTp, hO, hM, hH⟩ := id h
  obtain ⟨⟨a1, a2, a3, a4⟩, ⟨b1, b2, b3, b4, b5⟩, ⟨c1, c2, c3, c4, c5⟩, hTr, hCa, hAf, hPr, hDi⟩ := id hL
  obtain ⟨hPb, ⟨y1, y2, y3⟩, hhi, hPp⟩ := id hPT
  refine TT.steps (cd := cd129) 2 (c' := (2, [(2, 289), (2, 170), (2, 36), (2, 198), (9, 0)], [(0, (σ 289 0))], σ)) rfl rfl ?_
  refine TT.top0 (z := 1) h1 ?_
  refine TT.steps (cd := cd129) 1 (c' := (3, [(2, 289), (2, 170), (2, 36), (2, 198), (9, 0)], [], σ)) rfl rfl ?_
  exact TT.ret (cd := cd129) rfl rfl rfl rfl (⟨rfl, h, h1, hk, fun _ _ _ _ => rfl⟩)
theorem w_learn0_170 (X : AX) {σ ρ : AH} {b np nt ns : Nat} {L : Nat → Nat} {C : Nat → Nat → Nat} {w tp u tl oc : Nat} (h : IV σ ρ 170 b np nt ns L C w tp u tl oc) (h0 : σ 289 0 = 0)  : TT X 129 (0, [(2, 289), (2, 170), (2, 36), (2, 198), (9, 0)], [], σ) (fun r σ' => r = none ∧ IV σ' ρ 170 b np nt ns L C w tp u tl oc ∧ σ' 289 0 = 1 ∧ HK σ' 170 b np nt ns L C ∧ (∀ K j, (K < 198 ∨ 254 < K) → ¬ (289 ≤ K ∧ K ≤ 292) → σ' K j = σ K j)) := by
  obtain ⟨⟨hl, h05, h33⟩, hL, hN, hPT, hF, hA, hTp, hO, hM, hH⟩ := id h
  obtain ⟨⟨a1, a2, a3, a4⟩, ⟨b1, b2, b3, b4, b5⟩, ⟨c1, c2, c3, c4, c5⟩, hTr, hCa, hAf, hPr, hDi⟩ := id hL
  obtain ⟨hPb, ⟨y1, y2, y3⟩, hhi, hPp⟩ := id hPT
  refine TT.steps (cd := cd129) 2 (c' := (2, [(2, 289), (2, 170), (2, 36), (2, 198), (9, 0)], [(0, (σ 289 0))], σ)) rfl rfl ?_
  refine TT.top0 (z := 0) h0 ?_
  refine TT.steps (cd := cd129) 6 (c' := (9, [(2, 289), (2, 170), (2, 36), (2, 198), (9, 0)], [(2, 170), (2, 289)], (up2 σ 289 0 1))) rfl rfl ?_
  refine TT.call (cd := cd129) rfl rfl rfl (by decide) rfl (v_priced X hl (σ := (up2 σ 289 0 1)) (LT_mv hl hL (fun K j hK => up2_nq _ (by omega)) (fun _ _ _ => rfl) rfl)) (fun r1 σ1 hq => ?_)
  rw [hq.1, hq.2]
  refine TT.steps (cd := cd129) 4 (c' := (14, [(2, 289), (2, 170), (2, 36), (2, 198), (9, 0)], [(2, 36), (2, 170), (2, 198)], (up2 (up2 σ 289 0 1) 289 4 ((bs (pPr ρ b) np : Nat) : Int)))) rfl rfl ?_
  refine TT.call (cd := cd129) rfl rfl rfl (by decide) rfl (v_prep X hl (Or.inl rfl) (σ := (up2 (up2 σ 289 0 1) 289 4 ((bs (pPr ρ b) np : Nat) : Int))) (ρ := ρ) (LT_mv hl hL (fun K j hK => (up2_nq _ (by omega)).trans (up2_nq _ (by omega))) (fun _ _ _ => rfl) rfl) (PTb_mv hPb (fun K j hK => (up2_nq _ (by omega)).trans (up2_nq _ (by omega))) (fun _ _ _ => rfl))) (fun r2 σ2 hq => ?_)
  obtain ⟨rfl, hP1, hF1⟩ := hq
  have hT : TI σ ρ 170 b np nt ns L C := ⟨hL, hPT, hF⟩
  have hPP : ∀ ρ', TI σ ρ' 170 b np nt ns L C → ((bs (pPr ρ b) np : Nat) : Int) = ((bs (pPr ρ' b) np : Nat) : Int) := fun ρ' h' => congrArg (fun x : Nat => (x : Int)) (bs_c (fun p hp => by show decide _ = decide _; rw [← (hPr p hp).1, ← (h'.1.2.2.2.2.2.2.1 p hp).1]))
  have hLH : LHp σ σ2 170 b np nt ns L C 0 := ⟨fun K j h1 h2 => (hF1 K j (by omega)).trans ((up2_nq _ (by omega)).trans (up2_nq _ (by omega))), ⟨(hF1 _ _ (by omega)).trans ((up2_nq _ (by omega)).trans (up2_hit _ _ _ _)), fun ρ' h' => (hF1 _ _ (by omega)).trans ((up2_hit _ _ _ _).trans (hPP ρ' h'))⟩, hP1, fun z hz => by omega⟩
  refine TT.steps (cd := cd129) 2 (c' := (17, [(2, 289), (2, 170), (2, 36), (2, 198), (0, 0)], [], σ2)) rfl rfl ?_
  refine (vl_learn_170 X hl hT (bs (pPr ρ b) np + 1) 0 (by omega) _ hLH).mono (fun r υ hh => ⟨hh.1, ?_, hh.2.2.1.1, LH_HK hl hh.2 hT, hh.2.1⟩)
  exact IV_h h (fun K j h1 h2 => hh.2.1 K j (by omega) h2) (Or.inr ⟨hh.2.2.1.1, LH_HK hl hh.2 hT⟩)
theorem w_learn (X : AX) {l : Nat} {σ ρ : AH} {b np nt ns : Nat} {L : Nat → Nat} {C : Nat → Nat → Nat} {w tp u tl oc : Nat} (h : IV σ ρ l b np nt ns L C w tp u tl oc) : TT X 129 (0, [(2, 289), (2, (l : Int)), (2, 36), (2, 198), (9, 0)], [], σ) (fun r σ' => r = none ∧ IV σ' ρ l b np nt ns L C w tp u tl oc ∧ σ' 289 0 = 1 ∧ HK σ' l b np nt ns L C ∧ (∀ K j, (K < 198 ∨ 254 < K) → ¬ (289 ≤ K ∧ K ≤ 292) → σ' K j = σ K j)) := by
  have hl := h.1.1
  have hH := h.2.2.2.2.2.2.2.2.2
  rcases hl with rfl | rfl
  · rcases hH with h0 | ⟨h0, hk⟩
    · exact w_learn0_8 X h h0
    · exact w_learn1_8 X h h0 hk
  · rcases hH with h0 | ⟨h0, hk⟩
    · exact w_learn0_170 X h h0
    · exact w_learn1_170 X h h0 hk
