/-! The answers over hirings. -/
theorem hi_set {σ ρ : AH} {l b np nt ns : Nat} {L : Nat → Nat} {C : Nat → Nat → Nat} {w tp u tl oc : Nat} (h : IV σ ρ l b np nt ns L C w tp u tl oc) (hk : HK σ l b np nt ns L C) : bs (pPr ρ b) np < 1024 ∧ bs (pPr ρ b) np < 2 ^ np ∧ σ 289 4 = ((bs (pPr ρ b) np : Nat) : Int) ∧ (∀ z : Nat, z ≤ bs (pPr ρ b) np → (((z : Int) < 1024 ∧ aAnd (z : Int) (aXor (σ 289 4) (-1)) = 0) ↔ Hc ρ b np z = true)) := by
  obtain ⟨hI, hL, -, hPT, hF, -⟩ := id h
  have hn := hL.2.2.1.1
  have h4 := (hk ρ hL hPT hF).1
  have hlt := bs_lt (pPr ρ b) np
  have hp10 : 2 ^ np ≤ 1024 := Nat.pow_le_pow_right (by decide) hn
  refine ⟨by omega, hlt, h4, fun z hz => ?_⟩
  have e : aAnd (z : Int) (aXor (σ 289 4) (-1)) = 0 ↔ mCanC ρ b np (z : Int) := by
    rw [h4]
    exact can_iff hL (z := (z : Int)) (by omega)
  rw [e]
  constructor
  · intro hh; exact decide_eq_true hh.2
  · intro hh; exact ⟨by omega, of_decide_eq_true hh⟩
theorem ch_end {σ ρ : AH} {l b np nt ns : Nat} {L : Nat → Nat} {C : Nat → Nat → Nat} (hL : LT σ ρ l b np nt ns L C) (th co : Nat → Int) (need : Int) : chF (Hc ρ b np) th co need (bs (pPr ρ b) np + 1) = chF (Hc ρ b np) th co need (2 ^ np) := by
  have hlt := bs_lt (pPr ρ b) np
  have h31 : 2 ^ np ≤ 1024 := Nat.pow_le_pow_right (by decide) hL.2.2.1.1
  have := chF_st (H := Hc ρ b np) th co need (m := bs (pPr ρ b) np + 1) (2 ^ np - (bs (pPr ρ b) np + 1)) (fun z h1 h2 => Hc_hi hL (by omega) (by omega))
  rw [show bs (pPr ρ b) np + 1 + (2 ^ np - (bs (pPr ρ b) np + 1)) = 2 ^ np by omega] at this
  exact this.symm
theorem chF_in (H : Nat → Bool) (th co : Nat → Int) (need : Int) (n : Nat) : chF H th co need n = -1 ∨ ∃ z : Nat, chF H th co need n = (z : Int) ∧ z < n ∧ H z = true := by
  induction n with
  | zero => exact Or.inl rfl
  | succ n ih =>
    rw [chF]
    split
    · rename_i hh; exact Or.inr ⟨n, rfl, by omega, hh.1⟩
    · rcases ih with h | ⟨z, h1, h2, h3⟩
      · exact Or.inl h
      · exact Or.inr ⟨z, h1, by omega, h3⟩
/-- the coin of what was found -/
theorem ch_coin {σ ρ : AH} {l b np nt ns : Nat} {L : Nat → Nat} {C : Nat → Nat → Nat} (hk : HK σ l b np nt ns L C) (hT : TI σ ρ l b np nt ns L C) (need : Int) (h : ¬ chF (Hc ρ b np) (σ 290) (σ 291) need (2 ^ np) = -1) : mCoin ρ b np (chF (Hc ρ b np) (σ 290) (σ 291) need (2 ^ np)) = σ 291 (chF (Hc ρ b np) (σ 290) (σ 291) need (2 ^ np)).toNat := by
  rcases chF_in (Hc ρ b np) (σ 290) (σ 291) need (2 ^ np) with h1 | ⟨z, h1, h2, h3⟩
  · exact absurd h1 h
  · rw [h1, Int.toNat_natCast]
    exact ((hk ρ hT.1 hT.2.1 hT.2.2).2 z h2 (of_decide_eq_true h3)).2.1.symm
theorem v_coinOrBits_8 (X : AX) {σ ρ : AH} {b np nt ns : Nat} {L : Nat → Nat} {C : Nat → Nat → Nat} {w tp u tl oc : Nat} (h : IV σ ρ 8 b np nt ns L C w tp u tl oc) (need w0 : Int) (hw0 : 0 ≤ w0 ∧ w0 ≤ 1)  : TT X 235 (0, [(2, 0), (0, need), (0, w0), (9, 0)], [], σ) (fun r σ' => r = some (0, if (chF (Hc ρ b np) (σ' 290) (σ' 291) need (2 ^ np)) = -1 then -1 else if w0 = 0 then mCoin ρ b np (chF (Hc ρ b np) (σ' 290) (σ' 291) need (2 ^ np)) else (chF (Hc ρ b np) (σ' 290) (σ' 291) need (2 ^ np))) ∧ IV σ' ρ 8 b np nt ns L C w tp u tl oc ∧ HK σ' 8 b np nt ns L C ∧ (∀ K j, (K < 198 ∨ 254 < K) → ¬ (289 ≤ K ∧ K ≤ 292) → σ' K j = σ K j)) := by
  obtain ⟨⟨hl, h05, h33⟩, hL, hN, hPT, hF, hA, hTp, hO, hM, hH⟩ := id h
  obtain ⟨⟨a1, a2, a3, a4⟩, ⟨b1, b2, b3, b4, b5⟩, ⟨c1, c2, c3, c4, c5⟩, hTr, hCa, hAf, hPr, hDi⟩ := id hL
  obtain ⟨hPb, ⟨y1, y2, y3⟩, hhi, hPp⟩ := id hPT
  refine TT.steps (cd := cd235) 2 (c' := ((if decide (w0 < 0) = true then 5 else 2), [(2, 0), (0, need), (0, w0), (9, 0)], [], σ)) rfl rfl ?_
  refine TT.br (p := w0 < 0) (fun h1 => absurd h1 (show ¬ (w0 < 0) by omega)) (fun h1 => ?_)
  refine TT.steps (cd := cd235) 3 (c' := ((if decide (w0 ≤ 1) = true then 7 else 5), [(2, 0), (0, need), (0, w0), (9, 0)], [], σ)) rfl rfl ?_
  refine TT.br (p := w0 ≤ 1) (fun h2 => ?_) (fun h2 => absurd (show w0 ≤ 1 by omega) h2)
  refine TT.steps (cd := cd235) 4 (c' := (11, [(2, 0), (0, need), (0, w0), (9, 0)], [(2, (σ 0 5)), (2, 289)], σ)) rfl rfl ?_
  refine TT.top0 (z := 8) h05 ?_
  refine TT.steps (cd := cd235) 4 (c' := (15, [(2, 0), (0, need), (0, w0), (9, 0)], [(2, 198), (2, 36), (2, 8), (2, 289)], σ)) rfl rfl ?_
  refine TT.call (cd := cd235) rfl rfl rfl (by decide) rfl (w_learn X h) (fun r3 σ3 hq => ?_)
  obtain ⟨rfl, hI, h90, hk, hFr⟩ := hq
  obtain ⟨hP, hP2, h94, hHH⟩ := hi_set hI hk
  refine TT.steps (cd := cd235) 3 (c' := (19, [(2, 0), (0, need), (0, w0), (9, 0)], [(0, need), (2, 289)], σ3)) rfl rfl ?_
  refine TT.call (cd := cd235) rfl rfl rfl (by decide) rfl (u_cheapest X need (bs (pPr ρ b) np) hP (Hc ρ b np) σ3 h94 hHH) (fun r4 σ4 hq => ?_)
  rw [hq.1, hq.2, ch_end hL]
  refine TT.steps (cd := cd235) 4 (c' := ((if decide (¬ (chF (Hc ρ b np) (σ3 290) (σ3 291) need (2 ^ np)) = (-1)) = true then 26 else 24), [(2, 0), (0, need), (0, w0), (0, (chF (Hc ρ b np) (σ3 290) (σ3 291) need (2 ^ np)))], [], σ3)) rfl rfl ?_
  refine TT.br (p := ¬ (chF (Hc ρ b np) (σ3 290) (σ3 291) need (2 ^ np)) = (-1)) (fun h5 => ?_) (fun h5 => ?_)
  · refine TT.steps (cd := cd235) 2 (c' := ((if decide (¬ w0 = 0) = true then 33 else 28), [(2, 0), (0, need), (0, w0), (0, (chF (Hc ρ b np) (σ3 290) (σ3 291) need (2 ^ np)))], [], σ3)) rfl rfl ?_
    refine TT.br (p := ¬ w0 = 0) (fun h6 => ?_) (fun h6 => ?_)
    · refine TT.steps (cd := cd235) 1 (c' := (34, [(2, 0), (0, need), (0, w0), (0, (chF (Hc ρ b np) (σ3 290) (σ3 291) need (2 ^ np)))], [(0, (chF (Hc ρ b np) (σ3 290) (σ3 291) need (2 ^ np)))], σ3)) rfl rfl ?_
      exact TT.ret (cd := cd235) rfl rfl rfl rfl (⟨by (symm; repeat (first | rw [if_pos (by assumption)] | rw [if_neg (by assumption)] | rw [if_pos (Decidable.not_not.mp (by assumption))])), hI, hk, hFr⟩)
    · refine TT.steps (cd := cd235) 2 (c' := (30, [(2, 0), (0, need), (0, w0), (0, (chF (Hc ρ b np) (σ3 290) (σ3 291) need (2 ^ np)))], [(2, (σ3 0 5))], σ3)) rfl rfl ?_
      refine TT.top0 (z := 8) ((hFr 0 (5) (by omega) (by omega)).trans h05) ?_
      refine TT.steps (cd := cd235) 1 (c' := (31, [(2, 0), (0, need), (0, w0), (0, (chF (Hc ρ b np) (σ3 290) (σ3 291) need (2 ^ np)))], [(0, (chF (Hc ρ b np) (σ3 290) (σ3 291) need (2 ^ np))), (2, 8)], σ3)) rfl rfl ?_
      refine TT.call (cd := cd235) rfl rfl rfl (by decide) rfl (v_coin X hl hI.2.1 (chF (Hc ρ b np) (σ3 290) (σ3 291) need (2 ^ np))) (fun r7 σ7 hq => ?_)
      rw [hq.1, hq.2]
      refine TT.steps (cd := cd235) 1 (c' := (34, [(2, 0), (0, need), (0, w0), (0, (chF (Hc ρ b np) (σ3 290) (σ3 291) need (2 ^ np)))], [(0, (mCoin ρ b np (chF (Hc ρ b np) (σ3 290) (σ3 291) need (2 ^ np))))], σ3)) rfl rfl ?_
      exact TT.ret (cd := cd235) rfl rfl rfl rfl (⟨by (symm; repeat (first | rw [if_pos (by assumption)] | rw [if_neg (by assumption)] | rw [if_pos (Decidable.not_not.mp (by assumption))])), hI, hk, hFr⟩)
  · refine TT.steps (cd := cd235) 1 (c' := (25, [(2, 0), (0, need), (0, w0), (0, (chF (Hc ρ b np) (σ3 290) (σ3 291) need (2 ^ np)))], [(0, -1)], σ3)) rfl rfl ?_
    exact TT.ret (cd := cd235) rfl rfl rfl rfl (⟨by (symm; repeat (first | rw [if_pos (by assumption)] | rw [if_neg (by assumption)] | rw [if_pos (Decidable.not_not.mp (by assumption))])), hI, hk, hFr⟩)
theorem v_coinOrBits_170 (X : AX) {σ ρ : AH} {b np nt ns : Nat} {L : Nat → Nat} {C : Nat → Nat → Nat} {w tp u tl oc : Nat} (h : IV σ ρ 170 b np nt ns L C w tp u tl oc) (need w0 : Int) (hw0 : 0 ≤ w0 ∧ w0 ≤ 1)  : TT X 235 (0, [(2, 0), (0, need), (0, w0), (9, 0)], [], σ) (fun r σ' => r = some (0, if (chF (Hc ρ b np) (σ' 290) (σ' 291) need (2 ^ np)) = -1 then -1 else if w0 = 0 then mCoin ρ b np (chF (Hc ρ b np) (σ' 290) (σ' 291) need (2 ^ np)) else (chF (Hc ρ b np) (σ' 290) (σ' 291) need (2 ^ np))) ∧ IV σ' ρ 170 b np nt ns L C w tp u tl oc ∧ HK σ' 170 b np nt ns L C ∧ (∀ K j, (K < 198 ∨ 254 < K) → ¬ (289 ≤ K ∧ K ≤ 292) → σ' K j = σ K j)) := by
  obtain ⟨⟨hl, h05, h33⟩, hL, hN, hPT, hF, hA, hTp, hO, hM, hH⟩ := id h
  obtain ⟨⟨a1, a2, a3, a4⟩, ⟨b1, b2, b3, b4, b5⟩, ⟨c1, c2, c3, c4, c5⟩, hTr, hCa, hAf, hPr, hDi⟩ := id hL
  obtain ⟨hPb, ⟨y1, y2, y3⟩, hhi, hPp⟩ := id hPT
  refine TT.steps (cd := cd235) 2 (c' := ((if decide (w0 < 0) = true then 5 else 2), [(2, 0), (0, need), (0, w0), (9, 0)], [], σ)) rfl rfl ?_
  refine TT.br (p := w0 < 0) (fun h1 => absurd h1 (show ¬ (w0 < 0) by omega)) (fun h1 => ?_)
  refine TT.steps (cd := cd235) 3 (c' := ((if decide (w0 ≤ 1) = true then 7 else 5), [(2, 0), (0, need), (0, w0), (9, 0)], [], σ)) rfl rfl ?_
  refine TT.br (p := w0 ≤ 1) (fun h2 => ?_) (fun h2 => absurd (show w0 ≤ 1 by omega) h2)
  refine TT.steps (cd := cd235) 4 (c' := (11, [(2, 0), (0, need), (0, w0), (9, 0)], [(2, (σ 0 5)), (2, 289)], σ)) rfl rfl ?_
  refine TT.top0 (z := 170) h05 ?_
  refine TT.steps (cd := cd235) 4 (c' := (15, [(2, 0), (0, need), (0, w0), (9, 0)], [(2, 198), (2, 36), (2, 170), (2, 289)], σ)) rfl rfl ?_
  refine TT.call (cd := cd235) rfl rfl rfl (by decide) rfl (w_learn X h) (fun r3 σ3 hq => ?_)
  obtain ⟨rfl, hI, h90, hk, hFr⟩ := hq
  obtain ⟨hP, hP2, h94, hHH⟩ := hi_set hI hk
  refine TT.steps (cd := cd235) 3 (c' := (19, [(2, 0), (0, need), (0, w0), (9, 0)], [(0, need), (2, 289)], σ3)) rfl rfl ?_
  refine TT.call (cd := cd235) rfl rfl rfl (by decide) rfl (u_cheapest X need (bs (pPr ρ b) np) hP (Hc ρ b np) σ3 h94 hHH) (fun r4 σ4 hq => ?_)
  rw [hq.1, hq.2, ch_end hL]
  refine TT.steps (cd := cd235) 4 (c' := ((if decide (¬ (chF (Hc ρ b np) (σ3 290) (σ3 291) need (2 ^ np)) = (-1)) = true then 26 else 24), [(2, 0), (0, need), (0, w0), (0, (chF (Hc ρ b np) (σ3 290) (σ3 291) need (2 ^ np)))], [], σ3)) rfl rfl ?_
  refine TT.br (p := ¬ (chF (Hc ρ b np) (σ3 290) (σ3 291) need (2 ^ np)) = (-1)) (fun h5 => ?_) (fun h5 => ?_)
  · refine TT.steps (cd := cd235) 2 (c' := ((if decide (¬ w0 = 0) = true then 33 else 28), [(2, 0), (0, need), (0, w0), (0, (chF (Hc ρ b np) (σ3 290) (σ3 291) need (2 ^ np)))], [], σ3)) rfl rfl ?_
    refine TT.br (p := ¬ w0 = 0) (fun h6 => ?_) (fun h6 => ?_)
    · refine TT.steps (cd := cd235) 1 (c' := (34, [(2, 0), (0, need), (0, w0), (0, (chF (Hc ρ b np) (σ3 290) (σ3 291) need (2 ^ np)))], [(0, (chF (Hc ρ b np) (σ3 290) (σ3 291) need (2 ^ np)))], σ3)) rfl rfl ?_
      exact TT.ret (cd := cd235) rfl rfl rfl rfl (⟨by (symm; repeat (first | rw [if_pos (by assumption)] | rw [if_neg (by assumption)] | rw [if_pos (Decidable.not_not.mp (by assumption))])), hI, hk, hFr⟩)
    · refine TT.steps (cd := cd235) 2 (c' := (30, [(2, 0), (0, need), (0, w0), (0, (chF (Hc ρ b np) (σ3 290) (σ3 291) need (2 ^ np)))], [(2, (σ3 0 5))], σ3)) rfl rfl ?_
      refine TT.top0 (z := 170) ((hFr 0 (5) (by omega) (by omega)).trans h05) ?_
      refine TT.steps (cd := cd235) 1 (c' := (31, [(2, 0), (0, need), (0, w0), (0, (chF (Hc ρ b np) (σ3 290) (σ3 291) need (2 ^ np)))], [(0, (chF (Hc ρ b np) (σ3 290) (σ3 291) need (2 ^ np))), (2, 170)], σ3)) rfl rfl ?_
      refine TT.call (cd := cd235) rfl rfl rfl (by decide) rfl (v_coin X hl hI.2.1 (chF (Hc ρ b np) (σ3 290) (σ3 291) need (2 ^ np))) (fun r7 σ7 hq => ?_)
      rw [hq.1, hq.2]
      refine TT.steps (cd := cd235) 1 (c' := (34, [(2, 0), (0, need), (0, w0), (0, (chF (Hc ρ b np) (σ3 290) (σ3 291) need (2 ^ np)))], [(0, (mCoin ρ b np (chF (Hc ρ b np) (σ3 290) (σ3 291) need (2 ^ np))))], σ3)) rfl rfl ?_
      exact TT.ret (cd := cd235) rfl rfl rfl rfl (⟨by (symm; repeat (first | rw [if_pos (by assumption)] | rw [if_neg (by assumption)] | rw [if_pos (Decidable.not_not.mp (by assumption))])), hI, hk, hFr⟩)
  · refine TT.steps (cd := cd235) 1 (c' := (25, [(2, 0), (0, need), (0, w0), (0, (chF (Hc ρ b np) (σ3 290) (σ3 291) need (2 ^ np)))], [(0, -1)], σ3)) rfl rfl ?_
    exact TT.ret (cd := cd235) rfl rfl rfl rfl (⟨by (symm; repeat (first | rw [if_pos (by assumption)] | rw [if_neg (by assumption)] | rw [if_pos (Decidable.not_not.mp (by assumption))])), hI, hk, hFr⟩)
theorem v_coinOrBits (X : AX) {l : Nat} {σ ρ : AH} {b np nt ns : Nat} {L : Nat → Nat} {C : Nat → Nat → Nat} {w tp u tl oc : Nat} (h : IV σ ρ l b np nt ns L C w tp u tl oc) (need w0 : Int) (hw0 : 0 ≤ w0 ∧ w0 ≤ 1)  : TT X 235 (0, [(2, 0), (0, need), (0, w0), (9, 0)], [], σ) (fun r σ' => r = some (0, if (chF (Hc ρ b np) (σ' 290) (σ' 291) need (2 ^ np)) = -1 then -1 else if w0 = 0 then mCoin ρ b np (chF (Hc ρ b np) (σ' 290) (σ' 291) need (2 ^ np)) else (chF (Hc ρ b np) (σ' 290) (σ' 291) need (2 ^ np))) ∧ IV σ' ρ l b np nt ns L C w tp u tl oc ∧ HK σ' l b np nt ns L C ∧ (∀ K j, (K < 198 ∨ 254 < K) → ¬ (289 ≤ K ∧ K ≤ 292) → σ' K j = σ K j)) := by
  rcases h.1.1 with rfl | rfl
  · exact v_coinOrBits_8 X h need w0 hw0
  · exact v_coinOrBits_170 X h need w0 hw0
