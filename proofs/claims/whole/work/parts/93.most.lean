/-! most and places. -/
theorem aAnd63 (x : Int) : 0 ≤ aAnd x 63 ∧ aAnd x 63 ≤ 63 := by
  have e : aAnd x 63 = ((Int32.ofInt x).toBitVec &&& (63#32)).toInt := rfl
  have h : ((Int32.ofInt x).toBitVec &&& (63#32)).toNat ≤ 63 := by
    rw [BitVec.toNat_and]; exact Nat.and_le_right
  rw [e, BitVec.toInt_eq_toNat_of_lt (by omega)]
  omega
theorem aBC_any (x : Int) : 0 ≤ aBC x ∧ aBC x ≤ 1000 := by
  have : 0 ≤ aBC x ∧ aBC x ≤ 63 := by unfold aBC; exact aAnd63 _
  omega
theorem be_end {σ ρ : AH} {l b np nt ns : Nat} {L : Nat → Nat} {C : Nat → Nat → Nat} (hL : LT σ ρ l b np nt ns L C) (ct co : Nat → Int) : beF (Hc ρ b np) ct co (bs (pPr ρ b) np) = beF (Hc ρ b np) ct co (2 ^ np - 1) := by
  have hlt := bs_lt (pPr ρ b) np
  have h31 : 2 ^ np ≤ 1024 := Nat.pow_le_pow_right (by decide) hL.2.2.1.1
  have := beF_st (H := Hc ρ b np) ct co (m := bs (pPr ρ b) np) (2 ^ np - 1 - bs (pPr ρ b) np) (fun z h1 h2 => Hc_hi hL (by omega) (by omega))
  rw [show bs (pPr ρ b) np + (2 ^ np - 1 - bs (pPr ρ b) np) = 2 ^ np - 1 by omega] at this
  exact this.symm
theorem fe_end {σ ρ : AH} {l b np nt ns : Nat} {L : Nat → Nat} {C : Nat → Nat → Nat} (hL : LT σ ρ l b np nt ns L C) (sv co : Nat → Int) : feF (Hc ρ b np) sv co (bs (pPr ρ b) np + 1) = feF (Hc ρ b np) sv co (2 ^ np) := by
  have hlt := bs_lt (pPr ρ b) np
  have h31 : 2 ^ np ≤ 1024 := Nat.pow_le_pow_right (by decide) hL.2.2.1.1
  have := feF_st (H := Hc ρ b np) sv co (m := bs (pPr ρ b) np + 1) (2 ^ np - (bs (pPr ρ b) np + 1)) (fun z h1 h2 => Hc_hi hL (by omega) (by omega))
  rw [show bs (pPr ρ b) np + 1 + (2 ^ np - (bs (pPr ρ b) np + 1)) = 2 ^ np by omega] at this
  exact this.symm
theorem beF_in {H : Nat → Bool} (ct co : Nat → Int) (h0 : H 0 = true) (n : Nat) : H (beF H ct co n) = true := by
  induction n with
  | zero => exact h0
  | succ n ih =>
    rw [beF]
    split
    · rename_i hh; exact hh.1
    · exact ih
theorem feF_in (H : Nat → Bool) (sv co : Nat → Int) (n : Nat) : feF H sv co n = -1 ∨ ∃ z : Nat, feF H sv co n = (z : Int) ∧ z < n ∧ H z = true := by
  induction n with
  | zero => exact Or.inl rfl
  | succ n ih =>
    rw [feF]
    split
    · rename_i hh; exact Or.inr ⟨n, rfl, by omega, hh.1⟩
    · rcases ih with h | ⟨z, h1, h2, h3⟩
      · exact Or.inl h
      · exact Or.inr ⟨z, h1, by omega, h3⟩
abbrev bB (σ ρ : AH) (b np : Nat) : Nat := beF (Hc ρ b np) (fun z => aBC (σ 290 z)) (σ 291) (2 ^ np - 1)
abbrev fB (σ ρ : AH) (b np : Nat) : Int := feF (Hc ρ b np) (σ 292) (σ 291) (2 ^ np)
theorem mo_ans {σ ρ : AH} {l b np nt ns : Nat} {L : Nat → Nat} {C : Nat → Nat → Nat} (hl : l = 8 ∨ l = 170) (hk : HK σ l b np nt ns L C) (hT : TI σ ρ l b np nt ns L C) : RS ρ (mMo ρ b np nt L (2 ^ np)).2.2.2 ∧ (mMo ρ b np nt L (2 ^ np)).1 = ((bB σ ρ b np : Nat) : Int) ∧ (mMo ρ b np nt L (2 ^ np)).2.1 = aBC (σ 290 (bB σ ρ b np)) ∧ (mMo ρ b np nt L (2 ^ np)).2.2.1 = mCoin ρ b np ((bB σ ρ b np : Nat) : Int) ∧ bB σ ρ b np < 1024 := by
  have hpos : 0 < 2 ^ np := Nat.pos_of_ne_zero (by simp)
  have h31 : 2 ^ np ≤ 1024 := Nat.pow_le_pow_right (by decide) hT.1.2.2.1.1
  obtain ⟨m1, m2, m3, m4⟩ := mo_main hl hk hT (2 ^ np - 1) (by omega)
  rw [show 2 ^ np - 1 + 1 = 2 ^ np by omega] at m1 m2 m3 m4
  have hle := beF_le (Hc ρ b np) (fun z => aBC (σ 290 z)) (σ 291) (2 ^ np - 1)
  have hin := beF_in (H := Hc ρ b np) (fun z => aBC (σ 290 z)) (σ 291) (decide_eq_true (can_0 hT.1)) (2 ^ np - 1)
  refine ⟨m1, m2, m3, ?_, by show beF _ _ _ _ < 1024; omega⟩
  rw [m4]
  exact ((hk ρ hT.1 hT.2.1 hT.2.2).2 _ (by omega) (of_decide_eq_true hin)).2.1
theorem pl_ans {σ ρ : AH} {l b np nt ns : Nat} {L : Nat → Nat} {C : Nat → Nat → Nat} (hl : l = 8 ∨ l = 170) (hk : HK σ l b np nt ns L C) (hT : TI σ ρ l b np nt ns L C) : RS ρ (mPl ρ b np nt L ns (2 ^ np)).2.2.2 ∧ (mPl ρ b np nt L ns (2 ^ np)).1 = fB σ ρ b np ∧ (¬ fB σ ρ b np = -1 → (mPl ρ b np nt L ns (2 ^ np)).2.1 = aBC (fB σ ρ b np) ∧ (mPl ρ b np nt L ns (2 ^ np)).2.2.1 = mCoin ρ b np (fB σ ρ b np)) := by
  obtain ⟨m1, m2, m3, m4⟩ := pl_main hl hk hT (2 ^ np) (Nat.le_refl _)
  refine ⟨m1, m2, fun h => ?_⟩
  rw [m2] at m3 m4
  rcases feF_in (Hc ρ b np) (σ 292) (σ 291) (2 ^ np) with h1 | ⟨z, h1, h2, h3⟩
  · exact absurd h1 h
  · have h1' : fB σ ρ b np = (z : Int) := h1
    rw [h1] at m3 m4
    rw [if_neg (by omega), Int.toNat_natCast] at m3 m4
    rw [h1', m3, m4]
    exact ⟨rfl, ((hk ρ hT.1 hT.2.1 hT.2.2).2 z h2 (of_decide_eq_true h3)).2.1⟩
theorem K_most1_8 (X : AX) {σ ρ : AH} {b np nt ns : Nat} {L : Nat → Nat} {C : Nat → Nat → Nat} {w tp u tl oc : Nat} (h : IV σ ρ 8 b np nt ns L C w tp u tl oc) (w0 : Int) (hw0 : 0 ≤ w0 ∧ w0 ≤ 2)  : TT X 201 (0, [(2, 0), (0, w0), (9, 0)], [], σ) (fun r σ' => r = some (0, if w0 = 0 then (mMo ρ b np nt L (2 ^ np)).2.1 else if w0 = 1 then (mMo ρ b np nt L (2 ^ np)).2.2.1 else (mMo ρ b np nt L (2 ^ np)).1) ∧ RS ρ (mMo ρ b np nt L (2 ^ np)).2.2.2 ∧ IV σ' ρ 8 b np nt ns L C w tp u tl oc ∧ (∀ K j, (K < 198 ∨ 254 < K) → ¬ (289 ≤ K ∧ K ≤ 292) → σ' K j = σ K j)) := by
  obtain ⟨⟨hl, h05, h33⟩, hL, hN, hPT, hF, hA, hTp, hO, hM, hH⟩ := id h
  obtain ⟨⟨a1, a2, a3, a4⟩, ⟨b1, b2, b3, b4, b5⟩, ⟨c1, c2, c3, c4, c5⟩, hTr, hCa, hAf, hPr, hDi⟩ := id hL
  obtain ⟨hPb, ⟨y1, y2, y3⟩, hhi, hPp⟩ := id hPT
  refine TT.steps (cd := cd201) 4 (c' := (4, [(2, 0), (0, w0), (9, 0)], [(2, (σ 0 5)), (2, 289)], σ)) rfl rfl ?_
  refine TT.top0 (z := 8) h05 ?_
  refine TT.steps (cd := cd201) 4 (c' := (8, [(2, 0), (0, w0), (9, 0)], [(2, 198), (2, 36), (2, 8), (2, 289)], σ)) rfl rfl ?_
  refine TT.call (cd := cd201) rfl rfl rfl (by decide) rfl (w_learn X h) (fun r1 σ1 hq => ?_)
  obtain ⟨rfl, hI, h90, hk, hFr⟩ := hq
  obtain ⟨hP, hP2, h94, hHH⟩ := hi_set hI hk
  refine TT.steps (cd := cd201) 2 (c' := (11, [(2, 0), (0, w0), (9, 0)], [(2, 289)], σ1)) rfl rfl ?_
  refine TT.call (cd := cd201) rfl rfl rfl (by decide) rfl (u_best X (bs (pPr ρ b) np) hP (Hc ρ b np) σ1 h94 hHH (fun z _ => aBC_any _)) (fun r2 σ2 hq => ?_)
  rw [hq.1, hq.2, be_end hL]
  obtain ⟨m1, m2, m3, m4, hB⟩ := mo_ans hl hk ⟨hI.2.1, hI.2.2.2.1, hI.2.2.2.2.1⟩
  refine TT.steps (cd := cd201) 3 (c' := ((swOf [(0, 15), (1, 20), (2, 25)] 27 w0), [(2, 0), (0, w0), (0, (((bB σ1 ρ b np) : Nat) : Int))], [], σ1)) rfl rfl ?_
  refine TT.swc (fun h3 => ?_) (fun h3 => ?_)
  · refine TT.steps (cd := cd201) 3 (c' := (18, [(2, 0), (0, w0), (0, (((bB σ1 ρ b np) : Nat) : Int))], [(0, (((bB σ1 ρ b np) : Nat) : Int)), (2, 289)], σ1)) rfl rfl ?_
    refine TT.call (cd := cd201) rfl rfl rfl (by decide) rfl (u_countThere X (bB σ1 ρ b np) hB σ1) (fun r4 σ4 hq => ?_)
    rw [hq.1, hq.2]
    exact TT.ret (cd := cd201) rfl rfl rfl rfl (⟨by (rw [m2, m3, m4]; symm; repeat (first | rw [if_pos (by assumption)] | rw [if_neg (by assumption)])), m1, hI, hFr⟩)
  refine TT.swc (fun h5 => ?_) (fun h5 => ?_)
  · refine TT.steps (cd := cd201) 2 (c' := (22, [(2, 0), (0, w0), (0, (((bB σ1 ρ b np) : Nat) : Int))], [(2, (σ1 0 5))], σ1)) rfl rfl ?_
    refine TT.top0 (z := 8) ((hFr 0 (5) (by omega) (by omega)).trans h05) ?_
    refine TT.steps (cd := cd201) 1 (c' := (23, [(2, 0), (0, w0), (0, (((bB σ1 ρ b np) : Nat) : Int))], [(0, (((bB σ1 ρ b np) : Nat) : Int)), (2, 8)], σ1)) rfl rfl ?_
    refine TT.call (cd := cd201) rfl rfl rfl (by decide) rfl (v_coin X hl hI.2.1 (((bB σ1 ρ b np) : Nat) : Int)) (fun r6 σ6 hq => ?_)
    rw [hq.1, hq.2]
    exact TT.ret (cd := cd201) rfl rfl rfl rfl (⟨by (rw [m2, m3, m4]; symm; repeat (first | rw [if_pos (by assumption)] | rw [if_neg (by assumption)])), m1, hI, hFr⟩)
  refine TT.swc (fun h7 => ?_) (fun h7 => ?_)
  · refine TT.steps (cd := cd201) 1 (c' := (26, [(2, 0), (0, w0), (0, (((bB σ1 ρ b np) : Nat) : Int))], [(0, (((bB σ1 ρ b np) : Nat) : Int))], σ1)) rfl rfl ?_
    exact TT.ret (cd := cd201) rfl rfl rfl rfl (⟨by (rw [m2, m3, m4]; symm; repeat (first | rw [if_pos (by assumption)] | rw [if_neg (by assumption)])), m1, hI, hFr⟩)
  show TT X 201 (27, [(2, 0), (0, w0), (0, (((bB σ1 ρ b np) : Nat) : Int))], [], σ1) _
  omega
theorem K_most1_170 (X : AX) {σ ρ : AH} {b np nt ns : Nat} {L : Nat → Nat} {C : Nat → Nat → Nat} {w tp u tl oc : Nat} (h : IV σ ρ 170 b np nt ns L C w tp u tl oc) (w0 : Int) (hw0 : 0 ≤ w0 ∧ w0 ≤ 2)  : TT X 201 (0, [(2, 0), (0, w0), (9, 0)], [], σ) (fun r σ' => r = some (0, if w0 = 0 then (mMo ρ b np nt L (2 ^ np)).2.1 else if w0 = 1 then (mMo ρ b np nt L (2 ^ np)).2.2.1 else (mMo ρ b np nt L (2 ^ np)).1) ∧ RS ρ (mMo ρ b np nt L (2 ^ np)).2.2.2 ∧ IV σ' ρ 170 b np nt ns L C w tp u tl oc ∧ (∀ K j, (K < 198 ∨ 254 < K) → ¬ (289 ≤ K ∧ K ≤ 292) → σ' K j = σ K j)) := by
  obtain ⟨⟨hl, h05, h33⟩, hL, hN, hPT, hF, hA, hTp, hO, hM, hH⟩ := id h
  obtain ⟨⟨a1, a2, a3, a4⟩, ⟨b1, b2, b3, b4, b5⟩, ⟨c1, c2, c3, c4, c5⟩, hTr, hCa, hAf, hPr, hDi⟩ := id hL
  obtain ⟨hPb, ⟨y1, y2, y3⟩, hhi, hPp⟩ := id hPT
  refine TT.steps (cd := cd201) 4 (c' := (4, [(2, 0), (0, w0), (9, 0)], [(2, (σ 0 5)), (2, 289)], σ)) rfl rfl ?_
  refine TT.top0 (z := 170) h05 ?_
  refine TT.steps (cd := cd201) 4 (c' := (8, [(2, 0), (0, w0), (9, 0)], [(2, 198), (2, 36), (2, 170), (2, 289)], σ)) rfl rfl ?_
  refine TT.call (cd := cd201) rfl rfl rfl (by decide) rfl (w_learn X h) (fun r1 σ1 hq => ?_)
  obtain ⟨rfl, hI, h90, hk, hFr⟩ := hq
  obtain ⟨hP, hP2, h94, hHH⟩ := hi_set hI hk
  refine TT.steps (cd := cd201) 2 (c' := (11, [(2, 0), (0, w0), (9, 0)], [(2, 289)], σ1)) rfl rfl ?_
  refine TT.call (cd := cd201) rfl rfl rfl (by decide) rfl (u_best X (bs (pPr ρ b) np) hP (Hc ρ b np) σ1 h94 hHH (fun z _ => aBC_any _)) (fun r2 σ2 hq => ?_)
  rw [hq.1, hq.2, be_end hL]
  obtain ⟨m1, m2, m3, m4, hB⟩ := mo_ans hl hk ⟨hI.2.1, hI.2.2.2.1, hI.2.2.2.2.1⟩
  refine TT.steps (cd := cd201) 3 (c' := ((swOf [(0, 15), (1, 20), (2, 25)] 27 w0), [(2, 0), (0, w0), (0, (((bB σ1 ρ b np) : Nat) : Int))], [], σ1)) rfl rfl ?_
  refine TT.swc (fun h3 => ?_) (fun h3 => ?_)
  · refine TT.steps (cd := cd201) 3 (c' := (18, [(2, 0), (0, w0), (0, (((bB σ1 ρ b np) : Nat) : Int))], [(0, (((bB σ1 ρ b np) : Nat) : Int)), (2, 289)], σ1)) rfl rfl ?_
    refine TT.call (cd := cd201) rfl rfl rfl (by decide) rfl (u_countThere X (bB σ1 ρ b np) hB σ1) (fun r4 σ4 hq => ?_)
    rw [hq.1, hq.2]
    exact TT.ret (cd := cd201) rfl rfl rfl rfl (⟨by (rw [m2, m3, m4]; symm; repeat (first | rw [if_pos (by assumption)] | rw [if_neg (by assumption)])), m1, hI, hFr⟩)
  refine TT.swc (fun h5 => ?_) (fun h5 => ?_)
  · refine TT.steps (cd := cd201) 2 (c' := (22, [(2, 0), (0, w0), (0, (((bB σ1 ρ b np) : Nat) : Int))], [(2, (σ1 0 5))], σ1)) rfl rfl ?_
    refine TT.top0 (z := 170) ((hFr 0 (5) (by omega) (by omega)).trans h05) ?_
    refine TT.steps (cd := cd201) 1 (c' := (23, [(2, 0), (0, w0), (0, (((bB σ1 ρ b np) : Nat) : Int))], [(0, (((bB σ1 ρ b np) : Nat) : Int)), (2, 170)], σ1)) rfl rfl ?_
    refine TT.call (cd := cd201) rfl rfl rfl (by decide) rfl (v_coin X hl hI.2.1 (((bB σ1 ρ b np) : Nat) : Int)) (fun r6 σ6 hq => ?_)
    rw [hq.1, hq.2]
    exact TT.ret (cd := cd201) rfl rfl rfl rfl (⟨by (rw [m2, m3, m4]; symm; repeat (first | rw [if_pos (by assumption)] | rw [if_neg (by assumption)])), m1, hI, hFr⟩)
  refine TT.swc (fun h7 => ?_) (fun h7 => ?_)
  · refine TT.steps (cd := cd201) 1 (c' := (26, [(2, 0), (0, w0), (0, (((bB σ1 ρ b np) : Nat) : Int))], [(0, (((bB σ1 ρ b np) : Nat) : Int))], σ1)) rfl rfl ?_
    exact TT.ret (cd := cd201) rfl rfl rfl rfl (⟨by (rw [m2, m3, m4]; symm; repeat (first | rw [if_pos (by assumption)] | rw [if_neg (by assumption)])), m1, hI, hFr⟩)
  show TT X 201 (27, [(2, 0), (0, w0), (0, (((bB σ1 ρ b np) : Nat) : Int))], [], σ1) _
  omega
theorem K_most1 (X : AX) {l : Nat} {σ ρ : AH} {b np nt ns : Nat} {L : Nat → Nat} {C : Nat → Nat → Nat} {w tp u tl oc : Nat} (h : IV σ ρ l b np nt ns L C w tp u tl oc) (w0 : Int) (hw0 : 0 ≤ w0 ∧ w0 ≤ 2)  : TT X 201 (0, [(2, 0), (0, w0), (9, 0)], [], σ) (fun r σ' => r = some (0, if w0 = 0 then (mMo ρ b np nt L (2 ^ np)).2.1 else if w0 = 1 then (mMo ρ b np nt L (2 ^ np)).2.2.1 else (mMo ρ b np nt L (2 ^ np)).1) ∧ RS ρ (mMo ρ b np nt L (2 ^ np)).2.2.2 ∧ IV σ' ρ l b np nt ns L C w tp u tl oc ∧ (∀ K j, (K < 198 ∨ 254 < K) → ¬ (289 ≤ K ∧ K ≤ 292) → σ' K j = σ K j)) := by
  rcases h.1.1 with rfl | rfl
  · exact K_most1_8 X h w0 hw0
  · exact K_most1_170 X h w0 hw0
theorem K_most0_8 (X : AX) {σ ρ : AH} {b np nt ns : Nat} {L : Nat → Nat} {C : Nat → Nat → Nat} {w tp u tl oc : Nat} (h : IV σ ρ 8 b np nt ns L C w tp u tl oc) (w0 : Int) (hw0 : ¬ (0 ≤ w0 ∧ w0 ≤ 2))  : TT X 201 (0, [(2, 0), (0, w0), (9, 0)], [], σ) (fun r σ' => r = some (0, -1) ∧ IV σ' ρ 8 b np nt ns L C w tp u tl oc ∧ (∀ K j, (K < 198 ∨ 254 < K) → ¬ (289 ≤ K ∧ K ≤ 292) → σ' K j = σ K j)) := by
  obtain ⟨⟨hl, h05, h33⟩, hL, hN, hPT, hF, hA, hTp, hO, hM, hH⟩ := id h
  obtain ⟨⟨a1, a2, a3, a4⟩, ⟨b1, b2, b3, b4, b5⟩, ⟨c1, c2, c3, c4, c5⟩, hTr, hCa, hAf, hPr, hDi⟩ := id hL
  obtain ⟨hPb, ⟨y1, y2, y3⟩, hhi, hPp⟩ := id hPT
  refine TT.steps (cd := cd201) 4 (c' := (4, [(2, 0), (0, w0), (9, 0)], [(2, (σ 0 5)), (2, 289)], σ)) rfl rfl ?_
  refine TT.top0 (z := 8) h05 ?_
  refine TT.steps (cd := cd201) 4 (c' := (8, [(2, 0), (0, w0), (9, 0)], [(2, 198), (2, 36), (2, 8), (2, 289)], σ)) rfl rfl ?_
  refine TT.call (cd := cd201) rfl rfl rfl (by decide) rfl (w_learn X h) (fun r1 σ1 hq => ?_)
  obtain ⟨rfl, hI, h90, hk, hFr⟩ := hq
  obtain ⟨hP, hP2, h94, hHH⟩ := hi_set hI hk
  refine TT.steps (cd := cd201) 2 (c' := (11, [(2, 0), (0, w0), (9, 0)], [(2, 289)], σ1)) rfl rfl ?_
  refine TT.call (cd := cd201) rfl rfl rfl (by decide) rfl (u_best X (bs (pPr ρ b) np) hP (Hc ρ b np) σ1 h94 hHH (fun z _ => aBC_any _)) (fun r2 σ2 hq => ?_)
  rw [hq.1, hq.2, be_end hL]
  obtain ⟨m1, m2, m3, m4, hB⟩ := mo_ans hl hk ⟨hI.2.1, hI.2.2.2.1, hI.2.2.2.2.1⟩
  refine TT.steps (cd := cd201) 3 (c' := ((swOf [(0, 15), (1, 20), (2, 25)] 27 w0), [(2, 0), (0, w0), (0, (((bB σ1 ρ b np) : Nat) : Int))], [], σ1)) rfl rfl ?_
  refine TT.swc (fun h3 => ?_) (fun h3 => ?_)
  · omega
  refine TT.swc (fun h4 => ?_) (fun h4 => ?_)
  · omega
  refine TT.swc (fun h5 => ?_) (fun h5 => ?_)
  · omega
  show TT X 201 (27, [(2, 0), (0, w0), (0, (((bB σ1 ρ b np) : Nat) : Int))], [], σ1) _
  refine TT.steps (cd := cd201) 1 (c' := (28, [(2, 0), (0, w0), (0, (((bB σ1 ρ b np) : Nat) : Int))], [(0, -1)], σ1)) rfl rfl ?_
  exact TT.ret (cd := cd201) rfl rfl rfl rfl (⟨rfl, hI, hFr⟩)
theorem K_most0_170 (X : AX) {σ ρ : AH} {b np nt ns : Nat} {L : Nat → Nat} {C : Nat → Nat → Nat} {w tp u tl oc : Nat} (h : IV σ ρ 170 b np nt ns L C w tp u tl oc) (w0 : Int) (hw0 : ¬ (0 ≤ w0 ∧ w0 ≤ 2))  : TT X 201 (0, [(2, 0), (0, w0), (9, 0)], [], σ) (fun r σ' => r = some (0, -1) ∧ IV σ' ρ 170 b np nt ns L C w tp u tl oc ∧ (∀ K j, (K < 198 ∨ 254 < K) → ¬ (289 ≤ K ∧ K ≤ 292) → σ' K j = σ K j)) := by
  obtain ⟨⟨hl, h05, h33⟩, hL, hN, hPT, hF, hA, hTp, hO, hM, hH⟩ := id h
  obtain ⟨⟨a1, a2, a3, a4⟩, ⟨b1, b2, b3, b4, b5⟩, ⟨c1, c2, c3, c4, c5⟩, hTr, hCa, hAf, hPr, hDi⟩ := id hL
  obtain ⟨hPb, ⟨y1, y2, y3⟩, hhi, hPp⟩ := id hPT
  refine TT.steps (cd := cd201) 4 (c' := (4, [(2, 0), (0, w0), (9, 0)], [(2, (σ 0 5)), (2, 289)], σ)) rfl rfl ?_
  refine TT.top0 (z := 170) h05 ?_
  refine TT.steps (cd := cd201) 4 (c' := (8, [(2, 0), (0, w0), (9, 0)], [(2, 198), (2, 36), (2, 170), (2, 289)], σ)) rfl rfl ?_
  refine TT.call (cd := cd201) rfl rfl rfl (by decide) rfl (w_learn X h) (fun r1 σ1 hq => ?_)
  obtain ⟨rfl, hI, h90, hk, hFr⟩ := hq
  obtain ⟨hP, hP2, h94, hHH⟩ := hi_set hI hk
  refine TT.steps (cd := cd201) 2 (c' := (11, [(2, 0), (0, w0), (9, 0)], [(2, 289)], σ1)) rfl rfl ?_
  refine TT.call (cd := cd201) rfl rfl rfl (by decide) rfl (u_best X (bs (pPr ρ b) np) hP (Hc ρ b np) σ1 h94 hHH (fun z _ => aBC_any _)) (fun r2 σ2 hq => ?_)
  rw [hq.1, hq.2, be_end hL]
  obtain ⟨m1, m2, m3, m4, hB⟩ := mo_ans hl hk ⟨hI.2.1, hI.2.2.2.1, hI.2.2.2.2.1⟩
  refine TT.steps (cd := cd201) 3 (c' := ((swOf [(0, 15), (1, 20), (2, 25)] 27 w0), [(2, 0), (0, w0), (0, (((bB σ1 ρ b np) : Nat) : Int))], [], σ1)) rfl rfl ?_
  refine TT.swc (fun h3 => ?_) (fun h3 => ?_)
  · omega
  refine TT.swc (fun h4 => ?_) (fun h4 => ?_)
  · omega
  refine TT.swc (fun h5 => ?_) (fun h5 => ?_)
  · omega
  show TT X 201 (27, [(2, 0), (0, w0), (0, (((bB σ1 ρ b np) : Nat) : Int))], [], σ1) _
  refine TT.steps (cd := cd201) 1 (c' := (28, [(2, 0), (0, w0), (0, (((bB σ1 ρ b np) : Nat) : Int))], [(0, -1)], σ1)) rfl rfl ?_
  exact TT.ret (cd := cd201) rfl rfl rfl rfl (⟨rfl, hI, hFr⟩)
theorem K_most0 (X : AX) {l : Nat} {σ ρ : AH} {b np nt ns : Nat} {L : Nat → Nat} {C : Nat → Nat → Nat} {w tp u tl oc : Nat} (h : IV σ ρ l b np nt ns L C w tp u tl oc) (w0 : Int) (hw0 : ¬ (0 ≤ w0 ∧ w0 ≤ 2))  : TT X 201 (0, [(2, 0), (0, w0), (9, 0)], [], σ) (fun r σ' => r = some (0, -1) ∧ IV σ' ρ l b np nt ns L C w tp u tl oc ∧ (∀ K j, (K < 198 ∨ 254 < K) → ¬ (289 ≤ K ∧ K ≤ 292) → σ' K j = σ K j)) := by
  rcases h.1.1 with rfl | rfl
  · exact K_most0_8 X h w0 hw0
  · exact K_most0_170 X h w0 hw0
theorem K_places1_8 (X : AX) {σ ρ : AH} {b np nt ns : Nat} {L : Nat → Nat} {C : Nat → Nat → Nat} {w tp u tl oc : Nat} (h : IV σ ρ 8 b np nt ns L C w tp u tl oc) (w0 : Int) (hw0 : 0 ≤ w0 ∧ w0 ≤ 2)  : TT X 202 (0, [(2, 0), (0, w0), (9, 0)], [], σ) (fun r σ' => r = some (0, if (mPl ρ b np nt L ns (2 ^ np)).1 = -1 then -1 else if w0 = 0 then (mPl ρ b np nt L ns (2 ^ np)).2.1 else if w0 = 1 then (mPl ρ b np nt L ns (2 ^ np)).2.2.1 else (mPl ρ b np nt L ns (2 ^ np)).1) ∧ RS ρ (mPl ρ b np nt L ns (2 ^ np)).2.2.2 ∧ IV σ' ρ 8 b np nt ns L C w tp u tl oc ∧ (∀ K j, (K < 198 ∨ 254 < K) → ¬ (289 ≤ K ∧ K ≤ 292) → σ' K j = σ K j)) := by
  obtain ⟨⟨hl, h05, h33⟩, hL, hN, hPT, hF, hA, hTp, hO, hM, hH⟩ := id h
  obtain ⟨⟨a1, a2, a3, a4⟩, ⟨b1, b2, b3, b4, b5⟩, ⟨c1, c2, c3, c4, c5⟩, hTr, hCa, hAf, hPr, hDi⟩ := id hL
  obtain ⟨hPb, ⟨y1, y2, y3⟩, hhi, hPp⟩ := id hPT
  refine TT.steps (cd := cd202) 4 (c' := (4, [(2, 0), (0, w0), (9, 0)], [(2, (σ 0 5)), (2, 289)], σ)) rfl rfl ?_
  refine TT.top0 (z := 8) h05 ?_
  refine TT.steps (cd := cd202) 4 (c' := (8, [(2, 0), (0, w0), (9, 0)], [(2, 198), (2, 36), (2, 8), (2, 289)], σ)) rfl rfl ?_
  refine TT.call (cd := cd202) rfl rfl rfl (by decide) rfl (w_learn X h) (fun r1 σ1 hq => ?_)
  obtain ⟨rfl, hI, h90, hk, hFr⟩ := hq
  obtain ⟨hP, hP2, h94, hHH⟩ := hi_set hI hk
  refine TT.steps (cd := cd202) 2 (c' := (11, [(2, 0), (0, w0), (9, 0)], [(2, 289)], σ1)) rfl rfl ?_
  refine TT.call (cd := cd202) rfl rfl rfl (by decide) rfl (u_fewest X (bs (pPr ρ b) np) hP (Hc ρ b np) σ1 h94 hHH) (fun r2 σ2 hq => ?_)
  rw [hq.1, hq.2, fe_end hL]
  obtain ⟨m1, m2, pa⟩ := pl_ans hl hk ⟨hI.2.1, hI.2.2.2.1, hI.2.2.2.2.1⟩
  refine TT.steps (cd := cd202) 4 (c' := ((if decide (¬ (fB σ1 ρ b np) = (-1)) = true then 18 else 16), [(2, 0), (0, w0), (0, (fB σ1 ρ b np))], [], σ1)) rfl rfl ?_
  refine TT.br (p := ¬ (fB σ1 ρ b np) = (-1)) (fun h3 => ?_) (fun h3 => ?_)
  · refine TT.steps (cd := cd202) 2 (c' := ((swOf [(0, 20), (1, 23), (2, 28)] 30 w0), [(2, 0), (0, w0), (0, (fB σ1 ρ b np))], [], σ1)) rfl rfl ?_
    refine TT.swc (fun h4 => ?_) (fun h4 => ?_)
    · refine TT.steps (cd := cd202) 1 (c' := (21, [(2, 0), (0, w0), (0, (fB σ1 ρ b np))], [(0, (fB σ1 ρ b np))], σ1)) rfl rfl ?_
      refine TT.call (cd := cd202) rfl rfl rfl (by decide) rfl (u_bitCount X (fB σ1 ρ b np) σ1) (fun r5 σ5 hq => ?_)
      rw [hq.1, hq.2]
      exact TT.ret (cd := cd202) rfl rfl rfl rfl (⟨by (rw [m2]; symm; first | rw [if_pos (by assumption)] | rw [if_pos (Decidable.not_not.mp (by assumption))] | (rw [if_neg (by assumption), (pa (by assumption)).1, (pa (by assumption)).2]; repeat (first | rw [if_pos (by assumption)] | rw [if_neg (by assumption)]))), m1, hI, hFr⟩)
    refine TT.swc (fun h6 => ?_) (fun h6 => ?_)
    · refine TT.steps (cd := cd202) 2 (c' := (25, [(2, 0), (0, w0), (0, (fB σ1 ρ b np))], [(2, (σ1 0 5))], σ1)) rfl rfl ?_
      refine TT.top0 (z := 8) ((hFr 0 (5) (by omega) (by omega)).trans h05) ?_
      refine TT.steps (cd := cd202) 1 (c' := (26, [(2, 0), (0, w0), (0, (fB σ1 ρ b np))], [(0, (fB σ1 ρ b np)), (2, 8)], σ1)) rfl rfl ?_
      refine TT.call (cd := cd202) rfl rfl rfl (by decide) rfl (v_coin X hl hI.2.1 (fB σ1 ρ b np)) (fun r7 σ7 hq => ?_)
      rw [hq.1, hq.2]
      exact TT.ret (cd := cd202) rfl rfl rfl rfl (⟨by (rw [m2]; symm; first | rw [if_pos (by assumption)] | rw [if_pos (Decidable.not_not.mp (by assumption))] | (rw [if_neg (by assumption), (pa (by assumption)).1, (pa (by assumption)).2]; repeat (first | rw [if_pos (by assumption)] | rw [if_neg (by assumption)]))), m1, hI, hFr⟩)
    refine TT.swc (fun h8 => ?_) (fun h8 => ?_)
    · refine TT.steps (cd := cd202) 1 (c' := (29, [(2, 0), (0, w0), (0, (fB σ1 ρ b np))], [(0, (fB σ1 ρ b np))], σ1)) rfl rfl ?_
      exact TT.ret (cd := cd202) rfl rfl rfl rfl (⟨by (rw [m2]; symm; first | rw [if_pos (by assumption)] | rw [if_pos (Decidable.not_not.mp (by assumption))] | (rw [if_neg (by assumption), (pa (by assumption)).1, (pa (by assumption)).2]; repeat (first | rw [if_pos (by assumption)] | rw [if_neg (by assumption)]))), m1, hI, hFr⟩)
    show TT X 202 (30, [(2, 0), (0, w0), (0, (fB σ1 ρ b np))], [], σ1) _
    omega
  · refine TT.steps (cd := cd202) 1 (c' := (17, [(2, 0), (0, w0), (0, (fB σ1 ρ b np))], [(0, -1)], σ1)) rfl rfl ?_
    exact TT.ret (cd := cd202) rfl rfl rfl rfl (⟨by (rw [m2]; symm; first | rw [if_pos (by assumption)] | rw [if_pos (Decidable.not_not.mp (by assumption))] | (rw [if_neg (by assumption), (pa (by assumption)).1, (pa (by assumption)).2]; repeat (first | rw [if_pos (by assumption)] | rw [if_neg (by assumption)]))), m1, hI, hFr⟩)
theorem K_places1_170 (X : AX) {σ ρ : AH} {b np nt ns : Nat} {L : Nat → Nat} {C : Nat → Nat → Nat} {w tp u tl oc : Nat} (h : IV σ ρ 170 b np nt ns L C w tp u tl oc) (w0 : Int) (hw0 : 0 ≤ w0 ∧ w0 ≤ 2)  : TT X 202 (0, [(2, 0), (0, w0), (9, 0)], [], σ) (fun r σ' => r = some (0, if (mPl ρ b np nt L ns (2 ^ np)).1 = -1 then -1 else if w0 = 0 then (mPl ρ b np nt L ns (2 ^ np)).2.1 else if w0 = 1 then (mPl ρ b np nt L ns (2 ^ np)).2.2.1 else (mPl ρ b np nt L ns (2 ^ np)).1) ∧ RS ρ (mPl ρ b np nt L ns (2 ^ np)).2.2.2 ∧ IV σ' ρ 170 b np nt ns L C w tp u tl oc ∧ (∀ K j, (K < 198 ∨ 254 < K) → ¬ (289 ≤ K ∧ K ≤ 292) → σ' K j = σ K j)) := by
  obtain ⟨⟨hl, h05, h33⟩, hL, hN, hPT, hF, hA, hTp, hO, hM, hH⟩ := id h
  obtain ⟨⟨a1, a2, a3, a4⟩, ⟨b1, b2, b3, b4, b5⟩, ⟨c1, c2, c3, c4, c5⟩, hTr, hCa, hAf, hPr, hDi⟩ := id hL
  obtain ⟨hPb, ⟨y1, y2, y3⟩, hhi, hPp⟩ := id hPT
  refine TT.steps (cd := cd202) 4 (c' := (4, [(2, 0), (0, w0), (9, 0)], [(2, (σ 0 5)), (2, 289)], σ)) rfl rfl ?_
  refine TT.top0 (z := 170) h05 ?_
  refine TT.steps (cd := cd202) 4 (c' := (8, [(2, 0), (0, w0), (9, 0)], [(2, 198), (2, 36), (2, 170), (2, 289)], σ)) rfl rfl ?_
  refine TT.call (cd := cd202) rfl rfl rfl (by decide) rfl (w_learn X h) (fun r1 σ1 hq => ?_)
  obtain ⟨rfl, hI, h90, hk, hFr⟩ := hq
  obtain ⟨hP, hP2, h94, hHH⟩ := hi_set hI hk
  refine TT.steps (cd := cd202) 2 (c' := (11, [(2, 0), (0, w0), (9, 0)], [(2, 289)], σ1)) rfl rfl ?_
  refine TT.call (cd := cd202) rfl rfl rfl (by decide) rfl (u_fewest X (bs (pPr ρ b) np) hP (Hc ρ b np) σ1 h94 hHH) (fun r2 σ2 hq => ?_)
  rw [hq.1, hq.2, fe_end hL]
  obtain ⟨m1, m2, pa⟩ := pl_ans hl hk ⟨hI.2.1, hI.2.2.2.1, hI.2.2.2.2.1⟩
  refine TT.steps (cd := cd202) 4 (c' := ((if decide (¬ (fB σ1 ρ b np) = (-1)) = true then 18 else 16), [(2, 0), (0, w0), (0, (fB σ1 ρ b np))], [], σ1)) rfl rfl ?_
  refine TT.br (p := ¬ (fB σ1 ρ b np) = (-1)) (fun h3 => ?_) (fun h3 => ?_)
  · refine TT.steps (cd := cd202) 2 (c' := ((swOf [(0, 20), (1, 23), (2, 28)] 30 w0), [(2, 0), (0, w0), (0, (fB σ1 ρ b np))], [], σ1)) rfl rfl ?_
    refine TT.swc (fun h4 => ?_) (fun h4 => ?_)
    · refine TT.steps (cd := cd202) 1 (c' := (21, [(2, 0), (0, w0), (0, (fB σ1 ρ b np))], [(0, (fB σ1 ρ b np))], σ1)) rfl rfl ?_
      refine TT.call (cd := cd202) rfl rfl rfl (by decide) rfl (u_bitCount X (fB σ1 ρ b np) σ1) (fun r5 σ5 hq => ?_)
      rw [hq.1, hq.2]
      exact TT.ret (cd := cd202) rfl rfl rfl rfl (⟨by (rw [m2]; symm; first | rw [if_pos (by assumption)] | rw [if_pos (Decidable.not_not.mp (by assumption))] | (rw [if_neg (by assumption), (pa (by assumption)).1, (pa (by assumption)).2]; repeat (first | rw [if_pos (by assumption)] | rw [if_neg (by assumption)]))), m1, hI, hFr⟩)
    refine TT.swc (fun h6 => ?_) (fun h6 => ?_)
    · refine TT.steps (cd := cd202) 2 (c' := (25, [(2, 0), (0, w0), (0, (fB σ1 ρ b np))], [(2, (σ1 0 5))], σ1)) rfl rfl ?_
      refine TT.top0 (z := 170) ((hFr 0 (5) (by omega) (by omega)).trans h05) ?_
      refine TT.steps (cd := cd202) 1 (c' := (26, [(2, 0), (0, w0), (0, (fB σ1 ρ b np))], [(0, (fB σ1 ρ b np)), (2, 170)], σ1)) rfl rfl ?_
      refine TT.call (cd := cd202) rfl rfl rfl (by decide) rfl (v_coin X hl hI.2.1 (fB σ1 ρ b np)) (fun r7 σ7 hq => ?_)
      rw [hq.1, hq.2]
      exact TT.ret (cd := cd202) rfl rfl rfl rfl (⟨by (rw [m2]; symm; first | rw [if_pos (by assumption)] | rw [if_pos (Decidable.not_not.mp (by assumption))] | (rw [if_neg (by assumption), (pa (by assumption)).1, (pa (by assumption)).2]; repeat (first | rw [if_pos (by assumption)] | rw [if_neg (by assumption)]))), m1, hI, hFr⟩)
    refine TT.swc (fun h8 => ?_) (fun h8 => ?_)
    · refine TT.steps (cd := cd202) 1 (c' := (29, [(2, 0), (0, w0), (0, (fB σ1 ρ b np))], [(0, (fB σ1 ρ b np))], σ1)) rfl rfl ?_
      exact TT.ret (cd := cd202) rfl rfl rfl rfl (⟨by (rw [m2]; symm; first | rw [if_pos (by assumption)] | rw [if_pos (Decidable.not_not.mp (by assumption))] | (rw [if_neg (by assumption), (pa (by assumption)).1, (pa (by assumption)).2]; repeat (first | rw [if_pos (by assumption)] | rw [if_neg (by assumption)]))), m1, hI, hFr⟩)
    show TT X 202 (30, [(2, 0), (0, w0), (0, (fB σ1 ρ b np))], [], σ1) _
    omega
  · refine TT.steps (cd := cd202) 1 (c' := (17, [(2, 0), (0, w0), (0, (fB σ1 ρ b np))], [(0, -1)], σ1)) rfl rfl ?_
    exact TT.ret (cd := cd202) rfl rfl rfl rfl (⟨by (rw [m2]; symm; first | rw [if_pos (by assumption)] | rw [if_pos (Decidable.not_not.mp (by assumption))] | (rw [if_neg (by assumption), (pa (by assumption)).1, (pa (by assumption)).2]; repeat (first | rw [if_pos (by assumption)] | rw [if_neg (by assumption)]))), m1, hI, hFr⟩)
theorem K_places1 (X : AX) {l : Nat} {σ ρ : AH} {b np nt ns : Nat} {L : Nat → Nat} {C : Nat → Nat → Nat} {w tp u tl oc : Nat} (h : IV σ ρ l b np nt ns L C w tp u tl oc) (w0 : Int) (hw0 : 0 ≤ w0 ∧ w0 ≤ 2)  : TT X 202 (0, [(2, 0), (0, w0), (9, 0)], [], σ) (fun r σ' => r = some (0, if (mPl ρ b np nt L ns (2 ^ np)).1 = -1 then -1 else if w0 = 0 then (mPl ρ b np nt L ns (2 ^ np)).2.1 else if w0 = 1 then (mPl ρ b np nt L ns (2 ^ np)).2.2.1 else (mPl ρ b np nt L ns (2 ^ np)).1) ∧ RS ρ (mPl ρ b np nt L ns (2 ^ np)).2.2.2 ∧ IV σ' ρ l b np nt ns L C w tp u tl oc ∧ (∀ K j, (K < 198 ∨ 254 < K) → ¬ (289 ≤ K ∧ K ≤ 292) → σ' K j = σ K j)) := by
  rcases h.1.1 with rfl | rfl
  · exact K_places1_8 X h w0 hw0
  · exact K_places1_170 X h w0 hw0
theorem K_places0_8 (X : AX) {σ ρ : AH} {b np nt ns : Nat} {L : Nat → Nat} {C : Nat → Nat → Nat} {w tp u tl oc : Nat} (h : IV σ ρ 8 b np nt ns L C w tp u tl oc) (w0 : Int) (hw0 : ¬ (0 ≤ w0 ∧ w0 ≤ 2))  : TT X 202 (0, [(2, 0), (0, w0), (9, 0)], [], σ) (fun r σ' => r = some (0, -1) ∧ IV σ' ρ 8 b np nt ns L C w tp u tl oc ∧ (∀ K j, (K < 198 ∨ 254 < K) → ¬ (289 ≤ K ∧ K ≤ 292) → σ' K j = σ K j)) := by
  obtain ⟨⟨hl, h05, h33⟩, hL, hN, hPT, hF, hA, hTp, hO, hM, hH⟩ := id h
  obtain ⟨⟨a1, a2, a3, a4⟩, ⟨b1, b2, b3, b4, b5⟩, ⟨c1, c2, c3, c4, c5⟩, hTr, hCa, hAf, hPr, hDi⟩ := id hL
  obtain ⟨hPb, ⟨y1, y2, y3⟩, hhi, hPp⟩ := id hPT
  refine TT.steps (cd := cd202) 4 (c' := (4, [(2, 0), (0, w0), (9, 0)], [(2, (σ 0 5)), (2, 289)], σ)) rfl rfl ?_
  refine TT.top0 (z := 8) h05 ?_
  refine TT.steps (cd := cd202) 4 (c' := (8, [(2, 0), (0, w0), (9, 0)], [(2, 198), (2, 36), (2, 8), (2, 289)], σ)) rfl rfl ?_
  refine TT.call (cd := cd202) rfl rfl rfl (by decide) rfl (w_learn X h) (fun r1 σ1 hq => ?_)
  obtain ⟨rfl, hI, h90, hk, hFr⟩ := hq
  obtain ⟨hP, hP2, h94, hHH⟩ := hi_set hI hk
  refine TT.steps (cd := cd202) 2 (c' := (11, [(2, 0), (0, w0), (9, 0)], [(2, 289)], σ1)) rfl rfl ?_
  refine TT.call (cd := cd202) rfl rfl rfl (by decide) rfl (u_fewest X (bs (pPr ρ b) np) hP (Hc ρ b np) σ1 h94 hHH) (fun r2 σ2 hq => ?_)
  rw [hq.1, hq.2, fe_end hL]
  obtain ⟨m1, m2, pa⟩ := pl_ans hl hk ⟨hI.2.1, hI.2.2.2.1, hI.2.2.2.2.1⟩
  refine TT.steps (cd := cd202) 4 (c' := ((if decide (¬ (fB σ1 ρ b np) = (-1)) = true then 18 else 16), [(2, 0), (0, w0), (0, (fB σ1 ρ b np))], [], σ1)) rfl rfl ?_
  refine TT.br (p := ¬ (fB σ1 ρ b np) = (-1)) (fun h3 => ?_) (fun h3 => ?_)
  · refine TT.steps (cd := cd202) 2 (c' := ((swOf [(0, 20), (1, 23), (2, 28)] 30 w0), [(2, 0), (0, w0), (0, (fB σ1 ρ b np))], [], σ1)) rfl rfl ?_
    refine TT.swc (fun h4 => ?_) (fun h4 => ?_)
    · omega
    refine TT.swc (fun h5 => ?_) (fun h5 => ?_)
    · omega
    refine TT.swc (fun h6 => ?_) (fun h6 => ?_)
    · omega
    show TT X 202 (30, [(2, 0), (0, w0), (0, (fB σ1 ρ b np))], [], σ1) _
    refine TT.steps (cd := cd202) 1 (c' := (31, [(2, 0), (0, w0), (0, (fB σ1 ρ b np))], [(0, -1)], σ1)) rfl rfl ?_
    exact TT.ret (cd := cd202) rfl rfl rfl rfl (⟨rfl, hI, hFr⟩)
  · refine TT.steps (cd := cd202) 1 (c' := (17, [(2, 0), (0, w0), (0, (fB σ1 ρ b np))], [(0, -1)], σ1)) rfl rfl ?_
    exact TT.ret (cd := cd202) rfl rfl rfl rfl (⟨rfl, hI, hFr⟩)
theorem K_places0_170 (X : AX) {σ ρ : AH} {b np nt ns : Nat} {L : Nat → Nat} {C : Nat → Nat → Nat} {w tp u tl oc : Nat} (h : IV σ ρ 170 b np nt ns L C w tp u tl oc) (w0 : Int) (hw0 : ¬ (0 ≤ w0 ∧ w0 ≤ 2))  : TT X 202 (0, [(2, 0), (0, w0), (9, 0)], [], σ) (fun r σ' => r = some (0, -1) ∧ IV σ' ρ 170 b np nt ns L C w tp u tl oc ∧ (∀ K j, (K < 198 ∨ 254 < K) → ¬ (289 ≤ K ∧ K ≤ 292) → σ' K j = σ K j)) := by
  obtain ⟨⟨hl, h05, h33⟩, hL, hN, hPT, hF, hA, hTp, hO, hM, hH⟩ := id h
  obtain ⟨⟨a1, a2, a3, a4⟩, ⟨b1, b2, b3, b4, b5⟩, ⟨c1, c2, c3, c4, c5⟩, hTr, hCa, hAf, hPr, hDi⟩ := id hL
  obtain ⟨hPb, ⟨y1, y2, y3⟩, hhi, hPp⟩ := id hPT
  refine TT.steps (cd := cd202) 4 (c' := (4, [(2, 0), (0, w0), (9, 0)], [(2, (σ 0 5)), (2, 289)], σ)) rfl rfl ?_
  refine TT.top0 (z := 170) h05 ?_
  refine TT.steps (cd := cd202) 4 (c' := (8, [(2, 0), (0, w0), (9, 0)], [(2, 198), (2, 36), (2, 170), (2, 289)], σ)) rfl rfl ?_
  refine TT.call (cd := cd202) rfl rfl rfl (by decide) rfl (w_learn X h) (fun r1 σ1 hq => ?_)
  obtain ⟨rfl, hI, h90, hk, hFr⟩ := hq
  obtain ⟨hP, hP2, h94, hHH⟩ := hi_set hI hk
  refine TT.steps (cd := cd202) 2 (c' := (11, [(2, 0), (0, w0), (9, 0)], [(2, 289)], σ1)) rfl rfl ?_
  refine TT.call (cd := cd202) rfl rfl rfl (by decide) rfl (u_fewest X (bs (pPr ρ b) np) hP (Hc ρ b np) σ1 h94 hHH) (fun r2 σ2 hq => ?_)
  rw [hq.1, hq.2, fe_end hL]
  obtain ⟨m1, m2, pa⟩ := pl_ans hl hk ⟨hI.2.1, hI.2.2.2.1, hI.2.2.2.2.1⟩
  refine TT.steps (cd := cd202) 4 (c' := ((if decide (¬ (fB σ1 ρ b np) = (-1)) = true then 18 else 16), [(2, 0), (0, w0), (0, (fB σ1 ρ b np))], [], σ1)) rfl rfl ?_
  refine TT.br (p := ¬ (fB σ1 ρ b np) = (-1)) (fun h3 => ?_) (fun h3 => ?_)
  · refine TT.steps (cd := cd202) 2 (c' := ((swOf [(0, 20), (1, 23), (2, 28)] 30 w0), [(2, 0), (0, w0), (0, (fB σ1 ρ b np))], [], σ1)) rfl rfl ?_
    refine TT.swc (fun h4 => ?_) (fun h4 => ?_)
    · omega
    refine TT.swc (fun h5 => ?_) (fun h5 => ?_)
    · omega
    refine TT.swc (fun h6 => ?_) (fun h6 => ?_)
    · omega
    show TT X 202 (30, [(2, 0), (0, w0), (0, (fB σ1 ρ b np))], [], σ1) _
    refine TT.steps (cd := cd202) 1 (c' := (31, [(2, 0), (0, w0), (0, (fB σ1 ρ b np))], [(0, -1)], σ1)) rfl rfl ?_
    exact TT.ret (cd := cd202) rfl rfl rfl rfl (⟨rfl, hI, hFr⟩)
  · refine TT.steps (cd := cd202) 1 (c' := (17, [(2, 0), (0, w0), (0, (fB σ1 ρ b np))], [(0, -1)], σ1)) rfl rfl ?_
    exact TT.ret (cd := cd202) rfl rfl rfl rfl (⟨rfl, hI, hFr⟩)
theorem K_places0 (X : AX) {l : Nat} {σ ρ : AH} {b np nt ns : Nat} {L : Nat → Nat} {C : Nat → Nat → Nat} {w tp u tl oc : Nat} (h : IV σ ρ l b np nt ns L C w tp u tl oc) (w0 : Int) (hw0 : ¬ (0 ≤ w0 ∧ w0 ≤ 2))  : TT X 202 (0, [(2, 0), (0, w0), (9, 0)], [], σ) (fun r σ' => r = some (0, -1) ∧ IV σ' ρ l b np nt ns L C w tp u tl oc ∧ (∀ K j, (K < 198 ∨ 254 < K) → ¬ (289 ≤ K ∧ K ≤ 292) → σ' K j = σ K j)) := by
  rcases h.1.1 with rfl | rfl
  · exact K_places0_8 X h w0 hw0
  · exact K_places0_170 X h w0 hw0
