/-! The class's parser, token by token. -/
def CT (c : Nat) (K : Nat → Int) (S : Nat → Nat) (V : Nat → Int) (τ : AH) : Prop := ∀ j, j ≤ c → τ 5 j = K j ∧ τ 6 j = (S j : Int) ∧ τ 7 j = V j
def cFail (τ : AH) (kd pl : Int) : AH := up2 (up2 τ 3 0 kd) 3 1 pl
theorem up2_twice (σ : AH) (k j : Nat) (x y : Int) : up2 (up2 σ k j x) k j y = up2 σ k j y := by
  funext k' j'
  by_cases h : k' = k ∧ j' = j
  · rw [h.1, h.2, up2_hit, up2_hit]
  · rw [up2_nq _ h, up2_nq _ h, up2_nq _ h]
theorem td_v {f : Nat → Int} {N c : Nat} {K : Nat → Int} {S : Nat → Nat} {V : Nat → Int} {P : Nat → Nat} (h : TD f N c K S V P) {i : Nat} (hi : i ≤ c) : S i ≤ 1600 ∧ (K i = 17 → 0 ≤ V i ∧ V i ≤ 6) ∧ (K i = 15 → 0 ≤ V i ∧ V i ≤ 9999) := by
  obtain ⟨h1, h2, h3, h4, h5⟩ := h
  obtain ⟨⟨a1, a2, -⟩, ht⟩ := h5 i hi
  refine ⟨by omega, fun hk => ?_, fun hk => ?_⟩
  · rcases ht with ⟨-, e⟩ | ⟨-, e, -⟩ | ⟨-, -, e, -⟩ | ⟨-, -, e, -⟩ | ⟨-, n, -, e⟩ | ⟨-, n, -, -, -, e⟩
    · omega
    · omega
    · omega
    · omega
    · omega
    · omega
  · rcases ht with ⟨-, e⟩ | ⟨-, e, -⟩ | ⟨-, e, -⟩ | ⟨-, e, -⟩ | ⟨-, n, -, e⟩ | ⟨-, n, -, -, hd, e⟩
    · omega
    · omega
    · omega
    · omega
    · omega
    · rcases e with ⟨e1, -, -, e2, -⟩ | ⟨-, e, -⟩
      · have hb := nu_lt hd
        have hb2 : 10 ^ n ≤ 10 ^ 4 := Nat.pow_le_pow_right (by decide) e1
        omega
      · omega
theorem u_kind (X : AX) {f : Nat → Int} {N c i : Nat} {K : Nat → Int} {S : Nat → Nat} {V : Nat → Int} {P : Nat → Nat} {τ : AH} (hT : TD f N c K S V P) (hC : CT c K S V τ) (h34 : τ 3 4 = (i : Int)) (hi : i ≤ c)  : TT X 147 (0, [(2, 3)], [], τ) (fun r σ' => r = some (0, K i) ∧ σ' = τ) := by
  have hc16 : c ≤ 1600 := by have h1 := hT.1; have h2 := hT.2.1; omega
  obtain ⟨vs, v17, v15⟩ := td_v hT hi
  refine TT.steps (cd := cd147) 2 (c' := (2, [(2, 3)], [(0, (τ 3 4))], τ)) rfl rfl ?_
  refine TT.top0 (z := ((i : Nat) : Int)) h34 ?_
  refine TT.steps (cd := cd147) 5 (c' := ((if decide (1601 ≤ ((i : Nat) : Int)) = true then 14 else 7), [(2, 3)], [], τ)) rfl rfl ?_
  refine TT.br (p := 1601 ≤ ((i : Nat) : Int)) (fun h1 => absurd h1 (show ¬ (1601 ≤ ((i : Nat) : Int)) by omega)) (fun h1 => ?_)
  refine TT.steps (cd := cd147) 5 (c' := (12, [(2, 3)], [(0, (τ 3 4)), (2, 5)], τ)) rfl rfl ?_
  refine TT.top0 (z := ((i : Nat) : Int)) h34 ?_
  refine TT.aldN (cd := cd147) (5) (i) rfl rfl rfl rfl (show i < 1601 by omega) ?_
  refine TT.top0 (z := (K i)) (hC i hi).1 ?_
  refine TT.steps (cd := cd147) 1 (c' := (15, [(2, 3)], [(0, (K i))], τ)) rfl rfl ?_
  exact TT.ret (cd := cd147) rfl rfl rfl rfl (⟨rfl, rfl⟩)
theorem CT_3 {c : Nat} {K : Nat → Int} {S : Nat → Nat} {V : Nat → Int} {τ τ' : AH} (h : CT c K S V τ) (e : ∀ k j, (5 ≤ k ∧ k ≤ 7) → τ' k j = τ k j) : CT c K S V τ' := fun j hj => by rw [e 5 j (by omega), e 6 j (by omega), e 7 j (by omega)]; exact h j hj
theorem u_fail1 (X : AX) {f : Nat → Int} {N c i : Nat} {K : Nat → Int} {S : Nat → Nat} {V : Nat → Int} {P : Nat → Nat} {τ : AH} (hT : TD f N c K S V P) (hC : CT c K S V τ) (h34 : τ 3 4 = (i : Int)) (hi : i ≤ c)  : TT X 148 (0, [(2, 3), (0, 1)], [], τ) (fun r σ' => r = some (0, 0) ∧ σ' = cFail τ 1 (plc K S V i)) := by
  have hc16 : c ≤ 1600 := by have h1 := hT.1; have h2 := hT.2.1; omega
  obtain ⟨vs, v17, v15⟩ := td_v hT hi
  refine TT.steps (cd := cd148) 6 (c' := (6, [(2, 3), (0, 1)], [(0, ((up2 τ 3 0 1) 3 4)), (2, 3)], (up2 τ 3 0 1))) rfl rfl ?_
  refine TT.top0 (z := ((i : Nat) : Int)) ((up2_by _ _ (j := 0) (j' := 4) _ (by decide)).trans h34) ?_
  refine TT.steps (cd := cd148) 5 (c' := ((if decide (1601 ≤ ((i : Nat) : Int)) = true then 18 else 11), [(2, 3), (0, 1)], [(2, 3)], (up2 τ 3 0 1))) rfl rfl ?_
  refine TT.br (p := 1601 ≤ ((i : Nat) : Int)) (fun h1 => absurd h1 (show ¬ (1601 ≤ ((i : Nat) : Int)) by omega)) (fun h1 => ?_)
  refine TT.steps (cd := cd148) 5 (c' := (16, [(2, 3), (0, 1)], [(0, ((up2 τ 3 0 1) 3 4)), (2, 6), (2, 3)], (up2 τ 3 0 1))) rfl rfl ?_
  refine TT.top0 (z := ((i : Nat) : Int)) ((up2_by _ _ (j := 0) (j' := 4) _ (by decide)).trans h34) ?_
  refine TT.aldN (cd := cd148) (6) (i) rfl rfl rfl rfl (show i < 1601 by omega) ?_
  refine TT.top0 (z := (((S i) : Nat) : Int)) ((up2_far (k := 3) (k' := 6) _ _ _ _ (by decide)).trans (hC i hi).2.1) ?_
  refine TT.steps (cd := cd148) 6 (c' := (24, [(2, 3), (0, 1)], [(2, 3)], (up2 (up2 τ 3 0 1) 3 1 (((S i) : Nat) : Int)))) rfl rfl ?_
  refine TT.call (cd := cd148) rfl rfl rfl (by decide) rfl (u_kind X hT (τ := (up2 (up2 τ 3 0 1) 3 1 (((S i) : Nat) : Int))) (CT_3 hC (fun k j hk => by rw [up2_nq _ (by omega), up2_nq _ (by omega)])) (by rw [up2_nq _ (by omega), up2_nq _ (by omega)]; exact h34) hi) (fun r2 σ2 hq => ?_)
  rw [hq.1, hq.2]
  refine TT.steps (cd := cd148) 2 (c' := ((if decide (¬ (K i) = 17) = true then 38 else 27), [(2, 3), (0, 1)], [], (up2 (up2 τ 3 0 1) 3 1 (((S i) : Nat) : Int)))) rfl rfl ?_
  refine TT.br (p := ¬ (K i) = 17) (fun h3 => ?_) (fun h3 => ?_)
  · refine TT.steps (cd := cd148) 1 (c' := (39, [(2, 3), (0, 1)], [(0, 0)], (up2 (up2 τ 3 0 1) 3 1 (((S i) : Nat) : Int)))) rfl rfl ?_
    refine TT.ret (cd := cd148) rfl rfl rfl rfl ⟨rfl, ?_⟩
    unfold cFail plc
    first | (rw [if_pos (by omega), up2_twice]; done) | (rw [if_neg (by omega), Int.add_zero]; done)
  · refine TT.steps (cd := cd148) 3 (c' := (30, [(2, 3), (0, 1)], [(0, ((up2 (up2 τ 3 0 1) 3 1 (((S i) : Nat) : Int)) 3 1)), (2, 3)], (up2 (up2 τ 3 0 1) 3 1 (((S i) : Nat) : Int)))) rfl rfl ?_
    refine TT.top0 (z := (((S i) : Nat) : Int)) (up2_hit _ _ _ _) ?_
    refine TT.steps (cd := cd148) 5 (c' := (35, [(2, 3), (0, 1)], [(0, ((up2 (up2 τ 3 0 1) 3 1 (((S i) : Nat) : Int)) 3 4)), (2, 7), (0, (((S i) : Nat) : Int)), (2, 3)], (up2 (up2 τ 3 0 1) 3 1 (((S i) : Nat) : Int)))) rfl rfl ?_
    refine TT.top0 (z := ((i : Nat) : Int)) (((up2_by _ _ (j := 1) (j' := 4) _ (by decide)).trans (up2_by _ _ (j := 0) (j' := 4) _ (by decide))).trans h34) ?_
    refine TT.aldN (cd := cd148) (7) (i) rfl rfl rfl rfl (show i < 1601 by omega) ?_
    refine TT.top0 (z := (V i)) (((up2_far (k := 3) (k' := 7) _ _ _ _ (by decide)).trans (up2_far (k := 3) (k' := 7) _ _ _ _ (by decide))).trans (hC i hi).2.2) ?_
    refine TT.steps (cd := cd148) 1 (c' := (37, [(2, 3), (0, 1)], [(0, (aAdd (((S i) : Nat) : Int) (V i))), (2, 3)], (up2 (up2 τ 3 0 1) 3 1 (((S i) : Nat) : Int)))) rfl rfl ?_
    refine TT.top0 (z := (((S i : Nat) : Int) + V i)) (aAdd_of (by omega) (by omega)) ?_
    refine TT.steps (cd := cd148) 2 (c' := (39, [(2, 3), (0, 1)], [(0, 0)], (up2 (up2 (up2 τ 3 0 1) 3 1 (((S i) : Nat) : Int)) 3 1 (((S i : Nat) : Int) + V i)))) rfl rfl ?_
    refine TT.ret (cd := cd148) rfl rfl rfl rfl ⟨rfl, ?_⟩
    unfold cFail plc
    first | (rw [if_pos (by omega), up2_twice]; done) | (rw [if_neg (by omega), Int.add_zero]; done)
theorem u_failK (X : AX) {f : Nat → Int} {N c i : Nat} {K : Nat → Int} {S : Nat → Nat} {V : Nat → Int} {P : Nat → Nat} {τ : AH} (hT : TD f N c K S V P) (hC : CT c K S V τ) (h34 : τ 3 4 = (i : Int)) (hi : i ≤ c) (kd : Int) (hkd : ¬ kd = 1)  : TT X 148 (0, [(2, 3), (0, kd)], [], τ) (fun r σ' => r = some (0, 0) ∧ σ' = cFail τ kd (S i : Int)) := by
  have hc16 : c ≤ 1600 := by have h1 := hT.1; have h2 := hT.2.1; omega
  obtain ⟨vs, v17, v15⟩ := td_v hT hi
  refine TT.steps (cd := cd148) 6 (c' := (6, [(2, 3), (0, kd)], [(0, ((up2 τ 3 0 kd) 3 4)), (2, 3)], (up2 τ 3 0 kd))) rfl rfl ?_
  refine TT.top0 (z := ((i : Nat) : Int)) ((up2_by _ _ (j := 0) (j' := 4) _ (by decide)).trans h34) ?_
  refine TT.steps (cd := cd148) 5 (c' := ((if decide (1601 ≤ ((i : Nat) : Int)) = true then 18 else 11), [(2, 3), (0, kd)], [(2, 3)], (up2 τ 3 0 kd))) rfl rfl ?_
  refine TT.br (p := 1601 ≤ ((i : Nat) : Int)) (fun h1 => absurd h1 (show ¬ (1601 ≤ ((i : Nat) : Int)) by omega)) (fun h1 => ?_)
  refine TT.steps (cd := cd148) 5 (c' := (16, [(2, 3), (0, kd)], [(0, ((up2 τ 3 0 kd) 3 4)), (2, 6), (2, 3)], (up2 τ 3 0 kd))) rfl rfl ?_
  refine TT.top0 (z := ((i : Nat) : Int)) ((up2_by _ _ (j := 0) (j' := 4) _ (by decide)).trans h34) ?_
  refine TT.aldN (cd := cd148) (6) (i) rfl rfl rfl rfl (show i < 1601 by omega) ?_
  refine TT.top0 (z := (((S i) : Nat) : Int)) ((up2_far (k := 3) (k' := 6) _ _ _ _ (by decide)).trans (hC i hi).2.1) ?_
  refine TT.steps (cd := cd148) 5 (c' := ((if decide (¬ kd = 1) = true then 38 else 23), [(2, 3), (0, kd)], [], (up2 (up2 τ 3 0 kd) 3 1 (((S i) : Nat) : Int)))) rfl rfl ?_
  refine TT.br (p := ¬ kd = 1) (fun h2 => ?_) (fun h2 => absurd (show ¬ kd = 1 by exact hkd) h2)
  refine TT.steps (cd := cd148) 1 (c' := (39, [(2, 3), (0, kd)], [(0, 0)], (up2 (up2 τ 3 0 kd) 3 1 (((S i) : Nat) : Int)))) rfl rfl ?_
  exact TT.ret (cd := cd148) rfl rfl rfl rfl (⟨rfl, rfl⟩)
theorem u_take (X : AX) {f : Nat → Int} {N c i : Nat} {K : Nat → Int} {S : Nat → Nat} {V : Nat → Int} {P : Nat → Nat} {τ : AH} (hT : TD f N c K S V P) (hC : CT c K S V τ) (h34 : τ 3 4 = (i : Int)) (hi : i ≤ c) (k0 : Int)  : TT X 156 (0, [(2, 3), (0, k0)], [], τ) (fun r σ' => (K i = k0 → r = some (0, 1) ∧ σ' = up2 τ 3 4 ((i + 1 : Nat) : Int)) ∧ (¬ K i = k0 → r = some (0, 0) ∧ σ' = cFail τ 1 (plc K S V i))) := by
  have hc16 : c ≤ 1600 := by have h1 := hT.1; have h2 := hT.2.1; omega
  obtain ⟨vs, v17, v15⟩ := td_v hT hi
  refine TT.steps (cd := cd156) 1 (c' := (1, [(2, 3), (0, k0)], [(2, 3)], τ)) rfl rfl ?_
  refine TT.call (cd := cd156) rfl rfl rfl (by decide) rfl (u_kind X hT (τ := τ) hC (by exact h34) hi) (fun r1 σ1 hq => ?_)
  rw [hq.1, hq.2]
  refine TT.steps (cd := cd156) 2 (c' := ((if decide ((K i) = k0) = true then 8 else 4), [(2, 3), (0, k0)], [], τ)) rfl rfl ?_
  refine TT.br (p := (K i) = k0) (fun h2 => ?_) (fun h2 => ?_)
  · refine TT.steps (cd := cd156) 3 (c' := (11, [(2, 3), (0, k0)], [(0, (τ 3 4)), (2, 3)], τ)) rfl rfl ?_
    refine TT.top0 (z := ((i : Nat) : Int)) h34 ?_
    refine TT.steps (cd := cd156) 2 (c' := (13, [(2, 3), (0, k0)], [(0, (aAdd ((i : Nat) : Int) 1)), (2, 3)], τ)) rfl rfl ?_
    refine TT.top0 (z := ((i + 1 : Nat) : Int)) (aAdd_n (a := i) (b := 1) (by omega)) ?_
    refine TT.steps (cd := cd156) 2 (c' := (15, [(2, 3), (0, k0)], [(0, 1)], (up2 τ 3 4 ((i + 1 : Nat) : Int)))) rfl rfl ?_
    exact TT.ret (cd := cd156) rfl rfl rfl rfl (by refine ⟨?_, ?_⟩ <;> intro hh <;> first | exact ⟨rfl, rfl⟩ | exact absurd hh (by first | assumption | omega) | (exfalso; omega))
  · refine TT.steps (cd := cd156) 2 (c' := (6, [(2, 3), (0, k0)], [(0, 1), (2, 3)], τ)) rfl rfl ?_
    refine TT.call (cd := cd156) rfl rfl rfl (by decide) rfl (u_fail1 X hT hC h34 hi) (fun r3 σ3 hq => ?_)
    rw [hq.1, hq.2]
    exact TT.ret (cd := cd156) rfl rfl rfl rfl (by refine ⟨?_, ?_⟩ <;> intro hh <;> first | exact ⟨rfl, rfl⟩ | exact absurd hh (by first | assumption | omega) | (exfalso; omega))
theorem u_takeNumber (X : AX) {f : Nat → Int} {N c i : Nat} {K : Nat → Int} {S : Nat → Nat} {V : Nat → Int} {P : Nat → Nat} {τ : AH} (hT : TD f N c K S V P) (hC : CT c K S V τ) (h34 : τ 3 4 = (i : Int)) (hi : i ≤ c) (lo hi_ : Int)  : TT X 157 (0, [(2, 3), (0, lo), (0, hi_)], [], τ) (fun r σ' => (¬ K i = 15 → r = some (0, 0) ∧ σ' = cFail τ 1 (plc K S V i)) ∧ (K i = 15 ∧ ¬ (lo ≤ V i ∧ V i ≤ hi_) → r = some (0, 0) ∧ σ' = cFail (up2 τ 3 5 (V i)) 4 (S i : Int)) ∧ (K i = 15 ∧ lo ≤ V i ∧ V i ≤ hi_ → r = some (0, 1) ∧ σ' = up2 (up2 τ 3 5 (V i)) 3 4 ((i + 1 : Nat) : Int))) := by
  have hc16 : c ≤ 1600 := by have h1 := hT.1; have h2 := hT.2.1; omega
  obtain ⟨vs, v17, v15⟩ := td_v hT hi
  refine TT.steps (cd := cd157) 1 (c' := (1, [(2, 3), (0, lo), (0, hi_)], [(2, 3)], τ)) rfl rfl ?_
  refine TT.call (cd := cd157) rfl rfl rfl (by decide) rfl (u_kind X hT (τ := τ) hC (by exact h34) hi) (fun r1 σ1 hq => ?_)
  rw [hq.1, hq.2]
  refine TT.steps (cd := cd157) 2 (c' := ((if decide ((K i) = 15) = true then 8 else 4), [(2, 3), (0, lo), (0, hi_)], [], τ)) rfl rfl ?_
  refine TT.br (p := (K i) = 15) (fun h2 => ?_) (fun h2 => ?_)
  · refine TT.steps (cd := cd157) 6 (c' := (14, [(2, 3), (0, lo), (0, hi_)], [(0, (τ 3 4)), (2, 7), (2, 3)], τ)) rfl rfl ?_
    refine TT.top0 (z := ((i : Nat) : Int)) h34 ?_
    refine TT.aldN (cd := cd157) (7) (i) rfl rfl rfl rfl (show i < 1601 by omega) ?_
    refine TT.top0 (z := (V i)) (hC i hi).2.2 ?_
    refine TT.steps (cd := cd157) 3 (c' := (18, [(2, 3), (0, lo), (0, hi_)], [(0, ((up2 τ 3 5 (V i)) 3 5))], (up2 τ 3 5 (V i)))) rfl rfl ?_
    refine TT.top0 (z := (V i)) (up2_hit _ _ _ _) ?_
    refine TT.steps (cd := cd157) 2 (c' := ((if decide ((V i) < lo) = true then 24 else 20), [(2, 3), (0, lo), (0, hi_)], [], (up2 τ 3 5 (V i)))) rfl rfl ?_
    refine TT.br (p := (V i) < lo) (fun h3 => ?_) (fun h3 => ?_)
    · refine TT.steps (cd := cd157) 2 (c' := (26, [(2, 3), (0, lo), (0, hi_)], [(0, 4), (2, 3)], (up2 τ 3 5 (V i)))) rfl rfl ?_
      refine TT.call (cd := cd157) rfl rfl rfl (by decide) rfl (u_failK X hT (τ := (up2 τ 3 5 (V i))) (CT_3 hC (fun k j hk => up2_nq _ (by omega))) ((up2_nq _ (by omega)).trans h34) hi 4 (by decide)) (fun r4 σ4 hq => ?_)
      rw [hq.1, hq.2]
      exact TT.ret (cd := cd157) rfl rfl rfl rfl (by refine ⟨?_, ?_, ?_⟩ <;> intro hh <;> first | exact ⟨rfl, rfl⟩ | exact absurd hh (by first | assumption | omega) | (exfalso; omega))
    · refine TT.steps (cd := cd157) 2 (c' := (22, [(2, 3), (0, lo), (0, hi_)], [(0, ((up2 τ 3 5 (V i)) 3 5))], (up2 τ 3 5 (V i)))) rfl rfl ?_
      refine TT.top0 (z := (V i)) (up2_hit _ _ _ _) ?_
      refine TT.steps (cd := cd157) 2 (c' := ((if decide ((V i) ≤ hi_) = true then 28 else 24), [(2, 3), (0, lo), (0, hi_)], [], (up2 τ 3 5 (V i)))) rfl rfl ?_
      refine TT.br (p := (V i) ≤ hi_) (fun h5 => ?_) (fun h5 => ?_)
      · refine TT.steps (cd := cd157) 3 (c' := (31, [(2, 3), (0, lo), (0, hi_)], [(0, ((up2 τ 3 5 (V i)) 3 4)), (2, 3)], (up2 τ 3 5 (V i)))) rfl rfl ?_
        refine TT.top0 (z := ((i : Nat) : Int)) ((up2_by _ _ (j := 5) (j' := 4) _ (by decide)).trans h34) ?_
        refine TT.steps (cd := cd157) 2 (c' := (33, [(2, 3), (0, lo), (0, hi_)], [(0, (aAdd ((i : Nat) : Int) 1)), (2, 3)], (up2 τ 3 5 (V i)))) rfl rfl ?_
        refine TT.top0 (z := ((i + 1 : Nat) : Int)) (aAdd_n (a := i) (b := 1) (by omega)) ?_
        refine TT.steps (cd := cd157) 2 (c' := (35, [(2, 3), (0, lo), (0, hi_)], [(0, 1)], (up2 (up2 τ 3 5 (V i)) 3 4 ((i + 1 : Nat) : Int)))) rfl rfl ?_
        exact TT.ret (cd := cd157) rfl rfl rfl rfl (by refine ⟨?_, ?_, ?_⟩ <;> intro hh <;> first | exact ⟨rfl, rfl⟩ | exact absurd hh (by first | assumption | omega) | (exfalso; omega))
      · refine TT.steps (cd := cd157) 2 (c' := (26, [(2, 3), (0, lo), (0, hi_)], [(0, 4), (2, 3)], (up2 τ 3 5 (V i)))) rfl rfl ?_
        refine TT.call (cd := cd157) rfl rfl rfl (by decide) rfl (u_failK X hT (τ := (up2 τ 3 5 (V i))) (CT_3 hC (fun k j hk => up2_nq _ (by omega))) ((up2_nq _ (by omega)).trans h34) hi 4 (by decide)) (fun r6 σ6 hq => ?_)
        rw [hq.1, hq.2]
        exact TT.ret (cd := cd157) rfl rfl rfl rfl (by refine ⟨?_, ?_, ?_⟩ <;> intro hh <;> first | exact ⟨rfl, rfl⟩ | exact absurd hh (by first | assumption | omega) | (exfalso; omega))
  · refine TT.steps (cd := cd157) 2 (c' := (6, [(2, 3), (0, lo), (0, hi_)], [(0, 1), (2, 3)], τ)) rfl rfl ?_
    refine TT.call (cd := cd157) rfl rfl rfl (by decide) rfl (u_fail1 X hT hC h34 hi) (fun r7 σ7 hq => ?_)
    rw [hq.1, hq.2]
    exact TT.ret (cd := cd157) rfl rfl rfl rfl (by refine ⟨?_, ?_, ?_⟩ <;> intro hh <;> first | exact ⟨rfl, rfl⟩ | exact absurd hh (by first | assumption | omega) | (exfalso; omega))
