/-! People copied; acts kept and undone. -/
def cpH (σ : AH) (q1 q2 : Nat) : AH := cpy2 (cpy2 (cpy2 (cpy2 (cpy2 (up2 (up2 (up2 σ q1 0 (σ q2 0)) q1 1 (σ q2 1)) q1 2 (σ q2 2)) (q2 + 1) (q1 + 1) 0 0 10) (q2 + 2) (q1 + 2) 0 0 10) (q2 + 3) (q1 + 3) 0 0 10) (q2 + 4) (q1 + 4) 0 0 10) (q2 + 5) (q1 + 5) 0 0 10
def CP (σ τ : AH) (q1 q2 : Nat) : Prop := (∀ K j, (K < q1 ∨ q1 + 5 < K) → τ K j = σ K j) ∧ (∀ j, j < 3 → τ q1 j = σ q2 j) ∧ (∀ i j, 1 ≤ i → i ≤ 5 → j < 10 → τ (q1 + i) j = σ (q2 + i) j)
theorem cpy2_ne (σ : AH) {s d sp dp n k j : Nat} (h : k ≠ d) : cpy2 σ s d sp dp n k j = σ k j := by simp [cpy2, h]
theorem cpy2_hit (σ : AH) (s d : Nat) {j : Nat} (h : j < 10) : cpy2 σ s d 0 0 10 d j = σ s j := by simp [cpy2, h]
theorem CP_of {σ : AH} {q1 q2 : Nat} (h : q1 + 5 < q2 ∨ q2 + 5 < q1) : CP σ (cpH σ q1 q2) q1 q2 := by
  refine ⟨fun K j hK => ?_, fun j hj => ?_, fun i j h1 h5 hj => ?_⟩
  · unfold cpH
    rw [cpy2_ne _ (by omega), cpy2_ne _ (by omega), cpy2_ne _ (by omega), cpy2_ne _ (by omega), cpy2_ne _ (by omega), up2_nq _ (by omega), up2_nq _ (by omega), up2_nq _ (by omega)]
  · unfold cpH
    rw [cpy2_ne _ (by omega), cpy2_ne _ (by omega), cpy2_ne _ (by omega), cpy2_ne _ (by omega), cpy2_ne _ (by omega)]
    rcases (show j = 0 ∨ j = 1 ∨ j = 2 by omega) with rfl | rfl | rfl
    · rw [up2_nq _ (by omega), up2_nq _ (by omega), up2_hit]
    · rw [up2_nq _ (by omega), up2_hit]
    · rw [up2_hit]
  · unfold cpH
    rcases (show i = 1 ∨ i = 2 ∨ i = 3 ∨ i = 4 ∨ i = 5 by omega) with rfl | rfl | rfl | rfl | rfl
    · rw [cpy2_ne _ (by omega), cpy2_ne _ (by omega), cpy2_ne _ (by omega), cpy2_ne _ (by omega), cpy2_hit _ _ _ hj, up2_nq _ (by omega), up2_nq _ (by omega), up2_nq _ (by omega)]
    · rw [cpy2_ne _ (by omega), cpy2_ne _ (by omega), cpy2_ne _ (by omega), cpy2_hit _ _ _ hj, cpy2_ne _ (by omega), up2_nq _ (by omega), up2_nq _ (by omega), up2_nq _ (by omega)]
    · rw [cpy2_ne _ (by omega), cpy2_ne _ (by omega), cpy2_hit _ _ _ hj, cpy2_ne _ (by omega), cpy2_ne _ (by omega), up2_nq _ (by omega), up2_nq _ (by omega), up2_nq _ (by omega)]
    · rw [cpy2_ne _ (by omega), cpy2_hit _ _ _ hj, cpy2_ne _ (by omega), cpy2_ne _ (by omega), cpy2_ne _ (by omega), up2_nq _ (by omega), up2_nq _ (by omega), up2_nq _ (by omega)]
    · rw [cpy2_hit _ _ _ hj, cpy2_ne _ (by omega), cpy2_ne _ (by omega), cpy2_ne _ (by omega), cpy2_ne _ (by omega), up2_nq _ (by omega), up2_nq _ (by omega), up2_nq _ (by omega)]
/-- a copy on the one side and on the other -/
theorem PT_cq {σ τ ρ ρ' : AH} {q1 q2 a v np ns : Nat} (hn : np ≤ 10) (h : PT σ ρ q2 v np ns) (hc1 : ∀ j, j < 3 → τ q1 j = σ q2 j) (hc2 : ∀ i j, 1 ≤ i → i ≤ 5 → j < 10 → τ (q1 + i) j = σ (q2 + i) j) (h2 : ρ' 316 a = ρ 316 v) (h3 : ∀ K p, (317 ≤ K ∧ K ≤ 322) → p < 10 → ρ' K (10 * a + p) = ρ K (10 * v + p)) : PT τ ρ' q1 a np ns := by
  obtain ⟨⟨b1, b2⟩, y, hh, c⟩ := h
  refine ⟨⟨by rw [hc1 0 (by omega)]; exact b1, fun p hp => ?_⟩, ?_, ?_, fun p hp => ?_⟩
  · rw [hc2 2 p (by omega) (by omega) (by omega), hc2 3 p (by omega) (by omega) (by omega), hc2 4 p (by omega) (by omega) (by omega), hc2 5 p (by omega) (by omega) (by omega), h3 318 p (by omega) (by omega), h3 319 p (by omega) (by omega), h3 320 p (by omega) (by omega), h3 321 p (by omega) (by omega)]
    exact b2 p hp
  · rw [hc1 1 (by omega), h2]; exact y
  · rw [hc1 2 (by omega), hh]
    refine congrArg (fun x : Nat => (x : Int)) (bs_c (fun p hp => ?_))
    show decide _ = decide _
    rw [h3 322 p (by omega) (by omega)]
  · rw [hc2 1 p (by omega) (by omega) (by omega), h3 317 p (by omega) (by omega), h3 319 p (by omega) (by omega), h3 322 p (by omega) (by omega)]
    exact c p hp
theorem PT_cp {σ τ ρ ρ' : AH} {q1 q2 a v np ns : Nat} (hn : np ≤ 10) (h : PT σ ρ q2 v np ns) (hc : CP σ τ q1 q2) (h2 : ρ' 316 a = ρ 316 v) (h3 : ∀ K p, (317 ≤ K ∧ K ≤ 322) → p < 10 → ρ' K (10 * a + p) = ρ K (10 * v + p)) : PT τ ρ' q1 a np ns := PT_cq hn h hc.2.1 hc.2.2 h2 h3
theorem cpN_l (ρ : AH) (a v : Nat) : cpN ρ a v 10 316 a = ρ 316 v ∧ (∀ K p, (317 ≤ K ∧ K ≤ 322) → p < 10 → cpN ρ a v 10 K (10 * a + p) = ρ K (10 * v + p)) := by
  constructor
  · simp [cpN]
  · intro K p hK hp
    unfold cpN
    rw [if_neg (by omega), if_pos (by omega)]
    congr 1
    omega
theorem cpN_o (ρ : AH) (a v : Nat) : (∀ j, j ≠ a → cpN ρ a v 10 316 j = ρ 316 j) ∧ (∀ K j, (317 ≤ K ∧ K ≤ 322) → (j < 10 * a ∨ 10 * a + 10 ≤ j) → cpN ρ a v 10 K j = ρ K j) := by
  constructor
  · intro j hj
    unfold cpN
    rw [if_neg (by omega), if_neg (by omega)]
  · intro K j hK hj
    unfold cpN
    rw [if_neg (by omega), if_neg (by omega)]
theorem v_copy_42_36 (X : AX) (σ : AH)  : TT X 160 (0, [(2, 42), (2, 36)], [], σ) (fun r σ' => r = none ∧ CP σ σ' 42 36) := by
  refine TT.steps (cd := cd160) 7 (c' := (7, [(2, 42), (2, 36)], [(0, ((up2 σ 42 0 (σ 36 0)) 36 1)), (2, 42)], (up2 σ 42 0 (σ 36 0)))) rfl rfl ?_
  refine TT.top0 (z := (σ 36 1)) (up2_far (k := 42) (k' := 36) _ _ _ _ (by decide)) ?_
  refine TT.steps (cd := cd160) 4 (c' := (11, [(2, 42), (2, 36)], [(0, ((up2 (up2 σ 42 0 (σ 36 0)) 42 1 (σ 36 1)) 36 2)), (2, 42)], (up2 (up2 σ 42 0 (σ 36 0)) 42 1 (σ 36 1)))) rfl rfl ?_
  refine TT.top0 (z := (σ 36 2)) ((up2_far (k := 42) (k' := 36) _ _ _ _ (by decide)).trans (up2_far (k := 42) (k' := 36) _ _ _ _ (by decide))) ?_
  refine TT.steps (cd := cd160) 8 (c' := (19, [(2, 42), (2, 36)], [(0, 10), (0, 0), (2, 43), (0, 0), (2, 37)], (up2 (up2 (up2 σ 42 0 (σ 36 0)) 42 1 (σ 36 1)) 42 2 (σ 36 2)))) rfl rfl ?_
  refine TT.steps (cd := cd160) 1 (c' := (20, [(2, 42), (2, 36)], [], (cpy2 (up2 (up2 (up2 σ 42 0 (σ 36 0)) 42 1 (σ 36 1)) 42 2 (σ 36 2)) 37 43 0 0 10))) rfl rfl ?_
  refine TT.steps (cd := cd160) 7 (c' := (27, [(2, 42), (2, 36)], [(0, 10), (0, 0), (2, 44), (0, 0), (2, 38)], (cpy2 (up2 (up2 (up2 σ 42 0 (σ 36 0)) 42 1 (σ 36 1)) 42 2 (σ 36 2)) 37 43 0 0 10))) rfl rfl ?_
  refine TT.steps (cd := cd160) 1 (c' := (28, [(2, 42), (2, 36)], [], (cpy2 (cpy2 (up2 (up2 (up2 σ 42 0 (σ 36 0)) 42 1 (σ 36 1)) 42 2 (σ 36 2)) 37 43 0 0 10) 38 44 0 0 10))) rfl rfl ?_
  refine TT.steps (cd := cd160) 7 (c' := (35, [(2, 42), (2, 36)], [(0, 10), (0, 0), (2, 45), (0, 0), (2, 39)], (cpy2 (cpy2 (up2 (up2 (up2 σ 42 0 (σ 36 0)) 42 1 (σ 36 1)) 42 2 (σ 36 2)) 37 43 0 0 10) 38 44 0 0 10))) rfl rfl ?_
  refine TT.steps (cd := cd160) 1 (c' := (36, [(2, 42), (2, 36)], [], (cpy2 (cpy2 (cpy2 (up2 (up2 (up2 σ 42 0 (σ 36 0)) 42 1 (σ 36 1)) 42 2 (σ 36 2)) 37 43 0 0 10) 38 44 0 0 10) 39 45 0 0 10))) rfl rfl ?_
  refine TT.steps (cd := cd160) 7 (c' := (43, [(2, 42), (2, 36)], [(0, 10), (0, 0), (2, 46), (0, 0), (2, 40)], (cpy2 (cpy2 (cpy2 (up2 (up2 (up2 σ 42 0 (σ 36 0)) 42 1 (σ 36 1)) 42 2 (σ 36 2)) 37 43 0 0 10) 38 44 0 0 10) 39 45 0 0 10))) rfl rfl ?_
  refine TT.steps (cd := cd160) 1 (c' := (44, [(2, 42), (2, 36)], [], (cpy2 (cpy2 (cpy2 (cpy2 (up2 (up2 (up2 σ 42 0 (σ 36 0)) 42 1 (σ 36 1)) 42 2 (σ 36 2)) 37 43 0 0 10) 38 44 0 0 10) 39 45 0 0 10) 40 46 0 0 10))) rfl rfl ?_
  refine TT.steps (cd := cd160) 7 (c' := (51, [(2, 42), (2, 36)], [(0, 10), (0, 0), (2, 47), (0, 0), (2, 41)], (cpy2 (cpy2 (cpy2 (cpy2 (up2 (up2 (up2 σ 42 0 (σ 36 0)) 42 1 (σ 36 1)) 42 2 (σ 36 2)) 37 43 0 0 10) 38 44 0 0 10) 39 45 0 0 10) 40 46 0 0 10))) rfl rfl ?_
  refine TT.steps (cd := cd160) 1 (c' := (52, [(2, 42), (2, 36)], [], (cpy2 (cpy2 (cpy2 (cpy2 (cpy2 (up2 (up2 (up2 σ 42 0 (σ 36 0)) 42 1 (σ 36 1)) 42 2 (σ 36 2)) 37 43 0 0 10) 38 44 0 0 10) 39 45 0 0 10) 40 46 0 0 10) 41 47 0 0 10))) rfl rfl ?_
  exact TT.ret (cd := cd160) rfl rfl rfl rfl (⟨rfl, CP_of (σ := σ) (q1 := 42) (q2 := 36) (by omega)⟩)
theorem v_copy_36_30 (X : AX) (σ : AH)  : TT X 160 (0, [(2, 36), (2, 30)], [], σ) (fun r σ' => r = none ∧ CP σ σ' 36 30) := by
  refine TT.steps (cd := cd160) 7 (c' := (7, [(2, 36), (2, 30)], [(0, ((up2 σ 36 0 (σ 30 0)) 30 1)), (2, 36)], (up2 σ 36 0 (σ 30 0)))) rfl rfl ?_
  refine TT.top0 (z := (σ 30 1)) (up2_far (k := 36) (k' := 30) _ _ _ _ (by decide)) ?_
  refine TT.steps (cd := cd160) 4 (c' := (11, [(2, 36), (2, 30)], [(0, ((up2 (up2 σ 36 0 (σ 30 0)) 36 1 (σ 30 1)) 30 2)), (2, 36)], (up2 (up2 σ 36 0 (σ 30 0)) 36 1 (σ 30 1)))) rfl rfl ?_
  refine TT.top0 (z := (σ 30 2)) ((up2_far (k := 36) (k' := 30) _ _ _ _ (by decide)).trans (up2_far (k := 36) (k' := 30) _ _ _ _ (by decide))) ?_
  refine TT.steps (cd := cd160) 8 (c' := (19, [(2, 36), (2, 30)], [(0, 10), (0, 0), (2, 37), (0, 0), (2, 31)], (up2 (up2 (up2 σ 36 0 (σ 30 0)) 36 1 (σ 30 1)) 36 2 (σ 30 2)))) rfl rfl ?_
  refine TT.steps (cd := cd160) 1 (c' := (20, [(2, 36), (2, 30)], [], (cpy2 (up2 (up2 (up2 σ 36 0 (σ 30 0)) 36 1 (σ 30 1)) 36 2 (σ 30 2)) 31 37 0 0 10))) rfl rfl ?_
  refine TT.steps (cd := cd160) 7 (c' := (27, [(2, 36), (2, 30)], [(0, 10), (0, 0), (2, 38), (0, 0), (2, 32)], (cpy2 (up2 (up2 (up2 σ 36 0 (σ 30 0)) 36 1 (σ 30 1)) 36 2 (σ 30 2)) 31 37 0 0 10))) rfl rfl ?_
  refine TT.steps (cd := cd160) 1 (c' := (28, [(2, 36), (2, 30)], [], (cpy2 (cpy2 (up2 (up2 (up2 σ 36 0 (σ 30 0)) 36 1 (σ 30 1)) 36 2 (σ 30 2)) 31 37 0 0 10) 32 38 0 0 10))) rfl rfl ?_
  refine TT.steps (cd := cd160) 7 (c' := (35, [(2, 36), (2, 30)], [(0, 10), (0, 0), (2, 39), (0, 0), (2, 33)], (cpy2 (cpy2 (up2 (up2 (up2 σ 36 0 (σ 30 0)) 36 1 (σ 30 1)) 36 2 (σ 30 2)) 31 37 0 0 10) 32 38 0 0 10))) rfl rfl ?_
  refine TT.steps (cd := cd160) 1 (c' := (36, [(2, 36), (2, 30)], [], (cpy2 (cpy2 (cpy2 (up2 (up2 (up2 σ 36 0 (σ 30 0)) 36 1 (σ 30 1)) 36 2 (σ 30 2)) 31 37 0 0 10) 32 38 0 0 10) 33 39 0 0 10))) rfl rfl ?_
  refine TT.steps (cd := cd160) 7 (c' := (43, [(2, 36), (2, 30)], [(0, 10), (0, 0), (2, 40), (0, 0), (2, 34)], (cpy2 (cpy2 (cpy2 (up2 (up2 (up2 σ 36 0 (σ 30 0)) 36 1 (σ 30 1)) 36 2 (σ 30 2)) 31 37 0 0 10) 32 38 0 0 10) 33 39 0 0 10))) rfl rfl ?_
  refine TT.steps (cd := cd160) 1 (c' := (44, [(2, 36), (2, 30)], [], (cpy2 (cpy2 (cpy2 (cpy2 (up2 (up2 (up2 σ 36 0 (σ 30 0)) 36 1 (σ 30 1)) 36 2 (σ 30 2)) 31 37 0 0 10) 32 38 0 0 10) 33 39 0 0 10) 34 40 0 0 10))) rfl rfl ?_
  refine TT.steps (cd := cd160) 7 (c' := (51, [(2, 36), (2, 30)], [(0, 10), (0, 0), (2, 41), (0, 0), (2, 35)], (cpy2 (cpy2 (cpy2 (cpy2 (up2 (up2 (up2 σ 36 0 (σ 30 0)) 36 1 (σ 30 1)) 36 2 (σ 30 2)) 31 37 0 0 10) 32 38 0 0 10) 33 39 0 0 10) 34 40 0 0 10))) rfl rfl ?_
  refine TT.steps (cd := cd160) 1 (c' := (52, [(2, 36), (2, 30)], [], (cpy2 (cpy2 (cpy2 (cpy2 (cpy2 (up2 (up2 (up2 σ 36 0 (σ 30 0)) 36 1 (σ 30 1)) 36 2 (σ 30 2)) 31 37 0 0 10) 32 38 0 0 10) 33 39 0 0 10) 34 40 0 0 10) 35 41 0 0 10))) rfl rfl ?_
  exact TT.ret (cd := cd160) rfl rfl rfl rfl (⟨rfl, CP_of (σ := σ) (q1 := 36) (q2 := 30) (by omega)⟩)
theorem v_copy_36_192 (X : AX) (σ : AH)  : TT X 160 (0, [(2, 36), (2, 192)], [], σ) (fun r σ' => r = none ∧ CP σ σ' 36 192) := by
  refine TT.steps (cd := cd160) 7 (c' := (7, [(2, 36), (2, 192)], [(0, ((up2 σ 36 0 (σ 192 0)) 192 1)), (2, 36)], (up2 σ 36 0 (σ 192 0)))) rfl rfl ?_
  refine TT.top0 (z := (σ 192 1)) (up2_far (k := 36) (k' := 192) _ _ _ _ (by decide)) ?_
  refine TT.steps (cd := cd160) 4 (c' := (11, [(2, 36), (2, 192)], [(0, ((up2 (up2 σ 36 0 (σ 192 0)) 36 1 (σ 192 1)) 192 2)), (2, 36)], (up2 (up2 σ 36 0 (σ 192 0)) 36 1 (σ 192 1)))) rfl rfl ?_
  refine TT.top0 (z := (σ 192 2)) ((up2_far (k := 36) (k' := 192) _ _ _ _ (by decide)).trans (up2_far (k := 36) (k' := 192) _ _ _ _ (by decide))) ?_
  refine TT.steps (cd := cd160) 8 (c' := (19, [(2, 36), (2, 192)], [(0, 10), (0, 0), (2, 37), (0, 0), (2, 193)], (up2 (up2 (up2 σ 36 0 (σ 192 0)) 36 1 (σ 192 1)) 36 2 (σ 192 2)))) rfl rfl ?_
  refine TT.steps (cd := cd160) 1 (c' := (20, [(2, 36), (2, 192)], [], (cpy2 (up2 (up2 (up2 σ 36 0 (σ 192 0)) 36 1 (σ 192 1)) 36 2 (σ 192 2)) 193 37 0 0 10))) rfl rfl ?_
  refine TT.steps (cd := cd160) 7 (c' := (27, [(2, 36), (2, 192)], [(0, 10), (0, 0), (2, 38), (0, 0), (2, 194)], (cpy2 (up2 (up2 (up2 σ 36 0 (σ 192 0)) 36 1 (σ 192 1)) 36 2 (σ 192 2)) 193 37 0 0 10))) rfl rfl ?_
  refine TT.steps (cd := cd160) 1 (c' := (28, [(2, 36), (2, 192)], [], (cpy2 (cpy2 (up2 (up2 (up2 σ 36 0 (σ 192 0)) 36 1 (σ 192 1)) 36 2 (σ 192 2)) 193 37 0 0 10) 194 38 0 0 10))) rfl rfl ?_
  refine TT.steps (cd := cd160) 7 (c' := (35, [(2, 36), (2, 192)], [(0, 10), (0, 0), (2, 39), (0, 0), (2, 195)], (cpy2 (cpy2 (up2 (up2 (up2 σ 36 0 (σ 192 0)) 36 1 (σ 192 1)) 36 2 (σ 192 2)) 193 37 0 0 10) 194 38 0 0 10))) rfl rfl ?_
  refine TT.steps (cd := cd160) 1 (c' := (36, [(2, 36), (2, 192)], [], (cpy2 (cpy2 (cpy2 (up2 (up2 (up2 σ 36 0 (σ 192 0)) 36 1 (σ 192 1)) 36 2 (σ 192 2)) 193 37 0 0 10) 194 38 0 0 10) 195 39 0 0 10))) rfl rfl ?_
  refine TT.steps (cd := cd160) 7 (c' := (43, [(2, 36), (2, 192)], [(0, 10), (0, 0), (2, 40), (0, 0), (2, 196)], (cpy2 (cpy2 (cpy2 (up2 (up2 (up2 σ 36 0 (σ 192 0)) 36 1 (σ 192 1)) 36 2 (σ 192 2)) 193 37 0 0 10) 194 38 0 0 10) 195 39 0 0 10))) rfl rfl ?_
  refine TT.steps (cd := cd160) 1 (c' := (44, [(2, 36), (2, 192)], [], (cpy2 (cpy2 (cpy2 (cpy2 (up2 (up2 (up2 σ 36 0 (σ 192 0)) 36 1 (σ 192 1)) 36 2 (σ 192 2)) 193 37 0 0 10) 194 38 0 0 10) 195 39 0 0 10) 196 40 0 0 10))) rfl rfl ?_
  refine TT.steps (cd := cd160) 7 (c' := (51, [(2, 36), (2, 192)], [(0, 10), (0, 0), (2, 41), (0, 0), (2, 197)], (cpy2 (cpy2 (cpy2 (cpy2 (up2 (up2 (up2 σ 36 0 (σ 192 0)) 36 1 (σ 192 1)) 36 2 (σ 192 2)) 193 37 0 0 10) 194 38 0 0 10) 195 39 0 0 10) 196 40 0 0 10))) rfl rfl ?_
  refine TT.steps (cd := cd160) 1 (c' := (52, [(2, 36), (2, 192)], [], (cpy2 (cpy2 (cpy2 (cpy2 (cpy2 (up2 (up2 (up2 σ 36 0 (σ 192 0)) 36 1 (σ 192 1)) 36 2 (σ 192 2)) 193 37 0 0 10) 194 38 0 0 10) 195 39 0 0 10) 196 40 0 0 10) 197 41 0 0 10))) rfl rfl ?_
  exact TT.ret (cd := cd160) rfl rfl rfl rfl (⟨rfl, CP_of (σ := σ) (q1 := 36) (q2 := 192) (by omega)⟩)
theorem v_copy_50_36 (X : AX) (σ : AH)  : TT X 160 (0, [(2, 50), (2, 36)], [], σ) (fun r σ' => r = none ∧ CP σ σ' 50 36) := by
  refine TT.steps (cd := cd160) 7 (c' := (7, [(2, 50), (2, 36)], [(0, ((up2 σ 50 0 (σ 36 0)) 36 1)), (2, 50)], (up2 σ 50 0 (σ 36 0)))) rfl rfl ?_
  refine TT.top0 (z := (σ 36 1)) (up2_far (k := 50) (k' := 36) _ _ _ _ (by decide)) ?_
  refine TT.steps (cd := cd160) 4 (c' := (11, [(2, 50), (2, 36)], [(0, ((up2 (up2 σ 50 0 (σ 36 0)) 50 1 (σ 36 1)) 36 2)), (2, 50)], (up2 (up2 σ 50 0 (σ 36 0)) 50 1 (σ 36 1)))) rfl rfl ?_
  refine TT.top0 (z := (σ 36 2)) ((up2_far (k := 50) (k' := 36) _ _ _ _ (by decide)).trans (up2_far (k := 50) (k' := 36) _ _ _ _ (by decide))) ?_
  refine TT.steps (cd := cd160) 8 (c' := (19, [(2, 50), (2, 36)], [(0, 10), (0, 0), (2, 51), (0, 0), (2, 37)], (up2 (up2 (up2 σ 50 0 (σ 36 0)) 50 1 (σ 36 1)) 50 2 (σ 36 2)))) rfl rfl ?_
  refine TT.steps (cd := cd160) 1 (c' := (20, [(2, 50), (2, 36)], [], (cpy2 (up2 (up2 (up2 σ 50 0 (σ 36 0)) 50 1 (σ 36 1)) 50 2 (σ 36 2)) 37 51 0 0 10))) rfl rfl ?_
  refine TT.steps (cd := cd160) 7 (c' := (27, [(2, 50), (2, 36)], [(0, 10), (0, 0), (2, 52), (0, 0), (2, 38)], (cpy2 (up2 (up2 (up2 σ 50 0 (σ 36 0)) 50 1 (σ 36 1)) 50 2 (σ 36 2)) 37 51 0 0 10))) rfl rfl ?_
  refine TT.steps (cd := cd160) 1 (c' := (28, [(2, 50), (2, 36)], [], (cpy2 (cpy2 (up2 (up2 (up2 σ 50 0 (σ 36 0)) 50 1 (σ 36 1)) 50 2 (σ 36 2)) 37 51 0 0 10) 38 52 0 0 10))) rfl rfl ?_
  refine TT.steps (cd := cd160) 7 (c' := (35, [(2, 50), (2, 36)], [(0, 10), (0, 0), (2, 53), (0, 0), (2, 39)], (cpy2 (cpy2 (up2 (up2 (up2 σ 50 0 (σ 36 0)) 50 1 (σ 36 1)) 50 2 (σ 36 2)) 37 51 0 0 10) 38 52 0 0 10))) rfl rfl ?_
  refine TT.steps (cd := cd160) 1 (c' := (36, [(2, 50), (2, 36)], [], (cpy2 (cpy2 (cpy2 (up2 (up2 (up2 σ 50 0 (σ 36 0)) 50 1 (σ 36 1)) 50 2 (σ 36 2)) 37 51 0 0 10) 38 52 0 0 10) 39 53 0 0 10))) rfl rfl ?_
  refine TT.steps (cd := cd160) 7 (c' := (43, [(2, 50), (2, 36)], [(0, 10), (0, 0), (2, 54), (0, 0), (2, 40)], (cpy2 (cpy2 (cpy2 (up2 (up2 (up2 σ 50 0 (σ 36 0)) 50 1 (σ 36 1)) 50 2 (σ 36 2)) 37 51 0 0 10) 38 52 0 0 10) 39 53 0 0 10))) rfl rfl ?_
  refine TT.steps (cd := cd160) 1 (c' := (44, [(2, 50), (2, 36)], [], (cpy2 (cpy2 (cpy2 (cpy2 (up2 (up2 (up2 σ 50 0 (σ 36 0)) 50 1 (σ 36 1)) 50 2 (σ 36 2)) 37 51 0 0 10) 38 52 0 0 10) 39 53 0 0 10) 40 54 0 0 10))) rfl rfl ?_
  refine TT.steps (cd := cd160) 7 (c' := (51, [(2, 50), (2, 36)], [(0, 10), (0, 0), (2, 55), (0, 0), (2, 41)], (cpy2 (cpy2 (cpy2 (cpy2 (up2 (up2 (up2 σ 50 0 (σ 36 0)) 50 1 (σ 36 1)) 50 2 (σ 36 2)) 37 51 0 0 10) 38 52 0 0 10) 39 53 0 0 10) 40 54 0 0 10))) rfl rfl ?_
  refine TT.steps (cd := cd160) 1 (c' := (52, [(2, 50), (2, 36)], [], (cpy2 (cpy2 (cpy2 (cpy2 (cpy2 (up2 (up2 (up2 σ 50 0 (σ 36 0)) 50 1 (σ 36 1)) 50 2 (σ 36 2)) 37 51 0 0 10) 38 52 0 0 10) 39 53 0 0 10) 40 54 0 0 10) 41 55 0 0 10))) rfl rfl ?_
  exact TT.ret (cd := cd160) rfl rfl rfl rfl (⟨rfl, CP_of (σ := σ) (q1 := 50) (q2 := 36) (by omega)⟩)
theorem v_copy_56_36 (X : AX) (σ : AH)  : TT X 160 (0, [(2, 56), (2, 36)], [], σ) (fun r σ' => r = none ∧ CP σ σ' 56 36) := by
  refine TT.steps (cd := cd160) 7 (c' := (7, [(2, 56), (2, 36)], [(0, ((up2 σ 56 0 (σ 36 0)) 36 1)), (2, 56)], (up2 σ 56 0 (σ 36 0)))) rfl rfl ?_
  refine TT.top0 (z := (σ 36 1)) (up2_far (k := 56) (k' := 36) _ _ _ _ (by decide)) ?_
  refine TT.steps (cd := cd160) 4 (c' := (11, [(2, 56), (2, 36)], [(0, ((up2 (up2 σ 56 0 (σ 36 0)) 56 1 (σ 36 1)) 36 2)), (2, 56)], (up2 (up2 σ 56 0 (σ 36 0)) 56 1 (σ 36 1)))) rfl rfl ?_
  refine TT.top0 (z := (σ 36 2)) ((up2_far (k := 56) (k' := 36) _ _ _ _ (by decide)).trans (up2_far (k := 56) (k' := 36) _ _ _ _ (by decide))) ?_
  refine TT.steps (cd := cd160) 8 (c' := (19, [(2, 56), (2, 36)], [(0, 10), (0, 0), (2, 57), (0, 0), (2, 37)], (up2 (up2 (up2 σ 56 0 (σ 36 0)) 56 1 (σ 36 1)) 56 2 (σ 36 2)))) rfl rfl ?_
  refine TT.steps (cd := cd160) 1 (c' := (20, [(2, 56), (2, 36)], [], (cpy2 (up2 (up2 (up2 σ 56 0 (σ 36 0)) 56 1 (σ 36 1)) 56 2 (σ 36 2)) 37 57 0 0 10))) rfl rfl ?_
  refine TT.steps (cd := cd160) 7 (c' := (27, [(2, 56), (2, 36)], [(0, 10), (0, 0), (2, 58), (0, 0), (2, 38)], (cpy2 (up2 (up2 (up2 σ 56 0 (σ 36 0)) 56 1 (σ 36 1)) 56 2 (σ 36 2)) 37 57 0 0 10))) rfl rfl ?_
  refine TT.steps (cd := cd160) 1 (c' := (28, [(2, 56), (2, 36)], [], (cpy2 (cpy2 (up2 (up2 (up2 σ 56 0 (σ 36 0)) 56 1 (σ 36 1)) 56 2 (σ 36 2)) 37 57 0 0 10) 38 58 0 0 10))) rfl rfl ?_
  refine TT.steps (cd := cd160) 7 (c' := (35, [(2, 56), (2, 36)], [(0, 10), (0, 0), (2, 59), (0, 0), (2, 39)], (cpy2 (cpy2 (up2 (up2 (up2 σ 56 0 (σ 36 0)) 56 1 (σ 36 1)) 56 2 (σ 36 2)) 37 57 0 0 10) 38 58 0 0 10))) rfl rfl ?_
  refine TT.steps (cd := cd160) 1 (c' := (36, [(2, 56), (2, 36)], [], (cpy2 (cpy2 (cpy2 (up2 (up2 (up2 σ 56 0 (σ 36 0)) 56 1 (σ 36 1)) 56 2 (σ 36 2)) 37 57 0 0 10) 38 58 0 0 10) 39 59 0 0 10))) rfl rfl ?_
  refine TT.steps (cd := cd160) 7 (c' := (43, [(2, 56), (2, 36)], [(0, 10), (0, 0), (2, 60), (0, 0), (2, 40)], (cpy2 (cpy2 (cpy2 (up2 (up2 (up2 σ 56 0 (σ 36 0)) 56 1 (σ 36 1)) 56 2 (σ 36 2)) 37 57 0 0 10) 38 58 0 0 10) 39 59 0 0 10))) rfl rfl ?_
  refine TT.steps (cd := cd160) 1 (c' := (44, [(2, 56), (2, 36)], [], (cpy2 (cpy2 (cpy2 (cpy2 (up2 (up2 (up2 σ 56 0 (σ 36 0)) 56 1 (σ 36 1)) 56 2 (σ 36 2)) 37 57 0 0 10) 38 58 0 0 10) 39 59 0 0 10) 40 60 0 0 10))) rfl rfl ?_
  refine TT.steps (cd := cd160) 7 (c' := (51, [(2, 56), (2, 36)], [(0, 10), (0, 0), (2, 61), (0, 0), (2, 41)], (cpy2 (cpy2 (cpy2 (cpy2 (up2 (up2 (up2 σ 56 0 (σ 36 0)) 56 1 (σ 36 1)) 56 2 (σ 36 2)) 37 57 0 0 10) 38 58 0 0 10) 39 59 0 0 10) 40 60 0 0 10))) rfl rfl ?_
  refine TT.steps (cd := cd160) 1 (c' := (52, [(2, 56), (2, 36)], [], (cpy2 (cpy2 (cpy2 (cpy2 (cpy2 (up2 (up2 (up2 σ 56 0 (σ 36 0)) 56 1 (σ 36 1)) 56 2 (σ 36 2)) 37 57 0 0 10) 38 58 0 0 10) 39 59 0 0 10) 40 60 0 0 10) 41 61 0 0 10))) rfl rfl ?_
  exact TT.ret (cd := cd160) rfl rfl rfl rfl (⟨rfl, CP_of (σ := σ) (q1 := 56) (q2 := 36) (by omega)⟩)
theorem v_copy_62_36 (X : AX) (σ : AH)  : TT X 160 (0, [(2, 62), (2, 36)], [], σ) (fun r σ' => r = none ∧ CP σ σ' 62 36) := by
  refine TT.steps (cd := cd160) 7 (c' := (7, [(2, 62), (2, 36)], [(0, ((up2 σ 62 0 (σ 36 0)) 36 1)), (2, 62)], (up2 σ 62 0 (σ 36 0)))) rfl rfl ?_
  refine TT.top0 (z := (σ 36 1)) (up2_far (k := 62) (k' := 36) _ _ _ _ (by decide)) ?_
  refine TT.steps (cd := cd160) 4 (c' := (11, [(2, 62), (2, 36)], [(0, ((up2 (up2 σ 62 0 (σ 36 0)) 62 1 (σ 36 1)) 36 2)), (2, 62)], (up2 (up2 σ 62 0 (σ 36 0)) 62 1 (σ 36 1)))) rfl rfl ?_
  refine TT.top0 (z := (σ 36 2)) ((up2_far (k := 62) (k' := 36) _ _ _ _ (by decide)).trans (up2_far (k := 62) (k' := 36) _ _ _ _ (by decide))) ?_
  refine TT.steps (cd := cd160) 8 (c' := (19, [(2, 62), (2, 36)], [(0, 10), (0, 0), (2, 63), (0, 0), (2, 37)], (up2 (up2 (up2 σ 62 0 (σ 36 0)) 62 1 (σ 36 1)) 62 2 (σ 36 2)))) rfl rfl ?_
  refine TT.steps (cd := cd160) 1 (c' := (20, [(2, 62), (2, 36)], [], (cpy2 (up2 (up2 (up2 σ 62 0 (σ 36 0)) 62 1 (σ 36 1)) 62 2 (σ 36 2)) 37 63 0 0 10))) rfl rfl ?_
  refine TT.steps (cd := cd160) 7 (c' := (27, [(2, 62), (2, 36)], [(0, 10), (0, 0), (2, 64), (0, 0), (2, 38)], (cpy2 (up2 (up2 (up2 σ 62 0 (σ 36 0)) 62 1 (σ 36 1)) 62 2 (σ 36 2)) 37 63 0 0 10))) rfl rfl ?_
  refine TT.steps (cd := cd160) 1 (c' := (28, [(2, 62), (2, 36)], [], (cpy2 (cpy2 (up2 (up2 (up2 σ 62 0 (σ 36 0)) 62 1 (σ 36 1)) 62 2 (σ 36 2)) 37 63 0 0 10) 38 64 0 0 10))) rfl rfl ?_
  refine TT.steps (cd := cd160) 7 (c' := (35, [(2, 62), (2, 36)], [(0, 10), (0, 0), (2, 65), (0, 0), (2, 39)], (cpy2 (cpy2 (up2 (up2 (up2 σ 62 0 (σ 36 0)) 62 1 (σ 36 1)) 62 2 (σ 36 2)) 37 63 0 0 10) 38 64 0 0 10))) rfl rfl ?_
  refine TT.steps (cd := cd160) 1 (c' := (36, [(2, 62), (2, 36)], [], (cpy2 (cpy2 (cpy2 (up2 (up2 (up2 σ 62 0 (σ 36 0)) 62 1 (σ 36 1)) 62 2 (σ 36 2)) 37 63 0 0 10) 38 64 0 0 10) 39 65 0 0 10))) rfl rfl ?_
  refine TT.steps (cd := cd160) 7 (c' := (43, [(2, 62), (2, 36)], [(0, 10), (0, 0), (2, 66), (0, 0), (2, 40)], (cpy2 (cpy2 (cpy2 (up2 (up2 (up2 σ 62 0 (σ 36 0)) 62 1 (σ 36 1)) 62 2 (σ 36 2)) 37 63 0 0 10) 38 64 0 0 10) 39 65 0 0 10))) rfl rfl ?_
  refine TT.steps (cd := cd160) 1 (c' := (44, [(2, 62), (2, 36)], [], (cpy2 (cpy2 (cpy2 (cpy2 (up2 (up2 (up2 σ 62 0 (σ 36 0)) 62 1 (σ 36 1)) 62 2 (σ 36 2)) 37 63 0 0 10) 38 64 0 0 10) 39 65 0 0 10) 40 66 0 0 10))) rfl rfl ?_
  refine TT.steps (cd := cd160) 7 (c' := (51, [(2, 62), (2, 36)], [(0, 10), (0, 0), (2, 67), (0, 0), (2, 41)], (cpy2 (cpy2 (cpy2 (cpy2 (up2 (up2 (up2 σ 62 0 (σ 36 0)) 62 1 (σ 36 1)) 62 2 (σ 36 2)) 37 63 0 0 10) 38 64 0 0 10) 39 65 0 0 10) 40 66 0 0 10))) rfl rfl ?_
  refine TT.steps (cd := cd160) 1 (c' := (52, [(2, 62), (2, 36)], [], (cpy2 (cpy2 (cpy2 (cpy2 (cpy2 (up2 (up2 (up2 σ 62 0 (σ 36 0)) 62 1 (σ 36 1)) 62 2 (σ 36 2)) 37 63 0 0 10) 38 64 0 0 10) 39 65 0 0 10) 40 66 0 0 10) 41 67 0 0 10))) rfl rfl ?_
  exact TT.ret (cd := cd160) rfl rfl rfl rfl (⟨rfl, CP_of (σ := σ) (q1 := 62) (q2 := 36) (by omega)⟩)
theorem v_copy_68_36 (X : AX) (σ : AH)  : TT X 160 (0, [(2, 68), (2, 36)], [], σ) (fun r σ' => r = none ∧ CP σ σ' 68 36) := by
  refine TT.steps (cd := cd160) 7 (c' := (7, [(2, 68), (2, 36)], [(0, ((up2 σ 68 0 (σ 36 0)) 36 1)), (2, 68)], (up2 σ 68 0 (σ 36 0)))) rfl rfl ?_
  refine TT.top0 (z := (σ 36 1)) (up2_far (k := 68) (k' := 36) _ _ _ _ (by decide)) ?_
  refine TT.steps (cd := cd160) 4 (c' := (11, [(2, 68), (2, 36)], [(0, ((up2 (up2 σ 68 0 (σ 36 0)) 68 1 (σ 36 1)) 36 2)), (2, 68)], (up2 (up2 σ 68 0 (σ 36 0)) 68 1 (σ 36 1)))) rfl rfl ?_
  refine TT.top0 (z := (σ 36 2)) ((up2_far (k := 68) (k' := 36) _ _ _ _ (by decide)).trans (up2_far (k := 68) (k' := 36) _ _ _ _ (by decide))) ?_
  refine TT.steps (cd := cd160) 8 (c' := (19, [(2, 68), (2, 36)], [(0, 10), (0, 0), (2, 69), (0, 0), (2, 37)], (up2 (up2 (up2 σ 68 0 (σ 36 0)) 68 1 (σ 36 1)) 68 2 (σ 36 2)))) rfl rfl ?_
  refine TT.steps (cd := cd160) 1 (c' := (20, [(2, 68), (2, 36)], [], (cpy2 (up2 (up2 (up2 σ 68 0 (σ 36 0)) 68 1 (σ 36 1)) 68 2 (σ 36 2)) 37 69 0 0 10))) rfl rfl ?_
  refine TT.steps (cd := cd160) 7 (c' := (27, [(2, 68), (2, 36)], [(0, 10), (0, 0), (2, 70), (0, 0), (2, 38)], (cpy2 (up2 (up2 (up2 σ 68 0 (σ 36 0)) 68 1 (σ 36 1)) 68 2 (σ 36 2)) 37 69 0 0 10))) rfl rfl ?_
  refine TT.steps (cd := cd160) 1 (c' := (28, [(2, 68), (2, 36)], [], (cpy2 (cpy2 (up2 (up2 (up2 σ 68 0 (σ 36 0)) 68 1 (σ 36 1)) 68 2 (σ 36 2)) 37 69 0 0 10) 38 70 0 0 10))) rfl rfl ?_
  refine TT.steps (cd := cd160) 7 (c' := (35, [(2, 68), (2, 36)], [(0, 10), (0, 0), (2, 71), (0, 0), (2, 39)], (cpy2 (cpy2 (up2 (up2 (up2 σ 68 0 (σ 36 0)) 68 1 (σ 36 1)) 68 2 (σ 36 2)) 37 69 0 0 10) 38 70 0 0 10))) rfl rfl ?_
  refine TT.steps (cd := cd160) 1 (c' := (36, [(2, 68), (2, 36)], [], (cpy2 (cpy2 (cpy2 (up2 (up2 (up2 σ 68 0 (σ 36 0)) 68 1 (σ 36 1)) 68 2 (σ 36 2)) 37 69 0 0 10) 38 70 0 0 10) 39 71 0 0 10))) rfl rfl ?_
  refine TT.steps (cd := cd160) 7 (c' := (43, [(2, 68), (2, 36)], [(0, 10), (0, 0), (2, 72), (0, 0), (2, 40)], (cpy2 (cpy2 (cpy2 (up2 (up2 (up2 σ 68 0 (σ 36 0)) 68 1 (σ 36 1)) 68 2 (σ 36 2)) 37 69 0 0 10) 38 70 0 0 10) 39 71 0 0 10))) rfl rfl ?_
  refine TT.steps (cd := cd160) 1 (c' := (44, [(2, 68), (2, 36)], [], (cpy2 (cpy2 (cpy2 (cpy2 (up2 (up2 (up2 σ 68 0 (σ 36 0)) 68 1 (σ 36 1)) 68 2 (σ 36 2)) 37 69 0 0 10) 38 70 0 0 10) 39 71 0 0 10) 40 72 0 0 10))) rfl rfl ?_
  refine TT.steps (cd := cd160) 7 (c' := (51, [(2, 68), (2, 36)], [(0, 10), (0, 0), (2, 73), (0, 0), (2, 41)], (cpy2 (cpy2 (cpy2 (cpy2 (up2 (up2 (up2 σ 68 0 (σ 36 0)) 68 1 (σ 36 1)) 68 2 (σ 36 2)) 37 69 0 0 10) 38 70 0 0 10) 39 71 0 0 10) 40 72 0 0 10))) rfl rfl ?_
  refine TT.steps (cd := cd160) 1 (c' := (52, [(2, 68), (2, 36)], [], (cpy2 (cpy2 (cpy2 (cpy2 (cpy2 (up2 (up2 (up2 σ 68 0 (σ 36 0)) 68 1 (σ 36 1)) 68 2 (σ 36 2)) 37 69 0 0 10) 38 70 0 0 10) 39 71 0 0 10) 40 72 0 0 10) 41 73 0 0 10))) rfl rfl ?_
  exact TT.ret (cd := cd160) rfl rfl rfl rfl (⟨rfl, CP_of (σ := σ) (q1 := 68) (q2 := 36) (by omega)⟩)
theorem v_copy_74_36 (X : AX) (σ : AH)  : TT X 160 (0, [(2, 74), (2, 36)], [], σ) (fun r σ' => r = none ∧ CP σ σ' 74 36) := by
  refine TT.steps (cd := cd160) 7 (c' := (7, [(2, 74), (2, 36)], [(0, ((up2 σ 74 0 (σ 36 0)) 36 1)), (2, 74)], (up2 σ 74 0 (σ 36 0)))) rfl rfl ?_
  refine TT.top0 (z := (σ 36 1)) (up2_far (k := 74) (k' := 36) _ _ _ _ (by decide)) ?_
  refine TT.steps (cd := cd160) 4 (c' := (11, [(2, 74), (2, 36)], [(0, ((up2 (up2 σ 74 0 (σ 36 0)) 74 1 (σ 36 1)) 36 2)), (2, 74)], (up2 (up2 σ 74 0 (σ 36 0)) 74 1 (σ 36 1)))) rfl rfl ?_
  refine TT.top0 (z := (σ 36 2)) ((up2_far (k := 74) (k' := 36) _ _ _ _ (by decide)).trans (up2_far (k := 74) (k' := 36) _ _ _ _ (by decide))) ?_
  refine TT.steps (cd := cd160) 8 (c' := (19, [(2, 74), (2, 36)], [(0, 10), (0, 0), (2, 75), (0, 0), (2, 37)], (up2 (up2 (up2 σ 74 0 (σ 36 0)) 74 1 (σ 36 1)) 74 2 (σ 36 2)))) rfl rfl ?_
  refine TT.steps (cd := cd160) 1 (c' := (20, [(2, 74), (2, 36)], [], (cpy2 (up2 (up2 (up2 σ 74 0 (σ 36 0)) 74 1 (σ 36 1)) 74 2 (σ 36 2)) 37 75 0 0 10))) rfl rfl ?_
  refine TT.steps (cd := cd160) 7 (c' := (27, [(2, 74), (2, 36)], [(0, 10), (0, 0), (2, 76), (0, 0), (2, 38)], (cpy2 (up2 (up2 (up2 σ 74 0 (σ 36 0)) 74 1 (σ 36 1)) 74 2 (σ 36 2)) 37 75 0 0 10))) rfl rfl ?_
  refine TT.steps (cd := cd160) 1 (c' := (28, [(2, 74), (2, 36)], [], (cpy2 (cpy2 (up2 (up2 (up2 σ 74 0 (σ 36 0)) 74 1 (σ 36 1)) 74 2 (σ 36 2)) 37 75 0 0 10) 38 76 0 0 10))) rfl rfl ?_
  refine TT.steps (cd := cd160) 7 (c' := (35, [(2, 74), (2, 36)], [(0, 10), (0, 0), (2, 77), (0, 0), (2, 39)], (cpy2 (cpy2 (up2 (up2 (up2 σ 74 0 (σ 36 0)) 74 1 (σ 36 1)) 74 2 (σ 36 2)) 37 75 0 0 10) 38 76 0 0 10))) rfl rfl ?_
  refine TT.steps (cd := cd160) 1 (c' := (36, [(2, 74), (2, 36)], [], (cpy2 (cpy2 (cpy2 (up2 (up2 (up2 σ 74 0 (σ 36 0)) 74 1 (σ 36 1)) 74 2 (σ 36 2)) 37 75 0 0 10) 38 76 0 0 10) 39 77 0 0 10))) rfl rfl ?_
  refine TT.steps (cd := cd160) 7 (c' := (43, [(2, 74), (2, 36)], [(0, 10), (0, 0), (2, 78), (0, 0), (2, 40)], (cpy2 (cpy2 (cpy2 (up2 (up2 (up2 σ 74 0 (σ 36 0)) 74 1 (σ 36 1)) 74 2 (σ 36 2)) 37 75 0 0 10) 38 76 0 0 10) 39 77 0 0 10))) rfl rfl ?_
  refine TT.steps (cd := cd160) 1 (c' := (44, [(2, 74), (2, 36)], [], (cpy2 (cpy2 (cpy2 (cpy2 (up2 (up2 (up2 σ 74 0 (σ 36 0)) 74 1 (σ 36 1)) 74 2 (σ 36 2)) 37 75 0 0 10) 38 76 0 0 10) 39 77 0 0 10) 40 78 0 0 10))) rfl rfl ?_
  refine TT.steps (cd := cd160) 7 (c' := (51, [(2, 74), (2, 36)], [(0, 10), (0, 0), (2, 79), (0, 0), (2, 41)], (cpy2 (cpy2 (cpy2 (cpy2 (up2 (up2 (up2 σ 74 0 (σ 36 0)) 74 1 (σ 36 1)) 74 2 (σ 36 2)) 37 75 0 0 10) 38 76 0 0 10) 39 77 0 0 10) 40 78 0 0 10))) rfl rfl ?_
  refine TT.steps (cd := cd160) 1 (c' := (52, [(2, 74), (2, 36)], [], (cpy2 (cpy2 (cpy2 (cpy2 (cpy2 (up2 (up2 (up2 σ 74 0 (σ 36 0)) 74 1 (σ 36 1)) 74 2 (σ 36 2)) 37 75 0 0 10) 38 76 0 0 10) 39 77 0 0 10) 40 78 0 0 10) 41 79 0 0 10))) rfl rfl ?_
  exact TT.ret (cd := cd160) rfl rfl rfl rfl (⟨rfl, CP_of (σ := σ) (q1 := 74) (q2 := 36) (by omega)⟩)
theorem v_copy_80_36 (X : AX) (σ : AH)  : TT X 160 (0, [(2, 80), (2, 36)], [], σ) (fun r σ' => r = none ∧ CP σ σ' 80 36) := by
  refine TT.steps (cd := cd160) 7 (c' := (7, [(2, 80), (2, 36)], [(0, ((up2 σ 80 0 (σ 36 0)) 36 1)), (2, 80)], (up2 σ 80 0 (σ 36 0)))) rfl rfl ?_
  refine TT.top0 (z := (σ 36 1)) (up2_far (k := 80) (k' := 36) _ _ _ _ (by decide)) ?_
  refine TT.steps (cd := cd160) 4 (c' := (11, [(2, 80), (2, 36)], [(0, ((up2 (up2 σ 80 0 (σ 36 0)) 80 1 (σ 36 1)) 36 2)), (2, 80)], (up2 (up2 σ 80 0 (σ 36 0)) 80 1 (σ 36 1)))) rfl rfl ?_
  refine TT.top0 (z := (σ 36 2)) ((up2_far (k := 80) (k' := 36) _ _ _ _ (by decide)).trans (up2_far (k := 80) (k' := 36) _ _ _ _ (by decide))) ?_
  refine TT.steps (cd := cd160) 8 (c' := (19, [(2, 80), (2, 36)], [(0, 10), (0, 0), (2, 81), (0, 0), (2, 37)], (up2 (up2 (up2 σ 80 0 (σ 36 0)) 80 1 (σ 36 1)) 80 2 (σ 36 2)))) rfl rfl ?_
  refine TT.steps (cd := cd160) 1 (c' := (20, [(2, 80), (2, 36)], [], (cpy2 (up2 (up2 (up2 σ 80 0 (σ 36 0)) 80 1 (σ 36 1)) 80 2 (σ 36 2)) 37 81 0 0 10))) rfl rfl ?_
  refine TT.steps (cd := cd160) 7 (c' := (27, [(2, 80), (2, 36)], [(0, 10), (0, 0), (2, 82), (0, 0), (2, 38)], (cpy2 (up2 (up2 (up2 σ 80 0 (σ 36 0)) 80 1 (σ 36 1)) 80 2 (σ 36 2)) 37 81 0 0 10))) rfl rfl ?_
  refine TT.steps (cd := cd160) 1 (c' := (28, [(2, 80), (2, 36)], [], (cpy2 (cpy2 (up2 (up2 (up2 σ 80 0 (σ 36 0)) 80 1 (σ 36 1)) 80 2 (σ 36 2)) 37 81 0 0 10) 38 82 0 0 10))) rfl rfl ?_
  refine TT.steps (cd := cd160) 7 (c' := (35, [(2, 80), (2, 36)], [(0, 10), (0, 0), (2, 83), (0, 0), (2, 39)], (cpy2 (cpy2 (up2 (up2 (up2 σ 80 0 (σ 36 0)) 80 1 (σ 36 1)) 80 2 (σ 36 2)) 37 81 0 0 10) 38 82 0 0 10))) rfl rfl ?_
  refine TT.steps (cd := cd160) 1 (c' := (36, [(2, 80), (2, 36)], [], (cpy2 (cpy2 (cpy2 (up2 (up2 (up2 σ 80 0 (σ 36 0)) 80 1 (σ 36 1)) 80 2 (σ 36 2)) 37 81 0 0 10) 38 82 0 0 10) 39 83 0 0 10))) rfl rfl ?_
  refine TT.steps (cd := cd160) 7 (c' := (43, [(2, 80), (2, 36)], [(0, 10), (0, 0), (2, 84), (0, 0), (2, 40)], (cpy2 (cpy2 (cpy2 (up2 (up2 (up2 σ 80 0 (σ 36 0)) 80 1 (σ 36 1)) 80 2 (σ 36 2)) 37 81 0 0 10) 38 82 0 0 10) 39 83 0 0 10))) rfl rfl ?_
  refine TT.steps (cd := cd160) 1 (c' := (44, [(2, 80), (2, 36)], [], (cpy2 (cpy2 (cpy2 (cpy2 (up2 (up2 (up2 σ 80 0 (σ 36 0)) 80 1 (σ 36 1)) 80 2 (σ 36 2)) 37 81 0 0 10) 38 82 0 0 10) 39 83 0 0 10) 40 84 0 0 10))) rfl rfl ?_
  refine TT.steps (cd := cd160) 7 (c' := (51, [(2, 80), (2, 36)], [(0, 10), (0, 0), (2, 85), (0, 0), (2, 41)], (cpy2 (cpy2 (cpy2 (cpy2 (up2 (up2 (up2 σ 80 0 (σ 36 0)) 80 1 (σ 36 1)) 80 2 (σ 36 2)) 37 81 0 0 10) 38 82 0 0 10) 39 83 0 0 10) 40 84 0 0 10))) rfl rfl ?_
  refine TT.steps (cd := cd160) 1 (c' := (52, [(2, 80), (2, 36)], [], (cpy2 (cpy2 (cpy2 (cpy2 (cpy2 (up2 (up2 (up2 σ 80 0 (σ 36 0)) 80 1 (σ 36 1)) 80 2 (σ 36 2)) 37 81 0 0 10) 38 82 0 0 10) 39 83 0 0 10) 40 84 0 0 10) 41 85 0 0 10))) rfl rfl ?_
  exact TT.ret (cd := cd160) rfl rfl rfl rfl (⟨rfl, CP_of (σ := σ) (q1 := 80) (q2 := 36) (by omega)⟩)
theorem v_copy_86_36 (X : AX) (σ : AH)  : TT X 160 (0, [(2, 86), (2, 36)], [], σ) (fun r σ' => r = none ∧ CP σ σ' 86 36) := by
  refine TT.steps (cd := cd160) 7 (c' := (7, [(2, 86), (2, 36)], [(0, ((up2 σ 86 0 (σ 36 0)) 36 1)), (2, 86)], (up2 σ 86 0 (σ 36 0)))) rfl rfl ?_
  refine TT.top0 (z := (σ 36 1)) (up2_far (k := 86) (k' := 36) _ _ _ _ (by decide)) ?_
  refine TT.steps (cd := cd160) 4 (c' := (11, [(2, 86), (2, 36)], [(0, ((up2 (up2 σ 86 0 (σ 36 0)) 86 1 (σ 36 1)) 36 2)), (2, 86)], (up2 (up2 σ 86 0 (σ 36 0)) 86 1 (σ 36 1)))) rfl rfl ?_
  refine TT.top0 (z := (σ 36 2)) ((up2_far (k := 86) (k' := 36) _ _ _ _ (by decide)).trans (up2_far (k := 86) (k' := 36) _ _ _ _ (by decide))) ?_
  refine TT.steps (cd := cd160) 8 (c' := (19, [(2, 86), (2, 36)], [(0, 10), (0, 0), (2, 87), (0, 0), (2, 37)], (up2 (up2 (up2 σ 86 0 (σ 36 0)) 86 1 (σ 36 1)) 86 2 (σ 36 2)))) rfl rfl ?_
  refine TT.steps (cd := cd160) 1 (c' := (20, [(2, 86), (2, 36)], [], (cpy2 (up2 (up2 (up2 σ 86 0 (σ 36 0)) 86 1 (σ 36 1)) 86 2 (σ 36 2)) 37 87 0 0 10))) rfl rfl ?_
  refine TT.steps (cd := cd160) 7 (c' := (27, [(2, 86), (2, 36)], [(0, 10), (0, 0), (2, 88), (0, 0), (2, 38)], (cpy2 (up2 (up2 (up2 σ 86 0 (σ 36 0)) 86 1 (σ 36 1)) 86 2 (σ 36 2)) 37 87 0 0 10))) rfl rfl ?_
  refine TT.steps (cd := cd160) 1 (c' := (28, [(2, 86), (2, 36)], [], (cpy2 (cpy2 (up2 (up2 (up2 σ 86 0 (σ 36 0)) 86 1 (σ 36 1)) 86 2 (σ 36 2)) 37 87 0 0 10) 38 88 0 0 10))) rfl rfl ?_
  refine TT.steps (cd := cd160) 7 (c' := (35, [(2, 86), (2, 36)], [(0, 10), (0, 0), (2, 89), (0, 0), (2, 39)], (cpy2 (cpy2 (up2 (up2 (up2 σ 86 0 (σ 36 0)) 86 1 (σ 36 1)) 86 2 (σ 36 2)) 37 87 0 0 10) 38 88 0 0 10))) rfl rfl ?_
  refine TT.steps (cd := cd160) 1 (c' := (36, [(2, 86), (2, 36)], [], (cpy2 (cpy2 (cpy2 (up2 (up2 (up2 σ 86 0 (σ 36 0)) 86 1 (σ 36 1)) 86 2 (σ 36 2)) 37 87 0 0 10) 38 88 0 0 10) 39 89 0 0 10))) rfl rfl ?_
  refine TT.steps (cd := cd160) 7 (c' := (43, [(2, 86), (2, 36)], [(0, 10), (0, 0), (2, 90), (0, 0), (2, 40)], (cpy2 (cpy2 (cpy2 (up2 (up2 (up2 σ 86 0 (σ 36 0)) 86 1 (σ 36 1)) 86 2 (σ 36 2)) 37 87 0 0 10) 38 88 0 0 10) 39 89 0 0 10))) rfl rfl ?_
  refine TT.steps (cd := cd160) 1 (c' := (44, [(2, 86), (2, 36)], [], (cpy2 (cpy2 (cpy2 (cpy2 (up2 (up2 (up2 σ 86 0 (σ 36 0)) 86 1 (σ 36 1)) 86 2 (σ 36 2)) 37 87 0 0 10) 38 88 0 0 10) 39 89 0 0 10) 40 90 0 0 10))) rfl rfl ?_
  refine TT.steps (cd := cd160) 7 (c' := (51, [(2, 86), (2, 36)], [(0, 10), (0, 0), (2, 91), (0, 0), (2, 41)], (cpy2 (cpy2 (cpy2 (cpy2 (up2 (up2 (up2 σ 86 0 (σ 36 0)) 86 1 (σ 36 1)) 86 2 (σ 36 2)) 37 87 0 0 10) 38 88 0 0 10) 39 89 0 0 10) 40 90 0 0 10))) rfl rfl ?_
  refine TT.steps (cd := cd160) 1 (c' := (52, [(2, 86), (2, 36)], [], (cpy2 (cpy2 (cpy2 (cpy2 (cpy2 (up2 (up2 (up2 σ 86 0 (σ 36 0)) 86 1 (σ 36 1)) 86 2 (σ 36 2)) 37 87 0 0 10) 38 88 0 0 10) 39 89 0 0 10) 40 90 0 0 10) 41 91 0 0 10))) rfl rfl ?_
  exact TT.ret (cd := cd160) rfl rfl rfl rfl (⟨rfl, CP_of (σ := σ) (q1 := 86) (q2 := 36) (by omega)⟩)
theorem v_copy_92_36 (X : AX) (σ : AH)  : TT X 160 (0, [(2, 92), (2, 36)], [], σ) (fun r σ' => r = none ∧ CP σ σ' 92 36) := by
  refine TT.steps (cd := cd160) 7 (c' := (7, [(2, 92), (2, 36)], [(0, ((up2 σ 92 0 (σ 36 0)) 36 1)), (2, 92)], (up2 σ 92 0 (σ 36 0)))) rfl rfl ?_
  refine TT.top0 (z := (σ 36 1)) (up2_far (k := 92) (k' := 36) _ _ _ _ (by decide)) ?_
  refine TT.steps (cd := cd160) 4 (c' := (11, [(2, 92), (2, 36)], [(0, ((up2 (up2 σ 92 0 (σ 36 0)) 92 1 (σ 36 1)) 36 2)), (2, 92)], (up2 (up2 σ 92 0 (σ 36 0)) 92 1 (σ 36 1)))) rfl rfl ?_
  refine TT.top0 (z := (σ 36 2)) ((up2_far (k := 92) (k' := 36) _ _ _ _ (by decide)).trans (up2_far (k := 92) (k' := 36) _ _ _ _ (by decide))) ?_
  refine TT.steps (cd := cd160) 8 (c' := (19, [(2, 92), (2, 36)], [(0, 10), (0, 0), (2, 93), (0, 0), (2, 37)], (up2 (up2 (up2 σ 92 0 (σ 36 0)) 92 1 (σ 36 1)) 92 2 (σ 36 2)))) rfl rfl ?_
  refine TT.steps (cd := cd160) 1 (c' := (20, [(2, 92), (2, 36)], [], (cpy2 (up2 (up2 (up2 σ 92 0 (σ 36 0)) 92 1 (σ 36 1)) 92 2 (σ 36 2)) 37 93 0 0 10))) rfl rfl ?_
  refine TT.steps (cd := cd160) 7 (c' := (27, [(2, 92), (2, 36)], [(0, 10), (0, 0), (2, 94), (0, 0), (2, 38)], (cpy2 (up2 (up2 (up2 σ 92 0 (σ 36 0)) 92 1 (σ 36 1)) 92 2 (σ 36 2)) 37 93 0 0 10))) rfl rfl ?_
  refine TT.steps (cd := cd160) 1 (c' := (28, [(2, 92), (2, 36)], [], (cpy2 (cpy2 (up2 (up2 (up2 σ 92 0 (σ 36 0)) 92 1 (σ 36 1)) 92 2 (σ 36 2)) 37 93 0 0 10) 38 94 0 0 10))) rfl rfl ?_
  refine TT.steps (cd := cd160) 7 (c' := (35, [(2, 92), (2, 36)], [(0, 10), (0, 0), (2, 95), (0, 0), (2, 39)], (cpy2 (cpy2 (up2 (up2 (up2 σ 92 0 (σ 36 0)) 92 1 (σ 36 1)) 92 2 (σ 36 2)) 37 93 0 0 10) 38 94 0 0 10))) rfl rfl ?_
  refine TT.steps (cd := cd160) 1 (c' := (36, [(2, 92), (2, 36)], [], (cpy2 (cpy2 (cpy2 (up2 (up2 (up2 σ 92 0 (σ 36 0)) 92 1 (σ 36 1)) 92 2 (σ 36 2)) 37 93 0 0 10) 38 94 0 0 10) 39 95 0 0 10))) rfl rfl ?_
  refine TT.steps (cd := cd160) 7 (c' := (43, [(2, 92), (2, 36)], [(0, 10), (0, 0), (2, 96), (0, 0), (2, 40)], (cpy2 (cpy2 (cpy2 (up2 (up2 (up2 σ 92 0 (σ 36 0)) 92 1 (σ 36 1)) 92 2 (σ 36 2)) 37 93 0 0 10) 38 94 0 0 10) 39 95 0 0 10))) rfl rfl ?_
  refine TT.steps (cd := cd160) 1 (c' := (44, [(2, 92), (2, 36)], [], (cpy2 (cpy2 (cpy2 (cpy2 (up2 (up2 (up2 σ 92 0 (σ 36 0)) 92 1 (σ 36 1)) 92 2 (σ 36 2)) 37 93 0 0 10) 38 94 0 0 10) 39 95 0 0 10) 40 96 0 0 10))) rfl rfl ?_
  refine TT.steps (cd := cd160) 7 (c' := (51, [(2, 92), (2, 36)], [(0, 10), (0, 0), (2, 97), (0, 0), (2, 41)], (cpy2 (cpy2 (cpy2 (cpy2 (up2 (up2 (up2 σ 92 0 (σ 36 0)) 92 1 (σ 36 1)) 92 2 (σ 36 2)) 37 93 0 0 10) 38 94 0 0 10) 39 95 0 0 10) 40 96 0 0 10))) rfl rfl ?_
  refine TT.steps (cd := cd160) 1 (c' := (52, [(2, 92), (2, 36)], [], (cpy2 (cpy2 (cpy2 (cpy2 (cpy2 (up2 (up2 (up2 σ 92 0 (σ 36 0)) 92 1 (σ 36 1)) 92 2 (σ 36 2)) 37 93 0 0 10) 38 94 0 0 10) 39 95 0 0 10) 40 96 0 0 10) 41 97 0 0 10))) rfl rfl ?_
  exact TT.ret (cd := cd160) rfl rfl rfl rfl (⟨rfl, CP_of (σ := σ) (q1 := 92) (q2 := 36) (by omega)⟩)
theorem v_copy_98_36 (X : AX) (σ : AH)  : TT X 160 (0, [(2, 98), (2, 36)], [], σ) (fun r σ' => r = none ∧ CP σ σ' 98 36) := by
  refine TT.steps (cd := cd160) 7 (c' := (7, [(2, 98), (2, 36)], [(0, ((up2 σ 98 0 (σ 36 0)) 36 1)), (2, 98)], (up2 σ 98 0 (σ 36 0)))) rfl rfl ?_
  refine TT.top0 (z := (σ 36 1)) (up2_far (k := 98) (k' := 36) _ _ _ _ (by decide)) ?_
  refine TT.steps (cd := cd160) 4 (c' := (11, [(2, 98), (2, 36)], [(0, ((up2 (up2 σ 98 0 (σ 36 0)) 98 1 (σ 36 1)) 36 2)), (2, 98)], (up2 (up2 σ 98 0 (σ 36 0)) 98 1 (σ 36 1)))) rfl rfl ?_
  refine TT.top0 (z := (σ 36 2)) ((up2_far (k := 98) (k' := 36) _ _ _ _ (by decide)).trans (up2_far (k := 98) (k' := 36) _ _ _ _ (by decide))) ?_
  refine TT.steps (cd := cd160) 8 (c' := (19, [(2, 98), (2, 36)], [(0, 10), (0, 0), (2, 99), (0, 0), (2, 37)], (up2 (up2 (up2 σ 98 0 (σ 36 0)) 98 1 (σ 36 1)) 98 2 (σ 36 2)))) rfl rfl ?_
  refine TT.steps (cd := cd160) 1 (c' := (20, [(2, 98), (2, 36)], [], (cpy2 (up2 (up2 (up2 σ 98 0 (σ 36 0)) 98 1 (σ 36 1)) 98 2 (σ 36 2)) 37 99 0 0 10))) rfl rfl ?_
  refine TT.steps (cd := cd160) 7 (c' := (27, [(2, 98), (2, 36)], [(0, 10), (0, 0), (2, 100), (0, 0), (2, 38)], (cpy2 (up2 (up2 (up2 σ 98 0 (σ 36 0)) 98 1 (σ 36 1)) 98 2 (σ 36 2)) 37 99 0 0 10))) rfl rfl ?_
  refine TT.steps (cd := cd160) 1 (c' := (28, [(2, 98), (2, 36)], [], (cpy2 (cpy2 (up2 (up2 (up2 σ 98 0 (σ 36 0)) 98 1 (σ 36 1)) 98 2 (σ 36 2)) 37 99 0 0 10) 38 100 0 0 10))) rfl rfl ?_
  refine TT.steps (cd := cd160) 7 (c' := (35, [(2, 98), (2, 36)], [(0, 10), (0, 0), (2, 101), (0, 0), (2, 39)], (cpy2 (cpy2 (up2 (up2 (up2 σ 98 0 (σ 36 0)) 98 1 (σ 36 1)) 98 2 (σ 36 2)) 37 99 0 0 10) 38 100 0 0 10))) rfl rfl ?_
  refine TT.steps (cd := cd160) 1 (c' := (36, [(2, 98), (2, 36)], [], (cpy2 (cpy2 (cpy2 (up2 (up2 (up2 σ 98 0 (σ 36 0)) 98 1 (σ 36 1)) 98 2 (σ 36 2)) 37 99 0 0 10) 38 100 0 0 10) 39 101 0 0 10))) rfl rfl ?_
  refine TT.steps (cd := cd160) 7 (c' := (43, [(2, 98), (2, 36)], [(0, 10), (0, 0), (2, 102), (0, 0), (2, 40)], (cpy2 (cpy2 (cpy2 (up2 (up2 (up2 σ 98 0 (σ 36 0)) 98 1 (σ 36 1)) 98 2 (σ 36 2)) 37 99 0 0 10) 38 100 0 0 10) 39 101 0 0 10))) rfl rfl ?_
  refine TT.steps (cd := cd160) 1 (c' := (44, [(2, 98), (2, 36)], [], (cpy2 (cpy2 (cpy2 (cpy2 (up2 (up2 (up2 σ 98 0 (σ 36 0)) 98 1 (σ 36 1)) 98 2 (σ 36 2)) 37 99 0 0 10) 38 100 0 0 10) 39 101 0 0 10) 40 102 0 0 10))) rfl rfl ?_
  refine TT.steps (cd := cd160) 7 (c' := (51, [(2, 98), (2, 36)], [(0, 10), (0, 0), (2, 103), (0, 0), (2, 41)], (cpy2 (cpy2 (cpy2 (cpy2 (up2 (up2 (up2 σ 98 0 (σ 36 0)) 98 1 (σ 36 1)) 98 2 (σ 36 2)) 37 99 0 0 10) 38 100 0 0 10) 39 101 0 0 10) 40 102 0 0 10))) rfl rfl ?_
  refine TT.steps (cd := cd160) 1 (c' := (52, [(2, 98), (2, 36)], [], (cpy2 (cpy2 (cpy2 (cpy2 (cpy2 (up2 (up2 (up2 σ 98 0 (σ 36 0)) 98 1 (σ 36 1)) 98 2 (σ 36 2)) 37 99 0 0 10) 38 100 0 0 10) 39 101 0 0 10) 40 102 0 0 10) 41 103 0 0 10))) rfl rfl ?_
  exact TT.ret (cd := cd160) rfl rfl rfl rfl (⟨rfl, CP_of (σ := σ) (q1 := 98) (q2 := 36) (by omega)⟩)
theorem v_copy_104_36 (X : AX) (σ : AH)  : TT X 160 (0, [(2, 104), (2, 36)], [], σ) (fun r σ' => r = none ∧ CP σ σ' 104 36) := by
  refine TT.steps (cd := cd160) 7 (c' := (7, [(2, 104), (2, 36)], [(0, ((up2 σ 104 0 (σ 36 0)) 36 1)), (2, 104)], (up2 σ 104 0 (σ 36 0)))) rfl rfl ?_
  refine TT.top0 (z := (σ 36 1)) (up2_far (k := 104) (k' := 36) _ _ _ _ (by decide)) ?_
  refine TT.steps (cd := cd160) 4 (c' := (11, [(2, 104), (2, 36)], [(0, ((up2 (up2 σ 104 0 (σ 36 0)) 104 1 (σ 36 1)) 36 2)), (2, 104)], (up2 (up2 σ 104 0 (σ 36 0)) 104 1 (σ 36 1)))) rfl rfl ?_
  refine TT.top0 (z := (σ 36 2)) ((up2_far (k := 104) (k' := 36) _ _ _ _ (by decide)).trans (up2_far (k := 104) (k' := 36) _ _ _ _ (by decide))) ?_
  refine TT.steps (cd := cd160) 8 (c' := (19, [(2, 104), (2, 36)], [(0, 10), (0, 0), (2, 105), (0, 0), (2, 37)], (up2 (up2 (up2 σ 104 0 (σ 36 0)) 104 1 (σ 36 1)) 104 2 (σ 36 2)))) rfl rfl ?_
  refine TT.steps (cd := cd160) 1 (c' := (20, [(2, 104), (2, 36)], [], (cpy2 (up2 (up2 (up2 σ 104 0 (σ 36 0)) 104 1 (σ 36 1)) 104 2 (σ 36 2)) 37 105 0 0 10))) rfl rfl ?_
  refine TT.steps (cd := cd160) 7 (c' := (27, [(2, 104), (2, 36)], [(0, 10), (0, 0), (2, 106), (0, 0), (2, 38)], (cpy2 (up2 (up2 (up2 σ 104 0 (σ 36 0)) 104 1 (σ 36 1)) 104 2 (σ 36 2)) 37 105 0 0 10))) rfl rfl ?_
  refine TT.steps (cd := cd160) 1 (c' := (28, [(2, 104), (2, 36)], [], (cpy2 (cpy2 (up2 (up2 (up2 σ 104 0 (σ 36 0)) 104 1 (σ 36 1)) 104 2 (σ 36 2)) 37 105 0 0 10) 38 106 0 0 10))) rfl rfl ?_
  refine TT.steps (cd := cd160) 7 (c' := (35, [(2, 104), (2, 36)], [(0, 10), (0, 0), (2, 107), (0, 0), (2, 39)], (cpy2 (cpy2 (up2 (up2 (up2 σ 104 0 (σ 36 0)) 104 1 (σ 36 1)) 104 2 (σ 36 2)) 37 105 0 0 10) 38 106 0 0 10))) rfl rfl ?_
  refine TT.steps (cd := cd160) 1 (c' := (36, [(2, 104), (2, 36)], [], (cpy2 (cpy2 (cpy2 (up2 (up2 (up2 σ 104 0 (σ 36 0)) 104 1 (σ 36 1)) 104 2 (σ 36 2)) 37 105 0 0 10) 38 106 0 0 10) 39 107 0 0 10))) rfl rfl ?_
  refine TT.steps (cd := cd160) 7 (c' := (43, [(2, 104), (2, 36)], [(0, 10), (0, 0), (2, 108), (0, 0), (2, 40)], (cpy2 (cpy2 (cpy2 (up2 (up2 (up2 σ 104 0 (σ 36 0)) 104 1 (σ 36 1)) 104 2 (σ 36 2)) 37 105 0 0 10) 38 106 0 0 10) 39 107 0 0 10))) rfl rfl ?_
  refine TT.steps (cd := cd160) 1 (c' := (44, [(2, 104), (2, 36)], [], (cpy2 (cpy2 (cpy2 (cpy2 (up2 (up2 (up2 σ 104 0 (σ 36 0)) 104 1 (σ 36 1)) 104 2 (σ 36 2)) 37 105 0 0 10) 38 106 0 0 10) 39 107 0 0 10) 40 108 0 0 10))) rfl rfl ?_
  refine TT.steps (cd := cd160) 7 (c' := (51, [(2, 104), (2, 36)], [(0, 10), (0, 0), (2, 109), (0, 0), (2, 41)], (cpy2 (cpy2 (cpy2 (cpy2 (up2 (up2 (up2 σ 104 0 (σ 36 0)) 104 1 (σ 36 1)) 104 2 (σ 36 2)) 37 105 0 0 10) 38 106 0 0 10) 39 107 0 0 10) 40 108 0 0 10))) rfl rfl ?_
  refine TT.steps (cd := cd160) 1 (c' := (52, [(2, 104), (2, 36)], [], (cpy2 (cpy2 (cpy2 (cpy2 (cpy2 (up2 (up2 (up2 σ 104 0 (σ 36 0)) 104 1 (σ 36 1)) 104 2 (σ 36 2)) 37 105 0 0 10) 38 106 0 0 10) 39 107 0 0 10) 40 108 0 0 10) 41 109 0 0 10))) rfl rfl ?_
  exact TT.ret (cd := cd160) rfl rfl rfl rfl (⟨rfl, CP_of (σ := σ) (q1 := 104) (q2 := 36) (by omega)⟩)
theorem v_copy_110_36 (X : AX) (σ : AH)  : TT X 160 (0, [(2, 110), (2, 36)], [], σ) (fun r σ' => r = none ∧ CP σ σ' 110 36) := by
  refine TT.steps (cd := cd160) 7 (c' := (7, [(2, 110), (2, 36)], [(0, ((up2 σ 110 0 (σ 36 0)) 36 1)), (2, 110)], (up2 σ 110 0 (σ 36 0)))) rfl rfl ?_
  refine TT.top0 (z := (σ 36 1)) (up2_far (k := 110) (k' := 36) _ _ _ _ (by decide)) ?_
  refine TT.steps (cd := cd160) 4 (c' := (11, [(2, 110), (2, 36)], [(0, ((up2 (up2 σ 110 0 (σ 36 0)) 110 1 (σ 36 1)) 36 2)), (2, 110)], (up2 (up2 σ 110 0 (σ 36 0)) 110 1 (σ 36 1)))) rfl rfl ?_
  refine TT.top0 (z := (σ 36 2)) ((up2_far (k := 110) (k' := 36) _ _ _ _ (by decide)).trans (up2_far (k := 110) (k' := 36) _ _ _ _ (by decide))) ?_
  refine TT.steps (cd := cd160) 8 (c' := (19, [(2, 110), (2, 36)], [(0, 10), (0, 0), (2, 111), (0, 0), (2, 37)], (up2 (up2 (up2 σ 110 0 (σ 36 0)) 110 1 (σ 36 1)) 110 2 (σ 36 2)))) rfl rfl ?_
  refine TT.steps (cd := cd160) 1 (c' := (20, [(2, 110), (2, 36)], [], (cpy2 (up2 (up2 (up2 σ 110 0 (σ 36 0)) 110 1 (σ 36 1)) 110 2 (σ 36 2)) 37 111 0 0 10))) rfl rfl ?_
  refine TT.steps (cd := cd160) 7 (c' := (27, [(2, 110), (2, 36)], [(0, 10), (0, 0), (2, 112), (0, 0), (2, 38)], (cpy2 (up2 (up2 (up2 σ 110 0 (σ 36 0)) 110 1 (σ 36 1)) 110 2 (σ 36 2)) 37 111 0 0 10))) rfl rfl ?_
  refine TT.steps (cd := cd160) 1 (c' := (28, [(2, 110), (2, 36)], [], (cpy2 (cpy2 (up2 (up2 (up2 σ 110 0 (σ 36 0)) 110 1 (σ 36 1)) 110 2 (σ 36 2)) 37 111 0 0 10) 38 112 0 0 10))) rfl rfl ?_
  refine TT.steps (cd := cd160) 7 (c' := (35, [(2, 110), (2, 36)], [(0, 10), (0, 0), (2, 113), (0, 0), (2, 39)], (cpy2 (cpy2 (up2 (up2 (up2 σ 110 0 (σ 36 0)) 110 1 (σ 36 1)) 110 2 (σ 36 2)) 37 111 0 0 10) 38 112 0 0 10))) rfl rfl ?_
  refine TT.steps (cd := cd160) 1 (c' := (36, [(2, 110), (2, 36)], [], (cpy2 (cpy2 (cpy2 (up2 (up2 (up2 σ 110 0 (σ 36 0)) 110 1 (σ 36 1)) 110 2 (σ 36 2)) 37 111 0 0 10) 38 112 0 0 10) 39 113 0 0 10))) rfl rfl ?_
  refine TT.steps (cd := cd160) 7 (c' := (43, [(2, 110), (2, 36)], [(0, 10), (0, 0), (2, 114), (0, 0), (2, 40)], (cpy2 (cpy2 (cpy2 (up2 (up2 (up2 σ 110 0 (σ 36 0)) 110 1 (σ 36 1)) 110 2 (σ 36 2)) 37 111 0 0 10) 38 112 0 0 10) 39 113 0 0 10))) rfl rfl ?_
  refine TT.steps (cd := cd160) 1 (c' := (44, [(2, 110), (2, 36)], [], (cpy2 (cpy2 (cpy2 (cpy2 (up2 (up2 (up2 σ 110 0 (σ 36 0)) 110 1 (σ 36 1)) 110 2 (σ 36 2)) 37 111 0 0 10) 38 112 0 0 10) 39 113 0 0 10) 40 114 0 0 10))) rfl rfl ?_
  refine TT.steps (cd := cd160) 7 (c' := (51, [(2, 110), (2, 36)], [(0, 10), (0, 0), (2, 115), (0, 0), (2, 41)], (cpy2 (cpy2 (cpy2 (cpy2 (up2 (up2 (up2 σ 110 0 (σ 36 0)) 110 1 (σ 36 1)) 110 2 (σ 36 2)) 37 111 0 0 10) 38 112 0 0 10) 39 113 0 0 10) 40 114 0 0 10))) rfl rfl ?_
  refine TT.steps (cd := cd160) 1 (c' := (52, [(2, 110), (2, 36)], [], (cpy2 (cpy2 (cpy2 (cpy2 (cpy2 (up2 (up2 (up2 σ 110 0 (σ 36 0)) 110 1 (σ 36 1)) 110 2 (σ 36 2)) 37 111 0 0 10) 38 112 0 0 10) 39 113 0 0 10) 40 114 0 0 10) 41 115 0 0 10))) rfl rfl ?_
  exact TT.ret (cd := cd160) rfl rfl rfl rfl (⟨rfl, CP_of (σ := σ) (q1 := 110) (q2 := 36) (by omega)⟩)
theorem v_copy_116_36 (X : AX) (σ : AH)  : TT X 160 (0, [(2, 116), (2, 36)], [], σ) (fun r σ' => r = none ∧ CP σ σ' 116 36) := by
  refine TT.steps (cd := cd160) 7 (c' := (7, [(2, 116), (2, 36)], [(0, ((up2 σ 116 0 (σ 36 0)) 36 1)), (2, 116)], (up2 σ 116 0 (σ 36 0)))) rfl rfl ?_
  refine TT.top0 (z := (σ 36 1)) (up2_far (k := 116) (k' := 36) _ _ _ _ (by decide)) ?_
  refine TT.steps (cd := cd160) 4 (c' := (11, [(2, 116), (2, 36)], [(0, ((up2 (up2 σ 116 0 (σ 36 0)) 116 1 (σ 36 1)) 36 2)), (2, 116)], (up2 (up2 σ 116 0 (σ 36 0)) 116 1 (σ 36 1)))) rfl rfl ?_
  refine TT.top0 (z := (σ 36 2)) ((up2_far (k := 116) (k' := 36) _ _ _ _ (by decide)).trans (up2_far (k := 116) (k' := 36) _ _ _ _ (by decide))) ?_
  refine TT.steps (cd := cd160) 8 (c' := (19, [(2, 116), (2, 36)], [(0, 10), (0, 0), (2, 117), (0, 0), (2, 37)], (up2 (up2 (up2 σ 116 0 (σ 36 0)) 116 1 (σ 36 1)) 116 2 (σ 36 2)))) rfl rfl ?_
  refine TT.steps (cd := cd160) 1 (c' := (20, [(2, 116), (2, 36)], [], (cpy2 (up2 (up2 (up2 σ 116 0 (σ 36 0)) 116 1 (σ 36 1)) 116 2 (σ 36 2)) 37 117 0 0 10))) rfl rfl ?_
  refine TT.steps (cd := cd160) 7 (c' := (27, [(2, 116), (2, 36)], [(0, 10), (0, 0), (2, 118), (0, 0), (2, 38)], (cpy2 (up2 (up2 (up2 σ 116 0 (σ 36 0)) 116 1 (σ 36 1)) 116 2 (σ 36 2)) 37 117 0 0 10))) rfl rfl ?_
  refine TT.steps (cd := cd160) 1 (c' := (28, [(2, 116), (2, 36)], [], (cpy2 (cpy2 (up2 (up2 (up2 σ 116 0 (σ 36 0)) 116 1 (σ 36 1)) 116 2 (σ 36 2)) 37 117 0 0 10) 38 118 0 0 10))) rfl rfl ?_
  refine TT.steps (cd := cd160) 7 (c' := (35, [(2, 116), (2, 36)], [(0, 10), (0, 0), (2, 119), (0, 0), (2, 39)], (cpy2 (cpy2 (up2 (up2 (up2 σ 116 0 (σ 36 0)) 116 1 (σ 36 1)) 116 2 (σ 36 2)) 37 117 0 0 10) 38 118 0 0 10))) rfl rfl ?_
  refine TT.steps (cd := cd160) 1 (c' := (36, [(2, 116), (2, 36)], [], (cpy2 (cpy2 (cpy2 (up2 (up2 (up2 σ 116 0 (σ 36 0)) 116 1 (σ 36 1)) 116 2 (σ 36 2)) 37 117 0 0 10) 38 118 0 0 10) 39 119 0 0 10))) rfl rfl ?_
  refine TT.steps (cd := cd160) 7 (c' := (43, [(2, 116), (2, 36)], [(0, 10), (0, 0), (2, 120), (0, 0), (2, 40)], (cpy2 (cpy2 (cpy2 (up2 (up2 (up2 σ 116 0 (σ 36 0)) 116 1 (σ 36 1)) 116 2 (σ 36 2)) 37 117 0 0 10) 38 118 0 0 10) 39 119 0 0 10))) rfl rfl ?_
  refine TT.steps (cd := cd160) 1 (c' := (44, [(2, 116), (2, 36)], [], (cpy2 (cpy2 (cpy2 (cpy2 (up2 (up2 (up2 σ 116 0 (σ 36 0)) 116 1 (σ 36 1)) 116 2 (σ 36 2)) 37 117 0 0 10) 38 118 0 0 10) 39 119 0 0 10) 40 120 0 0 10))) rfl rfl ?_
  refine TT.steps (cd := cd160) 7 (c' := (51, [(2, 116), (2, 36)], [(0, 10), (0, 0), (2, 121), (0, 0), (2, 41)], (cpy2 (cpy2 (cpy2 (cpy2 (up2 (up2 (up2 σ 116 0 (σ 36 0)) 116 1 (σ 36 1)) 116 2 (σ 36 2)) 37 117 0 0 10) 38 118 0 0 10) 39 119 0 0 10) 40 120 0 0 10))) rfl rfl ?_
  refine TT.steps (cd := cd160) 1 (c' := (52, [(2, 116), (2, 36)], [], (cpy2 (cpy2 (cpy2 (cpy2 (cpy2 (up2 (up2 (up2 σ 116 0 (σ 36 0)) 116 1 (σ 36 1)) 116 2 (σ 36 2)) 37 117 0 0 10) 38 118 0 0 10) 39 119 0 0 10) 40 120 0 0 10) 41 121 0 0 10))) rfl rfl ?_
  exact TT.ret (cd := cd160) rfl rfl rfl rfl (⟨rfl, CP_of (σ := σ) (q1 := 116) (q2 := 36) (by omega)⟩)
theorem v_copy_122_36 (X : AX) (σ : AH)  : TT X 160 (0, [(2, 122), (2, 36)], [], σ) (fun r σ' => r = none ∧ CP σ σ' 122 36) := by
  refine TT.steps (cd := cd160) 7 (c' := (7, [(2, 122), (2, 36)], [(0, ((up2 σ 122 0 (σ 36 0)) 36 1)), (2, 122)], (up2 σ 122 0 (σ 36 0)))) rfl rfl ?_
  refine TT.top0 (z := (σ 36 1)) (up2_far (k := 122) (k' := 36) _ _ _ _ (by decide)) ?_
  refine TT.steps (cd := cd160) 4 (c' := (11, [(2, 122), (2, 36)], [(0, ((up2 (up2 σ 122 0 (σ 36 0)) 122 1 (σ 36 1)) 36 2)), (2, 122)], (up2 (up2 σ 122 0 (σ 36 0)) 122 1 (σ 36 1)))) rfl rfl ?_
  refine TT.top0 (z := (σ 36 2)) ((up2_far (k := 122) (k' := 36) _ _ _ _ (by decide)).trans (up2_far (k := 122) (k' := 36) _ _ _ _ (by decide))) ?_
  refine TT.steps (cd := cd160) 8 (c' := (19, [(2, 122), (2, 36)], [(0, 10), (0, 0), (2, 123), (0, 0), (2, 37)], (up2 (up2 (up2 σ 122 0 (σ 36 0)) 122 1 (σ 36 1)) 122 2 (σ 36 2)))) rfl rfl ?_
  refine TT.steps (cd := cd160) 1 (c' := (20, [(2, 122), (2, 36)], [], (cpy2 (up2 (up2 (up2 σ 122 0 (σ 36 0)) 122 1 (σ 36 1)) 122 2 (σ 36 2)) 37 123 0 0 10))) rfl rfl ?_
  refine TT.steps (cd := cd160) 7 (c' := (27, [(2, 122), (2, 36)], [(0, 10), (0, 0), (2, 124), (0, 0), (2, 38)], (cpy2 (up2 (up2 (up2 σ 122 0 (σ 36 0)) 122 1 (σ 36 1)) 122 2 (σ 36 2)) 37 123 0 0 10))) rfl rfl ?_
  refine TT.steps (cd := cd160) 1 (c' := (28, [(2, 122), (2, 36)], [], (cpy2 (cpy2 (up2 (up2 (up2 σ 122 0 (σ 36 0)) 122 1 (σ 36 1)) 122 2 (σ 36 2)) 37 123 0 0 10) 38 124 0 0 10))) rfl rfl ?_
  refine TT.steps (cd := cd160) 7 (c' := (35, [(2, 122), (2, 36)], [(0, 10), (0, 0), (2, 125), (0, 0), (2, 39)], (cpy2 (cpy2 (up2 (up2 (up2 σ 122 0 (σ 36 0)) 122 1 (σ 36 1)) 122 2 (σ 36 2)) 37 123 0 0 10) 38 124 0 0 10))) rfl rfl ?_
  refine TT.steps (cd := cd160) 1 (c' := (36, [(2, 122), (2, 36)], [], (cpy2 (cpy2 (cpy2 (up2 (up2 (up2 σ 122 0 (σ 36 0)) 122 1 (σ 36 1)) 122 2 (σ 36 2)) 37 123 0 0 10) 38 124 0 0 10) 39 125 0 0 10))) rfl rfl ?_
  refine TT.steps (cd := cd160) 7 (c' := (43, [(2, 122), (2, 36)], [(0, 10), (0, 0), (2, 126), (0, 0), (2, 40)], (cpy2 (cpy2 (cpy2 (up2 (up2 (up2 σ 122 0 (σ 36 0)) 122 1 (σ 36 1)) 122 2 (σ 36 2)) 37 123 0 0 10) 38 124 0 0 10) 39 125 0 0 10))) rfl rfl ?_
  refine TT.steps (cd := cd160) 1 (c' := (44, [(2, 122), (2, 36)], [], (cpy2 (cpy2 (cpy2 (cpy2 (up2 (up2 (up2 σ 122 0 (σ 36 0)) 122 1 (σ 36 1)) 122 2 (σ 36 2)) 37 123 0 0 10) 38 124 0 0 10) 39 125 0 0 10) 40 126 0 0 10))) rfl rfl ?_
  refine TT.steps (cd := cd160) 7 (c' := (51, [(2, 122), (2, 36)], [(0, 10), (0, 0), (2, 127), (0, 0), (2, 41)], (cpy2 (cpy2 (cpy2 (cpy2 (up2 (up2 (up2 σ 122 0 (σ 36 0)) 122 1 (σ 36 1)) 122 2 (σ 36 2)) 37 123 0 0 10) 38 124 0 0 10) 39 125 0 0 10) 40 126 0 0 10))) rfl rfl ?_
  refine TT.steps (cd := cd160) 1 (c' := (52, [(2, 122), (2, 36)], [], (cpy2 (cpy2 (cpy2 (cpy2 (cpy2 (up2 (up2 (up2 σ 122 0 (σ 36 0)) 122 1 (σ 36 1)) 122 2 (σ 36 2)) 37 123 0 0 10) 38 124 0 0 10) 39 125 0 0 10) 40 126 0 0 10) 41 127 0 0 10))) rfl rfl ?_
  exact TT.ret (cd := cd160) rfl rfl rfl rfl (⟨rfl, CP_of (σ := σ) (q1 := 122) (q2 := 36) (by omega)⟩)
theorem v_copy_128_36 (X : AX) (σ : AH)  : TT X 160 (0, [(2, 128), (2, 36)], [], σ) (fun r σ' => r = none ∧ CP σ σ' 128 36) := by
  refine TT.steps (cd := cd160) 7 (c' := (7, [(2, 128), (2, 36)], [(0, ((up2 σ 128 0 (σ 36 0)) 36 1)), (2, 128)], (up2 σ 128 0 (σ 36 0)))) rfl rfl ?_
  refine TT.top0 (z := (σ 36 1)) (up2_far (k := 128) (k' := 36) _ _ _ _ (by decide)) ?_
  refine TT.steps (cd := cd160) 4 (c' := (11, [(2, 128), (2, 36)], [(0, ((up2 (up2 σ 128 0 (σ 36 0)) 128 1 (σ 36 1)) 36 2)), (2, 128)], (up2 (up2 σ 128 0 (σ 36 0)) 128 1 (σ 36 1)))) rfl rfl ?_
  refine TT.top0 (z := (σ 36 2)) ((up2_far (k := 128) (k' := 36) _ _ _ _ (by decide)).trans (up2_far (k := 128) (k' := 36) _ _ _ _ (by decide))) ?_
  refine TT.steps (cd := cd160) 8 (c' := (19, [(2, 128), (2, 36)], [(0, 10), (0, 0), (2, 129), (0, 0), (2, 37)], (up2 (up2 (up2 σ 128 0 (σ 36 0)) 128 1 (σ 36 1)) 128 2 (σ 36 2)))) rfl rfl ?_
  refine TT.steps (cd := cd160) 1 (c' := (20, [(2, 128), (2, 36)], [], (cpy2 (up2 (up2 (up2 σ 128 0 (σ 36 0)) 128 1 (σ 36 1)) 128 2 (σ 36 2)) 37 129 0 0 10))) rfl rfl ?_
  refine TT.steps (cd := cd160) 7 (c' := (27, [(2, 128), (2, 36)], [(0, 10), (0, 0), (2, 130), (0, 0), (2, 38)], (cpy2 (up2 (up2 (up2 σ 128 0 (σ 36 0)) 128 1 (σ 36 1)) 128 2 (σ 36 2)) 37 129 0 0 10))) rfl rfl ?_
  refine TT.steps (cd := cd160) 1 (c' := (28, [(2, 128), (2, 36)], [], (cpy2 (cpy2 (up2 (up2 (up2 σ 128 0 (σ 36 0)) 128 1 (σ 36 1)) 128 2 (σ 36 2)) 37 129 0 0 10) 38 130 0 0 10))) rfl rfl ?_
  refine TT.steps (cd := cd160) 7 (c' := (35, [(2, 128), (2, 36)], [(0, 10), (0, 0), (2, 131), (0, 0), (2, 39)], (cpy2 (cpy2 (up2 (up2 (up2 σ 128 0 (σ 36 0)) 128 1 (σ 36 1)) 128 2 (σ 36 2)) 37 129 0 0 10) 38 130 0 0 10))) rfl rfl ?_
  refine TT.steps (cd := cd160) 1 (c' := (36, [(2, 128), (2, 36)], [], (cpy2 (cpy2 (cpy2 (up2 (up2 (up2 σ 128 0 (σ 36 0)) 128 1 (σ 36 1)) 128 2 (σ 36 2)) 37 129 0 0 10) 38 130 0 0 10) 39 131 0 0 10))) rfl rfl ?_
  refine TT.steps (cd := cd160) 7 (c' := (43, [(2, 128), (2, 36)], [(0, 10), (0, 0), (2, 132), (0, 0), (2, 40)], (cpy2 (cpy2 (cpy2 (up2 (up2 (up2 σ 128 0 (σ 36 0)) 128 1 (σ 36 1)) 128 2 (σ 36 2)) 37 129 0 0 10) 38 130 0 0 10) 39 131 0 0 10))) rfl rfl ?_
  refine TT.steps (cd := cd160) 1 (c' := (44, [(2, 128), (2, 36)], [], (cpy2 (cpy2 (cpy2 (cpy2 (up2 (up2 (up2 σ 128 0 (σ 36 0)) 128 1 (σ 36 1)) 128 2 (σ 36 2)) 37 129 0 0 10) 38 130 0 0 10) 39 131 0 0 10) 40 132 0 0 10))) rfl rfl ?_
  refine TT.steps (cd := cd160) 7 (c' := (51, [(2, 128), (2, 36)], [(0, 10), (0, 0), (2, 133), (0, 0), (2, 41)], (cpy2 (cpy2 (cpy2 (cpy2 (up2 (up2 (up2 σ 128 0 (σ 36 0)) 128 1 (σ 36 1)) 128 2 (σ 36 2)) 37 129 0 0 10) 38 130 0 0 10) 39 131 0 0 10) 40 132 0 0 10))) rfl rfl ?_
  refine TT.steps (cd := cd160) 1 (c' := (52, [(2, 128), (2, 36)], [], (cpy2 (cpy2 (cpy2 (cpy2 (cpy2 (up2 (up2 (up2 σ 128 0 (σ 36 0)) 128 1 (σ 36 1)) 128 2 (σ 36 2)) 37 129 0 0 10) 38 130 0 0 10) 39 131 0 0 10) 40 132 0 0 10) 41 133 0 0 10))) rfl rfl ?_
  exact TT.ret (cd := cd160) rfl rfl rfl rfl (⟨rfl, CP_of (σ := σ) (q1 := 128) (q2 := 36) (by omega)⟩)
theorem v_copy_134_36 (X : AX) (σ : AH)  : TT X 160 (0, [(2, 134), (2, 36)], [], σ) (fun r σ' => r = none ∧ CP σ σ' 134 36) := by
  refine TT.steps (cd := cd160) 7 (c' := (7, [(2, 134), (2, 36)], [(0, ((up2 σ 134 0 (σ 36 0)) 36 1)), (2, 134)], (up2 σ 134 0 (σ 36 0)))) rfl rfl ?_
  refine TT.top0 (z := (σ 36 1)) (up2_far (k := 134) (k' := 36) _ _ _ _ (by decide)) ?_
  refine TT.steps (cd := cd160) 4 (c' := (11, [(2, 134), (2, 36)], [(0, ((up2 (up2 σ 134 0 (σ 36 0)) 134 1 (σ 36 1)) 36 2)), (2, 134)], (up2 (up2 σ 134 0 (σ 36 0)) 134 1 (σ 36 1)))) rfl rfl ?_
  refine TT.top0 (z := (σ 36 2)) ((up2_far (k := 134) (k' := 36) _ _ _ _ (by decide)).trans (up2_far (k := 134) (k' := 36) _ _ _ _ (by decide))) ?_
  refine TT.steps (cd := cd160) 8 (c' := (19, [(2, 134), (2, 36)], [(0, 10), (0, 0), (2, 135), (0, 0), (2, 37)], (up2 (up2 (up2 σ 134 0 (σ 36 0)) 134 1 (σ 36 1)) 134 2 (σ 36 2)))) rfl rfl ?_
  refine TT.steps (cd := cd160) 1 (c' := (20, [(2, 134), (2, 36)], [], (cpy2 (up2 (up2 (up2 σ 134 0 (σ 36 0)) 134 1 (σ 36 1)) 134 2 (σ 36 2)) 37 135 0 0 10))) rfl rfl ?_
  refine TT.steps (cd := cd160) 7 (c' := (27, [(2, 134), (2, 36)], [(0, 10), (0, 0), (2, 136), (0, 0), (2, 38)], (cpy2 (up2 (up2 (up2 σ 134 0 (σ 36 0)) 134 1 (σ 36 1)) 134 2 (σ 36 2)) 37 135 0 0 10))) rfl rfl ?_
  refine TT.steps (cd := cd160) 1 (c' := (28, [(2, 134), (2, 36)], [], (cpy2 (cpy2 (up2 (up2 (up2 σ 134 0 (σ 36 0)) 134 1 (σ 36 1)) 134 2 (σ 36 2)) 37 135 0 0 10) 38 136 0 0 10))) rfl rfl ?_
  refine TT.steps (cd := cd160) 7 (c' := (35, [(2, 134), (2, 36)], [(0, 10), (0, 0), (2, 137), (0, 0), (2, 39)], (cpy2 (cpy2 (up2 (up2 (up2 σ 134 0 (σ 36 0)) 134 1 (σ 36 1)) 134 2 (σ 36 2)) 37 135 0 0 10) 38 136 0 0 10))) rfl rfl ?_
  refine TT.steps (cd := cd160) 1 (c' := (36, [(2, 134), (2, 36)], [], (cpy2 (cpy2 (cpy2 (up2 (up2 (up2 σ 134 0 (σ 36 0)) 134 1 (σ 36 1)) 134 2 (σ 36 2)) 37 135 0 0 10) 38 136 0 0 10) 39 137 0 0 10))) rfl rfl ?_
  refine TT.steps (cd := cd160) 7 (c' := (43, [(2, 134), (2, 36)], [(0, 10), (0, 0), (2, 138), (0, 0), (2, 40)], (cpy2 (cpy2 (cpy2 (up2 (up2 (up2 σ 134 0 (σ 36 0)) 134 1 (σ 36 1)) 134 2 (σ 36 2)) 37 135 0 0 10) 38 136 0 0 10) 39 137 0 0 10))) rfl rfl ?_
  refine TT.steps (cd := cd160) 1 (c' := (44, [(2, 134), (2, 36)], [], (cpy2 (cpy2 (cpy2 (cpy2 (up2 (up2 (up2 σ 134 0 (σ 36 0)) 134 1 (σ 36 1)) 134 2 (σ 36 2)) 37 135 0 0 10) 38 136 0 0 10) 39 137 0 0 10) 40 138 0 0 10))) rfl rfl ?_
  refine TT.steps (cd := cd160) 7 (c' := (51, [(2, 134), (2, 36)], [(0, 10), (0, 0), (2, 139), (0, 0), (2, 41)], (cpy2 (cpy2 (cpy2 (cpy2 (up2 (up2 (up2 σ 134 0 (σ 36 0)) 134 1 (σ 36 1)) 134 2 (σ 36 2)) 37 135 0 0 10) 38 136 0 0 10) 39 137 0 0 10) 40 138 0 0 10))) rfl rfl ?_
  refine TT.steps (cd := cd160) 1 (c' := (52, [(2, 134), (2, 36)], [], (cpy2 (cpy2 (cpy2 (cpy2 (cpy2 (up2 (up2 (up2 σ 134 0 (σ 36 0)) 134 1 (σ 36 1)) 134 2 (σ 36 2)) 37 135 0 0 10) 38 136 0 0 10) 39 137 0 0 10) 40 138 0 0 10) 41 139 0 0 10))) rfl rfl ?_
  exact TT.ret (cd := cd160) rfl rfl rfl rfl (⟨rfl, CP_of (σ := σ) (q1 := 134) (q2 := 36) (by omega)⟩)
theorem v_copy_140_36 (X : AX) (σ : AH)  : TT X 160 (0, [(2, 140), (2, 36)], [], σ) (fun r σ' => r = none ∧ CP σ σ' 140 36) := by
  refine TT.steps (cd := cd160) 7 (c' := (7, [(2, 140), (2, 36)], [(0, ((up2 σ 140 0 (σ 36 0)) 36 1)), (2, 140)], (up2 σ 140 0 (σ 36 0)))) rfl rfl ?_
  refine TT.top0 (z := (σ 36 1)) (up2_far (k := 140) (k' := 36) _ _ _ _ (by decide)) ?_
  refine TT.steps (cd := cd160) 4 (c' := (11, [(2, 140), (2, 36)], [(0, ((up2 (up2 σ 140 0 (σ 36 0)) 140 1 (σ 36 1)) 36 2)), (2, 140)], (up2 (up2 σ 140 0 (σ 36 0)) 140 1 (σ 36 1)))) rfl rfl ?_
  refine TT.top0 (z := (σ 36 2)) ((up2_far (k := 140) (k' := 36) _ _ _ _ (by decide)).trans (up2_far (k := 140) (k' := 36) _ _ _ _ (by decide))) ?_
  refine TT.steps (cd := cd160) 8 (c' := (19, [(2, 140), (2, 36)], [(0, 10), (0, 0), (2, 141), (0, 0), (2, 37)], (up2 (up2 (up2 σ 140 0 (σ 36 0)) 140 1 (σ 36 1)) 140 2 (σ 36 2)))) rfl rfl ?_
  refine TT.steps (cd := cd160) 1 (c' := (20, [(2, 140), (2, 36)], [], (cpy2 (up2 (up2 (up2 σ 140 0 (σ 36 0)) 140 1 (σ 36 1)) 140 2 (σ 36 2)) 37 141 0 0 10))) rfl rfl ?_
  refine TT.steps (cd := cd160) 7 (c' := (27, [(2, 140), (2, 36)], [(0, 10), (0, 0), (2, 142), (0, 0), (2, 38)], (cpy2 (up2 (up2 (up2 σ 140 0 (σ 36 0)) 140 1 (σ 36 1)) 140 2 (σ 36 2)) 37 141 0 0 10))) rfl rfl ?_
  refine TT.steps (cd := cd160) 1 (c' := (28, [(2, 140), (2, 36)], [], (cpy2 (cpy2 (up2 (up2 (up2 σ 140 0 (σ 36 0)) 140 1 (σ 36 1)) 140 2 (σ 36 2)) 37 141 0 0 10) 38 142 0 0 10))) rfl rfl ?_
  refine TT.steps (cd := cd160) 7 (c' := (35, [(2, 140), (2, 36)], [(0, 10), (0, 0), (2, 143), (0, 0), (2, 39)], (cpy2 (cpy2 (up2 (up2 (up2 σ 140 0 (σ 36 0)) 140 1 (σ 36 1)) 140 2 (σ 36 2)) 37 141 0 0 10) 38 142 0 0 10))) rfl rfl ?_
  refine TT.steps (cd := cd160) 1 (c' := (36, [(2, 140), (2, 36)], [], (cpy2 (cpy2 (cpy2 (up2 (up2 (up2 σ 140 0 (σ 36 0)) 140 1 (σ 36 1)) 140 2 (σ 36 2)) 37 141 0 0 10) 38 142 0 0 10) 39 143 0 0 10))) rfl rfl ?_
  refine TT.steps (cd := cd160) 7 (c' := (43, [(2, 140), (2, 36)], [(0, 10), (0, 0), (2, 144), (0, 0), (2, 40)], (cpy2 (cpy2 (cpy2 (up2 (up2 (up2 σ 140 0 (σ 36 0)) 140 1 (σ 36 1)) 140 2 (σ 36 2)) 37 141 0 0 10) 38 142 0 0 10) 39 143 0 0 10))) rfl rfl ?_
  refine TT.steps (cd := cd160) 1 (c' := (44, [(2, 140), (2, 36)], [], (cpy2 (cpy2 (cpy2 (cpy2 (up2 (up2 (up2 σ 140 0 (σ 36 0)) 140 1 (σ 36 1)) 140 2 (σ 36 2)) 37 141 0 0 10) 38 142 0 0 10) 39 143 0 0 10) 40 144 0 0 10))) rfl rfl ?_
  refine TT.steps (cd := cd160) 7 (c' := (51, [(2, 140), (2, 36)], [(0, 10), (0, 0), (2, 145), (0, 0), (2, 41)], (cpy2 (cpy2 (cpy2 (cpy2 (up2 (up2 (up2 σ 140 0 (σ 36 0)) 140 1 (σ 36 1)) 140 2 (σ 36 2)) 37 141 0 0 10) 38 142 0 0 10) 39 143 0 0 10) 40 144 0 0 10))) rfl rfl ?_
  refine TT.steps (cd := cd160) 1 (c' := (52, [(2, 140), (2, 36)], [], (cpy2 (cpy2 (cpy2 (cpy2 (cpy2 (up2 (up2 (up2 σ 140 0 (σ 36 0)) 140 1 (σ 36 1)) 140 2 (σ 36 2)) 37 141 0 0 10) 38 142 0 0 10) 39 143 0 0 10) 40 144 0 0 10) 41 145 0 0 10))) rfl rfl ?_
  exact TT.ret (cd := cd160) rfl rfl rfl rfl (⟨rfl, CP_of (σ := σ) (q1 := 140) (q2 := 36) (by omega)⟩)
theorem v_copy_146_36 (X : AX) (σ : AH)  : TT X 160 (0, [(2, 146), (2, 36)], [], σ) (fun r σ' => r = none ∧ CP σ σ' 146 36) := by
  refine TT.steps (cd := cd160) 7 (c' := (7, [(2, 146), (2, 36)], [(0, ((up2 σ 146 0 (σ 36 0)) 36 1)), (2, 146)], (up2 σ 146 0 (σ 36 0)))) rfl rfl ?_
  refine TT.top0 (z := (σ 36 1)) (up2_far (k := 146) (k' := 36) _ _ _ _ (by decide)) ?_
  refine TT.steps (cd := cd160) 4 (c' := (11, [(2, 146), (2, 36)], [(0, ((up2 (up2 σ 146 0 (σ 36 0)) 146 1 (σ 36 1)) 36 2)), (2, 146)], (up2 (up2 σ 146 0 (σ 36 0)) 146 1 (σ 36 1)))) rfl rfl ?_
  refine TT.top0 (z := (σ 36 2)) ((up2_far (k := 146) (k' := 36) _ _ _ _ (by decide)).trans (up2_far (k := 146) (k' := 36) _ _ _ _ (by decide))) ?_
  refine TT.steps (cd := cd160) 8 (c' := (19, [(2, 146), (2, 36)], [(0, 10), (0, 0), (2, 147), (0, 0), (2, 37)], (up2 (up2 (up2 σ 146 0 (σ 36 0)) 146 1 (σ 36 1)) 146 2 (σ 36 2)))) rfl rfl ?_
  refine TT.steps (cd := cd160) 1 (c' := (20, [(2, 146), (2, 36)], [], (cpy2 (up2 (up2 (up2 σ 146 0 (σ 36 0)) 146 1 (σ 36 1)) 146 2 (σ 36 2)) 37 147 0 0 10))) rfl rfl ?_
  refine TT.steps (cd := cd160) 7 (c' := (27, [(2, 146), (2, 36)], [(0, 10), (0, 0), (2, 148), (0, 0), (2, 38)], (cpy2 (up2 (up2 (up2 σ 146 0 (σ 36 0)) 146 1 (σ 36 1)) 146 2 (σ 36 2)) 37 147 0 0 10))) rfl rfl ?_
  refine TT.steps (cd := cd160) 1 (c' := (28, [(2, 146), (2, 36)], [], (cpy2 (cpy2 (up2 (up2 (up2 σ 146 0 (σ 36 0)) 146 1 (σ 36 1)) 146 2 (σ 36 2)) 37 147 0 0 10) 38 148 0 0 10))) rfl rfl ?_
  refine TT.steps (cd := cd160) 7 (c' := (35, [(2, 146), (2, 36)], [(0, 10), (0, 0), (2, 149), (0, 0), (2, 39)], (cpy2 (cpy2 (up2 (up2 (up2 σ 146 0 (σ 36 0)) 146 1 (σ 36 1)) 146 2 (σ 36 2)) 37 147 0 0 10) 38 148 0 0 10))) rfl rfl ?_
  refine TT.steps (cd := cd160) 1 (c' := (36, [(2, 146), (2, 36)], [], (cpy2 (cpy2 (cpy2 (up2 (up2 (up2 σ 146 0 (σ 36 0)) 146 1 (σ 36 1)) 146 2 (σ 36 2)) 37 147 0 0 10) 38 148 0 0 10) 39 149 0 0 10))) rfl rfl ?_
  refine TT.steps (cd := cd160) 7 (c' := (43, [(2, 146), (2, 36)], [(0, 10), (0, 0), (2, 150), (0, 0), (2, 40)], (cpy2 (cpy2 (cpy2 (up2 (up2 (up2 σ 146 0 (σ 36 0)) 146 1 (σ 36 1)) 146 2 (σ 36 2)) 37 147 0 0 10) 38 148 0 0 10) 39 149 0 0 10))) rfl rfl ?_
  refine TT.steps (cd := cd160) 1 (c' := (44, [(2, 146), (2, 36)], [], (cpy2 (cpy2 (cpy2 (cpy2 (up2 (up2 (up2 σ 146 0 (σ 36 0)) 146 1 (σ 36 1)) 146 2 (σ 36 2)) 37 147 0 0 10) 38 148 0 0 10) 39 149 0 0 10) 40 150 0 0 10))) rfl rfl ?_
  refine TT.steps (cd := cd160) 7 (c' := (51, [(2, 146), (2, 36)], [(0, 10), (0, 0), (2, 151), (0, 0), (2, 41)], (cpy2 (cpy2 (cpy2 (cpy2 (up2 (up2 (up2 σ 146 0 (σ 36 0)) 146 1 (σ 36 1)) 146 2 (σ 36 2)) 37 147 0 0 10) 38 148 0 0 10) 39 149 0 0 10) 40 150 0 0 10))) rfl rfl ?_
  refine TT.steps (cd := cd160) 1 (c' := (52, [(2, 146), (2, 36)], [], (cpy2 (cpy2 (cpy2 (cpy2 (cpy2 (up2 (up2 (up2 σ 146 0 (σ 36 0)) 146 1 (σ 36 1)) 146 2 (σ 36 2)) 37 147 0 0 10) 38 148 0 0 10) 39 149 0 0 10) 40 150 0 0 10) 41 151 0 0 10))) rfl rfl ?_
  exact TT.ret (cd := cd160) rfl rfl rfl rfl (⟨rfl, CP_of (σ := σ) (q1 := 146) (q2 := 36) (by omega)⟩)
theorem v_copy_152_36 (X : AX) (σ : AH)  : TT X 160 (0, [(2, 152), (2, 36)], [], σ) (fun r σ' => r = none ∧ CP σ σ' 152 36) := by
  refine TT.steps (cd := cd160) 7 (c' := (7, [(2, 152), (2, 36)], [(0, ((up2 σ 152 0 (σ 36 0)) 36 1)), (2, 152)], (up2 σ 152 0 (σ 36 0)))) rfl rfl ?_
  refine TT.top0 (z := (σ 36 1)) (up2_far (k := 152) (k' := 36) _ _ _ _ (by decide)) ?_
  refine TT.steps (cd := cd160) 4 (c' := (11, [(2, 152), (2, 36)], [(0, ((up2 (up2 σ 152 0 (σ 36 0)) 152 1 (σ 36 1)) 36 2)), (2, 152)], (up2 (up2 σ 152 0 (σ 36 0)) 152 1 (σ 36 1)))) rfl rfl ?_
  refine TT.top0 (z := (σ 36 2)) ((up2_far (k := 152) (k' := 36) _ _ _ _ (by decide)).trans (up2_far (k := 152) (k' := 36) _ _ _ _ (by decide))) ?_
  refine TT.steps (cd := cd160) 8 (c' := (19, [(2, 152), (2, 36)], [(0, 10), (0, 0), (2, 153), (0, 0), (2, 37)], (up2 (up2 (up2 σ 152 0 (σ 36 0)) 152 1 (σ 36 1)) 152 2 (σ 36 2)))) rfl rfl ?_
  refine TT.steps (cd := cd160) 1 (c' := (20, [(2, 152), (2, 36)], [], (cpy2 (up2 (up2 (up2 σ 152 0 (σ 36 0)) 152 1 (σ 36 1)) 152 2 (σ 36 2)) 37 153 0 0 10))) rfl rfl ?_
  refine TT.steps (cd := cd160) 7 (c' := (27, [(2, 152), (2, 36)], [(0, 10), (0, 0), (2, 154), (0, 0), (2, 38)], (cpy2 (up2 (up2 (up2 σ 152 0 (σ 36 0)) 152 1 (σ 36 1)) 152 2 (σ 36 2)) 37 153 0 0 10))) rfl rfl ?_
  refine TT.steps (cd := cd160) 1 (c' := (28, [(2, 152), (2, 36)], [], (cpy2 (cpy2 (up2 (up2 (up2 σ 152 0 (σ 36 0)) 152 1 (σ 36 1)) 152 2 (σ 36 2)) 37 153 0 0 10) 38 154 0 0 10))) rfl rfl ?_
  refine TT.steps (cd := cd160) 7 (c' := (35, [(2, 152), (2, 36)], [(0, 10), (0, 0), (2, 155), (0, 0), (2, 39)], (cpy2 (cpy2 (up2 (up2 (up2 σ 152 0 (σ 36 0)) 152 1 (σ 36 1)) 152 2 (σ 36 2)) 37 153 0 0 10) 38 154 0 0 10))) rfl rfl ?_
  refine TT.steps (cd := cd160) 1 (c' := (36, [(2, 152), (2, 36)], [], (cpy2 (cpy2 (cpy2 (up2 (up2 (up2 σ 152 0 (σ 36 0)) 152 1 (σ 36 1)) 152 2 (σ 36 2)) 37 153 0 0 10) 38 154 0 0 10) 39 155 0 0 10))) rfl rfl ?_
  refine TT.steps (cd := cd160) 7 (c' := (43, [(2, 152), (2, 36)], [(0, 10), (0, 0), (2, 156), (0, 0), (2, 40)], (cpy2 (cpy2 (cpy2 (up2 (up2 (up2 σ 152 0 (σ 36 0)) 152 1 (σ 36 1)) 152 2 (σ 36 2)) 37 153 0 0 10) 38 154 0 0 10) 39 155 0 0 10))) rfl rfl ?_
  refine TT.steps (cd := cd160) 1 (c' := (44, [(2, 152), (2, 36)], [], (cpy2 (cpy2 (cpy2 (cpy2 (up2 (up2 (up2 σ 152 0 (σ 36 0)) 152 1 (σ 36 1)) 152 2 (σ 36 2)) 37 153 0 0 10) 38 154 0 0 10) 39 155 0 0 10) 40 156 0 0 10))) rfl rfl ?_
  refine TT.steps (cd := cd160) 7 (c' := (51, [(2, 152), (2, 36)], [(0, 10), (0, 0), (2, 157), (0, 0), (2, 41)], (cpy2 (cpy2 (cpy2 (cpy2 (up2 (up2 (up2 σ 152 0 (σ 36 0)) 152 1 (σ 36 1)) 152 2 (σ 36 2)) 37 153 0 0 10) 38 154 0 0 10) 39 155 0 0 10) 40 156 0 0 10))) rfl rfl ?_
  refine TT.steps (cd := cd160) 1 (c' := (52, [(2, 152), (2, 36)], [], (cpy2 (cpy2 (cpy2 (cpy2 (cpy2 (up2 (up2 (up2 σ 152 0 (σ 36 0)) 152 1 (σ 36 1)) 152 2 (σ 36 2)) 37 153 0 0 10) 38 154 0 0 10) 39 155 0 0 10) 40 156 0 0 10) 41 157 0 0 10))) rfl rfl ?_
  exact TT.ret (cd := cd160) rfl rfl rfl rfl (⟨rfl, CP_of (σ := σ) (q1 := 152) (q2 := 36) (by omega)⟩)
theorem v_copy_158_36 (X : AX) (σ : AH)  : TT X 160 (0, [(2, 158), (2, 36)], [], σ) (fun r σ' => r = none ∧ CP σ σ' 158 36) := by
  refine TT.steps (cd := cd160) 7 (c' := (7, [(2, 158), (2, 36)], [(0, ((up2 σ 158 0 (σ 36 0)) 36 1)), (2, 158)], (up2 σ 158 0 (σ 36 0)))) rfl rfl ?_
  refine TT.top0 (z := (σ 36 1)) (up2_far (k := 158) (k' := 36) _ _ _ _ (by decide)) ?_
  refine TT.steps (cd := cd160) 4 (c' := (11, [(2, 158), (2, 36)], [(0, ((up2 (up2 σ 158 0 (σ 36 0)) 158 1 (σ 36 1)) 36 2)), (2, 158)], (up2 (up2 σ 158 0 (σ 36 0)) 158 1 (σ 36 1)))) rfl rfl ?_
  refine TT.top0 (z := (σ 36 2)) ((up2_far (k := 158) (k' := 36) _ _ _ _ (by decide)).trans (up2_far (k := 158) (k' := 36) _ _ _ _ (by decide))) ?_
  refine TT.steps (cd := cd160) 8 (c' := (19, [(2, 158), (2, 36)], [(0, 10), (0, 0), (2, 159), (0, 0), (2, 37)], (up2 (up2 (up2 σ 158 0 (σ 36 0)) 158 1 (σ 36 1)) 158 2 (σ 36 2)))) rfl rfl ?_
  refine TT.steps (cd := cd160) 1 (c' := (20, [(2, 158), (2, 36)], [], (cpy2 (up2 (up2 (up2 σ 158 0 (σ 36 0)) 158 1 (σ 36 1)) 158 2 (σ 36 2)) 37 159 0 0 10))) rfl rfl ?_
  refine TT.steps (cd := cd160) 7 (c' := (27, [(2, 158), (2, 36)], [(0, 10), (0, 0), (2, 160), (0, 0), (2, 38)], (cpy2 (up2 (up2 (up2 σ 158 0 (σ 36 0)) 158 1 (σ 36 1)) 158 2 (σ 36 2)) 37 159 0 0 10))) rfl rfl ?_
  refine TT.steps (cd := cd160) 1 (c' := (28, [(2, 158), (2, 36)], [], (cpy2 (cpy2 (up2 (up2 (up2 σ 158 0 (σ 36 0)) 158 1 (σ 36 1)) 158 2 (σ 36 2)) 37 159 0 0 10) 38 160 0 0 10))) rfl rfl ?_
  refine TT.steps (cd := cd160) 7 (c' := (35, [(2, 158), (2, 36)], [(0, 10), (0, 0), (2, 161), (0, 0), (2, 39)], (cpy2 (cpy2 (up2 (up2 (up2 σ 158 0 (σ 36 0)) 158 1 (σ 36 1)) 158 2 (σ 36 2)) 37 159 0 0 10) 38 160 0 0 10))) rfl rfl ?_
  refine TT.steps (cd := cd160) 1 (c' := (36, [(2, 158), (2, 36)], [], (cpy2 (cpy2 (cpy2 (up2 (up2 (up2 σ 158 0 (σ 36 0)) 158 1 (σ 36 1)) 158 2 (σ 36 2)) 37 159 0 0 10) 38 160 0 0 10) 39 161 0 0 10))) rfl rfl ?_
  refine TT.steps (cd := cd160) 7 (c' := (43, [(2, 158), (2, 36)], [(0, 10), (0, 0), (2, 162), (0, 0), (2, 40)], (cpy2 (cpy2 (cpy2 (up2 (up2 (up2 σ 158 0 (σ 36 0)) 158 1 (σ 36 1)) 158 2 (σ 36 2)) 37 159 0 0 10) 38 160 0 0 10) 39 161 0 0 10))) rfl rfl ?_
  refine TT.steps (cd := cd160) 1 (c' := (44, [(2, 158), (2, 36)], [], (cpy2 (cpy2 (cpy2 (cpy2 (up2 (up2 (up2 σ 158 0 (σ 36 0)) 158 1 (σ 36 1)) 158 2 (σ 36 2)) 37 159 0 0 10) 38 160 0 0 10) 39 161 0 0 10) 40 162 0 0 10))) rfl rfl ?_
  refine TT.steps (cd := cd160) 7 (c' := (51, [(2, 158), (2, 36)], [(0, 10), (0, 0), (2, 163), (0, 0), (2, 41)], (cpy2 (cpy2 (cpy2 (cpy2 (up2 (up2 (up2 σ 158 0 (σ 36 0)) 158 1 (σ 36 1)) 158 2 (σ 36 2)) 37 159 0 0 10) 38 160 0 0 10) 39 161 0 0 10) 40 162 0 0 10))) rfl rfl ?_
  refine TT.steps (cd := cd160) 1 (c' := (52, [(2, 158), (2, 36)], [], (cpy2 (cpy2 (cpy2 (cpy2 (cpy2 (up2 (up2 (up2 σ 158 0 (σ 36 0)) 158 1 (σ 36 1)) 158 2 (σ 36 2)) 37 159 0 0 10) 38 160 0 0 10) 39 161 0 0 10) 40 162 0 0 10) 41 163 0 0 10))) rfl rfl ?_
  exact TT.ret (cd := cd160) rfl rfl rfl rfl (⟨rfl, CP_of (σ := σ) (q1 := 158) (q2 := 36) (by omega)⟩)
theorem v_copy_164_36 (X : AX) (σ : AH)  : TT X 160 (0, [(2, 164), (2, 36)], [], σ) (fun r σ' => r = none ∧ CP σ σ' 164 36) := by
  refine TT.steps (cd := cd160) 7 (c' := (7, [(2, 164), (2, 36)], [(0, ((up2 σ 164 0 (σ 36 0)) 36 1)), (2, 164)], (up2 σ 164 0 (σ 36 0)))) rfl rfl ?_
  refine TT.top0 (z := (σ 36 1)) (up2_far (k := 164) (k' := 36) _ _ _ _ (by decide)) ?_
  refine TT.steps (cd := cd160) 4 (c' := (11, [(2, 164), (2, 36)], [(0, ((up2 (up2 σ 164 0 (σ 36 0)) 164 1 (σ 36 1)) 36 2)), (2, 164)], (up2 (up2 σ 164 0 (σ 36 0)) 164 1 (σ 36 1)))) rfl rfl ?_
  refine TT.top0 (z := (σ 36 2)) ((up2_far (k := 164) (k' := 36) _ _ _ _ (by decide)).trans (up2_far (k := 164) (k' := 36) _ _ _ _ (by decide))) ?_
  refine TT.steps (cd := cd160) 8 (c' := (19, [(2, 164), (2, 36)], [(0, 10), (0, 0), (2, 165), (0, 0), (2, 37)], (up2 (up2 (up2 σ 164 0 (σ 36 0)) 164 1 (σ 36 1)) 164 2 (σ 36 2)))) rfl rfl ?_
  refine TT.steps (cd := cd160) 1 (c' := (20, [(2, 164), (2, 36)], [], (cpy2 (up2 (up2 (up2 σ 164 0 (σ 36 0)) 164 1 (σ 36 1)) 164 2 (σ 36 2)) 37 165 0 0 10))) rfl rfl ?_
  refine TT.steps (cd := cd160) 7 (c' := (27, [(2, 164), (2, 36)], [(0, 10), (0, 0), (2, 166), (0, 0), (2, 38)], (cpy2 (up2 (up2 (up2 σ 164 0 (σ 36 0)) 164 1 (σ 36 1)) 164 2 (σ 36 2)) 37 165 0 0 10))) rfl rfl ?_
  refine TT.steps (cd := cd160) 1 (c' := (28, [(2, 164), (2, 36)], [], (cpy2 (cpy2 (up2 (up2 (up2 σ 164 0 (σ 36 0)) 164 1 (σ 36 1)) 164 2 (σ 36 2)) 37 165 0 0 10) 38 166 0 0 10))) rfl rfl ?_
  refine TT.steps (cd := cd160) 7 (c' := (35, [(2, 164), (2, 36)], [(0, 10), (0, 0), (2, 167), (0, 0), (2, 39)], (cpy2 (cpy2 (up2 (up2 (up2 σ 164 0 (σ 36 0)) 164 1 (σ 36 1)) 164 2 (σ 36 2)) 37 165 0 0 10) 38 166 0 0 10))) rfl rfl ?_
  refine TT.steps (cd := cd160) 1 (c' := (36, [(2, 164), (2, 36)], [], (cpy2 (cpy2 (cpy2 (up2 (up2 (up2 σ 164 0 (σ 36 0)) 164 1 (σ 36 1)) 164 2 (σ 36 2)) 37 165 0 0 10) 38 166 0 0 10) 39 167 0 0 10))) rfl rfl ?_
  refine TT.steps (cd := cd160) 7 (c' := (43, [(2, 164), (2, 36)], [(0, 10), (0, 0), (2, 168), (0, 0), (2, 40)], (cpy2 (cpy2 (cpy2 (up2 (up2 (up2 σ 164 0 (σ 36 0)) 164 1 (σ 36 1)) 164 2 (σ 36 2)) 37 165 0 0 10) 38 166 0 0 10) 39 167 0 0 10))) rfl rfl ?_
  refine TT.steps (cd := cd160) 1 (c' := (44, [(2, 164), (2, 36)], [], (cpy2 (cpy2 (cpy2 (cpy2 (up2 (up2 (up2 σ 164 0 (σ 36 0)) 164 1 (σ 36 1)) 164 2 (σ 36 2)) 37 165 0 0 10) 38 166 0 0 10) 39 167 0 0 10) 40 168 0 0 10))) rfl rfl ?_
  refine TT.steps (cd := cd160) 7 (c' := (51, [(2, 164), (2, 36)], [(0, 10), (0, 0), (2, 169), (0, 0), (2, 41)], (cpy2 (cpy2 (cpy2 (cpy2 (up2 (up2 (up2 σ 164 0 (σ 36 0)) 164 1 (σ 36 1)) 164 2 (σ 36 2)) 37 165 0 0 10) 38 166 0 0 10) 39 167 0 0 10) 40 168 0 0 10))) rfl rfl ?_
  refine TT.steps (cd := cd160) 1 (c' := (52, [(2, 164), (2, 36)], [], (cpy2 (cpy2 (cpy2 (cpy2 (cpy2 (up2 (up2 (up2 σ 164 0 (σ 36 0)) 164 1 (σ 36 1)) 164 2 (σ 36 2)) 37 165 0 0 10) 38 166 0 0 10) 39 167 0 0 10) 40 168 0 0 10) 41 169 0 0 10))) rfl rfl ?_
  exact TT.ret (cd := cd160) rfl rfl rfl rfl (⟨rfl, CP_of (σ := σ) (q1 := 164) (q2 := 36) (by omega)⟩)
theorem v_copy_36_50 (X : AX) (σ : AH)  : TT X 160 (0, [(2, 36), (2, 50)], [], σ) (fun r σ' => r = none ∧ CP σ σ' 36 50) := by
  refine TT.steps (cd := cd160) 7 (c' := (7, [(2, 36), (2, 50)], [(0, ((up2 σ 36 0 (σ 50 0)) 50 1)), (2, 36)], (up2 σ 36 0 (σ 50 0)))) rfl rfl ?_
  refine TT.top0 (z := (σ 50 1)) (up2_far (k := 36) (k' := 50) _ _ _ _ (by decide)) ?_
  refine TT.steps (cd := cd160) 4 (c' := (11, [(2, 36), (2, 50)], [(0, ((up2 (up2 σ 36 0 (σ 50 0)) 36 1 (σ 50 1)) 50 2)), (2, 36)], (up2 (up2 σ 36 0 (σ 50 0)) 36 1 (σ 50 1)))) rfl rfl ?_
  refine TT.top0 (z := (σ 50 2)) ((up2_far (k := 36) (k' := 50) _ _ _ _ (by decide)).trans (up2_far (k := 36) (k' := 50) _ _ _ _ (by decide))) ?_
  refine TT.steps (cd := cd160) 8 (c' := (19, [(2, 36), (2, 50)], [(0, 10), (0, 0), (2, 37), (0, 0), (2, 51)], (up2 (up2 (up2 σ 36 0 (σ 50 0)) 36 1 (σ 50 1)) 36 2 (σ 50 2)))) rfl rfl ?_
  refine TT.steps (cd := cd160) 1 (c' := (20, [(2, 36), (2, 50)], [], (cpy2 (up2 (up2 (up2 σ 36 0 (σ 50 0)) 36 1 (σ 50 1)) 36 2 (σ 50 2)) 51 37 0 0 10))) rfl rfl ?_
  refine TT.steps (cd := cd160) 7 (c' := (27, [(2, 36), (2, 50)], [(0, 10), (0, 0), (2, 38), (0, 0), (2, 52)], (cpy2 (up2 (up2 (up2 σ 36 0 (σ 50 0)) 36 1 (σ 50 1)) 36 2 (σ 50 2)) 51 37 0 0 10))) rfl rfl ?_
  refine TT.steps (cd := cd160) 1 (c' := (28, [(2, 36), (2, 50)], [], (cpy2 (cpy2 (up2 (up2 (up2 σ 36 0 (σ 50 0)) 36 1 (σ 50 1)) 36 2 (σ 50 2)) 51 37 0 0 10) 52 38 0 0 10))) rfl rfl ?_
  refine TT.steps (cd := cd160) 7 (c' := (35, [(2, 36), (2, 50)], [(0, 10), (0, 0), (2, 39), (0, 0), (2, 53)], (cpy2 (cpy2 (up2 (up2 (up2 σ 36 0 (σ 50 0)) 36 1 (σ 50 1)) 36 2 (σ 50 2)) 51 37 0 0 10) 52 38 0 0 10))) rfl rfl ?_
  refine TT.steps (cd := cd160) 1 (c' := (36, [(2, 36), (2, 50)], [], (cpy2 (cpy2 (cpy2 (up2 (up2 (up2 σ 36 0 (σ 50 0)) 36 1 (σ 50 1)) 36 2 (σ 50 2)) 51 37 0 0 10) 52 38 0 0 10) 53 39 0 0 10))) rfl rfl ?_
  refine TT.steps (cd := cd160) 7 (c' := (43, [(2, 36), (2, 50)], [(0, 10), (0, 0), (2, 40), (0, 0), (2, 54)], (cpy2 (cpy2 (cpy2 (up2 (up2 (up2 σ 36 0 (σ 50 0)) 36 1 (σ 50 1)) 36 2 (σ 50 2)) 51 37 0 0 10) 52 38 0 0 10) 53 39 0 0 10))) rfl rfl ?_
  refine TT.steps (cd := cd160) 1 (c' := (44, [(2, 36), (2, 50)], [], (cpy2 (cpy2 (cpy2 (cpy2 (up2 (up2 (up2 σ 36 0 (σ 50 0)) 36 1 (σ 50 1)) 36 2 (σ 50 2)) 51 37 0 0 10) 52 38 0 0 10) 53 39 0 0 10) 54 40 0 0 10))) rfl rfl ?_
  refine TT.steps (cd := cd160) 7 (c' := (51, [(2, 36), (2, 50)], [(0, 10), (0, 0), (2, 41), (0, 0), (2, 55)], (cpy2 (cpy2 (cpy2 (cpy2 (up2 (up2 (up2 σ 36 0 (σ 50 0)) 36 1 (σ 50 1)) 36 2 (σ 50 2)) 51 37 0 0 10) 52 38 0 0 10) 53 39 0 0 10) 54 40 0 0 10))) rfl rfl ?_
  refine TT.steps (cd := cd160) 1 (c' := (52, [(2, 36), (2, 50)], [], (cpy2 (cpy2 (cpy2 (cpy2 (cpy2 (up2 (up2 (up2 σ 36 0 (σ 50 0)) 36 1 (σ 50 1)) 36 2 (σ 50 2)) 51 37 0 0 10) 52 38 0 0 10) 53 39 0 0 10) 54 40 0 0 10) 55 41 0 0 10))) rfl rfl ?_
  exact TT.ret (cd := cd160) rfl rfl rfl rfl (⟨rfl, CP_of (σ := σ) (q1 := 36) (q2 := 50) (by omega)⟩)
theorem v_copy_36_56 (X : AX) (σ : AH)  : TT X 160 (0, [(2, 36), (2, 56)], [], σ) (fun r σ' => r = none ∧ CP σ σ' 36 56) := by
  refine TT.steps (cd := cd160) 7 (c' := (7, [(2, 36), (2, 56)], [(0, ((up2 σ 36 0 (σ 56 0)) 56 1)), (2, 36)], (up2 σ 36 0 (σ 56 0)))) rfl rfl ?_
  refine TT.top0 (z := (σ 56 1)) (up2_far (k := 36) (k' := 56) _ _ _ _ (by decide)) ?_
  refine TT.steps (cd := cd160) 4 (c' := (11, [(2, 36), (2, 56)], [(0, ((up2 (up2 σ 36 0 (σ 56 0)) 36 1 (σ 56 1)) 56 2)), (2, 36)], (up2 (up2 σ 36 0 (σ 56 0)) 36 1 (σ 56 1)))) rfl rfl ?_
  refine TT.top0 (z := (σ 56 2)) ((up2_far (k := 36) (k' := 56) _ _ _ _ (by decide)).trans (up2_far (k := 36) (k' := 56) _ _ _ _ (by decide))) ?_
  refine TT.steps (cd := cd160) 8 (c' := (19, [(2, 36), (2, 56)], [(0, 10), (0, 0), (2, 37), (0, 0), (2, 57)], (up2 (up2 (up2 σ 36 0 (σ 56 0)) 36 1 (σ 56 1)) 36 2 (σ 56 2)))) rfl rfl ?_
  refine TT.steps (cd := cd160) 1 (c' := (20, [(2, 36), (2, 56)], [], (cpy2 (up2 (up2 (up2 σ 36 0 (σ 56 0)) 36 1 (σ 56 1)) 36 2 (σ 56 2)) 57 37 0 0 10))) rfl rfl ?_
  refine TT.steps (cd := cd160) 7 (c' := (27, [(2, 36), (2, 56)], [(0, 10), (0, 0), (2, 38), (0, 0), (2, 58)], (cpy2 (up2 (up2 (up2 σ 36 0 (σ 56 0)) 36 1 (σ 56 1)) 36 2 (σ 56 2)) 57 37 0 0 10))) rfl rfl ?_
  refine TT.steps (cd := cd160) 1 (c' := (28, [(2, 36), (2, 56)], [], (cpy2 (cpy2 (up2 (up2 (up2 σ 36 0 (σ 56 0)) 36 1 (σ 56 1)) 36 2 (σ 56 2)) 57 37 0 0 10) 58 38 0 0 10))) rfl rfl ?_
  refine TT.steps (cd := cd160) 7 (c' := (35, [(2, 36), (2, 56)], [(0, 10), (0, 0), (2, 39), (0, 0), (2, 59)], (cpy2 (cpy2 (up2 (up2 (up2 σ 36 0 (σ 56 0)) 36 1 (σ 56 1)) 36 2 (σ 56 2)) 57 37 0 0 10) 58 38 0 0 10))) rfl rfl ?_
  refine TT.steps (cd := cd160) 1 (c' := (36, [(2, 36), (2, 56)], [], (cpy2 (cpy2 (cpy2 (up2 (up2 (up2 σ 36 0 (σ 56 0)) 36 1 (σ 56 1)) 36 2 (σ 56 2)) 57 37 0 0 10) 58 38 0 0 10) 59 39 0 0 10))) rfl rfl ?_
  refine TT.steps (cd := cd160) 7 (c' := (43, [(2, 36), (2, 56)], [(0, 10), (0, 0), (2, 40), (0, 0), (2, 60)], (cpy2 (cpy2 (cpy2 (up2 (up2 (up2 σ 36 0 (σ 56 0)) 36 1 (σ 56 1)) 36 2 (σ 56 2)) 57 37 0 0 10) 58 38 0 0 10) 59 39 0 0 10))) rfl rfl ?_
  refine TT.steps (cd := cd160) 1 (c' := (44, [(2, 36), (2, 56)], [], (cpy2 (cpy2 (cpy2 (cpy2 (up2 (up2 (up2 σ 36 0 (σ 56 0)) 36 1 (σ 56 1)) 36 2 (σ 56 2)) 57 37 0 0 10) 58 38 0 0 10) 59 39 0 0 10) 60 40 0 0 10))) rfl rfl ?_
  refine TT.steps (cd := cd160) 7 (c' := (51, [(2, 36), (2, 56)], [(0, 10), (0, 0), (2, 41), (0, 0), (2, 61)], (cpy2 (cpy2 (cpy2 (cpy2 (up2 (up2 (up2 σ 36 0 (σ 56 0)) 36 1 (σ 56 1)) 36 2 (σ 56 2)) 57 37 0 0 10) 58 38 0 0 10) 59 39 0 0 10) 60 40 0 0 10))) rfl rfl ?_
  refine TT.steps (cd := cd160) 1 (c' := (52, [(2, 36), (2, 56)], [], (cpy2 (cpy2 (cpy2 (cpy2 (cpy2 (up2 (up2 (up2 σ 36 0 (σ 56 0)) 36 1 (σ 56 1)) 36 2 (σ 56 2)) 57 37 0 0 10) 58 38 0 0 10) 59 39 0 0 10) 60 40 0 0 10) 61 41 0 0 10))) rfl rfl ?_
  exact TT.ret (cd := cd160) rfl rfl rfl rfl (⟨rfl, CP_of (σ := σ) (q1 := 36) (q2 := 56) (by omega)⟩)
theorem v_copy_36_62 (X : AX) (σ : AH)  : TT X 160 (0, [(2, 36), (2, 62)], [], σ) (fun r σ' => r = none ∧ CP σ σ' 36 62) := by
  refine TT.steps (cd := cd160) 7 (c' := (7, [(2, 36), (2, 62)], [(0, ((up2 σ 36 0 (σ 62 0)) 62 1)), (2, 36)], (up2 σ 36 0 (σ 62 0)))) rfl rfl ?_
  refine TT.top0 (z := (σ 62 1)) (up2_far (k := 36) (k' := 62) _ _ _ _ (by decide)) ?_
  refine TT.steps (cd := cd160) 4 (c' := (11, [(2, 36), (2, 62)], [(0, ((up2 (up2 σ 36 0 (σ 62 0)) 36 1 (σ 62 1)) 62 2)), (2, 36)], (up2 (up2 σ 36 0 (σ 62 0)) 36 1 (σ 62 1)))) rfl rfl ?_
  refine TT.top0 (z := (σ 62 2)) ((up2_far (k := 36) (k' := 62) _ _ _ _ (by decide)).trans (up2_far (k := 36) (k' := 62) _ _ _ _ (by decide))) ?_
  refine TT.steps (cd := cd160) 8 (c' := (19, [(2, 36), (2, 62)], [(0, 10), (0, 0), (2, 37), (0, 0), (2, 63)], (up2 (up2 (up2 σ 36 0 (σ 62 0)) 36 1 (σ 62 1)) 36 2 (σ 62 2)))) rfl rfl ?_
  refine TT.steps (cd := cd160) 1 (c' := (20, [(2, 36), (2, 62)], [], (cpy2 (up2 (up2 (up2 σ 36 0 (σ 62 0)) 36 1 (σ 62 1)) 36 2 (σ 62 2)) 63 37 0 0 10))) rfl rfl ?_
  refine TT.steps (cd := cd160) 7 (c' := (27, [(2, 36), (2, 62)], [(0, 10), (0, 0), (2, 38), (0, 0), (2, 64)], (cpy2 (up2 (up2 (up2 σ 36 0 (σ 62 0)) 36 1 (σ 62 1)) 36 2 (σ 62 2)) 63 37 0 0 10))) rfl rfl ?_
  refine TT.steps (cd := cd160) 1 (c' := (28, [(2, 36), (2, 62)], [], (cpy2 (cpy2 (up2 (up2 (up2 σ 36 0 (σ 62 0)) 36 1 (σ 62 1)) 36 2 (σ 62 2)) 63 37 0 0 10) 64 38 0 0 10))) rfl rfl ?_
  refine TT.steps (cd := cd160) 7 (c' := (35, [(2, 36), (2, 62)], [(0, 10), (0, 0), (2, 39), (0, 0), (2, 65)], (cpy2 (cpy2 (up2 (up2 (up2 σ 36 0 (σ 62 0)) 36 1 (σ 62 1)) 36 2 (σ 62 2)) 63 37 0 0 10) 64 38 0 0 10))) rfl rfl ?_
  refine TT.steps (cd := cd160) 1 (c' := (36, [(2, 36), (2, 62)], [], (cpy2 (cpy2 (cpy2 (up2 (up2 (up2 σ 36 0 (σ 62 0)) 36 1 (σ 62 1)) 36 2 (σ 62 2)) 63 37 0 0 10) 64 38 0 0 10) 65 39 0 0 10))) rfl rfl ?_
  refine TT.steps (cd := cd160) 7 (c' := (43, [(2, 36), (2, 62)], [(0, 10), (0, 0), (2, 40), (0, 0), (2, 66)], (cpy2 (cpy2 (cpy2 (up2 (up2 (up2 σ 36 0 (σ 62 0)) 36 1 (σ 62 1)) 36 2 (σ 62 2)) 63 37 0 0 10) 64 38 0 0 10) 65 39 0 0 10))) rfl rfl ?_
  refine TT.steps (cd := cd160) 1 (c' := (44, [(2, 36), (2, 62)], [], (cpy2 (cpy2 (cpy2 (cpy2 (up2 (up2 (up2 σ 36 0 (σ 62 0)) 36 1 (σ 62 1)) 36 2 (σ 62 2)) 63 37 0 0 10) 64 38 0 0 10) 65 39 0 0 10) 66 40 0 0 10))) rfl rfl ?_
  refine TT.steps (cd := cd160) 7 (c' := (51, [(2, 36), (2, 62)], [(0, 10), (0, 0), (2, 41), (0, 0), (2, 67)], (cpy2 (cpy2 (cpy2 (cpy2 (up2 (up2 (up2 σ 36 0 (σ 62 0)) 36 1 (σ 62 1)) 36 2 (σ 62 2)) 63 37 0 0 10) 64 38 0 0 10) 65 39 0 0 10) 66 40 0 0 10))) rfl rfl ?_
  refine TT.steps (cd := cd160) 1 (c' := (52, [(2, 36), (2, 62)], [], (cpy2 (cpy2 (cpy2 (cpy2 (cpy2 (up2 (up2 (up2 σ 36 0 (σ 62 0)) 36 1 (σ 62 1)) 36 2 (σ 62 2)) 63 37 0 0 10) 64 38 0 0 10) 65 39 0 0 10) 66 40 0 0 10) 67 41 0 0 10))) rfl rfl ?_
  exact TT.ret (cd := cd160) rfl rfl rfl rfl (⟨rfl, CP_of (σ := σ) (q1 := 36) (q2 := 62) (by omega)⟩)
theorem v_copy_36_68 (X : AX) (σ : AH)  : TT X 160 (0, [(2, 36), (2, 68)], [], σ) (fun r σ' => r = none ∧ CP σ σ' 36 68) := by
  refine TT.steps (cd := cd160) 7 (c' := (7, [(2, 36), (2, 68)], [(0, ((up2 σ 36 0 (σ 68 0)) 68 1)), (2, 36)], (up2 σ 36 0 (σ 68 0)))) rfl rfl ?_
  refine TT.top0 (z := (σ 68 1)) (up2_far (k := 36) (k' := 68) _ _ _ _ (by decide)) ?_
  refine TT.steps (cd := cd160) 4 (c' := (11, [(2, 36), (2, 68)], [(0, ((up2 (up2 σ 36 0 (σ 68 0)) 36 1 (σ 68 1)) 68 2)), (2, 36)], (up2 (up2 σ 36 0 (σ 68 0)) 36 1 (σ 68 1)))) rfl rfl ?_
  refine TT.top0 (z := (σ 68 2)) ((up2_far (k := 36) (k' := 68) _ _ _ _ (by decide)).trans (up2_far (k := 36) (k' := 68) _ _ _ _ (by decide))) ?_
  refine TT.steps (cd := cd160) 8 (c' := (19, [(2, 36), (2, 68)], [(0, 10), (0, 0), (2, 37), (0, 0), (2, 69)], (up2 (up2 (up2 σ 36 0 (σ 68 0)) 36 1 (σ 68 1)) 36 2 (σ 68 2)))) rfl rfl ?_
  refine TT.steps (cd := cd160) 1 (c' := (20, [(2, 36), (2, 68)], [], (cpy2 (up2 (up2 (up2 σ 36 0 (σ 68 0)) 36 1 (σ 68 1)) 36 2 (σ 68 2)) 69 37 0 0 10))) rfl rfl ?_
  refine TT.steps (cd := cd160) 7 (c' := (27, [(2, 36), (2, 68)], [(0, 10), (0, 0), (2, 38), (0, 0), (2, 70)], (cpy2 (up2 (up2 (up2 σ 36 0 (σ 68 0)) 36 1 (σ 68 1)) 36 2 (σ 68 2)) 69 37 0 0 10))) rfl rfl ?_
  refine TT.steps (cd := cd160) 1 (c' := (28, [(2, 36), (2, 68)], [], (cpy2 (cpy2 (up2 (up2 (up2 σ 36 0 (σ 68 0)) 36 1 (σ 68 1)) 36 2 (σ 68 2)) 69 37 0 0 10) 70 38 0 0 10))) rfl rfl ?_
  refine TT.steps (cd := cd160) 7 (c' := (35, [(2, 36), (2, 68)], [(0, 10), (0, 0), (2, 39), (0, 0), (2, 71)], (cpy2 (cpy2 (up2 (up2 (up2 σ 36 0 (σ 68 0)) 36 1 (σ 68 1)) 36 2 (σ 68 2)) 69 37 0 0 10) 70 38 0 0 10))) rfl rfl ?_
  refine TT.steps (cd := cd160) 1 (c' := (36, [(2, 36), (2, 68)], [], (cpy2 (cpy2 (cpy2 (up2 (up2 (up2 σ 36 0 (σ 68 0)) 36 1 (σ 68 1)) 36 2 (σ 68 2)) 69 37 0 0 10) 70 38 0 0 10) 71 39 0 0 10))) rfl rfl ?_
  refine TT.steps (cd := cd160) 7 (c' := (43, [(2, 36), (2, 68)], [(0, 10), (0, 0), (2, 40), (0, 0), (2, 72)], (cpy2 (cpy2 (cpy2 (up2 (up2 (up2 σ 36 0 (σ 68 0)) 36 1 (σ 68 1)) 36 2 (σ 68 2)) 69 37 0 0 10) 70 38 0 0 10) 71 39 0 0 10))) rfl rfl ?_
  refine TT.steps (cd := cd160) 1 (c' := (44, [(2, 36), (2, 68)], [], (cpy2 (cpy2 (cpy2 (cpy2 (up2 (up2 (up2 σ 36 0 (σ 68 0)) 36 1 (σ 68 1)) 36 2 (σ 68 2)) 69 37 0 0 10) 70 38 0 0 10) 71 39 0 0 10) 72 40 0 0 10))) rfl rfl ?_
  refine TT.steps (cd := cd160) 7 (c' := (51, [(2, 36), (2, 68)], [(0, 10), (0, 0), (2, 41), (0, 0), (2, 73)], (cpy2 (cpy2 (cpy2 (cpy2 (up2 (up2 (up2 σ 36 0 (σ 68 0)) 36 1 (σ 68 1)) 36 2 (σ 68 2)) 69 37 0 0 10) 70 38 0 0 10) 71 39 0 0 10) 72 40 0 0 10))) rfl rfl ?_
  refine TT.steps (cd := cd160) 1 (c' := (52, [(2, 36), (2, 68)], [], (cpy2 (cpy2 (cpy2 (cpy2 (cpy2 (up2 (up2 (up2 σ 36 0 (σ 68 0)) 36 1 (σ 68 1)) 36 2 (σ 68 2)) 69 37 0 0 10) 70 38 0 0 10) 71 39 0 0 10) 72 40 0 0 10) 73 41 0 0 10))) rfl rfl ?_
  exact TT.ret (cd := cd160) rfl rfl rfl rfl (⟨rfl, CP_of (σ := σ) (q1 := 36) (q2 := 68) (by omega)⟩)
theorem v_copy_36_74 (X : AX) (σ : AH)  : TT X 160 (0, [(2, 36), (2, 74)], [], σ) (fun r σ' => r = none ∧ CP σ σ' 36 74) := by
  refine TT.steps (cd := cd160) 7 (c' := (7, [(2, 36), (2, 74)], [(0, ((up2 σ 36 0 (σ 74 0)) 74 1)), (2, 36)], (up2 σ 36 0 (σ 74 0)))) rfl rfl ?_
  refine TT.top0 (z := (σ 74 1)) (up2_far (k := 36) (k' := 74) _ _ _ _ (by decide)) ?_
  refine TT.steps (cd := cd160) 4 (c' := (11, [(2, 36), (2, 74)], [(0, ((up2 (up2 σ 36 0 (σ 74 0)) 36 1 (σ 74 1)) 74 2)), (2, 36)], (up2 (up2 σ 36 0 (σ 74 0)) 36 1 (σ 74 1)))) rfl rfl ?_
  refine TT.top0 (z := (σ 74 2)) ((up2_far (k := 36) (k' := 74) _ _ _ _ (by decide)).trans (up2_far (k := 36) (k' := 74) _ _ _ _ (by decide))) ?_
  refine TT.steps (cd := cd160) 8 (c' := (19, [(2, 36), (2, 74)], [(0, 10), (0, 0), (2, 37), (0, 0), (2, 75)], (up2 (up2 (up2 σ 36 0 (σ 74 0)) 36 1 (σ 74 1)) 36 2 (σ 74 2)))) rfl rfl ?_
  refine TT.steps (cd := cd160) 1 (c' := (20, [(2, 36), (2, 74)], [], (cpy2 (up2 (up2 (up2 σ 36 0 (σ 74 0)) 36 1 (σ 74 1)) 36 2 (σ 74 2)) 75 37 0 0 10))) rfl rfl ?_
  refine TT.steps (cd := cd160) 7 (c' := (27, [(2, 36), (2, 74)], [(0, 10), (0, 0), (2, 38), (0, 0), (2, 76)], (cpy2 (up2 (up2 (up2 σ 36 0 (σ 74 0)) 36 1 (σ 74 1)) 36 2 (σ 74 2)) 75 37 0 0 10))) rfl rfl ?_
  refine TT.steps (cd := cd160) 1 (c' := (28, [(2, 36), (2, 74)], [], (cpy2 (cpy2 (up2 (up2 (up2 σ 36 0 (σ 74 0)) 36 1 (σ 74 1)) 36 2 (σ 74 2)) 75 37 0 0 10) 76 38 0 0 10))) rfl rfl ?_
  refine TT.steps (cd := cd160) 7 (c' := (35, [(2, 36), (2, 74)], [(0, 10), (0, 0), (2, 39), (0, 0), (2, 77)], (cpy2 (cpy2 (up2 (up2 (up2 σ 36 0 (σ 74 0)) 36 1 (σ 74 1)) 36 2 (σ 74 2)) 75 37 0 0 10) 76 38 0 0 10))) rfl rfl ?_
  refine TT.steps (cd := cd160) 1 (c' := (36, [(2, 36), (2, 74)], [], (cpy2 (cpy2 (cpy2 (up2 (up2 (up2 σ 36 0 (σ 74 0)) 36 1 (σ 74 1)) 36 2 (σ 74 2)) 75 37 0 0 10) 76 38 0 0 10) 77 39 0 0 10))) rfl rfl ?_
  refine TT.steps (cd := cd160) 7 (c' := (43, [(2, 36), (2, 74)], [(0, 10), (0, 0), (2, 40), (0, 0), (2, 78)], (cpy2 (cpy2 (cpy2 (up2 (up2 (up2 σ 36 0 (σ 74 0)) 36 1 (σ 74 1)) 36 2 (σ 74 2)) 75 37 0 0 10) 76 38 0 0 10) 77 39 0 0 10))) rfl rfl ?_
  refine TT.steps (cd := cd160) 1 (c' := (44, [(2, 36), (2, 74)], [], (cpy2 (cpy2 (cpy2 (cpy2 (up2 (up2 (up2 σ 36 0 (σ 74 0)) 36 1 (σ 74 1)) 36 2 (σ 74 2)) 75 37 0 0 10) 76 38 0 0 10) 77 39 0 0 10) 78 40 0 0 10))) rfl rfl ?_
  refine TT.steps (cd := cd160) 7 (c' := (51, [(2, 36), (2, 74)], [(0, 10), (0, 0), (2, 41), (0, 0), (2, 79)], (cpy2 (cpy2 (cpy2 (cpy2 (up2 (up2 (up2 σ 36 0 (σ 74 0)) 36 1 (σ 74 1)) 36 2 (σ 74 2)) 75 37 0 0 10) 76 38 0 0 10) 77 39 0 0 10) 78 40 0 0 10))) rfl rfl ?_
  refine TT.steps (cd := cd160) 1 (c' := (52, [(2, 36), (2, 74)], [], (cpy2 (cpy2 (cpy2 (cpy2 (cpy2 (up2 (up2 (up2 σ 36 0 (σ 74 0)) 36 1 (σ 74 1)) 36 2 (σ 74 2)) 75 37 0 0 10) 76 38 0 0 10) 77 39 0 0 10) 78 40 0 0 10) 79 41 0 0 10))) rfl rfl ?_
  exact TT.ret (cd := cd160) rfl rfl rfl rfl (⟨rfl, CP_of (σ := σ) (q1 := 36) (q2 := 74) (by omega)⟩)
theorem v_copy_36_80 (X : AX) (σ : AH)  : TT X 160 (0, [(2, 36), (2, 80)], [], σ) (fun r σ' => r = none ∧ CP σ σ' 36 80) := by
  refine TT.steps (cd := cd160) 7 (c' := (7, [(2, 36), (2, 80)], [(0, ((up2 σ 36 0 (σ 80 0)) 80 1)), (2, 36)], (up2 σ 36 0 (σ 80 0)))) rfl rfl ?_
  refine TT.top0 (z := (σ 80 1)) (up2_far (k := 36) (k' := 80) _ _ _ _ (by decide)) ?_
  refine TT.steps (cd := cd160) 4 (c' := (11, [(2, 36), (2, 80)], [(0, ((up2 (up2 σ 36 0 (σ 80 0)) 36 1 (σ 80 1)) 80 2)), (2, 36)], (up2 (up2 σ 36 0 (σ 80 0)) 36 1 (σ 80 1)))) rfl rfl ?_
  refine TT.top0 (z := (σ 80 2)) ((up2_far (k := 36) (k' := 80) _ _ _ _ (by decide)).trans (up2_far (k := 36) (k' := 80) _ _ _ _ (by decide))) ?_
  refine TT.steps (cd := cd160) 8 (c' := (19, [(2, 36), (2, 80)], [(0, 10), (0, 0), (2, 37), (0, 0), (2, 81)], (up2 (up2 (up2 σ 36 0 (σ 80 0)) 36 1 (σ 80 1)) 36 2 (σ 80 2)))) rfl rfl ?_
  refine TT.steps (cd := cd160) 1 (c' := (20, [(2, 36), (2, 80)], [], (cpy2 (up2 (up2 (up2 σ 36 0 (σ 80 0)) 36 1 (σ 80 1)) 36 2 (σ 80 2)) 81 37 0 0 10))) rfl rfl ?_
  refine TT.steps (cd := cd160) 7 (c' := (27, [(2, 36), (2, 80)], [(0, 10), (0, 0), (2, 38), (0, 0), (2, 82)], (cpy2 (up2 (up2 (up2 σ 36 0 (σ 80 0)) 36 1 (σ 80 1)) 36 2 (σ 80 2)) 81 37 0 0 10))) rfl rfl ?_
  refine TT.steps (cd := cd160) 1 (c' := (28, [(2, 36), (2, 80)], [], (cpy2 (cpy2 (up2 (up2 (up2 σ 36 0 (σ 80 0)) 36 1 (σ 80 1)) 36 2 (σ 80 2)) 81 37 0 0 10) 82 38 0 0 10))) rfl rfl ?_
  refine TT.steps (cd := cd160) 7 (c' := (35, [(2, 36), (2, 80)], [(0, 10), (0, 0), (2, 39), (0, 0), (2, 83)], (cpy2 (cpy2 (up2 (up2 (up2 σ 36 0 (σ 80 0)) 36 1 (σ 80 1)) 36 2 (σ 80 2)) 81 37 0 0 10) 82 38 0 0 10))) rfl rfl ?_
  refine TT.steps (cd := cd160) 1 (c' := (36, [(2, 36), (2, 80)], [], (cpy2 (cpy2 (cpy2 (up2 (up2 (up2 σ 36 0 (σ 80 0)) 36 1 (σ 80 1)) 36 2 (σ 80 2)) 81 37 0 0 10) 82 38 0 0 10) 83 39 0 0 10))) rfl rfl ?_
  refine TT.steps (cd := cd160) 7 (c' := (43, [(2, 36), (2, 80)], [(0, 10), (0, 0), (2, 40), (0, 0), (2, 84)], (cpy2 (cpy2 (cpy2 (up2 (up2 (up2 σ 36 0 (σ 80 0)) 36 1 (σ 80 1)) 36 2 (σ 80 2)) 81 37 0 0 10) 82 38 0 0 10) 83 39 0 0 10))) rfl rfl ?_
  refine TT.steps (cd := cd160) 1 (c' := (44, [(2, 36), (2, 80)], [], (cpy2 (cpy2 (cpy2 (cpy2 (up2 (up2 (up2 σ 36 0 (σ 80 0)) 36 1 (σ 80 1)) 36 2 (σ 80 2)) 81 37 0 0 10) 82 38 0 0 10) 83 39 0 0 10) 84 40 0 0 10))) rfl rfl ?_
  refine TT.steps (cd := cd160) 7 (c' := (51, [(2, 36), (2, 80)], [(0, 10), (0, 0), (2, 41), (0, 0), (2, 85)], (cpy2 (cpy2 (cpy2 (cpy2 (up2 (up2 (up2 σ 36 0 (σ 80 0)) 36 1 (σ 80 1)) 36 2 (σ 80 2)) 81 37 0 0 10) 82 38 0 0 10) 83 39 0 0 10) 84 40 0 0 10))) rfl rfl ?_
  refine TT.steps (cd := cd160) 1 (c' := (52, [(2, 36), (2, 80)], [], (cpy2 (cpy2 (cpy2 (cpy2 (cpy2 (up2 (up2 (up2 σ 36 0 (σ 80 0)) 36 1 (σ 80 1)) 36 2 (σ 80 2)) 81 37 0 0 10) 82 38 0 0 10) 83 39 0 0 10) 84 40 0 0 10) 85 41 0 0 10))) rfl rfl ?_
  exact TT.ret (cd := cd160) rfl rfl rfl rfl (⟨rfl, CP_of (σ := σ) (q1 := 36) (q2 := 80) (by omega)⟩)
theorem v_copy_36_86 (X : AX) (σ : AH)  : TT X 160 (0, [(2, 36), (2, 86)], [], σ) (fun r σ' => r = none ∧ CP σ σ' 36 86) := by
  refine TT.steps (cd := cd160) 7 (c' := (7, [(2, 36), (2, 86)], [(0, ((up2 σ 36 0 (σ 86 0)) 86 1)), (2, 36)], (up2 σ 36 0 (σ 86 0)))) rfl rfl ?_
  refine TT.top0 (z := (σ 86 1)) (up2_far (k := 36) (k' := 86) _ _ _ _ (by decide)) ?_
  refine TT.steps (cd := cd160) 4 (c' := (11, [(2, 36), (2, 86)], [(0, ((up2 (up2 σ 36 0 (σ 86 0)) 36 1 (σ 86 1)) 86 2)), (2, 36)], (up2 (up2 σ 36 0 (σ 86 0)) 36 1 (σ 86 1)))) rfl rfl ?_
  refine TT.top0 (z := (σ 86 2)) ((up2_far (k := 36) (k' := 86) _ _ _ _ (by decide)).trans (up2_far (k := 36) (k' := 86) _ _ _ _ (by decide))) ?_
  refine TT.steps (cd := cd160) 8 (c' := (19, [(2, 36), (2, 86)], [(0, 10), (0, 0), (2, 37), (0, 0), (2, 87)], (up2 (up2 (up2 σ 36 0 (σ 86 0)) 36 1 (σ 86 1)) 36 2 (σ 86 2)))) rfl rfl ?_
  refine TT.steps (cd := cd160) 1 (c' := (20, [(2, 36), (2, 86)], [], (cpy2 (up2 (up2 (up2 σ 36 0 (σ 86 0)) 36 1 (σ 86 1)) 36 2 (σ 86 2)) 87 37 0 0 10))) rfl rfl ?_
  refine TT.steps (cd := cd160) 7 (c' := (27, [(2, 36), (2, 86)], [(0, 10), (0, 0), (2, 38), (0, 0), (2, 88)], (cpy2 (up2 (up2 (up2 σ 36 0 (σ 86 0)) 36 1 (σ 86 1)) 36 2 (σ 86 2)) 87 37 0 0 10))) rfl rfl ?_
  refine TT.steps (cd := cd160) 1 (c' := (28, [(2, 36), (2, 86)], [], (cpy2 (cpy2 (up2 (up2 (up2 σ 36 0 (σ 86 0)) 36 1 (σ 86 1)) 36 2 (σ 86 2)) 87 37 0 0 10) 88 38 0 0 10))) rfl rfl ?_
  refine TT.steps (cd := cd160) 7 (c' := (35, [(2, 36), (2, 86)], [(0, 10), (0, 0), (2, 39), (0, 0), (2, 89)], (cpy2 (cpy2 (up2 (up2 (up2 σ 36 0 (σ 86 0)) 36 1 (σ 86 1)) 36 2 (σ 86 2)) 87 37 0 0 10) 88 38 0 0 10))) rfl rfl ?_
  refine TT.steps (cd := cd160) 1 (c' := (36, [(2, 36), (2, 86)], [], (cpy2 (cpy2 (cpy2 (up2 (up2 (up2 σ 36 0 (σ 86 0)) 36 1 (σ 86 1)) 36 2 (σ 86 2)) 87 37 0 0 10) 88 38 0 0 10) 89 39 0 0 10))) rfl rfl ?_
  refine TT.steps (cd := cd160) 7 (c' := (43, [(2, 36), (2, 86)], [(0, 10), (0, 0), (2, 40), (0, 0), (2, 90)], (cpy2 (cpy2 (cpy2 (up2 (up2 (up2 σ 36 0 (σ 86 0)) 36 1 (σ 86 1)) 36 2 (σ 86 2)) 87 37 0 0 10) 88 38 0 0 10) 89 39 0 0 10))) rfl rfl ?_
  refine TT.steps (cd := cd160) 1 (c' := (44, [(2, 36), (2, 86)], [], (cpy2 (cpy2 (cpy2 (cpy2 (up2 (up2 (up2 σ 36 0 (σ 86 0)) 36 1 (σ 86 1)) 36 2 (σ 86 2)) 87 37 0 0 10) 88 38 0 0 10) 89 39 0 0 10) 90 40 0 0 10))) rfl rfl ?_
  refine TT.steps (cd := cd160) 7 (c' := (51, [(2, 36), (2, 86)], [(0, 10), (0, 0), (2, 41), (0, 0), (2, 91)], (cpy2 (cpy2 (cpy2 (cpy2 (up2 (up2 (up2 σ 36 0 (σ 86 0)) 36 1 (σ 86 1)) 36 2 (σ 86 2)) 87 37 0 0 10) 88 38 0 0 10) 89 39 0 0 10) 90 40 0 0 10))) rfl rfl ?_
  refine TT.steps (cd := cd160) 1 (c' := (52, [(2, 36), (2, 86)], [], (cpy2 (cpy2 (cpy2 (cpy2 (cpy2 (up2 (up2 (up2 σ 36 0 (σ 86 0)) 36 1 (σ 86 1)) 36 2 (σ 86 2)) 87 37 0 0 10) 88 38 0 0 10) 89 39 0 0 10) 90 40 0 0 10) 91 41 0 0 10))) rfl rfl ?_
  exact TT.ret (cd := cd160) rfl rfl rfl rfl (⟨rfl, CP_of (σ := σ) (q1 := 36) (q2 := 86) (by omega)⟩)
theorem v_copy_36_92 (X : AX) (σ : AH)  : TT X 160 (0, [(2, 36), (2, 92)], [], σ) (fun r σ' => r = none ∧ CP σ σ' 36 92) := by
  refine TT.steps (cd := cd160) 7 (c' := (7, [(2, 36), (2, 92)], [(0, ((up2 σ 36 0 (σ 92 0)) 92 1)), (2, 36)], (up2 σ 36 0 (σ 92 0)))) rfl rfl ?_
  refine TT.top0 (z := (σ 92 1)) (up2_far (k := 36) (k' := 92) _ _ _ _ (by decide)) ?_
  refine TT.steps (cd := cd160) 4 (c' := (11, [(2, 36), (2, 92)], [(0, ((up2 (up2 σ 36 0 (σ 92 0)) 36 1 (σ 92 1)) 92 2)), (2, 36)], (up2 (up2 σ 36 0 (σ 92 0)) 36 1 (σ 92 1)))) rfl rfl ?_
  refine TT.top0 (z := (σ 92 2)) ((up2_far (k := 36) (k' := 92) _ _ _ _ (by decide)).trans (up2_far (k := 36) (k' := 92) _ _ _ _ (by decide))) ?_
  refine TT.steps (cd := cd160) 8 (c' := (19, [(2, 36), (2, 92)], [(0, 10), (0, 0), (2, 37), (0, 0), (2, 93)], (up2 (up2 (up2 σ 36 0 (σ 92 0)) 36 1 (σ 92 1)) 36 2 (σ 92 2)))) rfl rfl ?_
  refine TT.steps (cd := cd160) 1 (c' := (20, [(2, 36), (2, 92)], [], (cpy2 (up2 (up2 (up2 σ 36 0 (σ 92 0)) 36 1 (σ 92 1)) 36 2 (σ 92 2)) 93 37 0 0 10))) rfl rfl ?_
  refine TT.steps (cd := cd160) 7 (c' := (27, [(2, 36), (2, 92)], [(0, 10), (0, 0), (2, 38), (0, 0), (2, 94)], (cpy2 (up2 (up2 (up2 σ 36 0 (σ 92 0)) 36 1 (σ 92 1)) 36 2 (σ 92 2)) 93 37 0 0 10))) rfl rfl ?_
  refine TT.steps (cd := cd160) 1 (c' := (28, [(2, 36), (2, 92)], [], (cpy2 (cpy2 (up2 (up2 (up2 σ 36 0 (σ 92 0)) 36 1 (σ 92 1)) 36 2 (σ 92 2)) 93 37 0 0 10) 94 38 0 0 10))) rfl rfl ?_
  refine TT.steps (cd := cd160) 7 (c' := (35, [(2, 36), (2, 92)], [(0, 10), (0, 0), (2, 39), (0, 0), (2, 95)], (cpy2 (cpy2 (up2 (up2 (up2 σ 36 0 (σ 92 0)) 36 1 (σ 92 1)) 36 2 (σ 92 2)) 93 37 0 0 10) 94 38 0 0 10))) rfl rfl ?_
  refine TT.steps (cd := cd160) 1 (c' := (36, [(2, 36), (2, 92)], [], (cpy2 (cpy2 (cpy2 (up2 (up2 (up2 σ 36 0 (σ 92 0)) 36 1 (σ 92 1)) 36 2 (σ 92 2)) 93 37 0 0 10) 94 38 0 0 10) 95 39 0 0 10))) rfl rfl ?_
  refine TT.steps (cd := cd160) 7 (c' := (43, [(2, 36), (2, 92)], [(0, 10), (0, 0), (2, 40), (0, 0), (2, 96)], (cpy2 (cpy2 (cpy2 (up2 (up2 (up2 σ 36 0 (σ 92 0)) 36 1 (σ 92 1)) 36 2 (σ 92 2)) 93 37 0 0 10) 94 38 0 0 10) 95 39 0 0 10))) rfl rfl ?_
  refine TT.steps (cd := cd160) 1 (c' := (44, [(2, 36), (2, 92)], [], (cpy2 (cpy2 (cpy2 (cpy2 (up2 (up2 (up2 σ 36 0 (σ 92 0)) 36 1 (σ 92 1)) 36 2 (σ 92 2)) 93 37 0 0 10) 94 38 0 0 10) 95 39 0 0 10) 96 40 0 0 10))) rfl rfl ?_
  refine TT.steps (cd := cd160) 7 (c' := (51, [(2, 36), (2, 92)], [(0, 10), (0, 0), (2, 41), (0, 0), (2, 97)], (cpy2 (cpy2 (cpy2 (cpy2 (up2 (up2 (up2 σ 36 0 (σ 92 0)) 36 1 (σ 92 1)) 36 2 (σ 92 2)) 93 37 0 0 10) 94 38 0 0 10) 95 39 0 0 10) 96 40 0 0 10))) rfl rfl ?_
  refine TT.steps (cd := cd160) 1 (c' := (52, [(2, 36), (2, 92)], [], (cpy2 (cpy2 (cpy2 (cpy2 (cpy2 (up2 (up2 (up2 σ 36 0 (σ 92 0)) 36 1 (σ 92 1)) 36 2 (σ 92 2)) 93 37 0 0 10) 94 38 0 0 10) 95 39 0 0 10) 96 40 0 0 10) 97 41 0 0 10))) rfl rfl ?_
  exact TT.ret (cd := cd160) rfl rfl rfl rfl (⟨rfl, CP_of (σ := σ) (q1 := 36) (q2 := 92) (by omega)⟩)
theorem v_copy_36_98 (X : AX) (σ : AH)  : TT X 160 (0, [(2, 36), (2, 98)], [], σ) (fun r σ' => r = none ∧ CP σ σ' 36 98) := by
  refine TT.steps (cd := cd160) 7 (c' := (7, [(2, 36), (2, 98)], [(0, ((up2 σ 36 0 (σ 98 0)) 98 1)), (2, 36)], (up2 σ 36 0 (σ 98 0)))) rfl rfl ?_
  refine TT.top0 (z := (σ 98 1)) (up2_far (k := 36) (k' := 98) _ _ _ _ (by decide)) ?_
  refine TT.steps (cd := cd160) 4 (c' := (11, [(2, 36), (2, 98)], [(0, ((up2 (up2 σ 36 0 (σ 98 0)) 36 1 (σ 98 1)) 98 2)), (2, 36)], (up2 (up2 σ 36 0 (σ 98 0)) 36 1 (σ 98 1)))) rfl rfl ?_
  refine TT.top0 (z := (σ 98 2)) ((up2_far (k := 36) (k' := 98) _ _ _ _ (by decide)).trans (up2_far (k := 36) (k' := 98) _ _ _ _ (by decide))) ?_
  refine TT.steps (cd := cd160) 8 (c' := (19, [(2, 36), (2, 98)], [(0, 10), (0, 0), (2, 37), (0, 0), (2, 99)], (up2 (up2 (up2 σ 36 0 (σ 98 0)) 36 1 (σ 98 1)) 36 2 (σ 98 2)))) rfl rfl ?_
  refine TT.steps (cd := cd160) 1 (c' := (20, [(2, 36), (2, 98)], [], (cpy2 (up2 (up2 (up2 σ 36 0 (σ 98 0)) 36 1 (σ 98 1)) 36 2 (σ 98 2)) 99 37 0 0 10))) rfl rfl ?_
  refine TT.steps (cd := cd160) 7 (c' := (27, [(2, 36), (2, 98)], [(0, 10), (0, 0), (2, 38), (0, 0), (2, 100)], (cpy2 (up2 (up2 (up2 σ 36 0 (σ 98 0)) 36 1 (σ 98 1)) 36 2 (σ 98 2)) 99 37 0 0 10))) rfl rfl ?_
  refine TT.steps (cd := cd160) 1 (c' := (28, [(2, 36), (2, 98)], [], (cpy2 (cpy2 (up2 (up2 (up2 σ 36 0 (σ 98 0)) 36 1 (σ 98 1)) 36 2 (σ 98 2)) 99 37 0 0 10) 100 38 0 0 10))) rfl rfl ?_
  refine TT.steps (cd := cd160) 7 (c' := (35, [(2, 36), (2, 98)], [(0, 10), (0, 0), (2, 39), (0, 0), (2, 101)], (cpy2 (cpy2 (up2 (up2 (up2 σ 36 0 (σ 98 0)) 36 1 (σ 98 1)) 36 2 (σ 98 2)) 99 37 0 0 10) 100 38 0 0 10))) rfl rfl ?_
  refine TT.steps (cd := cd160) 1 (c' := (36, [(2, 36), (2, 98)], [], (cpy2 (cpy2 (cpy2 (up2 (up2 (up2 σ 36 0 (σ 98 0)) 36 1 (σ 98 1)) 36 2 (σ 98 2)) 99 37 0 0 10) 100 38 0 0 10) 101 39 0 0 10))) rfl rfl ?_
  refine TT.steps (cd := cd160) 7 (c' := (43, [(2, 36), (2, 98)], [(0, 10), (0, 0), (2, 40), (0, 0), (2, 102)], (cpy2 (cpy2 (cpy2 (up2 (up2 (up2 σ 36 0 (σ 98 0)) 36 1 (σ 98 1)) 36 2 (σ 98 2)) 99 37 0 0 10) 100 38 0 0 10) 101 39 0 0 10))) rfl rfl ?_
  refine TT.steps (cd := cd160) 1 (c' := (44, [(2, 36), (2, 98)], [], (cpy2 (cpy2 (cpy2 (cpy2 (up2 (up2 (up2 σ 36 0 (σ 98 0)) 36 1 (σ 98 1)) 36 2 (σ 98 2)) 99 37 0 0 10) 100 38 0 0 10) 101 39 0 0 10) 102 40 0 0 10))) rfl rfl ?_
  refine TT.steps (cd := cd160) 7 (c' := (51, [(2, 36), (2, 98)], [(0, 10), (0, 0), (2, 41), (0, 0), (2, 103)], (cpy2 (cpy2 (cpy2 (cpy2 (up2 (up2 (up2 σ 36 0 (σ 98 0)) 36 1 (σ 98 1)) 36 2 (σ 98 2)) 99 37 0 0 10) 100 38 0 0 10) 101 39 0 0 10) 102 40 0 0 10))) rfl rfl ?_
  refine TT.steps (cd := cd160) 1 (c' := (52, [(2, 36), (2, 98)], [], (cpy2 (cpy2 (cpy2 (cpy2 (cpy2 (up2 (up2 (up2 σ 36 0 (σ 98 0)) 36 1 (σ 98 1)) 36 2 (σ 98 2)) 99 37 0 0 10) 100 38 0 0 10) 101 39 0 0 10) 102 40 0 0 10) 103 41 0 0 10))) rfl rfl ?_
  exact TT.ret (cd := cd160) rfl rfl rfl rfl (⟨rfl, CP_of (σ := σ) (q1 := 36) (q2 := 98) (by omega)⟩)
theorem v_copy_36_104 (X : AX) (σ : AH)  : TT X 160 (0, [(2, 36), (2, 104)], [], σ) (fun r σ' => r = none ∧ CP σ σ' 36 104) := by
  refine TT.steps (cd := cd160) 7 (c' := (7, [(2, 36), (2, 104)], [(0, ((up2 σ 36 0 (σ 104 0)) 104 1)), (2, 36)], (up2 σ 36 0 (σ 104 0)))) rfl rfl ?_
  refine TT.top0 (z := (σ 104 1)) (up2_far (k := 36) (k' := 104) _ _ _ _ (by decide)) ?_
  refine TT.steps (cd := cd160) 4 (c' := (11, [(2, 36), (2, 104)], [(0, ((up2 (up2 σ 36 0 (σ 104 0)) 36 1 (σ 104 1)) 104 2)), (2, 36)], (up2 (up2 σ 36 0 (σ 104 0)) 36 1 (σ 104 1)))) rfl rfl ?_
  refine TT.top0 (z := (σ 104 2)) ((up2_far (k := 36) (k' := 104) _ _ _ _ (by decide)).trans (up2_far (k := 36) (k' := 104) _ _ _ _ (by decide))) ?_
  refine TT.steps (cd := cd160) 8 (c' := (19, [(2, 36), (2, 104)], [(0, 10), (0, 0), (2, 37), (0, 0), (2, 105)], (up2 (up2 (up2 σ 36 0 (σ 104 0)) 36 1 (σ 104 1)) 36 2 (σ 104 2)))) rfl rfl ?_
  refine TT.steps (cd := cd160) 1 (c' := (20, [(2, 36), (2, 104)], [], (cpy2 (up2 (up2 (up2 σ 36 0 (σ 104 0)) 36 1 (σ 104 1)) 36 2 (σ 104 2)) 105 37 0 0 10))) rfl rfl ?_
  refine TT.steps (cd := cd160) 7 (c' := (27, [(2, 36), (2, 104)], [(0, 10), (0, 0), (2, 38), (0, 0), (2, 106)], (cpy2 (up2 (up2 (up2 σ 36 0 (σ 104 0)) 36 1 (σ 104 1)) 36 2 (σ 104 2)) 105 37 0 0 10))) rfl rfl ?_
  refine TT.steps (cd := cd160) 1 (c' := (28, [(2, 36), (2, 104)], [], (cpy2 (cpy2 (up2 (up2 (up2 σ 36 0 (σ 104 0)) 36 1 (σ 104 1)) 36 2 (σ 104 2)) 105 37 0 0 10) 106 38 0 0 10))) rfl rfl ?_
  refine TT.steps (cd := cd160) 7 (c' := (35, [(2, 36), (2, 104)], [(0, 10), (0, 0), (2, 39), (0, 0), (2, 107)], (cpy2 (cpy2 (up2 (up2 (up2 σ 36 0 (σ 104 0)) 36 1 (σ 104 1)) 36 2 (σ 104 2)) 105 37 0 0 10) 106 38 0 0 10))) rfl rfl ?_
  refine TT.steps (cd := cd160) 1 (c' := (36, [(2, 36), (2, 104)], [], (cpy2 (cpy2 (cpy2 (up2 (up2 (up2 σ 36 0 (σ 104 0)) 36 1 (σ 104 1)) 36 2 (σ 104 2)) 105 37 0 0 10) 106 38 0 0 10) 107 39 0 0 10))) rfl rfl ?_
  refine TT.steps (cd := cd160) 7 (c' := (43, [(2, 36), (2, 104)], [(0, 10), (0, 0), (2, 40), (0, 0), (2, 108)], (cpy2 (cpy2 (cpy2 (up2 (up2 (up2 σ 36 0 (σ 104 0)) 36 1 (σ 104 1)) 36 2 (σ 104 2)) 105 37 0 0 10) 106 38 0 0 10) 107 39 0 0 10))) rfl rfl ?_
  refine TT.steps (cd := cd160) 1 (c' := (44, [(2, 36), (2, 104)], [], (cpy2 (cpy2 (cpy2 (cpy2 (up2 (up2 (up2 σ 36 0 (σ 104 0)) 36 1 (σ 104 1)) 36 2 (σ 104 2)) 105 37 0 0 10) 106 38 0 0 10) 107 39 0 0 10) 108 40 0 0 10))) rfl rfl ?_
  refine TT.steps (cd := cd160) 7 (c' := (51, [(2, 36), (2, 104)], [(0, 10), (0, 0), (2, 41), (0, 0), (2, 109)], (cpy2 (cpy2 (cpy2 (cpy2 (up2 (up2 (up2 σ 36 0 (σ 104 0)) 36 1 (σ 104 1)) 36 2 (σ 104 2)) 105 37 0 0 10) 106 38 0 0 10) 107 39 0 0 10) 108 40 0 0 10))) rfl rfl ?_
  refine TT.steps (cd := cd160) 1 (c' := (52, [(2, 36), (2, 104)], [], (cpy2 (cpy2 (cpy2 (cpy2 (cpy2 (up2 (up2 (up2 σ 36 0 (σ 104 0)) 36 1 (σ 104 1)) 36 2 (σ 104 2)) 105 37 0 0 10) 106 38 0 0 10) 107 39 0 0 10) 108 40 0 0 10) 109 41 0 0 10))) rfl rfl ?_
  exact TT.ret (cd := cd160) rfl rfl rfl rfl (⟨rfl, CP_of (σ := σ) (q1 := 36) (q2 := 104) (by omega)⟩)
theorem v_copy_36_110 (X : AX) (σ : AH)  : TT X 160 (0, [(2, 36), (2, 110)], [], σ) (fun r σ' => r = none ∧ CP σ σ' 36 110) := by
  refine TT.steps (cd := cd160) 7 (c' := (7, [(2, 36), (2, 110)], [(0, ((up2 σ 36 0 (σ 110 0)) 110 1)), (2, 36)], (up2 σ 36 0 (σ 110 0)))) rfl rfl ?_
  refine TT.top0 (z := (σ 110 1)) (up2_far (k := 36) (k' := 110) _ _ _ _ (by decide)) ?_
  refine TT.steps (cd := cd160) 4 (c' := (11, [(2, 36), (2, 110)], [(0, ((up2 (up2 σ 36 0 (σ 110 0)) 36 1 (σ 110 1)) 110 2)), (2, 36)], (up2 (up2 σ 36 0 (σ 110 0)) 36 1 (σ 110 1)))) rfl rfl ?_
  refine TT.top0 (z := (σ 110 2)) ((up2_far (k := 36) (k' := 110) _ _ _ _ (by decide)).trans (up2_far (k := 36) (k' := 110) _ _ _ _ (by decide))) ?_
  refine TT.steps (cd := cd160) 8 (c' := (19, [(2, 36), (2, 110)], [(0, 10), (0, 0), (2, 37), (0, 0), (2, 111)], (up2 (up2 (up2 σ 36 0 (σ 110 0)) 36 1 (σ 110 1)) 36 2 (σ 110 2)))) rfl rfl ?_
  refine TT.steps (cd := cd160) 1 (c' := (20, [(2, 36), (2, 110)], [], (cpy2 (up2 (up2 (up2 σ 36 0 (σ 110 0)) 36 1 (σ 110 1)) 36 2 (σ 110 2)) 111 37 0 0 10))) rfl rfl ?_
  refine TT.steps (cd := cd160) 7 (c' := (27, [(2, 36), (2, 110)], [(0, 10), (0, 0), (2, 38), (0, 0), (2, 112)], (cpy2 (up2 (up2 (up2 σ 36 0 (σ 110 0)) 36 1 (σ 110 1)) 36 2 (σ 110 2)) 111 37 0 0 10))) rfl rfl ?_
  refine TT.steps (cd := cd160) 1 (c' := (28, [(2, 36), (2, 110)], [], (cpy2 (cpy2 (up2 (up2 (up2 σ 36 0 (σ 110 0)) 36 1 (σ 110 1)) 36 2 (σ 110 2)) 111 37 0 0 10) 112 38 0 0 10))) rfl rfl ?_
  refine TT.steps (cd := cd160) 7 (c' := (35, [(2, 36), (2, 110)], [(0, 10), (0, 0), (2, 39), (0, 0), (2, 113)], (cpy2 (cpy2 (up2 (up2 (up2 σ 36 0 (σ 110 0)) 36 1 (σ 110 1)) 36 2 (σ 110 2)) 111 37 0 0 10) 112 38 0 0 10))) rfl rfl ?_
  refine TT.steps (cd := cd160) 1 (c' := (36, [(2, 36), (2, 110)], [], (cpy2 (cpy2 (cpy2 (up2 (up2 (up2 σ 36 0 (σ 110 0)) 36 1 (σ 110 1)) 36 2 (σ 110 2)) 111 37 0 0 10) 112 38 0 0 10) 113 39 0 0 10))) rfl rfl ?_
  refine TT.steps (cd := cd160) 7 (c' := (43, [(2, 36), (2, 110)], [(0, 10), (0, 0), (2, 40), (0, 0), (2, 114)], (cpy2 (cpy2 (cpy2 (up2 (up2 (up2 σ 36 0 (σ 110 0)) 36 1 (σ 110 1)) 36 2 (σ 110 2)) 111 37 0 0 10) 112 38 0 0 10) 113 39 0 0 10))) rfl rfl ?_
  refine TT.steps (cd := cd160) 1 (c' := (44, [(2, 36), (2, 110)], [], (cpy2 (cpy2 (cpy2 (cpy2 (up2 (up2 (up2 σ 36 0 (σ 110 0)) 36 1 (σ 110 1)) 36 2 (σ 110 2)) 111 37 0 0 10) 112 38 0 0 10) 113 39 0 0 10) 114 40 0 0 10))) rfl rfl ?_
  refine TT.steps (cd := cd160) 7 (c' := (51, [(2, 36), (2, 110)], [(0, 10), (0, 0), (2, 41), (0, 0), (2, 115)], (cpy2 (cpy2 (cpy2 (cpy2 (up2 (up2 (up2 σ 36 0 (σ 110 0)) 36 1 (σ 110 1)) 36 2 (σ 110 2)) 111 37 0 0 10) 112 38 0 0 10) 113 39 0 0 10) 114 40 0 0 10))) rfl rfl ?_
  refine TT.steps (cd := cd160) 1 (c' := (52, [(2, 36), (2, 110)], [], (cpy2 (cpy2 (cpy2 (cpy2 (cpy2 (up2 (up2 (up2 σ 36 0 (σ 110 0)) 36 1 (σ 110 1)) 36 2 (σ 110 2)) 111 37 0 0 10) 112 38 0 0 10) 113 39 0 0 10) 114 40 0 0 10) 115 41 0 0 10))) rfl rfl ?_
  exact TT.ret (cd := cd160) rfl rfl rfl rfl (⟨rfl, CP_of (σ := σ) (q1 := 36) (q2 := 110) (by omega)⟩)
theorem v_copy_36_116 (X : AX) (σ : AH)  : TT X 160 (0, [(2, 36), (2, 116)], [], σ) (fun r σ' => r = none ∧ CP σ σ' 36 116) := by
  refine TT.steps (cd := cd160) 7 (c' := (7, [(2, 36), (2, 116)], [(0, ((up2 σ 36 0 (σ 116 0)) 116 1)), (2, 36)], (up2 σ 36 0 (σ 116 0)))) rfl rfl ?_
  refine TT.top0 (z := (σ 116 1)) (up2_far (k := 36) (k' := 116) _ _ _ _ (by decide)) ?_
  refine TT.steps (cd := cd160) 4 (c' := (11, [(2, 36), (2, 116)], [(0, ((up2 (up2 σ 36 0 (σ 116 0)) 36 1 (σ 116 1)) 116 2)), (2, 36)], (up2 (up2 σ 36 0 (σ 116 0)) 36 1 (σ 116 1)))) rfl rfl ?_
  refine TT.top0 (z := (σ 116 2)) ((up2_far (k := 36) (k' := 116) _ _ _ _ (by decide)).trans (up2_far (k := 36) (k' := 116) _ _ _ _ (by decide))) ?_
  refine TT.steps (cd := cd160) 8 (c' := (19, [(2, 36), (2, 116)], [(0, 10), (0, 0), (2, 37), (0, 0), (2, 117)], (up2 (up2 (up2 σ 36 0 (σ 116 0)) 36 1 (σ 116 1)) 36 2 (σ 116 2)))) rfl rfl ?_
  refine TT.steps (cd := cd160) 1 (c' := (20, [(2, 36), (2, 116)], [], (cpy2 (up2 (up2 (up2 σ 36 0 (σ 116 0)) 36 1 (σ 116 1)) 36 2 (σ 116 2)) 117 37 0 0 10))) rfl rfl ?_
  refine TT.steps (cd := cd160) 7 (c' := (27, [(2, 36), (2, 116)], [(0, 10), (0, 0), (2, 38), (0, 0), (2, 118)], (cpy2 (up2 (up2 (up2 σ 36 0 (σ 116 0)) 36 1 (σ 116 1)) 36 2 (σ 116 2)) 117 37 0 0 10))) rfl rfl ?_
  refine TT.steps (cd := cd160) 1 (c' := (28, [(2, 36), (2, 116)], [], (cpy2 (cpy2 (up2 (up2 (up2 σ 36 0 (σ 116 0)) 36 1 (σ 116 1)) 36 2 (σ 116 2)) 117 37 0 0 10) 118 38 0 0 10))) rfl rfl ?_
  refine TT.steps (cd := cd160) 7 (c' := (35, [(2, 36), (2, 116)], [(0, 10), (0, 0), (2, 39), (0, 0), (2, 119)], (cpy2 (cpy2 (up2 (up2 (up2 σ 36 0 (σ 116 0)) 36 1 (σ 116 1)) 36 2 (σ 116 2)) 117 37 0 0 10) 118 38 0 0 10))) rfl rfl ?_
  refine TT.steps (cd := cd160) 1 (c' := (36, [(2, 36), (2, 116)], [], (cpy2 (cpy2 (cpy2 (up2 (up2 (up2 σ 36 0 (σ 116 0)) 36 1 (σ 116 1)) 36 2 (σ 116 2)) 117 37 0 0 10) 118 38 0 0 10) 119 39 0 0 10))) rfl rfl ?_
  refine TT.steps (cd := cd160) 7 (c' := (43, [(2, 36), (2, 116)], [(0, 10), (0, 0), (2, 40), (0, 0), (2, 120)], (cpy2 (cpy2 (cpy2 (up2 (up2 (up2 σ 36 0 (σ 116 0)) 36 1 (σ 116 1)) 36 2 (σ 116 2)) 117 37 0 0 10) 118 38 0 0 10) 119 39 0 0 10))) rfl rfl ?_
  refine TT.steps (cd := cd160) 1 (c' := (44, [(2, 36), (2, 116)], [], (cpy2 (cpy2 (cpy2 (cpy2 (up2 (up2 (up2 σ 36 0 (σ 116 0)) 36 1 (σ 116 1)) 36 2 (σ 116 2)) 117 37 0 0 10) 118 38 0 0 10) 119 39 0 0 10) 120 40 0 0 10))) rfl rfl ?_
  refine TT.steps (cd := cd160) 7 (c' := (51, [(2, 36), (2, 116)], [(0, 10), (0, 0), (2, 41), (0, 0), (2, 121)], (cpy2 (cpy2 (cpy2 (cpy2 (up2 (up2 (up2 σ 36 0 (σ 116 0)) 36 1 (σ 116 1)) 36 2 (σ 116 2)) 117 37 0 0 10) 118 38 0 0 10) 119 39 0 0 10) 120 40 0 0 10))) rfl rfl ?_
  refine TT.steps (cd := cd160) 1 (c' := (52, [(2, 36), (2, 116)], [], (cpy2 (cpy2 (cpy2 (cpy2 (cpy2 (up2 (up2 (up2 σ 36 0 (σ 116 0)) 36 1 (σ 116 1)) 36 2 (σ 116 2)) 117 37 0 0 10) 118 38 0 0 10) 119 39 0 0 10) 120 40 0 0 10) 121 41 0 0 10))) rfl rfl ?_
  exact TT.ret (cd := cd160) rfl rfl rfl rfl (⟨rfl, CP_of (σ := σ) (q1 := 36) (q2 := 116) (by omega)⟩)
theorem v_copy_36_122 (X : AX) (σ : AH)  : TT X 160 (0, [(2, 36), (2, 122)], [], σ) (fun r σ' => r = none ∧ CP σ σ' 36 122) := by
  refine TT.steps (cd := cd160) 7 (c' := (7, [(2, 36), (2, 122)], [(0, ((up2 σ 36 0 (σ 122 0)) 122 1)), (2, 36)], (up2 σ 36 0 (σ 122 0)))) rfl rfl ?_
  refine TT.top0 (z := (σ 122 1)) (up2_far (k := 36) (k' := 122) _ _ _ _ (by decide)) ?_
  refine TT.steps (cd := cd160) 4 (c' := (11, [(2, 36), (2, 122)], [(0, ((up2 (up2 σ 36 0 (σ 122 0)) 36 1 (σ 122 1)) 122 2)), (2, 36)], (up2 (up2 σ 36 0 (σ 122 0)) 36 1 (σ 122 1)))) rfl rfl ?_
  refine TT.top0 (z := (σ 122 2)) ((up2_far (k := 36) (k' := 122) _ _ _ _ (by decide)).trans (up2_far (k := 36) (k' := 122) _ _ _ _ (by decide))) ?_
  refine TT.steps (cd := cd160) 8 (c' := (19, [(2, 36), (2, 122)], [(0, 10), (0, 0), (2, 37), (0, 0), (2, 123)], (up2 (up2 (up2 σ 36 0 (σ 122 0)) 36 1 (σ 122 1)) 36 2 (σ 122 2)))) rfl rfl ?_
  refine TT.steps (cd := cd160) 1 (c' := (20, [(2, 36), (2, 122)], [], (cpy2 (up2 (up2 (up2 σ 36 0 (σ 122 0)) 36 1 (σ 122 1)) 36 2 (σ 122 2)) 123 37 0 0 10))) rfl rfl ?_
  refine TT.steps (cd := cd160) 7 (c' := (27, [(2, 36), (2, 122)], [(0, 10), (0, 0), (2, 38), (0, 0), (2, 124)], (cpy2 (up2 (up2 (up2 σ 36 0 (σ 122 0)) 36 1 (σ 122 1)) 36 2 (σ 122 2)) 123 37 0 0 10))) rfl rfl ?_
  refine TT.steps (cd := cd160) 1 (c' := (28, [(2, 36), (2, 122)], [], (cpy2 (cpy2 (up2 (up2 (up2 σ 36 0 (σ 122 0)) 36 1 (σ 122 1)) 36 2 (σ 122 2)) 123 37 0 0 10) 124 38 0 0 10))) rfl rfl ?_
  refine TT.steps (cd := cd160) 7 (c' := (35, [(2, 36), (2, 122)], [(0, 10), (0, 0), (2, 39), (0, 0), (2, 125)], (cpy2 (cpy2 (up2 (up2 (up2 σ 36 0 (σ 122 0)) 36 1 (σ 122 1)) 36 2 (σ 122 2)) 123 37 0 0 10) 124 38 0 0 10))) rfl rfl ?_
  refine TT.steps (cd := cd160) 1 (c' := (36, [(2, 36), (2, 122)], [], (cpy2 (cpy2 (cpy2 (up2 (up2 (up2 σ 36 0 (σ 122 0)) 36 1 (σ 122 1)) 36 2 (σ 122 2)) 123 37 0 0 10) 124 38 0 0 10) 125 39 0 0 10))) rfl rfl ?_
  refine TT.steps (cd := cd160) 7 (c' := (43, [(2, 36), (2, 122)], [(0, 10), (0, 0), (2, 40), (0, 0), (2, 126)], (cpy2 (cpy2 (cpy2 (up2 (up2 (up2 σ 36 0 (σ 122 0)) 36 1 (σ 122 1)) 36 2 (σ 122 2)) 123 37 0 0 10) 124 38 0 0 10) 125 39 0 0 10))) rfl rfl ?_
  refine TT.steps (cd := cd160) 1 (c' := (44, [(2, 36), (2, 122)], [], (cpy2 (cpy2 (cpy2 (cpy2 (up2 (up2 (up2 σ 36 0 (σ 122 0)) 36 1 (σ 122 1)) 36 2 (σ 122 2)) 123 37 0 0 10) 124 38 0 0 10) 125 39 0 0 10) 126 40 0 0 10))) rfl rfl ?_
  refine TT.steps (cd := cd160) 7 (c' := (51, [(2, 36), (2, 122)], [(0, 10), (0, 0), (2, 41), (0, 0), (2, 127)], (cpy2 (cpy2 (cpy2 (cpy2 (up2 (up2 (up2 σ 36 0 (σ 122 0)) 36 1 (σ 122 1)) 36 2 (σ 122 2)) 123 37 0 0 10) 124 38 0 0 10) 125 39 0 0 10) 126 40 0 0 10))) rfl rfl ?_
  refine TT.steps (cd := cd160) 1 (c' := (52, [(2, 36), (2, 122)], [], (cpy2 (cpy2 (cpy2 (cpy2 (cpy2 (up2 (up2 (up2 σ 36 0 (σ 122 0)) 36 1 (σ 122 1)) 36 2 (σ 122 2)) 123 37 0 0 10) 124 38 0 0 10) 125 39 0 0 10) 126 40 0 0 10) 127 41 0 0 10))) rfl rfl ?_
  exact TT.ret (cd := cd160) rfl rfl rfl rfl (⟨rfl, CP_of (σ := σ) (q1 := 36) (q2 := 122) (by omega)⟩)
theorem v_copy_36_128 (X : AX) (σ : AH)  : TT X 160 (0, [(2, 36), (2, 128)], [], σ) (fun r σ' => r = none ∧ CP σ σ' 36 128) := by
  refine TT.steps (cd := cd160) 7 (c' := (7, [(2, 36), (2, 128)], [(0, ((up2 σ 36 0 (σ 128 0)) 128 1)), (2, 36)], (up2 σ 36 0 (σ 128 0)))) rfl rfl ?_
  refine TT.top0 (z := (σ 128 1)) (up2_far (k := 36) (k' := 128) _ _ _ _ (by decide)) ?_
  refine TT.steps (cd := cd160) 4 (c' := (11, [(2, 36), (2, 128)], [(0, ((up2 (up2 σ 36 0 (σ 128 0)) 36 1 (σ 128 1)) 128 2)), (2, 36)], (up2 (up2 σ 36 0 (σ 128 0)) 36 1 (σ 128 1)))) rfl rfl ?_
  refine TT.top0 (z := (σ 128 2)) ((up2_far (k := 36) (k' := 128) _ _ _ _ (by decide)).trans (up2_far (k := 36) (k' := 128) _ _ _ _ (by decide))) ?_
  refine TT.steps (cd := cd160) 8 (c' := (19, [(2, 36), (2, 128)], [(0, 10), (0, 0), (2, 37), (0, 0), (2, 129)], (up2 (up2 (up2 σ 36 0 (σ 128 0)) 36 1 (σ 128 1)) 36 2 (σ 128 2)))) rfl rfl ?_
  refine TT.steps (cd := cd160) 1 (c' := (20, [(2, 36), (2, 128)], [], (cpy2 (up2 (up2 (up2 σ 36 0 (σ 128 0)) 36 1 (σ 128 1)) 36 2 (σ 128 2)) 129 37 0 0 10))) rfl rfl ?_
  refine TT.steps (cd := cd160) 7 (c' := (27, [(2, 36), (2, 128)], [(0, 10), (0, 0), (2, 38), (0, 0), (2, 130)], (cpy2 (up2 (up2 (up2 σ 36 0 (σ 128 0)) 36 1 (σ 128 1)) 36 2 (σ 128 2)) 129 37 0 0 10))) rfl rfl ?_
  refine TT.steps (cd := cd160) 1 (c' := (28, [(2, 36), (2, 128)], [], (cpy2 (cpy2 (up2 (up2 (up2 σ 36 0 (σ 128 0)) 36 1 (σ 128 1)) 36 2 (σ 128 2)) 129 37 0 0 10) 130 38 0 0 10))) rfl rfl ?_
  refine TT.steps (cd := cd160) 7 (c' := (35, [(2, 36), (2, 128)], [(0, 10), (0, 0), (2, 39), (0, 0), (2, 131)], (cpy2 (cpy2 (up2 (up2 (up2 σ 36 0 (σ 128 0)) 36 1 (σ 128 1)) 36 2 (σ 128 2)) 129 37 0 0 10) 130 38 0 0 10))) rfl rfl ?_
  refine TT.steps (cd := cd160) 1 (c' := (36, [(2, 36), (2, 128)], [], (cpy2 (cpy2 (cpy2 (up2 (up2 (up2 σ 36 0 (σ 128 0)) 36 1 (σ 128 1)) 36 2 (σ 128 2)) 129 37 0 0 10) 130 38 0 0 10) 131 39 0 0 10))) rfl rfl ?_
  refine TT.steps (cd := cd160) 7 (c' := (43, [(2, 36), (2, 128)], [(0, 10), (0, 0), (2, 40), (0, 0), (2, 132)], (cpy2 (cpy2 (cpy2 (up2 (up2 (up2 σ 36 0 (σ 128 0)) 36 1 (σ 128 1)) 36 2 (σ 128 2)) 129 37 0 0 10) 130 38 0 0 10) 131 39 0 0 10))) rfl rfl ?_
  refine TT.steps (cd := cd160) 1 (c' := (44, [(2, 36), (2, 128)], [], (cpy2 (cpy2 (cpy2 (cpy2 (up2 (up2 (up2 σ 36 0 (σ 128 0)) 36 1 (σ 128 1)) 36 2 (σ 128 2)) 129 37 0 0 10) 130 38 0 0 10) 131 39 0 0 10) 132 40 0 0 10))) rfl rfl ?_
  refine TT.steps (cd := cd160) 7 (c' := (51, [(2, 36), (2, 128)], [(0, 10), (0, 0), (2, 41), (0, 0), (2, 133)], (cpy2 (cpy2 (cpy2 (cpy2 (up2 (up2 (up2 σ 36 0 (σ 128 0)) 36 1 (σ 128 1)) 36 2 (σ 128 2)) 129 37 0 0 10) 130 38 0 0 10) 131 39 0 0 10) 132 40 0 0 10))) rfl rfl ?_
  refine TT.steps (cd := cd160) 1 (c' := (52, [(2, 36), (2, 128)], [], (cpy2 (cpy2 (cpy2 (cpy2 (cpy2 (up2 (up2 (up2 σ 36 0 (σ 128 0)) 36 1 (σ 128 1)) 36 2 (σ 128 2)) 129 37 0 0 10) 130 38 0 0 10) 131 39 0 0 10) 132 40 0 0 10) 133 41 0 0 10))) rfl rfl ?_
  exact TT.ret (cd := cd160) rfl rfl rfl rfl (⟨rfl, CP_of (σ := σ) (q1 := 36) (q2 := 128) (by omega)⟩)
theorem v_copy_36_134 (X : AX) (σ : AH)  : TT X 160 (0, [(2, 36), (2, 134)], [], σ) (fun r σ' => r = none ∧ CP σ σ' 36 134) := by
  refine TT.steps (cd := cd160) 7 (c' := (7, [(2, 36), (2, 134)], [(0, ((up2 σ 36 0 (σ 134 0)) 134 1)), (2, 36)], (up2 σ 36 0 (σ 134 0)))) rfl rfl ?_
  refine TT.top0 (z := (σ 134 1)) (up2_far (k := 36) (k' := 134) _ _ _ _ (by decide)) ?_
  refine TT.steps (cd := cd160) 4 (c' := (11, [(2, 36), (2, 134)], [(0, ((up2 (up2 σ 36 0 (σ 134 0)) 36 1 (σ 134 1)) 134 2)), (2, 36)], (up2 (up2 σ 36 0 (σ 134 0)) 36 1 (σ 134 1)))) rfl rfl ?_
  refine TT.top0 (z := (σ 134 2)) ((up2_far (k := 36) (k' := 134) _ _ _ _ (by decide)).trans (up2_far (k := 36) (k' := 134) _ _ _ _ (by decide))) ?_
  refine TT.steps (cd := cd160) 8 (c' := (19, [(2, 36), (2, 134)], [(0, 10), (0, 0), (2, 37), (0, 0), (2, 135)], (up2 (up2 (up2 σ 36 0 (σ 134 0)) 36 1 (σ 134 1)) 36 2 (σ 134 2)))) rfl rfl ?_
  refine TT.steps (cd := cd160) 1 (c' := (20, [(2, 36), (2, 134)], [], (cpy2 (up2 (up2 (up2 σ 36 0 (σ 134 0)) 36 1 (σ 134 1)) 36 2 (σ 134 2)) 135 37 0 0 10))) rfl rfl ?_
  refine TT.steps (cd := cd160) 7 (c' := (27, [(2, 36), (2, 134)], [(0, 10), (0, 0), (2, 38), (0, 0), (2, 136)], (cpy2 (up2 (up2 (up2 σ 36 0 (σ 134 0)) 36 1 (σ 134 1)) 36 2 (σ 134 2)) 135 37 0 0 10))) rfl rfl ?_
  refine TT.steps (cd := cd160) 1 (c' := (28, [(2, 36), (2, 134)], [], (cpy2 (cpy2 (up2 (up2 (up2 σ 36 0 (σ 134 0)) 36 1 (σ 134 1)) 36 2 (σ 134 2)) 135 37 0 0 10) 136 38 0 0 10))) rfl rfl ?_
  refine TT.steps (cd := cd160) 7 (c' := (35, [(2, 36), (2, 134)], [(0, 10), (0, 0), (2, 39), (0, 0), (2, 137)], (cpy2 (cpy2 (up2 (up2 (up2 σ 36 0 (σ 134 0)) 36 1 (σ 134 1)) 36 2 (σ 134 2)) 135 37 0 0 10) 136 38 0 0 10))) rfl rfl ?_
  refine TT.steps (cd := cd160) 1 (c' := (36, [(2, 36), (2, 134)], [], (cpy2 (cpy2 (cpy2 (up2 (up2 (up2 σ 36 0 (σ 134 0)) 36 1 (σ 134 1)) 36 2 (σ 134 2)) 135 37 0 0 10) 136 38 0 0 10) 137 39 0 0 10))) rfl rfl ?_
  refine TT.steps (cd := cd160) 7 (c' := (43, [(2, 36), (2, 134)], [(0, 10), (0, 0), (2, 40), (0, 0), (2, 138)], (cpy2 (cpy2 (cpy2 (up2 (up2 (up2 σ 36 0 (σ 134 0)) 36 1 (σ 134 1)) 36 2 (σ 134 2)) 135 37 0 0 10) 136 38 0 0 10) 137 39 0 0 10))) rfl rfl ?_
  refine TT.steps (cd := cd160) 1 (c' := (44, [(2, 36), (2, 134)], [], (cpy2 (cpy2 (cpy2 (cpy2 (up2 (up2 (up2 σ 36 0 (σ 134 0)) 36 1 (σ 134 1)) 36 2 (σ 134 2)) 135 37 0 0 10) 136 38 0 0 10) 137 39 0 0 10) 138 40 0 0 10))) rfl rfl ?_
  refine TT.steps (cd := cd160) 7 (c' := (51, [(2, 36), (2, 134)], [(0, 10), (0, 0), (2, 41), (0, 0), (2, 139)], (cpy2 (cpy2 (cpy2 (cpy2 (up2 (up2 (up2 σ 36 0 (σ 134 0)) 36 1 (σ 134 1)) 36 2 (σ 134 2)) 135 37 0 0 10) 136 38 0 0 10) 137 39 0 0 10) 138 40 0 0 10))) rfl rfl ?_
  refine TT.steps (cd := cd160) 1 (c' := (52, [(2, 36), (2, 134)], [], (cpy2 (cpy2 (cpy2 (cpy2 (cpy2 (up2 (up2 (up2 σ 36 0 (σ 134 0)) 36 1 (σ 134 1)) 36 2 (σ 134 2)) 135 37 0 0 10) 136 38 0 0 10) 137 39 0 0 10) 138 40 0 0 10) 139 41 0 0 10))) rfl rfl ?_
  exact TT.ret (cd := cd160) rfl rfl rfl rfl (⟨rfl, CP_of (σ := σ) (q1 := 36) (q2 := 134) (by omega)⟩)
theorem v_copy_36_140 (X : AX) (σ : AH)  : TT X 160 (0, [(2, 36), (2, 140)], [], σ) (fun r σ' => r = none ∧ CP σ σ' 36 140) := by
  refine TT.steps (cd := cd160) 7 (c' := (7, [(2, 36), (2, 140)], [(0, ((up2 σ 36 0 (σ 140 0)) 140 1)), (2, 36)], (up2 σ 36 0 (σ 140 0)))) rfl rfl ?_
  refine TT.top0 (z := (σ 140 1)) (up2_far (k := 36) (k' := 140) _ _ _ _ (by decide)) ?_
  refine TT.steps (cd := cd160) 4 (c' := (11, [(2, 36), (2, 140)], [(0, ((up2 (up2 σ 36 0 (σ 140 0)) 36 1 (σ 140 1)) 140 2)), (2, 36)], (up2 (up2 σ 36 0 (σ 140 0)) 36 1 (σ 140 1)))) rfl rfl ?_
  refine TT.top0 (z := (σ 140 2)) ((up2_far (k := 36) (k' := 140) _ _ _ _ (by decide)).trans (up2_far (k := 36) (k' := 140) _ _ _ _ (by decide))) ?_
  refine TT.steps (cd := cd160) 8 (c' := (19, [(2, 36), (2, 140)], [(0, 10), (0, 0), (2, 37), (0, 0), (2, 141)], (up2 (up2 (up2 σ 36 0 (σ 140 0)) 36 1 (σ 140 1)) 36 2 (σ 140 2)))) rfl rfl ?_
  refine TT.steps (cd := cd160) 1 (c' := (20, [(2, 36), (2, 140)], [], (cpy2 (up2 (up2 (up2 σ 36 0 (σ 140 0)) 36 1 (σ 140 1)) 36 2 (σ 140 2)) 141 37 0 0 10))) rfl rfl ?_
  refine TT.steps (cd := cd160) 7 (c' := (27, [(2, 36), (2, 140)], [(0, 10), (0, 0), (2, 38), (0, 0), (2, 142)], (cpy2 (up2 (up2 (up2 σ 36 0 (σ 140 0)) 36 1 (σ 140 1)) 36 2 (σ 140 2)) 141 37 0 0 10))) rfl rfl ?_
  refine TT.steps (cd := cd160) 1 (c' := (28, [(2, 36), (2, 140)], [], (cpy2 (cpy2 (up2 (up2 (up2 σ 36 0 (σ 140 0)) 36 1 (σ 140 1)) 36 2 (σ 140 2)) 141 37 0 0 10) 142 38 0 0 10))) rfl rfl ?_
  refine TT.steps (cd := cd160) 7 (c' := (35, [(2, 36), (2, 140)], [(0, 10), (0, 0), (2, 39), (0, 0), (2, 143)], (cpy2 (cpy2 (up2 (up2 (up2 σ 36 0 (σ 140 0)) 36 1 (σ 140 1)) 36 2 (σ 140 2)) 141 37 0 0 10) 142 38 0 0 10))) rfl rfl ?_
  refine TT.steps (cd := cd160) 1 (c' := (36, [(2, 36), (2, 140)], [], (cpy2 (cpy2 (cpy2 (up2 (up2 (up2 σ 36 0 (σ 140 0)) 36 1 (σ 140 1)) 36 2 (σ 140 2)) 141 37 0 0 10) 142 38 0 0 10) 143 39 0 0 10))) rfl rfl ?_
  refine TT.steps (cd := cd160) 7 (c' := (43, [(2, 36), (2, 140)], [(0, 10), (0, 0), (2, 40), (0, 0), (2, 144)], (cpy2 (cpy2 (cpy2 (up2 (up2 (up2 σ 36 0 (σ 140 0)) 36 1 (σ 140 1)) 36 2 (σ 140 2)) 141 37 0 0 10) 142 38 0 0 10) 143 39 0 0 10))) rfl rfl ?_
  refine TT.steps (cd := cd160) 1 (c' := (44, [(2, 36), (2, 140)], [], (cpy2 (cpy2 (cpy2 (cpy2 (up2 (up2 (up2 σ 36 0 (σ 140 0)) 36 1 (σ 140 1)) 36 2 (σ 140 2)) 141 37 0 0 10) 142 38 0 0 10) 143 39 0 0 10) 144 40 0 0 10))) rfl rfl ?_
  refine TT.steps (cd := cd160) 7 (c' := (51, [(2, 36), (2, 140)], [(0, 10), (0, 0), (2, 41), (0, 0), (2, 145)], (cpy2 (cpy2 (cpy2 (cpy2 (up2 (up2 (up2 σ 36 0 (σ 140 0)) 36 1 (σ 140 1)) 36 2 (σ 140 2)) 141 37 0 0 10) 142 38 0 0 10) 143 39 0 0 10) 144 40 0 0 10))) rfl rfl ?_
  refine TT.steps (cd := cd160) 1 (c' := (52, [(2, 36), (2, 140)], [], (cpy2 (cpy2 (cpy2 (cpy2 (cpy2 (up2 (up2 (up2 σ 36 0 (σ 140 0)) 36 1 (σ 140 1)) 36 2 (σ 140 2)) 141 37 0 0 10) 142 38 0 0 10) 143 39 0 0 10) 144 40 0 0 10) 145 41 0 0 10))) rfl rfl ?_
  exact TT.ret (cd := cd160) rfl rfl rfl rfl (⟨rfl, CP_of (σ := σ) (q1 := 36) (q2 := 140) (by omega)⟩)
theorem v_copy_36_146 (X : AX) (σ : AH)  : TT X 160 (0, [(2, 36), (2, 146)], [], σ) (fun r σ' => r = none ∧ CP σ σ' 36 146) := by
  refine TT.steps (cd := cd160) 7 (c' := (7, [(2, 36), (2, 146)], [(0, ((up2 σ 36 0 (σ 146 0)) 146 1)), (2, 36)], (up2 σ 36 0 (σ 146 0)))) rfl rfl ?_
  refine TT.top0 (z := (σ 146 1)) (up2_far (k := 36) (k' := 146) _ _ _ _ (by decide)) ?_
  refine TT.steps (cd := cd160) 4 (c' := (11, [(2, 36), (2, 146)], [(0, ((up2 (up2 σ 36 0 (σ 146 0)) 36 1 (σ 146 1)) 146 2)), (2, 36)], (up2 (up2 σ 36 0 (σ 146 0)) 36 1 (σ 146 1)))) rfl rfl ?_
  refine TT.top0 (z := (σ 146 2)) ((up2_far (k := 36) (k' := 146) _ _ _ _ (by decide)).trans (up2_far (k := 36) (k' := 146) _ _ _ _ (by decide))) ?_
  refine TT.steps (cd := cd160) 8 (c' := (19, [(2, 36), (2, 146)], [(0, 10), (0, 0), (2, 37), (0, 0), (2, 147)], (up2 (up2 (up2 σ 36 0 (σ 146 0)) 36 1 (σ 146 1)) 36 2 (σ 146 2)))) rfl rfl ?_
  refine TT.steps (cd := cd160) 1 (c' := (20, [(2, 36), (2, 146)], [], (cpy2 (up2 (up2 (up2 σ 36 0 (σ 146 0)) 36 1 (σ 146 1)) 36 2 (σ 146 2)) 147 37 0 0 10))) rfl rfl ?_
  refine TT.steps (cd := cd160) 7 (c' := (27, [(2, 36), (2, 146)], [(0, 10), (0, 0), (2, 38), (0, 0), (2, 148)], (cpy2 (up2 (up2 (up2 σ 36 0 (σ 146 0)) 36 1 (σ 146 1)) 36 2 (σ 146 2)) 147 37 0 0 10))) rfl rfl ?_
  refine TT.steps (cd := cd160) 1 (c' := (28, [(2, 36), (2, 146)], [], (cpy2 (cpy2 (up2 (up2 (up2 σ 36 0 (σ 146 0)) 36 1 (σ 146 1)) 36 2 (σ 146 2)) 147 37 0 0 10) 148 38 0 0 10))) rfl rfl ?_
  refine TT.steps (cd := cd160) 7 (c' := (35, [(2, 36), (2, 146)], [(0, 10), (0, 0), (2, 39), (0, 0), (2, 149)], (cpy2 (cpy2 (up2 (up2 (up2 σ 36 0 (σ 146 0)) 36 1 (σ 146 1)) 36 2 (σ 146 2)) 147 37 0 0 10) 148 38 0 0 10))) rfl rfl ?_
  refine TT.steps (cd := cd160) 1 (c' := (36, [(2, 36), (2, 146)], [], (cpy2 (cpy2 (cpy2 (up2 (up2 (up2 σ 36 0 (σ 146 0)) 36 1 (σ 146 1)) 36 2 (σ 146 2)) 147 37 0 0 10) 148 38 0 0 10) 149 39 0 0 10))) rfl rfl ?_
  refine TT.steps (cd := cd160) 7 (c' := (43, [(2, 36), (2, 146)], [(0, 10), (0, 0), (2, 40), (0, 0), (2, 150)], (cpy2 (cpy2 (cpy2 (up2 (up2 (up2 σ 36 0 (σ 146 0)) 36 1 (σ 146 1)) 36 2 (σ 146 2)) 147 37 0 0 10) 148 38 0 0 10) 149 39 0 0 10))) rfl rfl ?_
  refine TT.steps (cd := cd160) 1 (c' := (44, [(2, 36), (2, 146)], [], (cpy2 (cpy2 (cpy2 (cpy2 (up2 (up2 (up2 σ 36 0 (σ 146 0)) 36 1 (σ 146 1)) 36 2 (σ 146 2)) 147 37 0 0 10) 148 38 0 0 10) 149 39 0 0 10) 150 40 0 0 10))) rfl rfl ?_
  refine TT.steps (cd := cd160) 7 (c' := (51, [(2, 36), (2, 146)], [(0, 10), (0, 0), (2, 41), (0, 0), (2, 151)], (cpy2 (cpy2 (cpy2 (cpy2 (up2 (up2 (up2 σ 36 0 (σ 146 0)) 36 1 (σ 146 1)) 36 2 (σ 146 2)) 147 37 0 0 10) 148 38 0 0 10) 149 39 0 0 10) 150 40 0 0 10))) rfl rfl ?_
  refine TT.steps (cd := cd160) 1 (c' := (52, [(2, 36), (2, 146)], [], (cpy2 (cpy2 (cpy2 (cpy2 (cpy2 (up2 (up2 (up2 σ 36 0 (σ 146 0)) 36 1 (σ 146 1)) 36 2 (σ 146 2)) 147 37 0 0 10) 148 38 0 0 10) 149 39 0 0 10) 150 40 0 0 10) 151 41 0 0 10))) rfl rfl ?_
  exact TT.ret (cd := cd160) rfl rfl rfl rfl (⟨rfl, CP_of (σ := σ) (q1 := 36) (q2 := 146) (by omega)⟩)
theorem v_copy_36_152 (X : AX) (σ : AH)  : TT X 160 (0, [(2, 36), (2, 152)], [], σ) (fun r σ' => r = none ∧ CP σ σ' 36 152) := by
  refine TT.steps (cd := cd160) 7 (c' := (7, [(2, 36), (2, 152)], [(0, ((up2 σ 36 0 (σ 152 0)) 152 1)), (2, 36)], (up2 σ 36 0 (σ 152 0)))) rfl rfl ?_
  refine TT.top0 (z := (σ 152 1)) (up2_far (k := 36) (k' := 152) _ _ _ _ (by decide)) ?_
  refine TT.steps (cd := cd160) 4 (c' := (11, [(2, 36), (2, 152)], [(0, ((up2 (up2 σ 36 0 (σ 152 0)) 36 1 (σ 152 1)) 152 2)), (2, 36)], (up2 (up2 σ 36 0 (σ 152 0)) 36 1 (σ 152 1)))) rfl rfl ?_
  refine TT.top0 (z := (σ 152 2)) ((up2_far (k := 36) (k' := 152) _ _ _ _ (by decide)).trans (up2_far (k := 36) (k' := 152) _ _ _ _ (by decide))) ?_
  refine TT.steps (cd := cd160) 8 (c' := (19, [(2, 36), (2, 152)], [(0, 10), (0, 0), (2, 37), (0, 0), (2, 153)], (up2 (up2 (up2 σ 36 0 (σ 152 0)) 36 1 (σ 152 1)) 36 2 (σ 152 2)))) rfl rfl ?_
  refine TT.steps (cd := cd160) 1 (c' := (20, [(2, 36), (2, 152)], [], (cpy2 (up2 (up2 (up2 σ 36 0 (σ 152 0)) 36 1 (σ 152 1)) 36 2 (σ 152 2)) 153 37 0 0 10))) rfl rfl ?_
  refine TT.steps (cd := cd160) 7 (c' := (27, [(2, 36), (2, 152)], [(0, 10), (0, 0), (2, 38), (0, 0), (2, 154)], (cpy2 (up2 (up2 (up2 σ 36 0 (σ 152 0)) 36 1 (σ 152 1)) 36 2 (σ 152 2)) 153 37 0 0 10))) rfl rfl ?_
  refine TT.steps (cd := cd160) 1 (c' := (28, [(2, 36), (2, 152)], [], (cpy2 (cpy2 (up2 (up2 (up2 σ 36 0 (σ 152 0)) 36 1 (σ 152 1)) 36 2 (σ 152 2)) 153 37 0 0 10) 154 38 0 0 10))) rfl rfl ?_
  refine TT.steps (cd := cd160) 7 (c' := (35, [(2, 36), (2, 152)], [(0, 10), (0, 0), (2, 39), (0, 0), (2, 155)], (cpy2 (cpy2 (up2 (up2 (up2 σ 36 0 (σ 152 0)) 36 1 (σ 152 1)) 36 2 (σ 152 2)) 153 37 0 0 10) 154 38 0 0 10))) rfl rfl ?_
  refine TT.steps (cd := cd160) 1 (c' := (36, [(2, 36), (2, 152)], [], (cpy2 (cpy2 (cpy2 (up2 (up2 (up2 σ 36 0 (σ 152 0)) 36 1 (σ 152 1)) 36 2 (σ 152 2)) 153 37 0 0 10) 154 38 0 0 10) 155 39 0 0 10))) rfl rfl ?_
  refine TT.steps (cd := cd160) 7 (c' := (43, [(2, 36), (2, 152)], [(0, 10), (0, 0), (2, 40), (0, 0), (2, 156)], (cpy2 (cpy2 (cpy2 (up2 (up2 (up2 σ 36 0 (σ 152 0)) 36 1 (σ 152 1)) 36 2 (σ 152 2)) 153 37 0 0 10) 154 38 0 0 10) 155 39 0 0 10))) rfl rfl ?_
  refine TT.steps (cd := cd160) 1 (c' := (44, [(2, 36), (2, 152)], [], (cpy2 (cpy2 (cpy2 (cpy2 (up2 (up2 (up2 σ 36 0 (σ 152 0)) 36 1 (σ 152 1)) 36 2 (σ 152 2)) 153 37 0 0 10) 154 38 0 0 10) 155 39 0 0 10) 156 40 0 0 10))) rfl rfl ?_
  refine TT.steps (cd := cd160) 7 (c' := (51, [(2, 36), (2, 152)], [(0, 10), (0, 0), (2, 41), (0, 0), (2, 157)], (cpy2 (cpy2 (cpy2 (cpy2 (up2 (up2 (up2 σ 36 0 (σ 152 0)) 36 1 (σ 152 1)) 36 2 (σ 152 2)) 153 37 0 0 10) 154 38 0 0 10) 155 39 0 0 10) 156 40 0 0 10))) rfl rfl ?_
  refine TT.steps (cd := cd160) 1 (c' := (52, [(2, 36), (2, 152)], [], (cpy2 (cpy2 (cpy2 (cpy2 (cpy2 (up2 (up2 (up2 σ 36 0 (σ 152 0)) 36 1 (σ 152 1)) 36 2 (σ 152 2)) 153 37 0 0 10) 154 38 0 0 10) 155 39 0 0 10) 156 40 0 0 10) 157 41 0 0 10))) rfl rfl ?_
  exact TT.ret (cd := cd160) rfl rfl rfl rfl (⟨rfl, CP_of (σ := σ) (q1 := 36) (q2 := 152) (by omega)⟩)
theorem v_copy_36_158 (X : AX) (σ : AH)  : TT X 160 (0, [(2, 36), (2, 158)], [], σ) (fun r σ' => r = none ∧ CP σ σ' 36 158) := by
  refine TT.steps (cd := cd160) 7 (c' := (7, [(2, 36), (2, 158)], [(0, ((up2 σ 36 0 (σ 158 0)) 158 1)), (2, 36)], (up2 σ 36 0 (σ 158 0)))) rfl rfl ?_
  refine TT.top0 (z := (σ 158 1)) (up2_far (k := 36) (k' := 158) _ _ _ _ (by decide)) ?_
  refine TT.steps (cd := cd160) 4 (c' := (11, [(2, 36), (2, 158)], [(0, ((up2 (up2 σ 36 0 (σ 158 0)) 36 1 (σ 158 1)) 158 2)), (2, 36)], (up2 (up2 σ 36 0 (σ 158 0)) 36 1 (σ 158 1)))) rfl rfl ?_
  refine TT.top0 (z := (σ 158 2)) ((up2_far (k := 36) (k' := 158) _ _ _ _ (by decide)).trans (up2_far (k := 36) (k' := 158) _ _ _ _ (by decide))) ?_
  refine TT.steps (cd := cd160) 8 (c' := (19, [(2, 36), (2, 158)], [(0, 10), (0, 0), (2, 37), (0, 0), (2, 159)], (up2 (up2 (up2 σ 36 0 (σ 158 0)) 36 1 (σ 158 1)) 36 2 (σ 158 2)))) rfl rfl ?_
  refine TT.steps (cd := cd160) 1 (c' := (20, [(2, 36), (2, 158)], [], (cpy2 (up2 (up2 (up2 σ 36 0 (σ 158 0)) 36 1 (σ 158 1)) 36 2 (σ 158 2)) 159 37 0 0 10))) rfl rfl ?_
  refine TT.steps (cd := cd160) 7 (c' := (27, [(2, 36), (2, 158)], [(0, 10), (0, 0), (2, 38), (0, 0), (2, 160)], (cpy2 (up2 (up2 (up2 σ 36 0 (σ 158 0)) 36 1 (σ 158 1)) 36 2 (σ 158 2)) 159 37 0 0 10))) rfl rfl ?_
  refine TT.steps (cd := cd160) 1 (c' := (28, [(2, 36), (2, 158)], [], (cpy2 (cpy2 (up2 (up2 (up2 σ 36 0 (σ 158 0)) 36 1 (σ 158 1)) 36 2 (σ 158 2)) 159 37 0 0 10) 160 38 0 0 10))) rfl rfl ?_
  refine TT.steps (cd := cd160) 7 (c' := (35, [(2, 36), (2, 158)], [(0, 10), (0, 0), (2, 39), (0, 0), (2, 161)], (cpy2 (cpy2 (up2 (up2 (up2 σ 36 0 (σ 158 0)) 36 1 (σ 158 1)) 36 2 (σ 158 2)) 159 37 0 0 10) 160 38 0 0 10))) rfl rfl ?_
  refine TT.steps (cd := cd160) 1 (c' := (36, [(2, 36), (2, 158)], [], (cpy2 (cpy2 (cpy2 (up2 (up2 (up2 σ 36 0 (σ 158 0)) 36 1 (σ 158 1)) 36 2 (σ 158 2)) 159 37 0 0 10) 160 38 0 0 10) 161 39 0 0 10))) rfl rfl ?_
  refine TT.steps (cd := cd160) 7 (c' := (43, [(2, 36), (2, 158)], [(0, 10), (0, 0), (2, 40), (0, 0), (2, 162)], (cpy2 (cpy2 (cpy2 (up2 (up2 (up2 σ 36 0 (σ 158 0)) 36 1 (σ 158 1)) 36 2 (σ 158 2)) 159 37 0 0 10) 160 38 0 0 10) 161 39 0 0 10))) rfl rfl ?_
  refine TT.steps (cd := cd160) 1 (c' := (44, [(2, 36), (2, 158)], [], (cpy2 (cpy2 (cpy2 (cpy2 (up2 (up2 (up2 σ 36 0 (σ 158 0)) 36 1 (σ 158 1)) 36 2 (σ 158 2)) 159 37 0 0 10) 160 38 0 0 10) 161 39 0 0 10) 162 40 0 0 10))) rfl rfl ?_
  refine TT.steps (cd := cd160) 7 (c' := (51, [(2, 36), (2, 158)], [(0, 10), (0, 0), (2, 41), (0, 0), (2, 163)], (cpy2 (cpy2 (cpy2 (cpy2 (up2 (up2 (up2 σ 36 0 (σ 158 0)) 36 1 (σ 158 1)) 36 2 (σ 158 2)) 159 37 0 0 10) 160 38 0 0 10) 161 39 0 0 10) 162 40 0 0 10))) rfl rfl ?_
  refine TT.steps (cd := cd160) 1 (c' := (52, [(2, 36), (2, 158)], [], (cpy2 (cpy2 (cpy2 (cpy2 (cpy2 (up2 (up2 (up2 σ 36 0 (σ 158 0)) 36 1 (σ 158 1)) 36 2 (σ 158 2)) 159 37 0 0 10) 160 38 0 0 10) 161 39 0 0 10) 162 40 0 0 10) 163 41 0 0 10))) rfl rfl ?_
  exact TT.ret (cd := cd160) rfl rfl rfl rfl (⟨rfl, CP_of (σ := σ) (q1 := 36) (q2 := 158) (by omega)⟩)
theorem v_copy_36_164 (X : AX) (σ : AH)  : TT X 160 (0, [(2, 36), (2, 164)], [], σ) (fun r σ' => r = none ∧ CP σ σ' 36 164) := by
  refine TT.steps (cd := cd160) 7 (c' := (7, [(2, 36), (2, 164)], [(0, ((up2 σ 36 0 (σ 164 0)) 164 1)), (2, 36)], (up2 σ 36 0 (σ 164 0)))) rfl rfl ?_
  refine TT.top0 (z := (σ 164 1)) (up2_far (k := 36) (k' := 164) _ _ _ _ (by decide)) ?_
  refine TT.steps (cd := cd160) 4 (c' := (11, [(2, 36), (2, 164)], [(0, ((up2 (up2 σ 36 0 (σ 164 0)) 36 1 (σ 164 1)) 164 2)), (2, 36)], (up2 (up2 σ 36 0 (σ 164 0)) 36 1 (σ 164 1)))) rfl rfl ?_
  refine TT.top0 (z := (σ 164 2)) ((up2_far (k := 36) (k' := 164) _ _ _ _ (by decide)).trans (up2_far (k := 36) (k' := 164) _ _ _ _ (by decide))) ?_
  refine TT.steps (cd := cd160) 8 (c' := (19, [(2, 36), (2, 164)], [(0, 10), (0, 0), (2, 37), (0, 0), (2, 165)], (up2 (up2 (up2 σ 36 0 (σ 164 0)) 36 1 (σ 164 1)) 36 2 (σ 164 2)))) rfl rfl ?_
  refine TT.steps (cd := cd160) 1 (c' := (20, [(2, 36), (2, 164)], [], (cpy2 (up2 (up2 (up2 σ 36 0 (σ 164 0)) 36 1 (σ 164 1)) 36 2 (σ 164 2)) 165 37 0 0 10))) rfl rfl ?_
  refine TT.steps (cd := cd160) 7 (c' := (27, [(2, 36), (2, 164)], [(0, 10), (0, 0), (2, 38), (0, 0), (2, 166)], (cpy2 (up2 (up2 (up2 σ 36 0 (σ 164 0)) 36 1 (σ 164 1)) 36 2 (σ 164 2)) 165 37 0 0 10))) rfl rfl ?_
  refine TT.steps (cd := cd160) 1 (c' := (28, [(2, 36), (2, 164)], [], (cpy2 (cpy2 (up2 (up2 (up2 σ 36 0 (σ 164 0)) 36 1 (σ 164 1)) 36 2 (σ 164 2)) 165 37 0 0 10) 166 38 0 0 10))) rfl rfl ?_
  refine TT.steps (cd := cd160) 7 (c' := (35, [(2, 36), (2, 164)], [(0, 10), (0, 0), (2, 39), (0, 0), (2, 167)], (cpy2 (cpy2 (up2 (up2 (up2 σ 36 0 (σ 164 0)) 36 1 (σ 164 1)) 36 2 (σ 164 2)) 165 37 0 0 10) 166 38 0 0 10))) rfl rfl ?_
  refine TT.steps (cd := cd160) 1 (c' := (36, [(2, 36), (2, 164)], [], (cpy2 (cpy2 (cpy2 (up2 (up2 (up2 σ 36 0 (σ 164 0)) 36 1 (σ 164 1)) 36 2 (σ 164 2)) 165 37 0 0 10) 166 38 0 0 10) 167 39 0 0 10))) rfl rfl ?_
  refine TT.steps (cd := cd160) 7 (c' := (43, [(2, 36), (2, 164)], [(0, 10), (0, 0), (2, 40), (0, 0), (2, 168)], (cpy2 (cpy2 (cpy2 (up2 (up2 (up2 σ 36 0 (σ 164 0)) 36 1 (σ 164 1)) 36 2 (σ 164 2)) 165 37 0 0 10) 166 38 0 0 10) 167 39 0 0 10))) rfl rfl ?_
  refine TT.steps (cd := cd160) 1 (c' := (44, [(2, 36), (2, 164)], [], (cpy2 (cpy2 (cpy2 (cpy2 (up2 (up2 (up2 σ 36 0 (σ 164 0)) 36 1 (σ 164 1)) 36 2 (σ 164 2)) 165 37 0 0 10) 166 38 0 0 10) 167 39 0 0 10) 168 40 0 0 10))) rfl rfl ?_
  refine TT.steps (cd := cd160) 7 (c' := (51, [(2, 36), (2, 164)], [(0, 10), (0, 0), (2, 41), (0, 0), (2, 169)], (cpy2 (cpy2 (cpy2 (cpy2 (up2 (up2 (up2 σ 36 0 (σ 164 0)) 36 1 (σ 164 1)) 36 2 (σ 164 2)) 165 37 0 0 10) 166 38 0 0 10) 167 39 0 0 10) 168 40 0 0 10))) rfl rfl ?_
  refine TT.steps (cd := cd160) 1 (c' := (52, [(2, 36), (2, 164)], [], (cpy2 (cpy2 (cpy2 (cpy2 (cpy2 (up2 (up2 (up2 σ 36 0 (σ 164 0)) 36 1 (σ 164 1)) 36 2 (σ 164 2)) 165 37 0 0 10) 166 38 0 0 10) 167 39 0 0 10) 168 40 0 0 10) 169 41 0 0 10))) rfl rfl ?_
  exact TT.ret (cd := cd160) rfl rfl rfl rfl (⟨rfl, CP_of (σ := σ) (q1 := 36) (q2 := 164) (by omega)⟩)
