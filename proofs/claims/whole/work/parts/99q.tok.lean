/-! The class's tokens. -/
theorem TT.own {X : AX} {m : Nat} {cd : List Ent} {k : Nat} {ls st : List AV} {σ : AH} {e : Ent} {a : List AV × List AV} {r : Option AV × AH} {Q : Option AV → AH → Prop} (hcd : cod m = cd) (he : cd[k]? = some e) (hc : isCall e = true) (ho : e.2.2.2.1 = OWN) (ha : callA e st = some a) (h : ownA a.1 σ = some r) (kk : TT X m (k + 1, ls, r.1.toList ++ a.2, r.2) Q) : TT X m (k, ls, st, σ) Q := by
  obtain ⟨n, r2, h2, q2⟩ := kk
  refine ⟨n + 1, r2, ?_, q2⟩
  rw [run, hcd, he]
  dsimp only
  rw [if_pos hc, ha]
  dsimp only
  rw [if_pos ho, h]
  exact h2
def cAdd (τ : AH) (c : Nat) (k : Int) (s : Nat) (v : Int) : AH := up2 (up2 (up2 (up2 τ 5 c k) 6 c ((s : Nat) : Int)) 7 c v) 4 3 ((c + 1 : Nat) : Int)
theorem cAdd_fr (τ : AH) (c : Nat) (k : Int) (s : Nat) (v : Int) (K j : Nat) (h : ¬ (K = 5 ∧ j = c) ∧ ¬ (K = 6 ∧ j = c) ∧ ¬ (K = 7 ∧ j = c) ∧ ¬ (K = 4 ∧ j = 3)) : cAdd τ c k s v K j = τ K j := by
  unfold cAdd
  rw [up2_nq _ (by omega), up2_nq _ (by omega), up2_nq _ (by omega), up2_nq _ (by omega)]
theorem cAdd_5 (τ : AH) (c : Nat) (k : Int) (s : Nat) (v : Int) : cAdd τ c k s v 5 c = k ∧ cAdd τ c k s v 6 c = (s : Int) ∧ cAdd τ c k s v 7 c = v ∧ cAdd τ c k s v 4 3 = ((c + 1 : Nat) : Int) := by
  unfold cAdd
  refine ⟨?_, ?_, ?_, up2_hit _ _ _ _⟩
  · rw [up2_nq _ (by omega), up2_nq _ (by omega), up2_nq _ (by omega), up2_hit]
  · rw [up2_nq _ (by omega), up2_nq _ (by omega), up2_hit]
  · rw [up2_nq _ (by omega), up2_hit]
/-- one more token, or the last one -/
def AP (f : Nat → Int) (N : Nat) (τ τ' : AH) (c s : Nat) (r : Option AV) : Prop :=
  (∃ (k v : Int) (p' : Nat), TK1 f N k s v p' ∧ (1 ≤ k ∧ k ≤ 16) ∧ s < p' ∧ p' ≤ N ∧ r = some (0, (p' : Int)) ∧ (∀ K j, ¬ (K = 4 ∧ j = 4) → τ' K j = cAdd τ c k s v K j) ∧ ((τ' 4 4 = τ 4 4 ∧ p' = s + 1 ∧ ¬ An (f s)) ∨ (τ' 4 4 = (p' : Int) ∧ An (f (p' - 1)))))
  ∨ (∃ (v : Int) (p' : Nat), TK1 f N 17 s v p' ∧ r = some (0, (N : Int)) ∧ τ' = cAdd τ c 17 s v)
theorem wrd_last {f : Nat → Int} {N s n : Nat} (h : WRD f N s n) : An (f (s + n - 1)) := by
  have := h.2.2.1 (n - 1) (by have := h.1; omega)
  rw [show s + (n - 1) = s + n - 1 by have := h.1; omega] at this
  exact Or.inl this
theorem u_isLetter (X : AX) (c : Int) (σ : AH)  : TT X 178 (0, [(0, c)], [], σ) (fun r σ' => r = some (0, if mLet c then 1 else 0) ∧ σ' = σ) := by
  refine TT.steps (cd := cd178) 3 (c' := ((if decide (c < 97) = true then 8 else 3), [(0, c)], [], σ)) rfl rfl ?_
  refine TT.br (p := c < 97) (fun h1 => ?_) (fun h1 => ?_)
  · refine TT.steps (cd := cd178) 1 (c' := (9, [(0, c)], [(0, 0)], σ)) rfl rfl ?_
    exact TT.ret (cd := cd178) rfl rfl rfl rfl (⟨by first | rw [if_pos (show mLet c by unfold mLet; omega)] | rw [if_neg (show ¬ mLet c by unfold mLet; omega)], rfl⟩)
  · refine TT.steps (cd := cd178) 3 (c' := ((if decide (122 < c) = true then 8 else 6), [(0, c)], [], σ)) rfl rfl ?_
    refine TT.br (p := 122 < c) (fun h2 => ?_) (fun h2 => ?_)
    · refine TT.steps (cd := cd178) 1 (c' := (9, [(0, c)], [(0, 0)], σ)) rfl rfl ?_
      exact TT.ret (cd := cd178) rfl rfl rfl rfl (⟨by first | rw [if_pos (show mLet c by unfold mLet; omega)] | rw [if_neg (show ¬ mLet c by unfold mLet; omega)], rfl⟩)
    · refine TT.steps (cd := cd178) 2 (c' := (9, [(0, c)], [(0, 1)], σ)) rfl rfl ?_
      exact TT.ret (cd := cd178) rfl rfl rfl rfl (⟨by first | rw [if_pos (show mLet c by unfold mLet; omega)] | rw [if_neg (show ¬ mLet c by unfold mLet; omega)], rfl⟩)
theorem u_isDigit (X : AX) (c : Int) (σ : AH)  : TT X 179 (0, [(0, c)], [], σ) (fun r σ' => r = some (0, if mDig c then 1 else 0) ∧ σ' = σ) := by
  refine TT.steps (cd := cd179) 3 (c' := ((if decide (c < 48) = true then 8 else 3), [(0, c)], [], σ)) rfl rfl ?_
  refine TT.br (p := c < 48) (fun h1 => ?_) (fun h1 => ?_)
  · refine TT.steps (cd := cd179) 1 (c' := (9, [(0, c)], [(0, 0)], σ)) rfl rfl ?_
    exact TT.ret (cd := cd179) rfl rfl rfl rfl (⟨by first | rw [if_pos (show mDig c by unfold mDig; omega)] | rw [if_neg (show ¬ mDig c by unfold mDig; omega)], rfl⟩)
  · refine TT.steps (cd := cd179) 3 (c' := ((if decide (57 < c) = true then 8 else 6), [(0, c)], [], σ)) rfl rfl ?_
    refine TT.br (p := 57 < c) (fun h2 => ?_) (fun h2 => ?_)
    · refine TT.steps (cd := cd179) 1 (c' := (9, [(0, c)], [(0, 0)], σ)) rfl rfl ?_
      exact TT.ret (cd := cd179) rfl rfl rfl rfl (⟨by first | rw [if_pos (show mDig c by unfold mDig; omega)] | rw [if_neg (show ¬ mDig c by unfold mDig; omega)], rfl⟩)
    · refine TT.steps (cd := cd179) 2 (c' := (9, [(0, c)], [(0, 1)], σ)) rfl rfl ?_
      exact TT.ret (cd := cd179) rfl rfl rfl rfl (⟨by first | rw [if_pos (show mDig c by unfold mDig; omega)] | rw [if_neg (show ¬ mDig c by unfold mDig; omega)], rfl⟩)
theorem u_add (X : AX) (k v : Int) (s c : Nat) (hc : c ≤ 1600) (σ : AH) (h43 : σ 4 3 = (c : Int))  : TT X 172 (0, [(2, 4), (0, k), (0, ((s : Nat) : Int)), (0, v)], [], σ) (fun r σ' => r = none ∧ σ' = cAdd σ c k s v) := by
  refine TT.steps (cd := cd172) 2 (c' := (2, [(2, 4), (0, k), (0, ((s : Nat) : Int)), (0, v)], [(0, (σ 4 3))], σ)) rfl rfl ?_
  refine TT.top0 (z := ((c : Nat) : Int)) h43 ?_
  refine TT.steps (cd := cd172) 4 (c' := ((if decide (1601 ≤ ((c : Nat) : Int)) = true then 30 else 6), [(2, 4), (0, k), (0, ((s : Nat) : Int)), (0, v)], [], σ)) rfl rfl ?_
  refine TT.br (p := 1601 ≤ ((c : Nat) : Int)) (fun h1 => absurd h1 (show ¬ (1601 ≤ ((c : Nat) : Int)) by omega)) (fun h1 => ?_)
  refine TT.steps (cd := cd172) 4 (c' := (10, [(2, 4), (0, k), (0, ((s : Nat) : Int)), (0, v)], [(0, (σ 4 3)), (2, 5)], σ)) rfl rfl ?_
  refine TT.top0 (z := ((c : Nat) : Int)) h43 ?_
  refine TT.steps (cd := cd172) 1 (c' := (11, [(2, 4), (0, k), (0, ((s : Nat) : Int)), (0, v)], [(0, k), (0, ((c : Nat) : Int)), (2, 5)], σ)) rfl rfl ?_
  refine TT.astN (cd := cd172) (5) (c) rfl rfl rfl rfl (show c < 1601 by omega) ?_
  refine TT.steps (cd := cd172) 4 (c' := (16, [(2, 4), (0, k), (0, ((s : Nat) : Int)), (0, v)], [(0, ((up2 σ 5 c k) 4 3)), (2, 6)], (up2 σ 5 c k))) rfl rfl ?_
  refine TT.top0 (z := ((c : Nat) : Int)) ((up2_far (k := 5) (k' := 4) _ _ _ _ (by decide)).trans h43) ?_
  refine TT.steps (cd := cd172) 1 (c' := (17, [(2, 4), (0, k), (0, ((s : Nat) : Int)), (0, v)], [(0, ((s : Nat) : Int)), (0, ((c : Nat) : Int)), (2, 6)], (up2 σ 5 c k))) rfl rfl ?_
  refine TT.astN (cd := cd172) (6) (c) rfl rfl rfl rfl (show c < 1601 by omega) ?_
  refine TT.steps (cd := cd172) 4 (c' := (22, [(2, 4), (0, k), (0, ((s : Nat) : Int)), (0, v)], [(0, ((up2 (up2 σ 5 c k) 6 c ((s : Nat) : Int)) 4 3)), (2, 7)], (up2 (up2 σ 5 c k) 6 c ((s : Nat) : Int)))) rfl rfl ?_
  refine TT.top0 (z := ((c : Nat) : Int)) (((up2_far (k := 6) (k' := 4) _ _ _ _ (by decide)).trans (up2_far (k := 5) (k' := 4) _ _ _ _ (by decide))).trans h43) ?_
  refine TT.steps (cd := cd172) 1 (c' := (23, [(2, 4), (0, k), (0, ((s : Nat) : Int)), (0, v)], [(0, v), (0, ((c : Nat) : Int)), (2, 7)], (up2 (up2 σ 5 c k) 6 c ((s : Nat) : Int)))) rfl rfl ?_
  refine TT.astN (cd := cd172) (7) (c) rfl rfl rfl rfl (show c < 1601 by omega) ?_
  refine TT.steps (cd := cd172) 3 (c' := (27, [(2, 4), (0, k), (0, ((s : Nat) : Int)), (0, v)], [(0, ((up2 (up2 (up2 σ 5 c k) 6 c ((s : Nat) : Int)) 7 c v) 4 3)), (2, 4)], (up2 (up2 (up2 σ 5 c k) 6 c ((s : Nat) : Int)) 7 c v))) rfl rfl ?_
  refine TT.top0 (z := ((c : Nat) : Int)) ((((up2_far (k := 7) (k' := 4) _ _ _ _ (by decide)).trans (up2_far (k := 6) (k' := 4) _ _ _ _ (by decide))).trans (up2_far (k := 5) (k' := 4) _ _ _ _ (by decide))).trans h43) ?_
  refine TT.steps (cd := cd172) 2 (c' := (29, [(2, 4), (0, k), (0, ((s : Nat) : Int)), (0, v)], [(0, (aAdd ((c : Nat) : Int) 1)), (2, 4)], (up2 (up2 (up2 σ 5 c k) 6 c ((s : Nat) : Int)) 7 c v))) rfl rfl ?_
  refine TT.top0 (z := ((c + 1 : Nat) : Int)) (aAdd_n (a := c) (b := 1) (by omega)) ?_
  refine TT.steps (cd := cd172) 1 (c' := (30, [(2, 4), (0, k), (0, ((s : Nat) : Int)), (0, v)], [], (up2 (up2 (up2 (up2 σ 5 c k) 6 c ((s : Nat) : Int)) 7 c v) 4 3 ((c + 1 : Nat) : Int)))) rfl rfl ?_
  exact TT.ret (cd := cd172) rfl rfl rfl rfl (⟨rfl, rfl⟩)
theorem u_addBad (X : AX) (v : Int) (s : Nat) (f : Nat → Int) (N : Nat) (σ : AH) (hN : N ≤ 1600) (ht : σ 1 1 = (N : Int)) (hf : ∀ j, j < N → σ 2 j = f j) (c : Nat) (hc : c ≤ 1600) (h43 : σ 4 3 = (c : Int))  : TT X 174 (0, [(2, 4), (2, 1), (0, ((s : Nat) : Int)), (0, v)], [], σ) (fun r σ' => r = some (0, (N : Int)) ∧ σ' = cAdd σ c 17 s v) := by
  refine TT.steps (cd := cd174) 4 (c' := (4, [(2, 4), (2, 1), (0, ((s : Nat) : Int)), (0, v)], [(0, v), (0, ((s : Nat) : Int)), (0, 17), (2, 4)], σ)) rfl rfl ?_
  refine TT.call (cd := cd174) rfl rfl rfl (by decide) rfl (u_add X 17 v s c hc σ h43) (fun r1 σ1 hq => ?_)
  rw [hq.1, hq.2]
  refine TT.steps (cd := cd174) 2 (c' := (7, [(2, 4), (2, 1), (0, ((s : Nat) : Int)), (0, v)], [(0, ((cAdd σ c 17 s v) 1 1))], (cAdd σ c 17 s v))) rfl rfl ?_
  refine TT.top0 (z := ((N : Nat) : Int)) ((cAdd_fr _ _ _ _ _ _ _ (by omega)).trans ht) ?_
  exact TT.ret (cd := cd174) rfl rfl rfl rfl (⟨rfl, rfl⟩)
theorem u_addWhole (X : AX) (k v : Int) (s p : Nat) (σ : AH) (c : Nat) (hc : c ≤ 1600) (h43 : σ 4 3 = (c : Int))  : TT X 177 (0, [(2, 4), (0, k), (0, ((s : Nat) : Int)), (0, ((p : Nat) : Int)), (0, v)], [], σ) (fun r σ' => r = some (0, (p : Int)) ∧ σ' = up2 (cAdd σ c k s v) 4 4 (p : Int)) := by
  refine TT.steps (cd := cd177) 4 (c' := (4, [(2, 4), (0, k), (0, ((s : Nat) : Int)), (0, ((p : Nat) : Int)), (0, v)], [(0, v), (0, ((s : Nat) : Int)), (0, k), (2, 4)], σ)) rfl rfl ?_
  refine TT.call (cd := cd177) rfl rfl rfl (by decide) rfl (u_add X k v s c hc σ h43) (fun r1 σ1 hq => ?_)
  rw [hq.1, hq.2]
  refine TT.steps (cd := cd177) 4 (c' := (9, [(2, 4), (0, k), (0, ((s : Nat) : Int)), (0, ((p : Nat) : Int)), (0, v)], [(0, ((p : Nat) : Int))], (up2 (cAdd σ c k s v) 4 4 ((p : Nat) : Int)))) rfl rfl ?_
  exact TT.ret (cd := cd177) rfl rfl rfl rfl (⟨rfl, rfl⟩)
