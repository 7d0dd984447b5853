/-! Days and years that go by. -/
def WK (σ ρ : AH) (l b q v np nt ns : Nat) (L : Nat → Nat) (C : Nat → Nat → Nat) : Prop := σ 0 5 = (l : Int) ∧ LT σ ρ l b np nt ns L C ∧ PT σ ρ q v np ns ∧ FL ρ ∧ (σ 0 11 = ρ 295 43 ∧ 0 ≤ ρ 295 43 ∧ ρ 295 43 < 2147483648)
def CF (q : Nat) (σ τ : AH) : Prop := ∀ K j, (K < q ∨ q + 5 < K) → (K < 198 ∨ 254 < K) → ¬ (K = 0 ∧ j = 11) → τ K j = σ K j
def RF (v : Nat) (ρ ρ' : AH) : Prop := (∀ K j, ((295 < K ∧ K < 316) ∨ 337 < K) → ρ' K j = ρ K j) ∧ (∀ j, j ≠ 43 ∧ j ≠ 46 → ρ' 295 j = ρ 295 j) ∧ (∀ j, j ≠ v → ρ' 316 j = ρ 316 j) ∧ (∀ K j, (316 < K ∧ K < 323) → (j < 10 * v ∨ 10 * v + 10 ≤ j) → ρ' K j = ρ K j)
theorem CF.refl (q : Nat) (σ : AH) : CF q σ σ := fun _ _ _ _ _ => rfl
theorem CF.trans {q : Nat} {σ τ υ : AH} (h : CF q σ τ) (h2 : CF q τ υ) : CF q σ υ := fun K j a c d => (h2 K j a c d).trans (h K j a c d)
theorem RF.refl (v : Nat) (ρ : AH) : RF v ρ ρ := ⟨fun _ _ _ => rfl, fun _ _ => rfl, fun _ _ => rfl, fun _ _ _ _ => rfl⟩
theorem RF.trans {v : Nat} {ρ ρ' ρ'' : AH} (h : RF v ρ ρ') (h2 : RF v ρ' ρ'') : RF v ρ ρ'' := ⟨fun K j hK => (h2.1 K j hK).trans (h.1 K j hK), fun j hj => (h2.2.1 j hj).trans (h.2.1 j hj), fun j hj => (h2.2.2.1 j hj).trans (h.2.2.1 j hj), fun K j hK hj => (h2.2.2.2 K j hK hj).trans (h.2.2.2 K j hK hj)⟩
theorem WK_mv {σ τ ρ ρ' : AH} {l b q v np nt ns : Nat} {L : Nat → Nat} {C : Nat → Nat → Nat} (hl : l = 8 ∨ l = 170) (hq : q = 36 ∨ q = 42) (h : WK σ ρ l b q v np nt ns L C) (h1 : CF q σ τ) (h2 : RF v ρ ρ') (hP : PT τ ρ' q v np ns) (hs : τ 0 11 = ρ' 295 43 ∧ 0 ≤ ρ' 295 43 ∧ ρ' 295 43 < 2147483648) : WK τ ρ' l b q v np nt ns L C := by
  obtain ⟨h05, hL, -, hF, -⟩ := h
  refine ⟨by rw [h1 _ _ (by omega) (by omega) (by omega)]; exact h05, LT_mv hl hL (fun K j hK => h1 K j (by omega) (by omega) (by omega)) (fun K j hK => h2.1 K j (by omega)) (h2.2.1 13 (by decide)), hP, ?_, hs⟩
  unfold FL; rw [h2.2.1 44 (by decide), h2.2.1 45 (by decide), h2.2.1 57 (by decide)]; exact hF
theorem mDay_RF (ρ : AH) (b v np nt : Nat) (L : Nat → Nat) : RF v ρ (mDay ρ b v np nt L) := ⟨fun K j hK => mDay_fr _ _ _ _ _ _ _ _ (by omega), fun j hj => mDay_5 _ _ _ _ _ _ _ hj.2, fun j hj => mDay_fr _ _ _ _ _ _ _ _ (by omega), fun K j hK hj => mDay_fr _ _ _ _ _ _ _ _ (by omega)⟩
/-- the day's places taken, the first n -/
def PD (σ τ : AH) (q n : Nat) : Prop := (∀ K j, K ≠ q + 4 → τ K j = σ K j) ∧ (∀ p, p < n → τ (q + 4) p = σ 247 p) ∧ (∀ p, n ≤ p → τ (q + 4) p = σ (q + 4) p)
theorem PD_s {σ τ : AH} {q n : Nat} (h : PD σ τ q n) : PD σ (up2 τ (q + 4) n (σ 247 n)) q (n + 1) := by
  refine ⟨fun K j hK => ?_, fun p hp => ?_, fun p hp => ?_⟩
  · rw [up2_far _ _ _ _ hK]; exact h.1 K j hK
  · by_cases e : p = n
    · subst e; rw [up2_hit]
    · rw [up2_by _ _ _ e]; exact h.2.1 p (by omega)
  · rw [up2_by _ _ _ (by omega)]; exact h.2.2 p (by omega)
/-- places and wishes of a year, the first n -/
def YD (σ τ : AH) (q n : Nat) : Prop := (∀ K j, K ≠ q + 4 → K ≠ q + 5 → τ K j = σ K j) ∧ (∀ p, p < n → τ (q + 4) p = σ 247 p ∧ τ (q + 5) p = if σ 247 p = σ (q + 5) p then σ (q + 4) p else σ (q + 5) p) ∧ (∀ p, n ≤ p → τ (q + 4) p = σ (q + 4) p ∧ τ (q + 5) p = σ (q + 5) p)
theorem YD_t {σ τ : AH} {q n : Nat} (h : YD σ τ q n) (e : σ 247 n = σ (q + 5) n) : YD σ (up2 (up2 τ (q + 5) n (σ (q + 4) n)) (q + 4) n (σ 247 n)) q (n + 1) := by
  refine ⟨fun K j h4 h5 => ?_, fun p hp => ?_, fun p hp => ?_⟩
  · rw [up2_far _ _ _ _ h4, up2_far _ _ _ _ h5]; exact h.1 K j h4 h5
  · by_cases e2 : p = n
    · subst e2; rw [up2_hit, up2_nq _ (by omega), up2_hit, if_pos e]; exact ⟨rfl, rfl⟩
    · rw [up2_nq _ (by omega), up2_nq _ (by omega), up2_nq _ (by omega), up2_nq _ (by omega)]; exact h.2.1 p (by omega)
  · rw [up2_nq _ (by omega), up2_nq _ (by omega), up2_nq _ (by omega), up2_nq _ (by omega)]; exact h.2.2 p (by omega)
theorem YD_f {σ τ : AH} {q n : Nat} (h : YD σ τ q n) (e : ¬ σ 247 n = σ (q + 5) n) : YD σ (up2 τ (q + 4) n (σ 247 n)) q (n + 1) := by
  refine ⟨fun K j h4 h5 => ?_, fun p hp => ?_, fun p hp => ?_⟩
  · rw [up2_far _ _ _ _ h4]; exact h.1 K j h4 h5
  · by_cases e2 : p = n
    · subst e2; rw [up2_hit, up2_nq _ (by omega), if_neg e]; exact ⟨rfl, (h.2.2 p (by omega)).2⟩
    · rw [up2_nq _ (by omega), up2_nq _ (by omega)]; exact h.2.1 p (by omega)
  · rw [up2_nq _ (by omega), up2_nq _ (by omega)]; exact h.2.2 p (by omega)
theorem mY1_p (τ : AH) (v n : Nat) : (∀ p, p < n → mY1 τ v n 320 (10 * v + p) = τ 334 p ∧ mY1 τ v n 321 (10 * v + p) = if τ 334 p = τ 321 (10 * v + p) then τ 320 (10 * v + p) else τ 321 (10 * v + p)) ∧ (∀ j, (j < 10 * v ∨ 10 * v + n ≤ j) → mY1 τ v n 320 j = τ 320 j ∧ mY1 τ v n 321 j = τ 321 j) := by
  induction n with
  | zero => exact ⟨fun p hp => by omega, fun j _ => ⟨rfl, rfl⟩⟩
  | succ n ih =>
    obtain ⟨i1, i2⟩ := ih
    obtain ⟨j1, j2⟩ := i2 (10 * v + n) (by omega)
    rw [mY1, j1, j2]
    by_cases e : τ 334 n = τ 321 (10 * v + n)
    · rw [if_pos e]
      refine ⟨fun p hp => ?_, fun j hj => ?_⟩
      · by_cases e2 : p = n
        · subst e2; rw [up2_nq _ (by omega), up2_hit, up2_hit, if_pos e]; exact ⟨rfl, rfl⟩
        · rw [up2_nq _ (by omega), up2_nq _ (by omega), up2_nq _ (by omega), up2_nq _ (by omega)]; exact i1 p (by omega)
      · rw [up2_nq _ (by omega), up2_nq _ (by omega), up2_nq _ (by omega), up2_nq _ (by omega)]; exact i2 j (by omega)
    · rw [if_neg e]
      refine ⟨fun p hp => ?_, fun j hj => ?_⟩
      · by_cases e2 : p = n
        · subst e2; rw [up2_hit, up2_nq _ (by omega), if_neg e]; exact ⟨rfl, j2⟩
        · rw [up2_nq _ (by omega), up2_nq _ (by omega)]; exact i1 p (by omega)
      · rw [up2_nq _ (by omega), up2_nq _ (by omega)]; exact i2 j (by omega)
theorem mY1_RF (τ : AH) (v np : Nat) (h : np ≤ 10) : RF v τ (mY1 τ v np) := by
  refine ⟨fun K j hK => mY1_fr _ _ _ _ _ (by omega), fun j hj => mY1_fr _ _ _ _ _ (by omega), fun j hj => mY1_fr _ _ _ _ _ (by omega), fun K j hK hj => ?_⟩
  by_cases e : K = 320 ∨ K = 321
  · rcases e with rfl | rfl
    · exact ((mY1_p τ v np).2 j (by omega)).1
    · exact ((mY1_p τ v np).2 j (by omega)).2
  · exact mY1_fr _ _ _ _ _ (by omega)
/-- one dies -/
def cDie (σ : AH) (q p : Nat) : AH := if σ (q + 3) p = -1 then up2 (up2 (up2 (up2 σ (q + 5) p (σ (q + 2) p)) (q + 1) p 0) (q + 2) p (σ (q + 4) p)) (q + 3) p (-1) else up2 (up2 (up2 σ (q + 1) p 0) (q + 2) p (σ (q + 4) p)) (q + 3) p (-1)
theorem cDie_fr (σ : AH) (q p K j : Nat) (h : ¬ (q + 1 ≤ K ∧ K ≤ q + 5 ∧ j = p)) : cDie σ q p K j = σ K j := by
  unfold cDie
  split
  · rw [up2_nq _ (by omega), up2_nq _ (by omega), up2_nq _ (by omega), up2_nq _ (by omega)]
  · rw [up2_nq _ (by omega), up2_nq _ (by omega), up2_nq _ (by omega)]
theorem cDie_p (σ : AH) (q p : Nat) : cDie σ q p (q + 1) p = 0 ∧ cDie σ q p (q + 2) p = σ (q + 4) p ∧ cDie σ q p (q + 3) p = -1 ∧ cDie σ q p (q + 4) p = σ (q + 4) p ∧ cDie σ q p (q + 5) p = if σ (q + 3) p = -1 then σ (q + 2) p else σ (q + 5) p := by
  unfold cDie
  split
  · refine ⟨?_, ?_, ?_, ?_, ?_⟩
    · rw [up2_nq _ (by omega), up2_nq _ (by omega), up2_hit]
    · rw [up2_nq _ (by omega), up2_hit]
    · rw [up2_hit]
    · rw [up2_nq _ (by omega), up2_nq _ (by omega), up2_nq _ (by omega), up2_nq _ (by omega)]
    · rw [up2_nq _ (by omega), up2_nq _ (by omega), up2_nq _ (by omega), up2_hit]
  · refine ⟨?_, ?_, ?_, ?_, ?_⟩
    · rw [up2_nq _ (by omega), up2_nq _ (by omega), up2_hit]
    · rw [up2_nq _ (by omega), up2_hit]
    · rw [up2_hit]
    · rw [up2_nq _ (by omega), up2_nq _ (by omega), up2_nq _ (by omega)]
    · rw [up2_nq _ (by omega), up2_nq _ (by omega), up2_nq _ (by omega)]
theorem mDie_p (ρ : AH) (k : Nat) : mDie ρ k 317 k = 0 ∧ mDie ρ k 318 k = ρ 320 k ∧ mDie ρ k 319 k = -1 ∧ mDie ρ k 321 k = (if ρ 319 k = -1 then ρ 318 k else ρ 321 k) ∧ (∀ K j, ¬ ((K = 317 ∨ K = 318 ∨ K = 319 ∨ K = 321) ∧ j = k) → mDie ρ k K j = ρ K j) := by
  unfold mDie
  split
  · refine ⟨?_, ?_, ?_, ?_, fun K j h => ?_⟩
    · rw [up2_nq _ (by omega), up2_nq _ (by omega), up2_hit]
    · rw [up2_nq _ (by omega), up2_hit]
    · rw [up2_hit]
    · rw [up2_nq _ (by omega), up2_nq _ (by omega), up2_nq _ (by omega), up2_hit]
    · rw [up2_nq _ (by omega), up2_nq _ (by omega), up2_nq _ (by omega), up2_nq _ (by omega)]
  · refine ⟨?_, ?_, ?_, ?_, fun K j h => ?_⟩
    · rw [up2_nq _ (by omega), up2_nq _ (by omega), up2_hit]
    · rw [up2_nq _ (by omega), up2_hit]
    · rw [up2_hit]
    · rw [up2_nq _ (by omega), up2_nq _ (by omega), up2_nq _ (by omega)]
    · rw [up2_nq _ (by omega), up2_nq _ (by omega), up2_nq _ (by omega)]
/-- ages behind n draws -/
def AG (σ τ ρ : AH) (q v np ns n : Nat) : Prop := PT τ (mY2 ρ v n).2 q v np ns ∧ (τ 0 11 = (mY2 ρ v n).2 295 43 ∧ 0 ≤ (mY2 ρ v n).2 295 43 ∧ (mY2 ρ v n).2 295 43 < 2147483648) ∧ (∀ K j, (K < q ∨ q + 5 < K) → ¬ (K = 0 ∧ j = 11) → τ K j = σ K j)
theorem mY2_die {ρ : AH} {v n : Nat} (h : mDrw (mSeed ((mY2 ρ v n).2 295 43)) < (mY2 ρ v n).2 317 (10 * v + n)) : mY2 ρ v (n + 1) = ((mY2 ρ v n).1 + 1, mDie (up2 (mY2 ρ v n).2 295 43 (mSeed ((mY2 ρ v n).2 295 43))) (10 * v + n)) := by rw [mY2, if_pos h]
theorem mY2_old {ρ : AH} {v n : Nat} (h : ¬ mDrw (mSeed ((mY2 ρ v n).2 295 43)) < (mY2 ρ v n).2 317 (10 * v + n)) : mY2 ρ v (n + 1) = ((mY2 ρ v n).1, up2 (up2 (mY2 ρ v n).2 295 43 (mSeed ((mY2 ρ v n).2 295 43))) 317 (10 * v + n) (if (mY2 ρ v n).2 317 (10 * v + n) < 99 then aAdd ((mY2 ρ v n).2 317 (10 * v + n)) 1 else 99)) := by rw [mY2, if_neg h]
theorem AG_die {σ τ ρ : AH} {q v np ns n : Nat} (hq : q = 36 ∨ q = 42) (hn : np ≤ 10) (hn2 : n < np) (h : AG σ τ ρ q v np ns n) (hd : mDrw (mSeed ((mY2 ρ v n).2 295 43)) < (mY2 ρ v n).2 317 (10 * v + n)) : AG σ (cDie (up2 τ 0 11 (mSeed ((mY2 ρ v n).2 295 43))) q n) ρ q v np ns (n + 1) := by
  obtain ⟨h1, h2, h3⟩ := h
  obtain ⟨-, s2, -⟩ := seed_eq h2.2
  unfold AG
  rw [mY2_die hd]
  dsimp only
  obtain ⟨d1, d2, d3, d4, d5⟩ := mDie_p (up2 (mY2 ρ v n).2 295 43 (mSeed ((mY2 ρ v n).2 295 43))) (10 * v + n)
  obtain ⟨c1, c2, c3, c4, c5⟩ := cDie_p (up2 τ 0 11 (mSeed ((mY2 ρ v n).2 295 43))) q n
  refine ⟨?_, ?_, ?_⟩
  · refine PT_g (p0 := n) hn h1 (fun K j hK hj => ?_) (fun K p hK hp hne => ?_) ?_ ?_ (fun _ => ?_)
    · rw [cDie_fr _ _ _ _ _ (by omega), up2_nq _ (by omega)]
    · rw [d5 _ _ (by omega), up2_nq _ (by omega)]
    · rw [d5 _ _ (by omega), up2_nq _ (by omega)]
    · rw [d5 _ _ (by omega), up2_nq _ (by omega)]
    · obtain ⟨⟨s1, f1, e1, e2⟩, e3, ⟨s4, f4, e4, e5⟩, ⟨s6, f6, e6, e7⟩⟩ := h1.1.2 n hn2
      rw [c1, c2, c3, c4, c5, d1, d2, d3, d4, d5 320 _ (by omega), up2_nq _ (by omega), up2_nq _ (by omega), up2_nq _ (by omega), up2_nq _ (by omega), up2_nq _ (by omega), up2_nq _ (by omega), up2_nq _ (by omega), up2_nq _ (by omega), e3, e4, e5]
      refine ⟨⟨s4, f4, rfl, rfl⟩, rfl, ⟨s4, f4, rfl, rfl⟩, ?_, ⟨rfl, by omega, by omega⟩, Or.inl rfl⟩
      by_cases e : (mY2 ρ v n).2 319 (10 * v + n) = -1
      · rw [if_pos e, if_pos e]; exact ⟨s1, f1, e1, e2⟩
      · rw [if_neg e, if_neg e]; exact ⟨s6, f6, e6, e7⟩
  · rw [cDie_fr _ _ _ _ _ (by omega), up2_hit, d5 _ _ (by omega), up2_hit]; exact ⟨rfl, s2⟩
  · intro K j hK hj
    rw [cDie_fr _ _ _ _ _ (by omega), up2_nq _ (by omega)]; exact h3 K j hK hj
theorem AG_old {σ τ ρ : AH} {q v np ns n : Nat} (hq : q = 36 ∨ q = 42) (hn : np ≤ 10) (hn2 : n < np) (h : AG σ τ ρ q v np ns n) (hd : ¬ mDrw (mSeed ((mY2 ρ v n).2 295 43)) < (mY2 ρ v n).2 317 (10 * v + n)) {υ : AH} (hυ : (∀ K j, ¬ (K = q + 1 ∧ j = n) → υ K j = up2 τ 0 11 (mSeed ((mY2 ρ v n).2 295 43)) K j) ∧ υ (q + 1) n = if (mY2 ρ v n).2 317 (10 * v + n) < 99 then aAdd ((mY2 ρ v n).2 317 (10 * v + n)) 1 else 99) : AG σ υ ρ q v np ns (n + 1) := by
  obtain ⟨h1, h2, h3⟩ := h
  obtain ⟨-, s2, -⟩ := seed_eq h2.2
  unfold AG
  rw [mY2_old hd]
  dsimp only
  obtain ⟨u1, u2⟩ := hυ
  refine ⟨?_, ?_, ?_⟩
  · refine PT_g (p0 := n) hn h1 (fun K j hK hj => ?_) (fun K p hK hp hne => ?_) ?_ ?_ (fun _ => ?_)
    · rw [u1 _ _ (by omega), up2_nq _ (by omega)]
    · rw [up2_nq _ (by omega), up2_nq _ (by omega)]
    · rw [up2_nq _ (by omega), up2_nq _ (by omega)]
    · rw [up2_nq _ (by omega), up2_nq _ (by omega)]
    · obtain ⟨e1, e3, e4, e6⟩ := h1.1.2 n hn2
      rw [u1 _ _ (by omega), u1 _ _ (by omega), u1 _ _ (by omega), u1 _ _ (by omega), u2, up2_hit, up2_nq _ (by omega), up2_nq _ (by omega), up2_nq _ (by omega), up2_nq _ (by omega), up2_nq _ (by omega), up2_nq _ (by omega), up2_nq _ (by omega), up2_nq _ (by omega), up2_nq _ (by omega), up2_nq _ (by omega), up2_nq _ (by omega), up2_nq _ (by omega)]
      refine ⟨e1, e3, e4, e6, ⟨rfl, ?_⟩, (h1.2.2.2 n hn2).2.2.2.1⟩
      have g2 := (h1.2.2.2 n hn2).2.1
      have g3 := (h1.2.2.2 n hn2).2.2.1
      split
      · rw [aAdd_of (by omega) (by omega)]; omega
      · omega
  · rw [u1 _ _ (by omega), up2_hit, up2_nq _ (by omega), up2_hit]; exact ⟨rfl, s2⟩
  · intro K j hK hj
    rw [u1 _ _ (by omega), up2_nq _ (by omega)]; exact h3 K j hK hj
