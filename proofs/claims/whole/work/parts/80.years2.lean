/-! Years of the class, walked. -/
def yrE (ρ : AH) (b v np nt : Nat) (L : Nat → Nat) : Nat → Nat × AH
  | 0 => (0, ρ)
  | n + 1 => ((yrE ρ b v np nt L n).1 + (mYear (yrE ρ b v np nt L n).2 b v np nt L).1, (mYear (yrE ρ b v np nt L n).2 b v np nt L).2)
theorem yrE_le (ρ : AH) (b v np nt : Nat) (L : Nat → Nat) (n : Nat) : (yrE ρ b v np nt L n).1 ≤ np * n := by
  induction n with
  | zero => exact Nat.zero_le _
  | succ n ih =>
    have := mYear_le (yrE ρ b v np nt L n).2 b v np nt L
    rw [yrE, Nat.mul_succ]; dsimp only; omega
theorem mY2_RF (τ : AH) (v np : Nat) (h : np ≤ 10) : RF v τ (mY2 τ v np).2 := by
  have key : ∀ n, n ≤ np → RF v τ (mY2 τ v n).2 := by
    intro n
    induction n with
    | zero => intro _; exact RF.refl _ _
    | succ n ih =>
      intro hn
      refine (ih (by omega)).trans ?_
      by_cases hd : mDrw (mSeed ((mY2 τ v n).2 295 43)) < (mY2 τ v n).2 317 (10 * v + n)
      · rw [mY2_die hd]
        dsimp only
        obtain ⟨-, -, -, -, d5⟩ := mDie_p (up2 (mY2 τ v n).2 295 43 (mSeed ((mY2 τ v n).2 295 43))) (10 * v + n)
        refine ⟨fun K j hK => ?_, fun j hj => ?_, fun j hj => ?_, fun K j hK hj => ?_⟩
        · rw [d5 _ _ (by omega), up2_nq _ (by omega)]
        · rw [d5 _ _ (by omega), up2_nq _ (by omega)]
        · rw [d5 _ _ (by omega), up2_nq _ (by omega)]
        · rw [d5 _ _ (by omega), up2_nq _ (by omega)]
      · rw [mY2_old hd]
        dsimp only
        refine ⟨fun K j hK => ?_, fun j hj => ?_, fun j hj => ?_, fun K j hK hj => ?_⟩
        · rw [up2_nq _ (by omega), up2_nq _ (by omega)]
        · rw [up2_nq _ (by omega), up2_nq _ (by omega)]
        · rw [up2_nq _ (by omega), up2_nq _ (by omega)]
        · rw [up2_nq _ (by omega), up2_nq _ (by omega)]
  exact key np (Nat.le_refl _)
theorem mYear_RF (ρ : AH) (b v np nt : Nat) (L : Nat → Nat) (h : np ≤ 10) : RF v ρ (mYear ρ b v np nt L).2 := by
  refine (mDay_RF ρ b v np nt L).trans ((mY1_RF _ v np h).trans ((mY2_RF _ v np h).trans ?_))
  unfold mYear
  dsimp only
  exact ⟨fun K j hK => up2_nq _ (by omega), fun j hj => up2_nq _ (by omega), fun j hj => up2_nq _ (by omega), fun K j hK hj => up2_nq _ (by omega)⟩
theorem yrE_RF (ρ : AH) (b v np nt : Nat) (L : Nat → Nat) (h : np ≤ 10) (n : Nat) : RF v ρ (yrE ρ b v np nt L n).2 := by
  induction n with
  | zero => exact RF.refl _ _
  | succ n ih => rw [yrE]; exact ih.trans (mYear_RF _ _ _ _ _ _ h)
theorem yrE_yr (ρ : AH) (b v np nt : Nat) (L : Nat → Nat) {yr n : Nat} (h : ρ 316 v = (yr : Int)) (hn : yr + n ≤ 100000) : (yrE ρ b v np nt L n).2 316 v = ((yr + n : Nat) : Int) := by
  induction n with
  | zero => exact h
  | succ n ih =>
    rw [yrE]
    dsimp only
    unfold mYear
    dsimp only
    rw [up2_hit, ih (by omega), aAdd_of (by omega) (by omega)]
    omega
/-- behind the day of a year, places and wishes -/
theorem PT_y1 {σ τ ρ : AH} {l b q v np nt ns : Nat} {L : Nat → Nat} {C : Nat → Nat → Nat} {σ0 : AH} (hn : np ≤ 10) (hP : PT σ ρ q v np ns) (hD : DD σ0 σ ρ b v np nt ns L C) (h : YD σ τ q np) : PT τ (mY1 (mDay ρ b v np nt L) v np) q v np ns := by
  obtain ⟨⟨b1, b2⟩, y, hh, c⟩ := hP
  obtain ⟨⟨n, -, hE⟩, -, -⟩ := hD
  obtain ⟨m1, m2⟩ := mY1_p (mDay ρ b v np nt L) v np
  have f : ∀ K j, 316 ≤ K → K ≤ 322 → K ≠ 320 → K ≠ 321 → mY1 (mDay ρ b v np nt L) v np K j = ρ K j := fun K j a1 a2 a3 a4 => (mY1_fr _ _ _ _ _ ⟨a3, a4⟩).trans (mDay_fr _ _ _ _ _ _ _ _ (by omega))
  refine ⟨⟨by rw [h.1 _ _ (by omega) (by omega)]; exact b1, fun p hp => ?_⟩, ?_, ?_, fun p hp => ?_⟩
  · obtain ⟨e1, e3, e4, e6⟩ := b2 p hp
    obtain ⟨-, ⟨s2, f2, e7⟩, e8, -⟩ := hE.2.2.2.1 p hp
    rw [h.1 _ _ (by omega) (by omega), h.1 _ _ (by omega) (by omega), f 318 _ (by omega) (by omega) (by omega) (by omega), f 319 _ (by omega) (by omega) (by omega) (by omega), (h.2.1 p hp).1, (h.2.1 p hp).2, (m1 p hp).1, (m1 p hp).2, mDay_fr _ _ _ _ _ _ 321 _ (by omega), mDay_fr _ _ _ _ _ _ 320 _ (by omega)]
    obtain ⟨s4, f4, e41, e42⟩ := e4
    obtain ⟨s6, f6, e61, e62⟩ := e6
    refine ⟨e1, e3, ⟨s2, f2, by rw [e8, e7], e7⟩, ?_⟩
    rw [e8, e7, e61, e62, e41, e42]
    by_cases g : (s2 : Int) = (s6 : Int)
    · rw [if_pos g]; exact ⟨s4, f4, rfl, rfl⟩
    · rw [if_neg g]; exact ⟨s6, f6, rfl, rfl⟩
  · rw [h.1 _ _ (by omega) (by omega), f 316 _ (by omega) (by omega) (by omega) (by omega)]; exact y
  · rw [h.1 _ _ (by omega) (by omega), hh]
    refine congrArg (fun x : Nat => (x : Int)) (bs_c (fun p hp => ?_))
    show decide _ = decide _
    rw [f 322 _ (by omega) (by omega) (by omega) (by omega)]
  · rw [h.1 _ _ (by omega) (by omega), f 317 _ (by omega) (by omega) (by omega) (by omega), f 319 _ (by omega) (by omega) (by omega) (by omega), f 322 _ (by omega) (by omega) (by omega) (by omega)]
    exact c p hp
/-- a year goes by for both -/
theorem PT_yr {τ ρ : AH} {q v np ns yr : Nat} (hn : np ≤ 10) (hP : PT τ ρ q v np ns) (hy : ρ 316 v = (yr : Int)) (hy2 : yr + 1 ≤ 9999) : PT (up2 τ q 1 (aAdd (ρ 316 v) 1)) (up2 ρ 316 v (aAdd (ρ 316 v) 1)) q v np ns := by
  obtain ⟨⟨b1, b2⟩, y, hh, c⟩ := hP
  refine ⟨⟨by rw [up2_nq _ (by omega)]; exact b1, fun p hp => ?_⟩, ?_, ?_, fun p hp => ?_⟩
  · rw [up2_nq _ (by omega), up2_nq _ (by omega), up2_nq _ (by omega), up2_nq _ (by omega), up2_nq _ (by omega), up2_nq _ (by omega), up2_nq _ (by omega), up2_nq _ (by omega)]
    exact b2 p hp
  · rw [up2_hit, up2_hit, hy, aAdd_of (by omega) (by omega)]; omega
  · rw [up2_nq _ (by omega), hh]
    refine congrArg (fun x : Nat => (x : Int)) (bs_c (fun p hp => ?_))
    show decide _ = decide _
    rw [up2_nq _ (by omega)]
  · rw [up2_nq _ (by omega), up2_nq _ (by omega), up2_nq _ (by omega), up2_nq _ (by omega)]
    exact c p hp
/-- behind a day, places -/
theorem PT_day {σ τ ρ ρ' : AH} {b q v np nt ns : Nat} {L : Nat → Nat} {C : Nat → Nat → Nat} {σ0 : AH} (hn : np ≤ 10) (hP : PT σ ρ q v np ns) (hD : DD σ0 σ ρ b v np nt ns L C) (h : PD σ τ q np) (h1 : ∀ K j, 316 ≤ K → K ≤ 322 → K ≠ 320 → ρ' K j = ρ K j) (h2 : ∀ p, p < np → ρ' 320 (10 * v + p) = mDay ρ b v np nt L 334 p) : PT τ ρ' q v np ns := by
  obtain ⟨⟨b1, b2⟩, y, hh, c⟩ := hP
  obtain ⟨⟨n, -, hE⟩, -, -⟩ := hD
  refine ⟨⟨by rw [h.1 _ _ (by omega)]; exact b1, fun p hp => ?_⟩, ?_, ?_, fun p hp => ?_⟩
  · obtain ⟨e1, e3, e4, e6⟩ := b2 p hp
    obtain ⟨-, ⟨s2, f2, e7⟩, e8, -⟩ := hE.2.2.2.1 p hp
    rw [h.1 (q + 2) _ (by omega), h.1 (q + 3) _ (by omega), h.1 (q + 5) _ (by omega), h1 318 _ (by omega) (by omega) (by omega), h1 319 _ (by omega) (by omega) (by omega), h1 321 _ (by omega) (by omega) (by omega), h.2.1 p hp, h2 p hp]
    exact ⟨e1, e3, ⟨s2, f2, by rw [e8, e7], e7⟩, e6⟩
  · rw [h.1 _ _ (by omega), h1 316 _ (by omega) (by omega) (by omega)]; exact y
  · rw [h.1 _ _ (by omega), hh]
    refine congrArg (fun x : Nat => (x : Int)) (bs_c (fun p hp => ?_))
    show decide _ = decide _
    rw [h1 322 _ (by omega) (by omega) (by omega)]
  · rw [h.1 _ _ (by omega), h1 317 _ (by omega) (by omega) (by omega), h1 319 _ (by omega) (by omega) (by omega), h1 322 _ (by omega) (by omega) (by omega)]
    exact c p hp
theorem w_draw (X : AX) (σ : AH) (s : Int) (hs : σ 0 11 = s) (hb : 0 ≤ s ∧ s < 2147483648)  : TT X 234 (0, [(2, 0), (9, 0), (9, 0)], [], σ) (fun r σ' => r = some (0, mDrw (mSeed s)) ∧ σ' = up2 σ 0 11 (mSeed s)) := by
  obtain ⟨z, hz⟩ : ∃ z, bAdd (bMul 1103515245 (bI2l s)) 12345 = z := ⟨_, rfl⟩
  obtain ⟨y, hy⟩ : ∃ y, mSeed s = y := ⟨_, rfl⟩
  refine TT.steps (cd := cd234) 3 (c' := (3, [(2, 0), (9, 0), (9, 0)], [(0, (σ 0 11)), (1, 1103515245)], σ)) rfl rfl ?_
  refine TT.top0 (z := s) hs ?_
  refine TT.steps (cd := cd234) 4 (c' := (7, [(2, 0), (9, 0), (9, 0)], [(1, (bAdd (bMul 1103515245 (bI2l s)) 12345))], σ)) rfl rfl ?_
  refine TT.top0 (z := z) hz ?_
  refine TT.steps (cd := cd234) 6 (c' := (13, [(2, 0), (1, z), (9, 0)], [(0, (bL2i (bAnd z 2147483647))), (2, 0)], σ)) rfl rfl ?_
  refine TT.top0 (z := y) (by rw [← hz, ← hy]; exact (seed_eq hb).1) ?_
  refine TT.steps (cd := cd234) 3 (c' := (16, [(2, 0), (1, z), (9, 0)], [(0, ((up2 σ 0 11 y) 0 11))], (up2 σ 0 11 y))) rfl rfl ?_
  refine TT.top0 (z := y) (up2_hit _ _ _ _) ?_
  refine TT.steps (cd := cd234) 4 (c' := (20, [(2, 0), (1, z), (9, 0)], [(0, (aRem (aDiv y 64) 100))], (up2 σ 0 11 y))) rfl rfl ?_
  refine TT.top0 (z := (mDrw y)) (by rw [← hy]; exact (seed_eq hb).2.2) ?_
  exact TT.ret (cd := cd234) rfl rfl rfl rfl (⟨by rw [hy], by rw [hy]⟩)
theorem v_giveWay_36 (X : AX) (p : Nat) (hp : p < 10) (σ : AH)  : TT X 167 (0, [(2, 36), (0, ((p : Nat) : Int))], [], σ) (fun r σ' => r = none ∧ σ' = cDie σ 36 p) := by
  refine TT.steps (cd := cd167) 3 (c' := (3, [(2, 36), (0, ((p : Nat) : Int))], [(0, ((p : Nat) : Int)), (2, 39)], σ)) rfl rfl ?_
  refine TT.aldN (cd := cd167) (39) (p) rfl rfl rfl rfl (show p < 10 by omega) ?_
  refine TT.steps (cd := cd167) 2 (c' := ((if decide (¬ (σ 39 p) = (-1)) = true then 14 else 6), [(2, 36), (0, ((p : Nat) : Int))], [], σ)) rfl rfl ?_
  refine TT.br (p := ¬ (σ 39 p) = (-1)) (fun h1 => ?_) (fun h1 => ?_)
  · refine TT.steps (cd := cd167) 4 (c' := (18, [(2, 36), (0, ((p : Nat) : Int))], [(0, 0), (0, ((p : Nat) : Int)), (2, 37)], σ)) rfl rfl ?_
    refine TT.astN (cd := cd167) (37) (p) rfl rfl rfl rfl (show p < 10 by omega) ?_
    refine TT.steps (cd := cd167) 6 (c' := (25, [(2, 36), (0, ((p : Nat) : Int))], [(0, ((p : Nat) : Int)), (2, 40), (0, ((p : Nat) : Int)), (2, 38)], (up2 σ 37 p 0))) rfl rfl ?_
    refine TT.aldN (cd := cd167) (40) (p) rfl rfl rfl rfl (show p < 10 by omega) ?_
    refine TT.top0 (z := (σ 40 p)) (up2_far (k := 37) (k' := 40) _ _ _ _ (by decide)) ?_
    refine TT.astN (cd := cd167) (38) (p) rfl rfl rfl rfl (show p < 10 by omega) ?_
    refine TT.steps (cd := cd167) 4 (c' := (31, [(2, 36), (0, ((p : Nat) : Int))], [(0, -1), (0, ((p : Nat) : Int)), (2, 39)], (up2 (up2 σ 37 p 0) 38 p (σ 40 p)))) rfl rfl ?_
    refine TT.astN (cd := cd167) (39) (p) rfl rfl rfl rfl (show p < 10 by omega) ?_
    exact TT.ret (cd := cd167) rfl rfl rfl rfl (⟨rfl, by unfold cDie; first | exact (if_pos (Decidable.not_not.mp (by assumption))).symm | exact (if_neg (by assumption)).symm⟩)
  · refine TT.steps (cd := cd167) 6 (c' := (12, [(2, 36), (0, ((p : Nat) : Int))], [(0, ((p : Nat) : Int)), (2, 38), (0, ((p : Nat) : Int)), (2, 41)], σ)) rfl rfl ?_
    refine TT.aldN (cd := cd167) (38) (p) rfl rfl rfl rfl (show p < 10 by omega) ?_
    refine TT.astN (cd := cd167) (41) (p) rfl rfl rfl rfl (show p < 10 by omega) ?_
    refine TT.steps (cd := cd167) 4 (c' := (18, [(2, 36), (0, ((p : Nat) : Int))], [(0, 0), (0, ((p : Nat) : Int)), (2, 37)], (up2 σ 41 p (σ 38 p)))) rfl rfl ?_
    refine TT.astN (cd := cd167) (37) (p) rfl rfl rfl rfl (show p < 10 by omega) ?_
    refine TT.steps (cd := cd167) 6 (c' := (25, [(2, 36), (0, ((p : Nat) : Int))], [(0, ((p : Nat) : Int)), (2, 40), (0, ((p : Nat) : Int)), (2, 38)], (up2 (up2 σ 41 p (σ 38 p)) 37 p 0))) rfl rfl ?_
    refine TT.aldN (cd := cd167) (40) (p) rfl rfl rfl rfl (show p < 10 by omega) ?_
    refine TT.top0 (z := (σ 40 p)) ((up2_far (k := 37) (k' := 40) _ _ _ _ (by decide)).trans (up2_far (k := 41) (k' := 40) _ _ _ _ (by decide))) ?_
    refine TT.astN (cd := cd167) (38) (p) rfl rfl rfl rfl (show p < 10 by omega) ?_
    refine TT.steps (cd := cd167) 4 (c' := (31, [(2, 36), (0, ((p : Nat) : Int))], [(0, -1), (0, ((p : Nat) : Int)), (2, 39)], (up2 (up2 (up2 σ 41 p (σ 38 p)) 37 p 0) 38 p (σ 40 p)))) rfl rfl ?_
    refine TT.astN (cd := cd167) (39) (p) rfl rfl rfl rfl (show p < 10 by omega) ?_
    exact TT.ret (cd := cd167) rfl rfl rfl rfl (⟨rfl, by unfold cDie; first | exact (if_pos (Decidable.not_not.mp (by assumption))).symm | exact (if_neg (by assumption)).symm⟩)
theorem vl_age_36 (X : AX) (Q : Option AV → AH → Prop) (ρ : AH) (v np ns : Nat) (hnp2 : np ≤ 10) (σ : AH)  (kk : ∀ (τ : AH), AG σ τ ρ 36 v np ns np → TT X 233 (36, [(2, 0), (2, 36), (0, (((mY2 ρ v np).1 : Nat) : Int)), (0, ((np : Nat) : Int))], [], τ) Q) : ∀ (d n : Nat), n + d = np → ∀ (τ : AH), AG σ τ ρ 36 v np ns n → TT X 233 (4, [(2, 0), (2, 36), (0, (((mY2 ρ v n).1 : Nat) : Int)), (0, ((n : Nat) : Int))], [], τ) Q := by
  intro d
  induction d with
  | zero =>
    intro n hn τ hP
    have hnn : n = np := by omega
    rw [hnn] at hP ⊢
    have hle := mY2_le ρ v n
    refine TT.steps (cd := cd233) 3 (c' := (7, [(2, 0), (2, 36), (0, (((mY2 ρ v np).1 : Nat) : Int)), (0, ((np : Nat) : Int))], [(0, (τ 36 0)), (0, ((np : Nat) : Int))], τ)) rfl rfl ?_
    refine TT.top0 (z := ((np : Nat) : Int)) hP.1.1.1 ?_
    refine TT.steps (cd := cd233) 1 (c' := ((if decide (((np : Nat) : Int) ≤ ((np : Nat) : Int)) = true then 36 else 8), [(2, 0), (2, 36), (0, (((mY2 ρ v np).1 : Nat) : Int)), (0, ((np : Nat) : Int))], [], τ)) rfl rfl ?_
    refine TT.br (p := ((np : Nat) : Int) ≤ ((np : Nat) : Int)) (fun h1 => ?_) (fun h1 => absurd (show ((np : Nat) : Int) ≤ ((np : Nat) : Int) by omega) h1)
    exact kk _ hP
  | succ d ih =>
    intro n hn τ hP
    have hle := mY2_le ρ v n
    refine TT.steps (cd := cd233) 3 (c' := (7, [(2, 0), (2, 36), (0, (((mY2 ρ v n).1 : Nat) : Int)), (0, ((n : Nat) : Int))], [(0, (τ 36 0)), (0, ((n : Nat) : Int))], τ)) rfl rfl ?_
    refine TT.top0 (z := ((np : Nat) : Int)) hP.1.1.1 ?_
    refine TT.steps (cd := cd233) 1 (c' := ((if decide (((np : Nat) : Int) ≤ ((n : Nat) : Int)) = true then 36 else 8), [(2, 0), (2, 36), (0, (((mY2 ρ v n).1 : Nat) : Int)), (0, ((n : Nat) : Int))], [], τ)) rfl rfl ?_
    refine TT.br (p := ((np : Nat) : Int) ≤ ((n : Nat) : Int)) (fun h1 => absurd h1 (show ¬ (((np : Nat) : Int) ≤ ((n : Nat) : Int)) by omega)) (fun h1 => ?_)
    refine TT.steps (cd := cd233) 1 (c' := (9, [(2, 0), (2, 36), (0, (((mY2 ρ v n).1 : Nat) : Int)), (0, ((n : Nat) : Int))], [(2, 0)], τ)) rfl rfl ?_
    refine TT.call (cd := cd233) rfl rfl rfl (by decide) rfl (w_draw X τ _ hP.2.1.1 hP.2.1.2) (fun r2 σ2 hq => ?_)
    rw [hq.1, hq.2]
    refine TT.steps (cd := cd233) 3 (c' := (13, [(2, 0), (2, 36), (0, (((mY2 ρ v n).1 : Nat) : Int)), (0, ((n : Nat) : Int))], [(0, ((n : Nat) : Int)), (2, 37), (0, (mDrw (mSeed ((mY2 ρ v n).2 295 43))))], (up2 τ 0 11 (mSeed ((mY2 ρ v n).2 295 43))))) rfl rfl ?_
    refine TT.aldN (cd := cd233) (37) (n) rfl rfl rfl rfl (show n < 10 by omega) ?_
    refine TT.top0 (z := ((mY2 ρ v n).2 317 (10 * v + n))) ((up2_far (k := 0) (k' := 37) _ _ _ _ (by decide)).trans (hP.1.2.2.2 n (by omega)).1) ?_
    refine TT.steps (cd := cd233) 1 (c' := ((if decide (((mY2 ρ v n).2 317 (10 * v + n)) ≤ (mDrw (mSeed ((mY2 ρ v n).2 295 43)))) = true then 20 else 15), [(2, 0), (2, 36), (0, (((mY2 ρ v n).1 : Nat) : Int)), (0, ((n : Nat) : Int))], [], (up2 τ 0 11 (mSeed ((mY2 ρ v n).2 295 43))))) rfl rfl ?_
    refine TT.br (p := ((mY2 ρ v n).2 317 (10 * v + n)) ≤ (mDrw (mSeed ((mY2 ρ v n).2 295 43)))) (fun h3 => ?_) (fun h3 => ?_)
    · refine TT.steps (cd := cd233) 3 (c' := (23, [(2, 0), (2, 36), (0, (((mY2 ρ v n).1 : Nat) : Int)), (0, ((n : Nat) : Int))], [(0, ((n : Nat) : Int)), (2, 37)], (up2 τ 0 11 (mSeed ((mY2 ρ v n).2 295 43))))) rfl rfl ?_
      refine TT.aldN (cd := cd233) (37) (n) rfl rfl rfl rfl (show n < 10 by omega) ?_
      refine TT.top0 (z := ((mY2 ρ v n).2 317 (10 * v + n))) ((up2_far (k := 0) (k' := 37) _ _ _ _ (by decide)).trans (hP.1.2.2.2 n (by omega)).1) ?_
      refine TT.steps (cd := cd233) 2 (c' := ((if decide (99 ≤ ((mY2 ρ v n).2 317 (10 * v + n))) = true then 34 else 26), [(2, 0), (2, 36), (0, (((mY2 ρ v n).1 : Nat) : Int)), (0, ((n : Nat) : Int))], [], (up2 τ 0 11 (mSeed ((mY2 ρ v n).2 295 43))))) rfl rfl ?_
      refine TT.br (p := 99 ≤ ((mY2 ρ v n).2 317 (10 * v + n))) (fun h4 => ?_) (fun h4 => ?_)
      · refine TT.inc (cd := cd233) ((n + 1 : Nat) : Int) rfl rfl rfl rfl (fun h => absurd h.2 (show ¬ (0 = 1) by decide)) (aAdd_n (a := n) (b := 1) (by omega)) (ls' := [(2, 0), (2, 36), (0, (((mY2 ρ v n).1 : Nat) : Int)), (0, ((n + 1 : Nat) : Int))]) rfl ?_
        refine TT.steps (cd := cd233) 1 (c' := (4, [(2, 0), (2, 36), (0, (((mY2 ρ v n).1 : Nat) : Int)), (0, ((n + 1 : Nat) : Int))], [], (up2 τ 0 11 (mSeed ((mY2 ρ v n).2 295 43))))) rfl rfl ?_
        have e2 : (((mY2 ρ v n).1 : Nat) : Int) = (((mY2 ρ v (n + 1)).1 : Nat) : Int) := by first | exact (congrArg (fun x : Nat × AH => ((x.1 : Nat) : Int)) (mY2_die (ρ := ρ) (v := v) (n := n) (by omega))).symm | exact (congrArg (fun x : Nat × AH => ((x.1 : Nat) : Int)) (mY2_old (ρ := ρ) (v := v) (n := n) (by omega))).symm
        rw [e2]
        clear e2
        have e3 : ((n + 1 : Nat) : Int) = (((n + 1) : Nat) : Int) := by omega
        rw [e3]
        clear e3
        exact ih (n + 1) (by omega) _ (AG_old (Or.inl rfl) hnp2 (by omega) hP (by omega) ⟨fun _ _ _ => rfl, (up2_nq _ (by omega)).trans ((hP.1.2.2.2 n (by omega)).1.trans (by rw [if_neg (by omega)]; have := (hP.1.2.2.2 n (by omega)).2.2.1; omega))⟩)
      · refine TT.steps (cd := cd233) 4 (c' := (30, [(2, 0), (2, 36), (0, (((mY2 ρ v n).1 : Nat) : Int)), (0, ((n : Nat) : Int))], [(0, ((n : Nat) : Int)), (2, 37), (0, ((n : Nat) : Int)), (2, 37)], (up2 τ 0 11 (mSeed ((mY2 ρ v n).2 295 43))))) rfl rfl ?_
        refine TT.aldN (cd := cd233) (37) (n) rfl rfl rfl rfl (show n < 10 by omega) ?_
        refine TT.top0 (z := ((mY2 ρ v n).2 317 (10 * v + n))) ((up2_far (k := 0) (k' := 37) _ _ _ _ (by decide)).trans (hP.1.2.2.2 n (by omega)).1) ?_
        refine TT.steps (cd := cd233) 2 (c' := (33, [(2, 0), (2, 36), (0, (((mY2 ρ v n).1 : Nat) : Int)), (0, ((n : Nat) : Int))], [(0, (aAdd ((mY2 ρ v n).2 317 (10 * v + n)) 1)), (0, ((n : Nat) : Int)), (2, 37)], (up2 τ 0 11 (mSeed ((mY2 ρ v n).2 295 43))))) rfl rfl ?_
        refine TT.astN (cd := cd233) (37) (n) rfl rfl rfl rfl (show n < 10 by omega) ?_
        refine TT.inc (cd := cd233) ((n + 1 : Nat) : Int) rfl rfl rfl rfl (fun h => absurd h.2 (show ¬ (0 = 1) by decide)) (aAdd_n (a := n) (b := 1) (by omega)) (ls' := [(2, 0), (2, 36), (0, (((mY2 ρ v n).1 : Nat) : Int)), (0, ((n + 1 : Nat) : Int))]) rfl ?_
        refine TT.steps (cd := cd233) 1 (c' := (4, [(2, 0), (2, 36), (0, (((mY2 ρ v n).1 : Nat) : Int)), (0, ((n + 1 : Nat) : Int))], [], (up2 (up2 τ 0 11 (mSeed ((mY2 ρ v n).2 295 43))) 37 n (aAdd ((mY2 ρ v n).2 317 (10 * v + n)) 1)))) rfl rfl ?_
        have e2 : (((mY2 ρ v n).1 : Nat) : Int) = (((mY2 ρ v (n + 1)).1 : Nat) : Int) := by first | exact (congrArg (fun x : Nat × AH => ((x.1 : Nat) : Int)) (mY2_die (ρ := ρ) (v := v) (n := n) (by omega))).symm | exact (congrArg (fun x : Nat × AH => ((x.1 : Nat) : Int)) (mY2_old (ρ := ρ) (v := v) (n := n) (by omega))).symm
        rw [e2]
        clear e2
        have e3 : ((n + 1 : Nat) : Int) = (((n + 1) : Nat) : Int) := by omega
        rw [e3]
        clear e3
        exact ih (n + 1) (by omega) _ (AG_old (Or.inl rfl) hnp2 (by omega) hP (by omega) ⟨fun K j hK => up2_nq _ hK, (up2_hit _ _ _ _).trans (if_pos (by omega)).symm⟩)
    · refine TT.steps (cd := cd233) 2 (c' := (17, [(2, 0), (2, 36), (0, (((mY2 ρ v n).1 : Nat) : Int)), (0, ((n : Nat) : Int))], [(0, ((n : Nat) : Int)), (2, 36)], (up2 τ 0 11 (mSeed ((mY2 ρ v n).2 295 43))))) rfl rfl ?_
      refine TT.call (cd := cd233) rfl rfl rfl (by decide) rfl (v_giveWay_36 X n (by omega) (up2 τ 0 11 (mSeed ((mY2 ρ v n).2 295 43)))) (fun r5 σ5 hq => ?_)
      rw [hq.1, hq.2]
      refine TT.inc (cd := cd233) ((((mY2 ρ v n).1) + 1 : Nat) : Int) rfl rfl rfl rfl (fun h => absurd h.2 (show ¬ (2 = 1) by decide)) (aAdd_n (a := (mY2 ρ v n).1) (b := 1) (by omega)) (ls' := [(2, 0), (2, 36), (0, ((((mY2 ρ v n).1) + 1 : Nat) : Int)), (0, ((n : Nat) : Int))]) rfl ?_
      refine TT.steps (cd := cd233) 1 (c' := (34, [(2, 0), (2, 36), (0, ((((mY2 ρ v n).1) + 1 : Nat) : Int)), (0, ((n : Nat) : Int))], [], (cDie (up2 τ 0 11 (mSeed ((mY2 ρ v n).2 295 43))) 36 n))) rfl rfl ?_
      refine TT.inc (cd := cd233) ((n + 1 : Nat) : Int) rfl rfl rfl rfl (fun h => absurd h.2 (show ¬ (0 = 1) by decide)) (aAdd_n (a := n) (b := 1) (by omega)) (ls' := [(2, 0), (2, 36), (0, ((((mY2 ρ v n).1) + 1 : Nat) : Int)), (0, ((n + 1 : Nat) : Int))]) rfl ?_
      refine TT.steps (cd := cd233) 1 (c' := (4, [(2, 0), (2, 36), (0, ((((mY2 ρ v n).1) + 1 : Nat) : Int)), (0, ((n + 1 : Nat) : Int))], [], (cDie (up2 τ 0 11 (mSeed ((mY2 ρ v n).2 295 43))) 36 n))) rfl rfl ?_
      have e2 : ((((mY2 ρ v n).1) + 1 : Nat) : Int) = (((mY2 ρ v (n + 1)).1 : Nat) : Int) := by first | exact (congrArg (fun x : Nat × AH => ((x.1 : Nat) : Int)) (mY2_die (ρ := ρ) (v := v) (n := n) (by omega))).symm | exact (congrArg (fun x : Nat × AH => ((x.1 : Nat) : Int)) (mY2_old (ρ := ρ) (v := v) (n := n) (by omega))).symm
      rw [e2]
      clear e2
      have e3 : ((n + 1 : Nat) : Int) = (((n + 1) : Nat) : Int) := by omega
      rw [e3]
      clear e3
      exact ih (n + 1) (by omega) _ (AG_die (Or.inl rfl) hnp2 (by omega) hP (by omega))
theorem v_ageAll_36 (X : AX) (ρ : AH) (v np ns : Nat) (hnp2 : np ≤ 10) (σ : AH) (hPT : PT σ ρ 36 v np ns) (hs : σ 0 11 = ρ 295 43 ∧ 0 ≤ ρ 295 43 ∧ ρ 295 43 < 2147483648)  : TT X 233 (0, [(2, 0), (2, 36), (9, 0), (9, 0)], [], σ) (fun r σ' => r = some (0, (((mY2 ρ v np).1 : Nat) : Int)) ∧ AG σ σ' ρ 36 v np ns np) := by
  refine TT.steps (cd := cd233) 4 (c' := (4, [(2, 0), (2, 36), (0, 0), (0, 0)], [], σ)) rfl rfl ?_
  refine vl_age_36 X _ ρ v np ns hnp2 σ (fun τ hP => ?_) np 0 (by omega) σ ⟨hPT, hs, fun _ _ _ _ => rfl⟩
  refine TT.steps (cd := cd233) 1 (c' := (37, [(2, 0), (2, 36), (0, (((mY2 ρ v np).1 : Nat) : Int)), (0, ((np : Nat) : Int))], [(0, (((mY2 ρ v np).1 : Nat) : Int))], τ)) rfl rfl ?_
  exact TT.ret (cd := cd233) rfl rfl rfl rfl (⟨rfl, hP⟩)
theorem vl_yd_36 (X : AX) (Q : Option AV → AH → Prop) (m np : Nat) (x3 x4 : Int) (hnp2 : np ≤ 10) (σ : AH) (hc : σ 36 0 = (np : Int))  (kk : ∀ (τ : AH), YD σ τ 36 np → TT X 232 (49, [(2, 0), (2, 36), (0, ((m : Nat) : Int)), (0, x3), (0, x4), (0, ((np : Nat) : Int))], [], τ) Q) : ∀ (d n : Nat), n + d = np → ∀ (τ : AH), YD σ τ 36 n → TT X 232 (16, [(2, 0), (2, 36), (0, ((m : Nat) : Int)), (0, x3), (0, x4), (0, ((n : Nat) : Int))], [], τ) Q := by
  intro d
  induction d with
  | zero =>
    intro n hn τ hP
    have hnn : n = np := by omega
    rw [hnn] at hP ⊢
    refine TT.steps (cd := cd232) 3 (c' := (19, [(2, 0), (2, 36), (0, ((m : Nat) : Int)), (0, x3), (0, x4), (0, ((np : Nat) : Int))], [(0, (τ 36 0)), (0, ((np : Nat) : Int))], τ)) rfl rfl ?_
    refine TT.top0 (z := ((np : Nat) : Int)) ((hP.1 _ _ (by omega) (by omega)).trans hc) ?_
    refine TT.steps (cd := cd232) 1 (c' := ((if decide (((np : Nat) : Int) ≤ ((np : Nat) : Int)) = true then 49 else 20), [(2, 0), (2, 36), (0, ((m : Nat) : Int)), (0, x3), (0, x4), (0, ((np : Nat) : Int))], [], τ)) rfl rfl ?_
    refine TT.br (p := ((np : Nat) : Int) ≤ ((np : Nat) : Int)) (fun h1 => ?_) (fun h1 => absurd (show ((np : Nat) : Int) ≤ ((np : Nat) : Int) by omega) h1)
    exact kk _ hP
  | succ d ih =>
    intro n hn τ hP
    refine TT.steps (cd := cd232) 3 (c' := (19, [(2, 0), (2, 36), (0, ((m : Nat) : Int)), (0, x3), (0, x4), (0, ((n : Nat) : Int))], [(0, (τ 36 0)), (0, ((n : Nat) : Int))], τ)) rfl rfl ?_
    refine TT.top0 (z := ((np : Nat) : Int)) ((hP.1 _ _ (by omega) (by omega)).trans hc) ?_
    refine TT.steps (cd := cd232) 1 (c' := ((if decide (((np : Nat) : Int) ≤ ((n : Nat) : Int)) = true then 49 else 20), [(2, 0), (2, 36), (0, ((m : Nat) : Int)), (0, x3), (0, x4), (0, ((n : Nat) : Int))], [], τ)) rfl rfl ?_
    refine TT.br (p := ((np : Nat) : Int) ≤ ((n : Nat) : Int)) (fun h1 => absurd h1 (show ¬ (((np : Nat) : Int) ≤ ((n : Nat) : Int)) by omega)) (fun h1 => ?_)
    refine TT.steps (cd := cd232) 4 (c' := (24, [(2, 0), (2, 36), (0, ((m : Nat) : Int)), (0, x3), (0, x4), (0, ((n : Nat) : Int))], [(0, ((n : Nat) : Int)), (2, 247)], τ)) rfl rfl ?_
    refine TT.aldN (cd := cd232) (247) (n) rfl rfl rfl rfl (show n < 10 by omega) ?_
    refine TT.top0 (z := (σ 247 n)) (hP.1 _ _ (by omega) (by omega)) ?_
    refine TT.steps (cd := cd232) 3 (c' := (28, [(2, 0), (2, 36), (0, ((m : Nat) : Int)), (0, x3), (0, x4), (0, ((n : Nat) : Int))], [(0, ((n : Nat) : Int)), (2, 41), (0, (σ 247 n))], τ)) rfl rfl ?_
    refine TT.aldN (cd := cd232) (41) (n) rfl rfl rfl rfl (show n < 10 by omega) ?_
    refine TT.top0 (z := (σ 41 n)) (hP.2.2 n (by omega)).2 ?_
    refine TT.steps (cd := cd232) 1 (c' := ((if decide (¬ (σ 247 n) = (σ 41 n)) = true then 38 else 30), [(2, 0), (2, 36), (0, ((m : Nat) : Int)), (0, x3), (0, x4), (0, ((n : Nat) : Int))], [], τ)) rfl rfl ?_
    refine TT.br (p := ¬ (σ 247 n) = (σ 41 n)) (fun h2 => ?_) (fun h2 => ?_)
    · refine TT.steps (cd := cd232) 7 (c' := (45, [(2, 0), (2, 36), (0, ((m : Nat) : Int)), (0, x3), (0, x4), (0, ((n : Nat) : Int))], [(0, ((n : Nat) : Int)), (2, 247), (0, ((n : Nat) : Int)), (2, 40)], τ)) rfl rfl ?_
      refine TT.aldN (cd := cd232) (247) (n) rfl rfl rfl rfl (show n < 10 by omega) ?_
      refine TT.top0 (z := (σ 247 n)) (hP.1 _ _ (by omega) (by omega)) ?_
      refine TT.astN (cd := cd232) (40) (n) rfl rfl rfl rfl (show n < 10 by omega) ?_
      refine TT.inc (cd := cd232) ((n + 1 : Nat) : Int) rfl rfl rfl rfl (fun h => absurd h.2 (show ¬ (0 = 1) by decide)) (aAdd_n (a := n) (b := 1) (by omega)) (ls' := [(2, 0), (2, 36), (0, ((m : Nat) : Int)), (0, x3), (0, x4), (0, ((n + 1 : Nat) : Int))]) rfl ?_
      refine TT.steps (cd := cd232) 1 (c' := (16, [(2, 0), (2, 36), (0, ((m : Nat) : Int)), (0, x3), (0, x4), (0, ((n + 1 : Nat) : Int))], [], (up2 τ 40 n (σ 247 n)))) rfl rfl ?_
      have e5 : ((n + 1 : Nat) : Int) = (((n + 1) : Nat) : Int) := by omega
      rw [e5]
      clear e5
      exact ih (n + 1) (by omega) _ (YD_f hP (by assumption))
    · refine TT.steps (cd := cd232) 6 (c' := (36, [(2, 0), (2, 36), (0, ((m : Nat) : Int)), (0, x3), (0, x4), (0, ((n : Nat) : Int))], [(0, ((n : Nat) : Int)), (2, 40), (0, ((n : Nat) : Int)), (2, 41)], τ)) rfl rfl ?_
      refine TT.aldN (cd := cd232) (40) (n) rfl rfl rfl rfl (show n < 10 by omega) ?_
      refine TT.top0 (z := (σ 40 n)) (hP.2.2 n (by omega)).1 ?_
      refine TT.astN (cd := cd232) (41) (n) rfl rfl rfl rfl (show n < 10 by omega) ?_
      refine TT.steps (cd := cd232) 7 (c' := (45, [(2, 0), (2, 36), (0, ((m : Nat) : Int)), (0, x3), (0, x4), (0, ((n : Nat) : Int))], [(0, ((n : Nat) : Int)), (2, 247), (0, ((n : Nat) : Int)), (2, 40)], (up2 τ 41 n (σ 40 n)))) rfl rfl ?_
      refine TT.aldN (cd := cd232) (247) (n) rfl rfl rfl rfl (show n < 10 by omega) ?_
      refine TT.top0 (z := (σ 247 n)) ((up2_far (k := 41) (k' := 247) _ _ _ _ (by decide)).trans (hP.1 _ _ (by omega) (by omega))) ?_
      refine TT.astN (cd := cd232) (40) (n) rfl rfl rfl rfl (show n < 10 by omega) ?_
      refine TT.inc (cd := cd232) ((n + 1 : Nat) : Int) rfl rfl rfl rfl (fun h => absurd h.2 (show ¬ (0 = 1) by decide)) (aAdd_n (a := n) (b := 1) (by omega)) (ls' := [(2, 0), (2, 36), (0, ((m : Nat) : Int)), (0, x3), (0, x4), (0, ((n + 1 : Nat) : Int))]) rfl ?_
      refine TT.steps (cd := cd232) 1 (c' := (16, [(2, 0), (2, 36), (0, ((m : Nat) : Int)), (0, x3), (0, x4), (0, ((n + 1 : Nat) : Int))], [], (up2 (up2 τ 41 n (σ 40 n)) 40 n (σ 247 n)))) rfl rfl ?_
      have e5 : ((n + 1 : Nat) : Int) = (((n + 1) : Nat) : Int) := by omega
      rw [e5]
      clear e5
      exact ih (n + 1) (by omega) _ (YD_t hP (Decidable.not_not.mp (by assumption)))
theorem vl_pd_36 (X : AX) (Q : Option AV → AH → Prop) (np : Nat) (hnp2 : np ≤ 10) (σ : AH) (hc : σ 36 0 = (np : Int))  (kk : ∀ (τ : AH), PD σ τ 36 np → TT X 231 (38, [(2, 0), (2, 36), (0, (if anyN (fun p => decide (¬ σ 40 p = σ 247 p)) np = true then 1 else 0)), (0, ((np : Nat) : Int))], [], τ) Q) : ∀ (d n : Nat), n + d = np → ∀ (τ : AH), PD σ τ 36 n → TT X 231 (7, [(2, 0), (2, 36), (0, (if anyN (fun p => decide (¬ σ 40 p = σ 247 p)) n = true then 1 else 0)), (0, ((n : Nat) : Int))], [], τ) Q := by
  intro d
  induction d with
  | zero =>
    intro n hn τ hP
    have hnn : n = np := by omega
    rw [hnn] at hP ⊢
    refine TT.steps (cd := cd231) 3 (c' := (10, [(2, 0), (2, 36), (0, (if anyN (fun p => decide (¬ σ 40 p = σ 247 p)) np = true then 1 else 0)), (0, ((np : Nat) : Int))], [(0, (τ 36 0)), (0, ((np : Nat) : Int))], τ)) rfl rfl ?_
    refine TT.top0 (z := ((np : Nat) : Int)) ((hP.1 _ _ (by omega)).trans hc) ?_
    refine TT.steps (cd := cd231) 1 (c' := ((if decide (((np : Nat) : Int) ≤ ((np : Nat) : Int)) = true then 38 else 11), [(2, 0), (2, 36), (0, (if anyN (fun p => decide (¬ σ 40 p = σ 247 p)) np = true then 1 else 0)), (0, ((np : Nat) : Int))], [], τ)) rfl rfl ?_
    refine TT.br (p := ((np : Nat) : Int) ≤ ((np : Nat) : Int)) (fun h1 => ?_) (fun h1 => absurd (show ((np : Nat) : Int) ≤ ((np : Nat) : Int) by omega) h1)
    exact kk _ hP
  | succ d ih =>
    intro n hn τ hP
    refine TT.steps (cd := cd231) 3 (c' := (10, [(2, 0), (2, 36), (0, (if anyN (fun p => decide (¬ σ 40 p = σ 247 p)) n = true then 1 else 0)), (0, ((n : Nat) : Int))], [(0, (τ 36 0)), (0, ((n : Nat) : Int))], τ)) rfl rfl ?_
    refine TT.top0 (z := ((np : Nat) : Int)) ((hP.1 _ _ (by omega)).trans hc) ?_
    refine TT.steps (cd := cd231) 1 (c' := ((if decide (((np : Nat) : Int) ≤ ((n : Nat) : Int)) = true then 38 else 11), [(2, 0), (2, 36), (0, (if anyN (fun p => decide (¬ σ 40 p = σ 247 p)) n = true then 1 else 0)), (0, ((n : Nat) : Int))], [], τ)) rfl rfl ?_
    refine TT.br (p := ((np : Nat) : Int) ≤ ((n : Nat) : Int)) (fun h1 => absurd h1 (show ¬ (((np : Nat) : Int) ≤ ((n : Nat) : Int)) by omega)) (fun h1 => ?_)
    refine TT.steps (cd := cd231) 4 (c' := (15, [(2, 0), (2, 36), (0, (if anyN (fun p => decide (¬ σ 40 p = σ 247 p)) n = true then 1 else 0)), (0, ((n : Nat) : Int))], [(0, ((n : Nat) : Int)), (2, 40), (0, (if anyN (fun p => decide (¬ σ 40 p = σ 247 p)) n = true then 1 else 0))], τ)) rfl rfl ?_
    refine TT.aldN (cd := cd231) (40) (n) rfl rfl rfl rfl (show n < 10 by omega) ?_
    refine TT.top0 (z := (σ 40 n)) (hP.2.2 n (by omega)) ?_
    refine TT.steps (cd := cd231) 4 (c' := (20, [(2, 0), (2, 36), (0, (if anyN (fun p => decide (¬ σ 40 p = σ 247 p)) n = true then 1 else 0)), (0, ((n : Nat) : Int))], [(0, ((n : Nat) : Int)), (2, 247), (0, (σ 40 n)), (0, (if anyN (fun p => decide (¬ σ 40 p = σ 247 p)) n = true then 1 else 0))], τ)) rfl rfl ?_
    refine TT.aldN (cd := cd231) (247) (n) rfl rfl rfl rfl (show n < 10 by omega) ?_
    refine TT.top0 (z := (σ 247 n)) (hP.1 _ _ (by omega)) ?_
    refine TT.steps (cd := cd231) 1 (c' := ((if decide ((σ 40 n) = (σ 247 n)) = true then 24 else 22), [(2, 0), (2, 36), (0, (if anyN (fun p => decide (¬ σ 40 p = σ 247 p)) n = true then 1 else 0)), (0, ((n : Nat) : Int))], [(0, (if anyN (fun p => decide (¬ σ 40 p = σ 247 p)) n = true then 1 else 0))], τ)) rfl rfl ?_
    refine TT.br (p := (σ 40 n) = (σ 247 n)) (fun h2 => ?_) (fun h2 => ?_)
    · refine TT.steps (cd := cd231) 10 (c' := (34, [(2, 0), (2, 36), (0, (aOr ((if anyN (fun p => decide (¬ σ 40 p = σ 247 p)) n = true then 1 else 0) : Int) 0)), (0, ((n : Nat) : Int))], [(0, ((n : Nat) : Int)), (2, 247), (0, ((n : Nat) : Int)), (2, 40)], τ)) rfl rfl ?_
      refine TT.aldN (cd := cd231) (247) (n) rfl rfl rfl rfl (show n < 10 by omega) ?_
      refine TT.top0 (z := (σ 247 n)) (hP.1 _ _ (by omega)) ?_
      refine TT.astN (cd := cd231) (40) (n) rfl rfl rfl rfl (show n < 10 by omega) ?_
      refine TT.inc (cd := cd231) ((n + 1 : Nat) : Int) rfl rfl rfl rfl (fun h => absurd h.2 (show ¬ (0 = 1) by decide)) (aAdd_n (a := n) (b := 1) (by omega)) (ls' := [(2, 0), (2, 36), (0, (aOr ((if anyN (fun p => decide (¬ σ 40 p = σ 247 p)) n = true then 1 else 0) : Int) 0)), (0, ((n + 1 : Nat) : Int))]) rfl ?_
      refine TT.steps (cd := cd231) 1 (c' := (7, [(2, 0), (2, 36), (0, (aOr ((if anyN (fun p => decide (¬ σ 40 p = σ 247 p)) n = true then 1 else 0) : Int) 0)), (0, ((n + 1 : Nat) : Int))], [], (up2 τ 40 n (σ 247 n)))) rfl rfl ?_
      have e2 : (aOr ((if anyN (fun p => decide (¬ σ 40 p = σ 247 p)) n = true then 1 else 0) : Int) 0) = ((if anyN (fun p => decide (¬ σ 40 p = σ 247 p)) (n + 1) = true then 1 else 0) : Int) := by rw [anyN]; by_cases g : anyN (fun p => decide (¬ σ 40 p = σ 247 p)) n = true <;> simp_all <;> first | rfl | decide
      rw [e2]
      clear e2
      have e3 : ((n + 1 : Nat) : Int) = (((n + 1) : Nat) : Int) := by omega
      rw [e3]
      clear e3
      exact ih (n + 1) (by omega) _ (PD_s hP)
    · refine TT.steps (cd := cd231) 11 (c' := (34, [(2, 0), (2, 36), (0, (aOr ((if anyN (fun p => decide (¬ σ 40 p = σ 247 p)) n = true then 1 else 0) : Int) 1)), (0, ((n : Nat) : Int))], [(0, ((n : Nat) : Int)), (2, 247), (0, ((n : Nat) : Int)), (2, 40)], τ)) rfl rfl ?_
      refine TT.aldN (cd := cd231) (247) (n) rfl rfl rfl rfl (show n < 10 by omega) ?_
      refine TT.top0 (z := (σ 247 n)) (hP.1 _ _ (by omega)) ?_
      refine TT.astN (cd := cd231) (40) (n) rfl rfl rfl rfl (show n < 10 by omega) ?_
      refine TT.inc (cd := cd231) ((n + 1 : Nat) : Int) rfl rfl rfl rfl (fun h => absurd h.2 (show ¬ (0 = 1) by decide)) (aAdd_n (a := n) (b := 1) (by omega)) (ls' := [(2, 0), (2, 36), (0, (aOr ((if anyN (fun p => decide (¬ σ 40 p = σ 247 p)) n = true then 1 else 0) : Int) 1)), (0, ((n + 1 : Nat) : Int))]) rfl ?_
      refine TT.steps (cd := cd231) 1 (c' := (7, [(2, 0), (2, 36), (0, (aOr ((if anyN (fun p => decide (¬ σ 40 p = σ 247 p)) n = true then 1 else 0) : Int) 1)), (0, ((n + 1 : Nat) : Int))], [], (up2 τ 40 n (σ 247 n)))) rfl rfl ?_
      have e2 : (aOr ((if anyN (fun p => decide (¬ σ 40 p = σ 247 p)) n = true then 1 else 0) : Int) 1) = ((if anyN (fun p => decide (¬ σ 40 p = σ 247 p)) (n + 1) = true then 1 else 0) : Int) := by rw [anyN]; by_cases g : anyN (fun p => decide (¬ σ 40 p = σ 247 p)) n = true <;> simp_all <;> first | rfl | decide
      rw [e2]
      clear e2
      have e3 : ((n + 1 : Nat) : Int) = (((n + 1) : Nat) : Int) := by omega
      rw [e3]
      clear e3
      exact ih (n + 1) (by omega) _ (PD_s hP)
theorem v_passDay_36 (X : AX) {l : Nat} (hl : l = 8 ∨ l = 170) {σ ρ : AH} {b v np nt ns : Nat} {L : Nat → Nat} {C : Nat → Nat → Nat} (hW : WK σ ρ l b 36 v np nt ns L C)  : TT X 231 (0, [(2, 0), (2, 36), (9, 0), (9, 0)], [], σ) (fun r σ' => ∃ σ1 : AH, PR σ1 l 36 np nt L ∧ DD σ σ1 ρ b v np nt ns L C ∧ PD σ1 σ' 36 np ∧ (∀ K j, (K < 198 ∨ 254 < K) → σ1 K j = σ K j) ∧ PT σ1 ρ 36 v np ns ∧ r = some (0, if anyN (fun p => decide (¬ σ1 40 p = σ1 247 p)) np = true then 1 else 0)) := by
  obtain ⟨h05, hL, hPT, hF, hsd⟩ := id hW
  have hnp2 := hL.2.2.1.1
  refine TT.steps (cd := cd231) 2 (c' := (2, [(2, 0), (2, 36), (9, 0), (9, 0)], [(2, 36), (2, 0)], σ)) rfl rfl ?_
  refine TT.call (cd := cd231) rfl rfl rfl (by decide) rfl (w_tryDay_36 X hl h05 hL hPT.1 hPT.2.2.1 hF) (fun r1 σ1 hq => ?_)
  obtain ⟨rfl, hFr, hPR, hDD⟩ := hq
  have hPT1 : PT σ1 ρ 36 v np ns := PT_mv hPT hnp2 (fun K j hK => hFr K j (by omega)) rfl (fun _ _ _ _ => rfl)
  refine TT.steps (cd := cd231) 4 (c' := (7, [(2, 0), (2, 36), (0, 0), (0, 0)], [], σ1)) rfl rfl ?_
  refine vl_pd_36 X _ np hnp2 σ1 hPT1.1.1 (fun τ2 hP2 => ?_) np 0 (by omega) σ1 ⟨fun _ _ _ => rfl, fun p hp => by omega, fun p hp => rfl⟩
  refine TT.steps (cd := cd231) 1 (c' := (39, [(2, 0), (2, 36), (0, (if anyN (fun p => decide (¬ σ1 40 p = σ1 247 p)) np = true then 1 else 0)), (0, ((np : Nat) : Int))], [(0, (if anyN (fun p => decide (¬ σ1 40 p = σ1 247 p)) np = true then 1 else 0))], τ2)) rfl rfl ?_
  by_cases g : anyN (fun p => decide (¬ σ1 40 p = σ1 247 p)) np = true
  · rw [if_pos g]
    exact TT.ret (cd := cd231) rfl rfl rfl rfl ⟨_, hPR, hDD, hP2, hFr, hPT1, by rw [if_pos g]⟩
  · rw [if_neg g]
    exact TT.ret (cd := cd231) rfl rfl rfl rfl ⟨_, hPR, hDD, hP2, hFr, hPT1, by rw [if_neg g]⟩
theorem v_giveWay_42 (X : AX) (p : Nat) (hp : p < 10) (σ : AH)  : TT X 167 (0, [(2, 42), (0, ((p : Nat) : Int))], [], σ) (fun r σ' => r = none ∧ σ' = cDie σ 42 p) := by
  refine TT.steps (cd := cd167) 3 (c' := (3, [(2, 42), (0, ((p : Nat) : Int))], [(0, ((p : Nat) : Int)), (2, 45)], σ)) rfl rfl ?_
  refine TT.aldN (cd := cd167) (45) (p) rfl rfl rfl rfl (show p < 10 by omega) ?_
  refine TT.steps (cd := cd167) 2 (c' := ((if decide (¬ (σ 45 p) = (-1)) = true then 14 else 6), [(2, 42), (0, ((p : Nat) : Int))], [], σ)) rfl rfl ?_
  refine TT.br (p := ¬ (σ 45 p) = (-1)) (fun h1 => ?_) (fun h1 => ?_)
  · refine TT.steps (cd := cd167) 4 (c' := (18, [(2, 42), (0, ((p : Nat) : Int))], [(0, 0), (0, ((p : Nat) : Int)), (2, 43)], σ)) rfl rfl ?_
    refine TT.astN (cd := cd167) (43) (p) rfl rfl rfl rfl (show p < 10 by omega) ?_
    refine TT.steps (cd := cd167) 6 (c' := (25, [(2, 42), (0, ((p : Nat) : Int))], [(0, ((p : Nat) : Int)), (2, 46), (0, ((p : Nat) : Int)), (2, 44)], (up2 σ 43 p 0))) rfl rfl ?_
    refine TT.aldN (cd := cd167) (46) (p) rfl rfl rfl rfl (show p < 10 by omega) ?_
    refine TT.top0 (z := (σ 46 p)) (up2_far (k := 43) (k' := 46) _ _ _ _ (by decide)) ?_
    refine TT.astN (cd := cd167) (44) (p) rfl rfl rfl rfl (show p < 10 by omega) ?_
    refine TT.steps (cd := cd167) 4 (c' := (31, [(2, 42), (0, ((p : Nat) : Int))], [(0, -1), (0, ((p : Nat) : Int)), (2, 45)], (up2 (up2 σ 43 p 0) 44 p (σ 46 p)))) rfl rfl ?_
    refine TT.astN (cd := cd167) (45) (p) rfl rfl rfl rfl (show p < 10 by omega) ?_
    exact TT.ret (cd := cd167) rfl rfl rfl rfl (⟨rfl, by unfold cDie; first | exact (if_pos (Decidable.not_not.mp (by assumption))).symm | exact (if_neg (by assumption)).symm⟩)
  · refine TT.steps (cd := cd167) 6 (c' := (12, [(2, 42), (0, ((p : Nat) : Int))], [(0, ((p : Nat) : Int)), (2, 44), (0, ((p : Nat) : Int)), (2, 47)], σ)) rfl rfl ?_
    refine TT.aldN (cd := cd167) (44) (p) rfl rfl rfl rfl (show p < 10 by omega) ?_
    refine TT.astN (cd := cd167) (47) (p) rfl rfl rfl rfl (show p < 10 by omega) ?_
    refine TT.steps (cd := cd167) 4 (c' := (18, [(2, 42), (0, ((p : Nat) : Int))], [(0, 0), (0, ((p : Nat) : Int)), (2, 43)], (up2 σ 47 p (σ 44 p)))) rfl rfl ?_
    refine TT.astN (cd := cd167) (43) (p) rfl rfl rfl rfl (show p < 10 by omega) ?_
    refine TT.steps (cd := cd167) 6 (c' := (25, [(2, 42), (0, ((p : Nat) : Int))], [(0, ((p : Nat) : Int)), (2, 46), (0, ((p : Nat) : Int)), (2, 44)], (up2 (up2 σ 47 p (σ 44 p)) 43 p 0))) rfl rfl ?_
    refine TT.aldN (cd := cd167) (46) (p) rfl rfl rfl rfl (show p < 10 by omega) ?_
    refine TT.top0 (z := (σ 46 p)) ((up2_far (k := 43) (k' := 46) _ _ _ _ (by decide)).trans (up2_far (k := 47) (k' := 46) _ _ _ _ (by decide))) ?_
    refine TT.astN (cd := cd167) (44) (p) rfl rfl rfl rfl (show p < 10 by omega) ?_
    refine TT.steps (cd := cd167) 4 (c' := (31, [(2, 42), (0, ((p : Nat) : Int))], [(0, -1), (0, ((p : Nat) : Int)), (2, 45)], (up2 (up2 (up2 σ 47 p (σ 44 p)) 43 p 0) 44 p (σ 46 p)))) rfl rfl ?_
    refine TT.astN (cd := cd167) (45) (p) rfl rfl rfl rfl (show p < 10 by omega) ?_
    exact TT.ret (cd := cd167) rfl rfl rfl rfl (⟨rfl, by unfold cDie; first | exact (if_pos (Decidable.not_not.mp (by assumption))).symm | exact (if_neg (by assumption)).symm⟩)
theorem vl_age_42 (X : AX) (Q : Option AV → AH → Prop) (ρ : AH) (v np ns : Nat) (hnp2 : np ≤ 10) (σ : AH)  (kk : ∀ (τ : AH), AG σ τ ρ 42 v np ns np → TT X 233 (36, [(2, 0), (2, 42), (0, (((mY2 ρ v np).1 : Nat) : Int)), (0, ((np : Nat) : Int))], [], τ) Q) : ∀ (d n : Nat), n + d = np → ∀ (τ : AH), AG σ τ ρ 42 v np ns n → TT X 233 (4, [(2, 0), (2, 42), (0, (((mY2 ρ v n).1 : Nat) : Int)), (0, ((n : Nat) : Int))], [], τ) Q := by
  intro d
  induction d with
  | zero =>
    intro n hn τ hP
    have hnn : n = np := by omega
    rw [hnn] at hP ⊢
    have hle := mY2_le ρ v n
    refine TT.steps (cd := cd233) 3 (c' := (7, [(2, 0), (2, 42), (0, (((mY2 ρ v np).1 : Nat) : Int)), (0, ((np : Nat) : Int))], [(0, (τ 42 0)), (0, ((np : Nat) : Int))], τ)) rfl rfl ?_
    refine TT.top0 (z := ((np : Nat) : Int)) hP.1.1.1 ?_
    refine TT.steps (cd := cd233) 1 (c' := ((if decide (((np : Nat) : Int) ≤ ((np : Nat) : Int)) = true then 36 else 8), [(2, 0), (2, 42), (0, (((mY2 ρ v np).1 : Nat) : Int)), (0, ((np : Nat) : Int))], [], τ)) rfl rfl ?_
    refine TT.br (p := ((np : Nat) : Int) ≤ ((np : Nat) : Int)) (fun h1 => ?_) (fun h1 => absurd (show ((np : Nat) : Int) ≤ ((np : Nat) : Int) by omega) h1)
    exact kk _ hP
  | succ d ih =>
    intro n hn τ hP
    have hle := mY2_le ρ v n
    refine TT.steps (cd := cd233) 3 (c' := (7, [(2, 0), (2, 42), (0, (((mY2 ρ v n).1 : Nat) : Int)), (0, ((n : Nat) : Int))], [(0, (τ 42 0)), (0, ((n : Nat) : Int))], τ)) rfl rfl ?_
    refine TT.top0 (z := ((np : Nat) : Int)) hP.1.1.1 ?_
    refine TT.steps (cd := cd233) 1 (c' := ((if decide (((np : Nat) : Int) ≤ ((n : Nat) : Int)) = true then 36 else 8), [(2, 0), (2, 42), (0, (((mY2 ρ v n).1 : Nat) : Int)), (0, ((n : Nat) : Int))], [], τ)) rfl rfl ?_
    refine TT.br (p := ((np : Nat) : Int) ≤ ((n : Nat) : Int)) (fun h1 => absurd h1 (show ¬ (((np : Nat) : Int) ≤ ((n : Nat) : Int)) by omega)) (fun h1 => ?_)
    refine TT.steps (cd := cd233) 1 (c' := (9, [(2, 0), (2, 42), (0, (((mY2 ρ v n).1 : Nat) : Int)), (0, ((n : Nat) : Int))], [(2, 0)], τ)) rfl rfl ?_
    refine TT.call (cd := cd233) rfl rfl rfl (by decide) rfl (w_draw X τ _ hP.2.1.1 hP.2.1.2) (fun r2 σ2 hq => ?_)
    rw [hq.1, hq.2]
    refine TT.steps (cd := cd233) 3 (c' := (13, [(2, 0), (2, 42), (0, (((mY2 ρ v n).1 : Nat) : Int)), (0, ((n : Nat) : Int))], [(0, ((n : Nat) : Int)), (2, 43), (0, (mDrw (mSeed ((mY2 ρ v n).2 295 43))))], (up2 τ 0 11 (mSeed ((mY2 ρ v n).2 295 43))))) rfl rfl ?_
    refine TT.aldN (cd := cd233) (43) (n) rfl rfl rfl rfl (show n < 10 by omega) ?_
    refine TT.top0 (z := ((mY2 ρ v n).2 317 (10 * v + n))) ((up2_far (k := 0) (k' := 43) _ _ _ _ (by decide)).trans (hP.1.2.2.2 n (by omega)).1) ?_
    refine TT.steps (cd := cd233) 1 (c' := ((if decide (((mY2 ρ v n).2 317 (10 * v + n)) ≤ (mDrw (mSeed ((mY2 ρ v n).2 295 43)))) = true then 20 else 15), [(2, 0), (2, 42), (0, (((mY2 ρ v n).1 : Nat) : Int)), (0, ((n : Nat) : Int))], [], (up2 τ 0 11 (mSeed ((mY2 ρ v n).2 295 43))))) rfl rfl ?_
    refine TT.br (p := ((mY2 ρ v n).2 317 (10 * v + n)) ≤ (mDrw (mSeed ((mY2 ρ v n).2 295 43)))) (fun h3 => ?_) (fun h3 => ?_)
    · refine TT.steps (cd := cd233) 3 (c' := (23, [(2, 0), (2, 42), (0, (((mY2 ρ v n).1 : Nat) : Int)), (0, ((n : Nat) : Int))], [(0, ((n : Nat) : Int)), (2, 43)], (up2 τ 0 11 (mSeed ((mY2 ρ v n).2 295 43))))) rfl rfl ?_
      refine TT.aldN (cd := cd233) (43) (n) rfl rfl rfl rfl (show n < 10 by omega) ?_
      refine TT.top0 (z := ((mY2 ρ v n).2 317 (10 * v + n))) ((up2_far (k := 0) (k' := 43) _ _ _ _ (by decide)).trans (hP.1.2.2.2 n (by omega)).1) ?_
      refine TT.steps (cd := cd233) 2 (c' := ((if decide (99 ≤ ((mY2 ρ v n).2 317 (10 * v + n))) = true then 34 else 26), [(2, 0), (2, 42), (0, (((mY2 ρ v n).1 : Nat) : Int)), (0, ((n : Nat) : Int))], [], (up2 τ 0 11 (mSeed ((mY2 ρ v n).2 295 43))))) rfl rfl ?_
      refine TT.br (p := 99 ≤ ((mY2 ρ v n).2 317 (10 * v + n))) (fun h4 => ?_) (fun h4 => ?_)
      · refine TT.inc (cd := cd233) ((n + 1 : Nat) : Int) rfl rfl rfl rfl (fun h => absurd h.2 (show ¬ (0 = 1) by decide)) (aAdd_n (a := n) (b := 1) (by omega)) (ls' := [(2, 0), (2, 42), (0, (((mY2 ρ v n).1 : Nat) : Int)), (0, ((n + 1 : Nat) : Int))]) rfl ?_
        refine TT.steps (cd := cd233) 1 (c' := (4, [(2, 0), (2, 42), (0, (((mY2 ρ v n).1 : Nat) : Int)), (0, ((n + 1 : Nat) : Int))], [], (up2 τ 0 11 (mSeed ((mY2 ρ v n).2 295 43))))) rfl rfl ?_
        have e2 : (((mY2 ρ v n).1 : Nat) : Int) = (((mY2 ρ v (n + 1)).1 : Nat) : Int) := by first | exact (congrArg (fun x : Nat × AH => ((x.1 : Nat) : Int)) (mY2_die (ρ := ρ) (v := v) (n := n) (by omega))).symm | exact (congrArg (fun x : Nat × AH => ((x.1 : Nat) : Int)) (mY2_old (ρ := ρ) (v := v) (n := n) (by omega))).symm
        rw [e2]
        clear e2
        have e3 : ((n + 1 : Nat) : Int) = (((n + 1) : Nat) : Int) := by omega
        rw [e3]
        clear e3
        exact ih (n + 1) (by omega) _ (AG_old (Or.inr rfl) hnp2 (by omega) hP (by omega) ⟨fun _ _ _ => rfl, (up2_nq _ (by omega)).trans ((hP.1.2.2.2 n (by omega)).1.trans (by rw [if_neg (by omega)]; have := (hP.1.2.2.2 n (by omega)).2.2.1; omega))⟩)
      · refine TT.steps (cd := cd233) 4 (c' := (30, [(2, 0), (2, 42), (0, (((mY2 ρ v n).1 : Nat) : Int)), (0, ((n : Nat) : Int))], [(0, ((n : Nat) : Int)), (2, 43), (0, ((n : Nat) : Int)), (2, 43)], (up2 τ 0 11 (mSeed ((mY2 ρ v n).2 295 43))))) rfl rfl ?_
        refine TT.aldN (cd := cd233) (43) (n) rfl rfl rfl rfl (show n < 10 by omega) ?_
        refine TT.top0 (z := ((mY2 ρ v n).2 317 (10 * v + n))) ((up2_far (k := 0) (k' := 43) _ _ _ _ (by decide)).trans (hP.1.2.2.2 n (by omega)).1) ?_
        refine TT.steps (cd := cd233) 2 (c' := (33, [(2, 0), (2, 42), (0, (((mY2 ρ v n).1 : Nat) : Int)), (0, ((n : Nat) : Int))], [(0, (aAdd ((mY2 ρ v n).2 317 (10 * v + n)) 1)), (0, ((n : Nat) : Int)), (2, 43)], (up2 τ 0 11 (mSeed ((mY2 ρ v n).2 295 43))))) rfl rfl ?_
        refine TT.astN (cd := cd233) (43) (n) rfl rfl rfl rfl (show n < 10 by omega) ?_
        refine TT.inc (cd := cd233) ((n + 1 : Nat) : Int) rfl rfl rfl rfl (fun h => absurd h.2 (show ¬ (0 = 1) by decide)) (aAdd_n (a := n) (b := 1) (by omega)) (ls' := [(2, 0), (2, 42), (0, (((mY2 ρ v n).1 : Nat) : Int)), (0, ((n + 1 : Nat) : Int))]) rfl ?_
        refine TT.steps (cd := cd233) 1 (c' := (4, [(2, 0), (2, 42), (0, (((mY2 ρ v n).1 : Nat) : Int)), (0, ((n + 1 : Nat) : Int))], [], (up2 (up2 τ 0 11 (mSeed ((mY2 ρ v n).2 295 43))) 43 n (aAdd ((mY2 ρ v n).2 317 (10 * v + n)) 1)))) rfl rfl ?_
        have e2 : (((mY2 ρ v n).1 : Nat) : Int) = (((mY2 ρ v (n + 1)).1 : Nat) : Int) := by first | exact (congrArg (fun x : Nat × AH => ((x.1 : Nat) : Int)) (mY2_die (ρ := ρ) (v := v) (n := n) (by omega))).symm | exact (congrArg (fun x : Nat × AH => ((x.1 : Nat) : Int)) (mY2_old (ρ := ρ) (v := v) (n := n) (by omega))).symm
        rw [e2]
        clear e2
        have e3 : ((n + 1 : Nat) : Int) = (((n + 1) : Nat) : Int) := by omega
        rw [e3]
        clear e3
        exact ih (n + 1) (by omega) _ (AG_old (Or.inr rfl) hnp2 (by omega) hP (by omega) ⟨fun K j hK => up2_nq _ hK, (up2_hit _ _ _ _).trans (if_pos (by omega)).symm⟩)
    · refine TT.steps (cd := cd233) 2 (c' := (17, [(2, 0), (2, 42), (0, (((mY2 ρ v n).1 : Nat) : Int)), (0, ((n : Nat) : Int))], [(0, ((n : Nat) : Int)), (2, 42)], (up2 τ 0 11 (mSeed ((mY2 ρ v n).2 295 43))))) rfl rfl ?_
      refine TT.call (cd := cd233) rfl rfl rfl (by decide) rfl (v_giveWay_42 X n (by omega) (up2 τ 0 11 (mSeed ((mY2 ρ v n).2 295 43)))) (fun r5 σ5 hq => ?_)
      rw [hq.1, hq.2]
      refine TT.inc (cd := cd233) ((((mY2 ρ v n).1) + 1 : Nat) : Int) rfl rfl rfl rfl (fun h => absurd h.2 (show ¬ (2 = 1) by decide)) (aAdd_n (a := (mY2 ρ v n).1) (b := 1) (by omega)) (ls' := [(2, 0), (2, 42), (0, ((((mY2 ρ v n).1) + 1 : Nat) : Int)), (0, ((n : Nat) : Int))]) rfl ?_
      refine TT.steps (cd := cd233) 1 (c' := (34, [(2, 0), (2, 42), (0, ((((mY2 ρ v n).1) + 1 : Nat) : Int)), (0, ((n : Nat) : Int))], [], (cDie (up2 τ 0 11 (mSeed ((mY2 ρ v n).2 295 43))) 42 n))) rfl rfl ?_
      refine TT.inc (cd := cd233) ((n + 1 : Nat) : Int) rfl rfl rfl rfl (fun h => absurd h.2 (show ¬ (0 = 1) by decide)) (aAdd_n (a := n) (b := 1) (by omega)) (ls' := [(2, 0), (2, 42), (0, ((((mY2 ρ v n).1) + 1 : Nat) : Int)), (0, ((n + 1 : Nat) : Int))]) rfl ?_
      refine TT.steps (cd := cd233) 1 (c' := (4, [(2, 0), (2, 42), (0, ((((mY2 ρ v n).1) + 1 : Nat) : Int)), (0, ((n + 1 : Nat) : Int))], [], (cDie (up2 τ 0 11 (mSeed ((mY2 ρ v n).2 295 43))) 42 n))) rfl rfl ?_
      have e2 : ((((mY2 ρ v n).1) + 1 : Nat) : Int) = (((mY2 ρ v (n + 1)).1 : Nat) : Int) := by first | exact (congrArg (fun x : Nat × AH => ((x.1 : Nat) : Int)) (mY2_die (ρ := ρ) (v := v) (n := n) (by omega))).symm | exact (congrArg (fun x : Nat × AH => ((x.1 : Nat) : Int)) (mY2_old (ρ := ρ) (v := v) (n := n) (by omega))).symm
      rw [e2]
      clear e2
      have e3 : ((n + 1 : Nat) : Int) = (((n + 1) : Nat) : Int) := by omega
      rw [e3]
      clear e3
      exact ih (n + 1) (by omega) _ (AG_die (Or.inr rfl) hnp2 (by omega) hP (by omega))
theorem v_ageAll_42 (X : AX) (ρ : AH) (v np ns : Nat) (hnp2 : np ≤ 10) (σ : AH) (hPT : PT σ ρ 42 v np ns) (hs : σ 0 11 = ρ 295 43 ∧ 0 ≤ ρ 295 43 ∧ ρ 295 43 < 2147483648)  : TT X 233 (0, [(2, 0), (2, 42), (9, 0), (9, 0)], [], σ) (fun r σ' => r = some (0, (((mY2 ρ v np).1 : Nat) : Int)) ∧ AG σ σ' ρ 42 v np ns np) := by
  refine TT.steps (cd := cd233) 4 (c' := (4, [(2, 0), (2, 42), (0, 0), (0, 0)], [], σ)) rfl rfl ?_
  refine vl_age_42 X _ ρ v np ns hnp2 σ (fun τ hP => ?_) np 0 (by omega) σ ⟨hPT, hs, fun _ _ _ _ => rfl⟩
  refine TT.steps (cd := cd233) 1 (c' := (37, [(2, 0), (2, 42), (0, (((mY2 ρ v np).1 : Nat) : Int)), (0, ((np : Nat) : Int))], [(0, (((mY2 ρ v np).1 : Nat) : Int))], τ)) rfl rfl ?_
  exact TT.ret (cd := cd233) rfl rfl rfl rfl (⟨rfl, hP⟩)
theorem vl_yd_42 (X : AX) (Q : Option AV → AH → Prop) (m np : Nat) (x3 x4 : Int) (hnp2 : np ≤ 10) (σ : AH) (hc : σ 42 0 = (np : Int))  (kk : ∀ (τ : AH), YD σ τ 42 np → TT X 232 (49, [(2, 0), (2, 42), (0, ((m : Nat) : Int)), (0, x3), (0, x4), (0, ((np : Nat) : Int))], [], τ) Q) : ∀ (d n : Nat), n + d = np → ∀ (τ : AH), YD σ τ 42 n → TT X 232 (16, [(2, 0), (2, 42), (0, ((m : Nat) : Int)), (0, x3), (0, x4), (0, ((n : Nat) : Int))], [], τ) Q := by
  intro d
  induction d with
  | zero =>
    intro n hn τ hP
    have hnn : n = np := by omega
    rw [hnn] at hP ⊢
    refine TT.steps (cd := cd232) 3 (c' := (19, [(2, 0), (2, 42), (0, ((m : Nat) : Int)), (0, x3), (0, x4), (0, ((np : Nat) : Int))], [(0, (τ 42 0)), (0, ((np : Nat) : Int))], τ)) rfl rfl ?_
    refine TT.top0 (z := ((np : Nat) : Int)) ((hP.1 _ _ (by omega) (by omega)).trans hc) ?_
    refine TT.steps (cd := cd232) 1 (c' := ((if decide (((np : Nat) : Int) ≤ ((np : Nat) : Int)) = true then 49 else 20), [(2, 0), (2, 42), (0, ((m : Nat) : Int)), (0, x3), (0, x4), (0, ((np : Nat) : Int))], [], τ)) rfl rfl ?_
    refine TT.br (p := ((np : Nat) : Int) ≤ ((np : Nat) : Int)) (fun h1 => ?_) (fun h1 => absurd (show ((np : Nat) : Int) ≤ ((np : Nat) : Int) by omega) h1)
    exact kk _ hP
  | succ d ih =>
    intro n hn τ hP
    refine TT.steps (cd := cd232) 3 (c' := (19, [(2, 0), (2, 42), (0, ((m : Nat) : Int)), (0, x3), (0, x4), (0, ((n : Nat) : Int))], [(0, (τ 42 0)), (0, ((n : Nat) : Int))], τ)) rfl rfl ?_
    refine TT.top0 (z := ((np : Nat) : Int)) ((hP.1 _ _ (by omega) (by omega)).trans hc) ?_
    refine TT.steps (cd := cd232) 1 (c' := ((if decide (((np : Nat) : Int) ≤ ((n : Nat) : Int)) = true then 49 else 20), [(2, 0), (2, 42), (0, ((m : Nat) : Int)), (0, x3), (0, x4), (0, ((n : Nat) : Int))], [], τ)) rfl rfl ?_
    refine TT.br (p := ((np : Nat) : Int) ≤ ((n : Nat) : Int)) (fun h1 => absurd h1 (show ¬ (((np : Nat) : Int) ≤ ((n : Nat) : Int)) by omega)) (fun h1 => ?_)
    refine TT.steps (cd := cd232) 4 (c' := (24, [(2, 0), (2, 42), (0, ((m : Nat) : Int)), (0, x3), (0, x4), (0, ((n : Nat) : Int))], [(0, ((n : Nat) : Int)), (2, 247)], τ)) rfl rfl ?_
    refine TT.aldN (cd := cd232) (247) (n) rfl rfl rfl rfl (show n < 10 by omega) ?_
    refine TT.top0 (z := (σ 247 n)) (hP.1 _ _ (by omega) (by omega)) ?_
    refine TT.steps (cd := cd232) 3 (c' := (28, [(2, 0), (2, 42), (0, ((m : Nat) : Int)), (0, x3), (0, x4), (0, ((n : Nat) : Int))], [(0, ((n : Nat) : Int)), (2, 47), (0, (σ 247 n))], τ)) rfl rfl ?_
    refine TT.aldN (cd := cd232) (47) (n) rfl rfl rfl rfl (show n < 10 by omega) ?_
    refine TT.top0 (z := (σ 47 n)) (hP.2.2 n (by omega)).2 ?_
    refine TT.steps (cd := cd232) 1 (c' := ((if decide (¬ (σ 247 n) = (σ 47 n)) = true then 38 else 30), [(2, 0), (2, 42), (0, ((m : Nat) : Int)), (0, x3), (0, x4), (0, ((n : Nat) : Int))], [], τ)) rfl rfl ?_
    refine TT.br (p := ¬ (σ 247 n) = (σ 47 n)) (fun h2 => ?_) (fun h2 => ?_)
    · refine TT.steps (cd := cd232) 7 (c' := (45, [(2, 0), (2, 42), (0, ((m : Nat) : Int)), (0, x3), (0, x4), (0, ((n : Nat) : Int))], [(0, ((n : Nat) : Int)), (2, 247), (0, ((n : Nat) : Int)), (2, 46)], τ)) rfl rfl ?_
      refine TT.aldN (cd := cd232) (247) (n) rfl rfl rfl rfl (show n < 10 by omega) ?_
      refine TT.top0 (z := (σ 247 n)) (hP.1 _ _ (by omega) (by omega)) ?_
      refine TT.astN (cd := cd232) (46) (n) rfl rfl rfl rfl (show n < 10 by omega) ?_
      refine TT.inc (cd := cd232) ((n + 1 : Nat) : Int) rfl rfl rfl rfl (fun h => absurd h.2 (show ¬ (0 = 1) by decide)) (aAdd_n (a := n) (b := 1) (by omega)) (ls' := [(2, 0), (2, 42), (0, ((m : Nat) : Int)), (0, x3), (0, x4), (0, ((n + 1 : Nat) : Int))]) rfl ?_
      refine TT.steps (cd := cd232) 1 (c' := (16, [(2, 0), (2, 42), (0, ((m : Nat) : Int)), (0, x3), (0, x4), (0, ((n + 1 : Nat) : Int))], [], (up2 τ 46 n (σ 247 n)))) rfl rfl ?_
      have e5 : ((n + 1 : Nat) : Int) = (((n + 1) : Nat) : Int) := by omega
      rw [e5]
      clear e5
      exact ih (n + 1) (by omega) _ (YD_f hP (by assumption))
    · refine TT.steps (cd := cd232) 6 (c' := (36, [(2, 0), (2, 42), (0, ((m : Nat) : Int)), (0, x3), (0, x4), (0, ((n : Nat) : Int))], [(0, ((n : Nat) : Int)), (2, 46), (0, ((n : Nat) : Int)), (2, 47)], τ)) rfl rfl ?_
      refine TT.aldN (cd := cd232) (46) (n) rfl rfl rfl rfl (show n < 10 by omega) ?_
      refine TT.top0 (z := (σ 46 n)) (hP.2.2 n (by omega)).1 ?_
      refine TT.astN (cd := cd232) (47) (n) rfl rfl rfl rfl (show n < 10 by omega) ?_
      refine TT.steps (cd := cd232) 7 (c' := (45, [(2, 0), (2, 42), (0, ((m : Nat) : Int)), (0, x3), (0, x4), (0, ((n : Nat) : Int))], [(0, ((n : Nat) : Int)), (2, 247), (0, ((n : Nat) : Int)), (2, 46)], (up2 τ 47 n (σ 46 n)))) rfl rfl ?_
      refine TT.aldN (cd := cd232) (247) (n) rfl rfl rfl rfl (show n < 10 by omega) ?_
      refine TT.top0 (z := (σ 247 n)) ((up2_far (k := 47) (k' := 247) _ _ _ _ (by decide)).trans (hP.1 _ _ (by omega) (by omega))) ?_
      refine TT.astN (cd := cd232) (46) (n) rfl rfl rfl rfl (show n < 10 by omega) ?_
      refine TT.inc (cd := cd232) ((n + 1 : Nat) : Int) rfl rfl rfl rfl (fun h => absurd h.2 (show ¬ (0 = 1) by decide)) (aAdd_n (a := n) (b := 1) (by omega)) (ls' := [(2, 0), (2, 42), (0, ((m : Nat) : Int)), (0, x3), (0, x4), (0, ((n + 1 : Nat) : Int))]) rfl ?_
      refine TT.steps (cd := cd232) 1 (c' := (16, [(2, 0), (2, 42), (0, ((m : Nat) : Int)), (0, x3), (0, x4), (0, ((n + 1 : Nat) : Int))], [], (up2 (up2 τ 47 n (σ 46 n)) 46 n (σ 247 n)))) rfl rfl ?_
      have e5 : ((n + 1 : Nat) : Int) = (((n + 1) : Nat) : Int) := by omega
      rw [e5]
      clear e5
      exact ih (n + 1) (by omega) _ (YD_t hP (Decidable.not_not.mp (by assumption)))
theorem vl_pd_42 (X : AX) (Q : Option AV → AH → Prop) (np : Nat) (hnp2 : np ≤ 10) (σ : AH) (hc : σ 42 0 = (np : Int))  (kk : ∀ (τ : AH), PD σ τ 42 np → TT X 231 (38, [(2, 0), (2, 42), (0, (if anyN (fun p => decide (¬ σ 46 p = σ 247 p)) np = true then 1 else 0)), (0, ((np : Nat) : Int))], [], τ) Q) : ∀ (d n : Nat), n + d = np → ∀ (τ : AH), PD σ τ 42 n → TT X 231 (7, [(2, 0), (2, 42), (0, (if anyN (fun p => decide (¬ σ 46 p = σ 247 p)) n = true then 1 else 0)), (0, ((n : Nat) : Int))], [], τ) Q := by
  intro d
  induction d with
  | zero =>
    intro n hn τ hP
    have hnn : n = np := by omega
    rw [hnn] at hP ⊢
    refine TT.steps (cd := cd231) 3 (c' := (10, [(2, 0), (2, 42), (0, (if anyN (fun p => decide (¬ σ 46 p = σ 247 p)) np = true then 1 else 0)), (0, ((np : Nat) : Int))], [(0, (τ 42 0)), (0, ((np : Nat) : Int))], τ)) rfl rfl ?_
    refine TT.top0 (z := ((np : Nat) : Int)) ((hP.1 _ _ (by omega)).trans hc) ?_
    refine TT.steps (cd := cd231) 1 (c' := ((if decide (((np : Nat) : Int) ≤ ((np : Nat) : Int)) = true then 38 else 11), [(2, 0), (2, 42), (0, (if anyN (fun p => decide (¬ σ 46 p = σ 247 p)) np = true then 1 else 0)), (0, ((np : Nat) : Int))], [], τ)) rfl rfl ?_
    refine TT.br (p := ((np : Nat) : Int) ≤ ((np : Nat) : Int)) (fun h1 => ?_) (fun h1 => absurd (show ((np : Nat) : Int) ≤ ((np : Nat) : Int) by omega) h1)
    exact kk _ hP
  | succ d ih =>
    intro n hn τ hP
    refine TT.steps (cd := cd231) 3 (c' := (10, [(2, 0), (2, 42), (0, (if anyN (fun p => decide (¬ σ 46 p = σ 247 p)) n = true then 1 else 0)), (0, ((n : Nat) : Int))], [(0, (τ 42 0)), (0, ((n : Nat) : Int))], τ)) rfl rfl ?_
    refine TT.top0 (z := ((np : Nat) : Int)) ((hP.1 _ _ (by omega)).trans hc) ?_
    refine TT.steps (cd := cd231) 1 (c' := ((if decide (((np : Nat) : Int) ≤ ((n : Nat) : Int)) = true then 38 else 11), [(2, 0), (2, 42), (0, (if anyN (fun p => decide (¬ σ 46 p = σ 247 p)) n = true then 1 else 0)), (0, ((n : Nat) : Int))], [], τ)) rfl rfl ?_
    refine TT.br (p := ((np : Nat) : Int) ≤ ((n : Nat) : Int)) (fun h1 => absurd h1 (show ¬ (((np : Nat) : Int) ≤ ((n : Nat) : Int)) by omega)) (fun h1 => ?_)
    refine TT.steps (cd := cd231) 4 (c' := (15, [(2, 0), (2, 42), (0, (if anyN (fun p => decide (¬ σ 46 p = σ 247 p)) n = true then 1 else 0)), (0, ((n : Nat) : Int))], [(0, ((n : Nat) : Int)), (2, 46), (0, (if anyN (fun p => decide (¬ σ 46 p = σ 247 p)) n = true then 1 else 0))], τ)) rfl rfl ?_
    refine TT.aldN (cd := cd231) (46) (n) rfl rfl rfl rfl (show n < 10 by omega) ?_
    refine TT.top0 (z := (σ 46 n)) (hP.2.2 n (by omega)) ?_
    refine TT.steps (cd := cd231) 4 (c' := (20, [(2, 0), (2, 42), (0, (if anyN (fun p => decide (¬ σ 46 p = σ 247 p)) n = true then 1 else 0)), (0, ((n : Nat) : Int))], [(0, ((n : Nat) : Int)), (2, 247), (0, (σ 46 n)), (0, (if anyN (fun p => decide (¬ σ 46 p = σ 247 p)) n = true then 1 else 0))], τ)) rfl rfl ?_
    refine TT.aldN (cd := cd231) (247) (n) rfl rfl rfl rfl (show n < 10 by omega) ?_
    refine TT.top0 (z := (σ 247 n)) (hP.1 _ _ (by omega)) ?_
    refine TT.steps (cd := cd231) 1 (c' := ((if decide ((σ 46 n) = (σ 247 n)) = true then 24 else 22), [(2, 0), (2, 42), (0, (if anyN (fun p => decide (¬ σ 46 p = σ 247 p)) n = true then 1 else 0)), (0, ((n : Nat) : Int))], [(0, (if anyN (fun p => decide (¬ σ 46 p = σ 247 p)) n = true then 1 else 0))], τ)) rfl rfl ?_
    refine TT.br (p := (σ 46 n) = (σ 247 n)) (fun h2 => ?_) (fun h2 => ?_)
    · refine TT.steps (cd := cd231) 10 (c' := (34, [(2, 0), (2, 42), (0, (aOr ((if anyN (fun p => decide (¬ σ 46 p = σ 247 p)) n = true then 1 else 0) : Int) 0)), (0, ((n : Nat) : Int))], [(0, ((n : Nat) : Int)), (2, 247), (0, ((n : Nat) : Int)), (2, 46)], τ)) rfl rfl ?_
      refine TT.aldN (cd := cd231) (247) (n) rfl rfl rfl rfl (show n < 10 by omega) ?_
      refine TT.top0 (z := (σ 247 n)) (hP.1 _ _ (by omega)) ?_
      refine TT.astN (cd := cd231) (46) (n) rfl rfl rfl rfl (show n < 10 by omega) ?_
      refine TT.inc (cd := cd231) ((n + 1 : Nat) : Int) rfl rfl rfl rfl (fun h => absurd h.2 (show ¬ (0 = 1) by decide)) (aAdd_n (a := n) (b := 1) (by omega)) (ls' := [(2, 0), (2, 42), (0, (aOr ((if anyN (fun p => decide (¬ σ 46 p = σ 247 p)) n = true then 1 else 0) : Int) 0)), (0, ((n + 1 : Nat) : Int))]) rfl ?_
      refine TT.steps (cd := cd231) 1 (c' := (7, [(2, 0), (2, 42), (0, (aOr ((if anyN (fun p => decide (¬ σ 46 p = σ 247 p)) n = true then 1 else 0) : Int) 0)), (0, ((n + 1 : Nat) : Int))], [], (up2 τ 46 n (σ 247 n)))) rfl rfl ?_
      have e2 : (aOr ((if anyN (fun p => decide (¬ σ 46 p = σ 247 p)) n = true then 1 else 0) : Int) 0) = ((if anyN (fun p => decide (¬ σ 46 p = σ 247 p)) (n + 1) = true then 1 else 0) : Int) := by rw [anyN]; by_cases g : anyN (fun p => decide (¬ σ 46 p = σ 247 p)) n = true <;> simp_all <;> first | rfl | decide
      rw [e2]
      clear e2
      have e3 : ((n + 1 : Nat) : Int) = (((n + 1) : Nat) : Int) := by omega
      rw [e3]
      clear e3
      exact ih (n + 1) (by omega) _ (PD_s hP)
    · refine TT.steps (cd := cd231) 11 (c' := (34, [(2, 0), (2, 42), (0, (aOr ((if anyN (fun p => decide (¬ σ 46 p = σ 247 p)) n = true then 1 else 0) : Int) 1)), (0, ((n : Nat) : Int))], [(0, ((n : Nat) : Int)), (2, 247), (0, ((n : Nat) : Int)), (2, 46)], τ)) rfl rfl ?_
      refine TT.aldN (cd := cd231) (247) (n) rfl rfl rfl rfl (show n < 10 by omega) ?_
      refine TT.top0 (z := (σ 247 n)) (hP.1 _ _ (by omega)) ?_
      refine TT.astN (cd := cd231) (46) (n) rfl rfl rfl rfl (show n < 10 by omega) ?_
      refine TT.inc (cd := cd231) ((n + 1 : Nat) : Int) rfl rfl rfl rfl (fun h => absurd h.2 (show ¬ (0 = 1) by decide)) (aAdd_n (a := n) (b := 1) (by omega)) (ls' := [(2, 0), (2, 42), (0, (aOr ((if anyN (fun p => decide (¬ σ 46 p = σ 247 p)) n = true then 1 else 0) : Int) 1)), (0, ((n + 1 : Nat) : Int))]) rfl ?_
      refine TT.steps (cd := cd231) 1 (c' := (7, [(2, 0), (2, 42), (0, (aOr ((if anyN (fun p => decide (¬ σ 46 p = σ 247 p)) n = true then 1 else 0) : Int) 1)), (0, ((n + 1 : Nat) : Int))], [], (up2 τ 46 n (σ 247 n)))) rfl rfl ?_
      have e2 : (aOr ((if anyN (fun p => decide (¬ σ 46 p = σ 247 p)) n = true then 1 else 0) : Int) 1) = ((if anyN (fun p => decide (¬ σ 46 p = σ 247 p)) (n + 1) = true then 1 else 0) : Int) := by rw [anyN]; by_cases g : anyN (fun p => decide (¬ σ 46 p = σ 247 p)) n = true <;> simp_all <;> first | rfl | decide
      rw [e2]
      clear e2
      have e3 : ((n + 1 : Nat) : Int) = (((n + 1) : Nat) : Int) := by omega
      rw [e3]
      clear e3
      exact ih (n + 1) (by omega) _ (PD_s hP)
theorem v_passDay_42 (X : AX) {l : Nat} (hl : l = 8 ∨ l = 170) {σ ρ : AH} {b v np nt ns : Nat} {L : Nat → Nat} {C : Nat → Nat → Nat} (hW : WK σ ρ l b 42 v np nt ns L C)  : TT X 231 (0, [(2, 0), (2, 42), (9, 0), (9, 0)], [], σ) (fun r σ' => ∃ σ1 : AH, PR σ1 l 42 np nt L ∧ DD σ σ1 ρ b v np nt ns L C ∧ PD σ1 σ' 42 np ∧ (∀ K j, (K < 198 ∨ 254 < K) → σ1 K j = σ K j) ∧ PT σ1 ρ 42 v np ns ∧ r = some (0, if anyN (fun p => decide (¬ σ1 46 p = σ1 247 p)) np = true then 1 else 0)) := by
  obtain ⟨h05, hL, hPT, hF, hsd⟩ := id hW
  have hnp2 := hL.2.2.1.1
  refine TT.steps (cd := cd231) 2 (c' := (2, [(2, 0), (2, 42), (9, 0), (9, 0)], [(2, 42), (2, 0)], σ)) rfl rfl ?_
  refine TT.call (cd := cd231) rfl rfl rfl (by decide) rfl (w_tryDay_42 X hl h05 hL hPT.1 hPT.2.2.1 hF) (fun r1 σ1 hq => ?_)
  obtain ⟨rfl, hFr, hPR, hDD⟩ := hq
  have hPT1 : PT σ1 ρ 42 v np ns := PT_mv hPT hnp2 (fun K j hK => hFr K j (by omega)) rfl (fun _ _ _ _ => rfl)
  refine TT.steps (cd := cd231) 4 (c' := (7, [(2, 0), (2, 42), (0, 0), (0, 0)], [], σ1)) rfl rfl ?_
  refine vl_pd_42 X _ np hnp2 σ1 hPT1.1.1 (fun τ2 hP2 => ?_) np 0 (by omega) σ1 ⟨fun _ _ _ => rfl, fun p hp => by omega, fun p hp => rfl⟩
  refine TT.steps (cd := cd231) 1 (c' := (39, [(2, 0), (2, 42), (0, (if anyN (fun p => decide (¬ σ1 46 p = σ1 247 p)) np = true then 1 else 0)), (0, ((np : Nat) : Int))], [(0, (if anyN (fun p => decide (¬ σ1 46 p = σ1 247 p)) np = true then 1 else 0))], τ2)) rfl rfl ?_
  by_cases g : anyN (fun p => decide (¬ σ1 46 p = σ1 247 p)) np = true
  · rw [if_pos g]
    exact TT.ret (cd := cd231) rfl rfl rfl rfl ⟨_, hPR, hDD, hP2, hFr, hPT1, by rw [if_pos g]⟩
  · rw [if_neg g]
    exact TT.ret (cd := cd231) rfl rfl rfl rfl ⟨_, hPR, hDD, hP2, hFr, hPT1, by rw [if_neg g]⟩
