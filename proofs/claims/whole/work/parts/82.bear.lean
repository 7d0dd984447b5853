/-! Bear, settles, runs of the class. -/
theorem RS_day (ρ : AH) (b v np nt : Nat) (L : Nat → Nat) : RS ρ (mDay ρ b v np nt L) := ⟨fun K j hK => mDay_fr _ _ _ _ _ _ _ _ (by omega), fun j hj => mDay_5 _ _ _ _ _ _ _ hj, fun j hj => mDay_fr _ _ _ _ _ _ _ _ (by omega), fun K j hK hj => mDay_fr _ _ _ _ _ _ _ _ (by omega)⟩
theorem RS_cp (ρ : AH) : RS ρ (cpN ρ 1 0 10) := ⟨fun K j hK => cpN_fr _ _ _ _ _ _ (by omega), fun j hj => cpN_fr _ _ _ _ _ _ (by omega), fun j hj => (cpN_o ρ 1 0).1 j hj, fun K j hK hj => (cpN_o ρ 1 0).2 K j (by omega) (by omega)⟩
theorem RS_up {ρ : AH} {K0 j0 : Nat} {x : Int} (h : 316 < K0 ∧ K0 < 323 ∧ 10 ≤ j0 ∧ j0 < 20) : RS ρ (up2 ρ K0 j0 x) := ⟨fun K j hK => up2_nq _ (by omega), fun j hj => up2_nq _ (by omega), fun j hj => up2_nq _ (by omega), fun K j hK hj => up2_nq _ (by omega)⟩
theorem RS_46 (ρ : AH) (x : Int) : RS ρ (up2 ρ 295 46 x) := ⟨fun K j hK => up2_nq _ (by omega), fun j hj => up2_nq _ (by omega), fun j hj => up2_nq _ (by omega), fun K j hK hj => up2_nq _ (by omega)⟩
theorem LT_q {σ τ ρ ρ' : AH} {l b np nt ns : Nat} {L : Nat → Nat} {C : Nat → Nat → Nat} (hl : l = 8 ∨ l = 170) (h : LT σ ρ l b np nt ns L C) (h1 : QS σ τ) (h2 : RS ρ ρ') : LT τ ρ' l b np nt ns L C := LT_mv hl h (fun K j hK => h1 K j (by omega)) (fun K j hK => h2.1 K j (by omega)) (h2.2.1 13 (by decide))
theorem FL_q {ρ ρ' : AH} (h : FL ρ) (h2 : RS ρ ρ') : FL ρ' := by unfold FL; rw [h2.2.1 44 (by decide), h2.2.1 45 (by decide), h2.2.1 57 (by decide)]; exact h
def BP (σ τ : AH) (p : Nat) : Prop := QS σ τ ∧ (∀ j, j < 3 → τ 42 j = σ 36 j) ∧ (∀ j, j < 10 → τ 43 j = σ 37 j ∧ τ 46 j = σ 40 j ∧ τ 47 j = σ 41 j) ∧ (∀ j, j < 10 → j ≠ p → τ 44 j = σ 38 j ∧ τ 45 j = σ 39 j) ∧ τ 45 p = -1
theorem BP_0 {σ τ : AH} {p : Nat} (hc : CP σ τ 42 36) : BP σ (up2 τ 45 p (-1)) p := by
  refine ⟨fun K j hK => ?_, fun j hj => ?_, fun j hj => ?_, fun j hj hp => ?_, up2_hit _ _ _ _⟩
  · rw [up2_nq _ (by omega)]; exact hc.1 K j (by omega)
  · rw [up2_nq _ (by omega)]; exact hc.2.1 j hj
  · rw [up2_nq _ (by omega), up2_nq _ (by omega), up2_nq _ (by omega)]; exact ⟨hc.2.2 1 j (by decide) (by decide) hj, hc.2.2 4 j (by decide) (by decide) hj, hc.2.2 5 j (by decide) (by decide) hj⟩
  · rw [up2_nq _ (by omega), up2_nq _ (by omega)]; exact ⟨hc.2.2 2 j (by decide) (by decide) hj, hc.2.2 3 j (by decide) (by decide) hj⟩
theorem BP_mv {σ τ υ : AH} {p : Nat} (h : BP σ τ p) (hF : ∀ K j, (K < 198 ∨ 254 < K) → ¬ (K = 44 ∧ j = p) → υ K j = τ K j) : BP σ υ p := by
  obtain ⟨h1, h2, h3, h4, h5⟩ := h
  refine ⟨fun K j hK => ?_, fun j hj => ?_, fun j hj => ?_, fun j hj hp => ?_, ?_⟩
  · rw [hF _ _ (by omega) (by omega)]; exact h1 K j hK
  · rw [hF _ _ (by omega) (by omega)]; exact h2 j hj
  · rw [hF _ _ (by omega) (by omega), hF _ _ (by omega) (by omega), hF _ _ (by omega) (by omega)]; exact h3 j hj
  · rw [hF _ _ (by omega) (by omega), hF _ _ (by omega) (by omega)]; exact h4 j hj hp
  · rw [hF _ _ (by omega) (by omega)]; exact h5
abbrev bR (ρ : AH) (p n : Nat) : AH := up2 (up2 (cpN ρ 1 0 10) 318 (10 + p) ((n : Nat) : Int)) 319 (10 + p) (-1)
theorem bR_RS (ρ : AH) {p n : Nat} (hp : p < 10) : RS ρ (bR ρ p n) := (RS_cp ρ).trans ((RS_up (by omega)).trans (RS_up (by omega)))
theorem bR_at (ρ : AH) (p n p' : Nat) (h : p' < 10) : bR ρ p n 318 (10 * 1 + p') = (if p' = p then (n : Int) else ρ 318 p') ∧ bR ρ p n 319 (10 * 1 + p') = (if p' = p then -1 else ρ 319 p') ∧ bR ρ p n 320 (10 * 1 + p') = ρ 320 p' ∧ bR ρ p n 321 (10 * 1 + p') = ρ 321 p' ∧ bR ρ p n 322 (10 * 1 + p') = ρ 322 p' := by
  have cl := (cpN_l ρ 1 0).2
  refine ⟨?_, ?_, ?_, ?_, ?_⟩
  · show up2 (up2 (cpN ρ 1 0 10) 318 (10 + p) ((n : Nat) : Int)) 319 (10 + p) (-1) 318 (10 * 1 + p') = _
    rw [up2_nq _ (by omega)]
    by_cases e : p' = p
    · subst e; rw [if_pos rfl, up2_hit]
    · rw [if_neg e, up2_nq _ (by omega), cl 318 p' (by omega) h]; simp
  · show up2 (up2 (cpN ρ 1 0 10) 318 (10 + p) ((n : Nat) : Int)) 319 (10 + p) (-1) 319 (10 * 1 + p') = _
    by_cases e : p' = p
    · subst e; rw [if_pos rfl, up2_hit]
    · rw [if_neg e, up2_nq _ (by omega), up2_nq _ (by omega), cl 319 p' (by omega) h]; simp
  · show up2 (up2 (cpN ρ 1 0 10) 318 (10 + p) ((n : Nat) : Int)) 319 (10 + p) (-1) 320 (10 * 1 + p') = _
    rw [up2_nq _ (by omega), up2_nq _ (by omega), cl 320 p' (by omega) h]; simp
  · show up2 (up2 (cpN ρ 1 0 10) 318 (10 + p) ((n : Nat) : Int)) 319 (10 + p) (-1) 321 (10 * 1 + p') = _
    rw [up2_nq _ (by omega), up2_nq _ (by omega), cl 321 p' (by omega) h]; simp
  · show up2 (up2 (cpN ρ 1 0 10) 318 (10 + p) ((n : Nat) : Int)) 319 (10 + p) (-1) 322 (10 * 1 + p') = _
    rw [up2_nq _ (by omega), up2_nq _ (by omega), cl 322 p' (by omega) h]; simp
theorem bear_PT {σ τ ρ ρi : AH} {np ns p n : Nat} (hn : np ≤ 10) (hp : p < np) (hb : BP σ τ p) (hP : PT σ ρ 36 0 np ns) (hR : RS ρ ρi) (hns : n < ns) : PTb (up2 τ 44 p (n : Int)) (bR ρi p n) 42 1 np ns ∧ (up2 τ 44 p (n : Int)) 42 2 = ((bs (zH (bR ρi p n) 1) np : Nat) : Int) := by
  obtain ⟨⟨b1, b2⟩, y, hh, c⟩ := hP
  obtain ⟨h1, h2, h3, h4, h5⟩ := hb
  refine ⟨⟨?_, fun p' hp' => ?_⟩, ?_⟩
  · rw [up2_nq _ (by omega), h2 0 (by decide)]; exact b1
  · obtain ⟨e1, e3, e4, e6⟩ := b2 p' hp'
    obtain ⟨g1, g2, g3, g4, -⟩ := bR_at ρi p n p' (by omega)
    rw [g1, g2, g3, g4, hR.2.2.2 318 p' (by omega) (by omega), hR.2.2.2 319 p' (by omega) (by omega), hR.2.2.2 320 p' (by omega) (by omega), hR.2.2.2 321 p' (by omega) (by omega)]
    rw [show 10 * 0 + p' = p' by omega] at e1 e3 e4 e6
    have k4 : up2 τ 44 p (n : Int) (42 + 4) p' = σ 40 p' := by rw [up2_nq _ (by omega)]; exact (h3 p' (by omega)).2.1
    have k5 : up2 τ 44 p (n : Int) (42 + 5) p' = σ 41 p' := by rw [up2_nq _ (by omega)]; exact (h3 p' (by omega)).2.2
    rw [k4, k5]
    by_cases e : p' = p
    · subst e
      rw [if_pos rfl, if_pos rfl, up2_nq (k' := 42 + 3) _ (by omega)]
      exact ⟨⟨n, hns, up2_hit _ _ _ _, rfl⟩, h5, e4, e6⟩
    · rw [if_neg e, if_neg e, up2_nq _ (by omega), up2_nq _ (by omega)]
      obtain ⟨k2, k3⟩ := h4 p' (by omega) e
      exact ⟨by rw [show 42 + 2 = 44 from rfl, k2]; exact e1, by rw [show 42 + 3 = 45 from rfl, k3]; exact e3, e4, e6⟩
  · rw [up2_nq _ (by omega), h2 2 (by decide), hh]
    refine congrArg (fun x : Nat => (x : Int)) (bs_c (fun p' hp' => ?_))
    show decide _ = decide _
    rw [(bR_at ρi p n p' (by omega)).2.2.2.2, hR.2.2.2 322 p' (by omega) (by omega), show 10 * 0 + p' = p' by omega]
theorem v_countGoodW (X : AX) {l q : Nat} (hl : l = 8 ∨ l = 170) (hq : q = 36 ∨ q = 42) {σ τ υ ρ : AH} {b v np nt ns : Nat} {L : Nat → Nat} {C : Nat → Nat → Nat} (h : DD σ τ ρ b v np nt ns L C) (hU : ρ 295 57 = -1) (hP : PR τ l q np nt L) (hL : LT τ ρ l b np nt ns L C) (hT : PTb τ ρ q v np ns) (hυ : ∀ K j, K ≠ q + 4 → υ K j = τ K j) : TT X k_X1_countGood (0, [(2, 198)], [], υ) (fun r υ' => r = some (0, mGood (mDay ρ b v np nt L) v np) ∧ υ' = υ) := by
  have key : ∀ r υ', (r = some (0, ((cnt (fun p => anyN (fun s => decide (mDay ρ b v np nt L 333 p = -1 ∧ mDay ρ b v np nt L 334 p = (s : Int) ∧ ¬ (p : Int) = mDay ρ b v np nt L 295 44) && decide (τ (q + 5) p = (s : Int))) ns && !(zH ρ v p)) np : Nat) : Int)) ∧ υ' = υ) → ((r : Option AV) = some (0, mGood (mDay ρ b v np nt L) v np) ∧ (υ' : AH) = υ) := by
    intro r υ' hr
    rw [hr.1, cnt_c (fun p hp => DD_good h hU hT p hp), mGood_c _ _ hL.2.2.1.1]
    exact ⟨rfl, hr.2⟩
  obtain ⟨⟨n, hn, hE⟩, h2, h13⟩ := id h
  have hns2 := hL.2.2.1.2.2.1
  have e3 : ∀ s, s < ns → υ 254 s = _ := fun s hs => (hυ _ _ (by omega)).trans (hE.2.2.1 s (by omega))
  have e4 : ∀ s, s < ns → υ 201 s = _ := fun s hs => (hυ _ _ (by omega)).trans (hP.2.1 s (by omega)).2
  rcases hl with rfl | rfl
  · exact (u_countGood_8 X (zH ρ v) ns np _ _ υ ((hυ _ _ (by omega)).trans hP.1.1) ((hυ _ _ (by omega)).trans hL.1.1) hns2 hL.2.2.1.1 e3 e4 ((hυ _ _ (by omega)).trans h13)).mono key
  · exact (u_countGood_170 X (zH ρ v) ns np _ _ υ ((hυ _ _ (by omega)).trans hP.1.1) ((hυ _ _ (by omega)).trans hL.1.1) hns2 hL.2.2.1.1 e3 e4 ((hυ _ _ (by omega)).trans h13)).mono key
theorem mBe_t {ρ : AH} {b np nt p n : Nat} {L : Nat → Nat} (h : (mBe ρ b np nt L p n).2.1 < mGood (mDay (bR (mBe ρ b np nt L p n).2.2 p n) b 1 np nt L) 1 np) : mBe ρ b np nt L p (n + 1) = (((n : Nat) : Int), mGood (mDay (bR (mBe ρ b np nt L p n).2.2 p n) b 1 np nt L) 1 np, mDay (bR (mBe ρ b np nt L p n).2.2 p n) b 1 np nt L) := by
  rw [mBe]; unfold stBe; exact if_pos h
theorem mBe_f {ρ : AH} {b np nt p n : Nat} {L : Nat → Nat} (h : ¬ (mBe ρ b np nt L p n).2.1 < mGood (mDay (bR (mBe ρ b np nt L p n).2.2 p n) b 1 np nt L) 1 np) : mBe ρ b np nt L p (n + 1) = ((mBe ρ b np nt L p n).1, (mBe ρ b np nt L p n).2.1, mDay (bR (mBe ρ b np nt L p n).2.2 p n) b 1 np nt L) := by
  rw [mBe]; unfold stBe; exact if_neg h
theorem vl_bear_8 (X : AX) (Q : Option AV → AH → Prop) {σ ρ : AH} {b np nt ns : Nat} {L : Nat → Nat} {C : Nat → Nat → Nat} (hl : 8 = 8 ∨ 8 = 170) (h05 : σ 0 5 = ((8 : Nat) : Int)) (hL : LT σ ρ 8 b np nt ns L C) (hPT : PT σ ρ 36 0 np ns) (hF : FL ρ) (c1 : np ≤ 10) (c3 : ns ≤ 14) (p : Nat) (hp : p < np) (w0 : Int)  (kk : ∀ (τ : AH) (y6 : AV), (BP σ τ p ∧ RS ρ (mBe ρ b np nt L p ns).2.2) → TT X 205 (56, [(2, 0), (0, ((p : Nat) : Int)), (0, w0), (0, (mBe ρ b np nt L p ns).1), (0, (mBe ρ b np nt L p ns).2.1), (0, ((ns : Nat) : Int)), y6], [], τ) Q) : ∀ (d n : Nat), n + d = ns → ∀ (τ : AH) (y6 : AV), (BP σ τ p ∧ RS ρ (mBe ρ b np nt L p n).2.2) → TT X 205 (28, [(2, 0), (0, ((p : Nat) : Int)), (0, w0), (0, (mBe ρ b np nt L p n).1), (0, (mBe ρ b np nt L p n).2.1), (0, ((n : Nat) : Int)), y6], [], τ) Q := by
  intro d
  induction d with
  | zero =>
    intro n hn τ y6 hP
    have hnn : n = ns := by omega
    rw [hnn] at hP ⊢
    refine TT.steps (cd := cd205) 3 (c' := (31, [(2, 0), (0, ((p : Nat) : Int)), (0, w0), (0, (mBe ρ b np nt L p ns).1), (0, (mBe ρ b np nt L p ns).2.1), (0, ((ns : Nat) : Int)), y6], [(2, (τ 0 5)), (0, ((ns : Nat) : Int))], τ)) rfl rfl ?_
    refine TT.top0 (z := 8) ((hP.1.1 _ _ (by omega)).trans h05) ?_
    refine TT.steps (cd := cd205) 1 (c' := (32, [(2, 0), (0, ((p : Nat) : Int)), (0, w0), (0, (mBe ρ b np nt L p ns).1), (0, (mBe ρ b np nt L p ns).2.1), (0, ((ns : Nat) : Int)), y6], [(0, (τ 8 1)), (0, ((ns : Nat) : Int))], τ)) rfl rfl ?_
    refine TT.top0 (z := ((ns : Nat) : Int)) ((hP.1.1 _ _ (by omega)).trans hL.1.1) ?_
    refine TT.steps (cd := cd205) 1 (c' := ((if decide (((ns : Nat) : Int) ≤ ((ns : Nat) : Int)) = true then 56 else 33), [(2, 0), (0, ((p : Nat) : Int)), (0, w0), (0, (mBe ρ b np nt L p ns).1), (0, (mBe ρ b np nt L p ns).2.1), (0, ((ns : Nat) : Int)), y6], [], τ)) rfl rfl ?_
    refine TT.br (p := ((ns : Nat) : Int) ≤ ((ns : Nat) : Int)) (fun h1 => ?_) (fun h1 => absurd (show ((ns : Nat) : Int) ≤ ((ns : Nat) : Int) by omega) h1)
    exact kk _ _ hP
  | succ d ih =>
    intro n hn τ y6 hP
    obtain ⟨hb, hR⟩ := id hP
    have hq4 := bear_PT c1 hp hb hPT hR (show n < ns by omega)
    have hR2 : RS ρ (bR ((mBe ρ b np nt L p n).2.2) p n) := hR.trans (bR_RS _ (by omega))
    have hQ2 : QS σ (up2 τ 44 p ((n : Nat) : Int)) := fun K j hK => (up2_nq _ (by omega)).trans (hb.1 K j hK)
    have hq5 : (up2 τ 44 p ((n : Nat) : Int)) 0 5 = ((8 : Nat) : Int) ∧ LT (up2 τ 44 p ((n : Nat) : Int)) (bR ((mBe ρ b np nt L p n).2.2) p n) 8 b np nt ns L C ∧ FL (bR ((mBe ρ b np nt L p n).2.2) p n) := ⟨(hQ2 _ _ (by omega)).trans h05, LT_q hl hL hQ2 hR2, FL_q hF hR2⟩
    refine TT.steps (cd := cd205) 3 (c' := (31, [(2, 0), (0, ((p : Nat) : Int)), (0, w0), (0, (mBe ρ b np nt L p n).1), (0, (mBe ρ b np nt L p n).2.1), (0, ((n : Nat) : Int)), y6], [(2, (τ 0 5)), (0, ((n : Nat) : Int))], τ)) rfl rfl ?_
    refine TT.top0 (z := 8) ((hP.1.1 _ _ (by omega)).trans h05) ?_
    refine TT.steps (cd := cd205) 1 (c' := (32, [(2, 0), (0, ((p : Nat) : Int)), (0, w0), (0, (mBe ρ b np nt L p n).1), (0, (mBe ρ b np nt L p n).2.1), (0, ((n : Nat) : Int)), y6], [(0, (τ 8 1)), (0, ((n : Nat) : Int))], τ)) rfl rfl ?_
    refine TT.top0 (z := ((ns : Nat) : Int)) ((hP.1.1 _ _ (by omega)).trans hL.1.1) ?_
    refine TT.steps (cd := cd205) 1 (c' := ((if decide (((ns : Nat) : Int) ≤ ((n : Nat) : Int)) = true then 56 else 33), [(2, 0), (0, ((p : Nat) : Int)), (0, w0), (0, (mBe ρ b np nt L p n).1), (0, (mBe ρ b np nt L p n).2.1), (0, ((n : Nat) : Int)), y6], [], τ)) rfl rfl ?_
    refine TT.br (p := ((ns : Nat) : Int) ≤ ((n : Nat) : Int)) (fun h1 => absurd h1 (show ¬ (((ns : Nat) : Int) ≤ ((n : Nat) : Int)) by omega)) (fun h1 => ?_)
    refine TT.steps (cd := cd205) 5 (c' := (38, [(2, 0), (0, ((p : Nat) : Int)), (0, w0), (0, (mBe ρ b np nt L p n).1), (0, (mBe ρ b np nt L p n).2.1), (0, ((n : Nat) : Int)), y6], [(0, ((n : Nat) : Int)), (0, ((p : Nat) : Int)), (2, 44)], τ)) rfl rfl ?_
    refine TT.astN (cd := cd205) (44) (p) rfl rfl rfl rfl (show p < 10 by omega) ?_
    refine TT.steps (cd := cd205) 3 (c' := (42, [(2, 0), (0, ((p : Nat) : Int)), (0, w0), (0, (mBe ρ b np nt L p n).1), (0, (mBe ρ b np nt L p n).2.1), (0, ((n : Nat) : Int)), y6], [(2, 42), (2, 0)], (up2 τ 44 p ((n : Nat) : Int)))) rfl rfl ?_
    refine TT.call (cd := cd205) rfl rfl rfl (by decide) rfl (w_tryDay_42 X hl hq5.1 hq5.2.1 hq4.1 hq4.2 hq5.2.2) (fun r2 σ2 hq => ?_)
    obtain ⟨rfl, hFr, hPR, hDD⟩ := hq
    refine TT.steps (cd := cd205) 2 (c' := (45, [(2, 0), (0, ((p : Nat) : Int)), (0, w0), (0, (mBe ρ b np nt L p n).1), (0, (mBe ρ b np nt L p n).2.1), (0, ((n : Nat) : Int)), y6], [(2, 198)], σ2)) rfl rfl ?_
    refine TT.call (cd := cd205) rfl rfl rfl (by decide) rfl (v_countGood X hl hDD hq5.2.2.2.2 hPR (LT_mv hl hq5.2.1 (fun K j hK => hFr K j (by omega)) (fun _ _ _ => rfl) rfl) (PTb_mv hq4.1 (fun K j hK => hFr K j (by omega)) (fun _ _ _ => rfl))) (fun r3 σ3 hq => ?_)
    rw [hq.1, hq.2]
    refine TT.steps (cd := cd205) 4 (c' := ((if decide ((mGood (mDay (bR ((mBe ρ b np nt L p n).2.2) p n) b 1 np nt L) 1 np) ≤ (mBe ρ b np nt L p n).2.1) = true then 54 else 50), [(2, 0), (0, ((p : Nat) : Int)), (0, w0), (0, (mBe ρ b np nt L p n).1), (0, (mBe ρ b np nt L p n).2.1), (0, ((n : Nat) : Int)), (0, (mGood (mDay (bR ((mBe ρ b np nt L p n).2.2) p n) b 1 np nt L) 1 np))], [], σ2)) rfl rfl ?_
    refine TT.br (p := (mGood (mDay (bR ((mBe ρ b np nt L p n).2.2) p n) b 1 np nt L) 1 np) ≤ (mBe ρ b np nt L p n).2.1) (fun h4 => ?_) (fun h4 => ?_)
    · refine TT.inc (cd := cd205) ((n + 1 : Nat) : Int) rfl rfl rfl rfl (fun h => absurd h.2 (show ¬ (0 = 1) by decide)) (aAdd_n (a := n) (b := 1) (by omega)) (ls' := [(2, 0), (0, ((p : Nat) : Int)), (0, w0), (0, (mBe ρ b np nt L p n).1), (0, (mBe ρ b np nt L p n).2.1), (0, ((n + 1 : Nat) : Int)), (0, (mGood (mDay (bR ((mBe ρ b np nt L p n).2.2) p n) b 1 np nt L) 1 np))]) rfl ?_
      refine TT.steps (cd := cd205) 1 (c' := (28, [(2, 0), (0, ((p : Nat) : Int)), (0, w0), (0, (mBe ρ b np nt L p n).1), (0, (mBe ρ b np nt L p n).2.1), (0, ((n + 1 : Nat) : Int)), (0, (mGood (mDay (bR ((mBe ρ b np nt L p n).2.2) p n) b 1 np nt L) 1 np))], [], σ2)) rfl rfl ?_
      have e3 : (mBe ρ b np nt L p n).1 = (mBe ρ b np nt L p (n + 1)).1 := by first | exact (congrArg (fun x : Int × Int × AH => x.1) (mBe_t (ρ := ρ) (b := b) (np := np) (nt := nt) (p := p) (n := n) (L := L) (by omega))).symm | exact (congrArg (fun x : Int × Int × AH => x.1) (mBe_f (ρ := ρ) (b := b) (np := np) (nt := nt) (p := p) (n := n) (L := L) (by omega))).symm
      rw [e3]
      clear e3
      have e4 : (mBe ρ b np nt L p n).2.1 = (mBe ρ b np nt L p (n + 1)).2.1 := by first | exact (congrArg (fun x : Int × Int × AH => x.2.1) (mBe_t (ρ := ρ) (b := b) (np := np) (nt := nt) (p := p) (n := n) (L := L) (by omega))).symm | exact (congrArg (fun x : Int × Int × AH => x.2.1) (mBe_f (ρ := ρ) (b := b) (np := np) (nt := nt) (p := p) (n := n) (L := L) (by omega))).symm
      rw [e4]
      clear e4
      have e5 : ((n + 1 : Nat) : Int) = (((n + 1) : Nat) : Int) := by omega
      rw [e5]
      clear e5
      exact ih (n + 1) (by omega) _ _ (⟨BP_mv hP.1 (fun K j hK hj => (hFr K j hK).trans (up2_nq _ (by omega))), by first | (rw [mBe_t (ρ := ρ) (b := b) (np := np) (nt := nt) (p := p) (n := n) (L := L) (by omega)]; exact hR2.trans (RS_day _ _ _ _ _ _)) | (rw [mBe_f (ρ := ρ) (b := b) (np := np) (nt := nt) (p := p) (n := n) (L := L) (by omega)]; exact hR2.trans (RS_day _ _ _ _ _ _))⟩)
    · refine TT.steps (cd := cd205) 4 (c' := (54, [(2, 0), (0, ((p : Nat) : Int)), (0, w0), (0, ((n : Nat) : Int)), (0, (mGood (mDay (bR ((mBe ρ b np nt L p n).2.2) p n) b 1 np nt L) 1 np)), (0, ((n : Nat) : Int)), (0, (mGood (mDay (bR ((mBe ρ b np nt L p n).2.2) p n) b 1 np nt L) 1 np))], [], σ2)) rfl rfl ?_
      refine TT.inc (cd := cd205) ((n + 1 : Nat) : Int) rfl rfl rfl rfl (fun h => absurd h.2 (show ¬ (0 = 1) by decide)) (aAdd_n (a := n) (b := 1) (by omega)) (ls' := [(2, 0), (0, ((p : Nat) : Int)), (0, w0), (0, ((n : Nat) : Int)), (0, (mGood (mDay (bR ((mBe ρ b np nt L p n).2.2) p n) b 1 np nt L) 1 np)), (0, ((n + 1 : Nat) : Int)), (0, (mGood (mDay (bR ((mBe ρ b np nt L p n).2.2) p n) b 1 np nt L) 1 np))]) rfl ?_
      refine TT.steps (cd := cd205) 1 (c' := (28, [(2, 0), (0, ((p : Nat) : Int)), (0, w0), (0, ((n : Nat) : Int)), (0, (mGood (mDay (bR ((mBe ρ b np nt L p n).2.2) p n) b 1 np nt L) 1 np)), (0, ((n + 1 : Nat) : Int)), (0, (mGood (mDay (bR ((mBe ρ b np nt L p n).2.2) p n) b 1 np nt L) 1 np))], [], σ2)) rfl rfl ?_
      have e3 : ((n : Nat) : Int) = (mBe ρ b np nt L p (n + 1)).1 := by first | exact (congrArg (fun x : Int × Int × AH => x.1) (mBe_t (ρ := ρ) (b := b) (np := np) (nt := nt) (p := p) (n := n) (L := L) (by omega))).symm | exact (congrArg (fun x : Int × Int × AH => x.1) (mBe_f (ρ := ρ) (b := b) (np := np) (nt := nt) (p := p) (n := n) (L := L) (by omega))).symm
      rw [e3]
      clear e3
      have e4 : (mGood (mDay (bR ((mBe ρ b np nt L p n).2.2) p n) b 1 np nt L) 1 np) = (mBe ρ b np nt L p (n + 1)).2.1 := by first | exact (congrArg (fun x : Int × Int × AH => x.2.1) (mBe_t (ρ := ρ) (b := b) (np := np) (nt := nt) (p := p) (n := n) (L := L) (by omega))).symm | exact (congrArg (fun x : Int × Int × AH => x.2.1) (mBe_f (ρ := ρ) (b := b) (np := np) (nt := nt) (p := p) (n := n) (L := L) (by omega))).symm
      rw [e4]
      clear e4
      have e5 : ((n + 1 : Nat) : Int) = (((n + 1) : Nat) : Int) := by omega
      rw [e5]
      clear e5
      exact ih (n + 1) (by omega) _ _ (⟨BP_mv hP.1 (fun K j hK hj => (hFr K j hK).trans (up2_nq _ (by omega))), by first | (rw [mBe_t (ρ := ρ) (b := b) (np := np) (nt := nt) (p := p) (n := n) (L := L) (by omega)]; exact hR2.trans (RS_day _ _ _ _ _ _)) | (rw [mBe_f (ρ := ρ) (b := b) (np := np) (nt := nt) (p := p) (n := n) (L := L) (by omega)]; exact hR2.trans (RS_day _ _ _ _ _ _))⟩)
theorem vl_bear_170 (X : AX) (Q : Option AV → AH → Prop) {σ ρ : AH} {b np nt ns : Nat} {L : Nat → Nat} {C : Nat → Nat → Nat} (hl : 170 = 8 ∨ 170 = 170) (h05 : σ 0 5 = ((170 : Nat) : Int)) (hL : LT σ ρ 170 b np nt ns L C) (hPT : PT σ ρ 36 0 np ns) (hF : FL ρ) (c1 : np ≤ 10) (c3 : ns ≤ 14) (p : Nat) (hp : p < np) (w0 : Int)  (kk : ∀ (τ : AH) (y6 : AV), (BP σ τ p ∧ RS ρ (mBe ρ b np nt L p ns).2.2) → TT X 205 (56, [(2, 0), (0, ((p : Nat) : Int)), (0, w0), (0, (mBe ρ b np nt L p ns).1), (0, (mBe ρ b np nt L p ns).2.1), (0, ((ns : Nat) : Int)), y6], [], τ) Q) : ∀ (d n : Nat), n + d = ns → ∀ (τ : AH) (y6 : AV), (BP σ τ p ∧ RS ρ (mBe ρ b np nt L p n).2.2) → TT X 205 (28, [(2, 0), (0, ((p : Nat) : Int)), (0, w0), (0, (mBe ρ b np nt L p n).1), (0, (mBe ρ b np nt L p n).2.1), (0, ((n : Nat) : Int)), y6], [], τ) Q := by
  intro d
  induction d with
  | zero =>
    intro n hn τ y6 hP
    have hnn : n = ns := by omega
    rw [hnn] at hP ⊢
    refine TT.steps (cd := cd205) 3 (c' := (31, [(2, 0), (0, ((p : Nat) : Int)), (0, w0), (0, (mBe ρ b np nt L p ns).1), (0, (mBe ρ b np nt L p ns).2.1), (0, ((ns : Nat) : Int)), y6], [(2, (τ 0 5)), (0, ((ns : Nat) : Int))], τ)) rfl rfl ?_
    refine TT.top0 (z := 170) ((hP.1.1 _ _ (by omega)).trans h05) ?_
    refine TT.steps (cd := cd205) 1 (c' := (32, [(2, 0), (0, ((p : Nat) : Int)), (0, w0), (0, (mBe ρ b np nt L p ns).1), (0, (mBe ρ b np nt L p ns).2.1), (0, ((ns : Nat) : Int)), y6], [(0, (τ 170 1)), (0, ((ns : Nat) : Int))], τ)) rfl rfl ?_
    refine TT.top0 (z := ((ns : Nat) : Int)) ((hP.1.1 _ _ (by omega)).trans hL.1.1) ?_
    refine TT.steps (cd := cd205) 1 (c' := ((if decide (((ns : Nat) : Int) ≤ ((ns : Nat) : Int)) = true then 56 else 33), [(2, 0), (0, ((p : Nat) : Int)), (0, w0), (0, (mBe ρ b np nt L p ns).1), (0, (mBe ρ b np nt L p ns).2.1), (0, ((ns : Nat) : Int)), y6], [], τ)) rfl rfl ?_
    refine TT.br (p := ((ns : Nat) : Int) ≤ ((ns : Nat) : Int)) (fun h1 => ?_) (fun h1 => absurd (show ((ns : Nat) : Int) ≤ ((ns : Nat) : Int) by omega) h1)
    exact kk _ _ hP
  | succ d ih =>
    intro n hn τ y6 hP
    obtain ⟨hb, hR⟩ := id hP
    have hq4 := bear_PT c1 hp hb hPT hR (show n < ns by omega)
    have hR2 : RS ρ (bR ((mBe ρ b np nt L p n).2.2) p n) := hR.trans (bR_RS _ (by omega))
    have hQ2 : QS σ (up2 τ 44 p ((n : Nat) : Int)) := fun K j hK => (up2_nq _ (by omega)).trans (hb.1 K j hK)
    have hq5 : (up2 τ 44 p ((n : Nat) : Int)) 0 5 = ((170 : Nat) : Int) ∧ LT (up2 τ 44 p ((n : Nat) : Int)) (bR ((mBe ρ b np nt L p n).2.2) p n) 170 b np nt ns L C ∧ FL (bR ((mBe ρ b np nt L p n).2.2) p n) := ⟨(hQ2 _ _ (by omega)).trans h05, LT_q hl hL hQ2 hR2, FL_q hF hR2⟩
    refine TT.steps (cd := cd205) 3 (c' := (31, [(2, 0), (0, ((p : Nat) : Int)), (0, w0), (0, (mBe ρ b np nt L p n).1), (0, (mBe ρ b np nt L p n).2.1), (0, ((n : Nat) : Int)), y6], [(2, (τ 0 5)), (0, ((n : Nat) : Int))], τ)) rfl rfl ?_
    refine TT.top0 (z := 170) ((hP.1.1 _ _ (by omega)).trans h05) ?_
    refine TT.steps (cd := cd205) 1 (c' := (32, [(2, 0), (0, ((p : Nat) : Int)), (0, w0), (0, (mBe ρ b np nt L p n).1), (0, (mBe ρ b np nt L p n).2.1), (0, ((n : Nat) : Int)), y6], [(0, (τ 170 1)), (0, ((n : Nat) : Int))], τ)) rfl rfl ?_
    refine TT.top0 (z := ((ns : Nat) : Int)) ((hP.1.1 _ _ (by omega)).trans hL.1.1) ?_
    refine TT.steps (cd := cd205) 1 (c' := ((if decide (((ns : Nat) : Int) ≤ ((n : Nat) : Int)) = true then 56 else 33), [(2, 0), (0, ((p : Nat) : Int)), (0, w0), (0, (mBe ρ b np nt L p n).1), (0, (mBe ρ b np nt L p n).2.1), (0, ((n : Nat) : Int)), y6], [], τ)) rfl rfl ?_
    refine TT.br (p := ((ns : Nat) : Int) ≤ ((n : Nat) : Int)) (fun h1 => absurd h1 (show ¬ (((ns : Nat) : Int) ≤ ((n : Nat) : Int)) by omega)) (fun h1 => ?_)
    refine TT.steps (cd := cd205) 5 (c' := (38, [(2, 0), (0, ((p : Nat) : Int)), (0, w0), (0, (mBe ρ b np nt L p n).1), (0, (mBe ρ b np nt L p n).2.1), (0, ((n : Nat) : Int)), y6], [(0, ((n : Nat) : Int)), (0, ((p : Nat) : Int)), (2, 44)], τ)) rfl rfl ?_
    refine TT.astN (cd := cd205) (44) (p) rfl rfl rfl rfl (show p < 10 by omega) ?_
    refine TT.steps (cd := cd205) 3 (c' := (42, [(2, 0), (0, ((p : Nat) : Int)), (0, w0), (0, (mBe ρ b np nt L p n).1), (0, (mBe ρ b np nt L p n).2.1), (0, ((n : Nat) : Int)), y6], [(2, 42), (2, 0)], (up2 τ 44 p ((n : Nat) : Int)))) rfl rfl ?_
    refine TT.call (cd := cd205) rfl rfl rfl (by decide) rfl (w_tryDay_42 X hl hq5.1 hq5.2.1 hq4.1 hq4.2 hq5.2.2) (fun r2 σ2 hq => ?_)
    obtain ⟨rfl, hFr, hPR, hDD⟩ := hq
    refine TT.steps (cd := cd205) 2 (c' := (45, [(2, 0), (0, ((p : Nat) : Int)), (0, w0), (0, (mBe ρ b np nt L p n).1), (0, (mBe ρ b np nt L p n).2.1), (0, ((n : Nat) : Int)), y6], [(2, 198)], σ2)) rfl rfl ?_
    refine TT.call (cd := cd205) rfl rfl rfl (by decide) rfl (v_countGood X hl hDD hq5.2.2.2.2 hPR (LT_mv hl hq5.2.1 (fun K j hK => hFr K j (by omega)) (fun _ _ _ => rfl) rfl) (PTb_mv hq4.1 (fun K j hK => hFr K j (by omega)) (fun _ _ _ => rfl))) (fun r3 σ3 hq => ?_)
    rw [hq.1, hq.2]
    refine TT.steps (cd := cd205) 4 (c' := ((if decide ((mGood (mDay (bR ((mBe ρ b np nt L p n).2.2) p n) b 1 np nt L) 1 np) ≤ (mBe ρ b np nt L p n).2.1) = true then 54 else 50), [(2, 0), (0, ((p : Nat) : Int)), (0, w0), (0, (mBe ρ b np nt L p n).1), (0, (mBe ρ b np nt L p n).2.1), (0, ((n : Nat) : Int)), (0, (mGood (mDay (bR ((mBe ρ b np nt L p n).2.2) p n) b 1 np nt L) 1 np))], [], σ2)) rfl rfl ?_
    refine TT.br (p := (mGood (mDay (bR ((mBe ρ b np nt L p n).2.2) p n) b 1 np nt L) 1 np) ≤ (mBe ρ b np nt L p n).2.1) (fun h4 => ?_) (fun h4 => ?_)
    · refine TT.inc (cd := cd205) ((n + 1 : Nat) : Int) rfl rfl rfl rfl (fun h => absurd h.2 (show ¬ (0 = 1) by decide)) (aAdd_n (a := n) (b := 1) (by omega)) (ls' := [(2, 0), (0, ((p : Nat) : Int)), (0, w0), (0, (mBe ρ b np nt L p n).1), (0, (mBe ρ b np nt L p n).2.1), (0, ((n + 1 : Nat) : Int)), (0, (mGood (mDay (bR ((mBe ρ b np nt L p n).2.2) p n) b 1 np nt L) 1 np))]) rfl ?_
      refine TT.steps (cd := cd205) 1 (c' := (28, [(2, 0), (0, ((p : Nat) : Int)), (0, w0), (0, (mBe ρ b np nt L p n).1), (0, (mBe ρ b np nt L p n).2.1), (0, ((n + 1 : Nat) : Int)), (0, (mGood (mDay (bR ((mBe ρ b np nt L p n).2.2) p n) b 1 np nt L) 1 np))], [], σ2)) rfl rfl ?_
      have e3 : (mBe ρ b np nt L p n).1 = (mBe ρ b np nt L p (n + 1)).1 := by first | exact (congrArg (fun x : Int × Int × AH => x.1) (mBe_t (ρ := ρ) (b := b) (np := np) (nt := nt) (p := p) (n := n) (L := L) (by omega))).symm | exact (congrArg (fun x : Int × Int × AH => x.1) (mBe_f (ρ := ρ) (b := b) (np := np) (nt := nt) (p := p) (n := n) (L := L) (by omega))).symm
      rw [e3]
      clear e3
      have e4 : (mBe ρ b np nt L p n).2.1 = (mBe ρ b np nt L p (n + 1)).2.1 := by first | exact (congrArg (fun x : Int × Int × AH => x.2.1) (mBe_t (ρ := ρ) (b := b) (np := np) (nt := nt) (p := p) (n := n) (L := L) (by omega))).symm | exact (congrArg (fun x : Int × Int × AH => x.2.1) (mBe_f (ρ := ρ) (b := b) (np := np) (nt := nt) (p := p) (n := n) (L := L) (by omega))).symm
      rw [e4]
      clear e4
      have e5 : ((n + 1 : Nat) : Int) = (((n + 1) : Nat) : Int) := by omega
      rw [e5]
      clear e5
      exact ih (n + 1) (by omega) _ _ (⟨BP_mv hP.1 (fun K j hK hj => (hFr K j hK).trans (up2_nq _ (by omega))), by first | (rw [mBe_t (ρ := ρ) (b := b) (np := np) (nt := nt) (p := p) (n := n) (L := L) (by omega)]; exact hR2.trans (RS_day _ _ _ _ _ _)) | (rw [mBe_f (ρ := ρ) (b := b) (np := np) (nt := nt) (p := p) (n := n) (L := L) (by omega)]; exact hR2.trans (RS_day _ _ _ _ _ _))⟩)
    · refine TT.steps (cd := cd205) 4 (c' := (54, [(2, 0), (0, ((p : Nat) : Int)), (0, w0), (0, ((n : Nat) : Int)), (0, (mGood (mDay (bR ((mBe ρ b np nt L p n).2.2) p n) b 1 np nt L) 1 np)), (0, ((n : Nat) : Int)), (0, (mGood (mDay (bR ((mBe ρ b np nt L p n).2.2) p n) b 1 np nt L) 1 np))], [], σ2)) rfl rfl ?_
      refine TT.inc (cd := cd205) ((n + 1 : Nat) : Int) rfl rfl rfl rfl (fun h => absurd h.2 (show ¬ (0 = 1) by decide)) (aAdd_n (a := n) (b := 1) (by omega)) (ls' := [(2, 0), (0, ((p : Nat) : Int)), (0, w0), (0, ((n : Nat) : Int)), (0, (mGood (mDay (bR ((mBe ρ b np nt L p n).2.2) p n) b 1 np nt L) 1 np)), (0, ((n + 1 : Nat) : Int)), (0, (mGood (mDay (bR ((mBe ρ b np nt L p n).2.2) p n) b 1 np nt L) 1 np))]) rfl ?_
      refine TT.steps (cd := cd205) 1 (c' := (28, [(2, 0), (0, ((p : Nat) : Int)), (0, w0), (0, ((n : Nat) : Int)), (0, (mGood (mDay (bR ((mBe ρ b np nt L p n).2.2) p n) b 1 np nt L) 1 np)), (0, ((n + 1 : Nat) : Int)), (0, (mGood (mDay (bR ((mBe ρ b np nt L p n).2.2) p n) b 1 np nt L) 1 np))], [], σ2)) rfl rfl ?_
      have e3 : ((n : Nat) : Int) = (mBe ρ b np nt L p (n + 1)).1 := by first | exact (congrArg (fun x : Int × Int × AH => x.1) (mBe_t (ρ := ρ) (b := b) (np := np) (nt := nt) (p := p) (n := n) (L := L) (by omega))).symm | exact (congrArg (fun x : Int × Int × AH => x.1) (mBe_f (ρ := ρ) (b := b) (np := np) (nt := nt) (p := p) (n := n) (L := L) (by omega))).symm
      rw [e3]
      clear e3
      have e4 : (mGood (mDay (bR ((mBe ρ b np nt L p n).2.2) p n) b 1 np nt L) 1 np) = (mBe ρ b np nt L p (n + 1)).2.1 := by first | exact (congrArg (fun x : Int × Int × AH => x.2.1) (mBe_t (ρ := ρ) (b := b) (np := np) (nt := nt) (p := p) (n := n) (L := L) (by omega))).symm | exact (congrArg (fun x : Int × Int × AH => x.2.1) (mBe_f (ρ := ρ) (b := b) (np := np) (nt := nt) (p := p) (n := n) (L := L) (by omega))).symm
      rw [e4]
      clear e4
      have e5 : ((n + 1 : Nat) : Int) = (((n + 1) : Nat) : Int) := by omega
      rw [e5]
      clear e5
      exact ih (n + 1) (by omega) _ _ (⟨BP_mv hP.1 (fun K j hK hj => (hFr K j hK).trans (up2_nq _ (by omega))), by first | (rw [mBe_t (ρ := ρ) (b := b) (np := np) (nt := nt) (p := p) (n := n) (L := L) (by omega)]; exact hR2.trans (RS_day _ _ _ _ _ _)) | (rw [mBe_f (ρ := ρ) (b := b) (np := np) (nt := nt) (p := p) (n := n) (L := L) (by omega)]; exact hR2.trans (RS_day _ _ _ _ _ _))⟩)
theorem K_bear1_8 (X : AX) {σ ρ : AH} {b np nt ns : Nat} {L : Nat → Nat} {C : Nat → Nat → Nat} {w tp u tl oc : Nat} (h : IV σ ρ 8 b np nt ns L C w tp u tl oc) (p : Nat) (w0 : Int) (hp : p < np) (hw0 : 0 ≤ w0 ∧ w0 ≤ 1)  : TT X 205 (0, [(2, 0), (0, ((p : Nat) : Int)), (0, w0), (9, 0), (9, 0), (9, 0), (9, 0)], [], σ) (fun r σ' => r = some (0, if w0 = 0 then (mBe ρ b np nt L p ns).1 else (mBe ρ b np nt L p ns).2.1) ∧ QS σ σ' ∧ RS ρ (mBe ρ b np nt L p ns).2.2) := by
  obtain ⟨⟨hl, h05, h33⟩, hL, hN, hPT, hF, hA, hTp, hO, hM, hH⟩ := id h
  obtain ⟨⟨a1, a2, a3, a4⟩, ⟨b1, b2, b3, b4, b5⟩, ⟨c1, c2, c3, c4, c5⟩, hTr, hCa, hAf, hPr, hDi⟩ := id hL
  obtain ⟨hPb, ⟨y1, y2, y3⟩, hhi, hPp⟩ := id hPT
  refine TT.steps (cd := cd205) 2 (c' := (2, [(2, 0), (0, ((p : Nat) : Int)), (0, w0), (9, 0), (9, 0), (9, 0), (9, 0)], [(0, ((p : Nat) : Int)), (2, 0)], σ)) rfl rfl ?_
  refine TT.call (cd := cd205) rfl rfl rfl (by decide) rfl (w_isPerson X ((p : Nat) : Int) σ) (fun r1 σ1 hq => ?_)
  rw [hq.1, hq.2, hPb.1, if_pos ⟨by omega, by omega⟩]
  refine TT.steps (cd := cd205) 3 (c' := ((if decide (w0 < 0) = true then 9 else 6), [(2, 0), (0, ((p : Nat) : Int)), (0, w0), (9, 0), (9, 0), (9, 0), (9, 0)], [], σ)) rfl rfl ?_
  refine TT.br (p := w0 < 0) (fun h2 => absurd h2 (show ¬ (w0 < 0) by omega)) (fun h2 => ?_)
  refine TT.steps (cd := cd205) 3 (c' := ((if decide (w0 ≤ 1) = true then 11 else 9), [(2, 0), (0, ((p : Nat) : Int)), (0, w0), (9, 0), (9, 0), (9, 0), (9, 0)], [], σ)) rfl rfl ?_
  refine TT.br (p := w0 ≤ 1) (fun h3 => ?_) (fun h3 => absurd (show w0 ≤ 1 by omega) h3)
  refine TT.steps (cd := cd205) 4 (c' := (15, [(2, 0), (0, ((p : Nat) : Int)), (0, w0), (9, 0), (9, 0), (9, 0), (9, 0)], [(2, 36), (2, 42)], σ)) rfl rfl ?_
  refine TT.call (cd := cd205) rfl rfl rfl (by decide) rfl (v_copy_42_36 X σ) (fun r4 σ4 hq => ?_)
  obtain ⟨rfl, hC⟩ := hq
  refine TT.steps (cd := cd205) 5 (c' := (21, [(2, 0), (0, ((p : Nat) : Int)), (0, w0), (9, 0), (9, 0), (9, 0), (9, 0)], [(0, -1), (0, ((p : Nat) : Int)), (2, 45)], σ4)) rfl rfl ?_
  refine TT.astN (cd := cd205) (45) (p) rfl rfl rfl rfl (show p < 10 by omega) ?_
  refine TT.steps (cd := cd205) 6 (c' := (28, [(2, 0), (0, ((p : Nat) : Int)), (0, w0), (0, -1), (0, -1), (0, 0), (9, 0)], [], (up2 σ4 45 p (-1)))) rfl rfl ?_
  refine vl_bear_8 X _ hl h05 hL hPT hF c1 c3 p hp w0 (fun τ y6 hP => ?_) ns 0 (by omega) (up2 σ4 45 p (-1)) _ ⟨BP_0 hC, RS.refl ρ⟩
  refine TT.steps (cd := cd205) 2 (c' := ((if decide (¬ w0 = 0) = true then 60 else 58), [(2, 0), (0, ((p : Nat) : Int)), (0, w0), (0, (mBe ρ b np nt L p ns).1), (0, (mBe ρ b np nt L p ns).2.1), (0, ((ns : Nat) : Int)), y6], [], τ)) rfl rfl ?_
  refine TT.br (p := ¬ w0 = 0) (fun h5 => ?_) (fun h5 => ?_)
  · refine TT.steps (cd := cd205) 1 (c' := (61, [(2, 0), (0, ((p : Nat) : Int)), (0, w0), (0, (mBe ρ b np nt L p ns).1), (0, (mBe ρ b np nt L p ns).2.1), (0, ((ns : Nat) : Int)), y6], [(0, (mBe ρ b np nt L p ns).2.1)], τ)) rfl rfl ?_
    exact TT.ret (cd := cd205) rfl rfl rfl rfl (⟨by (symm; repeat (first | rw [if_pos (by assumption)] | rw [if_neg (by assumption)] | rw [if_pos (Decidable.not_not.mp (by assumption))])), hP.1.1, hP.2⟩)
  · refine TT.steps (cd := cd205) 2 (c' := (61, [(2, 0), (0, ((p : Nat) : Int)), (0, w0), (0, (mBe ρ b np nt L p ns).1), (0, (mBe ρ b np nt L p ns).2.1), (0, ((ns : Nat) : Int)), y6], [(0, (mBe ρ b np nt L p ns).1)], τ)) rfl rfl ?_
    exact TT.ret (cd := cd205) rfl rfl rfl rfl (⟨by (symm; repeat (first | rw [if_pos (by assumption)] | rw [if_neg (by assumption)] | rw [if_pos (Decidable.not_not.mp (by assumption))])), hP.1.1, hP.2⟩)
theorem K_bear1_170 (X : AX) {σ ρ : AH} {b np nt ns : Nat} {L : Nat → Nat} {C : Nat → Nat → Nat} {w tp u tl oc : Nat} (h : IV σ ρ 170 b np nt ns L C w tp u tl oc) (p : Nat) (w0 : Int) (hp : p < np) (hw0 : 0 ≤ w0 ∧ w0 ≤ 1)  : TT X 205 (0, [(2, 0), (0, ((p : Nat) : Int)), (0, w0), (9, 0), (9, 0), (9, 0), (9, 0)], [], σ) (fun r σ' => r = some (0, if w0 = 0 then (mBe ρ b np nt L p ns).1 else (mBe ρ b np nt L p ns).2.1) ∧ QS σ σ' ∧ RS ρ (mBe ρ b np nt L p ns).2.2) := by
  obtain ⟨⟨hl, h05, h33⟩, hL, hN, hPT, hF, hA, hTp, hO, hM, hH⟩ := id h
  obtain ⟨⟨a1, a2, a3, a4⟩, ⟨b1, b2, b3, b4, b5⟩, ⟨c1, c2, c3, c4, c5⟩, hTr, hCa, hAf, hPr, hDi⟩ := id hL
  obtain ⟨hPb, ⟨y1, y2, y3⟩, hhi, hPp⟩ := id hPT
  refine TT.steps (cd := cd205) 2 (c' := (2, [(2, 0), (0, ((p : Nat) : Int)), (0, w0), (9, 0), (9, 0), (9, 0), (9, 0)], [(0, ((p : Nat) : Int)), (2, 0)], σ)) rfl rfl ?_
  refine TT.call (cd := cd205) rfl rfl rfl (by decide) rfl (w_isPerson X ((p : Nat) : Int) σ) (fun r1 σ1 hq => ?_)
  rw [hq.1, hq.2, hPb.1, if_pos ⟨by omega, by omega⟩]
  refine TT.steps (cd := cd205) 3 (c' := ((if decide (w0 < 0) = true then 9 else 6), [(2, 0), (0, ((p : Nat) : Int)), (0, w0), (9, 0), (9, 0), (9, 0), (9, 0)], [], σ)) rfl rfl ?_
  refine TT.br (p := w0 < 0) (fun h2 => absurd h2 (show ¬ (w0 < 0) by omega)) (fun h2 => ?_)
  refine TT.steps (cd := cd205) 3 (c' := ((if decide (w0 ≤ 1) = true then 11 else 9), [(2, 0), (0, ((p : Nat) : Int)), (0, w0), (9, 0), (9, 0), (9, 0), (9, 0)], [], σ)) rfl rfl ?_
  refine TT.br (p := w0 ≤ 1) (fun h3 => ?_) (fun h3 => absurd (show w0 ≤ 1 by omega) h3)
  refine TT.steps (cd := cd205) 4 (c' := (15, [(2, 0), (0, ((p : Nat) : Int)), (0, w0), (9, 0), (9, 0), (9, 0), (9, 0)], [(2, 36), (2, 42)], σ)) rfl rfl ?_
  refine TT.call (cd := cd205) rfl rfl rfl (by decide) rfl (v_copy_42_36 X σ) (fun r4 σ4 hq => ?_)
  obtain ⟨rfl, hC⟩ := hq
  refine TT.steps (cd := cd205) 5 (c' := (21, [(2, 0), (0, ((p : Nat) : Int)), (0, w0), (9, 0), (9, 0), (9, 0), (9, 0)], [(0, -1), (0, ((p : Nat) : Int)), (2, 45)], σ4)) rfl rfl ?_
  refine TT.astN (cd := cd205) (45) (p) rfl rfl rfl rfl (show p < 10 by omega) ?_
  refine TT.steps (cd := cd205) 6 (c' := (28, [(2, 0), (0, ((p : Nat) : Int)), (0, w0), (0, -1), (0, -1), (0, 0), (9, 0)], [], (up2 σ4 45 p (-1)))) rfl rfl ?_
  refine vl_bear_170 X _ hl h05 hL hPT hF c1 c3 p hp w0 (fun τ y6 hP => ?_) ns 0 (by omega) (up2 σ4 45 p (-1)) _ ⟨BP_0 hC, RS.refl ρ⟩
  refine TT.steps (cd := cd205) 2 (c' := ((if decide (¬ w0 = 0) = true then 60 else 58), [(2, 0), (0, ((p : Nat) : Int)), (0, w0), (0, (mBe ρ b np nt L p ns).1), (0, (mBe ρ b np nt L p ns).2.1), (0, ((ns : Nat) : Int)), y6], [], τ)) rfl rfl ?_
  refine TT.br (p := ¬ w0 = 0) (fun h5 => ?_) (fun h5 => ?_)
  · refine TT.steps (cd := cd205) 1 (c' := (61, [(2, 0), (0, ((p : Nat) : Int)), (0, w0), (0, (mBe ρ b np nt L p ns).1), (0, (mBe ρ b np nt L p ns).2.1), (0, ((ns : Nat) : Int)), y6], [(0, (mBe ρ b np nt L p ns).2.1)], τ)) rfl rfl ?_
    exact TT.ret (cd := cd205) rfl rfl rfl rfl (⟨by (symm; repeat (first | rw [if_pos (by assumption)] | rw [if_neg (by assumption)] | rw [if_pos (Decidable.not_not.mp (by assumption))])), hP.1.1, hP.2⟩)
  · refine TT.steps (cd := cd205) 2 (c' := (61, [(2, 0), (0, ((p : Nat) : Int)), (0, w0), (0, (mBe ρ b np nt L p ns).1), (0, (mBe ρ b np nt L p ns).2.1), (0, ((ns : Nat) : Int)), y6], [(0, (mBe ρ b np nt L p ns).1)], τ)) rfl rfl ?_
    exact TT.ret (cd := cd205) rfl rfl rfl rfl (⟨by (symm; repeat (first | rw [if_pos (by assumption)] | rw [if_neg (by assumption)] | rw [if_pos (Decidable.not_not.mp (by assumption))])), hP.1.1, hP.2⟩)
theorem K_bear1 (X : AX) {l : Nat} {σ ρ : AH} {b np nt ns : Nat} {L : Nat → Nat} {C : Nat → Nat → Nat} {w tp u tl oc : Nat} (h : IV σ ρ l b np nt ns L C w tp u tl oc) (p : Nat) (w0 : Int) (hp : p < np) (hw0 : 0 ≤ w0 ∧ w0 ≤ 1)  : TT X 205 (0, [(2, 0), (0, ((p : Nat) : Int)), (0, w0), (9, 0), (9, 0), (9, 0), (9, 0)], [], σ) (fun r σ' => r = some (0, if w0 = 0 then (mBe ρ b np nt L p ns).1 else (mBe ρ b np nt L p ns).2.1) ∧ QS σ σ' ∧ RS ρ (mBe ρ b np nt L p ns).2.2) := by
  rcases h.1.1 with rfl | rfl
  · exact K_bear1_8 X h p w0 hp hw0
  · exact K_bear1_170 X h p w0 hp hw0
theorem K_bear0 (X : AX) {l : Nat} {σ ρ : AH} {b np nt ns : Nat} {L : Nat → Nat} {C : Nat → Nat → Nat} {w tp u tl oc : Nat} (h : IV σ ρ l b np nt ns L C w tp u tl oc) (p w0 : Int) (hp : ¬ (0 ≤ p ∧ p < (np : Int)))  : TT X 205 (0, [(2, 0), (0, p), (0, w0), (9, 0), (9, 0), (9, 0), (9, 0)], [], σ) (fun r σ' => r = some (0, -1) ∧ QS σ σ') := by
  obtain ⟨⟨hl, h05, h33⟩, hL, hN, hPT, hF, hA, hTp, hO, hM, hH⟩ := id h
  obtain ⟨⟨a1, a2, a3, a4⟩, ⟨b1, b2, b3, b4, b5⟩, ⟨c1, c2, c3, c4, c5⟩, hTr, hCa, hAf, hPr, hDi⟩ := id hL
  obtain ⟨hPb, ⟨y1, y2, y3⟩, hhi, hPp⟩ := id hPT
  refine TT.steps (cd := cd205) 2 (c' := (2, [(2, 0), (0, p), (0, w0), (9, 0), (9, 0), (9, 0), (9, 0)], [(0, p), (2, 0)], σ)) rfl rfl ?_
  refine TT.call (cd := cd205) rfl rfl rfl (by decide) rfl (w_isPerson X p σ) (fun r1 σ1 hq => ?_)
  rw [hq.1, hq.2, hPb.1, if_neg hp]
  refine TT.steps (cd := cd205) 2 (c' := (10, [(2, 0), (0, p), (0, w0), (9, 0), (9, 0), (9, 0), (9, 0)], [(0, -1)], σ)) rfl rfl ?_
  exact TT.ret (cd := cd205) rfl rfl rfl rfl (⟨rfl, QS.refl σ⟩)
theorem K_bearN (X : AX) {l : Nat} {σ ρ : AH} {b np nt ns : Nat} {L : Nat → Nat} {C : Nat → Nat → Nat} {w tp u tl oc : Nat} (h : IV σ ρ l b np nt ns L C w tp u tl oc) (p : Nat) (w0 : Int) (hp : p < np) (hw0 : ¬ (0 ≤ w0 ∧ w0 ≤ 1))  : TT X 205 (0, [(2, 0), (0, ((p : Nat) : Int)), (0, w0), (9, 0), (9, 0), (9, 0), (9, 0)], [], σ) (fun r σ' => r = some (0, -1) ∧ QS σ σ') := by
  obtain ⟨⟨hl, h05, h33⟩, hL, hN, hPT, hF, hA, hTp, hO, hM, hH⟩ := id h
  obtain ⟨⟨a1, a2, a3, a4⟩, ⟨b1, b2, b3, b4, b5⟩, ⟨c1, c2, c3, c4, c5⟩, hTr, hCa, hAf, hPr, hDi⟩ := id hL
  obtain ⟨hPb, ⟨y1, y2, y3⟩, hhi, hPp⟩ := id hPT
  refine TT.steps (cd := cd205) 2 (c' := (2, [(2, 0), (0, ((p : Nat) : Int)), (0, w0), (9, 0), (9, 0), (9, 0), (9, 0)], [(0, ((p : Nat) : Int)), (2, 0)], σ)) rfl rfl ?_
  refine TT.call (cd := cd205) rfl rfl rfl (by decide) rfl (w_isPerson X ((p : Nat) : Int) σ) (fun r1 σ1 hq => ?_)
  rw [hq.1, hq.2, hPb.1, if_pos ⟨by omega, by omega⟩]
  refine TT.steps (cd := cd205) 3 (c' := ((if decide (w0 < 0) = true then 9 else 6), [(2, 0), (0, ((p : Nat) : Int)), (0, w0), (9, 0), (9, 0), (9, 0), (9, 0)], [], σ)) rfl rfl ?_
  refine TT.br (p := w0 < 0) (fun h2 => ?_) (fun h2 => ?_)
  · refine TT.steps (cd := cd205) 1 (c' := (10, [(2, 0), (0, ((p : Nat) : Int)), (0, w0), (9, 0), (9, 0), (9, 0), (9, 0)], [(0, -1)], σ)) rfl rfl ?_
    exact TT.ret (cd := cd205) rfl rfl rfl rfl (⟨rfl, QS.refl σ⟩)
  · refine TT.steps (cd := cd205) 3 (c' := ((if decide (w0 ≤ 1) = true then 11 else 9), [(2, 0), (0, ((p : Nat) : Int)), (0, w0), (9, 0), (9, 0), (9, 0), (9, 0)], [], σ)) rfl rfl ?_
    refine TT.br (p := w0 ≤ 1) (fun h3 => ?_) (fun h3 => ?_)
    · omega
    · refine TT.steps (cd := cd205) 1 (c' := (10, [(2, 0), (0, ((p : Nat) : Int)), (0, w0), (9, 0), (9, 0), (9, 0), (9, 0)], [(0, -1)], σ)) rfl rfl ?_
      exact TT.ret (cd := cd205) rfl rfl rfl rfl (⟨rfl, QS.refl σ⟩)
