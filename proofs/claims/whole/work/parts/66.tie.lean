/-! People beside the reference's; what is asked of a day. -/
theorem TT.all {ι : Type} {P : ι → Prop} {X : AX} {m : Nat} {c : ACfg} {Q : ι → Option AV → AH → Prop} (i0 : ι) (h0 : P i0) (h : ∀ i, P i → TT X m c (Q i)) : TT X m c (fun r σ => ∀ i, P i → Q i r σ) := by
  obtain ⟨n0, r0, e0, q0⟩ := h i0 h0
  refine ⟨n0, r0, e0, fun i hi => ?_⟩
  obtain ⟨n, r, e, q⟩ := h i hi
  have e1 := run_le X e0 (Nat.le_max_left n0 n)
  have e2 := run_le X e (Nat.le_max_right n0 n)
  rw [e1] at e2
  cases e2
  exact q
theorem TT.and {X : AX} {m : Nat} {c : ACfg} {Q Q' : Option AV → AH → Prop} (h : TT X m c Q) (h' : TT X m c Q') : TT X m c (fun r σ => Q r σ ∧ Q' r σ) := by
  obtain ⟨n0, r0, e0, q0⟩ := h
  obtain ⟨n, r, e, q⟩ := h'
  have e1 := run_le X e0 (Nat.le_max_left n0 n)
  have e2 := run_le X e (Nat.le_max_right n0 n)
  rw [e1] at e2
  cases e2
  exact ⟨n0, r0, e0, q0, q⟩
def PT (σ ρ : AH) (q v np ns : Nat) : Prop := PTb σ ρ q v np ns ∧ (σ q 1 = ρ 316 v ∧ 0 ≤ ρ 316 v ∧ ρ 316 v ≤ 9999) ∧ σ q 2 = ((bs (zH ρ v) np : Nat) : Int) ∧ (∀ p, p < np → σ (q + 1) p = ρ 317 (10 * v + p) ∧ 0 ≤ ρ 317 (10 * v + p) ∧ ρ 317 (10 * v + p) ≤ 99 ∧ (ρ 319 (10 * v + p) = -1 ∨ ∃ s : Nat, s < ns ∧ ρ 319 (10 * v + p) = (s : Int)) ∧ (ρ 322 (10 * v + p) = 0 ∨ ρ 322 (10 * v + p) = 1))
/-- the three things that days are told by -/
def FL (ρ : AH) : Prop := ρ 295 44 = -1 ∧ ρ 295 45 = -1 ∧ ρ 295 57 = -1
theorem zAb_no {ρ : AH} (h : ρ 295 44 = -1) (np : Nat) : ((bs (zAb ρ) np : Nat) : Int) = 0 := (bs_no (fun p _ => decide_eq_false (by rw [h]; omega))).symm
theorem zK_no {ρ : AH} (h : ρ 295 45 = -1) (np : Nat) : ((bs (zK ρ) np : Nat) : Int) = 0 := (bs_no (fun p _ => decide_eq_false (by rw [h]; omega))).symm
def gdS (ρ : AH) (v : Nat) : Nat → Bool := fun p => decide (¬ ((p : Int) = ρ 295 44) ∧ ¬ (ρ 322 (10 * v + p) = 1) ∧ ρ 334 p = ρ 321 (10 * v + p))
theorem mGood_c (ρ : AH) (v : Nat) {np : Nat} (h : np ≤ 10) : mGood ρ v np = ((cnt (gdS ρ v) np : Nat) : Int) := by
  unfold mGood
  rw [← sumA_cnt _ (by omega)]
  apply sumA_c
  intro p _
  unfold gdS
  simp only [decide_eq_true_eq]
theorem mDay_5 (ρ : AH) (b v np nt : Nat) (L : Nat → Nat) (j : Nat) (h : j ≠ 46) : mDay ρ b v np nt L 295 j = ρ 295 j := by
  unfold mDay
  rw [mEvt_fr _ _ _ _ _ _ _ _ _ (by omega), mPeN_fr _ _ _ _ _ (by decide), mTrN_fr _ _ _ _ _ (by decide), up2_nq _ (by omega)]
/-- behind a whole day nobody is aboard -/
theorem DD_off {σ τ ρ : AH} {b v np nt ns : Nat} {L : Nat → Nat} {C : Nat → Nat → Nat} (h : DD σ τ ρ b v np nt ns L C) (hU : ρ 295 57 = -1) : ∀ p, p < np → mDay ρ b v np nt L 333 p = -1 := by
  obtain ⟨⟨n, hn, hE⟩, h2, -⟩ := h
  intro p hp
  rcases (hE.2.2.2.1 p hp).1 with h3 | ⟨-, t, h4, -, h5, h6⟩
  · exact h3
  · have := h2 hU t h4; omega
theorem DD_good {σ τ ρ : AH} {b v q np nt ns : Nat} {L : Nat → Nat} {C : Nat → Nat → Nat} (h : DD σ τ ρ b v np nt ns L C) (hU : ρ 295 57 = -1) (hT : PTb τ ρ q v np ns) (p : Nat) (hp : p < np) : (anyN (fun s => decide (mDay ρ b v np nt L 333 p = -1 ∧ mDay ρ b v np nt L 334 p = (s : Int) ∧ ¬ (p : Int) = mDay ρ b v np nt L 295 44) && decide (τ (q + 5) p = (s : Int))) ns && !(zH ρ v p)) = gdS (mDay ρ b v np nt L) v p := by
  have h0 := DD_off h hU p hp
  obtain ⟨-, -, -, ⟨s1, f1, e1, e2⟩⟩ := hT.2 p hp
  unfold gdS
  rw [Bool.eq_iff_iff, Bool.and_eq_true, anyN_iff]
  simp only [Bool.and_eq_true, decide_eq_true_eq, Bool.not_eq_true', decide_eq_false_iff_not]
  rw [mDay_fr _ _ _ _ _ _ 322 _ (by omega), mDay_fr _ _ _ _ _ _ 321 _ (by omega), e1, e2, h0]
  constructor
  · rintro ⟨⟨s, g1, ⟨-, g3, g4⟩, g5⟩, g6⟩
    exact ⟨g4, g6, by rw [g3, ← g5]⟩
  · rintro ⟨g1, g2, g3⟩
    exact ⟨⟨s1, f1, ⟨rfl, g3, g1⟩, rfl⟩, g2⟩
theorem v_good (X : AX) {l q : Nat} (hl : l = 8 ∨ l = 170) {σ τ ρ : AH} {b v np nt ns : Nat} {L : Nat → Nat} {C : Nat → Nat → Nat} (h : DD σ τ ρ b v np nt ns L C) (hU : ρ 295 57 = -1) (hP : PR τ l q np nt L) (hL : LT τ ρ l b np nt ns L C) (hT : PTb τ ρ q v np ns) : TT X k_X1_good (0, [(2, 198), (9, 0), (9, 0)], [], τ) (fun r υ => r = some (0, ((bs (gdS (mDay ρ b v np nt L) v) np : Nat) : Int)) ∧ υ = τ) := by
  have key : ∀ r υ, (r = some (0, ((bs (fun p => anyN (fun s => decide (mDay ρ b v np nt L 333 p = -1 ∧ mDay ρ b v np nt L 334 p = (s : Int) ∧ ¬ (p : Int) = mDay ρ b v np nt L 295 44) && decide (τ (q + 5) p = (s : Int))) ns && !(zH ρ v p)) np : Nat) : Int)) ∧ υ = τ) → ((r : Option AV) = some (0, ((bs (gdS (mDay ρ b v np nt L) v) np : Nat) : Int)) ∧ (υ : AH) = τ) := by
    intro r υ hr
    rw [hr.1, bs_c (fun p hp => DD_good h hU hT p hp)]
    exact ⟨rfl, hr.2⟩
  obtain ⟨⟨n, hn, hE⟩, h2, h13⟩ := id h
  have hns2 := hL.2.2.1.2.2.1
  have e3 : ∀ s, s < ns → τ 254 s = _ := fun s hs => hE.2.2.1 s (by omega)
  have e4 : ∀ s, s < ns → τ 201 s = _ := fun s hs => (hP.2.1 s (by omega)).2
  rcases hl with rfl | rfl
  · exact (u_good_8 X (zH ρ v) ns np _ _ τ hP.1.1 hL.1.1 hns2 hL.2.2.1.1 e3 e4 h13).mono key
  · exact (u_good_170 X (zH ρ v) ns np _ _ τ hP.1.1 hL.1.1 hns2 hL.2.2.1.1 e3 e4 h13).mono key
theorem v_countGood (X : AX) {l q : Nat} (hl : l = 8 ∨ l = 170) {σ τ ρ : AH} {b v np nt ns : Nat} {L : Nat → Nat} {C : Nat → Nat → Nat} (h : DD σ τ ρ b v np nt ns L C) (hU : ρ 295 57 = -1) (hP : PR τ l q np nt L) (hL : LT τ ρ l b np nt ns L C) (hT : PTb τ ρ q v np ns) : TT X k_X1_countGood (0, [(2, 198)], [], τ) (fun r υ => r = some (0, mGood (mDay ρ b v np nt L) v np) ∧ υ = τ) := by
  have key : ∀ r υ, (r = some (0, ((cnt (fun p => anyN (fun s => decide (mDay ρ b v np nt L 333 p = -1 ∧ mDay ρ b v np nt L 334 p = (s : Int) ∧ ¬ (p : Int) = mDay ρ b v np nt L 295 44) && decide (τ (q + 5) p = (s : Int))) ns && !(zH ρ v p)) np : Nat) : Int)) ∧ υ = τ) → ((r : Option AV) = some (0, mGood (mDay ρ b v np nt L) v np) ∧ (υ : AH) = τ) := by
    intro r υ hr
    rw [hr.1, cnt_c (fun p hp => DD_good h hU hT p hp), mGood_c _ _ hL.2.2.1.1]
    exact ⟨rfl, hr.2⟩
  obtain ⟨⟨n, hn, hE⟩, h2, h13⟩ := id h
  have hns2 := hL.2.2.1.2.2.1
  have e3 : ∀ s, s < ns → τ 254 s = _ := fun s hs => hE.2.2.1 s (by omega)
  have e4 : ∀ s, s < ns → τ 201 s = _ := fun s hs => (hP.2.1 s (by omega)).2
  rcases hl with rfl | rfl
  · exact (u_countGood_8 X (zH ρ v) ns np _ _ τ hP.1.1 hL.1.1 hns2 hL.2.2.1.1 e3 e4 h13).mono key
  · exact (u_countGood_170 X (zH ρ v) ns np _ _ τ hP.1.1 hL.1.1 hns2 hL.2.2.1.1 e3 e4 h13).mono key
theorem v_stranded (X : AX) {l q : Nat} (hq : q = 36 ∨ q = 42) {σ τ ρ : AH} {b v np nt ns : Nat} {L : Nat → Nat} {C : Nat → Nat → Nat} (h : DD σ τ ρ b v np nt ns L C) (hP : PR τ l q np nt L) (hnp : np ≤ 10) (hT : PTb τ ρ q v np ns) : TT X k_X1_stranded (0, [(2, 198), (9, 0), (9, 0)], [], τ) (fun r υ => r = some (0, ((bs (fun p => decide (mStrC (mDay ρ b v np nt L) v p)) np : Nat) : Int)) ∧ υ = τ) := by
  obtain ⟨⟨n, hn, hE⟩, h2, h13⟩ := id h
  have key : ∀ r υ, (r = some (0, ((bs (fun p => decide (¬ τ 248 p = -1 ∧ ¬ τ 247 p = τ (q + 5) p) && !(zH ρ v p)) np : Nat) : Int)) ∧ υ = τ) → ((r : Option AV) = some (0, ((bs (fun p => decide (mStrC (mDay ρ b v np nt L) v p)) np : Nat) : Int)) ∧ (υ : AH) = τ) := by
    intro r υ hr
    refine ⟨?_, hr.2⟩
    rw [hr.1]
    refine congrArg (fun x : Nat => some (0, (x : Int))) (bs_c (fun p hp => ?_))
    obtain ⟨-, -, -, ⟨s1, f1, e1, e2⟩⟩ := hT.2 p hp
    obtain ⟨-, -, g3, g4, -⟩ := hE.2.2.2.1 p hp
    rw [g3, g4, e1]
    unfold mStrC
    rw [mDay_fr _ _ _ _ _ _ 322 _ (by omega), mDay_fr _ _ _ _ _ _ 321 _ (by omega), e2, Bool.eq_iff_iff]
    simp only [Bool.and_eq_true, decide_eq_true_eq, Bool.not_eq_true', decide_eq_false_iff_not]
    constructor
    · rintro ⟨⟨a1, a2⟩, a3⟩; exact ⟨a1, a2, a3⟩
    · rintro ⟨a1, a2, a3⟩; exact ⟨⟨a1, a2⟩, a3⟩
  rcases hq with rfl | rfl
  · exact (u_stranded_36 X (zH ρ v) np τ hP.1.2 hT.1 hnp h13).mono key
  · exact (u_stranded_42 X (zH ρ v) np τ hP.1.2 hT.1 hnp h13).mono key
