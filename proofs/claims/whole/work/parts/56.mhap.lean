/-! The reference's coming of a train, cell by cell. -/
theorem anyN_c {f g : Nat → Bool} {n : Nat} (h : ∀ p, p < n → f p = g p) : anyN f n = anyN g n := by
  induction n with
  | zero => rfl
  | succ n ih => rw [anyN, anyN, ih (fun p hp => h p (by omega)), h n (by omega)]
abbrev xSt (ρ : AH) (b v np t k lt : Nat) : Bool := decide (mStop ρ b v np t k lt)
def xF (ρ : AH) (b v np t k lt : Nat) (p : Nat) : Bool := xSt ρ b v np t k lt && decide (mOffC ρ ρ b v t k lt p)
def xQ (ρ : AH) (b v np t k lt : Nat) : Int := aSub (mH3 ρ b v np t k lt 303 (6 * b + t)) ((mAbo (mH3 ρ b v np t k lt) t np : Nat) : Int)
def xN (ρ : AH) (b v np t k lt : Nat) (p : Nat) : Bool := (xSt ρ b v np t k lt && decide (¬ k + 1 = lt)) && grS (mW (mH3 ρ b v np t k lt) b v t k lt) (xQ ρ b v np t k lt) p
theorem mH2_fr (ρ : AH) (b v np t k lt c j : Nat) (h : c ≠ 326 ∧ c ≠ 325 ∧ c ≠ 327 ∧ c ≠ 328 ∧ c ≠ 332 ∧ c ≠ 331) : mH2 ρ b v np t k lt c j = ρ c j := by
  unfold mH2
  split
  · rw [mBirN_fr _ _ _ _ _ _ _ _ h.2.2.2.2.2, mH1_fr _ _ _ _ _ _ h]
  · rw [mH1_fr _ _ _ _ _ _ h]
theorem mH2_h1 (ρ : AH) (b v np t k lt c j : Nat) (h : c ≠ 331) : mH2 ρ b v np t k lt c j = mH1 ρ t k (if mStop ρ b v np t k lt then 1 else 0) c j := by
  unfold mH2
  split
  · rw [mBirN_fr _ _ _ _ _ _ _ _ h]
  · rfl
theorem mH2_331 (ρ : AH) (b v np t k lt : Nat) (hn : np ≤ 10) (j : Nat) : mH2 ρ b v np t k lt 331 j = if j = 8 * t + k then (if 0 < k ∧ k + 1 < lt then ((bs (fun p => decide (ρ 333 p = (t : Int) ∧ mBA ρ v p (mCall ρ b t k))) np : Nat) : Int) else 0) else ρ 331 j := by
  unfold mH2
  have h0 : mH1 ρ t k (if mStop ρ b v np t k lt then 1 else 0) 331 ((8 * t) + k) = 0 := by unfold mH1; rw [up2_hit]
  have h1 : ∀ j, j ≠ 8 * t + k → mH1 ρ t k (if mStop ρ b v np t k lt then 1 else 0) 331 j = ρ 331 j := by
    intro j hj
    unfold mH1
    rw [up2_by _ _ _ hj, up2_far _ _ _ _ (by decide), up2_far _ _ _ _ (by decide), up2_far _ _ _ _ (by decide), up2_far _ _ _ _ (by decide), up2_far _ _ _ _ (by decide)]
  split
  · rename_i hk
    obtain ⟨e1, e2⟩ := mBirN_e (mH1 ρ t k (if mStop ρ b v np t k lt then 1 else 0)) b v t k np h0 hn
    by_cases hj : j = 8 * t + k
    · subst hj
      rw [if_pos rfl, e1]
      congr 2
    · rw [if_neg hj, e2 j hj, h1 j hj]
  · by_cases hj : j = 8 * t + k
    · subst hj; rw [if_pos rfl, h0]
    · rw [if_neg hj, h1 j hj]
theorem mH3_fr (ρ : AH) (b v np t k lt c j : Nat) (h : c ≠ 333 ∧ c ≠ 334 ∧ c ≠ 335 ∧ c ≠ 337 ∧ c ≠ 327 ∧ c ≠ 332) : mH3 ρ b v np t k lt c j = mH2 ρ b v np t k lt c j := by
  unfold mH3
  split
  · rw [mOffN_fr _ _ _ _ _ _ _ _ _ _ h]
  · rfl
theorem mH2_off (ρ : AH) (b v np t k lt p : Nat) : mOffC (mH2 ρ b v np t k lt) (mH2 ρ b v np t k lt) b v t k lt p ↔ mOffC ρ ρ b v t k lt p := by
  unfold mOffC
  rw [mH2_fr ρ b v np t k lt 333 _ (by decide), mH2_fr ρ b v np t k lt 322 _ (by decide), mH2_fr ρ b v np t k lt 321 _ (by decide), mH2_fr ρ b v np t k lt 305 _ (by decide), mH2_fr ρ b v np t k lt 295 _ (by decide)]
theorem xF_t (ρ : AH) (b v np t k lt p : Nat) (hs : mStop ρ b v np t k lt) : xF ρ b v np t k lt p = true ↔ mOffC ρ ρ b v t k lt p := by
  unfold xF xSt
  rw [decide_eq_true hs, Bool.true_and, decide_eq_true_iff]
theorem xF_n (ρ : AH) (b v np t k lt p : Nat) (hs : ¬ mStop ρ b v np t k lt) : xF ρ b v np t k lt p = false := by
  unfold xF xSt
  rw [decide_eq_false hs, Bool.false_and]
theorem mH3_p (ρ : AH) (b v np t k lt p : Nat) (hp : p < np) : mH3 ρ b v np t k lt 333 p = (if xF ρ b v np t k lt p = true then -1 else ρ 333 p) ∧ mH3 ρ b v np t k lt 334 p = (if xF ρ b v np t k lt p = true then ρ 305 (8 * (6 * b + t) + k) else ρ 334 p) ∧ mH3 ρ b v np t k lt 335 p = (if xF ρ b v np t k lt p = true then ρ 324 t else ρ 335 p) ∧ mH3 ρ b v np t k lt 337 p = (if xF ρ b v np t k lt p = true ∧ ρ 321 (10 * v + p) = ρ 305 (8 * (6 * b + t) + k) then 1 else ρ 337 p) := by
  unfold mH3
  by_cases hs : mStop ρ b v np t k lt
  · rw [if_pos hs]
    obtain ⟨h1, h2, h3, h4, -, -⟩ := mOffN_w (mH2 ρ b v np t k lt) b v t k lt ((8 * t) + k) np
    have q33 : mH2 ρ b v np t k lt 333 p = ρ 333 p := mH2_fr _ _ _ _ _ _ _ _ _ (by decide)
    have q34 : mH2 ρ b v np t k lt 334 p = ρ 334 p := mH2_fr _ _ _ _ _ _ _ _ _ (by decide)
    have q35 : mH2 ρ b v np t k lt 335 p = ρ 335 p := mH2_fr _ _ _ _ _ _ _ _ _ (by decide)
    have q37 : mH2 ρ b v np t k lt 337 p = ρ 337 p := mH2_fr _ _ _ _ _ _ _ _ _ (by decide)
    have q05 : mH2 ρ b v np t k lt 305 (8 * (6 * b + t) + k) = ρ 305 (8 * (6 * b + t) + k) := mH2_fr _ _ _ _ _ _ _ _ _ (by decide)
    have q21 : mH2 ρ b v np t k lt 321 (10 * v + p) = ρ 321 (10 * v + p) := mH2_fr _ _ _ _ _ _ _ _ _ (by decide)
    rw [h1, h2, h3, h4]
    have h26 : mH2 ρ b v np t k lt 326 (8 * t + k) = ρ 324 t := by
      rw [mH2_h1 _ _ _ _ _ _ _ _ _ (by decide)]
      unfold mH1
      rw [up2_far _ _ _ _ (by decide), up2_far _ _ _ _ (by decide), up2_far _ _ _ _ (by decide), up2_far _ _ _ _ (by decide), up2_far _ _ _ _ (by decide), up2_hit]
    simp only [hp, true_and, mH2_off, xF_t _ _ _ _ _ _ _ _ hs, and_self, h26, q33, q34, q35, q37, q05, q21]
  · rw [if_neg hs, xF_n _ _ _ _ _ _ _ _ hs, mH2_fr ρ b v np t k lt 333 _ (by decide), mH2_fr ρ b v np t k lt 334 _ (by decide), mH2_fr ρ b v np t k lt 335 _ (by decide), mH2_fr ρ b v np t k lt 337 _ (by decide)]
    simp
theorem mH1_e (ρ : AH) (t k : Nat) (sp : Int) (j : Nat) : mH1 ρ t k sp 327 j = (if j = 8 * t + k then 0 else ρ 327 j) ∧ mH1 ρ t k sp 332 j = (if j = 8 * t + k then 0 else ρ 332 j) ∧ mH1 ρ t k sp 328 j = (if j = 8 * t + k then 0 else ρ 328 j) ∧ mH1 ρ t k sp 325 j = (if j = 8 * t + k then sp else ρ 325 j) ∧ mH1 ρ t k sp 326 j = (if j = 8 * t + k then ρ 324 t else ρ 326 j) := by
  unfold mH1
  simp [up2]
theorem mH3_e (ρ : AH) (b v np t k lt j : Nat) (hn : np ≤ 10) : mH3 ρ b v np t k lt 327 j = (if j = 8 * t + k then ((cnt (xF ρ b v np t k lt) np : Nat) : Int) else ρ 327 j) ∧ mH3 ρ b v np t k lt 332 j = (if j = 8 * t + k then ((bs (xF ρ b v np t k lt) np : Nat) : Int) else ρ 332 j) := by
  unfold mH3
  have g27 := fun j => (mH2_h1 ρ b v np t k lt 327 j (by decide)).trans (mH1_e ρ t k (if mStop ρ b v np t k lt then 1 else 0) j).1
  have g32 := fun j => (mH2_h1 ρ b v np t k lt 332 j (by decide)).trans (mH1_e ρ t k (if mStop ρ b v np t k lt then 1 else 0) j).2.1
  by_cases hs : mStop ρ b v np t k lt
  · rw [if_pos hs]
    have hc : (fun p => decide (mOffC (mH2 ρ b v np t k lt) (mH2 ρ b v np t k lt) b v t k lt p)) = xF ρ b v np t k lt := by
      funext p
      rw [Bool.eq_iff_iff, decide_eq_true_iff, mH2_off, xF_t _ _ _ _ _ _ _ _ hs]
    obtain ⟨e1, e2⟩ := mOffN_e (mH2 ρ b v np t k lt) b v t k lt (8 * t + k) np (by rw [g27, if_pos rfl]) (by rw [g32, if_pos rfl]) hn
    obtain ⟨-, -, -, -, h5, h6⟩ := mOffN_w (mH2 ρ b v np t k lt) b v t k lt ((8 * t) + k) np
    by_cases hj : j = 8 * t + k
    · subst hj
      rw [if_pos rfl, if_pos rfl, e1, e2, hc]
      exact ⟨rfl, rfl⟩
    · rw [if_neg hj, if_neg hj, h5 j hj, h6 j hj, g27, g32, if_neg hj, if_neg hj]
      exact ⟨rfl, rfl⟩
  · rw [if_neg hs, g27, g32]
    have : xF ρ b v np t k lt = fun _ => false := by funext p; exact xF_n _ _ _ _ _ _ _ _ hs
    have hz : cnt (fun _ => false) np = 0 := by
      have := cnt_ext (fun _ => false) (n := 0) (m := np) (by omega) (fun _ _ _ => rfl)
      rw [this]; rfl
    rw [this, bs_zero, hz]
    exact ⟨rfl, rfl⟩
theorem mH4_fr (ρ : AH) (b v np t k lt c j : Nat) (h : c ≠ 333 ∧ c ≠ 336 ∧ c ≠ 328) : mH4 ρ b v np t k lt c j = mH3 ρ b v np t k lt c j := by
  unfold mH4
  split
  · rw [mOnN_fr _ _ _ _ _ _ _ _ _ _ _ h]
  · rfl
theorem mH4_p (ρ : AH) (b v np t k lt p : Nat) (hp : p < np) : mH4 ρ b v np t k lt 333 p = (if xN ρ b v np t k lt p = true then (t : Int) else if xF ρ b v np t k lt p = true then -1 else ρ 333 p) ∧ mH4 ρ b v np t k lt 336 p = (if xN ρ b v np t k lt p = true then aAdd (ρ 336 p) 1 else ρ 336 p) := by
  have g33 := (mH3_p ρ b v np t k lt p hp).1
  have g36 : mH3 ρ b v np t k lt 336 p = ρ 336 p := (mH3_fr _ _ _ _ _ _ _ _ _ (by decide)).trans (mH2_fr _ _ _ _ _ _ _ _ _ (by decide))
  unfold mH4
  by_cases hs : mStop ρ b v np t k lt ∧ ¬ k + 1 = lt
  · rw [if_pos hs]
    obtain ⟨-, h1, h2, -⟩ := mOnN_w (mH3 ρ b v np t k lt) b v t k lt ((8 * t) + k) (xQ ρ b v np t k lt) np
    have e : xN ρ b v np t k lt p = grS (mW (mH3 ρ b v np t k lt) b v t k lt) (xQ ρ b v np t k lt) p := by
      unfold xN xSt
      rw [decide_eq_true hs.1, decide_eq_true hs.2, Bool.true_and, Bool.true_and]
    have h1' := h1 p
    have h2' := h2 p
    unfold xQ at h1' h2'
    rw [h1', h2', e, g33, g36]
    unfold xQ
    simp only [hp, true_and, and_self]
  · rw [if_neg hs]
    have e : xN ρ b v np t k lt p = false := by
      unfold xN xSt
      rw [← Bool.decide_and, decide_eq_false hs, Bool.false_and]
    rw [e, g33, g36]
    simp
theorem mH4_e (ρ : AH) (b v np t k lt j : Nat) (hn : np ≤ 10) : mH4 ρ b v np t k lt 328 j = (if j = 8 * t + k then ((cnt (xN ρ b v np t k lt) np : Nat) : Int) else ρ 328 j) := by
  have g28 : ∀ j, mH3 ρ b v np t k lt 328 j = (if j = 8 * t + k then 0 else ρ 328 j) := fun j => (mH3_fr _ _ _ _ _ _ _ _ _ (by decide)).trans ((mH2_h1 ρ b v np t k lt 328 j (by decide)).trans (mH1_e ρ t k (if mStop ρ b v np t k lt then 1 else 0) j).2.2.1)
  unfold mH4
  by_cases hs : mStop ρ b v np t k lt ∧ ¬ k + 1 = lt
  · rw [if_pos hs]
    obtain ⟨-, -, -, h3⟩ := mOnN_w (mH3 ρ b v np t k lt) b v t k lt ((8 * t) + k) (xQ ρ b v np t k lt) np
    have h4 := mOnN_e (mH3 ρ b v np t k lt) b v t k lt ((8 * t) + k) (xQ ρ b v np t k lt) np (by rw [g28, if_pos rfl]) hn
    have e : xN ρ b v np t k lt = grS (mW (mH3 ρ b v np t k lt) b v t k lt) (xQ ρ b v np t k lt) := by
      funext p
      unfold xN xSt
      rw [decide_eq_true hs.1, decide_eq_true hs.2, Bool.true_and, Bool.true_and]
    unfold xQ at h3 h4
    by_cases hj : j = 8 * t + k
    · subst hj
      rw [if_pos rfl, e]
      exact h4
    · rw [if_neg hj, h3 j hj, g28, if_neg hj]
  · rw [if_neg hs, g28]
    have e : xN ρ b v np t k lt = fun _ => false := by
      funext p
      unfold xN xSt
      rw [← Bool.decide_and, decide_eq_false hs, Bool.false_and]
    have hz : cnt (fun _ => false) np = 0 := by
      have := cnt_ext (fun _ => false) (n := 0) (m := np) (by omega) (fun _ _ _ => rfl)
      rw [this]; rfl
    rw [e, hz]
    rfl
theorem mHap_h4 (ρ : AH) (b v np t k lt c j : Nat) (h : c ≠ 329 ∧ c ≠ 323 ∧ c ≠ 330 ∧ c ≠ 324) : mHap ρ b v np t k lt c j = mH4 ρ b v np t k lt c j := by
  unfold mHap mH5
  split
  · rw [up2_far _ _ _ _ h.2.1, up2_far _ _ _ _ h.1]
  · rw [up2_far _ _ _ _ h.2.2.2, up2_far _ _ _ _ h.2.2.1, up2_far _ _ _ _ h.2.1, up2_far _ _ _ _ h.1]
/-- people behind it -/
theorem mHap_p (ρ : AH) (b v np t k lt p : Nat) (hp : p < np) : mHap ρ b v np t k lt 333 p = (if xN ρ b v np t k lt p = true then (t : Int) else if xF ρ b v np t k lt p = true then -1 else ρ 333 p) ∧ mHap ρ b v np t k lt 334 p = (if xF ρ b v np t k lt p = true then ρ 305 (8 * (6 * b + t) + k) else ρ 334 p) ∧ mHap ρ b v np t k lt 335 p = (if xF ρ b v np t k lt p = true then ρ 324 t else ρ 335 p) ∧ mHap ρ b v np t k lt 336 p = (if xN ρ b v np t k lt p = true then aAdd (ρ 336 p) 1 else ρ 336 p) ∧ mHap ρ b v np t k lt 337 p = (if xF ρ b v np t k lt p = true ∧ ρ 321 (10 * v + p) = ρ 305 (8 * (6 * b + t) + k) then 1 else ρ 337 p) := by
  obtain ⟨a1, a2⟩ := mH4_p ρ b v np t k lt p hp
  obtain ⟨-, c2, c3, c4⟩ := mH3_p ρ b v np t k lt p hp
  refine ⟨?_, ?_, ?_, ?_, ?_⟩
  · rw [mHap_h4 _ _ _ _ _ _ _ _ _ (by decide), a1]
  · rw [mHap_h4 _ _ _ _ _ _ _ _ _ (by decide), mH4_fr _ _ _ _ _ _ _ _ _ (by decide), c2]
  · rw [mHap_h4 _ _ _ _ _ _ _ _ _ (by decide), mH4_fr _ _ _ _ _ _ _ _ _ (by decide), c3]
  · rw [mHap_h4 _ _ _ _ _ _ _ _ _ (by decide), a2]
  · rw [mHap_h4 _ _ _ _ _ _ _ _ _ (by decide), mH4_fr _ _ _ _ _ _ _ _ _ (by decide), c4]
/-- the call's own cells -/
theorem mHap_e (ρ : AH) (b v np t k lt j : Nat) (hn : np ≤ 10) :
    mHap ρ b v np t k lt 325 j = (if j = 8 * t + k then (if mStop ρ b v np t k lt then 1 else 0) else ρ 325 j)
    ∧ mHap ρ b v np t k lt 326 j = (if j = 8 * t + k then ρ 324 t else ρ 326 j)
    ∧ mHap ρ b v np t k lt 327 j = (if j = 8 * t + k then ((cnt (xF ρ b v np t k lt) np : Nat) : Int) else ρ 327 j)
    ∧ mHap ρ b v np t k lt 328 j = (if j = 8 * t + k then ((cnt (xN ρ b v np t k lt) np : Nat) : Int) else ρ 328 j)
    ∧ mHap ρ b v np t k lt 331 j = (if j = 8 * t + k then (if 0 < k ∧ k + 1 < lt then ((bs (fun p => decide (ρ 333 p = (t : Int) ∧ mBA ρ v p (mCall ρ b t k))) np : Nat) : Int) else 0) else ρ 331 j)
    ∧ mHap ρ b v np t k lt 332 j = (if j = 8 * t + k then ((bs (xF ρ b v np t k lt) np : Nat) : Int) else ρ 332 j) := by
  refine ⟨?_, ?_, ?_, ?_, ?_, ?_⟩
  · rw [mHap_h4 _ _ _ _ _ _ _ _ _ (by decide), mH4_fr _ _ _ _ _ _ _ _ _ (by decide), mH3_fr _ _ _ _ _ _ _ _ _ (by decide), mH2_h1 _ _ _ _ _ _ _ _ _ (by decide), (mH1_e _ _ _ _ _).2.2.2.1]
  · rw [mHap_h4 _ _ _ _ _ _ _ _ _ (by decide), mH4_fr _ _ _ _ _ _ _ _ _ (by decide), mH3_fr _ _ _ _ _ _ _ _ _ (by decide), mH2_h1 _ _ _ _ _ _ _ _ _ (by decide), (mH1_e _ _ _ _ _).2.2.2.2]
  · rw [mHap_h4 _ _ _ _ _ _ _ _ _ (by decide), mH4_fr _ _ _ _ _ _ _ _ _ (by decide), (mH3_e _ _ _ _ _ _ _ _ hn).1]
  · rw [mHap_h4 _ _ _ _ _ _ _ _ _ (by decide), mH4_e _ _ _ _ _ _ _ _ hn]
  · rw [mHap_h4 _ _ _ _ _ _ _ _ _ (by decide), mH4_fr _ _ _ _ _ _ _ _ _ (by decide), mH3_fr _ _ _ _ _ _ _ _ _ (by decide), mH2_331 _ _ _ _ _ _ _ hn]
  · rw [mHap_h4 _ _ _ _ _ _ _ _ _ (by decide), mH4_fr _ _ _ _ _ _ _ _ _ (by decide), (mH3_e _ _ _ _ _ _ _ _ hn).2]
theorem mH4_cnt (ρ : AH) (b v np t k lt : Nat) : mAbo (mH4 ρ b v np t k lt) t np = cnt (fun p => xN ρ b v np t k lt p || decide (ρ 333 p = (t : Int)) && !xF ρ b v np t k lt p) np := by
  rw [mAbo_cnt]
  apply cnt_c
  intro p hp
  rw [(mH4_p ρ b v np t k lt p hp).1]
  cases xN ρ b v np t k lt p with
  | true => simp
  | false =>
    cases xF ρ b v np t k lt p with
    | true => simp
    | false => simp
theorem mBtC_eq (ρ : AH) (b v np t k lt : Nat) : mBtC ρ b v np t k lt = anyN (fun p => (xN ρ b v np t k lt p || decide (ρ 333 p = (t : Int)) && !xF ρ b v np t k lt p) && decide (mBB ρ v p (mCall ρ b t k) (mCall ρ b t (k + 1)))) np := by
  unfold mBtC
  apply anyN_c
  intro p hp
  rw [(mH4_p ρ b v np t k lt p hp).1, Bool.decide_and]
  congr 1
  cases xN ρ b v np t k lt p with
  | true => simp
  | false =>
    cases xF ρ b v np t k lt p with
    | true => simp
    | false => simp
theorem mHap_t (ρ : AH) (b v np t k lt j : Nat) :
    mHap ρ b v np t k lt 324 j = (if ¬ k + 1 = lt ∧ j = t then aAdd (ρ 324 t) (mBy ρ b v np t k lt) else ρ 324 j)
    ∧ mHap ρ b v np t k lt 329 j = (if j = 8 * t + k then ((mAbo (mH4 ρ b v np t k lt) t np : Nat) : Int) else ρ 329 j)
    ∧ mHap ρ b v np t k lt 330 j = (if ¬ k + 1 = lt ∧ j = 8 * t + k + 1 then (if mBtC ρ b v np t k lt = true then 1 else 0) else ρ 330 j) := by
  have f24 : ∀ j, mH4 ρ b v np t k lt 324 j = ρ 324 j := fun j => (mH4_fr _ _ _ _ _ _ _ _ _ (by decide)).trans ((mH3_fr _ _ _ _ _ _ _ _ _ (by decide)).trans (mH2_fr _ _ _ _ _ _ _ _ _ (by decide)))
  have f29 : ∀ j, mH4 ρ b v np t k lt 329 j = ρ 329 j := fun j => (mH4_fr _ _ _ _ _ _ _ _ _ (by decide)).trans ((mH3_fr _ _ _ _ _ _ _ _ _ (by decide)).trans (mH2_fr _ _ _ _ _ _ _ _ _ (by decide)))
  have f30 : ∀ j, mH4 ρ b v np t k lt 330 j = ρ 330 j := fun j => (mH4_fr _ _ _ _ _ _ _ _ _ (by decide)).trans ((mH3_fr _ _ _ _ _ _ _ _ _ (by decide)).trans (mH2_fr _ _ _ _ _ _ _ _ _ (by decide)))
  unfold mHap mH5
  by_cases hl : k + 1 = lt
  · simp only [hl, if_true, not_true, false_and, if_false]
    refine ⟨?_, ?_, ?_⟩
    · rw [up2_far _ _ _ _ (by decide), up2_far _ _ _ _ (by decide), f24]
    · rw [up2_far _ _ _ _ (by decide)]
      by_cases hj : j = 8 * t + k
      · subst hj; rw [if_pos rfl, up2_hit]
      · rw [if_neg hj, up2_by _ _ _ hj, f29]
    · rw [up2_far _ _ _ _ (by decide), up2_far _ _ _ _ (by decide), f30]
  · simp only [hl, if_false, not_false_eq_true, true_and]
    refine ⟨?_, ?_, ?_⟩
    · by_cases hj : j = t
      · subst hj; rw [if_pos rfl, up2_hit]
      · rw [if_neg hj, up2_by _ _ _ hj, up2_far _ _ _ _ (by decide), up2_far _ _ _ _ (by decide), up2_far _ _ _ _ (by decide), f24]
    · rw [up2_far _ _ _ _ (by decide), up2_far _ _ _ _ (by decide), up2_far _ _ _ _ (by decide)]
      by_cases hj : j = 8 * t + k
      · subst hj; rw [if_pos rfl, up2_hit]
      · rw [if_neg hj, up2_by _ _ _ hj, f29]
    · rw [up2_far _ _ _ _ (by decide)]
      by_cases hj : j = 8 * t + k + 1
      · subst hj; rw [if_pos rfl, up2_hit]
      · rw [if_neg hj, up2_by _ _ _ hj, up2_far _ _ _ _ (by decide), up2_far _ _ _ _ (by decide), f30]
