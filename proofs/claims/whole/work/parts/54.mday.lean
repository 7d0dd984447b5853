/-! The reference's day, read cell by cell. -/
theorem mGo_333 (σ : AH) (v p : Nat) (s mi : Int) (j : Nat) : mGo σ v p s mi 333 j = if j = p then -1 else σ 333 j := by
  unfold mGo; split <;> simp [up2]
theorem mGo_334 (σ : AH) (v p : Nat) (s mi : Int) (j : Nat) : mGo σ v p s mi 334 j = if j = p then s else σ 334 j := by
  unfold mGo; split <;> simp [up2]
theorem mGo_335 (σ : AH) (v p : Nat) (s mi : Int) (j : Nat) : mGo σ v p s mi 335 j = if j = p then mi else σ 335 j := by
  unfold mGo; split <;> simp [up2]
theorem mGo_337 (σ : AH) (v p : Nat) (s mi : Int) (j : Nat) : mGo σ v p s mi 337 j = if j = p ∧ σ 321 (10 * v + p) = s then 1 else σ 337 j := by
  unfold mGo; split
  · rename_i h; simp [up2, h]
  · rename_i h; simp [up2, h]
theorem mOffN_w (σ : AH) (b v t k lt e n : Nat) : (∀ p, mOffN σ b v t k lt e n 333 p = if p < n ∧ mOffC σ σ b v t k lt p then -1 else σ 333 p) ∧ (∀ p, mOffN σ b v t k lt e n 334 p = if p < n ∧ mOffC σ σ b v t k lt p then σ 305 (8 * (6 * b + t) + k) else σ 334 p) ∧ (∀ p, mOffN σ b v t k lt e n 335 p = if p < n ∧ mOffC σ σ b v t k lt p then σ 326 e else σ 335 p) ∧ (∀ p, mOffN σ b v t k lt e n 337 p = if p < n ∧ mOffC σ σ b v t k lt p ∧ σ 321 (10 * v + p) = σ 305 (8 * (6 * b + t) + k) then 1 else σ 337 p) ∧ (∀ j, j ≠ e → mOffN σ b v t k lt e n 327 j = σ 327 j) ∧ (∀ j, j ≠ e → mOffN σ b v t k lt e n 332 j = σ 332 j) := by
  induction n with
  | zero => simp [mOffN]
  | succ n ih =>
    obtain ⟨h1, h2, h3, h4, h5, h6⟩ := ih
    have hc : mOffC (mOffN σ b v t k lt e n) σ b v t k lt n ↔ mOffC σ σ b v t k lt n := by
      have := h1 n
      rw [if_neg (by omega)] at this
      unfold mOffC
      rw [this]
    rw [mOffN]
    by_cases hC : mOffC σ σ b v t k lt n
    · rw [if_pos (hc.mpr hC)]
      have h321 : mOffN σ b v t k lt e n 321 (10 * v + n) = σ 321 (10 * v + n) := mOffN_fr σ b v t k lt e n 321 _ (by decide)
      have key : ∀ c p, c ≠ 327 → c ≠ 332 → up2 (up2 (mGo (mOffN σ b v t k lt e n) v n (σ 305 (8 * (6 * b + t) + k)) (σ 326 e)) 327 e (aAdd (mOffN σ b v t k lt e n 327 e) 1)) 332 e (aOr (mOffN σ b v t k lt e n 332 e) (aShl 1 (n : Int))) c p = mGo (mOffN σ b v t k lt e n) v n (σ 305 (8 * (6 * b + t) + k)) (σ 326 e) c p := by
        intro c p ha hb
        rw [up2_far _ _ _ _ hb, up2_far _ _ _ _ ha]
      refine ⟨fun p => ?_, fun p => ?_, fun p => ?_, fun p => ?_, fun j hj => ?_, fun j hj => ?_⟩
      · rw [key _ _ (by decide) (by decide), mGo_333, h1]
        by_cases e1 : p = n
        · rw [if_pos e1, if_pos (show p < n + 1 ∧ mOffC σ σ b v t k lt p from ⟨by omega, by rw [e1]; exact hC⟩)]
        · simp only [e1, if_false, show p < n + 1 ↔ p < n by omega]
      · rw [key _ _ (by decide) (by decide), mGo_334, h2]
        by_cases e1 : p = n
        · rw [if_pos e1, if_pos (show p < n + 1 ∧ mOffC σ σ b v t k lt p from ⟨by omega, by rw [e1]; exact hC⟩)]
        · simp only [e1, if_false, show p < n + 1 ↔ p < n by omega]
      · rw [key _ _ (by decide) (by decide), mGo_335, h3]
        by_cases e1 : p = n
        · rw [if_pos e1, if_pos (show p < n + 1 ∧ mOffC σ σ b v t k lt p from ⟨by omega, by rw [e1]; exact hC⟩)]
        · simp only [e1, if_false, show p < n + 1 ↔ p < n by omega]
      · rw [key _ _ (by decide) (by decide), mGo_337, h4, h321]
        by_cases e1 : p = n
        · subst e1
          by_cases e2 : σ 321 (10 * v + p) = σ 305 (8 * (6 * b + t) + k)
          · rw [if_pos (show p = p ∧ _ from ⟨rfl, e2⟩), if_pos (show p < p + 1 ∧ mOffC σ σ b v t k lt p ∧ _ from ⟨by omega, hC, e2⟩)]
          · rw [if_neg (fun h => e2 h.2), if_neg (fun h => by omega), if_neg (fun h => e2 h.2.2)]
        · simp only [e1, false_and, if_false, show p < n + 1 ↔ p < n by omega]
      · rw [up2_far _ _ _ _ (by decide), up2_by _ _ _ hj, mGo_fr _ _ _ _ _ _ _ (by decide), h5 j hj]
      · rw [up2_by _ _ _ hj, up2_far _ _ _ _ (by decide), mGo_fr _ _ _ _ _ _ _ (by decide), h6 j hj]
    · rw [if_neg (fun h => hC (hc.mp h))]
      have hp : ∀ p, (p < n + 1 ∧ mOffC σ σ b v t k lt p) ↔ (p < n ∧ mOffC σ σ b v t k lt p) := by
        intro p
        constructor
        · intro h
          refine ⟨?_, h.2⟩
          rcases (show p < n ∨ p = n by omega) with h9 | h9
          · exact h9
          · subst h9; exact absurd h.2 hC
        · intro h; exact ⟨by omega, h.2⟩
      refine ⟨fun p => ?_, fun p => ?_, fun p => ?_, fun p => ?_, h5, h6⟩
      · rw [h1]; simp only [hp]
      · rw [h2]; simp only [hp]
      · rw [h3]; simp only [hp]
      · rw [h4]; simp only [← and_assoc, hp]
theorem mOffN_e (σ : AH) (b v t k lt e n : Nat) (h27 : σ 327 e = 0) (h32 : σ 332 e = 0) (hn : n ≤ 10) : mOffN σ b v t k lt e n 327 e = ((cnt (fun p => decide (mOffC σ σ b v t k lt p)) n : Nat) : Int) ∧ mOffN σ b v t k lt e n 332 e = ((bs (fun p => decide (mOffC σ σ b v t k lt p)) n : Nat) : Int) := by
  induction n with
  | zero => exact ⟨h27, h32⟩
  | succ n ih =>
    obtain ⟨h1, h2⟩ := ih (by omega)
    have hc : mOffC (mOffN σ b v t k lt e n) σ b v t k lt n ↔ mOffC σ σ b v t k lt n := by
      have := (mOffN_w σ b v t k lt e n).1 n
      rw [if_neg (by omega)] at this
      unfold mOffC
      rw [this]
    rw [mOffN]
    by_cases hC : mOffC σ σ b v t k lt n
    · rw [if_pos (hc.mpr hC), h1, h2]
      constructor
      · rw [up2_far _ _ _ _ (by decide), up2_hit]
        exact cnt_t (decide_eq_true hC) (by omega)
      · rw [up2_hit]
        exact bs_t (decide_eq_true hC) (by omega)
    · rw [if_neg (fun h => hC (hc.mp h)), h1, h2]
      exact ⟨cnt_f (decide_eq_false hC), bs_f (decide_eq_false hC)⟩
abbrev mW (σ : AH) (b v t k lt : Nat) : Nat → Bool := fun p => decide (mOnC σ σ b v t k lt p)
theorem mOnN_w (σ : AH) (b v t k lt e : Nat) (q0 : Int) (n : Nat) : (mOnN σ b v t k lt e q0 n).1 = grc (mW σ b v t k lt) q0 n ∧ (∀ p, (mOnN σ b v t k lt e q0 n).2 333 p = if p < n ∧ grS (mW σ b v t k lt) q0 p = true then (t : Int) else σ 333 p) ∧ (∀ p, (mOnN σ b v t k lt e q0 n).2 336 p = if p < n ∧ grS (mW σ b v t k lt) q0 p = true then aAdd (σ 336 p) 1 else σ 336 p) ∧ (∀ j, j ≠ e → (mOnN σ b v t k lt e q0 n).2 328 j = σ 328 j) := by
  induction n with
  | zero => simp [mOnN, grc]
  | succ n ih =>
    obtain ⟨h0, h1, h2, h3⟩ := ih
    have hc : mOnC (mOnN σ b v t k lt e q0 n).2 σ b v t k lt n ↔ mOnC σ σ b v t k lt n := by
      have e1 := h1 n
      have e2 := h2 n
      rw [if_neg (by omega)] at e1 e2
      unfold mOnC
      rw [e1, e2]
    rw [mOnN, grc]
    by_cases hC : 0 < grc (mW σ b v t k lt) q0 n ∧ mOnC σ σ b v t k lt n
    · have hg : grS (mW σ b v t k lt) q0 n = true := grS_t (decide_eq_true hC.2) hC.1
      rw [if_pos ⟨by rw [h0]; exact hC.1, hc.mpr hC.2⟩, if_pos ⟨decide_eq_true hC.2, hC.1⟩]
      refine ⟨by rw [h0], fun p => ?_, fun p => ?_, fun j hj => ?_⟩
      · dsimp only
        rw [up2_far _ _ _ _ (by decide), up2_far _ _ _ _ (by decide)]
        by_cases e1 : p = n
        · subst e1; rw [if_pos (show p < p + 1 ∧ _ from ⟨by omega, hg⟩), up2_hit]
        · rw [up2_by _ _ _ e1, h1]; simp only [show p < n + 1 ↔ p < n by omega]
      · dsimp only
        rw [up2_far _ _ _ _ (by decide)]
        by_cases e1 : p = n
        · subst e1; rw [if_pos (show p < p + 1 ∧ _ from ⟨by omega, hg⟩), up2_hit, h2 p, if_neg (by omega)]
        · rw [up2_by _ _ _ e1, up2_far _ _ _ _ (by decide), h2]; simp only [show p < n + 1 ↔ p < n by omega]
      · dsimp only
        rw [up2_by _ _ _ hj, up2_far _ _ _ _ (by decide), up2_far _ _ _ _ (by decide), h3 j hj]
    · have hg : ¬ grS (mW σ b v t k lt) q0 n = true := by
        intro h
        simp only [grS, Bool.and_eq_true, decide_eq_true_eq] at h
        exact hC ⟨h.2, h.1⟩
      rw [if_neg (fun h => hC ⟨by rw [← h0]; exact h.1, hc.mp h.2⟩), if_neg (fun h => hC ⟨h.2, of_decide_eq_true h.1⟩)]
      have hp : ∀ p, (p < n + 1 ∧ grS (mW σ b v t k lt) q0 p = true) ↔ (p < n ∧ grS (mW σ b v t k lt) q0 p = true) := by
        intro p
        constructor
        · intro h
          refine ⟨?_, h.2⟩
          rcases (show p < n ∨ p = n by omega) with h9 | h9
          · exact h9
          · subst h9; exact absurd h.2 hg
        · intro h; exact ⟨by omega, h.2⟩
      refine ⟨h0, fun p => ?_, fun p => ?_, h3⟩
      · rw [h1]; simp only [hp]
      · rw [h2]; simp only [hp]
theorem mOnN_e (σ : AH) (b v t k lt e : Nat) (q0 : Int) (n : Nat) (h28 : σ 328 e = 0) (hn : n ≤ 10) : (mOnN σ b v t k lt e q0 n).2 328 e = ((cnt (grS (mW σ b v t k lt) q0) n : Nat) : Int) := by
  induction n with
  | zero => exact h28
  | succ n ih =>
    obtain ⟨h0, h1, h2, h3⟩ := mOnN_w σ b v t k lt e q0 n
    have hc : mOnC (mOnN σ b v t k lt e q0 n).2 σ b v t k lt n ↔ mOnC σ σ b v t k lt n := by
      have e1 := h1 n
      have e2 := h2 n
      rw [if_neg (by omega)] at e1 e2
      unfold mOnC
      rw [e1, e2]
    rw [mOnN]
    by_cases hC : 0 < grc (mW σ b v t k lt) q0 n ∧ mOnC σ σ b v t k lt n
    · rw [if_pos ⟨by rw [h0]; exact hC.1, hc.mpr hC.2⟩]
      dsimp only
      rw [up2_hit, ih (by omega)]
      exact cnt_t (grS_t (decide_eq_true hC.2) hC.1) (by omega)
    · have hg : grS (mW σ b v t k lt) q0 n = false := by
        rw [← Bool.not_eq_true]
        intro h
        simp only [grS, Bool.and_eq_true, decide_eq_true_eq] at h
        exact hC ⟨h.2, h.1⟩
      rw [if_neg (fun h => hC ⟨by rw [← h0]; exact h.1, hc.mp h.2⟩), ih (by omega)]
      exact cnt_f hg
theorem mBirN_e (σ : AH) (b v t k n : Nat) (h : σ 331 ((8 * t) + k) = 0) (hn : n ≤ 10) : mBirN σ b v t k n 331 ((8 * t) + k) = ((bs (fun p => decide (σ 333 p = (t : Int) ∧ mBA σ v p (mCall σ b t k))) n : Nat) : Int) ∧ ∀ j, j ≠ (8 * t) + k → mBirN σ b v t k n 331 j = σ 331 j := by
  induction n with
  | zero => exact ⟨h, fun _ _ => rfl⟩
  | succ n ih =>
    obtain ⟨h1, h2⟩ := ih (by omega)
    rw [mBirN]
    refine ⟨?_, fun j hj => by rw [up2_by _ _ _ hj, h2 j hj]⟩
    rw [up2_hit, h1]
    by_cases hC : σ 333 n = (t : Int) ∧ mBA σ v n (mCall σ b t k)
    · rw [if_pos hC]; exact bs_t (decide_eq_true hC) (by omega)
    · rw [if_neg hC]; exact bs_z (decide_eq_false hC) (by omega)
theorem mAbo_cnt (σ : AH) (t n : Nat) : mAbo σ t n = cnt (fun p => decide (σ 333 p = (t : Int))) n := by
  induction n with
  | zero => rfl
  | succ n ih =>
    rw [mAbo, cnt, ih]
    by_cases h : σ 333 n = (t : Int) <;> simp [h]
