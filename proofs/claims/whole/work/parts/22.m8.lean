theorem mHap_fr (σ : AH) (b v np t k lt c j : Nat) (h : c < 323 ∨ 337 < c) : mHap σ b v np t k lt c j = σ c j := by
  have h1 : ∀ sp, mH1 σ t k sp c j = σ c j := fun sp => mH1_fr _ _ _ _ _ _ (by omega)
  have h2 : mH2 σ b v np t k lt c j = σ c j := by
    unfold mH2
    split
    · rw [mBirN_fr _ _ _ _ _ _ _ _ (by omega)]; exact h1 _
    · exact h1 _
  have h3 : mH3 σ b v np t k lt c j = σ c j := by
    unfold mH3
    split
    · rw [mOffN_fr _ _ _ _ _ _ _ _ _ _ (by omega)]; exact h2
    · exact h2
  have h4 : mH4 σ b v np t k lt c j = σ c j := by
    unfold mH4
    split
    · rw [mOnN_fr _ _ _ _ _ _ _ _ _ _ _ (by omega)]; exact h3
    · exact h3
  have h5 : mH5 σ b v np t k lt c j = σ c j := by
    unfold mH5
    rw [up2_far _ _ _ _ (by omega), up2_far _ _ _ _ (by omega)]; exact h4
  unfold mHap
  split
  · exact h5
  · rw [up2_far _ _ _ _ (by omega), up2_far _ _ _ _ (by omega)]; exact h5
theorem mHap_nx (σ : AH) (b v np t k lt j : Nat) : mHap σ b v np t k lt 323 j = if j = t then ((k + 1 : Nat) : Int) else σ 323 j := by
  have h1 : ∀ sp, mH1 σ t k sp 323 j = σ 323 j := fun sp => mH1_fr _ _ _ _ _ _ (by decide)
  have h2 : mH2 σ b v np t k lt 323 j = σ 323 j := by
    unfold mH2
    split
    · rw [mBirN_fr _ _ _ _ _ _ _ _ (by decide)]; exact h1 _
    · exact h1 _
  have h3 : mH3 σ b v np t k lt 323 j = σ 323 j := by
    unfold mH3
    split
    · rw [mOffN_fr _ _ _ _ _ _ _ _ _ _ (by decide)]; exact h2
    · exact h2
  have h4 : mH4 σ b v np t k lt 323 j = σ 323 j := by
    unfold mH4
    split
    · rw [mOnN_fr _ _ _ _ _ _ _ _ _ _ _ (by decide)]; exact h3
    · exact h3
  have h5 : mH5 σ b v np t k lt 323 j = if j = t then ((k + 1 : Nat) : Int) else σ 323 j := by
    unfold mH5
    by_cases hj : j = t
    · subst hj; rw [up2_hit, if_pos rfl]
    · rw [up2_by _ _ _ hj, up2_far _ _ _ _ (by decide), if_neg hj]; exact h4
  unfold mHap
  split
  · exact h5
  · rw [up2_far _ _ _ _ (by decide), up2_far _ _ _ _ (by decide)]; exact h5
/-- the start of a day: the first n trains -/
def mTrN (σ : AH) (b : Nat) : Nat → AH
  | 0 => σ
  | n + 1 => up2 (up2 (up2 (mTrN σ b n) 323 n 0) 324 n (σ 302 (6 * b + n))) 330 (8 * n) 0
theorem mTrN_fr (σ : AH) (b n c j : Nat) (h : c ≠ 323 ∧ c ≠ 324 ∧ c ≠ 330) : mTrN σ b n c j = σ c j := by
  induction n with
  | zero => rfl
  | succ n ih => rw [mTrN, up2_far _ _ _ _ h.2.2, up2_far _ _ _ _ h.2.1, up2_far _ _ _ _ h.1, ih]
/-- the start of a day: the first n people -/
def mPeN (σ : AH) (v : Nat) : Nat → AH
  | 0 => σ
  | n + 1 => up2 (up2 (up2 (up2 (up2 (mPeN σ v n) 333 n (-1)) 334 n (σ 320 (10 * v + n))) 335 n (-1)) 336 n 0) 337 n 0
theorem mPeN_fr (σ : AH) (v n c j : Nat) (h : c ≠ 333 ∧ c ≠ 334 ∧ c ≠ 335 ∧ c ≠ 336 ∧ c ≠ 337) : mPeN σ v n c j = σ c j := by
  induction n with
  | zero => rfl
  | succ n ih => rw [mPeN, up2_far _ _ _ _ h.2.2.2.2, up2_far _ _ _ _ h.2.2.2.1, up2_far _ _ _ _ h.2.2.1, up2_far _ _ _ _ h.2.1, up2_far _ _ _ _ h.1, ih]
def oI (x : Option Nat) : Int := match x with
  | none => -1
  | some j => (j : Int)
/-- which of the first n trains comes first -/
def mFst (σ : AH) (b : Nat) : Nat → Option Nat
  | 0 => none
  | n + 1 => if σ 323 n < σ 304 (6 * b + n) ∧ (mFst σ b n = none ∨ σ 324 n < σ 324 ((mFst σ b n).getD 0)) then some n else mFst σ b n
theorem mFst_lt (σ : AH) (b n j : Nat) (h : mFst σ b n = some j) : j < n ∧ σ 323 j < σ 304 (6 * b + j) := by
  induction n with
  | zero => cases h
  | succ n ih =>
    rw [mFst] at h
    split at h
    · rename_i z
      cases h
      exact ⟨by omega, z.1⟩
    · have := ih h
      exact ⟨by omega, this.2⟩
theorem l_day1 (X : AX) (Q : Option AV → AH → Prop) (v nt : Nat) (σ : AH) {b : Nat} (hb : σ 295 13 = (b : Int)) (hb2 : b < 2) (hnt : σ 300 b = (nt : Int)) (hnt2 : nt ≤ 6)  (kk : ∀ x2 : AV, TT X 57 (39, [(2, 295), (0, ((v : Nat) : Int)), x2, (9, 0), (9, 0)], [], (mTrN σ b nt)) Q) : ∀ (d n : Nat), n + d = nt → TT X 57 (5, [(2, 295), (0, ((v : Nat) : Int)), (0, ((n : Nat) : Int)), (9, 0), (9, 0)], [], (mTrN σ b n)) Q := by
  intro d
  induction d with
  | zero =>
    intro n hn
    have hnn : n = nt := by omega
    refine TT.steps (cd := cd57) 5 (c' := (10, [(2, 295), (0, ((v : Nat) : Int)), (0, ((n : Nat) : Int)), (9, 0), (9, 0)], [(0, ((mTrN σ b n) 295 13)), (2, 300), (0, ((n : Nat) : Int))], (mTrN σ b n))) rfl rfl ?_
    refine TT.top0 (z := ((b : Nat) : Int)) ((mTrN_fr _ _ _ 295 (13) (by decide)).trans hb) ?_
    refine TT.aldN (cd := cd57) (300) (b) rfl rfl rfl rfl (show b < 2 by omega) ?_
    refine TT.top0 (z := ((nt : Nat) : Int)) ((mTrN_fr _ _ _ 300 (b) (by decide)).trans hnt) ?_
    refine TT.steps (cd := cd57) 1 (c' := ((if decide (((nt : Nat) : Int) ≤ ((n : Nat) : Int)) = true then 39 else 12), [(2, 295), (0, ((v : Nat) : Int)), (0, ((n : Nat) : Int)), (9, 0), (9, 0)], [], (mTrN σ b n))) rfl rfl ?_
    refine TT.br (p := ((nt : Nat) : Int) ≤ ((n : Nat) : Int)) (fun h1 => ?_) (fun h1 => absurd (show ((nt : Nat) : Int) ≤ ((n : Nat) : Int) by omega) h1)
    subst hnn
    exact kk _
  | succ d ih =>
    intro n hn
    refine TT.steps (cd := cd57) 5 (c' := (10, [(2, 295), (0, ((v : Nat) : Int)), (0, ((n : Nat) : Int)), (9, 0), (9, 0)], [(0, ((mTrN σ b n) 295 13)), (2, 300), (0, ((n : Nat) : Int))], (mTrN σ b n))) rfl rfl ?_
    refine TT.top0 (z := ((b : Nat) : Int)) ((mTrN_fr _ _ _ 295 (13) (by decide)).trans hb) ?_
    refine TT.aldN (cd := cd57) (300) (b) rfl rfl rfl rfl (show b < 2 by omega) ?_
    refine TT.top0 (z := ((nt : Nat) : Int)) ((mTrN_fr _ _ _ 300 (b) (by decide)).trans hnt) ?_
    refine TT.steps (cd := cd57) 1 (c' := ((if decide (((nt : Nat) : Int) ≤ ((n : Nat) : Int)) = true then 39 else 12), [(2, 295), (0, ((v : Nat) : Int)), (0, ((n : Nat) : Int)), (9, 0), (9, 0)], [], (mTrN σ b n))) rfl rfl ?_
    refine TT.br (p := ((nt : Nat) : Int) ≤ ((n : Nat) : Int)) (fun h1 => absurd h1 (show ¬ (((nt : Nat) : Int) ≤ ((n : Nat) : Int)) by omega)) (fun h1 => ?_)
    refine TT.steps (cd := cd57) 4 (c' := (16, [(2, 295), (0, ((v : Nat) : Int)), (0, ((n : Nat) : Int)), (9, 0), (9, 0)], [(0, 0), (0, ((n : Nat) : Int)), (2, 323)], (mTrN σ b n))) rfl rfl ?_
    refine TT.astN (cd := cd57) (323) (n) rfl rfl rfl rfl (show n < 6 by omega) ?_
    refine TT.steps (cd := cd57) 8 (c' := (25, [(2, 295), (0, ((v : Nat) : Int)), (0, ((n : Nat) : Int)), (9, 0), (9, 0)], [(0, ((up2 (mTrN σ b n) 323 n 0) 295 13)), (0, 6), (2, 302), (0, ((n : Nat) : Int)), (2, 324)], (up2 (mTrN σ b n) 323 n 0))) rfl rfl ?_
    refine TT.top0 (z := ((b : Nat) : Int)) (((up2_far (k := 323) (k' := 295) _ _ _ _ (by decide)).trans (mTrN_fr _ _ _ 295 (13) (by decide))).trans hb) ?_
    refine TT.steps (cd := cd57) 1 (c' := (26, [(2, 295), (0, ((v : Nat) : Int)), (0, ((n : Nat) : Int)), (9, 0), (9, 0)], [(0, (aMul 6 ((b : Nat) : Int))), (2, 302), (0, ((n : Nat) : Int)), (2, 324)], (up2 (mTrN σ b n) 323 n 0))) rfl rfl ?_
    refine TT.top0 (z := ((6 * b : Nat) : Int)) (aMul_n (a := 6) (b := b) (by omega)) ?_
    refine TT.steps (cd := cd57) 2 (c' := (28, [(2, 295), (0, ((v : Nat) : Int)), (0, ((n : Nat) : Int)), (9, 0), (9, 0)], [(0, (aAdd ((6 * b : Nat) : Int) ((n : Nat) : Int))), (2, 302), (0, ((n : Nat) : Int)), (2, 324)], (up2 (mTrN σ b n) 323 n 0))) rfl rfl ?_
    refine TT.top0 (z := (((6 * b) + n : Nat) : Int)) (aAdd_n (a := 6 * b) (b := n) (by omega)) ?_
    refine TT.aldN (cd := cd57) (302) ((6 * b) + n) rfl rfl rfl rfl (show (6 * b) + n < 12 by omega) ?_
    refine TT.top0 (z := (σ 302 ((6 * b) + n))) ((up2_far (k := 323) (k' := 302) _ _ _ _ (by decide)).trans (mTrN_fr _ _ _ 302 ((6 * b) + n) (by decide))) ?_
    refine TT.astN (cd := cd57) (324) (n) rfl rfl rfl rfl (show n < 6 by omega) ?_
    refine TT.steps (cd := cd57) 5 (c' := (35, [(2, 295), (0, ((v : Nat) : Int)), (0, ((n : Nat) : Int)), (9, 0), (9, 0)], [(0, (aMul 8 ((n : Nat) : Int))), (2, 330)], (up2 (up2 (mTrN σ b n) 323 n 0) 324 n (σ 302 ((6 * b) + n))))) rfl rfl ?_
    refine TT.top0 (z := ((8 * n : Nat) : Int)) (aMul_n (a := 8) (b := n) (by omega)) ?_
    refine TT.steps (cd := cd57) 1 (c' := (36, [(2, 295), (0, ((v : Nat) : Int)), (0, ((n : Nat) : Int)), (9, 0), (9, 0)], [(0, 0), (0, ((8 * n : Nat) : Int)), (2, 330)], (up2 (up2 (mTrN σ b n) 323 n 0) 324 n (σ 302 ((6 * b) + n))))) rfl rfl ?_
    refine TT.astN (cd := cd57) (330) (8 * n) rfl rfl rfl rfl (show 8 * n < 48 by omega) ?_
    refine TT.inc (cd := cd57) ((n + 1 : Nat) : Int) rfl rfl rfl rfl (fun h => absurd h.2 (show ¬ (0 = 1) by decide)) (aAdd_n (a := n) (b := 1) (by omega)) (ls' := [(2, 295), (0, ((v : Nat) : Int)), (0, ((n + 1 : Nat) : Int)), (9, 0), (9, 0)]) rfl ?_
    refine TT.steps (cd := cd57) 1 (c' := (5, [(2, 295), (0, ((v : Nat) : Int)), (0, ((n + 1 : Nat) : Int)), (9, 0), (9, 0)], [], (up2 (up2 (up2 (mTrN σ b n) 323 n 0) 324 n (σ 302 ((6 * b) + n))) 330 (8 * n) 0))) rfl rfl ?_
    exact ih (n + 1) (by omega)
theorem l_day2 (X : AX) (Q : Option AV → AH → Prop) (np v : Nat) (hvv : v < 22) (σ : AH) {b : Nat} (hb : σ 295 13 = (b : Int)) (hb2 : b < 2) (hnp : σ 307 b = (np : Int)) (hnp2 : np ≤ 10)  (kk : ∀ x2 : AV, TT X 57 (82, [(2, 295), (0, ((v : Nat) : Int)), x2, (9, 0), (9, 0)], [], (mPeN σ v np)) Q) : ∀ (d n : Nat), n + d = np → TT X 57 (41, [(2, 295), (0, ((v : Nat) : Int)), (0, ((n : Nat) : Int)), (9, 0), (9, 0)], [], (mPeN σ v n)) Q := by
  intro d
  induction d with
  | zero =>
    intro n hn
    have hnn : n = np := by omega
    refine TT.steps (cd := cd57) 5 (c' := (46, [(2, 295), (0, ((v : Nat) : Int)), (0, ((n : Nat) : Int)), (9, 0), (9, 0)], [(0, ((mPeN σ v n) 295 13)), (2, 307), (0, ((n : Nat) : Int))], (mPeN σ v n))) rfl rfl ?_
    refine TT.top0 (z := ((b : Nat) : Int)) ((mPeN_fr _ _ _ 295 (13) (by decide)).trans hb) ?_
    refine TT.aldN (cd := cd57) (307) (b) rfl rfl rfl rfl (show b < 2 by omega) ?_
    refine TT.top0 (z := ((np : Nat) : Int)) ((mPeN_fr _ _ _ 307 (b) (by decide)).trans hnp) ?_
    refine TT.steps (cd := cd57) 1 (c' := ((if decide (((np : Nat) : Int) ≤ ((n : Nat) : Int)) = true then 82 else 48), [(2, 295), (0, ((v : Nat) : Int)), (0, ((n : Nat) : Int)), (9, 0), (9, 0)], [], (mPeN σ v n))) rfl rfl ?_
    refine TT.br (p := ((np : Nat) : Int) ≤ ((n : Nat) : Int)) (fun h1 => ?_) (fun h1 => absurd (show ((np : Nat) : Int) ≤ ((n : Nat) : Int) by omega) h1)
    subst hnn
    exact kk _
  | succ d ih =>
    intro n hn
    refine TT.steps (cd := cd57) 5 (c' := (46, [(2, 295), (0, ((v : Nat) : Int)), (0, ((n : Nat) : Int)), (9, 0), (9, 0)], [(0, ((mPeN σ v n) 295 13)), (2, 307), (0, ((n : Nat) : Int))], (mPeN σ v n))) rfl rfl ?_
    refine TT.top0 (z := ((b : Nat) : Int)) ((mPeN_fr _ _ _ 295 (13) (by decide)).trans hb) ?_
    refine TT.aldN (cd := cd57) (307) (b) rfl rfl rfl rfl (show b < 2 by omega) ?_
    refine TT.top0 (z := ((np : Nat) : Int)) ((mPeN_fr _ _ _ 307 (b) (by decide)).trans hnp) ?_
    refine TT.steps (cd := cd57) 1 (c' := ((if decide (((np : Nat) : Int) ≤ ((n : Nat) : Int)) = true then 82 else 48), [(2, 295), (0, ((v : Nat) : Int)), (0, ((n : Nat) : Int)), (9, 0), (9, 0)], [], (mPeN σ v n))) rfl rfl ?_
    refine TT.br (p := ((np : Nat) : Int) ≤ ((n : Nat) : Int)) (fun h1 => absurd h1 (show ¬ (((np : Nat) : Int) ≤ ((n : Nat) : Int)) by omega)) (fun h1 => ?_)
    refine TT.steps (cd := cd57) 4 (c' := (52, [(2, 295), (0, ((v : Nat) : Int)), (0, ((n : Nat) : Int)), (9, 0), (9, 0)], [(0, -1), (0, ((n : Nat) : Int)), (2, 333)], (mPeN σ v n))) rfl rfl ?_
    refine TT.astN (cd := cd57) (333) (n) rfl rfl rfl rfl (show n < 10 by omega) ?_
    refine TT.steps (cd := cd57) 8 (c' := (61, [(2, 295), (0, ((v : Nat) : Int)), (0, ((n : Nat) : Int)), (9, 0), (9, 0)], [(0, (aMul 10 ((v : Nat) : Int))), (2, 320), (0, ((n : Nat) : Int)), (2, 334)], (up2 (mPeN σ v n) 333 n (-1)))) rfl rfl ?_
    refine TT.top0 (z := ((10 * v : Nat) : Int)) (aMul_n (a := 10) (b := v) (by omega)) ?_
    refine TT.steps (cd := cd57) 2 (c' := (63, [(2, 295), (0, ((v : Nat) : Int)), (0, ((n : Nat) : Int)), (9, 0), (9, 0)], [(0, (aAdd ((10 * v : Nat) : Int) ((n : Nat) : Int))), (2, 320), (0, ((n : Nat) : Int)), (2, 334)], (up2 (mPeN σ v n) 333 n (-1)))) rfl rfl ?_
    refine TT.top0 (z := (((10 * v) + n : Nat) : Int)) (aAdd_n (a := 10 * v) (b := n) (by omega)) ?_
    refine TT.aldN (cd := cd57) (320) ((10 * v) + n) rfl rfl rfl rfl (show (10 * v) + n < 220 by omega) ?_
    refine TT.top0 (z := (σ 320 ((10 * v) + n))) ((up2_far (k := 333) (k' := 320) _ _ _ _ (by decide)).trans (mPeN_fr _ _ _ 320 ((10 * v) + n) (by decide))) ?_
    refine TT.astN (cd := cd57) (334) (n) rfl rfl rfl rfl (show n < 10 by omega) ?_
    refine TT.steps (cd := cd57) 4 (c' := (69, [(2, 295), (0, ((v : Nat) : Int)), (0, ((n : Nat) : Int)), (9, 0), (9, 0)], [(0, -1), (0, ((n : Nat) : Int)), (2, 335)], (up2 (up2 (mPeN σ v n) 333 n (-1)) 334 n (σ 320 ((10 * v) + n))))) rfl rfl ?_
    refine TT.astN (cd := cd57) (335) (n) rfl rfl rfl rfl (show n < 10 by omega) ?_
    refine TT.steps (cd := cd57) 4 (c' := (74, [(2, 295), (0, ((v : Nat) : Int)), (0, ((n : Nat) : Int)), (9, 0), (9, 0)], [(0, 0), (0, ((n : Nat) : Int)), (2, 336)], (up2 (up2 (up2 (mPeN σ v n) 333 n (-1)) 334 n (σ 320 ((10 * v) + n))) 335 n (-1)))) rfl rfl ?_
    refine TT.astN (cd := cd57) (336) (n) rfl rfl rfl rfl (show n < 10 by omega) ?_
    refine TT.steps (cd := cd57) 4 (c' := (79, [(2, 295), (0, ((v : Nat) : Int)), (0, ((n : Nat) : Int)), (9, 0), (9, 0)], [(0, 0), (0, ((n : Nat) : Int)), (2, 337)], (up2 (up2 (up2 (up2 (mPeN σ v n) 333 n (-1)) 334 n (σ 320 ((10 * v) + n))) 335 n (-1)) 336 n 0))) rfl rfl ?_
    refine TT.astN (cd := cd57) (337) (n) rfl rfl rfl rfl (show n < 10 by omega) ?_
    refine TT.inc (cd := cd57) ((n + 1 : Nat) : Int) rfl rfl rfl rfl (fun h => absurd h.2 (show ¬ (0 = 1) by decide)) (aAdd_n (a := n) (b := 1) (by omega)) (ls' := [(2, 295), (0, ((v : Nat) : Int)), (0, ((n + 1 : Nat) : Int)), (9, 0), (9, 0)]) rfl ?_
    refine TT.steps (cd := cd57) 1 (c' := (41, [(2, 295), (0, ((v : Nat) : Int)), (0, ((n + 1 : Nat) : Int)), (9, 0), (9, 0)], [], (up2 (up2 (up2 (up2 (up2 (mPeN σ v n) 333 n (-1)) 334 n (σ 320 ((10 * v) + n))) 335 n (-1)) 336 n 0) 337 n 0))) rfl rfl ?_
    exact ih (n + 1) (by omega)
theorem l_first (X : AX) (Q : Option AV → AH → Prop) (v nt : Nat) (L : Nat → Nat) (y2 : Int) (σ : AH) {b : Nat} (hb : σ 295 13 = (b : Int)) (hb2 : b < 2) (hnt : σ 300 b = (nt : Int)) (hnt2 : nt ≤ 6) (hL : ∀ t, t < nt → σ 304 (6 * b + t) = (L t : Int) ∧ 2 ≤ L t ∧ L t ≤ 8) (kk : ∀ x4 : AV, TT X 57 (121, [(2, 295), (0, ((v : Nat) : Int)), (0, y2), (0, (oI (mFst σ b nt))), x4], [], σ) Q) : ∀ (d n : Nat), n + d = nt → TT X 57 (90, [(2, 295), (0, ((v : Nat) : Int)), (0, y2), (0, (oI (mFst σ b n))), (0, ((n : Nat) : Int))], [], σ) Q := by
  intro d
  induction d with
  | zero =>
    intro n hn
    have hnn : n = nt := by omega
    refine TT.steps (cd := cd57) 5 (c' := (95, [(2, 295), (0, ((v : Nat) : Int)), (0, y2), (0, (oI (mFst σ b n))), (0, ((n : Nat) : Int))], [(0, (σ 295 13)), (2, 300), (0, ((n : Nat) : Int))], σ)) rfl rfl ?_
    refine TT.top0 (z := ((b : Nat) : Int)) hb ?_
    refine TT.aldN (cd := cd57) (300) (b) rfl rfl rfl rfl (show b < 2 by omega) ?_
    refine TT.top0 (z := ((nt : Nat) : Int)) hnt ?_
    refine TT.steps (cd := cd57) 1 (c' := ((if decide (((nt : Nat) : Int) ≤ ((n : Nat) : Int)) = true then 121 else 97), [(2, 295), (0, ((v : Nat) : Int)), (0, y2), (0, (oI (mFst σ b n))), (0, ((n : Nat) : Int))], [], σ)) rfl rfl ?_
    refine TT.br (p := ((nt : Nat) : Int) ≤ ((n : Nat) : Int)) (fun h1 => ?_) (fun h1 => absurd (show ((nt : Nat) : Int) ≤ ((n : Nat) : Int) by omega) h1)
    subst hnn
    exact kk _
  | succ d ih =>
    intro n hn
    have hLn := (hL n (by omega)).1
    cases hf : mFst σ b n with
    | none =>
      refine TT.steps (cd := cd57) 5 (c' := (95, [(2, 295), (0, ((v : Nat) : Int)), (0, y2), (0, -1), (0, ((n : Nat) : Int))], [(0, (σ 295 13)), (2, 300), (0, ((n : Nat) : Int))], σ)) rfl rfl ?_
      refine TT.top0 (z := ((b : Nat) : Int)) hb ?_
      refine TT.aldN (cd := cd57) (300) (b) rfl rfl rfl rfl (show b < 2 by omega) ?_
      refine TT.top0 (z := ((nt : Nat) : Int)) hnt ?_
      refine TT.steps (cd := cd57) 1 (c' := ((if decide (((nt : Nat) : Int) ≤ ((n : Nat) : Int)) = true then 121 else 97), [(2, 295), (0, ((v : Nat) : Int)), (0, y2), (0, -1), (0, ((n : Nat) : Int))], [], σ)) rfl rfl ?_
      refine TT.br (p := ((nt : Nat) : Int) ≤ ((n : Nat) : Int)) (fun h1 => absurd h1 (show ¬ (((nt : Nat) : Int) ≤ ((n : Nat) : Int)) by omega)) (fun h1 => ?_)
      refine TT.steps (cd := cd57) 3 (c' := (100, [(2, 295), (0, ((v : Nat) : Int)), (0, y2), (0, -1), (0, ((n : Nat) : Int))], [(0, ((n : Nat) : Int)), (2, 323)], σ)) rfl rfl ?_
      refine TT.aldN (cd := cd57) (323) (n) rfl rfl rfl rfl (show n < 6 by omega) ?_
      refine TT.steps (cd := cd57) 2 (c' := (103, [(2, 295), (0, ((v : Nat) : Int)), (0, y2), (0, -1), (0, ((n : Nat) : Int))], [(0, ((n : Nat) : Int)), (2, 295), (0, (σ 323 n))], σ)) rfl rfl ?_
      refine TT.call (cd := cd57) rfl rfl rfl (by decide) rfl (t_callsOf X n (by omega) σ hb hb2) (fun r2 σ2 hq => ?_)
      rw [hq.1, hq.2]
      refine TT.top0 (z := (((L n) : Nat) : Int)) hLn ?_
      refine TT.steps (cd := cd57) 1 (c' := ((if decide ((((L n) : Nat) : Int) ≤ (σ 323 n)) = true then 119 else 105), [(2, 295), (0, ((v : Nat) : Int)), (0, y2), (0, -1), (0, ((n : Nat) : Int))], [], σ)) rfl rfl ?_
      refine TT.br (p := (((L n) : Nat) : Int) ≤ (σ 323 n)) (fun h3 => ?_) (fun h3 => ?_)
      · refine TT.inc (cd := cd57) ((n + 1 : Nat) : Int) rfl rfl rfl rfl (fun h => absurd h.2 (show ¬ (0 = 1) by decide)) (aAdd_n (a := n) (b := 1) (by omega)) (ls' := [(2, 295), (0, ((v : Nat) : Int)), (0, y2), (0, -1), (0, ((n + 1 : Nat) : Int))]) rfl ?_
        refine TT.steps (cd := cd57) 1 (c' := (90, [(2, 295), (0, ((v : Nat) : Int)), (0, y2), (0, -1), (0, ((n + 1 : Nat) : Int))], [], σ)) rfl rfl ?_
        have e1 : mFst σ b (n + 1) = mFst σ b n := by
          rw [mFst]
          rw [if_neg (by rintro ⟨z1, z2⟩; rw [hf] at z2; rcases z2 with z2 | z2 <;> first | omega | (cases z2; done) | (have z3 : σ 324 n < σ 324 j := z2; omega))]
        have := ih (n + 1) (by omega)
        rw [e1, hf] at this
        exact this
      · refine TT.steps (cd := cd57) 5 (c' := (119, [(2, 295), (0, ((v : Nat) : Int)), (0, y2), (0, ((n : Nat) : Int)), (0, ((n : Nat) : Int))], [], σ)) rfl rfl ?_
        refine TT.inc (cd := cd57) ((n + 1 : Nat) : Int) rfl rfl rfl rfl (fun h => absurd h.2 (show ¬ (0 = 1) by decide)) (aAdd_n (a := n) (b := 1) (by omega)) (ls' := [(2, 295), (0, ((v : Nat) : Int)), (0, y2), (0, ((n : Nat) : Int)), (0, ((n + 1 : Nat) : Int))]) rfl ?_
        refine TT.steps (cd := cd57) 1 (c' := (90, [(2, 295), (0, ((v : Nat) : Int)), (0, y2), (0, ((n : Nat) : Int)), (0, ((n + 1 : Nat) : Int))], [], σ)) rfl rfl ?_
        have e1 : mFst σ b (n + 1) = some n := by
          rw [mFst]
          rw [if_pos ⟨by omega, by first | exact Or.inl hf | (rw [hf]; exact Or.inr (by show σ 324 n < σ 324 j; omega))⟩]
        have := ih (n + 1) (by omega)
        rw [e1] at this
        exact this
    | some j =>
      have hj := mFst_lt σ b n j hf
      refine TT.steps (cd := cd57) 5 (c' := (95, [(2, 295), (0, ((v : Nat) : Int)), (0, y2), (0, ((j : Nat) : Int)), (0, ((n : Nat) : Int))], [(0, (σ 295 13)), (2, 300), (0, ((n : Nat) : Int))], σ)) rfl rfl ?_
      refine TT.top0 (z := ((b : Nat) : Int)) hb ?_
      refine TT.aldN (cd := cd57) (300) (b) rfl rfl rfl rfl (show b < 2 by omega) ?_
      refine TT.top0 (z := ((nt : Nat) : Int)) hnt ?_
      refine TT.steps (cd := cd57) 1 (c' := ((if decide (((nt : Nat) : Int) ≤ ((n : Nat) : Int)) = true then 121 else 97), [(2, 295), (0, ((v : Nat) : Int)), (0, y2), (0, ((j : Nat) : Int)), (0, ((n : Nat) : Int))], [], σ)) rfl rfl ?_
      refine TT.br (p := ((nt : Nat) : Int) ≤ ((n : Nat) : Int)) (fun h1 => absurd h1 (show ¬ (((nt : Nat) : Int) ≤ ((n : Nat) : Int)) by omega)) (fun h1 => ?_)
      refine TT.steps (cd := cd57) 3 (c' := (100, [(2, 295), (0, ((v : Nat) : Int)), (0, y2), (0, ((j : Nat) : Int)), (0, ((n : Nat) : Int))], [(0, ((n : Nat) : Int)), (2, 323)], σ)) rfl rfl ?_
      refine TT.aldN (cd := cd57) (323) (n) rfl rfl rfl rfl (show n < 6 by omega) ?_
      refine TT.steps (cd := cd57) 2 (c' := (103, [(2, 295), (0, ((v : Nat) : Int)), (0, y2), (0, ((j : Nat) : Int)), (0, ((n : Nat) : Int))], [(0, ((n : Nat) : Int)), (2, 295), (0, (σ 323 n))], σ)) rfl rfl ?_
      refine TT.call (cd := cd57) rfl rfl rfl (by decide) rfl (t_callsOf X n (by omega) σ hb hb2) (fun r2 σ2 hq => ?_)
      rw [hq.1, hq.2]
      refine TT.top0 (z := (((L n) : Nat) : Int)) hLn ?_
      refine TT.steps (cd := cd57) 1 (c' := ((if decide ((((L n) : Nat) : Int) ≤ (σ 323 n)) = true then 119 else 105), [(2, 295), (0, ((v : Nat) : Int)), (0, y2), (0, ((j : Nat) : Int)), (0, ((n : Nat) : Int))], [], σ)) rfl rfl ?_
      refine TT.br (p := (((L n) : Nat) : Int) ≤ (σ 323 n)) (fun h3 => ?_) (fun h3 => ?_)
      · refine TT.inc (cd := cd57) ((n + 1 : Nat) : Int) rfl rfl rfl rfl (fun h => absurd h.2 (show ¬ (0 = 1) by decide)) (aAdd_n (a := n) (b := 1) (by omega)) (ls' := [(2, 295), (0, ((v : Nat) : Int)), (0, y2), (0, ((j : Nat) : Int)), (0, ((n + 1 : Nat) : Int))]) rfl ?_
        refine TT.steps (cd := cd57) 1 (c' := (90, [(2, 295), (0, ((v : Nat) : Int)), (0, y2), (0, ((j : Nat) : Int)), (0, ((n + 1 : Nat) : Int))], [], σ)) rfl rfl ?_
        have e1 : mFst σ b (n + 1) = mFst σ b n := by
          rw [mFst]
          rw [if_neg (by rintro ⟨z1, z2⟩; rw [hf] at z2; rcases z2 with z2 | z2 <;> first | omega | (cases z2; done) | (have z3 : σ 324 n < σ 324 j := z2; omega))]
        have := ih (n + 1) (by omega)
        rw [e1, hf] at this
        exact this
      · refine TT.steps (cd := cd57) 3 (c' := ((if decide (((j : Nat) : Int) = (-1)) = true then 117 else 108), [(2, 295), (0, ((v : Nat) : Int)), (0, y2), (0, ((j : Nat) : Int)), (0, ((n : Nat) : Int))], [], σ)) rfl rfl ?_
        refine TT.br (p := ((j : Nat) : Int) = (-1)) (fun h4 => absurd h4 (show ¬ (((j : Nat) : Int) = (-1)) by omega)) (fun h4 => ?_)
        refine TT.steps (cd := cd57) 3 (c' := (111, [(2, 295), (0, ((v : Nat) : Int)), (0, y2), (0, ((j : Nat) : Int)), (0, ((n : Nat) : Int))], [(0, ((n : Nat) : Int)), (2, 324)], σ)) rfl rfl ?_
        refine TT.aldN (cd := cd57) (324) (n) rfl rfl rfl rfl (show n < 6 by omega) ?_
        refine TT.steps (cd := cd57) 3 (c' := (115, [(2, 295), (0, ((v : Nat) : Int)), (0, y2), (0, ((j : Nat) : Int)), (0, ((n : Nat) : Int))], [(0, ((j : Nat) : Int)), (2, 324), (0, (σ 324 n))], σ)) rfl rfl ?_
        refine TT.aldN (cd := cd57) (324) (j) rfl rfl rfl rfl (show j < 6 by omega) ?_
        refine TT.steps (cd := cd57) 1 (c' := ((if decide ((σ 324 j) ≤ (σ 324 n)) = true then 119 else 117), [(2, 295), (0, ((v : Nat) : Int)), (0, y2), (0, ((j : Nat) : Int)), (0, ((n : Nat) : Int))], [], σ)) rfl rfl ?_
        refine TT.br (p := (σ 324 j) ≤ (σ 324 n)) (fun h5 => ?_) (fun h5 => ?_)
        · refine TT.inc (cd := cd57) ((n + 1 : Nat) : Int) rfl rfl rfl rfl (fun h => absurd h.2 (show ¬ (0 = 1) by decide)) (aAdd_n (a := n) (b := 1) (by omega)) (ls' := [(2, 295), (0, ((v : Nat) : Int)), (0, y2), (0, ((j : Nat) : Int)), (0, ((n + 1 : Nat) : Int))]) rfl ?_
          refine TT.steps (cd := cd57) 1 (c' := (90, [(2, 295), (0, ((v : Nat) : Int)), (0, y2), (0, ((j : Nat) : Int)), (0, ((n + 1 : Nat) : Int))], [], σ)) rfl rfl ?_
          have e1 : mFst σ b (n + 1) = mFst σ b n := by
            rw [mFst]
            rw [if_neg (by rintro ⟨z1, z2⟩; rw [hf] at z2; rcases z2 with z2 | z2 <;> first | omega | (cases z2; done) | (have z3 : σ 324 n < σ 324 j := z2; omega))]
          have := ih (n + 1) (by omega)
          rw [e1, hf] at this
          exact this
        · refine TT.steps (cd := cd57) 2 (c' := (119, [(2, 295), (0, ((v : Nat) : Int)), (0, y2), (0, ((n : Nat) : Int)), (0, ((n : Nat) : Int))], [], σ)) rfl rfl ?_
          refine TT.inc (cd := cd57) ((n + 1 : Nat) : Int) rfl rfl rfl rfl (fun h => absurd h.2 (show ¬ (0 = 1) by decide)) (aAdd_n (a := n) (b := 1) (by omega)) (ls' := [(2, 295), (0, ((v : Nat) : Int)), (0, y2), (0, ((n : Nat) : Int)), (0, ((n + 1 : Nat) : Int))]) rfl ?_
          refine TT.steps (cd := cd57) 1 (c' := (90, [(2, 295), (0, ((v : Nat) : Int)), (0, y2), (0, ((n : Nat) : Int)), (0, ((n + 1 : Nat) : Int))], [], σ)) rfl rfl ?_
          have e1 : mFst σ b (n + 1) = some n := by
            rw [mFst]
            rw [if_pos ⟨by omega, by first | exact Or.inl hf | (rw [hf]; exact Or.inr (by show σ 324 n < σ 324 j; omega))⟩]
          have := ih (n + 1) (by omega)
          rw [e1] at this
          exact this
/-- how many stations are still ahead, of the first n trains -/
def mLeft (σ : AH) (L : Nat → Nat) : Nat → Nat
  | 0 => 0
  | n + 1 => mLeft σ L n + (L n - (σ 323 n).toNat)
theorem mLeft_up (σ σ' : AH) (L : Nat → Nat) (t k n : Nat) (h : ∀ j, σ' 323 j = if j = t then ((k + 1 : Nat) : Int) else σ 323 j) (hk : σ 323 t = (k : Int)) (hl : k < L t) : mLeft σ L n = mLeft σ' L n + (if t < n then 1 else 0) := by
  induction n with
  | zero => rfl
  | succ n ih =>
    rw [mLeft, mLeft, ih, h n]
    by_cases e : n = t
    · subst e
      rw [if_pos rfl, hk, if_neg (by omega), if_pos (by omega)]
      omega
    · rw [if_neg e]
      by_cases e2 : t < n
      · rw [if_pos e2, if_pos (by omega)]; omega
      · rw [if_neg e2, if_neg (by omega)]; omega
/-- the events of a day, one by one -/
def mEvt (b v np nt : Nat) (L : Nat → Nat) : Nat → AH → AH
  | 0, σ => σ
  | f + 1, σ => match mFst σ b nt with
    | none => σ
    | some t => if σ 295 57 = -1 ∨ σ 324 t ≤ σ 295 57 then mEvt b v np nt L f (mHap σ b v np t (σ 323 t).toNat (L t)) else σ
def mDay (σ : AH) (b v np nt : Nat) (L : Nat → Nat) : AH := mEvt b v np nt L 49 (mPeN (mTrN (up2 σ 295 46 (v : Int)) b nt) v np)
theorem l_events (X : AX) (np nt : Nat) (L : Nat → Nat) : ∀ (f : Nat) (σ : AH) {b v : Nat} (hb : σ 295 13 = (b : Int)) (hb2 : b < 2) (hv : σ 295 46 = (v : Int)) (hv2 : v < 22) (hnp : σ 307 b = (np : Int)) (hnp2 : np ≤ 10) (hnt : σ 300 b = (nt : Int)) (hnt2 : nt ≤ 6) (hL : ∀ t, t < nt → σ 304 (6 * b + t) = (L t : Int) ∧ 2 ≤ L t ∧ L t ≤ 8) (hKn : ∀ t, t < nt → 0 ≤ σ 323 t ∧ σ 323 t ≤ (L t : Int)) , mLeft σ L nt < f → ∀ (x3 x4 : AV), TT X 57 (84, [(2, 295), (0, ((v : Nat) : Int)), (0, 1), x3, x4], [], σ) (fun r σ' => r = none ∧ σ' = mEvt b v np nt L f σ) := by
  intro f
  induction f with
  | zero => intro σ b v hb hb2 hv hv2 hnp hnp2 hnt hnt2 hL hKn h; omega
  | succ f ih =>
    intro σ b v hb hb2 hv hv2 hnp hnp2 hnt hnt2 hL hKn h x3 x4
    refine TT.steps (cd := cd57) 6 (c' := (90, [(2, 295), (0, ((v : Nat) : Int)), (0, 1), (0, -1), (0, 0)], [], σ)) rfl rfl ?_
    refine l_first X _ v nt L 1 σ hb hb2 hnt hnt2 hL (fun x5 => ?_) nt 0 (by omega)
    cases hf : mFst σ b nt with
    | none =>
      refine TT.steps (cd := cd57) 10 (c' := (145, [(2, 295), (0, ((v : Nat) : Int)), (0, 0), (0, -1), x5], [], σ)) rfl rfl ?_
      exact TT.ret (cd := cd57) rfl rfl rfl rfl (⟨rfl, by rw [mEvt, hf]⟩)
    | some t =>
      have ht := mFst_lt σ b nt t hf
      have hLt := hL t ht.1
      have hKt := hKn t ht.1
      have hk : σ 323 t = (((σ 323 t).toNat : Nat) : Int) := by omega
      refine TT.steps (cd := cd57) 3 (c' := ((if decide (((t : Nat) : Int) = (-1)) = true then 137 else 124), [(2, 295), (0, ((v : Nat) : Int)), (0, 1), (0, ((t : Nat) : Int)), x5], [], σ)) rfl rfl ?_
      refine TT.br (p := ((t : Nat) : Int) = (-1)) (fun h1 => absurd h1 (show ¬ (((t : Nat) : Int) = (-1)) by omega)) (fun h1 => ?_)
      refine TT.steps (cd := cd57) 4 (c' := ((if decide ((σ 295 57) = (-1)) = true then 135 else 128), [(2, 295), (0, ((v : Nat) : Int)), (0, 1), (0, ((t : Nat) : Int)), x5], [], σ)) rfl rfl ?_
      refine TT.br (p := (σ 295 57) = (-1)) (fun h2 => ?_) (fun h2 => ?_)
      · refine TT.steps (cd := cd57) 7 (c' := (143, [(2, 295), (0, ((v : Nat) : Int)), (0, 1), (0, ((t : Nat) : Int)), x5], [(0, ((t : Nat) : Int)), (2, 295)], σ)) rfl rfl ?_
        refine TT.call (cd := cd57) rfl rfl rfl (by decide) rfl (t_happens X t (σ 323 t).toNat np (L t) σ hb hb2 hv hv2 hnp hnp2 (by omega) hLt.1 hLt.2 (by omega) hk) (fun r3 σ3 hq => ?_)
        rw [hq.1, hq.2]
        refine TT.steps (cd := cd57) 1 (c' := (84, [(2, 295), (0, ((v : Nat) : Int)), (0, 1), (0, ((t : Nat) : Int)), x5], [], (mHap σ b v np t (σ 323 t).toNat (L t)))) rfl rfl ?_
        have en := mHap_nx σ b v np t (σ 323 t).toNat (L t)
        have el := mLeft_up σ (mHap σ b v np t (σ 323 t).toNat (L t)) L t _ nt en hk (by omega)
        rw [if_pos ht.1] at el
        have := ih (mHap σ b v np t (σ 323 t).toNat (L t)) ((mHap_fr _ _ _ _ _ _ _ _ _ (by decide)).trans hb) hb2 ((mHap_fr _ _ _ _ _ _ _ _ _ (by decide)).trans hv) hv2 ((mHap_fr _ _ _ _ _ _ _ _ _ (by decide)).trans hnp) hnp2 ((mHap_fr _ _ _ _ _ _ _ _ _ (by decide)).trans hnt) hnt2 (fun t' ht' => by rw [mHap_fr _ _ _ _ _ _ _ _ _ (by decide)]; exact hL t' ht') (fun t' ht' => by rw [en t']; split; (rename_i e; subst e; omega); exact hKn t' ht') (by omega) ((0, ((t : Nat) : Int)) : AV) x5
        rw [mEvt, hf]
        dsimp only
        rw [if_pos (by omega)]
        exact this
      · refine TT.steps (cd := cd57) 3 (c' := (131, [(2, 295), (0, ((v : Nat) : Int)), (0, 1), (0, ((t : Nat) : Int)), x5], [(0, ((t : Nat) : Int)), (2, 324)], σ)) rfl rfl ?_
        refine TT.aldN (cd := cd57) (324) (t) rfl rfl rfl rfl (show t < 6 by omega) ?_
        refine TT.steps (cd := cd57) 3 (c' := ((if decide ((σ 295 57) < (σ 324 t)) = true then 137 else 135), [(2, 295), (0, ((v : Nat) : Int)), (0, 1), (0, ((t : Nat) : Int)), x5], [], σ)) rfl rfl ?_
        refine TT.br (p := (σ 295 57) < (σ 324 t)) (fun h4 => ?_) (fun h4 => ?_)
        · refine TT.steps (cd := cd57) 5 (c' := (84, [(2, 295), (0, ((v : Nat) : Int)), (0, 0), (0, ((t : Nat) : Int)), x5], [], σ)) rfl rfl ?_
          refine TT.steps (cd := cd57) 2 (c' := (145, [(2, 295), (0, ((v : Nat) : Int)), (0, 0), (0, ((t : Nat) : Int)), x5], [], σ)) rfl rfl ?_
          exact TT.ret (cd := cd57) rfl rfl rfl rfl (⟨rfl, by rw [mEvt, hf]; dsimp only; rw [if_neg (by omega)]⟩)
        · refine TT.steps (cd := cd57) 7 (c' := (143, [(2, 295), (0, ((v : Nat) : Int)), (0, 1), (0, ((t : Nat) : Int)), x5], [(0, ((t : Nat) : Int)), (2, 295)], σ)) rfl rfl ?_
          refine TT.call (cd := cd57) rfl rfl rfl (by decide) rfl (t_happens X t (σ 323 t).toNat np (L t) σ hb hb2 hv hv2 hnp hnp2 (by omega) hLt.1 hLt.2 (by omega) hk) (fun r5 σ5 hq => ?_)
          rw [hq.1, hq.2]
          refine TT.steps (cd := cd57) 1 (c' := (84, [(2, 295), (0, ((v : Nat) : Int)), (0, 1), (0, ((t : Nat) : Int)), x5], [], (mHap σ b v np t (σ 323 t).toNat (L t)))) rfl rfl ?_
          have en := mHap_nx σ b v np t (σ 323 t).toNat (L t)
          have el := mLeft_up σ (mHap σ b v np t (σ 323 t).toNat (L t)) L t _ nt en hk (by omega)
          rw [if_pos ht.1] at el
          have := ih (mHap σ b v np t (σ 323 t).toNat (L t)) ((mHap_fr _ _ _ _ _ _ _ _ _ (by decide)).trans hb) hb2 ((mHap_fr _ _ _ _ _ _ _ _ _ (by decide)).trans hv) hv2 ((mHap_fr _ _ _ _ _ _ _ _ _ (by decide)).trans hnp) hnp2 ((mHap_fr _ _ _ _ _ _ _ _ _ (by decide)).trans hnt) hnt2 (fun t' ht' => by rw [mHap_fr _ _ _ _ _ _ _ _ _ (by decide)]; exact hL t' ht') (fun t' ht' => by rw [en t']; split; (rename_i e; subst e; omega); exact hKn t' ht') (by omega) ((0, ((t : Nat) : Int)) : AV) x5
          rw [mEvt, hf]
          dsimp only
          rw [if_pos (by omega)]
          exact this
theorem mTrN_nx (σ : AH) (b n t : Nat) (h : t < n) : mTrN σ b n 323 t = 0 := by
  induction n with
  | zero => omega
  | succ n ih =>
    rw [mTrN, up2_far _ _ _ _ (by decide), up2_far _ _ _ _ (by decide)]
    by_cases e : t = n
    · subst e; rw [up2_hit]
    · rw [up2_by _ _ _ e]; exact ih (by omega)
theorem mLeft_le (σ : AH) (L : Nat → Nat) (n : Nat) (h : ∀ t, t < n → L t ≤ 8) : mLeft σ L n ≤ 8 * n := by
  induction n with
  | zero => exact Nat.le_refl _
  | succ n ih =>
    have := ih (fun t ht => h t (by omega))
    have := h n (by omega)
    rw [mLeft]; omega
theorem t_dayOf (X : AX) (np nt : Nat) (L : Nat → Nat) (σ : AH) {b v : Nat} (hb : σ 295 13 = (b : Int)) (hb2 : b < 2) (hv2 : v < 22) (hnp : σ 307 b = (np : Int)) (hnp2 : np ≤ 10) (hnt : σ 300 b = (nt : Int)) (hnt2 : nt ≤ 6) (hL : ∀ t, t < nt → σ 304 (6 * b + t) = (L t : Int) ∧ 2 ≤ L t ∧ L t ≤ 8)  : TT X 57 (0, [(2, 295), (0, ((v : Nat) : Int)), (9, 0), (9, 0), (9, 0)], [], σ) (fun r σ' => r = none ∧ σ' = mDay σ b v np nt L) := by
  have hb1 : (mTrN (up2 σ 295 46 ((v : Nat) : Int)) b nt) 295 13 = (b : Int) := (mTrN_fr _ _ _ _ _ (by decide)).trans ((up2_by _ _ _ (by decide)).trans hb)
  have hb3 : (mPeN (mTrN (up2 σ 295 46 ((v : Nat) : Int)) b nt) v np) 295 13 = (b : Int) := (mPeN_fr _ _ _ _ _ (by decide)).trans hb1
  have hv3 : (mPeN (mTrN (up2 σ 295 46 ((v : Nat) : Int)) b nt) v np) 295 46 = (v : Int) := (mPeN_fr _ _ _ _ _ (by decide)).trans ((mTrN_fr _ _ _ _ _ (by decide)).trans (up2_hit _ _ _ _))
  have hnp1 : (mTrN (up2 σ 295 46 ((v : Nat) : Int)) b nt) 307 b = (np : Int) := (mTrN_fr _ _ _ _ _ (by decide)).trans ((up2_far _ _ _ _ (by decide)).trans hnp)
  have hnp3 : (mPeN (mTrN (up2 σ 295 46 ((v : Nat) : Int)) b nt) v np) 307 b = (np : Int) := (mPeN_fr _ _ _ _ _ (by decide)).trans hnp1
  have hnt3 : (mPeN (mTrN (up2 σ 295 46 ((v : Nat) : Int)) b nt) v np) 300 b = (nt : Int) := (mPeN_fr _ _ _ _ _ (by decide)).trans ((mTrN_fr _ _ _ _ _ (by decide)).trans ((up2_far _ _ _ _ (by decide)).trans hnt))
  have hL3 : ∀ t, t < nt → (mPeN (mTrN (up2 σ 295 46 ((v : Nat) : Int)) b nt) v np) 304 (6 * b + t) = (L t : Int) ∧ 2 ≤ L t ∧ L t ≤ 8 := fun t ht => ⟨(mPeN_fr _ _ _ _ _ (by decide)).trans ((mTrN_fr _ _ _ _ _ (by decide)).trans ((up2_far _ _ _ _ (by decide)).trans (hL t ht).1)), (hL t ht).2⟩
  have hK3 : ∀ t, t < nt → 0 ≤ (mPeN (mTrN (up2 σ 295 46 ((v : Nat) : Int)) b nt) v np) 323 t ∧ (mPeN (mTrN (up2 σ 295 46 ((v : Nat) : Int)) b nt) v np) 323 t ≤ (L t : Int) := fun t ht => by rw [mPeN_fr _ _ _ _ _ (by decide), mTrN_nx _ _ _ _ ht]; have := hL t ht; omega
  refine TT.steps (cd := cd57) 5 (c' := (5, [(2, 295), (0, ((v : Nat) : Int)), (0, 0), (9, 0), (9, 0)], [], (up2 σ 295 46 ((v : Nat) : Int)))) rfl rfl ?_
  refine l_day1 X _ v nt (up2 σ 295 46 ((v : Nat) : Int)) ((up2_by _ _ (j := 46) (j' := 13) _ (by decide)).trans hb) hb2 ((up2_far (k := 295) (k' := 300) _ _ _ _ (by decide)).trans hnt) hnt2 (fun x2 => ?_) nt 0 (by omega)
  refine TT.steps (cd := cd57) 2 (c' := (41, [(2, 295), (0, ((v : Nat) : Int)), (0, 0), (9, 0), (9, 0)], [], (mTrN (up2 σ 295 46 ((v : Nat) : Int)) b nt))) rfl rfl ?_
  refine l_day2 X _ np v hv2 (mTrN (up2 σ 295 46 ((v : Nat) : Int)) b nt) hb1 hb2 hnp1 hnp2 (fun x2 => ?_) np 0 (by omega)
  refine TT.steps (cd := cd57) 2 (c' := (84, [(2, 295), (0, ((v : Nat) : Int)), (0, 1), (9, 0), (9, 0)], [], (mPeN (mTrN (up2 σ 295 46 ((v : Nat) : Int)) b nt) v np))) rfl rfl ?_
  exact l_events X np nt L 49 (mPeN (mTrN (up2 σ 295 46 ((v : Nat) : Int)) b nt) v np) (b := b) (v := v) hb3 hb2 hv3 hv2 hnp3 hnp2 hnt3 hnt2 hL3 hK3 (by have := mLeft_le (mPeN (mTrN (up2 σ 295 46 ((v : Nat) : Int)) b nt) v np) L nt (fun t ht => (hL t ht).2.2); omega) _ _
