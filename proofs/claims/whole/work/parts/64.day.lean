/-! The class's day from its start; lines and people beside the reference's. -/
def LT (σ ρ : AH) (l b np nt ns : Nat) (L : Nat → Nat) (C : Nat → Nat → Nat) : Prop :=
  (σ l 1 = (ns : Int) ∧ σ l 2 = (nt : Int) ∧ σ l 3 = ρ 299 b ∧ σ (l + 22) 0 = (np : Int))
  ∧ (ρ 295 13 = (b : Int) ∧ b < 2 ∧ ρ 297 b = (ns : Int) ∧ ρ 300 b = (nt : Int) ∧ ρ 307 b = (np : Int))
  ∧ (np ≤ 10 ∧ nt ≤ 6 ∧ ns ≤ 14 ∧ 0 ≤ ρ 299 b ∧ ρ 299 b ≤ 30)
  ∧ (∀ t, t < nt → σ (l + 7) t = (L t : Int) ∧ ρ 304 (6 * b + t) = (L t : Int) ∧ 2 ≤ L t ∧ L t ≤ 8 ∧ σ (l + 5) t = ρ 302 (6 * b + t) ∧ 0 ≤ ρ 302 (6 * b + t) ∧ ρ 302 (6 * b + t) ≤ 1439 ∧ σ (l + 6) t = ρ 303 (6 * b + t))
  ∧ (∀ t k, t < nt → k < L t → σ (l + 9 + t) k = (C t k : Int) ∧ ρ 305 (8 * (6 * b + t) + k) = (C t k : Int) ∧ C t k < ns)
  ∧ (∀ t k, t < nt → k + 1 < L t → σ (l + 16 + t) (k + 1) = ρ 306 (8 * (6 * b + t) + (k + 1)) ∧ 0 ≤ ρ 306 (8 * (6 * b + t) + (k + 1)) ∧ ρ 306 (8 * (6 * b + t) + (k + 1)) ≤ 99)
  ∧ (∀ p, p < np → σ (l + 4) p = ρ 314 (10 * b + p) ∧ 0 ≤ ρ 314 (10 * b + p) ∧ ρ 314 (10 * b + p) ≤ 99)
  ∧ (∀ t k k', t < nt → k < k' → k' < L t → C t k ≠ C t k')
def PTb (σ ρ : AH) (q v np ns : Nat) : Prop := σ q 0 = (np : Int) ∧ (∀ p, p < np → (∃ s : Nat, s < ns ∧ σ (q + 2) p = (s : Int) ∧ ρ 318 (10 * v + p) = (s : Int)) ∧ σ (q + 3) p = ρ 319 (10 * v + p) ∧ (∃ s : Nat, s < ns ∧ σ (q + 4) p = (s : Int) ∧ ρ 320 (10 * v + p) = (s : Int)) ∧ (∃ s : Nat, s < ns ∧ σ (q + 5) p = (s : Int) ∧ ρ 321 (10 * v + p) = (s : Int)))
/-- the day is prepared for a line and people -/
def PR (τ : AH) (l q np nt : Nat) (L : Nat → Nat) : Prop := (τ 198 11 = (l : Int) ∧ τ 198 12 = (q : Int)) ∧ (∀ s : Nat, s < 14 → τ 200 s = ((bs (fun p => decide (τ (q + 2) p = (s : Int) ∧ τ (q + 3) p = -1)) np : Nat) : Int) ∧ τ 201 s = ((bs (fun p => decide (τ (q + 5) p = (s : Int))) np : Nat) : Int)) ∧ (∀ t, t < nt → (∀ j, j < L t → τ (210 + t) j = kLa τ l q t (L t) np (j + 1)) ∧ (∀ j, j + 1 < L t → τ (203 + t) (j + 1) = kBB τ q np (τ (l + 9 + t) j) (τ (l + 9 + t) (j + 1))))
theorem PR_of {σ τ : AH} {l q np nt : Nat} {L : Nat → Nat} (hl : l = 8 ∨ l = 170) (hq : q = 36 ∨ q = 42) (hnt : nt ≤ 6) (h : LN3 (up2 (up2 σ 198 11 (l : Int)) 198 12 (q : Int)) τ l q np L nt) : PR τ l q np nt L := by
  have f : ∀ K j, K < 200 → τ K j = up2 (up2 σ 198 11 (l : Int)) 198 12 (q : Int) K j := fun K j hK => h.1 K j (by omega)
  refine ⟨⟨?_, ?_⟩, fun s hs => ?_, fun t ht => ⟨fun j hj => ?_, fun j hj => ?_⟩⟩
  · rw [f _ _ (by omega), up2_nq _ (by omega), up2_hit]
  · rw [f _ _ (by omega), up2_hit]
  · simp only [f (q + 2) _ (by omega), f (q + 3) _ (by omega), f (q + 5) _ (by omega)]
    exact h.2.1 s hs
  · unfold kLa
    simp only [f (q + 5) _ (by omega), f (l + 9 + t) _ (by omega)]
    exact (h.2.2 t ht).1 j hj
  · unfold kBB
    simp only [f (q + 2) _ (by omega), f (q + 3) _ (by omega), f (l + 9 + t) _ (by omega)]
    exact (h.2.2 t ht).2 j hj
theorem PR_mv {σ τ : AH} {l q np nt : Nat} {L : Nat → Nat} (hl : l = 8 ∨ l = 170) (hq : q = 36 ∨ q = 42) (hnt : nt ≤ 6) (h : PR σ l q np nt L) (h1 : ∀ K j, (K < 198 ∨ (198 < K ∧ K < 218)) → τ K j = σ K j) (h2 : τ 198 11 = σ 198 11 ∧ τ 198 12 = σ 198 12) : PR τ l q np nt L := by
  refine ⟨⟨?_, ?_⟩, fun s hs => ?_, fun t ht => ⟨fun j hj => ?_, fun j hj => ?_⟩⟩
  · rw [h2.1]; exact h.1.1
  · rw [h2.2]; exact h.1.2
  · simp only [h1 200 _ (by omega), h1 201 _ (by omega), h1 (q + 2) _ (by omega), h1 (q + 3) _ (by omega), h1 (q + 5) _ (by omega)]
    exact h.2.1 s hs
  · unfold kLa
    simp only [h1 (210 + t) _ (by omega), h1 (q + 5) _ (by omega), h1 (l + 9 + t) _ (by omega)]
    exact (h.2.2 t ht).1 j hj
  · unfold kBB
    simp only [h1 (203 + t) _ (by omega), h1 (q + 2) _ (by omega), h1 (q + 3) _ (by omega), h1 (l + 9 + t) _ (by omega)]
    exact (h.2.2 t ht).2 j hj
theorem DR_of {τ ρ : AH} {l q b v np nt ns : Nat} {L : Nat → Nat} {C : Nat → Nat → Nat} (hP : PR τ l q np nt L) (hL : LT τ ρ l b np nt ns L C) (hT : PTb τ ρ q v np ns) (h13 : τ 198 13 = ((bs (fun p => decide (ρ 322 (10 * v + p) = 1)) np : Nat) : Int)) (h14 : τ 198 14 = ((bs (fun p => decide ((p : Int) = ρ 295 45)) np : Nat) : Int)) : DR τ ρ l q b v np nt ns L C := by
  obtain ⟨⟨a1, a2, a3, a4⟩, ⟨b1, b2, b3, b4, b5⟩, c, hTr, hCa, hAf, -, -⟩ := hL
  refine ⟨⟨hP.1.1, hP.1.2, hT.1, a2, a3⟩, c, ?_, hCa, hAf, ?_, ?_, ?_, h13, h14⟩
  · intro t ht
    obtain ⟨h1, h2, h3, h4, h5, h6, h7, h8⟩ := hTr t ht
    exact ⟨h1, h3, h4, h5, h6, h7, h8⟩
  · intro s hs
    rw [(hP.2.1 s hs).1, (hP.2.1 s hs).2]
    constructor
    · refine congrArg (fun x : Nat => (x : Int)) (bs_c ?_)
      intro p hp
      obtain ⟨⟨s1, -, e1, e2⟩, e3, -, -⟩ := hT.2 p hp
      unfold mBA
      rw [e1, e2, e3]
    · refine congrArg (fun x : Nat => (x : Int)) (bs_c ?_)
      intro p hp
      obtain ⟨-, -, -, ⟨s1, -, e1, e2⟩⟩ := hT.2 p hp
      rw [e1, e2]
  · intro t k ht hk
    rw [(hP.2.2 t ht).1 k hk]
    refine congrArg (fun x : Nat => (x : Int)) (bs_c ?_)
    intro p hp
    obtain ⟨-, -, -, ⟨s1, -, e1, e2⟩⟩ := hT.2 p hp
    apply anyN_c
    intro i hi
    obtain ⟨g1, g2, -⟩ := hCa t i ht hi
    rw [g1, g2, e1, e2]
  · intro t k ht hk
    rw [(hP.2.2 t ht).2 k hk]
    refine congrArg (fun x : Nat => (x : Int)) (bs_c ?_)
    intro p hp
    obtain ⟨⟨s1, -, e1, e2⟩, e3, -, -⟩ := hT.2 p hp
    obtain ⟨g1, g2, -⟩ := hCa t k ht (by omega)
    obtain ⟨g3, g4, -⟩ := hCa t (k + 1) ht hk
    unfold mBB mCall
    rw [g1, g2, g3, g4, e1, e2, e3]
theorem mTrN_t (ρ : AH) (b n t : Nat) (h : t < n) : mTrN ρ b n 324 t = ρ 302 (6 * b + t) ∧ mTrN ρ b n 330 (8 * t) = 0 := by
  induction n with
  | zero => omega
  | succ n ih =>
    rw [mTrN]
    by_cases e : t = n
    · subst e
      constructor
      · rw [up2_nq _ (by omega), up2_hit]
      · rw [up2_hit]
    · have := ih (by omega)
      constructor
      · rw [up2_nq _ (by omega), up2_nq _ (by omega), up2_nq _ (by omega)]; exact this.1
      · rw [up2_nq _ (by omega), up2_nq _ (by omega), up2_nq _ (by omega)]; exact this.2
theorem mPeN_p (ρ : AH) (v n p : Nat) (h : p < n) : mPeN ρ v n 333 p = -1 ∧ mPeN ρ v n 334 p = ρ 320 (10 * v + p) ∧ mPeN ρ v n 335 p = -1 ∧ mPeN ρ v n 336 p = 0 ∧ mPeN ρ v n 337 p = 0 := by
  induction n with
  | zero => omega
  | succ n ih =>
    rw [mPeN]
    by_cases e : p = n
    · subst e
      refine ⟨?_, ?_, ?_, ?_, ?_⟩
      · rw [up2_nq _ (by omega), up2_nq _ (by omega), up2_nq _ (by omega), up2_nq _ (by omega), up2_hit]
      · rw [up2_nq _ (by omega), up2_nq _ (by omega), up2_nq _ (by omega), up2_hit]
      · rw [up2_nq _ (by omega), up2_nq _ (by omega), up2_hit]
      · rw [up2_nq _ (by omega), up2_hit]
      · rw [up2_hit]
    · obtain ⟨h1, h2, h3, h4, h5⟩ := ih (by omega)
      refine ⟨?_, ?_, ?_, ?_, ?_⟩
      · rw [up2_nq _ (by omega), up2_nq _ (by omega), up2_nq _ (by omega), up2_nq _ (by omega), up2_nq _ (by omega)]; exact h1
      · rw [up2_nq _ (by omega), up2_nq _ (by omega), up2_nq _ (by omega), up2_nq _ (by omega), up2_nq _ (by omega)]; exact h2
      · rw [up2_nq _ (by omega), up2_nq _ (by omega), up2_nq _ (by omega), up2_nq _ (by omega), up2_nq _ (by omega)]; exact h3
      · rw [up2_nq _ (by omega), up2_nq _ (by omega), up2_nq _ (by omega), up2_nq _ (by omega), up2_nq _ (by omega)]; exact h4
      · rw [up2_nq _ (by omega), up2_nq _ (by omega), up2_nq _ (by omega), up2_nq _ (by omega), up2_nq _ (by omega)]; exact h5
abbrev mD0 (ρ : AH) (b v np nt : Nat) : AH := mPeN (mTrN (up2 ρ 295 46 (v : Int)) b nt) v np
abbrev zAb (ρ : AH) : Nat → Bool := fun p => decide ((p : Int) = ρ 295 44)
/-- the class's cells as a day begins -/
abbrev cD0 (σ : AH) (l q np nt : Nat) (ab : Nat → Bool) : AH := cTr (up2 (up2 (cPl (up2 (up2 σ 198 7 0) 198 15 0) q ab np) 198 16 0) 198 17 0) l nt
theorem bs_no {f : Nat → Bool} {n : Nat} (h : ∀ p, p < n → f p = false) : (0 : Int) = ((bs f n : Nat) : Int) := by
  rw [bs_c (g := fun _ => false) h, bs_zero]; rfl
theorem RE_0 {σ ρ : AH} {l q b v np nt ns : Nat} {L : Nat → Nat} {C : Nat → Nat → Nat} (hl : l = 8 ∨ l = 170) (hq : q = 36 ∨ q = 42) (hL : LT σ ρ l b np nt ns L C) (hT : PTb σ ρ q v np ns) : RE 0 (cD0 σ l q np nt (zAb ρ)) (mD0 ρ b v np nt) b v np nt ns L C := by
  obtain ⟨⟨a1, a2, a3, a4⟩, ⟨b1, b2, b3, b4, b5⟩, ⟨c1, c2, c3, c4, c5⟩, hTr, hCa, hAf, -, -⟩ := hL
  have g23 : ∀ t, t < nt → mD0 ρ b v np nt 323 t = 0 := fun t ht => (mPeN_fr _ _ _ _ _ (by decide)).trans (mTrN_nx _ _ _ _ ht)
  have g24 : ∀ t, t < nt → mD0 ρ b v np nt 324 t = ρ 302 (6 * b + t) := fun t ht => (mPeN_fr _ _ _ _ _ (by decide)).trans ((mTrN_t _ _ _ _ ht).1.trans (up2_far _ _ _ _ (by decide)))
  have g30 : ∀ t, t < nt → mD0 ρ b v np nt 330 (8 * t) = 0 := fun t ht => (mPeN_fr _ _ _ _ _ (by decide)).trans (mTrN_t _ _ _ _ ht).2
  have gp : ∀ p, p < np → mD0 ρ b v np nt 333 p = -1 ∧ mD0 ρ b v np nt 334 p = ρ 320 (10 * v + p) ∧ mD0 ρ b v np nt 335 p = -1 ∧ mD0 ρ b v np nt 336 p = 0 ∧ mD0 ρ b v np nt 337 p = 0 := by
    intro p hp
    obtain ⟨h1, h2, h3, h4, h5⟩ := mPeN_p (mTrN (up2 ρ 295 46 (v : Int)) b nt) v np p hp
    refine ⟨h1, ?_, h3, h4, h5⟩
    exact h2.trans ((mTrN_fr _ _ _ _ _ (by decide)).trans (up2_far _ _ _ _ (by decide)))
  have g95 : mD0 ρ b v np nt 295 44 = ρ 295 44 := (mPeN_fr _ _ _ _ _ (by decide)).trans ((mTrN_fr _ _ _ _ _ (by decide)).trans (up2_nq _ (by omega)))
  refine ⟨?_, ?_, ?_, ?_, ⟨?_, ?_⟩, ⟨?_, ?_⟩, ?_, ?_, ?_, ?_⟩
  · intro t ht
    obtain ⟨-, -, h3, h4, h5, h6, h7, -⟩ := hTr t ht
    refine ⟨0, by omega, ?_, by rw [g23 t ht]; rfl, ?_, ?_, ?_⟩
    · show cTr _ _ _ 250 t = _
      simp [cTr, ht]
    · show cTr _ _ _ 252 t = _
      have : cTr (up2 (up2 (cPl (up2 (up2 σ 198 7 0) 198 15 0) q (zAb ρ) np) 198 16 0) 198 17 0) l nt 252 t = (up2 (up2 (cPl (up2 (up2 σ 198 7 0) 198 15 0) q (zAb ρ) np) 198 16 0) 198 17 0) (l + 5) t := by simp [cTr, ht]
      rw [this, up2_nq _ (by omega), up2_nq _ (by omega), cPl_fr _ _ _ _ _ _ (by omega), up2_nq _ (by omega), up2_nq _ (by omega), h5, g24 t ht]
    · rw [g24 t ht]; exact h6
    · rw [g24 t ht]; omega
  · intro t ht
    have : cD0 σ l q np nt (zAb ρ) 253 t = 0 := by show cTr _ _ _ 253 t = 0; simp [cTr, ht]
    rw [this]
    exact bs_no (fun p hp => decide_eq_false (by rw [(gp p hp).1]; omega))
  · intro s hs
    show cTr _ _ _ 254 s = _
    rw [cTr_fr _ _ _ _ _ (by decide), up2_nq _ (by omega), up2_nq _ (by omega), cPl_h _ _ _ _ _ hs]
    refine congrArg (fun x : Nat => (x : Int)) (bs_c ?_)
    intro p hp
    obtain ⟨-, -, ⟨s1, -, e1, e2⟩, -⟩ := hT.2 p hp
    rw [(gp p hp).1, (gp p hp).2.1, g95, up2_nq _ (by omega), up2_nq _ (by omega), e1, e2]
    by_cases e : (p : Int) = ρ 295 44 <;> simp [e]
  · intro p hp
    obtain ⟨-, -, ⟨s1, f1, e1, e2⟩, -⟩ := hT.2 p hp
    obtain ⟨h1, h2, h3, h4, h5⟩ := gp p hp
    rw [h1, h2, h3, h4, h5]
    refine ⟨Or.inl rfl, ⟨s1, f1, e2⟩, ?_, ?_, ?_, by omega, by omega, Or.inl rfl⟩
    · show cTr _ _ _ 247 p = _
      rw [cTr_fr _ _ _ _ _ (by decide), up2_nq _ (by omega), up2_nq _ (by omega)]
      have : cPl (up2 (up2 σ 198 7 0) 198 15 0) q (zAb ρ) np 247 p = (up2 (up2 σ 198 7 0) 198 15 0) (q + 4) p := by simp [cPl, hp]
      rw [this, up2_nq _ (by omega), up2_nq _ (by omega), e1, e2]
    · show cTr _ _ _ 248 p = _
      rw [cTr_fr _ _ _ _ _ (by decide), up2_nq _ (by omega), up2_nq _ (by omega)]
      simp [cPl, hp]
    · show cTr _ _ _ 249 p = _
      rw [cTr_fr _ _ _ _ _ (by decide), up2_nq _ (by omega), up2_nq _ (by omega)]
      simp [cPl, hp]
  · show cTr _ _ _ 198 7 = _
    rw [cTr_fr _ _ _ _ _ (by decide), up2_nq _ (by omega), up2_nq _ (by omega), cPl_fr _ _ _ _ _ _ (by omega), up2_nq _ (by omega), up2_hit]
    exact bs_no (fun p hp => decide_eq_false (by rw [(gp p hp).2.2.2.2]; omega))
  · show cTr _ _ _ 198 15 = _
    rw [cTr_fr _ _ _ _ _ (by decide), up2_nq _ (by omega), up2_nq _ (by omega), cPl_fr _ _ _ _ _ _ (by omega), up2_hit]
    exact bs_no (fun p hp => decide_eq_false (by rw [(gp p hp).2.2.2.1]; omega))
  · show cTr _ _ _ 198 16 = _
    rw [cTr_fr _ _ _ _ _ (by decide), up2_nq _ (by omega), up2_hit]
    exact bs_no (fun s hs => anyN_f (fun t ht => anyN_f (fun k hk => decide_eq_false (by rw [g23 t ht]; omega))))
  · show cTr _ _ _ 198 17 = _
    rw [cTr_fr _ _ _ _ _ (by decide), up2_hit]
    exact bs_no (fun s hs => anyN_f (fun t ht => anyN_f (fun k hk => decide_eq_false (by rw [g23 t ht]; omega))))
  · intro t k ht hk
    rw [g23 t ht] at hk
    omega
  · intro t ht
    constructor
    · have : cD0 σ l q np nt (zAb ρ) 245 t = 0 := by show cTr _ _ _ 245 t = 0; simp [cTr, ht]
      rw [this]
      exact bs_no (fun k hk => decide_eq_false (by rw [g23 t ht]; omega))
    · have : cD0 σ l q np nt (zAb ρ) 246 t = 0 := by show cTr _ _ _ 246 t = 0; simp [cTr, ht]
      rw [this]
      refine bs_no (fun k hk => decide_eq_false ?_)
      rw [g23 t ht]
      rintro ⟨h1, -, h3⟩
      have : k = 0 := by omega
      subst this
      rw [Nat.add_zero, g30 t ht] at h3
      cases h3
  · intro t k ht h1 h2
    rw [g23 t ht] at h2
    have : k = 0 := by omega
    subst this
    rw [Nat.add_zero, g30 t ht]
    exact Or.inl rfl
  · intro t k ht h
    rw [g23 t ht] at h
    omega
/-- what a whole day leaves -/
def DG (σ τ : AH) : Prop := (∀ K j, (K < 198 ∨ (198 < K ∧ K < 218) ∨ 254 < K) → τ K j = σ K j) ∧ τ 198 11 = σ 198 11 ∧ τ 198 12 = σ 198 12
theorem DG.trans {σ τ υ : AH} (h : DG σ τ) (h2 : DG τ υ) : DG σ υ := ⟨fun K j hK => (h2.1 K j hK).trans (h.1 K j hK), h2.2.1.trans h.2.1, h2.2.2.trans h.2.2⟩
theorem cD0_g (σ : AH) (l q np nt : Nat) (ab : Nat → Bool) : (∀ K j, (K < 198 ∨ (198 < K ∧ K < 218) ∨ 254 < K) → cD0 σ l q np nt ab K j = σ K j) ∧ (∀ j, j ≠ 7 ∧ j ≠ 15 ∧ j ≠ 16 ∧ j ≠ 17 → cD0 σ l q np nt ab 198 j = σ 198 j) := by
  constructor
  · intro K j hK
    show cTr _ _ _ K j = _
    rw [cTr_fr _ _ _ _ _ (by omega), up2_nq _ (by omega), up2_nq _ (by omega), cPl_fr _ _ _ _ _ _ (by omega), up2_nq _ (by omega), up2_nq _ (by omega)]
  · intro j hj
    show cTr _ _ _ 198 j = _
    rw [cTr_fr _ _ _ _ _ (by omega), up2_nq _ (by omega), up2_nq _ (by omega), cPl_fr _ _ _ _ _ _ (by omega), up2_nq _ (by omega), up2_nq _ (by omega)]
theorem LT_mv {σ τ ρ ρ' : AH} {l b np nt ns : Nat} {L : Nat → Nat} {C : Nat → Nat → Nat} (hl : l = 8 ∨ l = 170) (h : LT σ ρ l b np nt ns L C) (h1 : ∀ K j, (l ≤ K ∧ K ≤ l + 22) → τ K j = σ K j) (h2 : ∀ K j, (296 < K ∧ K < 315) → ρ' K j = ρ K j) (h3 : ρ' 295 13 = ρ 295 13) : LT τ ρ' l b np nt ns L C := by
  obtain ⟨⟨a1, a2, a3, a4⟩, ⟨b1, b2, b3, b4, b5⟩, c, hTr, hCa, hAf, hPr, hDi⟩ := h
  refine ⟨⟨?_, ?_, ?_, ?_⟩, ⟨?_, b2, ?_, ?_, ?_⟩, ?_, ?_, ?_, ?_, ?_, hDi⟩
  · rw [h1 _ _ (by omega)]; exact a1
  · rw [h1 _ _ (by omega)]; exact a2
  · rw [h1 _ _ (by omega), h2 _ _ (by omega)]; exact a3
  · rw [h1 _ _ (by omega)]; exact a4
  · rw [h3]; exact b1
  · rw [h2 _ _ (by omega)]; exact b3
  · rw [h2 _ _ (by omega)]; exact b4
  · rw [h2 _ _ (by omega)]; exact b5
  · rw [h2 _ _ (by omega)]; exact c
  · intro t ht
    rw [h1 (l + 7) _ (by omega), h1 (l + 5) _ (by omega), h1 (l + 6) _ (by omega), h2 302 _ (by omega), h2 303 _ (by omega), h2 304 _ (by omega)]
    exact hTr t ht
  · intro t k ht hk
    rw [h1 _ _ (by omega), h2 305 _ (by omega)]
    exact hCa t k ht hk
  · intro t k ht hk
    rw [h1 _ _ (by omega), h2 306 _ (by omega)]
    exact hAf t k ht hk
  · intro p hp
    rw [h1 _ _ (by omega), h2 314 _ (by omega)]
    exact hPr p hp
theorem PTb_mv {σ τ ρ ρ' : AH} {q v np ns : Nat} (h : PTb σ ρ q v np ns) (h1 : ∀ K j, (q ≤ K ∧ K ≤ q + 5) → τ K j = σ K j) (h2 : ∀ K j, (318 ≤ K ∧ K ≤ 321) → ρ' K j = ρ K j) : PTb τ ρ' q v np ns := by
  refine ⟨by rw [h1 _ _ (by omega)]; exact h.1, fun p hp => ?_⟩
  rw [h1 _ _ (by omega), h1 _ _ (by omega), h1 _ _ (by omega), h1 _ _ (by omega), h2 _ _ (by omega), h2 _ _ (by omega), h2 _ _ (by omega), h2 _ _ (by omega)]
  exact h.2 p hp
theorem v_pP (X : AX) {q : Nat} (hq : q = 36 ∨ q = 42) (np : Nat) (ab : Nat → Bool) (σ : AH) (hpe : σ 198 12 = (q : Int)) (hc : σ q 0 = (np : Int)) (hnp2 : np ≤ 10) (hat : ∀ p, p < np → ∃ s : Nat, σ (q + 4) p = (s : Int) ∧ s < 14) : TT X k_X1_placePeople (0, [(2, 198), (0, ((bs ab np : Nat) : Int)), (9, 0)], [], σ) (fun r σ' => r = none ∧ σ' = cPl (up2 (up2 σ 198 7 0) 198 15 0) q ab np) := by
  rcases hq with rfl | rfl
  · exact v_placePeople_36 X np ab σ hpe hc hnp2 hat
  · exact v_placePeople_42 X np ab σ hpe hc hnp2 hat
theorem v_pT (X : AX) {l : Nat} (hl : l = 8 ∨ l = 170) (nt : Nat) (σ : AH) (hli : σ 198 11 = (l : Int)) (hnt : σ l 2 = (nt : Int)) (hnt2 : nt ≤ 6) : TT X k_X1_placeTrains (0, [(2, 198), (9, 0)], [], σ) (fun r σ' => r = none ∧ σ' = cTr (up2 (up2 σ 198 16 0) 198 17 0) l nt) := by
  rcases hl with rfl | rfl
  · exact v_placeTrains_8 X nt σ hli hnt hnt2
  · exact v_placeTrains_170 X nt σ hli hnt hnt2
/-- a whole day of the class, for every reference beside which it stands -/
def DD (σ τ ρ : AH) (b v np nt ns : Nat) (L : Nat → Nat) (C : Nat → Nat → Nat) : Prop := (∃ n, n ≤ 49 ∧ RE n τ (mDay ρ b v np nt L) b v np nt ns L C) ∧ (ρ 295 57 = -1 → ∀ t, t < nt → mDay ρ b v np nt L 323 t = (L t : Int)) ∧ τ 198 13 = ((bs (zH ρ v) np : Nat) : Int)
theorem v_go (X : AX) {l q : Nat} (hl : l = 8 ∨ l = 170) (hq2 : q = 36 ∨ q = 42) {σ ρ : AH} {b v np nt ns : Nat} {L : Nat → Nat} {C : Nat → Nat → Nat} (hP : PR σ l q np nt L) (hL : LT σ ρ l b np nt ns L C) (hT : PTb σ ρ q v np ns) {U : Int} (hU : UN ρ U)  : TT X 116 (0, [(2, 198), (0, ((bs (zH ρ v) np : Nat) : Int)), (0, ((bs (zAb ρ) np : Nat) : Int)), (0, ((bs (zK ρ) np : Nat) : Int)), (0, U), (9, 0), (9, 0)], [], σ) (fun r σ' => r = none ∧ DG σ σ' ∧ DD σ σ' ρ b v np nt ns L C) := by
  have hF : ∀ K j, K < 198 → (up2 (up2 σ 198 13 ((bs (zH ρ v) np : Nat) : Int)) 198 14 ((bs (zK ρ) np : Nat) : Int)) K j = σ K j := fun K j hK => by rw [up2_nq _ (by omega), up2_nq _ (by omega)]
  obtain ⟨⟨a1, a2, a3, a4⟩, ⟨b1, b2, b3, b4, b5⟩, ⟨c1, c2, c3, c4, c5⟩, hTr, hCa, -⟩ := id hL
  have hg := cD0_g (up2 (up2 σ 198 13 ((bs (zH ρ v) np : Nat) : Int)) 198 14 ((bs (zK ρ) np : Nat) : Int)) l q np nt (zAb ρ)
  have hF4 : ∀ K j, (K < 198 ∨ (198 < K ∧ K < 218) ∨ 254 < K) → (cTr (up2 (up2 (cPl (up2 (up2 (up2 (up2 σ 198 13 ((bs (zH ρ v) np : Nat) : Int)) 198 14 ((bs (zK ρ) np : Nat) : Int)) 198 7 0) 198 15 0) q (zAb ρ) np) 198 16 0) 198 17 0) l nt) K j = σ K j := fun K j hK => (hg.1 K j hK).trans (by rw [up2_nq _ (by omega), up2_nq _ (by omega)])
  have h11 : (cTr (up2 (up2 (cPl (up2 (up2 (up2 (up2 σ 198 13 ((bs (zH ρ v) np : Nat) : Int)) 198 14 ((bs (zK ρ) np : Nat) : Int)) 198 7 0) 198 15 0) q (zAb ρ) np) 198 16 0) 198 17 0) l nt) 198 11 = σ 198 11 := (hg.2 11 (by decide)).trans (by rw [up2_nq _ (by omega), up2_nq _ (by omega)])
  have h12 : (cTr (up2 (up2 (cPl (up2 (up2 (up2 (up2 σ 198 13 ((bs (zH ρ v) np : Nat) : Int)) 198 14 ((bs (zK ρ) np : Nat) : Int)) 198 7 0) 198 15 0) q (zAb ρ) np) 198 16 0) 198 17 0) l nt) 198 12 = σ 198 12 := (hg.2 12 (by decide)).trans (by rw [up2_nq _ (by omega), up2_nq _ (by omega)])
  have m0 : ∀ K j, (K < 323 ∧ K ≠ 295) → mD0 ρ b v np nt K j = ρ K j := fun K j hK => (mPeN_fr _ _ _ _ _ (by omega)).trans ((mTrN_fr _ _ _ _ _ (by omega)).trans (up2_nq _ (by omega)))
  have m5 : ∀ j, j ≠ 46 → mD0 ρ b v np nt 295 j = ρ 295 j := fun j hj => (mPeN_fr _ _ _ _ _ (by decide)).trans ((mTrN_fr _ _ _ _ _ (by decide)).trans (up2_nq _ (by omega)))
  have hP4 : PR (cTr (up2 (up2 (cPl (up2 (up2 (up2 (up2 σ 198 13 ((bs (zH ρ v) np : Nat) : Int)) 198 14 ((bs (zK ρ) np : Nat) : Int)) 198 7 0) 198 15 0) q (zAb ρ) np) 198 16 0) 198 17 0) l nt) l q np nt L := PR_mv hl hq2 c2 hP (fun K j hK => hF4 K j (by omega)) ⟨h11, h12⟩
  have hL4 : LT (cTr (up2 (up2 (cPl (up2 (up2 (up2 (up2 σ 198 13 ((bs (zH ρ v) np : Nat) : Int)) 198 14 ((bs (zK ρ) np : Nat) : Int)) 198 7 0) 198 15 0) q (zAb ρ) np) 198 16 0) 198 17 0) l nt) (mD0 ρ b v np nt) l b np nt ns L C := LT_mv hl hL (fun K j hK => hF4 K j (by omega)) (fun K j hK => m0 K j (by omega)) (m5 13 (by decide))
  have hT4 : PTb (cTr (up2 (up2 (cPl (up2 (up2 (up2 (up2 σ 198 13 ((bs (zH ρ v) np : Nat) : Int)) 198 14 ((bs (zK ρ) np : Nat) : Int)) 198 7 0) 198 15 0) q (zAb ρ) np) 198 16 0) 198 17 0) l nt) (mD0 ρ b v np nt) q v np ns := PTb_mv hT (fun K j hK => hF4 K j (by omega)) (fun K j hK => m0 K j (by omega))
  have hD4 : DR (cTr (up2 (up2 (cPl (up2 (up2 (up2 (up2 σ 198 13 ((bs (zH ρ v) np : Nat) : Int)) 198 14 ((bs (zK ρ) np : Nat) : Int)) 198 7 0) 198 15 0) q (zAb ρ) np) 198 16 0) 198 17 0) l nt) (mD0 ρ b v np nt) l q b v np nt ns L C := by
    refine DR_of hP4 hL4 hT4 ?_ ?_
    · refine (hg.2 13 (by decide)).trans ((up2_nq _ (by omega)).trans ((up2_hit _ _ _ _).trans ?_))
      refine congrArg (fun x : Nat => (x : Int)) (bs_c (fun p hp => ?_))
      rw [m0 _ _ (by omega)]
    · refine (hg.2 14 (by decide)).trans ((up2_hit _ _ _ _).trans ?_)
      refine congrArg (fun x : Nat => (x : Int)) (bs_c (fun p hp => ?_))
      rw [m5 _ (by decide)]
  have hE4 : RE 0 (cTr (up2 (up2 (cPl (up2 (up2 (up2 (up2 σ 198 13 ((bs (zH ρ v) np : Nat) : Int)) 198 14 ((bs (zK ρ) np : Nat) : Int)) 198 7 0) 198 15 0) q (zAb ρ) np) 198 16 0) 198 17 0) l nt) (mD0 ρ b v np nt) b v np nt ns L C := RE_0 hl hq2 (LT_mv hl hL (fun K j hK => hF K j (by omega)) (fun K j _ => rfl) rfl) (PTb_mv hT (fun K j hK => hF K j (by omega)) (fun K j _ => rfl))
  have hL3 : ∀ t, t < nt → mD0 ρ b v np nt 304 (6 * b + t) = (L t : Int) ∧ L t ≤ 8 := fun t ht => ⟨(m0 _ _ (by omega)).trans (hTr t ht).2.1, (hTr t ht).2.2.2.1⟩
  have hU4 : UN (mD0 ρ b v np nt) U := by unfold UN; rw [m5 57 (by decide)]; exact hU
  have hM4 : mLeft (mD0 ρ b v np nt) L nt + 0 ≤ 48 := by
    have := mLeft_le (mD0 ρ b v np nt) L nt (fun t ht => (hTr t ht).2.2.2.1)
    omega
  refine TT.steps (cd := cd116) 8 (c' := (8, [(2, 198), (0, ((bs (zH ρ v) np : Nat) : Int)), (0, ((bs (zAb ρ) np : Nat) : Int)), (0, ((bs (zK ρ) np : Nat) : Int)), (0, U), (9, 0), (9, 0)], [(0, ((bs (zAb ρ) np : Nat) : Int)), (2, 198)], (up2 (up2 σ 198 13 ((bs (zH ρ v) np : Nat) : Int)) 198 14 ((bs (zK ρ) np : Nat) : Int)))) rfl rfl ?_
  refine TT.call (cd := cd116) rfl rfl rfl (by decide) rfl (v_pP X hq2 np (zAb ρ) (up2 (up2 σ 198 13 ((bs (zH ρ v) np : Nat) : Int)) 198 14 ((bs (zK ρ) np : Nat) : Int)) ((up2_nq _ (by omega)).trans ((up2_nq _ (by omega)).trans hP.1.2)) ((hF _ _ (by omega)).trans hT.1) c1 (fun p hp => by obtain ⟨-, -, ⟨s, e1, e2, -⟩, -⟩ := hT.2 p hp; exact ⟨s, (hF _ _ (by omega)).trans e2, by omega⟩)) (fun r1 σ1 hq => ?_)
  rw [hq.1, hq.2]
  refine TT.steps (cd := cd116) 1 (c' := (10, [(2, 198), (0, ((bs (zH ρ v) np : Nat) : Int)), (0, ((bs (zAb ρ) np : Nat) : Int)), (0, ((bs (zK ρ) np : Nat) : Int)), (0, U), (9, 0), (9, 0)], [(2, 198)], (cPl (up2 (up2 (up2 (up2 σ 198 13 ((bs (zH ρ v) np : Nat) : Int)) 198 14 ((bs (zK ρ) np : Nat) : Int)) 198 7 0) 198 15 0) q (zAb ρ) np))) rfl rfl ?_
  refine TT.call (cd := cd116) rfl rfl rfl (by decide) rfl (v_pT X hl nt (cPl (up2 (up2 (up2 (up2 σ 198 13 ((bs (zH ρ v) np : Nat) : Int)) 198 14 ((bs (zK ρ) np : Nat) : Int)) 198 7 0) 198 15 0) q (zAb ρ) np) ((cPl_fr _ _ _ _ _ _ (by omega)).trans ((up2_nq _ (by omega)).trans ((up2_nq _ (by omega)).trans ((up2_nq _ (by omega)).trans ((up2_nq _ (by omega)).trans hP.1.1))))) ((cPl_fr _ _ _ _ _ _ (by omega)).trans ((up2_nq _ (by omega)).trans ((up2_nq _ (by omega)).trans ((hF _ _ (by omega)).trans a2)))) c2) (fun r2 σ2 hq => ?_)
  rw [hq.1, hq.2]
  refine TT.steps (cd := cd116) 2 (c' := (13, [(2, 198), (0, ((bs (zH ρ v) np : Nat) : Int)), (0, ((bs (zAb ρ) np : Nat) : Int)), (0, ((bs (zK ρ) np : Nat) : Int)), (0, U), (9, 0), (9, 0)], [(0, U), (2, 198)], (cTr (up2 (up2 (cPl (up2 (up2 (up2 (up2 σ 198 13 ((bs (zH ρ v) np : Nat) : Int)) 198 14 ((bs (zK ρ) np : Nat) : Int)) 198 7 0) 198 15 0) q (zAb ρ) np) 198 16 0) 198 17 0) l nt))) rfl rfl ?_
  refine TT.call (cd := cd116) rfl rfl rfl (by decide) rfl (v_fD X hl nt L U (cTr (up2 (up2 (cPl (up2 (up2 (up2 (up2 σ 198 13 ((bs (zH ρ v) np : Nat) : Int)) 198 14 ((bs (zK ρ) np : Nat) : Int)) 198 7 0) 198 15 0) q (zAb ρ) np) 198 16 0) 198 17 0) l nt) hD4.1.1 hD4.1.2.2.2.1 c2 (fun t ht => (hD4.2.2.1 t ht).1)) (fun r3 σ3 hq => ?_)
  obtain ⟨⟨x2, mi2, hr2, hf2⟩, hs2⟩ := hq
  rw [hr2, hs2]
  refine TT.steps (cd := cd116) 3 (c' := (17, [(2, 198), (0, ((bs (zH ρ v) np : Nat) : Int)), (0, ((bs (zAb ρ) np : Nat) : Int)), (0, ((bs (zK ρ) np : Nat) : Int)), (0, U), (0, x2), (0, 0)], [], (cTr (up2 (up2 (cPl (up2 (up2 (up2 (up2 σ 198 13 ((bs (zH ρ v) np : Nat) : Int)) 198 14 ((bs (zK ρ) np : Nat) : Int)) 198 7 0) 198 15 0) q (zAb ρ) np) 198 16 0) 198 17 0) l nt))) rfl rfl ?_
  refine (vl_go X hl hq2 _ _ _ U 48 0 (by omega) (cTr (up2 (up2 (cPl (up2 (up2 (up2 (up2 σ 198 13 ((bs (zH ρ v) np : Nat) : Int)) 198 14 ((bs (zK ρ) np : Nat) : Int)) 198 7 0) 198 15 0) q (zAb ρ) np) 198 16 0) 198 17 0) l nt) (mD0 ρ b v np nt) hD4 hE4 hL3 hU4 hM4 x2 mi2 hf2).mono (fun r τ h => ⟨h.1, ⟨fun K j hK => (h.2.1.1 K j hK).trans (hF4 K j hK), (h.2.1.2 11 (by decide)).trans h11, (h.2.1.2 12 (by decide)).trans h12⟩, h.2.2.1, ?_, (h.2.1.2 13 (by decide)).trans ((hg.2 13 (by decide)).trans ((up2_nq _ (by omega)).trans (up2_hit _ _ _ _)))⟩)
  have := h.2.2.2
  rw [m5 57 (by decide)] at this
  exact this
theorem v_prep (X : AX) {l q : Nat} (hl : l = 8 ∨ l = 170) (hq2 : q = 36 ∨ q = 42) {σ ρ : AH} {b v np nt ns : Nat} {L : Nat → Nat} {C : Nat → Nat → Nat} (hL : LT σ ρ l b np nt ns L C) (hT : PTb σ ρ q v np ns) : TT X k_X1_prepare (0, [(2, 198), (2, (l : Int)), (2, (q : Int))], [], σ) (fun r τ => r = none ∧ PR τ l q np nt L ∧ (∀ K j, (K < 198 ∨ 217 < K) → τ K j = σ K j)) := by
  obtain ⟨⟨a1, a2, a3, a4⟩, ⟨b1, b2, b3, b4, b5⟩, ⟨c1, c2, c3, c4, c5⟩, hTr, hCa, -⟩ := hL
  have key : ∀ r τ, (r = none ∧ LN3 (up2 (up2 σ 198 11 (l : Int)) 198 12 (q : Int)) τ l q np L nt) → ((r : Option AV) = none ∧ PR τ l q np nt L ∧ (∀ K j, (K < 198 ∨ 217 < K) → τ K j = σ K j)) := by
    intro r τ h
    refine ⟨h.1, PR_of hl hq2 c2 h.2, fun K j hK => ?_⟩
    rw [h.2.1 K j (by omega), up2_nq _ (by omega), up2_nq _ (by omega)]
  have hto : ∀ p, p < np → ∃ s : Nat, s < 14 ∧ σ (q + 5) p = (s : Int) := by
    intro p hp
    obtain ⟨-, -, -, ⟨s, e1, e2, -⟩⟩ := hT.2 p hp
    exact ⟨s, by omega, e2⟩
  have hLL : ∀ t, t < nt → σ (l + 7) t = (L t : Int) ∧ L t ≤ 8 := fun t ht => ⟨(hTr t ht).1, (hTr t ht).2.2.2.1⟩
  have hCC : ∀ t k, t < nt → k < L t → ∃ s : Nat, s < 14 ∧ σ (l + 9 + t) k = (s : Int) := fun t k ht hk => ⟨C t k, by have := (hCa t k ht hk).2.2; omega, (hCa t k ht hk).1⟩
  rcases hl with rfl | rfl <;> rcases hq2 with rfl | rfl
  · exact (v_prepare_8_36 X np σ hT.1 c1 nt L a2 c2 hLL hCC hto).mono key
  · exact (v_prepare_8_42 X np σ hT.1 c1 nt L a2 c2 hLL hCC hto).mono key
  · exact (v_prepare_170_36 X np σ hT.1 c1 nt L a2 c2 hLL hCC hto).mono key
  · exact (v_prepare_170_42 X np σ hT.1 c1 nt L a2 c2 hLL hCC hto).mono key
