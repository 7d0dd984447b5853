/-! seen: its sums beside the reference's. -/
theorem aOr_idem (a x : Int) : aOr (aOr a x) x = aOr a x := by
  unfold aOr
  rw [Int32.ofInt_toInt, Int32.or_assoc, Int32.or_self]
theorem sbP_any (σ : AH) (v b t k : Nat) (z a : Int) : ∀ n, sbP σ v b t k z a n = if anyN (fun p => decide (aAnd (aShr z ((p : Nat) : Int)) 1 = 1 ∧ mBA σ v p (σ 305 (8 * (6 * b + t) + k)))) n = true then aOr a (aShl 1 ((k : Nat) : Int)) else a
  | 0 => by rw [sbP, if_neg (by simp [anyN])]
  | n + 1 => by
    rw [sbP, sbP_any σ v b t k z a n]
    by_cases h1 : anyN (fun p => decide (aAnd (aShr z ((p : Nat) : Int)) 1 = 1 ∧ mBA σ v p (σ 305 (8 * (6 * b + t) + k)))) n = true
    · have h2 : anyN (fun p => decide (aAnd (aShr z ((p : Nat) : Int)) 1 = 1 ∧ mBA σ v p (σ 305 (8 * (6 * b + t) + k)))) (n + 1) = true := by
        obtain ⟨q, hq, hf⟩ := (anyN_iff _ _).mp h1
        exact anyN_t (by omega) hf
      rw [if_pos h1, if_pos h2]
      split
      · exact aOr_idem _ _
      · rfl
    · rw [if_neg h1]
      by_cases h3 : aAnd (aShr z ((n : Nat) : Int)) 1 = 1 ∧ mBA σ v n (σ 305 (8 * (6 * b + t) + k))
      · rw [if_pos h3, if_pos (anyN_t (Nat.lt_succ_self n) (decide_eq_true h3))]
      · rw [if_neg h3, if_neg]
        intro h4
        obtain ⟨q, hq, hf⟩ := (anyN_iff _ _).mp h4
        by_cases hqn : q = n
        · subst hqn; exact h3 (of_decide_eq_true hf)
        · exact h1 (anyN_t (by omega) hf)
theorem sb_any {ρ : AH} {b t np k : Nat} {f : Nat → Bool} {c : Nat} (hnp : np ≤ 10) (hC : ρ 305 (8 * (6 * b + t) + k) = (c : Int)) : anyN (fun p => decide (aAnd (aShr ((bs f np : Nat) : Int) ((p : Nat) : Int)) 1 = 1 ∧ mBA ρ 0 p (ρ 305 (8 * (6 * b + t) + k)))) np = true ↔ ¬ ((bs (fun p => f p && decide (mBA ρ 0 p (c : Int))) np : Nat) : Int) = 0 := by
  rw [bs_ne, anyN_iff, anyN_iff]
  constructor
  · rintro ⟨q, hq, h⟩
    have h2 := of_decide_eq_true h
    rw [bs_bitI f (by omega) hq, hC] at h2
    refine ⟨q, hq, ?_⟩
    show (f q && decide (mBA ρ 0 q (c : Int))) = true
    rw [ite1_t h2.1, decide_eq_true h2.2]; rfl
  · rintro ⟨q, hq, h⟩
    have h2 : (f q && decide (mBA ρ 0 q (c : Int))) = true := h
    rw [Bool.and_eq_true] at h2
    refine ⟨q, hq, decide_eq_true ?_⟩
    rw [bs_bitI f (by omega) hq, hC]
    exact ⟨if_pos h2.1, of_decide_eq_true h2.2⟩
theorem sb_t {ρ : AH} {b t np lt n : Nat} {f : Nat → Bool} {c : Nat} (hnp : np ≤ 10) (hC : ρ 305 (8 * (6 * b + t) + (n + 1)) = (c : Int)) (h : ¬ ((bs (fun p => f p && decide (mBA ρ 0 p (c : Int))) np : Nat) : Int) = 0) : aOr (sbK ρ 0 b t np lt ((bs f np : Nat) : Int) n) (aShl 1 ((n + 1 : Nat) : Int)) = sbK ρ 0 b t np lt ((bs f np : Nat) : Int) (n + 1) := by
  rw [sbK, sbP_any, if_pos ((sb_any hnp hC).mpr h)]
theorem sb_f {ρ : AH} {b t np lt n : Nat} {f : Nat → Bool} {c : Nat} (hnp : np ≤ 10) (hC : ρ 305 (8 * (6 * b + t) + (n + 1)) = (c : Int)) (h : ((bs (fun p => f p && decide (mBA ρ 0 p (c : Int))) np : Nat) : Int) = 0) : sbK ρ 0 b t np lt ((bs f np : Nat) : Int) n = sbK ρ 0 b t np lt ((bs f np : Nat) : Int) (n + 1) := by
  rw [sbK, sbP_any, if_neg (fun h2 => (sb_any hnp hC).mp h2 h)]
theorem cs_iff : ∀ lt : Nat, lt < 9 → 2 ≤ lt → ∀ z : Nat, z < 256 → (aAnd (z : Int) (aOr 1 (aShl 1 ((lt - 1 : Nat) : Int))) = aOr 1 (aShl 1 ((lt - 1 : Nat) : Int)) ↔ ¬ aAnd (z : Int) 1 = 0 ∧ ¬ aAnd (aShr (z : Int) ((lt - 1 : Nat) : Int)) 1 = 0) := by decide +kernel
def csC (z : Int) (lt : Nat) : Prop := z < 0 ∨ aShl 1 ((lt : Nat) : Int) ≤ z ∨ aAnd z 1 = 0 ∨ aAnd (aShr z ((lt - 1 : Nat) : Int)) 1 = 0
theorem cs_yes {z : Int} {lt : Nat} (h2 : 2 ≤ lt) (h8 : lt ≤ 8) (a1 : ¬ z < 0) (a2 : ¬ aShl 1 ((lt : Nat) : Int) ≤ z) : (aAnd z (aOr 1 (aShl 1 ((lt - 1 : Nat) : Int))) = aOr 1 (aShl 1 ((lt - 1 : Nat) : Int))) ↔ ¬ csC z lt := by
  obtain ⟨n, rfl⟩ : ∃ n : Nat, z = (n : Int) := ⟨z.toNat, by omega⟩
  have e := shl1' lt (by omega)
  have p : 2 ^ lt ≤ 2 ^ 8 := Nat.pow_le_pow_right (by decide) h8
  have hn : n < 256 := by rw [e] at a2; omega
  rw [cs_iff lt (by omega) h2 n hn]
  unfold csC
  constructor
  · rintro ⟨b1, b2⟩ (c | c | c | c)
    · exact a1 c
    · exact a2 c
    · exact b1 c
    · exact b2 c
  · intro c
    exact ⟨fun d => c (Or.inr (Or.inr (Or.inl d))), fun d => c (Or.inr (Or.inr (Or.inr d)))⟩
theorem mSn_0 (ρ : AH) (b t np lt : Nat) (z : Int) : ∀ n : Nat, n ≤ 1024 → ∃ c : Nat, c ≤ n ∧ (mSn ρ b t np lt z n).1 = (c : Int) ∧ (c = 0 → (mSn ρ b t np lt z n).2.2 = 0)
  | 0, _ => ⟨0, Nat.le_refl 0, rfl, fun _ => rfl⟩
  | n + 1, hn => by
    obtain ⟨c, h1, h2, h3⟩ := mSn_0 ρ b t np lt z n (by omega)
    rw [mSn]
    split
    · refine ⟨c + 1, by omega, ?_, by omega⟩
      show aAdd _ 1 = _
      rw [h2]
      exact aAdd_n (a := c) (b := 1) (by omega)
    · exact ⟨c, by omega, h2, h3⟩
theorem mSn_c {ρ ρ' : AH} {b t np lt : Nat} {z : Int} (h : ∀ K j, 296 ≤ K → ρ' K j = ρ K j) (n : Nat) : mSn ρ' b t np lt z n = mSn ρ b t np lt z n := by
  have hP : ∀ k w a m, sbP ρ' 0 b t k w a m = sbP ρ 0 b t k w a m := by
    intro k w a m
    induction m with
    | zero => rfl
    | succ m ih => rw [sbP, sbP, ih]; unfold mBA; rw [h 318 _ (by omega), h 319 _ (by omega), h 305 _ (by omega)]
  have hK : ∀ w j, sbK ρ' 0 b t np lt w j = sbK ρ 0 b t np lt w j := by
    intro w j
    induction j with
    | zero => rfl
    | succ j ih => rw [sbK, sbK, ih, hP]
  induction n with
  | zero => rfl
  | succ n ih => rw [mSn, mSn, ih]; unfold mSb; rw [hK]
