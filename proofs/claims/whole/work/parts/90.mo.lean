/-! The best set and the smallest that serves each. -/
theorem bits_BC : ∀ x : Nat, x < 1024 → aBC (x : Int) = ((bitsN 10 x 0 : Nat) : Int) := by decide +kernel
theorem bits_le : ∀ x : Nat, x < 1024 → bitsN 10 x 0 ≤ 10 := by decide +kernel
theorem good_BC {σ ρi : AH} {b np nt n : Nat} {L : Nat → Nat} (hn : np ≤ 10) (h : σ 290 n = ((bs (gdS (mDW ρi b np nt L ((n : Nat) : Int)) 1) np : Nat) : Int)) : mGood (mDW ρi b np nt L ((n : Nat) : Int)) 1 np = aBC (σ 290 n) := by
  rw [h, bs_count _ hn, mGood_c _ _ hn]
theorem mGood_pos (ρ : AH) (v : Nat) {np : Nat} (h : np ≤ 10) : 0 ≤ mGood ρ v np := by
  rw [mGood_c _ _ h]; omega
theorem can_0 {σ ρ : AH} {l b np nt ns : Nat} {L : Nat → Nat} {C : Nat → Nat → Nat} (hL : LT σ ρ l b np nt ns L C) : mCanC ρ b np ((0 : Nat) : Int) := by
  refine (can_iff hL (z := ((0 : Nat) : Int)) (by omega)).mp ?_
  rw [sub_iff (by omega) (p31 (show np ≤ 30 by have := hL.2.2.1.1; omega) (bs_lt _ np))]
  exact ⟨0, rfl, fun p hp => by simp at hp⟩
theorem mo_main {σ ρ : AH} {l b np nt ns : Nat} {L : Nat → Nat} {C : Nat → Nat → Nat} (hl : l = 8 ∨ l = 170) (hK : HK σ l b np nt ns L C) (hT : TI σ ρ l b np nt ns L C) : ∀ n, n + 1 ≤ 2 ^ np → RS ρ (mMo ρ b np nt L (n + 1)).2.2.2 ∧ (mMo ρ b np nt L (n + 1)).1 = ((beF (Hc ρ b np) (fun z => aBC (σ 290 z)) (σ 291) n : Nat) : Int) ∧ (mMo ρ b np nt L (n + 1)).2.1 = aBC (σ 290 (beF (Hc ρ b np) (fun z => aBC (σ 290 z)) (σ 291) n)) ∧ (mMo ρ b np nt L (n + 1)).2.2.1 = σ 291 (beF (Hc ρ b np) (fun z => aBC (σ 290 z)) (σ 291) n) := by
  have hn10 := hT.1.2.2.1.1
  intro n
  induction n with
  | zero =>
    intro hn
    have hc := can_0 hT.1
    obtain ⟨k1, k2, k3, k4, -⟩ := hk_at hl hK hT (RS.refl ρ) (by omega) hc
    have hg := mGood_pos (mDW ρ b np nt L ((0 : Nat) : Int)) 1 hn10
    rw [mMo, mMo]
    unfold stMo
    rw [if_pos hc, if_neg (show ¬ mGood (mDW ρ b np nt L ((0 : Nat) : Int)) 1 np < -1 by omega), if_neg (show ¬ mGood (mDW ρ b np nt L ((0 : Nat) : Int)) 1 np = -1 by omega)]
    exact ⟨mDW_RS _ hn10 0, rfl, good_BC hn10 k1, k3⟩
  | succ n ih =>
    intro hn
    obtain ⟨i1, i2, i3, i4⟩ := ih (by omega)
    rw [mMo, beF]
    generalize mMo ρ b np nt L (n + 1) = S at i1 i2 i3 i4
    generalize beF (Hc ρ b np) (fun z => aBC (σ 290 z)) (σ 291) n = B at i2 i3 i4
    unfold stMo
    have hcan := mCan_rs i1 b np ((n + 1 : Nat) : Int)
    by_cases hc : mCanC S.2.2.2 b np ((n + 1 : Nat) : Int)
    · have hH : Hc ρ b np (n + 1) = true := decide_eq_true (hcan.mp hc)
      obtain ⟨k1, k2, k3, k4, -⟩ := hk_at hl hK hT i1 (by omega) hc
      have hg := good_BC hn10 k1
      rw [if_pos hc, hg, k3, i3, i4]
      by_cases h1 : aBC (σ 290 (n + 1)) < aBC (σ 290 B)
      · rw [if_pos h1, if_neg (fun hh => by have := hh.2; omega)]
        exact ⟨i1.trans (mDW_RS _ hn10 (n + 1)), i2, rfl, rfl⟩
      · rw [if_neg h1]
        by_cases h2 : aBC (σ 290 (n + 1)) = aBC (σ 290 B)
        · rw [if_pos h2]
          by_cases h3 : σ 291 (n + 1) < σ 291 B
          · rw [if_pos h3, if_pos ⟨hH, Or.inr ⟨h2.symm, h3⟩⟩]
            exact ⟨i1.trans (mDW_RS _ hn10 (n + 1)), rfl, rfl, rfl⟩
          · rw [if_neg h3, if_neg (fun hh => by have := hh.2; omega)]
            exact ⟨i1.trans (mDW_RS _ hn10 (n + 1)), i2, rfl, rfl⟩
        · rw [if_neg h2, if_pos ⟨hH, Or.inl (by omega)⟩]
          exact ⟨i1.trans (mDW_RS _ hn10 (n + 1)), rfl, rfl, rfl⟩
    · have hH : ¬ Hc ρ b np (n + 1) = true := fun h => hc (hcan.mpr (of_decide_eq_true h))
      rw [if_neg hc, if_neg (fun hh => hH hh.1)]
      exact ⟨i1, i2, i3, i4⟩
theorem pl_main {σ ρ : AH} {l b np nt ns : Nat} {L : Nat → Nat} {C : Nat → Nat → Nat} (hl : l = 8 ∨ l = 170) (hK : HK σ l b np nt ns L C) (hT : TI σ ρ l b np nt ns L C) : ∀ n, n ≤ 2 ^ np → RS ρ (mPl ρ b np nt L ns n).2.2.2 ∧ (mPl ρ b np nt L ns n).1 = feF (Hc ρ b np) (σ 292) (σ 291) n ∧ (mPl ρ b np nt L ns n).2.1 = (if (mPl ρ b np nt L ns n).1 = -1 then 1000000 else aBC (((mPl ρ b np nt L ns n).1).toNat : Int)) ∧ (mPl ρ b np nt L ns n).2.2.1 = (if (mPl ρ b np nt L ns n).1 = -1 then 1000000 else σ 291 ((mPl ρ b np nt L ns n).1).toNat) := by
  have hn10 := hT.1.2.2.1.1
  have hp10 : 2 ^ np ≤ 1024 := Nat.pow_le_pow_right (by decide) hn10
  intro n
  induction n with
  | zero => intro _; exact ⟨RS.refl _, rfl, rfl, rfl⟩
  | succ n ih =>
    intro hn
    obtain ⟨i1, i2, i3, i4⟩ := ih (by omega)
    rw [mPl, feF, ← i2]
    generalize mPl ρ b np nt L ns n = S at i1 i2 i3 i4
    unfold stPl
    have hcan := mCan_rs i1 b np ((n : Nat) : Int)
    have hB := bits_BC n (by omega)
    have hB2 := bits_le n (by omega)
    rw [← hB]
    by_cases hc : mCanC S.2.2.2 b np ((n : Nat) : Int)
    · have hH : Hc ρ b np n = true := decide_eq_true (hcan.mp hc)
      obtain ⟨k1, k2, k3, k4, k5⟩ := hk_at hl hK hT i1 (by omega) hc
      have hq : (S.1 = -1 ∨ (aBC (n : Int) < aBC ((S.1).toNat : Int) ∨ aBC (n : Int) = aBC ((S.1).toNat : Int) ∧ σ 291 n < σ 291 (S.1).toNat)) ↔ (aBC (n : Int) < S.2.1 ∨ aBC (n : Int) = S.2.1 ∧ σ 291 n < S.2.2.1) := by
        by_cases g : S.1 = -1
        · rw [if_pos g] at i3 i4
          exact ⟨fun _ => Or.inl (by omega), fun _ => Or.inl g⟩
        · rw [if_neg g] at i3 i4
          rw [i3, i4]
          exact ⟨fun h => h.resolve_left g, fun h => Or.inr h⟩
      have hsv : (¬ σ 292 n = 0) ↔ mEachC (mDW S.2.2.2 b np nt L ((n : Nat) : Int)) b nt ns L := by
        rw [k5]
        by_cases he : mEachC (mDW S.2.2.2 b np nt L ((n : Nat) : Int)) b nt ns L
        · rw [if_pos he]; exact ⟨fun _ => he, fun _ => by decide⟩
        · rw [if_neg he]; exact ⟨fun h => absurd rfl h, fun h => absurd h he⟩
      have eD : ∀ u v : Int, (if Hc ρ b np n = true ∧ ¬ σ 292 n = 0 ∧ (S.1 = -1 ∨ (aBC (n : Int) < aBC ((S.1).toNat : Int) ∨ aBC (n : Int) = aBC ((S.1).toNat : Int) ∧ σ 291 n < σ 291 (S.1).toNat)) then u else v) = if (aBC (n : Int) < S.2.1 ∨ aBC (n : Int) = S.2.1 ∧ σ 291 n < S.2.2.1) then (if mEachC (mDW S.2.2.2 b np nt L ((n : Nat) : Int)) b nt ns L then u else v) else v := by
        intro u v
        by_cases q : (aBC (n : Int) < S.2.1 ∨ aBC (n : Int) = S.2.1 ∧ σ 291 n < S.2.2.1)
        · rw [if_pos q]
          by_cases he : mEachC (mDW S.2.2.2 b np nt L ((n : Nat) : Int)) b nt ns L
          · rw [if_pos he, if_pos ⟨hH, hsv.mpr he, hq.mpr q⟩]
          · rw [if_neg he, if_neg (fun hh => he (hsv.mp hh.2.1))]
        · rw [if_neg q, if_neg (fun hh => q (hq.mp hh.2.2))]
      rw [eD, if_pos hc, k2, k3]
      have hnn : (n : Int) ≠ -1 := by omega
      have tk : RS ρ (mDW S.2.2.2 b np nt L ((n : Nat) : Int)) := i1.trans (mDW_RS _ hn10 n)
      by_cases h1 : S.2.1 < aBC (n : Int)
      · rw [if_pos h1, if_neg (by omega)]
        exact ⟨i1, rfl, i3, i4⟩
      · rw [if_neg h1]
        by_cases h2 : aBC (n : Int) = S.2.1
        · rw [if_pos h2]
          by_cases h3 : σ 291 n < S.2.2.1
          · rw [if_pos h3, if_pos (Or.inr ⟨h2, h3⟩)]
            by_cases he : mEachC (mDW S.2.2.2 b np nt L ((n : Nat) : Int)) b nt ns L
            · rw [if_pos he, if_pos he]
              refine ⟨tk, rfl, ?_, ?_⟩
              · dsimp only; rw [if_neg hnn, Int.toNat_natCast]
              · dsimp only; rw [if_neg hnn, Int.toNat_natCast]
            · rw [if_neg he, if_neg he]
              exact ⟨tk, rfl, i3, i4⟩
          · rw [if_neg h3, if_neg (by omega)]
            exact ⟨i1, rfl, i3, i4⟩
        · rw [if_neg h2, if_pos (Or.inl (by omega))]
          by_cases he : mEachC (mDW S.2.2.2 b np nt L ((n : Nat) : Int)) b nt ns L
          · rw [if_pos he, if_pos he]
            refine ⟨tk, rfl, ?_, ?_⟩
            · dsimp only; rw [if_neg hnn, Int.toNat_natCast]
            · dsimp only; rw [if_neg hnn, Int.toNat_natCast]
          · rw [if_neg he, if_neg he]
            exact ⟨tk, rfl, i3, i4⟩
    · have hH : ¬ Hc ρ b np n = true := fun h => hc (hcan.mpr (of_decide_eq_true h))
      rw [if_neg hc, if_neg (fun hh => hH hh.1)]
      exact ⟨i1, rfl, i3, i4⟩
/-- beyond what is offered nothing is found -/
theorem chF_st {H : Nat → Bool} (th co : Nat → Int) (need : Int) {m : Nat} : ∀ d, (∀ z, m ≤ z → z < m + d → H z = false) → chF H th co need (m + d) = chF H th co need m
  | 0, _ => rfl
  | d + 1, h => by
    rw [← Nat.add_assoc, chF, if_neg (fun hh => by have := h (m + d) (by omega) (by omega); rw [this] at hh; exact absurd hh.1 (by decide))]
    exact chF_st th co need d (fun z h1 h2 => h z h1 (by omega))
theorem beF_st {H : Nat → Bool} (ct co : Nat → Int) {m : Nat} : ∀ d, (∀ z, m < z → z ≤ m + d → H z = false) → beF H ct co (m + d) = beF H ct co m
  | 0, _ => rfl
  | d + 1, h => by
    rw [← Nat.add_assoc, beF, if_neg (fun hh => by have := h (m + d + 1) (by omega) (by omega); rw [this] at hh; exact absurd hh.1 (by decide))]
    exact beF_st ct co d (fun z h1 h2 => h z h1 (by omega))
theorem feF_st {H : Nat → Bool} (sv co : Nat → Int) {m : Nat} : ∀ d, (∀ z, m ≤ z → z < m + d → H z = false) → feF H sv co (m + d) = feF H sv co m
  | 0, _ => rfl
  | d + 1, h => by
    rw [← Nat.add_assoc, feF, if_neg (fun hh => by have := h (m + d) (by omega) (by omega); rw [this] at hh; exact absurd hh.1 (by decide))]
    exact feF_st sv co d (fun z h1 h2 => h z h1 (by omega))
theorem Hc_hi {σ ρ : AH} {l b np nt ns : Nat} {L : Nat → Nat} {C : Nat → Nat → Nat} (hL : LT σ ρ l b np nt ns L C) {z : Nat} (h1 : bs (pPr ρ b) np < z) (h2 : z < 2147483648) : Hc ρ b np z = false := by
  cases h : Hc ρ b np z with
  | false => rfl
  | true => have := can_le hL h2 (of_decide_eq_true h); omega
