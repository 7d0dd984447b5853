/-! The class's day, whole. -/
theorem xW_eq {ρ : AH} {b v np t k lt s : Nat} (hs : ρ 305 (8 * (6 * b + t) + k) = (s : Int)) (hab : ∀ p, p < np → ρ 333 p = (t : Int) → ¬ (p : Int) = ρ 295 44) {F : Nat → Bool} (hF : ∀ p, p < np → F p = xF ρ b v np t k lt p) (p : Nat) (hp : p < np) :
    ((xHR ρ s p || F p) && ((decide (ρ 322 (10 * v + p) = 1) && !(decide (0 < ρ 336 p))) || (anyN (fun i => decide (k + 1 ≤ i ∧ ρ 305 (8 * (6 * b + t) + i) = ρ 321 (10 * v + p))) lt && !(decide (ρ 322 (10 * v + p) = 1))))) = mW (mH3 ρ b v np t k lt) b v t k lt p := by
  obtain ⟨e1, e2, -, -⟩ := mH3_p ρ b v np t k lt p hp
  have q95 : mH3 ρ b v np t k lt 295 44 = ρ 295 44 := (mH3_fr _ _ _ _ _ _ _ _ _ (by decide)).trans (mH2_fr _ _ _ _ _ _ _ _ _ (by decide))
  have q05 : ∀ j, mH3 ρ b v np t k lt 305 j = ρ 305 j := fun j => (mH3_fr _ _ _ _ _ _ _ _ _ (by decide)).trans (mH2_fr _ _ _ _ _ _ _ _ _ (by decide))
  have q22 : ∀ j, mH3 ρ b v np t k lt 322 j = ρ 322 j := fun j => (mH3_fr _ _ _ _ _ _ _ _ _ (by decide)).trans (mH2_fr _ _ _ _ _ _ _ _ _ (by decide))
  have q21 : ∀ j, mH3 ρ b v np t k lt 321 j = ρ 321 j := fun j => (mH3_fr _ _ _ _ _ _ _ _ _ (by decide)).trans (mH2_fr _ _ _ _ _ _ _ _ _ (by decide))
  have q36 : ∀ j, mH3 ρ b v np t k lt 336 j = ρ 336 j := fun j => (mH3_fr _ _ _ _ _ _ _ _ _ (by decide)).trans (mH2_fr _ _ _ _ _ _ _ _ _ (by decide))
  rw [Bool.eq_iff_iff]
  unfold mW mOnC
  simp only [q95, q05, q22, q21, q36, e1, e2, hs]
  rw [hF p hp]
  cases hf : xF ρ b v np t k lt p with
  | true =>
    have h0 := hab p hp (xF_at hf)
    simp only [Bool.or_true, Bool.true_and, Bool.or_eq_true, Bool.and_eq_true, decide_eq_true_eq, Bool.not_eq_true', decide_eq_false_iff_not, if_true, true_and]
    constructor
    · rintro (h | h)
      · exact ⟨h0, Or.inl ⟨h.1, by omega⟩⟩
      · exact ⟨h0, Or.inr ⟨h.2, h.1⟩⟩
    · rintro ⟨-, h | h⟩
      · exact Or.inl ⟨h.1, by omega⟩
      · exact Or.inr ⟨h.2, h.1⟩
  | false =>
    simp only [Bool.or_false, Bool.or_eq_true, Bool.and_eq_true, decide_eq_true_eq, Bool.not_eq_true', decide_eq_false_iff_not, Bool.false_eq_true, if_false]
    constructor
    · rintro ⟨⟨h1, h2, h3⟩, h | h⟩
      · exact ⟨h3, h1, h2, Or.inl ⟨h.1, by omega⟩⟩
      · exact ⟨h3, h1, h2, Or.inr ⟨h.2, h.1⟩⟩
    · rintro ⟨h3, h1, h2, h | h⟩
      · exact ⟨⟨h1, h2, h3⟩, Or.inl ⟨h.1, by omega⟩⟩
      · exact ⟨⟨h1, h2, h3⟩, Or.inr ⟨h.2, h.1⟩⟩
theorem xQ_eq {ρ : AH} {b v np t k lt : Nat} {F : Nat → Bool} (hF : ∀ p, p < np → F p = xF ρ b v np t k lt p) : xQ ρ b v np t k lt = aSub (ρ 303 (6 * b + t)) ((cnt (fun p => xA ρ t p && !(F p)) np : Nat) : Int) := by
  unfold xQ
  have q03 : mH3 ρ b v np t k lt 303 (6 * b + t) = ρ 303 (6 * b + t) := (mH3_fr _ _ _ _ _ _ _ _ _ (by decide)).trans (mH2_fr _ _ _ _ _ _ _ _ _ (by decide))
  rw [q03, mAbo_cnt]
  refine congrArg (fun x : Nat => aSub (ρ 303 (6 * b + t)) (x : Int)) (cnt_c ?_)
  intro p hp
  rw [(mH3_p ρ b v np t k lt p hp).1, hF p hp]
  cases hf : xF ρ b v np t k lt p with
  | true => simp
  | false => simp [xA]
theorem xN_eq {ρ : AH} {b v np t k lt s : Nat} (hs : ρ 305 (8 * (6 * b + t) + k) = (s : Int)) (hab : ∀ p, p < np → ρ 333 p = (t : Int) → ¬ (p : Int) = ρ 295 44) (hst : mStop ρ b v np t k lt) (hl : ¬ k + 1 = lt) {F : Nat → Bool} (hF : ∀ p, p < np → F p = xF ρ b v np t k lt p) (p : Nat) (hp : p < np) :
    grS (fun p => (xHR ρ s p || F p) && ((decide (ρ 322 (10 * v + p) = 1) && !(decide (0 < ρ 336 p))) || (anyN (fun i => decide (k + 1 ≤ i ∧ ρ 305 (8 * (6 * b + t) + i) = ρ 321 (10 * v + p))) lt && !(decide (ρ 322 (10 * v + p) = 1))))) (aSub (ρ 303 (6 * b + t)) ((cnt (fun p => xA ρ t p && !(F p)) np : Nat) : Int)) p = xN ρ b v np t k lt p := by
  unfold xN
  rw [show xSt ρ b v np t k lt = true from decide_eq_true hst, decide_eq_true hl, Bool.true_and, Bool.true_and, xQ_eq hF]
  exact grS_c hp (fun p hp => xW_eq hs hab hF p hp)
theorem xF_eq {ρ : AH} {b v np t k lt s : Nat} (hs : ρ 305 (8 * (6 * b + t) + k) = (s : Int)) (hst : mStop ρ b v np t k lt) (hl : ¬ k + 1 = lt) (p : Nat) : (xA ρ t p && xWi ρ v s p && !(decide (ρ 322 (10 * v + p) = 1)) && !(decide ((p : Int) = ρ 295 45))) = xF ρ b v np t k lt p := by
  rw [Bool.eq_iff_iff, xF_t _ _ _ _ _ _ _ _ hst]
  unfold mOffC
  simp only [hs, hl, false_or, Bool.and_eq_true, decide_eq_true_eq, Bool.not_eq_true', decide_eq_false_iff_not]
  constructor
  · rintro ⟨⟨⟨h1, h2⟩, h3⟩, h4⟩; exact ⟨h1, h3, h2, h4⟩
  · rintro ⟨h1, h3, h2, h4⟩; exact ⟨⟨⟨h1, h2⟩, h3⟩, h4⟩
theorem xB_eq {ρ : AH} {b v np t k lt : Nat} {F N : Nat → Bool} (hF : ∀ p, p < np → F p = xF ρ b v np t k lt p) (hN : ∀ p, p < np → N p = xN ρ b v np t k lt p) : anyN (fun p => (xA ρ t p && !(F p) || N p) && decide (mBB ρ v p (mCall ρ b t k) (mCall ρ b t (k + 1)))) np = mBtC ρ b v np t k lt := by
  rw [mBtC_eq]
  apply anyN_c
  intro p hp
  rw [hF p hp, hN p hp, Bool.or_comm]
theorem xSt_eq {ρ : AH} {b v np t k s : Nat} (hs : ρ 305 (8 * (6 * b + t) + k) = (s : Int)) : anyN (fun p => xA ρ t p && decide (mBA ρ v p (s : Int))) np = mStC ρ b v np t k := by
  apply anyN_c
  intro p hp
  unfold mCall
  rw [hs, Bool.eq_iff_iff]
  simp only [Bool.and_eq_true, decide_eq_true_eq]
abbrev zH (ρ : AH) (v : Nat) : Nat → Bool := fun p => decide (ρ 322 (10 * v + p) = 1)
abbrev zK (ρ : AH) : Nat → Bool := fun p => decide ((p : Int) = ρ 295 45)
abbrev zLA (ρ : AH) (b v t k lt : Nat) : Nat → Bool := fun p => anyN (fun i => decide (k + 1 ≤ i ∧ ρ 305 (8 * (6 * b + t) + i) = ρ 321 (10 * v + p))) lt
abbrev zBA (ρ : AH) (v s : Nat) : Nat → Bool := fun p => decide (mBA ρ v p (s : Int))
abbrev zBT (ρ : AH) (b v t k : Nat) : Nat → Bool := fun p => decide (mBB ρ v p (mCall ρ b t k) (mCall ρ b t (k + 1)))
theorem v_come_8_36 (X : AX) {n : Nat} {σ ρ : AH} {b v np nt ns t k : Nat} {L : Nat → Nat} {C : Nat → Nat → Nat} (hD : DR σ ρ 8 36 b v np nt ns L C) (hE : RE n σ ρ b v np nt ns L C) (ht : t < nt) (hk : ρ 323 t = (k : Int)) (hkl : k < L t) : TT X k_X1_come (0, [(2, 198), (0, ((t : Nat) : Int)), (9, 0), (9, 0), (9, 0), (9, 0)], [], σ) (fun r τ => r = none ∧ CX σ τ ρ b v np nt t k (L t) (C t k) C) := by
  obtain ⟨⟨d1, d2, d3, d4, d5⟩, ⟨np2, nt2, ns2, st0, st1⟩, hTr, hCa, hAf, hTs, hLA, hBT, ⟨hH, hK⟩⟩ := hD
  obtain ⟨E1, E2, E3, E4, ⟨E5a, E5b⟩, ⟨E6a, E6b⟩, E7, E8, E9, E10⟩ := hE
  obtain ⟨k0, -, hnx, hk0, hdu, -, -⟩ := E1 t ht
  have hkk : k0 = k := by omega
  subst hkk
  obtain ⟨hlt, hL2, hL8, -, -, -, hse⟩ := hTr t ht
  obtain ⟨hcs, hs, hsn⟩ := hCa t k0 ht hkl
  have hs14 : C t k0 < 14 := by omega
  have hab : ∀ p, p < np → ρ 333 p = (t : Int) → ¬ (p : Int) = ρ 295 44 := by
    intro p hp h
    rcases (E4 p hp).1 with h1 | h1
    · omega
    · exact h1.1
  by_cases hl : k0 + 1 = L t
  · have hst : mStop ρ b v np t k0 (L t) := Or.inr (Or.inl hl)
    refine (v_comeD_8_36 X t k0 (C t k0) np (L t) (by omega) ⟨hL2, hL8⟩ hkl hs14 (xA ρ t) (xWi ρ v (C t k0)) (zH ρ v) (zK ρ) (xHR ρ (C t k0)) (fun p => decide (ρ 337 p = 1)) (fun p => decide (0 < ρ 336 p)) (zLA ρ b v t k0 (L t)) (zBA ρ v (C t k0)) (fun _ => false) (rCL ρ C nt) (rSV ρ C nt) (fun k => decide ((k : Int) < ρ 323 t ∧ ρ 325 (8 * t + k) = 1)) (fun p => decide ((p : Int) ≤ ρ 323 t ∧ p < L t ∧ ρ 330 (8 * t + p) = 1)) (ρ 324 t) (ρ 303 (6 * b + t)) 0 (ρ 299 b) σ d1 d2 d3 np2 hnx hlt hcs (E2 t ht) (hTs _ hs14).2 (hTs _ hs14).1 hH hK (E3 _ hs14) E5a E5b (hLA t k0 ht hkl) E6a E6b (E8 t ht).1 (E8 t ht).2 hdu hse d5 (by omega) hl).mono (fun r τ h => ⟨h.1, CM_c h.2 ?_ ?_ ?_ ?_ ?_ ?_⟩)
    · intro p hp
      rw [Bool.eq_iff_iff, xF_t _ _ _ _ _ _ _ _ hst]
      unfold mOffC
      simp only [hl, true_or, and_true, decide_eq_true_eq]
    · intro p hp
      unfold xN
      rw [decide_eq_false (fun h => h hl), Bool.and_false, Bool.false_and]
    · intro p hp
      unfold xBW
      rw [show decide (¬ k0 + 1 = L t) = false from decide_eq_false (fun h => h hl), Bool.false_and, Bool.false_and, Bool.or_false]
    · exact (decide_eq_true hst).symm
    · unfold xLv; rw [if_pos ⟨hst, by omega⟩]
    · unfold xDu; rw [if_pos hl]
  · have hk1 : k0 + 1 < L t := by omega
    have haf := (hAf t k0 ht hk1).1
    by_cases hk00 : k0 = 0
    · have hst : mStop ρ b v np t k0 (L t) := Or.inl hk00
      have hF := fun p (_ : p < np) => xF_eq (v := v) (np := np) hs hst hl p
      have hN := xN_eq hs hab hst hl hF
      refine (v_comeA_8_36 X t k0 (C t k0) np (L t) (by omega) ⟨hL2, hL8⟩ hkl hs14 (xA ρ t) (xWi ρ v (C t k0)) (zH ρ v) (zK ρ) (xHR ρ (C t k0)) (fun p => decide (ρ 337 p = 1)) (fun p => decide (0 < ρ 336 p)) (zLA ρ b v t k0 (L t)) (zBA ρ v (C t k0)) (zBT ρ b v t k0) (rCL ρ C nt) (rSV ρ C nt) (fun k => decide ((k : Int) < ρ 323 t ∧ ρ 325 (8 * t + k) = 1)) (fun p => decide ((p : Int) ≤ ρ 323 t ∧ p < L t ∧ ρ 330 (8 * t + p) = 1)) (ρ 324 t) (ρ 303 (6 * b + t)) (ρ 306 (8 * (6 * b + t) + (k0 + 1))) (ρ 299 b) σ d1 d2 d3 np2 hnx hlt hcs (E2 t ht) (hTs _ hs14).2 (hTs _ hs14).1 hH hK (E3 _ hs14) E5a E5b (hLA t k0 ht hkl) E6a E6b (E8 t ht).1 (E8 t ht).2 hdu hse d5 (hBT t k0 ht hk1) haf hk00 hk1).mono (fun r τ h => ⟨h.1, CM_c h.2 hF hN ?_ ?_ ?_ ?_⟩)
      · intro p hp
        unfold xBW
        rw [decide_eq_true hl, Bool.true_and, ← xB_eq hF hN]
      · exact (decide_eq_true hst).symm
      · unfold xLv; rw [if_neg (show ¬ (mStop ρ b v np t k0 (L t) ∧ 0 < k0) from fun h => by omega)]
      · unfold xDu xLv; rw [if_neg hl, if_neg (show ¬ (mStop ρ b v np t k0 (L t) ∧ 0 < k0) from fun h => by omega), ← xB_eq hF hN]
    · by_cases hz : mStC ρ b v np t k0 = true
      · have hst : mStop ρ b v np t k0 (L t) := Or.inr (Or.inr hz)
        have hF := fun p (_ : p < np) => xF_eq (v := v) (np := np) hs hst hl p
        have hN := xN_eq hs hab hst hl hF
        refine (v_comeB_8_36 X t k0 (C t k0) np (L t) (by omega) ⟨hL2, hL8⟩ hkl hs14 (xA ρ t) (xWi ρ v (C t k0)) (zH ρ v) (zK ρ) (xHR ρ (C t k0)) (fun p => decide (ρ 337 p = 1)) (fun p => decide (0 < ρ 336 p)) (zLA ρ b v t k0 (L t)) (zBA ρ v (C t k0)) (zBT ρ b v t k0) (rCL ρ C nt) (rSV ρ C nt) (fun k => decide ((k : Int) < ρ 323 t ∧ ρ 325 (8 * t + k) = 1)) (fun p => decide ((p : Int) ≤ ρ 323 t ∧ p < L t ∧ ρ 330 (8 * t + p) = 1)) (ρ 324 t) (ρ 303 (6 * b + t)) (ρ 306 (8 * (6 * b + t) + (k0 + 1))) (ρ 299 b) σ d1 d2 d3 np2 hnx hlt hcs (E2 t ht) (hTs _ hs14).2 (hTs _ hs14).1 hH hK (E3 _ hs14) E5a E5b (hLA t k0 ht hkl) E6a E6b (E8 t ht).1 (E8 t ht).2 hdu hse d5 (hBT t k0 ht hk1) haf (by omega) hk1 ((xSt_eq hs).trans hz)).mono (fun r τ h => ⟨h.1, CM_c h.2 hF hN ?_ ?_ ?_ ?_⟩)
        · intro p hp
          unfold xBW
          rw [decide_eq_true hl, Bool.true_and, ← xB_eq hF hN]
        · exact (decide_eq_true hst).symm
        · unfold xLv; rw [if_pos ⟨hst, by omega⟩]
        · unfold xDu xLv; rw [if_neg hl, if_pos (show mStop ρ b v np t k0 (L t) ∧ 0 < k0 from ⟨hst, by omega⟩), ← xB_eq hF hN]
      · have hst : ¬ mStop ρ b v np t k0 (L t) := by
          rintro (h | h | h)
          · exact hk00 h
          · exact hl h
          · exact hz h
        have hF : ∀ p, p < np → (fun _ => false) p = xF ρ b v np t k0 (L t) p := fun p _ => (xF_n _ _ _ _ _ _ _ _ hst).symm
        have hN : ∀ p, p < np → (fun _ => false) p = xN ρ b v np t k0 (L t) p := fun p _ => by
          unfold xN
          rw [show xSt ρ b v np t k0 (L t) = false from decide_eq_false hst]
          rfl
        have hB := xB_eq hF hN
        simp only [Bool.not_false, Bool.and_true, Bool.or_false] at hB
        refine (v_comeC_8_36 X t k0 (C t k0) np (L t) (by omega) ⟨hL2, hL8⟩ hkl hs14 (xA ρ t) (xWi ρ v (C t k0)) (zH ρ v) (zK ρ) (xHR ρ (C t k0)) (fun p => decide (ρ 337 p = 1)) (fun p => decide (0 < ρ 336 p)) (zLA ρ b v t k0 (L t)) (zBA ρ v (C t k0)) (zBT ρ b v t k0) (rCL ρ C nt) (rSV ρ C nt) (fun k => decide ((k : Int) < ρ 323 t ∧ ρ 325 (8 * t + k) = 1)) (fun p => decide ((p : Int) ≤ ρ 323 t ∧ p < L t ∧ ρ 330 (8 * t + p) = 1)) (ρ 324 t) (ρ 303 (6 * b + t)) (ρ 306 (8 * (6 * b + t) + (k0 + 1))) (ρ 299 b) σ d1 d2 d3 np2 hnx hlt hcs (E2 t ht) (hTs _ hs14).2 (hTs _ hs14).1 hH hK (E3 _ hs14) E5a E5b (hLA t k0 ht hkl) E6a E6b (E8 t ht).1 (E8 t ht).2 hdu hse d5 (hBT t k0 ht hk1) haf (by omega) hk1 ((xSt_eq hs).trans (by rw [Bool.not_eq_true] at hz; exact hz))).mono (fun r τ h => ⟨h.1, CM_c h.2 hF hN ?_ ?_ ?_ ?_⟩)
        · intro p hp
          unfold xBW
          rw [decide_eq_true hl, Bool.true_and, ← hB]
        · exact (decide_eq_false hst).symm
        · unfold xLv; rw [if_neg (show ¬ (mStop ρ b v np t k0 (L t) ∧ 0 < k0) from fun h => hst h.1)]
        · unfold xDu xLv; rw [if_neg hl, if_neg (show ¬ (mStop ρ b v np t k0 (L t) ∧ 0 < k0) from fun h => hst h.1), ← hB]
theorem v_come_8_42 (X : AX) {n : Nat} {σ ρ : AH} {b v np nt ns t k : Nat} {L : Nat → Nat} {C : Nat → Nat → Nat} (hD : DR σ ρ 8 42 b v np nt ns L C) (hE : RE n σ ρ b v np nt ns L C) (ht : t < nt) (hk : ρ 323 t = (k : Int)) (hkl : k < L t) : TT X k_X1_come (0, [(2, 198), (0, ((t : Nat) : Int)), (9, 0), (9, 0), (9, 0), (9, 0)], [], σ) (fun r τ => r = none ∧ CX σ τ ρ b v np nt t k (L t) (C t k) C) := by
  obtain ⟨⟨d1, d2, d3, d4, d5⟩, ⟨np2, nt2, ns2, st0, st1⟩, hTr, hCa, hAf, hTs, hLA, hBT, ⟨hH, hK⟩⟩ := hD
  obtain ⟨E1, E2, E3, E4, ⟨E5a, E5b⟩, ⟨E6a, E6b⟩, E7, E8, E9, E10⟩ := hE
  obtain ⟨k0, -, hnx, hk0, hdu, -, -⟩ := E1 t ht
  have hkk : k0 = k := by omega
  subst hkk
  obtain ⟨hlt, hL2, hL8, -, -, -, hse⟩ := hTr t ht
  obtain ⟨hcs, hs, hsn⟩ := hCa t k0 ht hkl
  have hs14 : C t k0 < 14 := by omega
  have hab : ∀ p, p < np → ρ 333 p = (t : Int) → ¬ (p : Int) = ρ 295 44 := by
    intro p hp h
    rcases (E4 p hp).1 with h1 | h1
    · omega
    · exact h1.1
  by_cases hl : k0 + 1 = L t
  · have hst : mStop ρ b v np t k0 (L t) := Or.inr (Or.inl hl)
    refine (v_comeD_8_42 X t k0 (C t k0) np (L t) (by omega) ⟨hL2, hL8⟩ hkl hs14 (xA ρ t) (xWi ρ v (C t k0)) (zH ρ v) (zK ρ) (xHR ρ (C t k0)) (fun p => decide (ρ 337 p = 1)) (fun p => decide (0 < ρ 336 p)) (zLA ρ b v t k0 (L t)) (zBA ρ v (C t k0)) (fun _ => false) (rCL ρ C nt) (rSV ρ C nt) (fun k => decide ((k : Int) < ρ 323 t ∧ ρ 325 (8 * t + k) = 1)) (fun p => decide ((p : Int) ≤ ρ 323 t ∧ p < L t ∧ ρ 330 (8 * t + p) = 1)) (ρ 324 t) (ρ 303 (6 * b + t)) 0 (ρ 299 b) σ d1 d2 d3 np2 hnx hlt hcs (E2 t ht) (hTs _ hs14).2 (hTs _ hs14).1 hH hK (E3 _ hs14) E5a E5b (hLA t k0 ht hkl) E6a E6b (E8 t ht).1 (E8 t ht).2 hdu hse d5 (by omega) hl).mono (fun r τ h => ⟨h.1, CM_c h.2 ?_ ?_ ?_ ?_ ?_ ?_⟩)
    · intro p hp
      rw [Bool.eq_iff_iff, xF_t _ _ _ _ _ _ _ _ hst]
      unfold mOffC
      simp only [hl, true_or, and_true, decide_eq_true_eq]
    · intro p hp
      unfold xN
      rw [decide_eq_false (fun h => h hl), Bool.and_false, Bool.false_and]
    · intro p hp
      unfold xBW
      rw [show decide (¬ k0 + 1 = L t) = false from decide_eq_false (fun h => h hl), Bool.false_and, Bool.false_and, Bool.or_false]
    · exact (decide_eq_true hst).symm
    · unfold xLv; rw [if_pos ⟨hst, by omega⟩]
    · unfold xDu; rw [if_pos hl]
  · have hk1 : k0 + 1 < L t := by omega
    have haf := (hAf t k0 ht hk1).1
    by_cases hk00 : k0 = 0
    · have hst : mStop ρ b v np t k0 (L t) := Or.inl hk00
      have hF := fun p (_ : p < np) => xF_eq (v := v) (np := np) hs hst hl p
      have hN := xN_eq hs hab hst hl hF
      refine (v_comeA_8_42 X t k0 (C t k0) np (L t) (by omega) ⟨hL2, hL8⟩ hkl hs14 (xA ρ t) (xWi ρ v (C t k0)) (zH ρ v) (zK ρ) (xHR ρ (C t k0)) (fun p => decide (ρ 337 p = 1)) (fun p => decide (0 < ρ 336 p)) (zLA ρ b v t k0 (L t)) (zBA ρ v (C t k0)) (zBT ρ b v t k0) (rCL ρ C nt) (rSV ρ C nt) (fun k => decide ((k : Int) < ρ 323 t ∧ ρ 325 (8 * t + k) = 1)) (fun p => decide ((p : Int) ≤ ρ 323 t ∧ p < L t ∧ ρ 330 (8 * t + p) = 1)) (ρ 324 t) (ρ 303 (6 * b + t)) (ρ 306 (8 * (6 * b + t) + (k0 + 1))) (ρ 299 b) σ d1 d2 d3 np2 hnx hlt hcs (E2 t ht) (hTs _ hs14).2 (hTs _ hs14).1 hH hK (E3 _ hs14) E5a E5b (hLA t k0 ht hkl) E6a E6b (E8 t ht).1 (E8 t ht).2 hdu hse d5 (hBT t k0 ht hk1) haf hk00 hk1).mono (fun r τ h => ⟨h.1, CM_c h.2 hF hN ?_ ?_ ?_ ?_⟩)
      · intro p hp
        unfold xBW
        rw [decide_eq_true hl, Bool.true_and, ← xB_eq hF hN]
      · exact (decide_eq_true hst).symm
      · unfold xLv; rw [if_neg (show ¬ (mStop ρ b v np t k0 (L t) ∧ 0 < k0) from fun h => by omega)]
      · unfold xDu xLv; rw [if_neg hl, if_neg (show ¬ (mStop ρ b v np t k0 (L t) ∧ 0 < k0) from fun h => by omega), ← xB_eq hF hN]
    · by_cases hz : mStC ρ b v np t k0 = true
      · have hst : mStop ρ b v np t k0 (L t) := Or.inr (Or.inr hz)
        have hF := fun p (_ : p < np) => xF_eq (v := v) (np := np) hs hst hl p
        have hN := xN_eq hs hab hst hl hF
        refine (v_comeB_8_42 X t k0 (C t k0) np (L t) (by omega) ⟨hL2, hL8⟩ hkl hs14 (xA ρ t) (xWi ρ v (C t k0)) (zH ρ v) (zK ρ) (xHR ρ (C t k0)) (fun p => decide (ρ 337 p = 1)) (fun p => decide (0 < ρ 336 p)) (zLA ρ b v t k0 (L t)) (zBA ρ v (C t k0)) (zBT ρ b v t k0) (rCL ρ C nt) (rSV ρ C nt) (fun k => decide ((k : Int) < ρ 323 t ∧ ρ 325 (8 * t + k) = 1)) (fun p => decide ((p : Int) ≤ ρ 323 t ∧ p < L t ∧ ρ 330 (8 * t + p) = 1)) (ρ 324 t) (ρ 303 (6 * b + t)) (ρ 306 (8 * (6 * b + t) + (k0 + 1))) (ρ 299 b) σ d1 d2 d3 np2 hnx hlt hcs (E2 t ht) (hTs _ hs14).2 (hTs _ hs14).1 hH hK (E3 _ hs14) E5a E5b (hLA t k0 ht hkl) E6a E6b (E8 t ht).1 (E8 t ht).2 hdu hse d5 (hBT t k0 ht hk1) haf (by omega) hk1 ((xSt_eq hs).trans hz)).mono (fun r τ h => ⟨h.1, CM_c h.2 hF hN ?_ ?_ ?_ ?_⟩)
        · intro p hp
          unfold xBW
          rw [decide_eq_true hl, Bool.true_and, ← xB_eq hF hN]
        · exact (decide_eq_true hst).symm
        · unfold xLv; rw [if_pos ⟨hst, by omega⟩]
        · unfold xDu xLv; rw [if_neg hl, if_pos (show mStop ρ b v np t k0 (L t) ∧ 0 < k0 from ⟨hst, by omega⟩), ← xB_eq hF hN]
      · have hst : ¬ mStop ρ b v np t k0 (L t) := by
          rintro (h | h | h)
          · exact hk00 h
          · exact hl h
          · exact hz h
        have hF : ∀ p, p < np → (fun _ => false) p = xF ρ b v np t k0 (L t) p := fun p _ => (xF_n _ _ _ _ _ _ _ _ hst).symm
        have hN : ∀ p, p < np → (fun _ => false) p = xN ρ b v np t k0 (L t) p := fun p _ => by
          unfold xN
          rw [show xSt ρ b v np t k0 (L t) = false from decide_eq_false hst]
          rfl
        have hB := xB_eq hF hN
        simp only [Bool.not_false, Bool.and_true, Bool.or_false] at hB
        refine (v_comeC_8_42 X t k0 (C t k0) np (L t) (by omega) ⟨hL2, hL8⟩ hkl hs14 (xA ρ t) (xWi ρ v (C t k0)) (zH ρ v) (zK ρ) (xHR ρ (C t k0)) (fun p => decide (ρ 337 p = 1)) (fun p => decide (0 < ρ 336 p)) (zLA ρ b v t k0 (L t)) (zBA ρ v (C t k0)) (zBT ρ b v t k0) (rCL ρ C nt) (rSV ρ C nt) (fun k => decide ((k : Int) < ρ 323 t ∧ ρ 325 (8 * t + k) = 1)) (fun p => decide ((p : Int) ≤ ρ 323 t ∧ p < L t ∧ ρ 330 (8 * t + p) = 1)) (ρ 324 t) (ρ 303 (6 * b + t)) (ρ 306 (8 * (6 * b + t) + (k0 + 1))) (ρ 299 b) σ d1 d2 d3 np2 hnx hlt hcs (E2 t ht) (hTs _ hs14).2 (hTs _ hs14).1 hH hK (E3 _ hs14) E5a E5b (hLA t k0 ht hkl) E6a E6b (E8 t ht).1 (E8 t ht).2 hdu hse d5 (hBT t k0 ht hk1) haf (by omega) hk1 ((xSt_eq hs).trans (by rw [Bool.not_eq_true] at hz; exact hz))).mono (fun r τ h => ⟨h.1, CM_c h.2 hF hN ?_ ?_ ?_ ?_⟩)
        · intro p hp
          unfold xBW
          rw [decide_eq_true hl, Bool.true_and, ← hB]
        · exact (decide_eq_false hst).symm
        · unfold xLv; rw [if_neg (show ¬ (mStop ρ b v np t k0 (L t) ∧ 0 < k0) from fun h => hst h.1)]
        · unfold xDu xLv; rw [if_neg hl, if_neg (show ¬ (mStop ρ b v np t k0 (L t) ∧ 0 < k0) from fun h => hst h.1), ← hB]
theorem v_come_170_36 (X : AX) {n : Nat} {σ ρ : AH} {b v np nt ns t k : Nat} {L : Nat → Nat} {C : Nat → Nat → Nat} (hD : DR σ ρ 170 36 b v np nt ns L C) (hE : RE n σ ρ b v np nt ns L C) (ht : t < nt) (hk : ρ 323 t = (k : Int)) (hkl : k < L t) : TT X k_X1_come (0, [(2, 198), (0, ((t : Nat) : Int)), (9, 0), (9, 0), (9, 0), (9, 0)], [], σ) (fun r τ => r = none ∧ CX σ τ ρ b v np nt t k (L t) (C t k) C) := by
  obtain ⟨⟨d1, d2, d3, d4, d5⟩, ⟨np2, nt2, ns2, st0, st1⟩, hTr, hCa, hAf, hTs, hLA, hBT, ⟨hH, hK⟩⟩ := hD
  obtain ⟨E1, E2, E3, E4, ⟨E5a, E5b⟩, ⟨E6a, E6b⟩, E7, E8, E9, E10⟩ := hE
  obtain ⟨k0, -, hnx, hk0, hdu, -, -⟩ := E1 t ht
  have hkk : k0 = k := by omega
  subst hkk
  obtain ⟨hlt, hL2, hL8, -, -, -, hse⟩ := hTr t ht
  obtain ⟨hcs, hs, hsn⟩ := hCa t k0 ht hkl
  have hs14 : C t k0 < 14 := by omega
  have hab : ∀ p, p < np → ρ 333 p = (t : Int) → ¬ (p : Int) = ρ 295 44 := by
    intro p hp h
    rcases (E4 p hp).1 with h1 | h1
    · omega
    · exact h1.1
  by_cases hl : k0 + 1 = L t
  · have hst : mStop ρ b v np t k0 (L t) := Or.inr (Or.inl hl)
    refine (v_comeD_170_36 X t k0 (C t k0) np (L t) (by omega) ⟨hL2, hL8⟩ hkl hs14 (xA ρ t) (xWi ρ v (C t k0)) (zH ρ v) (zK ρ) (xHR ρ (C t k0)) (fun p => decide (ρ 337 p = 1)) (fun p => decide (0 < ρ 336 p)) (zLA ρ b v t k0 (L t)) (zBA ρ v (C t k0)) (fun _ => false) (rCL ρ C nt) (rSV ρ C nt) (fun k => decide ((k : Int) < ρ 323 t ∧ ρ 325 (8 * t + k) = 1)) (fun p => decide ((p : Int) ≤ ρ 323 t ∧ p < L t ∧ ρ 330 (8 * t + p) = 1)) (ρ 324 t) (ρ 303 (6 * b + t)) 0 (ρ 299 b) σ d1 d2 d3 np2 hnx hlt hcs (E2 t ht) (hTs _ hs14).2 (hTs _ hs14).1 hH hK (E3 _ hs14) E5a E5b (hLA t k0 ht hkl) E6a E6b (E8 t ht).1 (E8 t ht).2 hdu hse d5 (by omega) hl).mono (fun r τ h => ⟨h.1, CM_c h.2 ?_ ?_ ?_ ?_ ?_ ?_⟩)
    · intro p hp
      rw [Bool.eq_iff_iff, xF_t _ _ _ _ _ _ _ _ hst]
      unfold mOffC
      simp only [hl, true_or, and_true, decide_eq_true_eq]
    · intro p hp
      unfold xN
      rw [decide_eq_false (fun h => h hl), Bool.and_false, Bool.false_and]
    · intro p hp
      unfold xBW
      rw [show decide (¬ k0 + 1 = L t) = false from decide_eq_false (fun h => h hl), Bool.false_and, Bool.false_and, Bool.or_false]
    · exact (decide_eq_true hst).symm
    · unfold xLv; rw [if_pos ⟨hst, by omega⟩]
    · unfold xDu; rw [if_pos hl]
  · have hk1 : k0 + 1 < L t := by omega
    have haf := (hAf t k0 ht hk1).1
    by_cases hk00 : k0 = 0
    · have hst : mStop ρ b v np t k0 (L t) := Or.inl hk00
      have hF := fun p (_ : p < np) => xF_eq (v := v) (np := np) hs hst hl p
      have hN := xN_eq hs hab hst hl hF
      refine (v_comeA_170_36 X t k0 (C t k0) np (L t) (by omega) ⟨hL2, hL8⟩ hkl hs14 (xA ρ t) (xWi ρ v (C t k0)) (zH ρ v) (zK ρ) (xHR ρ (C t k0)) (fun p => decide (ρ 337 p = 1)) (fun p => decide (0 < ρ 336 p)) (zLA ρ b v t k0 (L t)) (zBA ρ v (C t k0)) (zBT ρ b v t k0) (rCL ρ C nt) (rSV ρ C nt) (fun k => decide ((k : Int) < ρ 323 t ∧ ρ 325 (8 * t + k) = 1)) (fun p => decide ((p : Int) ≤ ρ 323 t ∧ p < L t ∧ ρ 330 (8 * t + p) = 1)) (ρ 324 t) (ρ 303 (6 * b + t)) (ρ 306 (8 * (6 * b + t) + (k0 + 1))) (ρ 299 b) σ d1 d2 d3 np2 hnx hlt hcs (E2 t ht) (hTs _ hs14).2 (hTs _ hs14).1 hH hK (E3 _ hs14) E5a E5b (hLA t k0 ht hkl) E6a E6b (E8 t ht).1 (E8 t ht).2 hdu hse d5 (hBT t k0 ht hk1) haf hk00 hk1).mono (fun r τ h => ⟨h.1, CM_c h.2 hF hN ?_ ?_ ?_ ?_⟩)
      · intro p hp
        unfold xBW
        rw [decide_eq_true hl, Bool.true_and, ← xB_eq hF hN]
      · exact (decide_eq_true hst).symm
      · unfold xLv; rw [if_neg (show ¬ (mStop ρ b v np t k0 (L t) ∧ 0 < k0) from fun h => by omega)]
      · unfold xDu xLv; rw [if_neg hl, if_neg (show ¬ (mStop ρ b v np t k0 (L t) ∧ 0 < k0) from fun h => by omega), ← xB_eq hF hN]
    · by_cases hz : mStC ρ b v np t k0 = true
      · have hst : mStop ρ b v np t k0 (L t) := Or.inr (Or.inr hz)
        have hF := fun p (_ : p < np) => xF_eq (v := v) (np := np) hs hst hl p
        have hN := xN_eq hs hab hst hl hF
        refine (v_comeB_170_36 X t k0 (C t k0) np (L t) (by omega) ⟨hL2, hL8⟩ hkl hs14 (xA ρ t) (xWi ρ v (C t k0)) (zH ρ v) (zK ρ) (xHR ρ (C t k0)) (fun p => decide (ρ 337 p = 1)) (fun p => decide (0 < ρ 336 p)) (zLA ρ b v t k0 (L t)) (zBA ρ v (C t k0)) (zBT ρ b v t k0) (rCL ρ C nt) (rSV ρ C nt) (fun k => decide ((k : Int) < ρ 323 t ∧ ρ 325 (8 * t + k) = 1)) (fun p => decide ((p : Int) ≤ ρ 323 t ∧ p < L t ∧ ρ 330 (8 * t + p) = 1)) (ρ 324 t) (ρ 303 (6 * b + t)) (ρ 306 (8 * (6 * b + t) + (k0 + 1))) (ρ 299 b) σ d1 d2 d3 np2 hnx hlt hcs (E2 t ht) (hTs _ hs14).2 (hTs _ hs14).1 hH hK (E3 _ hs14) E5a E5b (hLA t k0 ht hkl) E6a E6b (E8 t ht).1 (E8 t ht).2 hdu hse d5 (hBT t k0 ht hk1) haf (by omega) hk1 ((xSt_eq hs).trans hz)).mono (fun r τ h => ⟨h.1, CM_c h.2 hF hN ?_ ?_ ?_ ?_⟩)
        · intro p hp
          unfold xBW
          rw [decide_eq_true hl, Bool.true_and, ← xB_eq hF hN]
        · exact (decide_eq_true hst).symm
        · unfold xLv; rw [if_pos ⟨hst, by omega⟩]
        · unfold xDu xLv; rw [if_neg hl, if_pos (show mStop ρ b v np t k0 (L t) ∧ 0 < k0 from ⟨hst, by omega⟩), ← xB_eq hF hN]
      · have hst : ¬ mStop ρ b v np t k0 (L t) := by
          rintro (h | h | h)
          · exact hk00 h
          · exact hl h
          · exact hz h
        have hF : ∀ p, p < np → (fun _ => false) p = xF ρ b v np t k0 (L t) p := fun p _ => (xF_n _ _ _ _ _ _ _ _ hst).symm
        have hN : ∀ p, p < np → (fun _ => false) p = xN ρ b v np t k0 (L t) p := fun p _ => by
          unfold xN
          rw [show xSt ρ b v np t k0 (L t) = false from decide_eq_false hst]
          rfl
        have hB := xB_eq hF hN
        simp only [Bool.not_false, Bool.and_true, Bool.or_false] at hB
        refine (v_comeC_170_36 X t k0 (C t k0) np (L t) (by omega) ⟨hL2, hL8⟩ hkl hs14 (xA ρ t) (xWi ρ v (C t k0)) (zH ρ v) (zK ρ) (xHR ρ (C t k0)) (fun p => decide (ρ 337 p = 1)) (fun p => decide (0 < ρ 336 p)) (zLA ρ b v t k0 (L t)) (zBA ρ v (C t k0)) (zBT ρ b v t k0) (rCL ρ C nt) (rSV ρ C nt) (fun k => decide ((k : Int) < ρ 323 t ∧ ρ 325 (8 * t + k) = 1)) (fun p => decide ((p : Int) ≤ ρ 323 t ∧ p < L t ∧ ρ 330 (8 * t + p) = 1)) (ρ 324 t) (ρ 303 (6 * b + t)) (ρ 306 (8 * (6 * b + t) + (k0 + 1))) (ρ 299 b) σ d1 d2 d3 np2 hnx hlt hcs (E2 t ht) (hTs _ hs14).2 (hTs _ hs14).1 hH hK (E3 _ hs14) E5a E5b (hLA t k0 ht hkl) E6a E6b (E8 t ht).1 (E8 t ht).2 hdu hse d5 (hBT t k0 ht hk1) haf (by omega) hk1 ((xSt_eq hs).trans (by rw [Bool.not_eq_true] at hz; exact hz))).mono (fun r τ h => ⟨h.1, CM_c h.2 hF hN ?_ ?_ ?_ ?_⟩)
        · intro p hp
          unfold xBW
          rw [decide_eq_true hl, Bool.true_and, ← hB]
        · exact (decide_eq_false hst).symm
        · unfold xLv; rw [if_neg (show ¬ (mStop ρ b v np t k0 (L t) ∧ 0 < k0) from fun h => hst h.1)]
        · unfold xDu xLv; rw [if_neg hl, if_neg (show ¬ (mStop ρ b v np t k0 (L t) ∧ 0 < k0) from fun h => hst h.1), ← hB]
theorem v_come_170_42 (X : AX) {n : Nat} {σ ρ : AH} {b v np nt ns t k : Nat} {L : Nat → Nat} {C : Nat → Nat → Nat} (hD : DR σ ρ 170 42 b v np nt ns L C) (hE : RE n σ ρ b v np nt ns L C) (ht : t < nt) (hk : ρ 323 t = (k : Int)) (hkl : k < L t) : TT X k_X1_come (0, [(2, 198), (0, ((t : Nat) : Int)), (9, 0), (9, 0), (9, 0), (9, 0)], [], σ) (fun r τ => r = none ∧ CX σ τ ρ b v np nt t k (L t) (C t k) C) := by
  obtain ⟨⟨d1, d2, d3, d4, d5⟩, ⟨np2, nt2, ns2, st0, st1⟩, hTr, hCa, hAf, hTs, hLA, hBT, ⟨hH, hK⟩⟩ := hD
  obtain ⟨E1, E2, E3, E4, ⟨E5a, E5b⟩, ⟨E6a, E6b⟩, E7, E8, E9, E10⟩ := hE
  obtain ⟨k0, -, hnx, hk0, hdu, -, -⟩ := E1 t ht
  have hkk : k0 = k := by omega
  subst hkk
  obtain ⟨hlt, hL2, hL8, -, -, -, hse⟩ := hTr t ht
  obtain ⟨hcs, hs, hsn⟩ := hCa t k0 ht hkl
  have hs14 : C t k0 < 14 := by omega
  have hab : ∀ p, p < np → ρ 333 p = (t : Int) → ¬ (p : Int) = ρ 295 44 := by
    intro p hp h
    rcases (E4 p hp).1 with h1 | h1
    · omega
    · exact h1.1
  by_cases hl : k0 + 1 = L t
  · have hst : mStop ρ b v np t k0 (L t) := Or.inr (Or.inl hl)
    refine (v_comeD_170_42 X t k0 (C t k0) np (L t) (by omega) ⟨hL2, hL8⟩ hkl hs14 (xA ρ t) (xWi ρ v (C t k0)) (zH ρ v) (zK ρ) (xHR ρ (C t k0)) (fun p => decide (ρ 337 p = 1)) (fun p => decide (0 < ρ 336 p)) (zLA ρ b v t k0 (L t)) (zBA ρ v (C t k0)) (fun _ => false) (rCL ρ C nt) (rSV ρ C nt) (fun k => decide ((k : Int) < ρ 323 t ∧ ρ 325 (8 * t + k) = 1)) (fun p => decide ((p : Int) ≤ ρ 323 t ∧ p < L t ∧ ρ 330 (8 * t + p) = 1)) (ρ 324 t) (ρ 303 (6 * b + t)) 0 (ρ 299 b) σ d1 d2 d3 np2 hnx hlt hcs (E2 t ht) (hTs _ hs14).2 (hTs _ hs14).1 hH hK (E3 _ hs14) E5a E5b (hLA t k0 ht hkl) E6a E6b (E8 t ht).1 (E8 t ht).2 hdu hse d5 (by omega) hl).mono (fun r τ h => ⟨h.1, CM_c h.2 ?_ ?_ ?_ ?_ ?_ ?_⟩)
    · intro p hp
      rw [Bool.eq_iff_iff, xF_t _ _ _ _ _ _ _ _ hst]
      unfold mOffC
      simp only [hl, true_or, and_true, decide_eq_true_eq]
    · intro p hp
      unfold xN
      rw [decide_eq_false (fun h => h hl), Bool.and_false, Bool.false_and]
    · intro p hp
      unfold xBW
      rw [show decide (¬ k0 + 1 = L t) = false from decide_eq_false (fun h => h hl), Bool.false_and, Bool.false_and, Bool.or_false]
    · exact (decide_eq_true hst).symm
    · unfold xLv; rw [if_pos ⟨hst, by omega⟩]
    · unfold xDu; rw [if_pos hl]
  · have hk1 : k0 + 1 < L t := by omega
    have haf := (hAf t k0 ht hk1).1
    by_cases hk00 : k0 = 0
    · have hst : mStop ρ b v np t k0 (L t) := Or.inl hk00
      have hF := fun p (_ : p < np) => xF_eq (v := v) (np := np) hs hst hl p
      have hN := xN_eq hs hab hst hl hF
      refine (v_comeA_170_42 X t k0 (C t k0) np (L t) (by omega) ⟨hL2, hL8⟩ hkl hs14 (xA ρ t) (xWi ρ v (C t k0)) (zH ρ v) (zK ρ) (xHR ρ (C t k0)) (fun p => decide (ρ 337 p = 1)) (fun p => decide (0 < ρ 336 p)) (zLA ρ b v t k0 (L t)) (zBA ρ v (C t k0)) (zBT ρ b v t k0) (rCL ρ C nt) (rSV ρ C nt) (fun k => decide ((k : Int) < ρ 323 t ∧ ρ 325 (8 * t + k) = 1)) (fun p => decide ((p : Int) ≤ ρ 323 t ∧ p < L t ∧ ρ 330 (8 * t + p) = 1)) (ρ 324 t) (ρ 303 (6 * b + t)) (ρ 306 (8 * (6 * b + t) + (k0 + 1))) (ρ 299 b) σ d1 d2 d3 np2 hnx hlt hcs (E2 t ht) (hTs _ hs14).2 (hTs _ hs14).1 hH hK (E3 _ hs14) E5a E5b (hLA t k0 ht hkl) E6a E6b (E8 t ht).1 (E8 t ht).2 hdu hse d5 (hBT t k0 ht hk1) haf hk00 hk1).mono (fun r τ h => ⟨h.1, CM_c h.2 hF hN ?_ ?_ ?_ ?_⟩)
      · intro p hp
        unfold xBW
        rw [decide_eq_true hl, Bool.true_and, ← xB_eq hF hN]
      · exact (decide_eq_true hst).symm
      · unfold xLv; rw [if_neg (show ¬ (mStop ρ b v np t k0 (L t) ∧ 0 < k0) from fun h => by omega)]
      · unfold xDu xLv; rw [if_neg hl, if_neg (show ¬ (mStop ρ b v np t k0 (L t) ∧ 0 < k0) from fun h => by omega), ← xB_eq hF hN]
    · by_cases hz : mStC ρ b v np t k0 = true
      · have hst : mStop ρ b v np t k0 (L t) := Or.inr (Or.inr hz)
        have hF := fun p (_ : p < np) => xF_eq (v := v) (np := np) hs hst hl p
        have hN := xN_eq hs hab hst hl hF
        refine (v_comeB_170_42 X t k0 (C t k0) np (L t) (by omega) ⟨hL2, hL8⟩ hkl hs14 (xA ρ t) (xWi ρ v (C t k0)) (zH ρ v) (zK ρ) (xHR ρ (C t k0)) (fun p => decide (ρ 337 p = 1)) (fun p => decide (0 < ρ 336 p)) (zLA ρ b v t k0 (L t)) (zBA ρ v (C t k0)) (zBT ρ b v t k0) (rCL ρ C nt) (rSV ρ C nt) (fun k => decide ((k : Int) < ρ 323 t ∧ ρ 325 (8 * t + k) = 1)) (fun p => decide ((p : Int) ≤ ρ 323 t ∧ p < L t ∧ ρ 330 (8 * t + p) = 1)) (ρ 324 t) (ρ 303 (6 * b + t)) (ρ 306 (8 * (6 * b + t) + (k0 + 1))) (ρ 299 b) σ d1 d2 d3 np2 hnx hlt hcs (E2 t ht) (hTs _ hs14).2 (hTs _ hs14).1 hH hK (E3 _ hs14) E5a E5b (hLA t k0 ht hkl) E6a E6b (E8 t ht).1 (E8 t ht).2 hdu hse d5 (hBT t k0 ht hk1) haf (by omega) hk1 ((xSt_eq hs).trans hz)).mono (fun r τ h => ⟨h.1, CM_c h.2 hF hN ?_ ?_ ?_ ?_⟩)
        · intro p hp
          unfold xBW
          rw [decide_eq_true hl, Bool.true_and, ← xB_eq hF hN]
        · exact (decide_eq_true hst).symm
        · unfold xLv; rw [if_pos ⟨hst, by omega⟩]
        · unfold xDu xLv; rw [if_neg hl, if_pos (show mStop ρ b v np t k0 (L t) ∧ 0 < k0 from ⟨hst, by omega⟩), ← xB_eq hF hN]
      · have hst : ¬ mStop ρ b v np t k0 (L t) := by
          rintro (h | h | h)
          · exact hk00 h
          · exact hl h
          · exact hz h
        have hF : ∀ p, p < np → (fun _ => false) p = xF ρ b v np t k0 (L t) p := fun p _ => (xF_n _ _ _ _ _ _ _ _ hst).symm
        have hN : ∀ p, p < np → (fun _ => false) p = xN ρ b v np t k0 (L t) p := fun p _ => by
          unfold xN
          rw [show xSt ρ b v np t k0 (L t) = false from decide_eq_false hst]
          rfl
        have hB := xB_eq hF hN
        simp only [Bool.not_false, Bool.and_true, Bool.or_false] at hB
        refine (v_comeC_170_42 X t k0 (C t k0) np (L t) (by omega) ⟨hL2, hL8⟩ hkl hs14 (xA ρ t) (xWi ρ v (C t k0)) (zH ρ v) (zK ρ) (xHR ρ (C t k0)) (fun p => decide (ρ 337 p = 1)) (fun p => decide (0 < ρ 336 p)) (zLA ρ b v t k0 (L t)) (zBA ρ v (C t k0)) (zBT ρ b v t k0) (rCL ρ C nt) (rSV ρ C nt) (fun k => decide ((k : Int) < ρ 323 t ∧ ρ 325 (8 * t + k) = 1)) (fun p => decide ((p : Int) ≤ ρ 323 t ∧ p < L t ∧ ρ 330 (8 * t + p) = 1)) (ρ 324 t) (ρ 303 (6 * b + t)) (ρ 306 (8 * (6 * b + t) + (k0 + 1))) (ρ 299 b) σ d1 d2 d3 np2 hnx hlt hcs (E2 t ht) (hTs _ hs14).2 (hTs _ hs14).1 hH hK (E3 _ hs14) E5a E5b (hLA t k0 ht hkl) E6a E6b (E8 t ht).1 (E8 t ht).2 hdu hse d5 (hBT t k0 ht hk1) haf (by omega) hk1 ((xSt_eq hs).trans (by rw [Bool.not_eq_true] at hz; exact hz))).mono (fun r τ h => ⟨h.1, CM_c h.2 hF hN ?_ ?_ ?_ ?_⟩)
        · intro p hp
          unfold xBW
          rw [decide_eq_true hl, Bool.true_and, ← hB]
        · exact (decide_eq_false hst).symm
        · unfold xLv; rw [if_neg (show ¬ (mStop ρ b v np t k0 (L t) ∧ 0 < k0) from fun h => hst h.1)]
        · unfold xDu xLv; rw [if_neg hl, if_neg (show ¬ (mStop ρ b v np t k0 (L t) ∧ 0 < k0) from fun h => hst h.1), ← hB]
theorem v_come (X : AX) {n l q : Nat} (hl : l = 8 ∨ l = 170) (hq : q = 36 ∨ q = 42) {σ ρ : AH} {b v np nt ns t k : Nat} {L : Nat → Nat} {C : Nat → Nat → Nat} (hD : DR σ ρ l q b v np nt ns L C) (hE : RE n σ ρ b v np nt ns L C) (ht : t < nt) (hk : ρ 323 t = (k : Int)) (hkl : k < L t) : TT X k_X1_come (0, [(2, 198), (0, ((t : Nat) : Int)), (9, 0), (9, 0), (9, 0), (9, 0)], [], σ) (fun r τ => r = none ∧ CX σ τ ρ b v np nt t k (L t) (C t k) C) := by
  rcases hl with rfl | rfl <;> rcases hq with rfl | rfl
  · exact v_come_8_36 X hD hE ht hk hkl
  · exact v_come_8_42 X hD hE ht hk hkl
  · exact v_come_170_36 X hD hE ht hk hkl
  · exact v_come_170_42 X hD hE ht hk hkl
