/-! The class's day beside the reference's: what holds between them at each coming. -/
theorem anyN_iff (f : Nat → Bool) (n : Nat) : anyN f n = true ↔ ∃ p, p < n ∧ f p = true := by
  constructor
  · intro h
    apply Decidable.byContradiction
    intro hn
    have := anyN_f (f := f) (n := n) (fun p hp => by
      cases e : f p with
      | false => rfl
      | true => exact absurd ⟨p, hp, e⟩ hn)
    rw [this] at h; cases h
  · rintro ⟨p, hp, h⟩
    exact anyN_t hp h
/-- what a day of the class stands on -/
def DR (σ ρ : AH) (l q b v np nt ns : Nat) (L : Nat → Nat) (C : Nat → Nat → Nat) : Prop :=
  (σ 198 11 = (l : Int) ∧ σ 198 12 = (q : Int) ∧ σ q 0 = (np : Int) ∧ σ l 2 = (nt : Int) ∧ σ l 3 = ρ 299 b)
  ∧ (np ≤ 10 ∧ nt ≤ 6 ∧ ns ≤ 14 ∧ 0 ≤ ρ 299 b ∧ ρ 299 b ≤ 30)
  ∧ (∀ t, t < nt → σ (l + 7) t = (L t : Int) ∧ 2 ≤ L t ∧ L t ≤ 8 ∧ σ (l + 5) t = ρ 302 (6 * b + t) ∧ 0 ≤ ρ 302 (6 * b + t) ∧ ρ 302 (6 * b + t) ≤ 1439 ∧ σ (l + 6) t = ρ 303 (6 * b + t))
  ∧ (∀ t k : Nat, t < nt → k < L t → σ (l + 9 + t) k = (C t k : Int) ∧ ρ 305 (8 * (6 * b + t) + k) = (C t k : Int) ∧ C t k < ns)
  ∧ (∀ t k : Nat, t < nt → k + 1 < L t → σ (l + 16 + t) (k + 1) = ρ 306 (8 * (6 * b + t) + (k + 1)) ∧ 0 ≤ ρ 306 (8 * (6 * b + t) + (k + 1)) ∧ ρ 306 (8 * (6 * b + t) + (k + 1)) ≤ 99)
  ∧ (∀ s : Nat, s < 14 → σ 200 s = ((bs (fun p => decide (mBA ρ v p (s : Int))) np : Nat) : Int) ∧ σ 201 s = ((bs (fun p => decide (ρ 321 (10 * v + p) = (s : Int))) np : Nat) : Int))
  ∧ (∀ t k : Nat, t < nt → k < L t → σ (210 + t) k = ((bs (fun p => anyN (fun i => decide (k + 1 ≤ i ∧ ρ 305 (8 * (6 * b + t) + i) = ρ 321 (10 * v + p))) (L t)) np : Nat) : Int))
  ∧ (∀ t k : Nat, t < nt → k + 1 < L t → σ (203 + t) (k + 1) = ((bs (fun p => decide (mBB ρ v p (mCall ρ b t k) (mCall ρ b t (k + 1)))) np : Nat) : Int))
  ∧ (σ 198 13 = ((bs (fun p => decide (ρ 322 (10 * v + p) = 1)) np : Nat) : Int) ∧ σ 198 14 = ((bs (fun p => decide ((p : Int) = ρ 295 45)) np : Nat) : Int))
abbrev rCL (ρ : AH) (C : Nat → Nat → Nat) (nt s : Nat) : Bool := anyN (fun t => anyN (fun k => decide ((k : Int) < ρ 323 t ∧ C t k = s)) 8) nt
abbrev rSV (ρ : AH) (C : Nat → Nat → Nat) (nt s : Nat) : Bool := anyN (fun t => anyN (fun k => decide ((k : Int) < ρ 323 t ∧ C t k = s ∧ ρ 325 (8 * t + k) = 1)) 8) nt
/-- behind n comings -/
def RE (n : Nat) (σ ρ : AH) (b v np nt ns : Nat) (L : Nat → Nat) (C : Nat → Nat → Nat) : Prop :=
  (∀ t, t < nt → ∃ k : Nat, k ≤ L t ∧ σ 250 t = (k : Int) ∧ ρ 323 t = (k : Int) ∧ σ 252 t = ρ 324 t ∧ 0 ≤ ρ 324 t ∧ ρ 324 t ≤ 1439 + 159 * (k : Int))
  ∧ (∀ t, t < nt → σ 253 t = ((bs (fun p => decide (ρ 333 p = (t : Int))) np : Nat) : Int))
  ∧ (∀ s : Nat, s < 14 → σ 254 s = ((bs (fun p => decide (ρ 333 p = -1 ∧ ρ 334 p = (s : Int) ∧ ¬ (p : Int) = ρ 295 44)) np : Nat) : Int))
  ∧ (∀ p, p < np → (ρ 333 p = -1 ∨ (¬ (p : Int) = ρ 295 44 ∧ ∃ t : Nat, t < nt ∧ ρ 333 p = (t : Int) ∧ 1 ≤ ρ 323 t ∧ ρ 323 t < (L t : Int))) ∧ (∃ s : Nat, s < ns ∧ ρ 334 p = (s : Int)) ∧ σ 247 p = ρ 334 p ∧ σ 248 p = ρ 335 p ∧ σ 249 p = ρ 336 p ∧ 0 ≤ ρ 336 p ∧ ρ 336 p ≤ (n : Int) ∧ (ρ 337 p = 0 ∨ ρ 337 p = 1))
  ∧ (σ 198 7 = ((bs (fun p => decide (ρ 337 p = 1)) np : Nat) : Int) ∧ σ 198 15 = ((bs (fun p => decide (0 < ρ 336 p)) np : Nat) : Int))
  ∧ (σ 198 16 = ((bs (rCL ρ C nt) 14 : Nat) : Int) ∧ σ 198 17 = ((bs (rSV ρ C nt) 14 : Nat) : Int))
  ∧ (∀ t k : Nat, t < nt → (k : Int) < ρ 323 t → ∃ Cm Of On : Nat → Bool, σ (218 + t) k = ρ 326 (8 * t + k) ∧ σ (225 + t) k = ((bs Cm np : Nat) : Int) ∧ σ (232 + t) k = ((bs Of np : Nat) : Int) ∧ σ (239 + t) k = ((bs On np : Nat) : Int)
      ∧ ρ 327 (8 * t + k) = ((cnt Of np : Nat) : Int) ∧ ρ 332 (8 * t + k) = ((bs Of np : Nat) : Int) ∧ ρ 328 (8 * t + k) = ((cnt On np : Nat) : Int) ∧ ρ 329 (8 * t + k) = ((cnt (fun p => Cm p && !(Of p) || On p) np : Nat) : Int)
      ∧ ρ 331 (8 * t + k) = (if 0 < k ∧ k + 1 < L t then ((bs (fun p => Cm p && decide (mBA ρ v p (C t k : Int))) np : Nat) : Int) else 0) ∧ (ρ 325 (8 * t + k) = 0 ∨ ρ 325 (8 * t + k) = 1))
  ∧ (∀ t, t < nt → σ 245 t = ((bs (fun k => decide ((k : Int) < ρ 323 t ∧ ρ 325 (8 * t + k) = 1)) 8 : Nat) : Int) ∧ σ 246 t = ((bs (fun k => decide ((k : Int) ≤ ρ 323 t ∧ k < L t ∧ ρ 330 (8 * t + k) = 1)) 8 : Nat) : Int))
  ∧ (∀ t k : Nat, t < nt → k < L t → (k : Int) ≤ ρ 323 t → (ρ 330 (8 * t + k) = 0 ∨ ρ 330 (8 * t + k) = 1))
  ∧ (∀ t k : Nat, t < nt → ρ 323 t = ((k + 1 : Nat) : Int) → σ 251 t = aAdd (ρ 326 (8 * t + k)) (if ρ 325 (8 * t + k) = 1 ∧ 0 < k then ρ 299 b else 0))
abbrev xWi (ρ : AH) (v s : Nat) : Nat → Bool := fun p => decide (ρ 321 (10 * v + p) = (s : Int))
abbrev xA (ρ : AH) (t : Nat) : Nat → Bool := fun p => decide (ρ 333 p = (t : Int))
abbrev xHR (ρ : AH) (s : Nat) : Nat → Bool := fun p => decide (ρ 333 p = -1 ∧ ρ 334 p = (s : Int) ∧ ¬ (p : Int) = ρ 295 44)
abbrev xLv (ρ : AH) (b v np t k lt : Nat) : Int := aAdd (ρ 324 t) (if mStop ρ b v np t k lt ∧ 0 < k then ρ 299 b else 0)
abbrev xDu (ρ : AH) (b v np t k lt : Nat) : Int := if k + 1 = lt then ρ 324 t else aAdd (aAdd (xLv ρ b v np t k lt) (ρ 306 (8 * (6 * b + t) + (k + 1)))) (if mBtC ρ b v np t k lt = true then ρ 299 b else 0)
abbrev xBW (ρ : AH) (b v np t k lt : Nat) : Nat → Bool := fun p => decide ((p : Int) ≤ ρ 323 t ∧ p < lt ∧ ρ 330 (8 * t + p) = 1) || ((decide (¬ k + 1 = lt) && mBtC ρ b v np t k lt) && decide (p = k + 1))
/-- a coming, told by the reference -/
def CX (σ τ ρ : AH) (b v np nt t k lt s : Nat) (C : Nat → Nat → Nat) : Prop :=
  CM σ τ t k s np (xF ρ b v np t k lt) (xN ρ b v np t k lt) (xA ρ t) (xWi ρ v s) (xHR ρ s) (fun p => decide (ρ 337 p = 1)) (fun p => decide (0 < ρ 336 p)) (rCL ρ C nt) (rSV ρ C nt) (fun k => decide ((k : Int) < ρ 323 t ∧ ρ 325 (8 * t + k) = 1)) (xBW ρ b v np t k lt) (xSt ρ b v np t k lt) (ρ 324 t) (xLv ρ b v np t k lt) (xDu ρ b v np t k lt)
theorem CM_c {σ τ : AH} {t k s np : Nat} {F N F' N' A Wi HR AR RI CL SV ST BW BW' : Nat → Bool} {sp sp' : Bool} {du lv du' lv' du'' : Int} (h : CM σ τ t k s np F N A Wi HR AR RI CL SV ST BW sp du lv du') (hF : ∀ p, p < np → F p = F' p) (hN : ∀ p, p < np → N p = N' p) (hB : ∀ p, p < 8 → BW p = BW' p) (hs : sp = sp') (h1 : lv = lv') (h2 : du' = du'') : CM σ τ t k s np F' N' A Wi HR AR RI CL SV ST BW' sp' du lv' du'' := by
  subst hs
  subst h1
  subst h2
  obtain ⟨⟨a1, a2, a3, a4, a5, a6, a7⟩, ⟨b1, b2, b3⟩, ⟨c1, c2, c3, c4⟩, ⟨d1, d2, d3, d4⟩, e1, e2⟩ := h
  refine ⟨⟨a1, a2, a3, ?_, ?_, a6, ?_⟩, ⟨?_, ?_, ?_⟩, ⟨?_, ?_, c3, c4⟩, ⟨d1, d2, ?_, ?_⟩, e1, e2⟩
  · intro j; rw [a4]; rw [bs_c (n := np) (fun p hp => by rw [hF p hp, hN p hp])]
  · intro j; rw [a5]; rw [bs_c (n := np) (fun p hp => by rw [hF p hp, hN p hp])]
  · intro j; rw [a7]; rw [bs_c (n := 8) hB]
  · intro j hj; rw [b1 j hj, hF j hj]
  · intro j hj; rw [b2 j hj, hF j hj]
  · intro j hj; rw [b3 j hj, hN j hj]
  · rw [c1]; rw [bs_c (n := np) (fun p hp => by rw [hF p hp])]
  · rw [c2]; rw [bs_c (n := np) (fun p hp => by rw [hN p hp])]
  · intro t' j ht'; rw [d3 t' j ht', bs_c (n := np) hF]
  · intro t' j ht'; rw [d4 t' j ht', bs_c (n := np) hN]
theorem grc_c {W W' : Nat → Bool} {f : Int} {n : Nat} (h : ∀ p, p < n → W p = W' p) : grc W f n = grc W' f n := by
  induction n with
  | zero => rfl
  | succ n ih => rw [grc, grc, ih (fun p hp => h p (by omega)), h n (by omega)]
theorem grS_c {W W' : Nat → Bool} {f : Int} {n p : Nat} (hp : p < n) (h : ∀ p, p < n → W p = W' p) : grS W f p = grS W' f p := by
  unfold grS
  rw [grc_c (fun q hq => h q (by omega)), h p hp]
theorem xF_at {ρ : AH} {b v np t k lt p : Nat} (h : xF ρ b v np t k lt p = true) : ρ 333 p = (t : Int) := by
  unfold xF at h
  simp only [Bool.and_eq_true, decide_eq_true_eq] at h
  exact h.2.1
theorem xN_at {ρ : AH} {b v np t k lt p : Nat} (hp : p < np) (h : xN ρ b v np t k lt p = true) : (xF ρ b v np t k lt p = true ∨ ρ 333 p = -1 ∧ ρ 334 p = ρ 305 (8 * (6 * b + t) + k)) ∧ ¬ (p : Int) = ρ 295 44 ∧ ¬ k + 1 = lt := by
  unfold xN grS at h
  simp only [Bool.and_eq_true, decide_eq_true_eq] at h
  obtain ⟨⟨h1, h2⟩, h3, h4⟩ := h
  obtain ⟨g1, g2, g3, g4⟩ := h3
  obtain ⟨e1, e2, -, -⟩ := mH3_p ρ b v np t k lt p hp
  rw [mH3_fr _ _ _ _ _ _ _ _ _ (by decide), mH2_fr _ _ _ _ _ _ _ _ _ (by decide)] at g1
  rw [e1] at g2
  rw [e2, mH3_fr _ _ _ _ _ _ _ _ _ (by decide), mH2_fr _ _ _ _ _ _ _ _ _ (by decide)] at g3
  refine ⟨?_, g1, h2⟩
  cases e : xF ρ b v np t k lt p with
  | true => exact Or.inl rfl
  | false =>
    rw [e] at g2 g3
    simp at g2 g3
    exact Or.inr ⟨g2, g3⟩
theorem RE_nx {n : Nat} {σ τ ρ : AH} {l q b v np nt ns t0 k0 : Nat} {L : Nat → Nat} {C : Nat → Nat → Nat} (hD : DR σ ρ l q b v np nt ns L C) (hE : RE n σ ρ b v np nt ns L C) (hn : n ≤ 1000) (ht : t0 < nt) (hk : ρ 323 t0 = (k0 : Int)) (hkl : k0 < L t0) (hC : CX σ τ ρ b v np nt t0 k0 (L t0) (C t0 k0) C) : ∀ t, t < nt → ∃ k : Nat, k ≤ L t ∧ τ 250 t = (k : Int) ∧ (mHap ρ b v np t0 k0 (L t0)) 323 t = (k : Int) ∧ τ 252 t = (mHap ρ b v np t0 k0 (L t0)) 324 t ∧ 0 ≤ (mHap ρ b v np t0 k0 (L t0)) 324 t ∧ (mHap ρ b v np t0 k0 (L t0)) 324 t ≤ 1439 + 159 * (k : Int) := by
  revert t0 k0
  intro t k ht hk hkl hC
  obtain ⟨-, ⟨np2, nt2, ns2, st0, st1⟩, hTr, hCa, hAf, -, -, -, -⟩ := hD
  obtain ⟨E1, E2, E3, E4, ⟨E5a, E5b⟩, ⟨E6a, E6b⟩, E7, E8, E9, E10⟩ := hE
  obtain ⟨⟨a1, a2, a3, a4, a5, a6, a7⟩, ⟨b1, b2, b3⟩, ⟨c1, c2, c3, c4⟩, ⟨d1, d2, d3, d4⟩, e1, e2⟩ := hC
  obtain ⟨-, hL2, hL8, -, -, -, -⟩ := hTr t ht
  obtain ⟨-, hs, hsn⟩ := hCa t k ht hkl
  have M23 := mHap_nx ρ b v np t k (L t)
  have Mp := fun p hp => mHap_p ρ b v np t k (L t) p hp
  have Me := fun j => mHap_e ρ b v np t k (L t) j np2
  have Mt := fun j => mHap_t ρ b v np t k (L t) j
  have M295 : ∀ j, mHap ρ b v np t k (L t) 295 j = ρ 295 j := fun j => mHap_fr _ _ _ _ _ _ _ _ _ (by decide)
  have M299 : ∀ j, mHap ρ b v np t k (L t) 299 j = ρ 299 j := fun j => mHap_fr _ _ _ _ _ _ _ _ _ (by decide)
  have M318 : ∀ j, mHap ρ b v np t k (L t) 318 j = ρ 318 j := fun j => mHap_fr _ _ _ _ _ _ _ _ _ (by decide)
  have M319 : ∀ j, mHap ρ b v np t k (L t) 319 j = ρ 319 j := fun j => mHap_fr _ _ _ _ _ _ _ _ _ (by decide)
  have hA : ∀ t' k', t' < nt → k' < 8 → (8 * t' + k' = 8 * t + k ↔ t' = t ∧ k' = k) := by omega
  intro t' ht'
  obtain ⟨k', h1, h2, h3, h4, h5, h6⟩ := E1 t' ht'
  by_cases e : t' = t
  · subst e
    have hkk : k' = k := by omega
    subst hkk
    refine ⟨k' + 1, by omega, by rw [a1, if_pos rfl], by rw [M23, if_pos rfl], ?_, ?_⟩
    · rw [a3, if_pos rfl, (Mt _).1]
      unfold xDu xLv mBy
      by_cases hl : k' + 1 = L t'
      · simp [hl]
      · obtain ⟨-, f1, f2⟩ := hAf t' k' ht' (by omega)
        simp only [hl, if_false, not_false_eq_true, and_self, if_true]
        have g1 : ∃ x : Int, (if mStop ρ b v np t' k' (L t') ∧ 0 < k' then ρ 299 b else 0) = x ∧ 0 ≤ x ∧ x ≤ 30 := ⟨_, rfl, by split <;> omega, by split <;> omega⟩
        have g2 : ∃ x : Int, (if mBtC ρ b v np t' k' (L t') = true then ρ 299 b else 0) = x ∧ 0 ≤ x ∧ x ≤ 30 := ⟨_, rfl, by split <;> omega, by split <;> omega⟩
        obtain ⟨x, gx, x0, x1⟩ := g1
        obtain ⟨y, gy, y0, y1⟩ := g2
        rw [gx, gy]
        rw [aAdd_of (x := ρ 324 t') (y := x) (by omega) (by omega), aAdd_of (y := ρ 306 (8 * (6 * b + t') + (k' + 1))) (by omega) (by omega), aAdd_of (y := y) (by omega) (by omega), aAdd_of (x := ρ 306 (8 * (6 * b + t') + (k' + 1))) (y := x) (by omega) (by omega), aAdd_of (y := y) (by omega) (by omega), aAdd_of (by omega) (by omega)]
        omega
    · rw [(Mt _).1]
      unfold mBy
      by_cases hl : k' + 1 = L t'
      · simp only [hl, not_true, false_and, if_false]
        omega
      · obtain ⟨-, f1, f2⟩ := hAf t' k' ht' (by omega)
        simp only [hl, not_false_eq_true, and_self, if_true]
        have g1 : ∃ x : Int, (if mStop ρ b v np t' k' (L t') ∧ 0 < k' then ρ 299 b else 0) = x ∧ 0 ≤ x ∧ x ≤ 30 := ⟨_, rfl, by split <;> omega, by split <;> omega⟩
        have g2 : ∃ x : Int, (if mBtC ρ b v np t' k' (L t') = true then ρ 299 b else 0) = x ∧ 0 ≤ x ∧ x ≤ 30 := ⟨_, rfl, by split <;> omega, by split <;> omega⟩
        obtain ⟨x, gx, x0, x1⟩ := g1
        obtain ⟨y, gy, y0, y1⟩ := g2
        rw [gx, gy]
        rw [aAdd_of (x := ρ 306 (8 * (6 * b + t') + (k' + 1))) (y := x) (by omega) (by omega), aAdd_of (y := y) (by omega) (by omega), aAdd_of (by omega) (by omega)]
        omega
  · refine ⟨k', h1, by rw [a1, if_neg e]; exact h2, by rw [M23, if_neg e]; exact h3, ?_, ?_⟩
    · rw [a3, if_neg e, (Mt _).1, if_neg (by omega)]; exact h4
    · rw [(Mt _).1, if_neg (by omega)]; exact ⟨h5, h6⟩
theorem RE_ab {n : Nat} {σ τ ρ : AH} {l q b v np nt ns t0 k0 : Nat} {L : Nat → Nat} {C : Nat → Nat → Nat} (hD : DR σ ρ l q b v np nt ns L C) (hE : RE n σ ρ b v np nt ns L C) (hn : n ≤ 1000) (ht : t0 < nt) (hk : ρ 323 t0 = (k0 : Int)) (hkl : k0 < L t0) (hC : CX σ τ ρ b v np nt t0 k0 (L t0) (C t0 k0) C) : ∀ t, t < nt → τ 253 t = ((bs (fun p => decide ((mHap ρ b v np t0 k0 (L t0)) 333 p = (t : Int))) np : Nat) : Int) := by
  revert t0 k0
  intro t k ht hk hkl hC
  obtain ⟨-, ⟨np2, nt2, ns2, st0, st1⟩, hTr, hCa, hAf, -, -, -, -⟩ := hD
  obtain ⟨E1, E2, E3, E4, ⟨E5a, E5b⟩, ⟨E6a, E6b⟩, E7, E8, E9, E10⟩ := hE
  obtain ⟨⟨a1, a2, a3, a4, a5, a6, a7⟩, ⟨b1, b2, b3⟩, ⟨c1, c2, c3, c4⟩, ⟨d1, d2, d3, d4⟩, e1, e2⟩ := hC
  obtain ⟨-, hL2, hL8, -, -, -, -⟩ := hTr t ht
  obtain ⟨-, hs, hsn⟩ := hCa t k ht hkl
  have M23 := mHap_nx ρ b v np t k (L t)
  have Mp := fun p hp => mHap_p ρ b v np t k (L t) p hp
  have Me := fun j => mHap_e ρ b v np t k (L t) j np2
  have Mt := fun j => mHap_t ρ b v np t k (L t) j
  have M295 : ∀ j, mHap ρ b v np t k (L t) 295 j = ρ 295 j := fun j => mHap_fr _ _ _ _ _ _ _ _ _ (by decide)
  have M299 : ∀ j, mHap ρ b v np t k (L t) 299 j = ρ 299 j := fun j => mHap_fr _ _ _ _ _ _ _ _ _ (by decide)
  have M318 : ∀ j, mHap ρ b v np t k (L t) 318 j = ρ 318 j := fun j => mHap_fr _ _ _ _ _ _ _ _ _ (by decide)
  have M319 : ∀ j, mHap ρ b v np t k (L t) 319 j = ρ 319 j := fun j => mHap_fr _ _ _ _ _ _ _ _ _ (by decide)
  have hA : ∀ t' k', t' < nt → k' < 8 → (8 * t' + k' = 8 * t + k ↔ t' = t ∧ k' = k) := by omega
  intro t' ht'
  rw [a4]
  by_cases e : t' = t
  · subst e
    rw [if_pos rfl]
    refine congrArg (fun x : Nat => (x : Int)) (bs_c ?_)
    intro p hp
    rw [(Mp p hp).1]
    cases hN : xN ρ b v np t' k (L t') p with
    | true => simp
    | false =>
      cases hF : xF ρ b v np t' k (L t') p with
      | true => first | (simp; done) | (simp; omega)
      | false => simp [xA]
  · rw [if_neg e, E2 t' ht']
    refine congrArg (fun x : Nat => (x : Int)) (bs_c ?_)
    intro p hp
    rw [(Mp p hp).1]
    cases hN : xN ρ b v np t k (L t) p with
    | true =>
      simp
      rcases (xN_at hp hN).1 with h | h
      · have := xF_at h; omega
      · omega
    | false =>
      cases hF : xF ρ b v np t k (L t) p with
      | true => have := xF_at hF; simp; omega
      | false => simp
theorem RE_he {n : Nat} {σ τ ρ : AH} {l q b v np nt ns t0 k0 : Nat} {L : Nat → Nat} {C : Nat → Nat → Nat} (hD : DR σ ρ l q b v np nt ns L C) (hE : RE n σ ρ b v np nt ns L C) (hn : n ≤ 1000) (ht : t0 < nt) (hk : ρ 323 t0 = (k0 : Int)) (hkl : k0 < L t0) (hC : CX σ τ ρ b v np nt t0 k0 (L t0) (C t0 k0) C) : ∀ s : Nat, s < 14 → τ 254 s = ((bs (fun p => decide ((mHap ρ b v np t0 k0 (L t0)) 333 p = -1 ∧ (mHap ρ b v np t0 k0 (L t0)) 334 p = (s : Int) ∧ ¬ (p : Int) = (mHap ρ b v np t0 k0 (L t0)) 295 44)) np : Nat) : Int) := by
  revert t0 k0
  intro t k ht hk hkl hC
  obtain ⟨-, ⟨np2, nt2, ns2, st0, st1⟩, hTr, hCa, hAf, -, -, -, -⟩ := hD
  obtain ⟨E1, E2, E3, E4, ⟨E5a, E5b⟩, ⟨E6a, E6b⟩, E7, E8, E9, E10⟩ := hE
  obtain ⟨⟨a1, a2, a3, a4, a5, a6, a7⟩, ⟨b1, b2, b3⟩, ⟨c1, c2, c3, c4⟩, ⟨d1, d2, d3, d4⟩, e1, e2⟩ := hC
  obtain ⟨-, hL2, hL8, -, -, -, -⟩ := hTr t ht
  obtain ⟨-, hs, hsn⟩ := hCa t k ht hkl
  have M23 := mHap_nx ρ b v np t k (L t)
  have Mp := fun p hp => mHap_p ρ b v np t k (L t) p hp
  have Me := fun j => mHap_e ρ b v np t k (L t) j np2
  have Mt := fun j => mHap_t ρ b v np t k (L t) j
  have M295 : ∀ j, mHap ρ b v np t k (L t) 295 j = ρ 295 j := fun j => mHap_fr _ _ _ _ _ _ _ _ _ (by decide)
  have M299 : ∀ j, mHap ρ b v np t k (L t) 299 j = ρ 299 j := fun j => mHap_fr _ _ _ _ _ _ _ _ _ (by decide)
  have M318 : ∀ j, mHap ρ b v np t k (L t) 318 j = ρ 318 j := fun j => mHap_fr _ _ _ _ _ _ _ _ _ (by decide)
  have M319 : ∀ j, mHap ρ b v np t k (L t) 319 j = ρ 319 j := fun j => mHap_fr _ _ _ _ _ _ _ _ _ (by decide)
  have hA : ∀ t' k', t' < nt → k' < 8 → (8 * t' + k' = 8 * t + k ↔ t' = t ∧ k' = k) := by omega
  intro s' hs'
  rw [a5]
  by_cases e : s' = C t k
  · subst e
    rw [if_pos rfl]
    refine congrArg (fun x : Nat => (x : Int)) (bs_c ?_)
    intro p hp
    rw [(Mp p hp).1, (Mp p hp).2.1, M295]
    cases hN : xN ρ b v np t k (L t) p with
    | true => first | (simp; done) | (simp; omega)
    | false =>
      cases hF : xF ρ b v np t k (L t) p with
      | true =>
        have h0 := xF_at hF
        have h1 := (E4 p hp).1
        simp [hs]
        rcases h1 with h1 | h1
        · omega
        · exact h1.1
      | false => simp [xHR]
  · rw [if_neg e, E3 s' hs']
    refine congrArg (fun x : Nat => (x : Int)) (bs_c ?_)
    intro p hp
    rw [(Mp p hp).1, (Mp p hp).2.1, M295]
    cases hN : xN ρ b v np t k (L t) p with
    | true =>
      simp
      rcases (xN_at hp hN).1 with h | h
      · have := xF_at h; omega
      · rw [hs] at h; omega
    | false =>
      cases hF : xF ρ b v np t k (L t) p with
      | true =>
        have h0 := xF_at hF
        simp only [if_true, Bool.false_eq_true, if_false, hs]
        rw [decide_eq_false (by omega), decide_eq_false (by omega)]
      | false => simp
theorem RE_pe {n : Nat} {σ τ ρ : AH} {l q b v np nt ns t0 k0 : Nat} {L : Nat → Nat} {C : Nat → Nat → Nat} (hD : DR σ ρ l q b v np nt ns L C) (hE : RE n σ ρ b v np nt ns L C) (hn : n ≤ 1000) (ht : t0 < nt) (hk : ρ 323 t0 = (k0 : Int)) (hkl : k0 < L t0) (hC : CX σ τ ρ b v np nt t0 k0 (L t0) (C t0 k0) C) : ∀ p, p < np → ((mHap ρ b v np t0 k0 (L t0)) 333 p = -1 ∨ (¬ (p : Int) = (mHap ρ b v np t0 k0 (L t0)) 295 44 ∧ ∃ t : Nat, t < nt ∧ (mHap ρ b v np t0 k0 (L t0)) 333 p = (t : Int) ∧ 1 ≤ (mHap ρ b v np t0 k0 (L t0)) 323 t ∧ (mHap ρ b v np t0 k0 (L t0)) 323 t < (L t : Int))) ∧ (∃ s : Nat, s < ns ∧ (mHap ρ b v np t0 k0 (L t0)) 334 p = (s : Int)) ∧ τ 247 p = (mHap ρ b v np t0 k0 (L t0)) 334 p ∧ τ 248 p = (mHap ρ b v np t0 k0 (L t0)) 335 p ∧ τ 249 p = (mHap ρ b v np t0 k0 (L t0)) 336 p ∧ 0 ≤ (mHap ρ b v np t0 k0 (L t0)) 336 p ∧ (mHap ρ b v np t0 k0 (L t0)) 336 p ≤ ((n + 1 : Nat) : Int) ∧ ((mHap ρ b v np t0 k0 (L t0)) 337 p = 0 ∨ (mHap ρ b v np t0 k0 (L t0)) 337 p = 1) := by
  revert t0 k0
  intro t k ht hk hkl hC
  obtain ⟨-, ⟨np2, nt2, ns2, st0, st1⟩, hTr, hCa, hAf, -, -, -, -⟩ := hD
  obtain ⟨E1, E2, E3, E4, ⟨E5a, E5b⟩, ⟨E6a, E6b⟩, E7, E8, E9, E10⟩ := hE
  obtain ⟨⟨a1, a2, a3, a4, a5, a6, a7⟩, ⟨b1, b2, b3⟩, ⟨c1, c2, c3, c4⟩, ⟨d1, d2, d3, d4⟩, e1, e2⟩ := hC
  obtain ⟨-, hL2, hL8, -, -, -, -⟩ := hTr t ht
  obtain ⟨-, hs, hsn⟩ := hCa t k ht hkl
  have M23 := mHap_nx ρ b v np t k (L t)
  have Mp := fun p hp => mHap_p ρ b v np t k (L t) p hp
  have Me := fun j => mHap_e ρ b v np t k (L t) j np2
  have Mt := fun j => mHap_t ρ b v np t k (L t) j
  have M295 : ∀ j, mHap ρ b v np t k (L t) 295 j = ρ 295 j := fun j => mHap_fr _ _ _ _ _ _ _ _ _ (by decide)
  have M299 : ∀ j, mHap ρ b v np t k (L t) 299 j = ρ 299 j := fun j => mHap_fr _ _ _ _ _ _ _ _ _ (by decide)
  have M318 : ∀ j, mHap ρ b v np t k (L t) 318 j = ρ 318 j := fun j => mHap_fr _ _ _ _ _ _ _ _ _ (by decide)
  have M319 : ∀ j, mHap ρ b v np t k (L t) 319 j = ρ 319 j := fun j => mHap_fr _ _ _ _ _ _ _ _ _ (by decide)
  have hA : ∀ t' k', t' < nt → k' < 8 → (8 * t' + k' = 8 * t + k ↔ t' = t ∧ k' = k) := by omega
  intro p hp
  obtain ⟨g1, ⟨s0, g2, g2'⟩, g3, g4, g5, g6, g7, g8⟩ := E4 p hp
  obtain ⟨m1, m2, m3, m4, m5⟩ := Mp p hp
  refine ⟨?_, ?_, ?_, ?_, ?_, ?_, ?_, ?_⟩
  · rw [m1, M295]
    cases hN : xN ρ b v np t k (L t) p with
    | true =>
      have := xN_at hp hN
      refine Or.inr ⟨this.2.1, t, ht, by simp, ?_, ?_⟩
      · rw [M23, if_pos rfl]; omega
      · rw [M23, if_pos rfl]; omega
    | false =>
      cases hF : xF ρ b v np t k (L t) p with
      | true => exact Or.inl (by simp)
      | false =>
        simp only [Bool.false_eq_true, if_false]
        rcases g1 with g1 | ⟨g1, t', h1, h2, h3, h4⟩
        · exact Or.inl g1
        · refine Or.inr ⟨g1, t', h1, h2, ?_⟩
          by_cases e : t' = t
          · subst e
            rw [M23, if_pos rfl]
            by_cases hl : k + 1 = L t'
            · exfalso
              have : xF ρ b v np t' k (L t') p = true := (xF_t _ _ _ _ _ _ _ _ (Or.inr (Or.inl hl))).mpr ⟨h2, Or.inl hl⟩
              rw [hF] at this; cases this
            · omega
          · rw [M23, if_neg e]; exact ⟨h3, h4⟩
  · rw [m2]
    split
    · exact ⟨C t k, hsn, hs⟩
    · exact ⟨s0, g2, g2'⟩
  · rw [b1 p hp, m2, g3, hs]
  · rw [b2 p hp, m3, g4]
  · rw [b3 p hp, m4, g5]
  · rw [m4]
    split
    · rw [aAdd_of (by omega) (by omega)]; omega
    · exact g6
  · rw [m4]
    split
    · rw [aAdd_of (by omega) (by omega)]; omega
    · omega
  · rw [m5]
    split
    · exact Or.inr rfl
    · exact g8
theorem RE_ar {n : Nat} {σ τ ρ : AH} {l q b v np nt ns t0 k0 : Nat} {L : Nat → Nat} {C : Nat → Nat → Nat} (hD : DR σ ρ l q b v np nt ns L C) (hE : RE n σ ρ b v np nt ns L C) (hn : n ≤ 1000) (ht : t0 < nt) (hk : ρ 323 t0 = (k0 : Int)) (hkl : k0 < L t0) (hC : CX σ τ ρ b v np nt t0 k0 (L t0) (C t0 k0) C) : τ 198 7 = ((bs (fun p => decide ((mHap ρ b v np t0 k0 (L t0)) 337 p = 1)) np : Nat) : Int) := by
  revert t0 k0
  intro t k ht hk hkl hC
  obtain ⟨-, ⟨np2, nt2, ns2, st0, st1⟩, hTr, hCa, hAf, -, -, -, -⟩ := hD
  obtain ⟨E1, E2, E3, E4, ⟨E5a, E5b⟩, ⟨E6a, E6b⟩, E7, E8, E9, E10⟩ := hE
  obtain ⟨⟨a1, a2, a3, a4, a5, a6, a7⟩, ⟨b1, b2, b3⟩, ⟨c1, c2, c3, c4⟩, ⟨d1, d2, d3, d4⟩, e1, e2⟩ := hC
  obtain ⟨-, hL2, hL8, -, -, -, -⟩ := hTr t ht
  obtain ⟨-, hs, hsn⟩ := hCa t k ht hkl
  have M23 := mHap_nx ρ b v np t k (L t)
  have Mp := fun p hp => mHap_p ρ b v np t k (L t) p hp
  have Me := fun j => mHap_e ρ b v np t k (L t) j np2
  have Mt := fun j => mHap_t ρ b v np t k (L t) j
  have M295 : ∀ j, mHap ρ b v np t k (L t) 295 j = ρ 295 j := fun j => mHap_fr _ _ _ _ _ _ _ _ _ (by decide)
  have M299 : ∀ j, mHap ρ b v np t k (L t) 299 j = ρ 299 j := fun j => mHap_fr _ _ _ _ _ _ _ _ _ (by decide)
  have M318 : ∀ j, mHap ρ b v np t k (L t) 318 j = ρ 318 j := fun j => mHap_fr _ _ _ _ _ _ _ _ _ (by decide)
  have M319 : ∀ j, mHap ρ b v np t k (L t) 319 j = ρ 319 j := fun j => mHap_fr _ _ _ _ _ _ _ _ _ (by decide)
  have hA : ∀ t' k', t' < nt → k' < 8 → (8 * t' + k' = 8 * t + k ↔ t' = t ∧ k' = k) := by omega
  rw [c1]
  refine congrArg (fun x : Nat => (x : Int)) (bs_c ?_)
  intro p hp
  rw [(Mp p hp).2.2.2.2, hs]
  rcases (E4 p hp).2.2.2.2.2.2.2 with h | h
  · cases hF : xF ρ b v np t k (L t) p with
    | true => by_cases e : ρ 321 (10 * v + p) = (C t k : Int) <;> simp [h, e]
    | false => simp [h]
  · cases hF : xF ρ b v np t k (L t) p with
    | true => by_cases e : ρ 321 (10 * v + p) = (C t k : Int) <;> simp [h, e]
    | false => simp [h]
theorem RE_ri {n : Nat} {σ τ ρ : AH} {l q b v np nt ns t0 k0 : Nat} {L : Nat → Nat} {C : Nat → Nat → Nat} (hD : DR σ ρ l q b v np nt ns L C) (hE : RE n σ ρ b v np nt ns L C) (hn : n ≤ 1000) (ht : t0 < nt) (hk : ρ 323 t0 = (k0 : Int)) (hkl : k0 < L t0) (hC : CX σ τ ρ b v np nt t0 k0 (L t0) (C t0 k0) C) : τ 198 15 = ((bs (fun p => decide (0 < (mHap ρ b v np t0 k0 (L t0)) 336 p)) np : Nat) : Int) := by
  revert t0 k0
  intro t k ht hk hkl hC
  obtain ⟨-, ⟨np2, nt2, ns2, st0, st1⟩, hTr, hCa, hAf, -, -, -, -⟩ := hD
  obtain ⟨E1, E2, E3, E4, ⟨E5a, E5b⟩, ⟨E6a, E6b⟩, E7, E8, E9, E10⟩ := hE
  obtain ⟨⟨a1, a2, a3, a4, a5, a6, a7⟩, ⟨b1, b2, b3⟩, ⟨c1, c2, c3, c4⟩, ⟨d1, d2, d3, d4⟩, e1, e2⟩ := hC
  obtain ⟨-, hL2, hL8, -, -, -, -⟩ := hTr t ht
  obtain ⟨-, hs, hsn⟩ := hCa t k ht hkl
  have M23 := mHap_nx ρ b v np t k (L t)
  have Mp := fun p hp => mHap_p ρ b v np t k (L t) p hp
  have Me := fun j => mHap_e ρ b v np t k (L t) j np2
  have Mt := fun j => mHap_t ρ b v np t k (L t) j
  have M295 : ∀ j, mHap ρ b v np t k (L t) 295 j = ρ 295 j := fun j => mHap_fr _ _ _ _ _ _ _ _ _ (by decide)
  have M299 : ∀ j, mHap ρ b v np t k (L t) 299 j = ρ 299 j := fun j => mHap_fr _ _ _ _ _ _ _ _ _ (by decide)
  have M318 : ∀ j, mHap ρ b v np t k (L t) 318 j = ρ 318 j := fun j => mHap_fr _ _ _ _ _ _ _ _ _ (by decide)
  have M319 : ∀ j, mHap ρ b v np t k (L t) 319 j = ρ 319 j := fun j => mHap_fr _ _ _ _ _ _ _ _ _ (by decide)
  have hA : ∀ t' k', t' < nt → k' < 8 → (8 * t' + k' = 8 * t + k ↔ t' = t ∧ k' = k) := by omega
  rw [c2]
  refine congrArg (fun x : Nat => (x : Int)) (bs_c ?_)
  intro p hp
  obtain ⟨-, -, -, -, -, g6, g7, -⟩ := E4 p hp
  rw [(Mp p hp).2.2.2.1]
  cases hN : xN ρ b v np t k (L t) p with
  | true => simp; rw [aAdd_of (by omega) (by omega)]; omega
  | false => simp
theorem RE_cl {n : Nat} {σ τ ρ : AH} {l q b v np nt ns t0 k0 : Nat} {L : Nat → Nat} {C : Nat → Nat → Nat} (hD : DR σ ρ l q b v np nt ns L C) (hE : RE n σ ρ b v np nt ns L C) (hn : n ≤ 1000) (ht : t0 < nt) (hk : ρ 323 t0 = (k0 : Int)) (hkl : k0 < L t0) (hC : CX σ τ ρ b v np nt t0 k0 (L t0) (C t0 k0) C) : τ 198 16 = ((bs (rCL (mHap ρ b v np t0 k0 (L t0)) C nt) 14 : Nat) : Int) := by
  revert t0 k0
  intro t k ht hk hkl hC
  obtain ⟨-, ⟨np2, nt2, ns2, st0, st1⟩, hTr, hCa, hAf, -, -, -, -⟩ := hD
  obtain ⟨E1, E2, E3, E4, ⟨E5a, E5b⟩, ⟨E6a, E6b⟩, E7, E8, E9, E10⟩ := hE
  obtain ⟨⟨a1, a2, a3, a4, a5, a6, a7⟩, ⟨b1, b2, b3⟩, ⟨c1, c2, c3, c4⟩, ⟨d1, d2, d3, d4⟩, e1, e2⟩ := hC
  obtain ⟨-, hL2, hL8, -, -, -, -⟩ := hTr t ht
  obtain ⟨-, hs, hsn⟩ := hCa t k ht hkl
  have M23 := mHap_nx ρ b v np t k (L t)
  have Mp := fun p hp => mHap_p ρ b v np t k (L t) p hp
  have Me := fun j => mHap_e ρ b v np t k (L t) j np2
  have Mt := fun j => mHap_t ρ b v np t k (L t) j
  have M295 : ∀ j, mHap ρ b v np t k (L t) 295 j = ρ 295 j := fun j => mHap_fr _ _ _ _ _ _ _ _ _ (by decide)
  have M299 : ∀ j, mHap ρ b v np t k (L t) 299 j = ρ 299 j := fun j => mHap_fr _ _ _ _ _ _ _ _ _ (by decide)
  have M318 : ∀ j, mHap ρ b v np t k (L t) 318 j = ρ 318 j := fun j => mHap_fr _ _ _ _ _ _ _ _ _ (by decide)
  have M319 : ∀ j, mHap ρ b v np t k (L t) 319 j = ρ 319 j := fun j => mHap_fr _ _ _ _ _ _ _ _ _ (by decide)
  have hA : ∀ t' k', t' < nt → k' < 8 → (8 * t' + k' = 8 * t + k ↔ t' = t ∧ k' = k) := by omega
  rw [c3]
  refine congrArg (fun x : Nat => (x : Int)) (bs_c ?_)
  intro s' _
  rw [Bool.eq_iff_iff, Bool.or_eq_true, anyN_iff, anyN_iff, decide_eq_true_iff]
  constructor
  · rintro (⟨t', h1, h2⟩ | h2)
    · obtain ⟨k', h3, h4⟩ := (anyN_iff _ _).mp h2
      simp only [decide_eq_true_eq] at h4
      refine ⟨t', h1, (anyN_iff _ _).mpr ⟨k', h3, ?_⟩⟩
      simp only [decide_eq_true_eq]
      rw [M23]
      split
      · rename_i e; subst e; exact ⟨by omega, h4.2⟩
      · exact h4
    · refine ⟨t, ht, (anyN_iff _ _).mpr ⟨k, by omega, ?_⟩⟩
      simp only [decide_eq_true_eq]
      rw [M23, if_pos rfl]
      exact ⟨by omega, h2.symm⟩
  · rintro ⟨t', h1, h2⟩
    obtain ⟨k', h3, h4⟩ := (anyN_iff _ _).mp h2
    simp only [decide_eq_true_eq] at h4
    rw [M23] at h4
    by_cases e : t' = t
    · subst e
      rw [if_pos rfl] at h4
      by_cases e2 : k' = k
      · subst e2; exact Or.inr h4.2.symm
      · refine Or.inl ⟨t', h1, (anyN_iff _ _).mpr ⟨k', h3, ?_⟩⟩
        simp only [decide_eq_true_eq]
        exact ⟨by omega, h4.2⟩
    · rw [if_neg e] at h4
      refine Or.inl ⟨t', h1, (anyN_iff _ _).mpr ⟨k', h3, ?_⟩⟩
      simp only [decide_eq_true_eq]
      exact h4
theorem RE_sv {n : Nat} {σ τ ρ : AH} {l q b v np nt ns t0 k0 : Nat} {L : Nat → Nat} {C : Nat → Nat → Nat} (hD : DR σ ρ l q b v np nt ns L C) (hE : RE n σ ρ b v np nt ns L C) (hn : n ≤ 1000) (ht : t0 < nt) (hk : ρ 323 t0 = (k0 : Int)) (hkl : k0 < L t0) (hC : CX σ τ ρ b v np nt t0 k0 (L t0) (C t0 k0) C) : τ 198 17 = ((bs (rSV (mHap ρ b v np t0 k0 (L t0)) C nt) 14 : Nat) : Int) := by
  revert t0 k0
  intro t k ht hk hkl hC
  obtain ⟨-, ⟨np2, nt2, ns2, st0, st1⟩, hTr, hCa, hAf, -, -, -, -⟩ := hD
  obtain ⟨E1, E2, E3, E4, ⟨E5a, E5b⟩, ⟨E6a, E6b⟩, E7, E8, E9, E10⟩ := hE
  obtain ⟨⟨a1, a2, a3, a4, a5, a6, a7⟩, ⟨b1, b2, b3⟩, ⟨c1, c2, c3, c4⟩, ⟨d1, d2, d3, d4⟩, e1, e2⟩ := hC
  obtain ⟨-, hL2, hL8, -, -, -, -⟩ := hTr t ht
  obtain ⟨-, hs, hsn⟩ := hCa t k ht hkl
  have M23 := mHap_nx ρ b v np t k (L t)
  have Mp := fun p hp => mHap_p ρ b v np t k (L t) p hp
  have Me := fun j => mHap_e ρ b v np t k (L t) j np2
  have Mt := fun j => mHap_t ρ b v np t k (L t) j
  have M295 : ∀ j, mHap ρ b v np t k (L t) 295 j = ρ 295 j := fun j => mHap_fr _ _ _ _ _ _ _ _ _ (by decide)
  have M299 : ∀ j, mHap ρ b v np t k (L t) 299 j = ρ 299 j := fun j => mHap_fr _ _ _ _ _ _ _ _ _ (by decide)
  have M318 : ∀ j, mHap ρ b v np t k (L t) 318 j = ρ 318 j := fun j => mHap_fr _ _ _ _ _ _ _ _ _ (by decide)
  have M319 : ∀ j, mHap ρ b v np t k (L t) 319 j = ρ 319 j := fun j => mHap_fr _ _ _ _ _ _ _ _ _ (by decide)
  have hA : ∀ t' k', t' < nt → k' < 8 → (8 * t' + k' = 8 * t + k ↔ t' = t ∧ k' = k) := by omega
  rw [c4]
  refine congrArg (fun x : Nat => (x : Int)) (bs_c ?_)
  intro s' _
  rw [Bool.eq_iff_iff, Bool.or_eq_true, anyN_iff, anyN_iff, Bool.and_eq_true, decide_eq_true_iff, decide_eq_true_iff]
  constructor
  · rintro (⟨t', h1, h2⟩ | h2)
    · obtain ⟨k', h3, h4⟩ := (anyN_iff _ _).mp h2
      simp only [decide_eq_true_eq] at h4
      refine ⟨t', h1, (anyN_iff _ _).mpr ⟨k', h3, ?_⟩⟩
      simp only [decide_eq_true_eq]
      obtain ⟨i1, i2, i3⟩ := h4
      rw [M23, (Me _).1, if_neg (show ¬ (8 * t' + k' = 8 * t + k) by rw [hA t' k' h1 h3]; rintro ⟨rfl, rfl⟩; omega)]
      split
      · rename_i e; subst e; exact ⟨by omega, i2, i3⟩
      · exact ⟨i1, i2, i3⟩
    · refine ⟨t, ht, (anyN_iff _ _).mpr ⟨k, by omega, ?_⟩⟩
      simp only [decide_eq_true_eq]
      rw [M23, if_pos rfl, (Me _).1, if_pos rfl, if_pos h2.1]
      exact ⟨by omega, h2.2.symm, rfl⟩
  · rintro ⟨t', h1, h2⟩
    obtain ⟨k', h3, h4⟩ := (anyN_iff _ _).mp h2
    simp only [decide_eq_true_eq] at h4
    rw [M23, (Me _).1] at h4
    by_cases e : t' = t ∧ k' = k
    · obtain ⟨rfl, rfl⟩ := e
      rw [if_pos rfl, if_pos rfl] at h4
      refine Or.inr ⟨?_, h4.2.1.symm⟩
      have := h4.2.2
      split at this
      · assumption
      · cases this
    · rw [if_neg (show ¬ (8 * t' + k' = 8 * t + k) by rw [hA t' k' h1 h3]; exact e)] at h4
      refine Or.inl ⟨t', h1, (anyN_iff _ _).mpr ⟨k', h3, ?_⟩⟩
      simp only [decide_eq_true_eq]
      refine ⟨?_, h4.2⟩
      by_cases e2 : t' = t
      · subst e2; rw [if_pos rfl] at h4; omega
      · rw [if_neg e2] at h4; exact h4.1
theorem RE_lo {n : Nat} {σ τ ρ : AH} {l q b v np nt ns t0 k0 : Nat} {L : Nat → Nat} {C : Nat → Nat → Nat} (hD : DR σ ρ l q b v np nt ns L C) (hE : RE n σ ρ b v np nt ns L C) (hn : n ≤ 1000) (ht : t0 < nt) (hk : ρ 323 t0 = (k0 : Int)) (hkl : k0 < L t0) (hC : CX σ τ ρ b v np nt t0 k0 (L t0) (C t0 k0) C) : ∀ t k : Nat, t < nt → (k : Int) < (mHap ρ b v np t0 k0 (L t0)) 323 t → ∃ Cm Of On : Nat → Bool, τ (218 + t) k = (mHap ρ b v np t0 k0 (L t0)) 326 (8 * t + k) ∧ τ (225 + t) k = ((bs Cm np : Nat) : Int) ∧ τ (232 + t) k = ((bs Of np : Nat) : Int) ∧ τ (239 + t) k = ((bs On np : Nat) : Int) ∧ (mHap ρ b v np t0 k0 (L t0)) 327 (8 * t + k) = ((cnt Of np : Nat) : Int) ∧ (mHap ρ b v np t0 k0 (L t0)) 332 (8 * t + k) = ((bs Of np : Nat) : Int) ∧ (mHap ρ b v np t0 k0 (L t0)) 328 (8 * t + k) = ((cnt On np : Nat) : Int) ∧ (mHap ρ b v np t0 k0 (L t0)) 329 (8 * t + k) = ((cnt (fun p => Cm p && !(Of p) || On p) np : Nat) : Int) ∧ (mHap ρ b v np t0 k0 (L t0)) 331 (8 * t + k) = (if 0 < k ∧ k + 1 < L t then ((bs (fun p => Cm p && decide (mBA (mHap ρ b v np t0 k0 (L t0)) v p (C t k : Int))) np : Nat) : Int) else 0) ∧ ((mHap ρ b v np t0 k0 (L t0)) 325 (8 * t + k) = 0 ∨ (mHap ρ b v np t0 k0 (L t0)) 325 (8 * t + k) = 1) := by
  revert t0 k0
  intro t k ht hk hkl hC
  obtain ⟨-, ⟨np2, nt2, ns2, st0, st1⟩, hTr, hCa, hAf, -, -, -, -⟩ := hD
  obtain ⟨E1, E2, E3, E4, ⟨E5a, E5b⟩, ⟨E6a, E6b⟩, E7, E8, E9, E10⟩ := hE
  obtain ⟨⟨a1, a2, a3, a4, a5, a6, a7⟩, ⟨b1, b2, b3⟩, ⟨c1, c2, c3, c4⟩, ⟨d1, d2, d3, d4⟩, e1, e2⟩ := hC
  obtain ⟨-, hL2, hL8, -, -, -, -⟩ := hTr t ht
  obtain ⟨-, hs, hsn⟩ := hCa t k ht hkl
  have M23 := mHap_nx ρ b v np t k (L t)
  have Mp := fun p hp => mHap_p ρ b v np t k (L t) p hp
  have Me := fun j => mHap_e ρ b v np t k (L t) j np2
  have Mt := fun j => mHap_t ρ b v np t k (L t) j
  have M295 : ∀ j, mHap ρ b v np t k (L t) 295 j = ρ 295 j := fun j => mHap_fr _ _ _ _ _ _ _ _ _ (by decide)
  have M299 : ∀ j, mHap ρ b v np t k (L t) 299 j = ρ 299 j := fun j => mHap_fr _ _ _ _ _ _ _ _ _ (by decide)
  have M318 : ∀ j, mHap ρ b v np t k (L t) 318 j = ρ 318 j := fun j => mHap_fr _ _ _ _ _ _ _ _ _ (by decide)
  have M319 : ∀ j, mHap ρ b v np t k (L t) 319 j = ρ 319 j := fun j => mHap_fr _ _ _ _ _ _ _ _ _ (by decide)
  have hA : ∀ t' k', t' < nt → k' < 8 → (8 * t' + k' = 8 * t + k ↔ t' = t ∧ k' = k) := by omega
  intro t' k' ht' hk'
  rw [M23] at hk'
  obtain ⟨m1, m2, m3, m4, m5, m6⟩ := Me (8 * t' + k')
  by_cases e : t' = t ∧ k' = k
  · obtain ⟨rfl, rfl⟩ := e
    refine ⟨xA ρ t', xF ρ b v np t' k' (L t'), xN ρ b v np t' k' (L t'), ?_, ?_, ?_, ?_, ?_, ?_, ?_, ?_, ?_, ?_⟩
    · rw [d1 t' k' (by omega), if_pos ⟨rfl, rfl⟩, m2, if_pos rfl]
    · rw [d2 t' k' (by omega), if_pos ⟨rfl, rfl⟩]
    · rw [d3 t' k' (by omega), if_pos ⟨rfl, rfl⟩]
    · rw [d4 t' k' (by omega), if_pos ⟨rfl, rfl⟩]
    · rw [m3, if_pos rfl]
    · rw [m6, if_pos rfl]
    · rw [m4, if_pos rfl]
    · rw [(Mt _).2.1, if_pos rfl, mH4_cnt]
      refine congrArg (fun x : Nat => (x : Int)) (cnt_c ?_)
      intro p _
      rw [Bool.or_comm]
    · rw [m5, if_pos rfl]
      split
      · refine congrArg (fun x : Nat => (x : Int)) (bs_c ?_)
        intro p _
        unfold mCall mBA
        rw [hs, Bool.decide_and, M318, M319]
      · rfl
    · rw [m1, if_pos rfl]
      split
      · exact Or.inr rfl
      · exact Or.inl rfl
  · have hk2 : (k' : Int) < ρ 323 t' := by
      by_cases e2 : t' = t
      · subst e2; rw [if_pos rfl] at hk'; omega
      · rw [if_neg e2] at hk'; exact hk'
    have hk8 : k' < 8 := by
      obtain ⟨k0, f1, -, f3, -⟩ := E1 t' ht'
      have := (hTr t' ht').2.2.1
      omega
    have hne : ¬ (8 * t' + k' = 8 * t + k) := by rw [hA t' k' ht' hk8]; exact e
    obtain ⟨Cm, Of, On, h1, h2, h3, h4, h5, h6, h7, h8, h9, h10⟩ := E7 t' k' ht' hk2
    refine ⟨Cm, Of, On, ?_, ?_, ?_, ?_, ?_, ?_, ?_, ?_, ?_, ?_⟩
    · rw [d1 t' k' (by omega), if_neg e, m2, if_neg hne]; exact h1
    · rw [d2 t' k' (by omega), if_neg e]; exact h2
    · rw [d3 t' k' (by omega), if_neg e]; exact h3
    · rw [d4 t' k' (by omega), if_neg e]; exact h4
    · rw [m3, if_neg hne]; exact h5
    · rw [m6, if_neg hne]; exact h6
    · rw [m4, if_neg hne]; exact h7
    · rw [(Mt _).2.1, if_neg hne]; exact h8
    · rw [m5, if_neg hne, h9]
      unfold mBA
      simp only [M318, M319]
    · rw [m1, if_neg hne]; exact h10
theorem RE_sb {n : Nat} {σ τ ρ : AH} {l q b v np nt ns t0 k0 : Nat} {L : Nat → Nat} {C : Nat → Nat → Nat} (hD : DR σ ρ l q b v np nt ns L C) (hE : RE n σ ρ b v np nt ns L C) (hn : n ≤ 1000) (ht : t0 < nt) (hk : ρ 323 t0 = (k0 : Int)) (hkl : k0 < L t0) (hC : CX σ τ ρ b v np nt t0 k0 (L t0) (C t0 k0) C) : ∀ t, t < nt → τ 245 t = ((bs (fun k => decide ((k : Int) < (mHap ρ b v np t0 k0 (L t0)) 323 t ∧ (mHap ρ b v np t0 k0 (L t0)) 325 (8 * t + k) = 1)) 8 : Nat) : Int) ∧ τ 246 t = ((bs (fun k => decide ((k : Int) ≤ (mHap ρ b v np t0 k0 (L t0)) 323 t ∧ k < L t ∧ (mHap ρ b v np t0 k0 (L t0)) 330 (8 * t + k) = 1)) 8 : Nat) : Int) := by
  revert t0 k0
  intro t k ht hk hkl hC
  obtain ⟨-, ⟨np2, nt2, ns2, st0, st1⟩, hTr, hCa, hAf, -, -, -, -⟩ := hD
  obtain ⟨E1, E2, E3, E4, ⟨E5a, E5b⟩, ⟨E6a, E6b⟩, E7, E8, E9, E10⟩ := hE
  obtain ⟨⟨a1, a2, a3, a4, a5, a6, a7⟩, ⟨b1, b2, b3⟩, ⟨c1, c2, c3, c4⟩, ⟨d1, d2, d3, d4⟩, e1, e2⟩ := hC
  obtain ⟨-, hL2, hL8, -, -, -, -⟩ := hTr t ht
  obtain ⟨-, hs, hsn⟩ := hCa t k ht hkl
  have M23 := mHap_nx ρ b v np t k (L t)
  have Mp := fun p hp => mHap_p ρ b v np t k (L t) p hp
  have Me := fun j => mHap_e ρ b v np t k (L t) j np2
  have Mt := fun j => mHap_t ρ b v np t k (L t) j
  have M295 : ∀ j, mHap ρ b v np t k (L t) 295 j = ρ 295 j := fun j => mHap_fr _ _ _ _ _ _ _ _ _ (by decide)
  have M299 : ∀ j, mHap ρ b v np t k (L t) 299 j = ρ 299 j := fun j => mHap_fr _ _ _ _ _ _ _ _ _ (by decide)
  have M318 : ∀ j, mHap ρ b v np t k (L t) 318 j = ρ 318 j := fun j => mHap_fr _ _ _ _ _ _ _ _ _ (by decide)
  have M319 : ∀ j, mHap ρ b v np t k (L t) 319 j = ρ 319 j := fun j => mHap_fr _ _ _ _ _ _ _ _ _ (by decide)
  have hA : ∀ t' k', t' < nt → k' < 8 → (8 * t' + k' = 8 * t + k ↔ t' = t ∧ k' = k) := by omega
  intro t' ht'
  rw [a6, a7]
  by_cases e : t' = t
  · subst e
    rw [if_pos rfl, if_pos rfl]
    constructor
    · refine congrArg (fun x : Nat => (x : Int)) (bs_c ?_)
      intro k' hk'
      rw [M23, if_pos rfl, (Me _).1, hk]
      by_cases e2 : k' = k
      · subst e2
        rw [if_pos rfl]
        by_cases hst : mStop ρ b v np t' k' (L t')
        · rw [if_pos hst, decide_eq_true (show (k' : Int) < ((k' + 1 : Nat) : Int) ∧ (1 : Int) = 1 by omega), show xSt ρ b v np t' k' (L t') = true from decide_eq_true hst]
          simp
        · rw [if_neg hst, decide_eq_false (show ¬ ((k' : Int) < ((k' + 1 : Nat) : Int) ∧ (0 : Int) = 1) by omega), show xSt ρ b v np t' k' (L t') = false from decide_eq_false hst, Bool.false_and, Bool.or_false]
          exact decide_eq_false (by omega)
      · rw [if_neg (show ¬ (8 * t' + k' = 8 * t' + k) by omega)]
        simp only [e2, decide_false, Bool.and_false, Bool.or_false]
        apply decide_eq_decide.mpr
        constructor
        · rintro ⟨h1, h2⟩; exact ⟨by omega, h2⟩
        · rintro ⟨h1, h2⟩; exact ⟨by omega, h2⟩
    · refine congrArg (fun x : Nat => (x : Int)) (bs_c ?_)
      intro k' hk'
      unfold xBW
      rw [M23, if_pos rfl, (Mt _).2.2, hk]
      by_cases e2 : k' = k + 1
      · subst e2
        by_cases hl : k + 1 = L t'
        · simp [hl]
        · rw [if_pos ⟨hl, by omega⟩]
          simp only [hl, not_false_eq_true, decide_true, Bool.true_and, Bool.and_true]
          rw [show decide (((k + 1 : Nat) : Int) ≤ (k : Int) ∧ k + 1 < L t' ∧ ρ 330 (8 * t' + (k + 1)) = 1) = false from decide_eq_false (by omega), Bool.false_or]
          cases mBtC ρ b v np t' k (L t') with
          | true => first | (simp; done) | (simp; omega)
          | false => simp
      · rw [if_neg (show ¬ (¬ k + 1 = L t' ∧ 8 * t' + k' = 8 * t' + k + 1) by omega)]
        simp only [e2, decide_false, Bool.and_false, Bool.or_false]
        apply decide_eq_decide.mpr
        constructor
        · rintro ⟨h1, h2, h3⟩; exact ⟨by omega, h2, h3⟩
        · rintro ⟨h1, h2, h3⟩; exact ⟨by omega, h2, h3⟩
  · rw [if_neg e, if_neg e, (E8 t' ht').1, (E8 t' ht').2]
    constructor
    · refine congrArg (fun x : Nat => (x : Int)) (bs_c ?_)
      intro k' hk'
      rw [M23, if_neg e, (Me _).1, if_neg (by rw [hA t' k' ht' hk']; exact fun h => e h.1)]
    · refine congrArg (fun x : Nat => (x : Int)) (bs_c ?_)
      intro k' hk'
      rw [M23, if_neg e, (Mt _).2.2, if_neg (by omega)]
theorem RE_bt {n : Nat} {σ τ ρ : AH} {l q b v np nt ns t0 k0 : Nat} {L : Nat → Nat} {C : Nat → Nat → Nat} (hD : DR σ ρ l q b v np nt ns L C) (hE : RE n σ ρ b v np nt ns L C) (hn : n ≤ 1000) (ht : t0 < nt) (hk : ρ 323 t0 = (k0 : Int)) (hkl : k0 < L t0) (hC : CX σ τ ρ b v np nt t0 k0 (L t0) (C t0 k0) C) : ∀ t k : Nat, t < nt → k < L t → (k : Int) ≤ (mHap ρ b v np t0 k0 (L t0)) 323 t → ((mHap ρ b v np t0 k0 (L t0)) 330 (8 * t + k) = 0 ∨ (mHap ρ b v np t0 k0 (L t0)) 330 (8 * t + k) = 1) := by
  revert t0 k0
  intro t k ht hk hkl hC
  obtain ⟨-, ⟨np2, nt2, ns2, st0, st1⟩, hTr, hCa, hAf, -, -, -, -⟩ := hD
  obtain ⟨E1, E2, E3, E4, ⟨E5a, E5b⟩, ⟨E6a, E6b⟩, E7, E8, E9, E10⟩ := hE
  obtain ⟨⟨a1, a2, a3, a4, a5, a6, a7⟩, ⟨b1, b2, b3⟩, ⟨c1, c2, c3, c4⟩, ⟨d1, d2, d3, d4⟩, e1, e2⟩ := hC
  obtain ⟨-, hL2, hL8, -, -, -, -⟩ := hTr t ht
  obtain ⟨-, hs, hsn⟩ := hCa t k ht hkl
  have M23 := mHap_nx ρ b v np t k (L t)
  have Mp := fun p hp => mHap_p ρ b v np t k (L t) p hp
  have Me := fun j => mHap_e ρ b v np t k (L t) j np2
  have Mt := fun j => mHap_t ρ b v np t k (L t) j
  have M295 : ∀ j, mHap ρ b v np t k (L t) 295 j = ρ 295 j := fun j => mHap_fr _ _ _ _ _ _ _ _ _ (by decide)
  have M299 : ∀ j, mHap ρ b v np t k (L t) 299 j = ρ 299 j := fun j => mHap_fr _ _ _ _ _ _ _ _ _ (by decide)
  have M318 : ∀ j, mHap ρ b v np t k (L t) 318 j = ρ 318 j := fun j => mHap_fr _ _ _ _ _ _ _ _ _ (by decide)
  have M319 : ∀ j, mHap ρ b v np t k (L t) 319 j = ρ 319 j := fun j => mHap_fr _ _ _ _ _ _ _ _ _ (by decide)
  have hA : ∀ t' k', t' < nt → k' < 8 → (8 * t' + k' = 8 * t + k ↔ t' = t ∧ k' = k) := by omega
  intro t' k' ht' hk1 hk2
  rw [(Mt _).2.2]
  split
  · split
    · exact Or.inr rfl
    · exact Or.inl rfl
  · rename_i hc
    rw [M23] at hk2
    by_cases e : t' = t
    · subst e
      rw [if_pos rfl] at hk2
      by_cases e2 : k' = k + 1
      · exfalso; omega
      · exact E9 t' k' ht' hk1 (by omega)
    · rw [if_neg e] at hk2
      exact E9 t' k' ht' hk1 hk2
theorem RE_lv {n : Nat} {σ τ ρ : AH} {l q b v np nt ns t0 k0 : Nat} {L : Nat → Nat} {C : Nat → Nat → Nat} (hD : DR σ ρ l q b v np nt ns L C) (hE : RE n σ ρ b v np nt ns L C) (hn : n ≤ 1000) (ht : t0 < nt) (hk : ρ 323 t0 = (k0 : Int)) (hkl : k0 < L t0) (hC : CX σ τ ρ b v np nt t0 k0 (L t0) (C t0 k0) C) : ∀ t k : Nat, t < nt → (mHap ρ b v np t0 k0 (L t0)) 323 t = ((k + 1 : Nat) : Int) → τ 251 t = aAdd ((mHap ρ b v np t0 k0 (L t0)) 326 (8 * t + k)) (if (mHap ρ b v np t0 k0 (L t0)) 325 (8 * t + k) = 1 ∧ 0 < k then (mHap ρ b v np t0 k0 (L t0)) 299 b else 0) := by
  revert t0 k0
  intro t k ht hk hkl hC
  obtain ⟨-, ⟨np2, nt2, ns2, st0, st1⟩, hTr, hCa, hAf, -, -, -, -⟩ := hD
  obtain ⟨E1, E2, E3, E4, ⟨E5a, E5b⟩, ⟨E6a, E6b⟩, E7, E8, E9, E10⟩ := hE
  obtain ⟨⟨a1, a2, a3, a4, a5, a6, a7⟩, ⟨b1, b2, b3⟩, ⟨c1, c2, c3, c4⟩, ⟨d1, d2, d3, d4⟩, e1, e2⟩ := hC
  obtain ⟨-, hL2, hL8, -, -, -, -⟩ := hTr t ht
  obtain ⟨-, hs, hsn⟩ := hCa t k ht hkl
  have M23 := mHap_nx ρ b v np t k (L t)
  have Mp := fun p hp => mHap_p ρ b v np t k (L t) p hp
  have Me := fun j => mHap_e ρ b v np t k (L t) j np2
  have Mt := fun j => mHap_t ρ b v np t k (L t) j
  have M295 : ∀ j, mHap ρ b v np t k (L t) 295 j = ρ 295 j := fun j => mHap_fr _ _ _ _ _ _ _ _ _ (by decide)
  have M299 : ∀ j, mHap ρ b v np t k (L t) 299 j = ρ 299 j := fun j => mHap_fr _ _ _ _ _ _ _ _ _ (by decide)
  have M318 : ∀ j, mHap ρ b v np t k (L t) 318 j = ρ 318 j := fun j => mHap_fr _ _ _ _ _ _ _ _ _ (by decide)
  have M319 : ∀ j, mHap ρ b v np t k (L t) 319 j = ρ 319 j := fun j => mHap_fr _ _ _ _ _ _ _ _ _ (by decide)
  have hA : ∀ t' k', t' < nt → k' < 8 → (8 * t' + k' = 8 * t + k ↔ t' = t ∧ k' = k) := by omega
  intro t' k' ht' hk'
  rw [M23] at hk'
  rw [a2]
  by_cases e : t' = t
  · subst e
    rw [if_pos rfl] at hk' ⊢
    have : k' = k := by omega
    subst this
    rw [(Me _).2.1, (Me _).1, if_pos rfl, if_pos rfl, M299]
    refine congrArg (aAdd _) ?_
    by_cases hst : mStop ρ b v np t' k' (L t')
    · rw [if_pos hst]; simp only [hst, true_and]
    · rw [if_neg hst]; simp only [hst, false_and, if_false, show ¬ ((0 : Int) = 1) by decide]
  · rw [if_neg e] at hk' ⊢
    have hk8 : k' < 8 := by
      obtain ⟨k0, f1, -, f3, -⟩ := E1 t' ht'
      have := (hTr t' ht').2.2.1
      omega
    have hne : ¬ (8 * t' + k' = 8 * t + k) := by rw [hA t' k' ht' hk8]; exact fun h => e h.1
    rw [(Me _).2.1, (Me _).1, if_neg hne, if_neg hne, M299]
    exact E10 t' k' ht' hk'
theorem RE_step {n : Nat} {σ τ ρ : AH} {l q b v np nt ns t k : Nat} {L : Nat → Nat} {C : Nat → Nat → Nat} (hD : DR σ ρ l q b v np nt ns L C) (hE : RE n σ ρ b v np nt ns L C) (hn : n ≤ 1000) (ht : t < nt) (hk : ρ 323 t = (k : Int)) (hkl : k < L t) (hC : CX σ τ ρ b v np nt t k (L t) (C t k) C) : RE (n + 1) τ (mHap ρ b v np t k (L t)) b v np nt ns L C :=
  ⟨RE_nx hD hE hn ht hk hkl hC, RE_ab hD hE hn ht hk hkl hC, RE_he hD hE hn ht hk hkl hC, RE_pe hD hE hn ht hk hkl hC, ⟨RE_ar hD hE hn ht hk hkl hC, RE_ri hD hE hn ht hk hkl hC⟩, ⟨RE_cl hD hE hn ht hk hkl hC, RE_sv hD hE hn ht hk hkl hC⟩, RE_lo hD hE hn ht hk hkl hC, RE_sb hD hE hn ht hk hkl hC, RE_bt hD hE hn ht hk hkl hC, RE_lv hD hE hn ht hk hkl hC⟩
