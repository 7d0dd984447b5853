/-! A person: both parsers. -/
theorem TT.inl {X : AX} {m : Nat} {cd : List Ent} {k : Nat} {ls st : List AV} {σ : AH} {e : Ent} {a : List AV × List AV} {Q : Option AV → AH → Prop} (hcd : cod m = cd) (he : cd[k]? = some e) (hc : isCall e = true) (ho : e.2.2.2.1 ≠ OWN) (ha : callA e st = some a) (h : TT X e.2.2.2.1 (0, aEnt e.2.2.2.1 a.1, [], σ) (fun r σ' => TT X m (k + 1, ls, r.toList ++ a.2, σ') Q)) : TT X m (k, ls, st, σ) Q := TT.call hcd he hc ho ha h (fun _ _ q => q)
theorem r_bl (X : AX) {ρ : AH} (h8 : ρ 295 8 = 0) (k p : Int) : TT X 4 (0, [(2, 295), (0, k), (0, p)], [], ρ) (fun r σ' => r = none ∧ FT k p σ' ∧ RFB ρ σ') := (t_blame X k p ρ).mono (fun r σ' h => ⟨h.1, by rw [h.2, mBl_0 h8]; exact FT_bl _ _ _, by rw [h.2, mBl_0 h8]; exact RFB_bl _ _ _⟩)
theorem bit_0 : ∀ s : Nat, s < 14 → ¬ aAnd (aShr 0 ((s : Nat) : Int)) 1 = 1 := by decide +kernel
theorem bit_1 : ∀ a : Nat, a < 14 → ∀ s : Nat, s < 14 → (aAnd (aShr (aShl 1 ((a : Nat) : Int)) ((s : Nat) : Int)) 1 = 1 ↔ s = a) := by decide +kernel
theorem DRl_pe {τ τ' ρ ρ' : AH} {d bi np nt ns : Nat} {L : Nat → Nat} {C : Nat → Nat → Nat} (h : DRl τ ρ d bi np nt ns L C) (hn : np < 10) (f : ∀ K j, (d ≤ K ∧ K ≤ d + 27) → ¬ (K = d + 22 ∧ j = 0) → ¬ ((K = d + 3 ∨ K = d + 4 ∨ d + 23 ≤ K) ∧ j = np) → τ' K j = τ K j) (g : ∀ K j, (297 ≤ K ∧ K ≤ 314) → ¬ (K = 307 ∧ j = bi) → ¬ (308 ≤ K ∧ j = 10 * bi + np) → ρ' K j = ρ K j) (e1 : τ' (d + 22) 0 = ((np + 1 : Nat) : Int)) (e2 : ρ' 307 bi = ((np + 1 : Nat) : Int)) (e3 : nT (τ' (d + 3) np) (ρ' 308 (10 * bi + np))) (e4 : τ' (d + 23) np = ρ' 309 (10 * bi + np) ∧ 0 ≤ ρ' 309 (10 * bi + np) ∧ ρ' 309 (10 * bi + np) ≤ 99) (e5 : ∃ s : Nat, s < ns ∧ τ' (d + 24) np = (s : Int) ∧ ρ' 310 (10 * bi + np) = (s : Int)) (e6 : τ' (d + 25) np = ρ' 311 (10 * bi + np) ∧ (ρ' 311 (10 * bi + np) = -1 ∨ ∃ s : Nat, s < ns ∧ ρ' 311 (10 * bi + np) = (s : Int))) (e7 : ∃ s : Nat, s < ns ∧ τ' (d + 26) np = (s : Int) ∧ ρ' 312 (10 * bi + np) = (s : Int)) (e8 : ∃ s : Nat, s < ns ∧ τ' (d + 27) np = (s : Int) ∧ ρ' 313 (10 * bi + np) = (s : Int)) (e9 : τ' (d + 4) np = ρ' 314 (10 * bi + np) ∧ 0 ≤ ρ' 314 (10 * bi + np) ∧ ρ' 314 (10 * bi + np) ≤ 99) : DRl τ' ρ' d bi (np + 1) nt ns L C := by
  obtain ⟨⟨⟨d1, d2, d3, d4⟩, ⟨m0, m1, m2⟩, ⟨n2, n1, n0, s1, s2⟩, hTr, hCa, hAf, hPr, hDi⟩, ⟨hN0, hN1, hN2⟩, hPD⟩ := h
  refine ⟨⟨⟨?_, ?_, ?_, e1⟩, ⟨?_, ?_, e2⟩, ⟨by omega, n1, n0, ?_, ?_⟩, fun t ht => ?_, fun t k ht hk => ?_, fun t k ht hk => ?_, fun p hp => ?_, hDi⟩, ⟨fun s hs => ?_, fun s hs => ?_, fun s hs => ?_⟩, fun p hp => ?_⟩
  · rw [f _ _ (by omega) (by omega) (by omega)]; exact d1
  · rw [f _ _ (by omega) (by omega) (by omega)]; exact d2
  · rw [f _ _ (by omega) (by omega) (by omega), g _ _ (by omega) (by omega) (by omega)]; exact d3
  · rw [g _ _ (by omega) (by omega) (by omega)]; exact m0
  · rw [g _ _ (by omega) (by omega) (by omega)]; exact m1
  · rw [g _ _ (by omega) (by omega) (by omega)]; exact s1
  · rw [g _ _ (by omega) (by omega) (by omega)]; exact s2
  · rw [f (d + 7) _ (by omega) (by omega) (by omega), f (d + 5) _ (by omega) (by omega) (by omega), f (d + 6) _ (by omega) (by omega) (by omega), g 304 _ (by omega) (by omega) (by omega), g 302 _ (by omega) (by omega) (by omega), g 303 _ (by omega) (by omega) (by omega)]
    exact hTr t ht
  · rw [f _ _ (by omega) (by omega) (by omega), g 305 _ (by omega) (by omega) (by omega)]
    exact hCa t k ht hk
  · rw [f _ _ (by omega) (by omega) (by omega), g 306 _ (by omega) (by omega) (by omega)]
    exact hAf t k ht hk
  · by_cases e : p = np
    · subst e; exact e9
    · rw [f _ _ (by omega) (by omega) (by omega), g 314 _ (by omega) (by omega) (by omega)]
      exact hPr p (by omega)
  · rw [f _ _ (by omega) (by omega) (by omega), g 298 _ (by omega) (by omega) (by omega)]
    exact hN0 s hs
  · rw [f _ _ (by omega) (by omega) (by omega), g 301 _ (by omega) (by omega) (by omega)]
    exact hN1 s hs
  · by_cases e : s = np
    · subst e; exact e3
    · rw [f _ _ (by omega) (by omega) (by omega), g 308 _ (by omega) (by omega) (by omega)]
      exact hN2 s (by omega)
  · by_cases e : p = np
    · subst e; exact ⟨e4, e5, e6, e7, e8⟩
    · rw [f (d + 23) _ (by omega) (by omega) (by omega), f (d + 24) _ (by omega) (by omega) (by omega), f (d + 25) _ (by omega) (by omega) (by omega), f (d + 26) _ (by omega) (by omega) (by omega), f (d + 27) _ (by omega) (by omega) (by omega), g 309 _ (by omega) (by omega) (by omega), g 310 _ (by omega) (by omega) (by omega), g 311 _ (by omega) (by omega) (by omega), g 312 _ (by omega) (by omega) (by omega), g 313 _ (by omega) (by omega) (by omega)]
      exact hPD p (by omega)
theorem r_isW1 (X : AX) {f : Nat → Int} {N i : Nat} {K : Nat → Int} {S : Nat → Nat} {V : Nat → Int} {P : Nat → Nat} {ρ : AH} (h : RTk f N K S V P i ρ) {k0 : Int} (hk : 1 ≤ k0 ∧ k0 ≤ 13) (he : K i = k0) : TT X 10 (0, [(2, 295), (1, OWi k0), (9, 0)], [], ρ) (fun r σ' => r = some (0, 1) ∧ σ' = ρ) := (t_isWord X (OWi k0) ρ).mono (fun r σ' hr => ⟨by rw [hr.1, if_pos ((rl_word h (rl_no17 h (by omega)).2.1 hk).mpr he)], hr.2⟩)
theorem r_isW0 (X : AX) {f : Nat → Int} {N i : Nat} {K : Nat → Int} {S : Nat → Nat} {V : Nat → Int} {P : Nat → Nat} {ρ : AH} (h : RTk f N K S V P i ρ) {k0 : Int} (hk : 1 ≤ k0 ∧ k0 ≤ 13) (h17 : ¬ K i = 17) (he : ¬ K i = k0) : TT X 10 (0, [(2, 295), (1, OWi k0), (9, 0)], [], ρ) (fun r σ' => r = some (0, 0) ∧ σ' = ρ) := (t_isWord X (OWi k0) ρ).mono (fun r σ' hr => ⟨by rw [hr.1, if_neg (fun q => he ((rl_word h (rl_no17 h h17).2.1 hk).mp q))], hr.2⟩)
