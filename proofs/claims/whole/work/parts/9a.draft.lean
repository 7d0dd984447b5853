/-! A draft beside the reference's other bank. -/
def IB (bi K j : Nat) : Prop := (K = 297 ∧ j = bi) ∨ (K = 298 ∧ 14 * bi ≤ j ∧ j < 14 * bi + 14) ∨ (K = 299 ∧ j = bi) ∨ (K = 300 ∧ j = bi) ∨ (301 ≤ K ∧ K ≤ 304 ∧ 6 * bi ≤ j ∧ j < 6 * bi + 6) ∨ (305 ≤ K ∧ K ≤ 306 ∧ 48 * bi ≤ j ∧ j < 48 * bi + 48) ∨ (K = 307 ∧ j = bi) ∨ (308 ≤ K ∧ K ≤ 314 ∧ 10 * bi ≤ j ∧ j < 10 * bi + 10)
def RFR (bi : Nat) (ρ ρ' : AH) : Prop := ∀ K j, ¬ (K = 295 ∧ ((3 ≤ j ∧ j ≤ 9) ∨ j = 12)) → ¬ IB bi K j → ρ' K j = ρ K j
def CFR (d : Nat) (τ τ' : AH) : Prop := ∀ K j, ¬ (K = 3 ∧ ¬ j = 3) → ¬ (d ≤ K ∧ K ≤ d + 27 ∧ ¬ (K = d ∧ j = 0) ∧ ¬ (K = d + 22 ∧ ¬ j = 0)) → τ' K j = τ K j
theorem RFR_of {bi : Nat} {ρ ρ' : AH} (h : RFB ρ ρ') : RFR bi ρ ρ' := fun K j h1 _ => h K j h1
theorem RFR.trans {bi : Nat} {ρ ρ' ρ'' : AH} (h : RFR bi ρ ρ') (h2 : RFR bi ρ' ρ'') : RFR bi ρ ρ'' := fun K j a b => (h2 K j a b).trans (h K j a b)
theorem CFR.trans {d : Nat} {τ τ' τ'' : AH} (h : CFR d τ τ') (h2 : CFR d τ' τ'') : CFR d τ τ'' := fun K j a b => (h2 K j a b).trans (h K j a b)
theorem RTk_w {f : Nat → Int} {N i : Nat} {K : Nat → Int} {S : Nat → Nat} {V : Nat → Int} {P : Nat → Nat} {ρ : AH} (h : RTk f N K S V P i ρ) (k j : Nat) (x : Int) (hk : 297 ≤ k) : RTk f N K S V P i (up2 ρ k j x) := by
  have e : ∀ q, (up2 ρ k j x) 295 q = ρ 295 q := fun q => up2_nq _ (by omega)
  obtain ⟨h8, h2, h6, h4⟩ := h
  refine ⟨by rw [e]; exact h8, by rw [e]; exact h2, ?_, ?_⟩
  · rw [← h6]; funext q; exact up2_nq _ (by omega)
  · unfold LX at h4 ⊢
    simp only [e]
    exact h4
/-- the people who are told -/
def PDd (τ ρ : AH) (d bi np ns : Nat) : Prop := ∀ p, p < np → (τ (d + 23) p = ρ 309 (10 * bi + p) ∧ 0 ≤ ρ 309 (10 * bi + p) ∧ ρ 309 (10 * bi + p) ≤ 99) ∧ (∃ s : Nat, s < ns ∧ τ (d + 24) p = (s : Int) ∧ ρ 310 (10 * bi + p) = (s : Int)) ∧ (τ (d + 25) p = ρ 311 (10 * bi + p) ∧ (ρ 311 (10 * bi + p) = -1 ∨ ∃ s : Nat, s < ns ∧ ρ 311 (10 * bi + p) = (s : Int))) ∧ (∃ s : Nat, s < ns ∧ τ (d + 26) p = (s : Int) ∧ ρ 312 (10 * bi + p) = (s : Int)) ∧ (∃ s : Nat, s < ns ∧ τ (d + 27) p = (s : Int) ∧ ρ 313 (10 * bi + p) = (s : Int))
def DL (τ ρ : AH) (d bi np nt ns : Nat) (L : Nat → Nat) (C : Nat → Nat → Nat) : Prop :=
  (τ d 1 = (ns : Int) ∧ τ d 2 = (nt : Int) ∧ τ d 3 = ρ 299 bi ∧ τ (d + 22) 0 = (np : Int))
  ∧ (ρ 297 bi = (ns : Int) ∧ ρ 300 bi = (nt : Int) ∧ ρ 307 bi = (np : Int))
  ∧ (np ≤ 10 ∧ nt ≤ 6 ∧ ns ≤ 14 ∧ 0 ≤ ρ 299 bi ∧ ρ 299 bi ≤ 30)
  ∧ (∀ t, t < nt → τ (d + 7) t = (L t : Int) ∧ ρ 304 (6 * bi + t) = (L t : Int) ∧ 2 ≤ L t ∧ L t ≤ 8 ∧ τ (d + 5) t = ρ 302 (6 * bi + t) ∧ 0 ≤ ρ 302 (6 * bi + t) ∧ ρ 302 (6 * bi + t) ≤ 1439 ∧ τ (d + 6) t = ρ 303 (6 * bi + t))
  ∧ (∀ t k, t < nt → k < L t → τ (d + 9 + t) k = (C t k : Int) ∧ ρ 305 (8 * (6 * bi + t) + k) = (C t k : Int) ∧ C t k < ns)
  ∧ (∀ t k : Nat, t < nt → k + 1 < L t → τ (d + 16 + t) (k + 1) = ρ 306 (8 * (6 * bi + t) + (k + 1)) ∧ 0 ≤ ρ 306 (8 * (6 * bi + t) + (k + 1)) ∧ ρ 306 (8 * (6 * bi + t) + (k + 1)) ≤ 99)
  ∧ (∀ p, p < np → τ (d + 4) p = ρ 314 (10 * bi + p) ∧ 0 ≤ ρ 314 (10 * bi + p) ∧ ρ 314 (10 * bi + p) ≤ 99)
  ∧ (∀ t k k', t < nt → k < k' → k' < L t → C t k ≠ C t k')
def DRl (τ ρ : AH) (d bi np nt ns : Nat) (L : Nat → Nat) (C : Nat → Nat → Nat) : Prop := DL τ ρ d bi np nt ns L C ∧ NT τ ρ d bi np nt ns ∧ PDd τ ρ d bi np ns
/-- both parsers at a token -/
def PX (f : Nat → Int) (N c : Nat) (K : Nat → Int) (S : Nat → Nat) (V : Nat → Int) (P : Nat → Nat) (d bi np nt ns : Nat) (L : Nat → Nat) (C : Nat → Nat → Nat) (i : Nat) (τ ρ : AH) : Prop := TD f N c K S V P ∧ (CT c K S V τ ∧ τ 3 0 = 0 ∧ τ 3 1 = -1) ∧ τ 3 4 = (i : Int) ∧ i ≤ c ∧ τ 3 3 = (d : Int) ∧ RTk f N K S V P i ρ ∧ (ρ 295 32 = (bi : Int) ∧ ρ 295 9 = -1) ∧ bi < 2 ∧ DRl τ ρ d bi np nt ns L C
def OUT (f : Nat → Int) (N c : Nat) (K : Nat → Int) (S : Nat → Nat) (V : Nat → Int) (P : Nat → Nat) (d bi : Nat) (r : Option AV) (τ ρ : AH) : Prop :=
  (r = some (0, 1) ∧ ∃ i np nt ns L C, PX f N c K S V P d bi np nt ns L C i τ ρ)
  ∨ (r = some (0, 1) ∧ ∃ i : Nat, i ≤ c ∧ CT c K S V τ ∧ τ 3 4 = (i : Int) ∧ τ 3 3 = (d : Int) ∧ ¬ K i = 16 ∧ FT 1 (plc K S V i) ρ)
  ∨ (r = some (0, 0) ∧ ∃ kd pl : Int, 0 < kd ∧ τ 3 0 = kd ∧ τ 3 1 = pl ∧ FT kd pl ρ)
theorem FT_w {kd pl : Int} {ρ : AH} (h : FT kd pl ρ) (k j : Nat) (x : Int) (hk : 297 ≤ k) : FT kd pl (up2 ρ k j x) := ⟨by rw [up2_nq _ (by omega)]; exact h.1, by rw [up2_nq _ (by omega)]; exact h.2⟩
theorem DRl_st {τ τ' ρ ρ' : AH} {d bi np nt ns : Nat} {L : Nat → Nat} {C : Nat → Nat → Nat} (h : DRl τ ρ d bi np nt ns L C) (hn : ns < 14) (f : ∀ K j, (d ≤ K ∧ K ≤ d + 27) → ¬ (K = d ∧ j = 1) → ¬ (K = d + 1 ∧ j = ns) → τ' K j = τ K j) (g : ∀ K j, (297 ≤ K ∧ K ≤ 314) → ¬ (K = 297 ∧ j = bi) → ¬ (K = 298 ∧ j = 14 * bi + ns) → ρ' K j = ρ K j) (e1 : τ' d 1 = ((ns + 1 : Nat) : Int)) (e2 : ρ' 297 bi = ((ns + 1 : Nat) : Int)) (e3 : nT (τ' (d + 1) ns) (ρ' 298 (14 * bi + ns))) : DRl τ' ρ' d bi np nt (ns + 1) L C := by
  obtain ⟨⟨⟨d1, d2, d3, d4⟩, ⟨m0, m1, m2⟩, ⟨n2, n1, n0, s1, s2⟩, hTr, hCa, hAf, hPr, hDi⟩, ⟨hN0, hN1, hN2⟩, hPD⟩ := h
  refine ⟨⟨⟨e1, ?_, ?_, ?_⟩, ⟨e2, ?_, ?_⟩, ⟨n2, n1, by omega, ?_, ?_⟩, fun t ht => ?_, fun t k ht hk => ?_, fun t k ht hk => ?_, fun p hp => ?_, hDi⟩, ⟨fun s hs => ?_, fun s hs => ?_, fun s hs => ?_⟩, fun p hp => ?_⟩
  · rw [f _ _ (by omega) (by omega) (by omega)]; exact d2
  · rw [f _ _ (by omega) (by omega) (by omega), g _ _ (by omega) (by omega) (by omega)]; exact d3
  · rw [f _ _ (by omega) (by omega) (by omega)]; exact d4
  · rw [g _ _ (by omega) (by omega) (by omega)]; exact m1
  · rw [g _ _ (by omega) (by omega) (by omega)]; exact m2
  · rw [g _ _ (by omega) (by omega) (by omega)]; exact s1
  · rw [g _ _ (by omega) (by omega) (by omega)]; exact s2
  · rw [f (d + 7) _ (by omega) (by omega) (by omega), f (d + 5) _ (by omega) (by omega) (by omega), f (d + 6) _ (by omega) (by omega) (by omega), g 304 _ (by omega) (by omega) (by omega), g 302 _ (by omega) (by omega) (by omega), g 303 _ (by omega) (by omega) (by omega)]
    exact hTr t ht
  · rw [f _ _ (by omega) (by omega) (by omega), g 305 _ (by omega) (by omega) (by omega)]
    obtain ⟨a, b, c⟩ := hCa t k ht hk
    exact ⟨a, b, by omega⟩
  · rw [f _ _ (by omega) (by omega) (by omega), g 306 _ (by omega) (by omega) (by omega)]
    exact hAf t k ht hk
  · rw [f _ _ (by omega) (by omega) (by omega), g 314 _ (by omega) (by omega) (by omega)]
    exact hPr p hp
  · by_cases e : s = ns
    · subst e; exact e3
    · rw [f _ _ (by omega) (by omega) (by omega), g 298 _ (by omega) (by omega) (by omega)]
      exact hN0 s (by omega)
  · rw [f _ _ (by omega) (by omega) (by omega), g 301 _ (by omega) (by omega) (by omega)]
    exact hN1 s hs
  · rw [f _ _ (by omega) (by omega) (by omega), g 308 _ (by omega) (by omega) (by omega)]
    exact hN2 s hs
  · rw [f (d + 23) _ (by omega) (by omega) (by omega), f (d + 24) _ (by omega) (by omega) (by omega), f (d + 25) _ (by omega) (by omega) (by omega), f (d + 26) _ (by omega) (by omega) (by omega), f (d + 27) _ (by omega) (by omega) (by omega), g 309 _ (by omega) (by omega) (by omega), g 310 _ (by omega) (by omega) (by omega), g 311 _ (by omega) (by omega) (by omega), g 312 _ (by omega) (by omega) (by omega), g 313 _ (by omega) (by omega) (by omega)]
    obtain ⟨a, ⟨s1', b1, b2⟩, ⟨c1, c2⟩, ⟨s3, g1, g2⟩, ⟨s4, k1, k2⟩⟩ := hPD p hp
    exact ⟨a, ⟨s1', by omega, b2⟩, ⟨c1, by rcases c2 with c2 | ⟨s5, c3, c4⟩; exact Or.inl c2; exact Or.inr ⟨s5, by omega, c4⟩⟩, ⟨s3, by omega, g2⟩, ⟨s4, by omega, k2⟩⟩
/-- nothing of the draft has changed but, perhaps, the stop's minutes -/
theorem DRl_mv {τ τ' ρ ρ' : AH} {d bi np nt ns : Nat} {L : Nat → Nat} {C : Nat → Nat → Nat} (h : DRl τ ρ d bi np nt ns L C) (f : ∀ K j, (d ≤ K ∧ K ≤ d + 27) → ¬ (K = d ∧ j = 3) → ¬ (K = d ∧ j = 0) → τ' K j = τ K j) (g : ∀ K j, (297 ≤ K ∧ K ≤ 314) → ¬ (K = 299 ∧ j = bi) → ρ' K j = ρ K j) (e1 : τ' d 3 = ρ' 299 bi ∧ 0 ≤ ρ' 299 bi ∧ ρ' 299 bi ≤ 30) : DRl τ' ρ' d bi np nt ns L C := by
  obtain ⟨⟨⟨d1, d2, d3, d4⟩, ⟨m0, m1, m2⟩, ⟨n2, n1, n0, s1, s2⟩, hTr, hCa, hAf, hPr, hDi⟩, ⟨hN0, hN1, hN2⟩, hPD⟩ := h
  refine ⟨⟨⟨?_, ?_, e1.1, ?_⟩, ⟨?_, ?_, ?_⟩, ⟨n2, n1, n0, e1.2⟩, fun t ht => ?_, fun t k ht hk => ?_, fun t k ht hk => ?_, fun p hp => ?_, hDi⟩, ⟨fun s hs => ?_, fun s hs => ?_, fun s hs => ?_⟩, fun p hp => ?_⟩
  · rw [f _ _ (by omega) (by omega) (by omega)]; exact d1
  · rw [f _ _ (by omega) (by omega) (by omega)]; exact d2
  · rw [f _ _ (by omega) (by omega) (by omega)]; exact d4
  · rw [g _ _ (by omega) (by omega)]; exact m0
  · rw [g _ _ (by omega) (by omega)]; exact m1
  · rw [g _ _ (by omega) (by omega)]; exact m2
  · rw [f (d + 7) _ (by omega) (by omega) (by omega), f (d + 5) _ (by omega) (by omega) (by omega), f (d + 6) _ (by omega) (by omega) (by omega), g 304 _ (by omega) (by omega), g 302 _ (by omega) (by omega), g 303 _ (by omega) (by omega)]
    exact hTr t ht
  · rw [f _ _ (by omega) (by omega) (by omega), g 305 _ (by omega) (by omega)]
    exact hCa t k ht hk
  · rw [f _ _ (by omega) (by omega) (by omega), g 306 _ (by omega) (by omega)]
    exact hAf t k ht hk
  · rw [f _ _ (by omega) (by omega) (by omega), g 314 _ (by omega) (by omega)]
    exact hPr p hp
  · rw [f _ _ (by omega) (by omega) (by omega), g 298 _ (by omega) (by omega)]
    exact hN0 s hs
  · rw [f _ _ (by omega) (by omega) (by omega), g 301 _ (by omega) (by omega)]
    exact hN1 s hs
  · rw [f _ _ (by omega) (by omega) (by omega), g 308 _ (by omega) (by omega)]
    exact hN2 s hs
  · rw [f (d + 23) _ (by omega) (by omega) (by omega), f (d + 24) _ (by omega) (by omega) (by omega), f (d + 25) _ (by omega) (by omega) (by omega), f (d + 26) _ (by omega) (by omega) (by omega), f (d + 27) _ (by omega) (by omega) (by omega), g 309 _ (by omega) (by omega), g 310 _ (by omega) (by omega), g 311 _ (by omega) (by omega), g 312 _ (by omega) (by omega), g 313 _ (by omega) (by omega)]
    exact hPD p hp
theorem td_lt {f : Nat → Int} {N c : Nat} {K : Nat → Int} {S : Nat → Nat} {V : Nat → Int} {P : Nat → Nat} (h : TD f N c K S V P) {i : Nat} (hi : i ≤ c) (hk : ¬ K i = 0 ∧ ¬ K i = 17) : i < c := by
  by_cases e : i = c
  · subst e; have := h.2.2.2.1; omega
  · omega
theorem RFR.refl (bi : Nat) (ρ : AH) : RFR bi ρ ρ := fun _ _ _ _ => rfl
theorem RFR_w {bi : Nat} {ρ ρ' : AH} (h : RFR bi ρ ρ') (k j : Nat) (x : Int) (hb : IB bi k j) : RFR bi ρ (up2 ρ' k j x) := fun K J h1 h2 => by
  rw [up2_nq _ (fun e => h2 (by rw [e.1, e.2]; exact hb))]
  exact h K J h1 h2
theorem RFR_A {bi : Nat} {ρ ρ' ρ'' : AH} (h : RFR bi ρ ρ') (h2 : RFA ρ' ρ'') : RFR bi ρ ρ'' := fun K J a b => (h2 K J (fun e => a (by omega))).trans (h K J a b)
theorem RFR_B {bi : Nat} {ρ ρ' ρ'' : AH} (h : RFR bi ρ ρ') (h2 : RFB ρ' ρ'') : RFR bi ρ ρ'' := fun K J a b => (h2 K J a).trans (h K J a b)
theorem ib297 (bi : Nat) : IB bi 297 bi := Or.inl ⟨rfl, rfl⟩
theorem ib298 (bi : Nat) {j : Nat} (h : j < 14) : IB bi 298 (14 * bi + j) := Or.inr (Or.inl ⟨rfl, by omega, by omega⟩)
theorem ib299 (bi : Nat) : IB bi 299 bi := Or.inr (Or.inr (Or.inl ⟨rfl, rfl⟩))
theorem ib300 (bi : Nat) : IB bi 300 bi := Or.inr (Or.inr (Or.inr (Or.inl ⟨rfl, rfl⟩)))
theorem ib6 (bi k : Nat) {j : Nat} (h1 : 301 ≤ k) (h2 : k ≤ 304) (h : j < 6) : IB bi k (6 * bi + j) := Or.inr (Or.inr (Or.inr (Or.inr (Or.inl ⟨h1, h2, by omega, by omega⟩))))
theorem ib48 (bi k : Nat) {t j : Nat} (h1 : 305 ≤ k) (h2 : k ≤ 306) (ht : t < 6) (h : j < 8) : IB bi k (8 * (6 * bi + t) + j) := Or.inr (Or.inr (Or.inr (Or.inr (Or.inr (Or.inl ⟨h1, h2, by omega, by omega⟩)))))
theorem ib307 (bi : Nat) : IB bi 307 bi := Or.inr (Or.inr (Or.inr (Or.inr (Or.inr (Or.inr (Or.inl ⟨rfl, rfl⟩))))))
theorem ib10 (bi k : Nat) {j : Nat} (h1 : 308 ≤ k) (h2 : k ≤ 314) (h : j < 10) : IB bi k (10 * bi + j) := Or.inr (Or.inr (Or.inr (Or.inr (Or.inr (Or.inr (Or.inr ⟨h1, h2, by omega, by omega⟩))))))
theorem CFR.refl (d : Nat) (τ : AH) : CFR d τ τ := fun _ _ _ _ => rfl
theorem CFR_3 {d : Nat} {τ τ' : AH} (h : CFR d τ τ') (j : Nat) (x : Int) (hj : ¬ j = 3) : CFR d τ (up2 τ' 3 j x) := fun K J h1 h2 => by
  rw [up2_nq _ (by omega)]
  exact h K J h1 h2
theorem CFR_d {d : Nat} {τ τ' : AH} (h : CFR d τ τ') (k j : Nat) (x : Int) (hk : d ≤ k ∧ k ≤ d + 27) (hj : ¬ (k = d ∧ j = 0) ∧ ¬ (k = d + 22 ∧ ¬ j = 0)) : CFR d τ (up2 τ' k j x) := fun K J h1 h2 => by
  rw [up2_nq _ (by omega)]
  exact h K J h1 h2
theorem CFR_f {d : Nat} {τ τ' : AH} (h : CFR d τ τ') (kd pl : Int) : CFR d τ (cFail τ' kd pl) := CFR_3 (CFR_3 h 0 _ (by decide)) 1 _ (by decide)
theorem CT_w {c : Nat} {K : Nat → Int} {S : Nat → Nat} {V : Nat → Int} {τ : AH} (h : CT c K S V τ) (k j : Nat) (x : Int) (hk : ¬ (5 ≤ k ∧ k ≤ 7)) : CT c K S V (up2 τ k j x) := CT_3 h (fun a b hab => up2_nq _ (by omega))
theorem cF_0 (τ : AH) (kd pl : Int) : cFail τ kd pl 3 0 = kd ∧ cFail τ kd pl 3 1 = pl := ⟨by unfold cFail; rw [up2_nq _ (by omega), up2_hit], up2_hit _ _ _ _⟩
