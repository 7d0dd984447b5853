/-! line: what holds of both behind a text. -/
theorem IB_ne {b bi K j : Nat} (h : IB b K j) (hb : b + bi = 1) : ¬ IB bi K j := by
  rcases h with h | h | h | h | h | h | h | h <;> (intro q; rcases q with q | q | q | q | q | q | q | q <;> omega)
theorem IB_r {b K j : Nat} (h : IB b K j) : 297 ≤ K ∧ K ≤ 314 := by
  rcases h with h | h | h | h | h | h | h | h <;> omega
theorem LT_bk {σ τ ρ ρ' : AH} {l b np nt ns : Nat} {L : Nat → Nat} {C : Nat → Nat → Nat} (h : LT σ ρ l b np nt ns L C) (hl : l = 8 ∨ l = 170) (f : ∀ K j, (l ≤ K ∧ K ≤ l + 22) → τ K j = σ K j) (g : ∀ K j, IB b K j → ρ' K j = ρ K j) (e13 : ρ' 295 13 = ρ 295 13) : LT τ ρ' l b np nt ns L C := by
  obtain ⟨⟨a1, a2, a3, a4⟩, ⟨b1, b2, b3, b4, b5⟩, ⟨c1, c2, c3, c4, c5⟩, hTr, hCa, hAf, hPr, hDi⟩ := h
  refine ⟨⟨?_, ?_, ?_, ?_⟩, ⟨?_, b2, ?_, ?_, ?_⟩, ⟨c1, c2, c3, ?_, ?_⟩, fun t ht => ?_, fun t k ht hk => ?_, fun t k ht hk => ?_, fun p hp => ?_, hDi⟩
  · rw [f _ _ (by omega)]; exact a1
  · rw [f _ _ (by omega)]; exact a2
  · rw [f _ _ (by omega), g _ _ (ib299 b)]; exact a3
  · rw [f _ _ (by omega)]; exact a4
  · rw [e13]; exact b1
  · rw [g _ _ (ib297 b)]; exact b3
  · rw [g _ _ (ib300 b)]; exact b4
  · rw [g _ _ (ib307 b)]; exact b5
  · rw [g _ _ (ib299 b)]; exact c4
  · rw [g _ _ (ib299 b)]; exact c5
  · rw [f (l + 7) _ (by omega), f (l + 5) _ (by omega), f (l + 6) _ (by omega), g 304 _ (ib6 b _ (by decide) (by decide) (by omega)), g 302 _ (ib6 b _ (by decide) (by decide) (by omega)), g 303 _ (ib6 b _ (by decide) (by decide) (by omega))]
    exact hTr t ht
  · have h8 := (hTr t ht).2.2.2.1
    rw [f _ _ (by omega), g 305 _ (ib48 b _ (by decide) (by decide) (by omega) (by omega))]
    exact hCa t k ht hk
  · have h8 := (hTr t ht).2.2.2.1
    rw [f _ _ (by omega), g 306 _ (ib48 b _ (by decide) (by decide) (by omega) (by omega))]
    exact hAf t k ht hk
  · rw [f _ _ (by omega), g 314 _ (ib10 b _ (by decide) (by decide) (by omega))]
    exact hPr p hp
theorem NT_bk {σ τ ρ ρ' : AH} {l b np nt ns : Nat} (h : NT σ ρ l b np nt ns) (h1 : np ≤ 10) (h2 : nt ≤ 6) (h3 : ns ≤ 14) (f : ∀ K j, (l ≤ K ∧ K ≤ l + 22) → τ K j = σ K j) (g : ∀ K j, IB b K j → ρ' K j = ρ K j) : NT τ ρ' l b np nt ns := by
  refine ⟨fun s hs => ?_, fun s hs => ?_, fun s hs => ?_⟩
  · rw [f _ _ (by omega), g _ _ (ib298 b (by omega))]; exact h.1 s hs
  · rw [f _ _ (by omega), g _ _ (ib6 b _ (by decide) (by decide) (by omega))]; exact h.2.1 s hs
  · rw [f _ _ (by omega), g _ _ (ib10 b _ (by decide) (by decide) (by omega))]; exact h.2.2 s hs
/-- a text that is refused -/
theorem IV_ln0 {σ τ ρ ρ' : AH} {l d b bi np nt ns : Nat} {L : Nat → Nat} {C : Nat → Nat → Nat} {w tp u tl oc : Nat} (h : IV σ ρ l b np nt ns L C w tp u tl oc) (hd : d + l = 178) (hbi : b + bi = 1) (f : ∀ K j, ¬ (K = 3 ∧ ¬ j = 3) → ¬ (4 ≤ K ∧ K ≤ 7) → ¬ (d ≤ K ∧ K ≤ d + 27) → ¬ (K = 1 ∧ j = 1) → ¬ (K = 293 ∧ j = 1) → τ K j = σ K j) (g : ∀ K j, ¬ (K = 295 ∧ ((1 ≤ j ∧ j ≤ 12) ∨ j = 32)) → ¬ IB bi K j → ¬ (K = 315 ∧ j = 1) → ρ' K j = ρ K j) (e1 : τ 1 1 = 0) (e2 : ρ' 295 1 = 0) (e3 : τ 3 0 = ρ' 295 10 ∧ τ 3 1 = ρ' 295 11) (e4 : τ 293 1 = ρ' 315 1) : IV τ ρ' l b np nt ns L C w tp u 0 oc := by
  obtain ⟨⟨hl, i1, i2⟩, hL, hN, hP, hF, ⟨hA1, hA2, hA3⟩, ⟨t1, t2, t3, t4⟩, ⟨o1, o2, o3, o4⟩, ⟨m1, m2, m3⟩, hH⟩ := h
  have np2 := hL.2.2.1.1
  have hlD : l = 8 ∧ d = 170 ∨ l = 170 ∧ d = 8 := by omega
  have fF : ∀ K j, (8 ≤ K ∧ K ≤ 292) → ¬ (d ≤ K ∧ K ≤ d + 27) → τ K j = σ K j := fun K j h1 h2 => f K j (by omega) (by omega) h2 (by omega) (by omega)
  have gN : ∀ K j, ¬ (297 ≤ K ∧ K ≤ 315) → ¬ K = 295 → ρ' K j = ρ K j := fun K j h1 h2 => g K j (by omega) (fun q => h1 (by have := IB_r q; omega)) (by omega)
  have gM : ∀ j, ¬ ((1 ≤ j ∧ j ≤ 12) ∨ j = 32) → ρ' 295 j = ρ 295 j := fun j hj => g 295 j (by omega) (fun q => by have := IB_r q; omega) (by omega)
  have gB : ∀ K j, IB b K j → ρ' K j = ρ K j := fun K j q => g K j (by have := IB_r q; omega) (IB_ne q hbi) (by have := IB_r q; omega)
  have fL : ∀ K j, (l ≤ K ∧ K ≤ l + 22) → τ K j = σ K j := fun K j hK => fF K j (by omega) (by omega)
  refine ⟨⟨hl, ?_, ?_⟩, LT_bk hL hl fL gB (gM 13 (by omega)), NT_bk hN np2 hL.2.2.1.2.1 hL.2.2.1.2.2.1 fL gB, ?_, ?_, ⟨?_, hA2, ?_⟩, ⟨e1, e2, by omega, fun j hj => by omega⟩, ⟨?_, ?_, o3, ?_⟩, ⟨?_, e3, ?_⟩, ?_⟩
  · rw [f _ _ (by omega) (by omega) (by omega) (by omega) (by omega)]; exact i1
  · rw [f _ _ (by omega) (by omega) (by omega) (by omega) (by omega)]; exact i2
  · exact PT_mv hP np2 (fun K j hK => fF K j (by omega) (by omega)) (gN _ _ (by omega) (by omega)) (fun K p hK hp => gN _ _ (by omega) (by omega))
  · unfold FL; rw [gM _ (by omega), gM _ (by omega), gM _ (by omega)]; exact hF
  · rw [fF _ _ (by omega) (by omega), fF _ _ (by omega) (by omega), gM _ (by omega), gM _ (by omega)]; exact hA1
  · intro k hk
    have e1 : (tp + 20 - w + k) % 20 < 20 := Nat.mod_lt _ (by decide)
    exact PT_mv (hA3 k hk) np2 (fun K j hK => fF K j (by omega) (by omega)) (gN _ _ (by omega) (by omega)) (fun K p hK hp => gN _ _ (by omega) (by omega))
  · rw [f _ _ (by omega) (by omega) (by omega) (by omega) (by omega)]; exact o1
  · rw [gM _ (by omega)]; exact o2
  · intro j hj; rw [f _ _ (by omega) (by omega) (by omega) (by omega) (by omega), gN _ _ (by omega) (by omega)]; exact o4 j hj
  · rw [f _ _ (by omega) (by omega) (by omega) (by omega) (by omega), gM _ (by omega)]; exact m1
  · intro j hj
    by_cases e : j = 1
    · subst e; exact e4
    · rw [f _ _ (by omega) (by omega) (by omega) (by omega) (by omega), g _ _ (by omega) (fun q => by have := IB_r q; omega) (by omega)]; exact m3 j hj
  · unfold HKo
    rw [fF 289 0 (by omega) (by omega)]
    rcases hH with h0 | ⟨h0, hK⟩
    · exact Or.inl h0
    · exact Or.inr ⟨h0, HK_mv hl np2 hK (fun K j hK => fF K j (by omega) (by omega))⟩
theorem mBg_p (ρ : AH) (b : Nat) : ∀ n : Nat, (∀ q, q < n → mBg ρ b n 317 q = ρ 309 (10 * b + q) ∧ mBg ρ b n 318 q = ρ 310 (10 * b + q) ∧ mBg ρ b n 319 q = ρ 311 (10 * b + q) ∧ mBg ρ b n 320 q = ρ 312 (10 * b + q) ∧ mBg ρ b n 321 q = ρ 313 (10 * b + q) ∧ mBg ρ b n 322 q = 0) ∧ (mBg ρ b n 316 0 = 0 ∧ mBg ρ b n 295 42 = 0) ∧ (∀ K j, ¬ (317 ≤ K ∧ K ≤ 322 ∧ j < n) → ¬ (K = 316 ∧ j = 0) → ¬ (K = 295 ∧ j = 42) → mBg ρ b n K j = ρ K j)
  | 0 => ⟨fun q hq => by omega, ⟨by rw [mBg, up2_nq _ (by omega), up2_hit], by rw [mBg, up2_hit]⟩, fun K j _ h2 h3 => by rw [mBg, up2_nq _ h3, up2_nq _ h2]⟩
  | n + 1 => by
    obtain ⟨h1, ⟨h2, h3⟩, h4⟩ := mBg_p ρ b n
    refine ⟨fun q hq => ?_, ⟨?_, ?_⟩, fun K j a1 a2 a3 => ?_⟩
    · rw [mBg]
      by_cases e : q = n
      · subst e
        refine ⟨?_, ?_, ?_, ?_, ?_, ?_⟩
        · rw [up2_nq _ (by omega), up2_nq _ (by omega), up2_nq _ (by omega), up2_nq _ (by omega), up2_nq _ (by omega), up2_hit]
        · rw [up2_nq _ (by omega), up2_nq _ (by omega), up2_nq _ (by omega), up2_nq _ (by omega), up2_hit]
        · rw [up2_nq _ (by omega), up2_nq _ (by omega), up2_nq _ (by omega), up2_hit]
        · rw [up2_nq _ (by omega), up2_nq _ (by omega), up2_hit]
        · rw [up2_nq _ (by omega), up2_hit]
        · rw [up2_hit]
      · have h7 := h1 q (by omega)
        refine ⟨?_, ?_, ?_, ?_, ?_, ?_⟩
        · rw [up2_nq _ (by omega), up2_nq _ (by omega), up2_nq _ (by omega), up2_nq _ (by omega), up2_nq _ (by omega), up2_nq _ (by omega)]; exact h7.1
        · rw [up2_nq _ (by omega), up2_nq _ (by omega), up2_nq _ (by omega), up2_nq _ (by omega), up2_nq _ (by omega), up2_nq _ (by omega)]; exact h7.2.1
        · rw [up2_nq _ (by omega), up2_nq _ (by omega), up2_nq _ (by omega), up2_nq _ (by omega), up2_nq _ (by omega), up2_nq _ (by omega)]; exact h7.2.2.1
        · rw [up2_nq _ (by omega), up2_nq _ (by omega), up2_nq _ (by omega), up2_nq _ (by omega), up2_nq _ (by omega), up2_nq _ (by omega)]; exact h7.2.2.2.1
        · rw [up2_nq _ (by omega), up2_nq _ (by omega), up2_nq _ (by omega), up2_nq _ (by omega), up2_nq _ (by omega), up2_nq _ (by omega)]; exact h7.2.2.2.2.1
        · rw [up2_nq _ (by omega), up2_nq _ (by omega), up2_nq _ (by omega), up2_nq _ (by omega), up2_nq _ (by omega), up2_nq _ (by omega)]; exact h7.2.2.2.2.2
    · rw [mBg, up2_nq _ (by omega), up2_nq _ (by omega), up2_nq _ (by omega), up2_nq _ (by omega), up2_nq _ (by omega), up2_nq _ (by omega)]; exact h2
    · rw [mBg, up2_nq _ (by omega), up2_nq _ (by omega), up2_nq _ (by omega), up2_nq _ (by omega), up2_nq _ (by omega), up2_nq _ (by omega)]; exact h3
    · rw [mBg, up2_nq _ (by omega), up2_nq _ (by omega), up2_nq _ (by omega), up2_nq _ (by omega), up2_nq _ (by omega), up2_nq _ (by omega)]; exact h4 K j (by omega) a2 a3
/-- a text that is taken -/
theorem IV_ln1 {σ τ υ ρ ρ1 : AH} {l d b bi np0 nt0 ns0 np nt ns : Nat} {L0 L : Nat → Nat} {C0 C : Nat → Nat → Nat} {w tp u tl oc : Nat} (h : IV σ ρ l b np0 nt0 ns0 L0 C0 w tp u tl oc) (hd : d + l = 178) (hbi : b + bi = 1) (f : ∀ K j, ¬ (K = 3 ∧ ¬ j = 3) → ¬ (4 ≤ K ∧ K ≤ 7) → ¬ (d ≤ K ∧ K ≤ d + 27 ∧ ¬ (K = d + 22 ∧ ¬ j = 0)) → τ K j = σ K j) (g : ∀ K j, ¬ (K = 295 ∧ ((1 ≤ j ∧ j ≤ 9) ∨ j = 12 ∨ j = 32)) → ¬ IB bi K j → ρ1 K j = ρ K j) (hD : DRl τ ρ1 d bi np nt ns L C) (r1 : ρ1 295 1 = 0) (j1 : σ (d + 22) 1 = 0 ∧ σ (d + 22) 2 = 0)
    (k : ∀ K j, ¬ K = 3 → ¬ (36 ≤ K ∧ K ≤ 41) → ¬ (K = 1 ∧ j = 1) → ¬ (K = 0 ∧ j = 5) → ¬ (K = 48 ∧ j = 0) → ¬ (K = 289 ∧ j = 0) → υ K j = τ K j) (k1 : υ 3 0 = 0 ∧ υ 3 1 = -1) (k2 : υ 3 3 = (l : Int)) (k3 : υ 0 5 = (d : Int)) (k4 : υ 1 1 = 0) (k5 : υ 48 0 = 0) (k6 : υ 289 0 = 0) (k7 : ∀ j, j < 3 → υ 36 j = τ (d + 22) j) (k8 : ∀ i j, 1 ≤ i → i ≤ 5 → j < 10 → υ (36 + i) j = τ (d + 22 + i) j) : IV υ (mBg (up2 (up2 (up2 ρ1 295 10 0) 295 11 (-1)) 295 13 (bi : Int)) bi np) d bi np nt ns L C 0 tp u 0 oc := by
  obtain ⟨⟨hl, i1, i2⟩, hL, hN, hP, hF, ⟨hA1, hA2, hA3⟩, ⟨t1, t2, t3, t4⟩, ⟨o1, o2, o3, o4⟩, ⟨m1, m2, m3⟩, hH⟩ := h
  obtain ⟨⟨⟨d1, d2, d3, d4⟩, ⟨q0, q1, q2⟩, ⟨n2, n1, n0, s1, s2⟩, hTr, hCa, hAf, hPr, hDi⟩, ⟨hN0, hN1, hN2⟩, hPD⟩ := hD
  have hlD : l = 8 ∧ d = 170 ∨ l = 170 ∧ d = 8 := by omega
  obtain ⟨P1, ⟨P2, P3⟩, P4⟩ := mBg_p (up2 (up2 (up2 ρ1 295 10 0) 295 11 (-1)) 295 13 (bi : Int)) bi np
  have u3 : ∀ K j, ¬ K = 295 → (up2 (up2 (up2 ρ1 295 10 0) 295 11 (-1)) 295 13 (bi : Int)) K j = ρ1 K j := fun K j hK => by rw [up2_nq _ (by omega), up2_nq _ (by omega), up2_nq _ (by omega)]
  have gR : ∀ K j, (297 ≤ K ∧ K ≤ 315) → (mBg (up2 (up2 (up2 ρ1 295 10 0) 295 11 (-1)) 295 13 (bi : Int)) bi np) K j = ρ1 K j := fun K j hK => by rw [P4 K j (by omega) (by omega) (by omega), u3 K j (by omega)]
  have gM : ∀ j, ¬ ((1 ≤ j ∧ j ≤ 13) ∨ j = 32 ∨ j = 42) → (mBg (up2 (up2 (up2 ρ1 295 10 0) 295 11 (-1)) 295 13 (bi : Int)) bi np) 295 j = ρ 295 j := fun j hj => by rw [P4 _ j (by omega) (by omega) (by omega), up2_nq _ (by omega), up2_nq _ (by omega), up2_nq _ (by omega)]; exact g 295 j (by omega) (fun q => by have := IB_r q; omega)
  have kF : ∀ K j, (d ≤ K ∧ K ≤ d + 27) → υ K j = τ K j := fun K j hK => k K j (by omega) (by omega) (by omega) (by omega) (by omega) (by omega)
  refine ⟨⟨by omega, k3, by rw [k2]; congr 1; omega⟩, ⟨⟨?_, ?_, ?_, ?_⟩, ⟨?_, by omega, ?_, ?_, ?_⟩, ⟨n2, n1, n0, ?_, ?_⟩, fun t ht => ?_, fun t x ht hk => ?_, fun t x ht hk => ?_, fun p hp => ?_, hDi⟩, ⟨fun s hs => ?_, fun s hs => ?_, fun s hs => ?_⟩, ?_, ?_, ⟨⟨k5, ?_, P3, ?_⟩, ⟨by omega, hA2.2⟩, fun x hx => by omega⟩, ⟨k4, ?_, by omega, fun j hj => by omega⟩, ⟨?_, ?_, o3, ?_⟩, ⟨?_, ⟨?_, ?_⟩, ?_⟩, Or.inl k6⟩
  · rw [kF _ _ (by omega)]; exact d1
  · rw [kF _ _ (by omega)]; exact d2
  · rw [kF _ _ (by omega), gR _ _ (by omega)]; exact d3
  · rw [kF _ _ (by omega)]; exact d4
  · rw [P4 _ _ (by omega) (by omega) (by omega), up2_hit]
  · rw [gR _ _ (by omega)]; exact q0
  · rw [gR _ _ (by omega)]; exact q1
  · rw [gR _ _ (by omega)]; exact q2
  · rw [gR _ _ (by omega)]; exact s1
  · rw [gR _ _ (by omega)]; exact s2
  · rw [kF (d + 7) _ (by omega), kF (d + 5) _ (by omega), kF (d + 6) _ (by omega), gR 304 _ (by omega), gR 302 _ (by omega), gR 303 _ (by omega)]; exact hTr t ht
  · have h8 := (hTr t ht).2.2.2.1
    rw [kF _ _ (by omega), gR _ _ (by omega)]; exact hCa t x ht hk
  · have h8 := (hTr t ht).2.2.2.1
    rw [kF _ _ (by omega), gR _ _ (by omega)]; exact hAf t x ht hk
  · rw [kF _ _ (by omega), gR _ _ (by omega)]; exact hPr p hp
  · rw [kF _ _ (by omega), gR _ _ (by omega)]; exact hN0 s hs
  · rw [kF _ _ (by omega), gR _ _ (by omega)]; exact hN1 s hs
  · rw [kF _ _ (by omega), gR _ _ (by omega)]; exact hN2 s hs
  · refine ⟨⟨?_, fun p hp => ?_⟩, ⟨?_, by rw [P2]; decide, by rw [P2]; decide⟩, ?_, fun p hp => ?_⟩
    · rw [k7 0 (by decide)]; exact d4
    · obtain ⟨a, ⟨x1, y1, z1, v1⟩, ⟨c1, c2⟩, ⟨x3, y3, z3, v3⟩, ⟨x4, y4, z4, v4⟩⟩ := hPD p hp
      obtain ⟨p1, p2, p3, p4, p5, p6⟩ := P1 p hp
      rw [show 10 * 0 + p = p by omega, p2, p3, p4, p5, u3 _ _ (by decide), u3 _ _ (by decide), u3 _ _ (by decide), u3 _ _ (by decide), k8 2 p (by decide) (by decide) (by omega), k8 3 p (by decide) (by decide) (by omega), k8 4 p (by decide) (by decide) (by omega), k8 5 p (by decide) (by decide) (by omega)]
      exact ⟨⟨x1, y1, z1, v1⟩, c1, ⟨x3, y3, z3, v3⟩, ⟨x4, y4, z4, v4⟩⟩
    · rw [k7 1 (by decide), P2, f _ _ (by omega) (by omega) (by omega)]; exact j1.1
    · rw [k7 2 (by decide), f _ _ (by omega) (by omega) (by omega), j1.2]
      exact bs_no (fun p hp => decide_eq_false (by rw [show 10 * 0 + p = p by omega, (P1 p hp).2.2.2.2.2]; decide))
    · obtain ⟨a, ⟨x1, y1, z1, v1⟩, ⟨c1, c2⟩, ⟨x3, y3, z3, v3⟩, ⟨x4, y4, z4, v4⟩⟩ := hPD p hp
      obtain ⟨p1, p2, p3, p4, p5, p6⟩ := P1 p hp
      rw [show 10 * 0 + p = p by omega, p1, p3, p6, u3 _ _ (by decide), u3 _ _ (by decide), k8 1 p (by decide) (by decide) (by omega)]
      exact ⟨a.1, a.2.1, a.2.2, c2, Or.inl rfl⟩
  · unfold FL; rw [gM _ (by omega), gM _ (by omega), gM _ (by omega)]; exact hF
  · rw [k _ _ (by omega) (by omega) (by omega) (by omega) (by omega) (by omega), f _ _ (by omega) (by omega) (by omega)]; exact hA1.2.1
  · rw [gM _ (by omega)]; exact hA1.2.2.2
  · rw [P4 _ _ (by omega) (by omega) (by omega), up2_nq _ (by omega), up2_nq _ (by omega), up2_nq _ (by omega)]; exact r1
  · rw [k _ _ (by omega) (by omega) (by omega) (by omega) (by omega) (by omega), f _ _ (by omega) (by omega) (by omega)]; exact o1
  · rw [gM _ (by omega)]; exact o2
  · intro j hj
    rw [k _ _ (by omega) (by omega) (by omega) (by omega) (by omega) (by omega), f _ _ (by omega) (by omega) (by omega), P4 _ _ (by omega) (by omega) (by omega), u3 _ _ (by omega), g _ _ (by omega) (fun q => by have := IB_r q; omega)]; exact o4 j hj
  · rw [k _ _ (by omega) (by omega) (by omega) (by omega) (by omega) (by omega), f _ _ (by omega) (by omega) (by omega), gM _ (by omega)]; exact m1
  · rw [k1.1, P4 _ _ (by omega) (by omega) (by omega), up2_nq _ (by omega), up2_nq _ (by omega), up2_hit]
  · rw [k1.2, P4 _ _ (by omega) (by omega) (by omega), up2_nq _ (by omega), up2_hit]
  · intro j hj
    rw [k _ _ (by omega) (by omega) (by omega) (by omega) (by omega) (by omega), f _ _ (by omega) (by omega) (by omega), gR _ _ (by omega), g _ _ (by omega) (fun q => by have := IB_r q; omega)]; exact m3 j hj
