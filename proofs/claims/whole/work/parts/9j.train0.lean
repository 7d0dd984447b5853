/-! A train: both parsers. -/
theorem TT.ex {X : AX} {m : Nat} {c : ACfg} {Q : Option AV → AH → Prop} (h : TT X m c Q) : ∃ r ρ', Q r ρ' ∧ TT X m c (fun r2 ρ2 => r2 = r ∧ ρ2 = ρ') := by
  obtain ⟨n, r, h1, h2⟩ := h
  exact ⟨r.1, r.2, h2, n, r, h1, rfl, rfl⟩
def TRN (τ ρ : AH) (d bi nt ns n : Nat) (cs : Nat → Nat) : Prop :=
  nT (τ (d + 2) nt) (ρ 301 (6 * bi + nt)) ∧ (τ (d + 5) nt = ρ 302 (6 * bi + nt) ∧ 0 ≤ ρ 302 (6 * bi + nt) ∧ ρ 302 (6 * bi + nt) ≤ 1439) ∧ τ (d + 6) nt = ρ 303 (6 * bi + nt) ∧ ρ 304 (6 * bi + nt) = (n : Int)
  ∧ (∀ j, j < n → τ (d + 9 + nt) j = (cs j : Int) ∧ ρ 305 (8 * (6 * bi + nt) + j) = (cs j : Int) ∧ cs j < ns)
  ∧ (∀ j : Nat, j + 1 < n → τ (d + 16 + nt) (j + 1) = ρ 306 (8 * (6 * bi + nt) + (j + 1)) ∧ 0 ≤ ρ 306 (8 * (6 * bi + nt) + (j + 1)) ∧ ρ 306 (8 * (6 * bi + nt) + (j + 1)) ≤ 99)
  ∧ (∀ j j', j < j' → j' < n → cs j ≠ cs j')
def UB (cs : Nat → Nat) (n : Nat) : Int := ((bs (fun s => anyN (fun j => decide (cs j = s)) n) 14 : Nat) : Int)
theorem ub_bit {cs : Nat → Nat} {n s : Nat} (hs : s < 14) : aAnd (aShr (UB cs n) ((s : Nat) : Int)) 1 = 1 ↔ ∃ j, j < n ∧ cs j = s := by
  unfold UB
  rw [bs_bitI _ (by decide) hs]
  constructor
  · intro h
    obtain ⟨j, h1, h2⟩ := (anyN_iff _ _).mp (ite1_t h)
    exact ⟨j, h1, of_decide_eq_true h2⟩
  · rintro ⟨j, h1, h2⟩
    exact if_pos (anyN_t h1 (decide_eq_true h2))
def csU (cs : Nat → Nat) (n s : Nat) : Nat → Nat := fun j => if j = n then s else cs j
theorem ub_s {cs : Nat → Nat} {n s : Nat} (hs : s < 14) : aOr (UB cs n) (aShl 1 ((s : Nat) : Int)) = UB (csU cs n s) (n + 1) := by
  unfold UB
  rw [bs_shl (n := 14) hs (by decide), bs_or _ _ (by decide)]
  refine congrArg (fun x : Nat => (x : Int)) (bs_c (fun p hp => ?_))
  rw [Bool.eq_iff_iff, Bool.or_eq_true, anyN_iff, anyN_iff, decide_eq_true_eq]
  constructor
  · rintro (⟨j, h1, h2⟩ | h)
    · exact ⟨j, by omega, decide_eq_true (by unfold csU; rw [if_neg (by omega)]; exact of_decide_eq_true h2)⟩
    · exact ⟨n, by omega, decide_eq_true (by unfold csU; rw [if_pos rfl]; exact h.symm)⟩
  · rintro ⟨j, h1, h2⟩
    have h3 : csU cs n s j = p := of_decide_eq_true h2
    unfold csU at h3
    by_cases e : j = n
    · rw [if_pos e] at h3; exact Or.inr h3.symm
    · rw [if_neg e] at h3; exact Or.inl ⟨j, by omega, decide_eq_true h3⟩
theorem ub_1 {s : Nat} (hs : s < 14) : aShl 1 ((s : Nat) : Int) = UB (fun _ => s) 1 := by
  unfold UB
  rw [bs_shl (n := 14) hs (by decide)]
  refine congrArg (fun x : Nat => (x : Int)) (bs_c (fun p hp => ?_))
  rw [Bool.eq_iff_iff, anyN_iff, decide_eq_true_eq]
  constructor
  · intro h; exact ⟨0, by omega, decide_eq_true h.symm⟩
  · rintro ⟨j, h1, h2⟩; exact (of_decide_eq_true h2).symm
/-- rows of a train that isn't told yet don't count -/
theorem DRl_fr {τ τ' ρ ρ' : AH} {d bi np nt ns : Nat} {L : Nat → Nat} {C : Nat → Nat → Nat} (h : DRl τ ρ d bi np nt ns L C) (hnt : nt < 6) (hb : bi < 2) (f : ∀ K j, (d ≤ K ∧ K ≤ d + 27) → ¬ (K = d + 9 + nt) → ¬ (K = d + 16 + nt) → ¬ ((K = d + 2 ∨ K = d + 5 ∨ K = d + 6 ∨ K = d + 7) ∧ j = nt) → τ' K j = τ K j) (g : ∀ K j, (297 ≤ K ∧ K ≤ 314) → ¬ ((301 ≤ K ∧ K ≤ 304) ∧ j = 6 * bi + nt) → ¬ ((305 ≤ K ∧ K ≤ 306) ∧ 8 * (6 * bi + nt) ≤ j ∧ j < 8 * (6 * bi + nt) + 8) → ρ' K j = ρ K j) : DRl τ' ρ' d bi np nt ns L C := by
  obtain ⟨⟨⟨d1, d2, d3, d4⟩, ⟨m0, m1, m2⟩, ⟨n2, n1, n0, s1, s2⟩, hTr, hCa, hAf, hPr, hDi⟩, ⟨hN0, hN1, hN2⟩, hPD⟩ := h
  refine ⟨⟨⟨?_, ?_, ?_, ?_⟩, ⟨?_, ?_, ?_⟩, ⟨n2, n1, n0, ?_, ?_⟩, fun t ht => ?_, fun t k ht hk => ?_, fun t k ht hk => ?_, fun p hp => ?_, hDi⟩, ⟨fun s hs => ?_, fun s hs => ?_, fun s hs => ?_⟩, fun p hp => ?_⟩
  · rw [f _ _ (by omega) (by omega) (by omega) (by omega)]; exact d1
  · rw [f _ _ (by omega) (by omega) (by omega) (by omega)]; exact d2
  · rw [f _ _ (by omega) (by omega) (by omega) (by omega), g _ _ (by omega) (by omega) (by omega)]; exact d3
  · rw [f _ _ (by omega) (by omega) (by omega) (by omega)]; exact d4
  · rw [g _ _ (by omega) (by omega) (by omega)]; exact m0
  · rw [g _ _ (by omega) (by omega) (by omega)]; exact m1
  · rw [g _ _ (by omega) (by omega) (by omega)]; exact m2
  · rw [g _ _ (by omega) (by omega) (by omega)]; exact s1
  · rw [g _ _ (by omega) (by omega) (by omega)]; exact s2
  · rw [f (d + 7) _ (by omega) (by omega) (by omega) (by omega), f (d + 5) _ (by omega) (by omega) (by omega) (by omega), f (d + 6) _ (by omega) (by omega) (by omega) (by omega), g 304 _ (by omega) (by omega) (by omega), g 302 _ (by omega) (by omega) (by omega), g 303 _ (by omega) (by omega) (by omega)]
    exact hTr t ht
  · have h8 := (hTr t ht).2.2.2.1
    rw [f _ _ (by omega) (by omega) (by omega) (by omega), g 305 _ (by omega) (by omega) (by omega)]
    exact hCa t k ht hk
  · have h8 := (hTr t ht).2.2.2.1
    rw [f _ _ (by omega) (by omega) (by omega) (by omega), g 306 _ (by omega) (by omega) (by omega)]
    exact hAf t k ht hk
  · rw [f _ _ (by omega) (by omega) (by omega) (by omega), g 314 _ (by omega) (by omega) (by omega)]
    exact hPr p hp
  · rw [f _ _ (by omega) (by omega) (by omega) (by omega), g 298 _ (by omega) (by omega) (by omega)]
    exact hN0 s hs
  · rw [f _ _ (by omega) (by omega) (by omega) (by omega), g 301 _ (by omega) (by omega) (by omega)]
    exact hN1 s hs
  · rw [f _ _ (by omega) (by omega) (by omega) (by omega), g 308 _ (by omega) (by omega) (by omega)]
    exact hN2 s hs
  · rw [f (d + 23) _ (by omega) (by omega) (by omega) (by omega), f (d + 24) _ (by omega) (by omega) (by omega) (by omega), f (d + 25) _ (by omega) (by omega) (by omega) (by omega), f (d + 26) _ (by omega) (by omega) (by omega) (by omega), f (d + 27) _ (by omega) (by omega) (by omega) (by omega), g 309 _ (by omega) (by omega) (by omega), g 310 _ (by omega) (by omega) (by omega), g 311 _ (by omega) (by omega) (by omega), g 312 _ (by omega) (by omega) (by omega), g 313 _ (by omega) (by omega) (by omega)]
    exact hPD p hp
/-- one more station -/
theorem TRN_s {τ τ' ρ ρ' : AH} {d bi nt ns n : Nat} {cs : Nat → Nat} (h : TRN τ ρ d bi nt ns n cs) (hnt : nt < 6) (hn : n < 8) (s : Nat) (hs : s < ns) (v : Int) (hv : 0 ≤ v ∧ v ≤ 99) (hne : ¬ ∃ j, j < n ∧ cs j = s) (f : ∀ K j, (d ≤ K ∧ K ≤ d + 27) → ¬ (K = d + 9 + nt ∧ j = n) → ¬ (K = d + 16 + nt ∧ j = n) → τ' K j = τ K j) (g : ∀ K j, (297 ≤ K ∧ K ≤ 314) → ¬ (K = 304 ∧ j = 6 * bi + nt) → ¬ ((305 ≤ K ∧ K ≤ 306) ∧ j = 8 * (6 * bi + nt) + n) → ρ' K j = ρ K j) (e1 : τ' (d + 9 + nt) n = (s : Int)) (e2 : τ' (d + 16 + nt) n = v) (e3 : ρ' 304 (6 * bi + nt) = ((n + 1 : Nat) : Int)) (e4 : ρ' 305 (8 * (6 * bi + nt) + n) = (s : Int)) (e5 : ρ' 306 (8 * (6 * bi + nt) + n) = v) : TRN τ' ρ' d bi nt ns (n + 1) (csU cs n s) := by
  obtain ⟨h1, h2, h3, h4, h5, h6, h7⟩ := h
  refine ⟨?_, ?_, ?_, e3, fun j hj => ?_, fun j hj => ?_, fun j j' hj hj' => ?_⟩
  · rw [f _ _ (by omega) (by omega) (by omega), g _ _ (by omega) (by omega) (by omega)]; exact h1
  · rw [f _ _ (by omega) (by omega) (by omega), g _ _ (by omega) (by omega) (by omega)]; exact h2
  · rw [f _ _ (by omega) (by omega) (by omega), g _ _ (by omega) (by omega) (by omega)]; exact h3
  · unfold csU
    by_cases e : j = n
    · subst e; rw [if_pos rfl]; exact ⟨e1, e4, hs⟩
    · rw [if_neg e, f _ _ (by omega) (by omega) (by omega), g _ _ (by omega) (by omega) (by omega)]
      exact h5 j (by omega)
  · by_cases e : j + 1 = n
    · rw [e, e2, e5]; exact ⟨rfl, hv⟩
    · rw [f _ _ (by omega) (by omega) (by omega), g _ _ (by omega) (by omega) (by omega)]
      exact h6 j (by omega)
  · unfold csU
    by_cases e : j' = n
    · rw [if_pos e, if_neg (by omega)]
      intro q
      exact hne ⟨j, by omega, q⟩
    · rw [if_neg e, if_neg (by omega)]
      exact h7 j j' hj (by omega)
/-- the train is told -/
theorem DRl_tr {τ τ' ρ ρ' : AH} {d bi np nt ns n : Nat} {L : Nat → Nat} {C : Nat → Nat → Nat} {cs : Nat → Nat} (h : DRl τ ρ d bi np nt ns L C) (hT : TRN τ ρ d bi nt ns n cs) (hnt : nt < 6) (hn2 : 2 ≤ n) (hn8 : n ≤ 8) (f : ∀ K j, (d ≤ K ∧ K ≤ d + 27) → ¬ (K = d ∧ j = 2) → ¬ (K = d + 7 ∧ j = nt) → τ' K j = τ K j) (g : ∀ K j, (297 ≤ K ∧ K ≤ 314) → ¬ (K = 300 ∧ j = bi) → ρ' K j = ρ K j) (e1 : τ' d 2 = ((nt + 1 : Nat) : Int)) (e2 : τ' (d + 7) nt = (n : Int)) (e3 : ρ' 300 bi = ((nt + 1 : Nat) : Int)) : DRl τ' ρ' d bi np (nt + 1) ns (fun t => if t = nt then n else L t) (fun t k => if t = nt then cs k else C t k) := by
  obtain ⟨⟨⟨d1, d2, d3, d4⟩, ⟨m0, m1, m2⟩, ⟨n2, n1, n0, s1, s2⟩, hTr, hCa, hAf, hPr, hDi⟩, ⟨hN0, hN1, hN2⟩, hPD⟩ := h
  obtain ⟨t1, t2, t3, t4, t5, t6, t7⟩ := hT
  refine ⟨⟨⟨?_, e1, ?_, ?_⟩, ⟨?_, e3, ?_⟩, ⟨n2, by omega, n0, ?_, ?_⟩, fun t ht => ?_, fun t k ht hk => ?_, fun t k ht hk => ?_, fun p hp => ?_, fun t k k' ht hk hk' => ?_⟩, ⟨fun s hs => ?_, fun s hs => ?_, fun s hs => ?_⟩, fun p hp => ?_⟩
  · rw [f _ _ (by omega) (by omega) (by omega)]; exact d1
  · rw [f _ _ (by omega) (by omega) (by omega), g _ _ (by omega) (by omega)]; exact d3
  · rw [f _ _ (by omega) (by omega) (by omega)]; exact d4
  · rw [g _ _ (by omega) (by omega)]; exact m0
  · rw [g _ _ (by omega) (by omega)]; exact m2
  · rw [g _ _ (by omega) (by omega)]; exact s1
  · rw [g _ _ (by omega) (by omega)]; exact s2
  · rw [f (d + 5) _ (by omega) (by omega) (by omega), f (d + 6) _ (by omega) (by omega) (by omega), g 304 _ (by omega) (by omega), g 302 _ (by omega) (by omega), g 303 _ (by omega) (by omega)]
    show τ' (d + 7) t = ((if t = nt then n else L t : Nat) : Int) ∧ ρ 304 (6 * bi + t) = ((if t = nt then n else L t : Nat) : Int) ∧ 2 ≤ (if t = nt then n else L t) ∧ (if t = nt then n else L t) ≤ 8 ∧ _
    by_cases e : t = nt
    · subst e; rw [if_pos rfl]; exact ⟨e2, t4, hn2, hn8, t2.1, t2.2.1, t2.2.2, t3⟩
    · rw [if_neg e, f (d + 7) _ (by omega) (by omega) (by omega)]; exact hTr t (by omega)
  · have hk' : k < (if t = nt then n else L t) := hk
    rw [f _ _ (by omega) (by omega) (by omega), g 305 _ (by omega) (by omega)]
    show _ = ((if t = nt then cs k else C t k : Nat) : Int) ∧ _ = ((if t = nt then cs k else C t k : Nat) : Int) ∧ (if t = nt then cs k else C t k) < ns
    by_cases e : t = nt
    · subst e; rw [if_pos rfl] at hk'; rw [if_pos rfl]; exact t5 k hk'
    · rw [if_neg e] at hk'; rw [if_neg e]; exact hCa t k (by omega) hk'
  · have hk' : k + 1 < (if t = nt then n else L t) := hk
    rw [f _ _ (by omega) (by omega) (by omega), g 306 _ (by omega) (by omega)]
    by_cases e : t = nt
    · subst e; rw [if_pos rfl] at hk'; exact t6 k hk'
    · rw [if_neg e] at hk'; exact hAf t k (by omega) hk'
  · rw [f _ _ (by omega) (by omega) (by omega), g 314 _ (by omega) (by omega)]
    exact hPr p hp
  · have hk2 : k' < (if t = nt then n else L t) := hk'
    show (if t = nt then cs k else C t k) ≠ (if t = nt then cs k' else C t k')
    by_cases e : t = nt
    · subst e; rw [if_pos rfl] at hk2; rw [if_pos rfl, if_pos rfl]; exact t7 k k' hk hk2
    · rw [if_neg e] at hk2; rw [if_neg e, if_neg e]; exact hDi t k k' (by omega) hk hk2
  · rw [f _ _ (by omega) (by omega) (by omega), g 298 _ (by omega) (by omega)]
    exact hN0 s hs
  · rw [f _ _ (by omega) (by omega) (by omega), g 301 _ (by omega) (by omega)]
    by_cases e : s = nt
    · subst e; exact t1
    · exact hN1 s (by omega)
  · rw [f _ _ (by omega) (by omega) (by omega), g 308 _ (by omega) (by omega)]
    exact hN2 s hs
  · rw [f (d + 23) _ (by omega) (by omega) (by omega), f (d + 24) _ (by omega) (by omega) (by omega), f (d + 25) _ (by omega) (by omega) (by omega), f (d + 26) _ (by omega) (by omega) (by omega), f (d + 27) _ (by omega) (by omega) (by omega), g 309 _ (by omega) (by omega), g 310 _ (by omega) (by omega), g 311 _ (by omega) (by omega), g 312 _ (by omega) (by omega), g 313 _ (by omega) (by omega)]
    exact hPD p hp
def LPd (f : Nat → Int) (N c : Nat) (K : Nat → Int) (S : Nat → Nat) (V : Nat → Int) (P : Nat → Nat) (d bi np nt ns : Nat) (L : Nat → Nat) (C : Nat → Nat → Nat) (i n : Nat) (cs : Nat → Nat) (τ ρ : AH) : Prop := PX f N c K S V P d bi np nt ns L C i τ ρ ∧ nt < 6 ∧ (1 ≤ n ∧ n ≤ 8) ∧ TRN τ ρ d bi nt ns n cs
def GQ (X : AX) (f : Nat → Int) (N c : Nat) (K : Nat → Int) (S : Nat → Nat) (V : Nat → Int) (P : Nat → Nat) (d bi nt : Nat) (y : AV) (τ ρ : AH) (r : Option AV) (τ' : AH) : Prop :=
  (r = some (0, 0) ∧ TT X 25 (74, [(2, 295), (0, ((6 * bi + nt : Nat) : Int)), (0, 1), y], [], ρ) (fun r' ρ' => r' = none ∧ CFR d τ τ' ∧ RFR bi ρ ρ' ∧ OUT f N c K S V P d bi r τ' ρ'))
  ∨ (r = some (0, 1) ∧ TT X 25 (74, [(2, 295), (0, ((6 * bi + nt : Nat) : Int)), (0, 1), y], [], ρ) (fun r' ρ' => r' = none ∧ CFR d τ τ' ∧ RFR bi ρ ρ' ∧ OUT f N c K S V P d bi r (up2 τ' d 2 ((nt + 1 : Nat) : Int)) ρ'))
theorem seg84 (X : AX) (Q : Option AV → AH → Prop) {f : Nat → Int} {N c i : Nat} {K : Nat → Int} {S : Nat → Nat} {V : Nat → Int} {P : Nat → Nat} {ρ : AH} (hT : TD f N c K S V P) (hR : RTk f N K S V P i ρ) (a1 a2 a3 : AV) (kk : ∀ ρ', FT 1 (plc K S V i) ρ' → RFB ρ ρ' → TT X 25 (94, [(2, 295), a1, a2, a3], [], ρ') Q) : TT X 25 (84, [(2, 295), a1, a2, a3], [], ρ) Q := by
  rcases rl_lex hR with hB | hA
  · refine TT.steps (cd := cd25) 1 (c' := (85, [(2, 295), a1, a2, a3], [(2, 295)], ρ)) rfl rfl ?_
    refine TT.call (cd := cd25) rfl rfl rfl (by decide) rfl (t_lex X ρ) (fun r1 σ1 hq => ?_)
    rw [hq.1, hq.2, hB.1]
    refine TT.steps (cd := cd25) 2 (c' := (88, [(2, 295), a1, a2, a3], [(0, (ρ 295 8))], ρ)) rfl rfl ?_
    refine TT.top0 (z := 0) hR.1 ?_
    refine TT.steps (cd := cd25) 5 (c' := (93, [(2, 295), a1, a2, a3], [(0, (ρ 295 4)), (0, 1), (2, 295)], ρ)) rfl rfl ?_
    refine TT.top0 (z := (((S i) : Nat) : Int)) hR.2.2.2.1 ?_
    refine TT.call (cd := cd25) rfl rfl rfl (by decide) rfl (t_blame X 1 (((S i) : Nat) : Int) ρ) (fun r2 σ2 hq => ?_)
    rw [hq.1, hq.2, mBl_0 hR.1]
    exact kk _ (by rw [hB.2.2.2]; exact FT_bl _ _ _) (RFB_bl _ _ _)
  · refine TT.steps (cd := cd25) 1 (c' := (85, [(2, 295), a1, a2, a3], [(2, 295)], ρ)) rfl rfl ?_
    refine TT.call (cd := cd25) rfl rfl rfl (by decide) rfl (t_lex X ρ) (fun r1 σ1 hq => ?_)
    rw [hq.1, hq.2, hA.2.2]
    refine TT.steps (cd := cd25) 2 (c' := (88, [(2, 295), a1, a2, a3], [(0, ((up2 (up2 ρ 295 8 1) 295 9 (((S i : Nat) : Int) + V i)) 295 8))], (up2 (up2 ρ 295 8 1) 295 9 (((S i : Nat) : Int) + V i)))) rfl rfl ?_
    refine TT.top0 (z := 1) ((up2_by _ _ (j := 9) (j' := 8) _ (by decide)).trans (up2_hit _ _ _ _)) ?_
    refine TT.steps (cd := cd25) 1 (c' := (94, [(2, 295), a1, a2, a3], [], (up2 (up2 ρ 295 8 1) 295 9 (((S i : Nat) : Int) + V i)))) rfl rfl ?_
    exact kk _ (by rw [hA.2.1]; exact FT_bl _ _ _) (RFB_bl _ _ _)
