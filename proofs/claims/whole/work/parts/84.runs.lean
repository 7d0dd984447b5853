/-! Runs of the class. -/
theorem bornAt_g {σ ρ : AH} {q v np ns : Nat} (hT : PTb σ ρ q v np ns) (s : Int) : (((bs (fun p => decide (σ (q + 2) p = s ∧ σ (q + 3) p = -1)) np : Nat) : Int) = 0) ↔ ¬ mAnyB ρ v np s = true := by
  have e : anyN (fun p => decide (σ (q + 2) p = s ∧ σ (q + 3) p = -1)) np = mAnyB ρ v np s := by
    apply anyN_c
    intro p hp
    obtain ⟨⟨s1, -, e1, e2⟩, e3, -⟩ := hT.2 p hp
    rw [e1, e2, e3]
  rw [← e]
  exact ⟨fun h g => (bs_ne _ _).mpr g h, fun h => Decidable.byContradiction (fun g => h ((bs_ne _ _).mp g))⟩
def RP (σ ρ τ : AH) (b np nt : Nat) (L : Nat → Nat) (ys : Nat) (s : Int) (n : Nat) : Prop := (∀ K j, (K < 42 ∨ (47 < K ∧ K < 198) ∨ 254 < K) → ¬ (K = 0 ∧ j = 11) → τ K j = σ K j) ∧ (τ 0 11 = (ruF ρ b np nt L ys s n).2.2 295 43 ∧ 0 ≤ (ruF ρ b np nt L ys s n).2.2 295 43 ∧ (ruF ρ b np nt L ys s n).2.2 295 43 < 2147483648) ∧ RF 1 ρ (ruF ρ b np nt L ys s n).2.2 ∧ (∃ a : Nat, (ruF ρ b np nt L ys s n).2.1 = (a : Int) ∧ a ≤ 200 * n)
theorem cpN_RF (ρ : AH) : RF 1 ρ (cpN ρ 1 0 10) := ⟨fun K j hK => cpN_fr _ _ _ _ _ _ (by omega), fun j hj => cpN_fr _ _ _ _ _ _ (by omega), fun j hj => (cpN_o ρ 1 0).1 j hj, fun K j hK hj => (cpN_o ρ 1 0).2 K j (by omega) (by omega)⟩
/-- a run's start -/
theorem RP_cp {σ ρ τ τ1 : AH} {l b np nt ns : Nat} {L : Nat → Nat} {C : Nat → Nat → Nat} {ys n : Nat} {s : Int} (hl : l = 8 ∨ l = 170) (hw : WK σ ρ l b 36 0 np nt ns L C) (h : RP σ ρ τ b np nt L ys s n) (hC : CP τ τ1 42 36) : WK τ1 (cpN (ruF ρ b np nt L ys s n).2.2 1 0 10) l b 42 1 np nt ns L C ∧ cpN (ruF ρ b np nt L ys s n).2.2 1 0 10 316 1 = ρ 316 0 := by
  obtain ⟨h1, h2, h3, -⟩ := h
  have hn := hw.2.1.2.2.1.1
  have hf1 : ∀ K j, (K < 42 ∨ (47 < K ∧ K < 198) ∨ 254 < K) → ¬ (K = 0 ∧ j = 11) → τ1 K j = σ K j := fun K j hK hj => (hC.1 K j (by omega)).trans (h1 K j hK hj)
  have hR := h3.trans (cpN_RF (ruF ρ b np nt L ys s n).2.2)
  have hP : PT τ (ruF ρ b np nt L ys s n).2.2 36 0 np ns := PT_mv hw.2.2.1 hn (fun K j hK => h1 K j (by omega) (by omega)) (h3.2.2.1 0 (by decide)) (fun K p hK hp => h3.2.2.2 K _ (by omega) (by omega))
  refine ⟨⟨(hf1 _ _ (by omega) (by omega)).trans hw.1, LT_mv hl hw.2.1 (fun K j hK => hf1 K j (by omega) (by omega)) (fun K j hK => hR.1 K j (by omega)) (hR.2.1 13 (by decide)), PT_cp hn hP hC (cpN_l _ 1 0).1 (cpN_l _ 1 0).2, ?_, ?_⟩, ?_⟩
  · unfold FL; rw [hR.2.1 44 (by decide), hR.2.1 45 (by decide), hR.2.1 57 (by decide)]; exact hw.2.2.2.1
  · rw [hC.1 0 11 (by omega), cpN_fr _ _ _ _ _ _ (by omega)]; exact h2
  · rw [(cpN_l _ 1 0).1]; exact h3.2.2.1 0 (by decide)
theorem RP_s {σ ρ τ τ1 υ : AH} {l b np nt ns : Nat} {L : Nat → Nat} {C : Nat → Nat → Nat} {ys n k yr : Nat} {s : Int} (hn : np ≤ 10) (h : RP σ ρ τ b np nt L ys s n) (hC : CP τ τ1 42 36) (hyr : cpN (ruF ρ b np nt L ys s n).2.2 1 0 10 316 1 = (yr : Int)) (hk1 : k ≤ ys) (hk2 : yr + k ≤ 9999) (hk3 : k = ys ∨ yr + k = 9999) (hys : ys ≤ 20) (hn2 : n ≤ 20) (hw2 : WK υ (yrE (cpN (ruF ρ b np nt L ys s n).2.2 1 0 10) b 1 np nt L k).2 l b 42 1 np nt ns L C) (hcf : CF 42 τ1 υ) :
    RP σ ρ υ b np nt L ys s (n + 1) ∧ (ruF ρ b np nt L ys s (n + 1)).2.1 = aAdd (ruF ρ b np nt L ys s n).2.1 (((yrE (cpN (ruF ρ b np nt L ys s n).2.2 1 0 10) b 1 np nt L k).1 : Nat) : Int) ∧ (ruF ρ b np nt L ys s (n + 1)).1 = aAdd (ruF ρ b np nt L ys s n).1 (if mAnyB (yrE (cpN (ruF ρ b np nt L ys s n).2.2 1 0 10) b 1 np nt L k).2 1 np s = true then 0 else 1) := by
  obtain ⟨h1, h2, h3, a, h4, h5⟩ := h
  have hle := yrE_le (cpN (ruF ρ b np nt L ys s n).2.2 1 0 10) b 1 np nt L k
  have hle2 : np * k ≤ 10 * 20 := Nat.mul_le_mul hn (by omega)
  have eR := ryF_E b np nt L hn ys a (cpN (ruF ρ b np nt L ys s n).2.2 1 0 10) yr k hyr hk1 hk2 hk3 (by omega)
  rw [← h4] at eR
  have hru : ruF ρ b np nt L ys s (n + 1) = (aAdd (ruF ρ b np nt L ys s n).1 (if mAnyB (yrE (cpN (ruF ρ b np nt L ys s n).2.2 1 0 10) b 1 np nt L k).2 1 np s = true then 0 else 1), ((a + (yrE (cpN (ruF ρ b np nt L ys s n).2.2 1 0 10) b 1 np nt L k).1 : Nat) : Int), up2 (yrE (cpN (ruF ρ b np nt L ys s n).2.2 1 0 10) b 1 np nt L k).2 295 46 1) := by
    rw [ruF, eR]
  have hRF2 := (h3.trans (cpN_RF (ruF ρ b np nt L ys s n).2.2)).trans (yrE_RF (cpN (ruF ρ b np nt L ys s n).2.2 1 0 10) b 1 np nt L hn k)
  refine ⟨⟨fun K j hK hj => ?_, ?_, ?_, ?_⟩, ?_, ?_⟩
  · rw [hcf K j (by omega) (by omega) hj, hC.1 K j (by omega)]; exact h1 K j hK hj
  · rw [hru]; dsimp only; rw [up2_nq _ (by omega)]; exact hw2.2.2.2.2
  · rw [hru]; dsimp only
    exact hRF2.trans ⟨fun K j hK => up2_nq _ (by omega), fun j hj => up2_nq _ (by omega), fun j hj => up2_nq _ (by omega), fun K j hK hj => up2_nq _ (by omega)⟩
  · rw [hru]; exact ⟨_, rfl, by omega⟩
  · rw [hru, h4]; dsimp only; rw [aAdd_of (by omega) (by omega)]; omega
  · rw [hru]
theorem IV_runs {σ τ ρ ρ' : AH} {l b np nt ns : Nat} {L : Nat → Nat} {C : Nat → Nat → Nat} {w tp u tl oc : Nat} (h : IV σ ρ l b np nt ns L C w tp u tl oc) (h1 : ∀ K j, (K < 42 ∨ (47 < K ∧ K < 198) ∨ 254 < K) → ¬ (K = 0 ∧ j = 11) → τ K j = σ K j) (h2 : RF 1 ρ ρ') (hs : τ 0 11 = ρ' 295 43 ∧ 0 ≤ ρ' 295 43 ∧ ρ' 295 43 < 2147483648) : IV τ ρ' l b np nt ns L C w tp u tl oc := by
  refine IV_q (IV_seed h (ρ' 295 43) hs.2) (fun K j hK => ?_) ⟨fun K j hK => ?_, fun j hj => ?_, fun j hj => ?_, fun K j hK hj => ?_⟩
  · by_cases e : K = 0 ∧ j = 11
    · obtain ⟨rfl, rfl⟩ := e; rw [up2_hit]; exact hs.1
    · rw [up2_nq _ (by omega)]; exact h1 K j hK e
  · rw [up2_nq _ (by omega)]; exact h2.1 K j hK
  · by_cases e : j = 43
    · subst e; rw [up2_hit]
    · rw [up2_nq _ (by omega)]; exact h2.2.1 j ⟨e, hj⟩
  · rw [up2_nq _ (by omega)]; exact h2.2.2.1 j hj
  · rw [up2_nq _ (by omega)]; exact h2.2.2.2 K j hK (by omega)
theorem vl_runs (X : AX) (Q : Option AV → AH → Prop) {l : Nat} (hl : l = 8 ∨ l = 170) {σ ρ : AH} {b np nt ns : Nat} {L : Nat → Nat} {C : Nat → Nat → Nat} (hw : WK σ ρ l b 36 0 np nt ns L C) (c1 : np ≤ 10) (m ys k yr : Nat) (hm : m ≤ 20) (hys : ys ≤ 20) (hyr : ρ 316 0 = (yr : Int)) (hk1 : k ≤ ys) (hk2 : yr + k ≤ 9999) (hk3 : k = ys ∨ yr + k = 9999) (s w0 : Int)  (kk : ∀ (τ : AH), RP σ ρ τ b np nt L ys s m → TT X 209 (58, [(2, 0), (0, ((m : Nat) : Int)), (0, ((ys : Nat) : Int)), (0, s), (0, w0), (0, (ruF ρ b np nt L ys s m).1), (0, (ruF ρ b np nt L ys s m).2.1), (0, ((m : Nat) : Int))], [], τ) Q) : ∀ (d n : Nat), n + d = m → ∀ (τ : AH), RP σ ρ τ b np nt L ys s n → TT X 209 (29, [(2, 0), (0, ((m : Nat) : Int)), (0, ((ys : Nat) : Int)), (0, s), (0, w0), (0, (ruF ρ b np nt L ys s n).1), (0, (ruF ρ b np nt L ys s n).2.1), (0, ((n : Nat) : Int))], [], τ) Q := by
  intro d
  induction d with
  | zero =>
    intro n hn τ hP
    have hnn : n = m := by omega
    rw [hnn] at hP ⊢
    refine TT.steps (cd := cd209) 3 (c' := ((if decide (((m : Nat) : Int) ≤ ((m : Nat) : Int)) = true then 58 else 32), [(2, 0), (0, ((m : Nat) : Int)), (0, ((ys : Nat) : Int)), (0, s), (0, w0), (0, (ruF ρ b np nt L ys s m).1), (0, (ruF ρ b np nt L ys s m).2.1), (0, ((m : Nat) : Int))], [], τ)) rfl rfl ?_
    refine TT.br (p := ((m : Nat) : Int) ≤ ((m : Nat) : Int)) (fun h1 => ?_) (fun h1 => absurd (show ((m : Nat) : Int) ≤ ((m : Nat) : Int) by omega) h1)
    exact kk _ hP
  | succ d ih =>
    intro n hn τ hP
    refine TT.steps (cd := cd209) 3 (c' := ((if decide (((m : Nat) : Int) ≤ ((n : Nat) : Int)) = true then 58 else 32), [(2, 0), (0, ((m : Nat) : Int)), (0, ((ys : Nat) : Int)), (0, s), (0, w0), (0, (ruF ρ b np nt L ys s n).1), (0, (ruF ρ b np nt L ys s n).2.1), (0, ((n : Nat) : Int))], [], τ)) rfl rfl ?_
    refine TT.br (p := ((m : Nat) : Int) ≤ ((n : Nat) : Int)) (fun h1 => absurd h1 (show ¬ (((m : Nat) : Int) ≤ ((n : Nat) : Int)) by omega)) (fun h1 => ?_)
    refine TT.steps (cd := cd209) 4 (c' := (36, [(2, 0), (0, ((m : Nat) : Int)), (0, ((ys : Nat) : Int)), (0, s), (0, w0), (0, (ruF ρ b np nt L ys s n).1), (0, (ruF ρ b np nt L ys s n).2.1), (0, ((n : Nat) : Int))], [(2, 36), (2, 42)], τ)) rfl rfl ?_
    refine TT.call (cd := cd209) rfl rfl rfl (by decide) rfl (v_copy_42_36 X τ) (fun r2 σ2 hq => ?_)
    obtain ⟨rfl, hC⟩ := hq
    obtain ⟨hwk, hy16⟩ := RP_cp hl hw hP hC
    refine TT.steps (cd := cd209) 5 (c' := (42, [(2, 0), (0, ((m : Nat) : Int)), (0, ((ys : Nat) : Int)), (0, s), (0, w0), (0, (ruF ρ b np nt L ys s n).1), (0, (ruF ρ b np nt L ys s n).2.1), (0, ((n : Nat) : Int))], [(0, ((ys : Nat) : Int)), (2, 42), (2, 0), (0, (ruF ρ b np nt L ys s n).2.1)], σ2)) rfl rfl ?_
    refine TT.call (cd := cd209) rfl rfl rfl (by decide) rfl (v_passYears_42 X hl c1 ys k yr (by omega) (hy16.trans hyr) hk1 hk2 hk3 hwk) (fun r3 σ3 hq => ?_)
    obtain ⟨hr4, hw4, hc4⟩ := hq
    rw [hr4]
    obtain ⟨hRP, hd1, hd2⟩ := RP_s c1 hP hC (hy16.trans hyr) hk1 hk2 hk3 hys (by omega) hw4 hc4
    have hle := yrE_le (cpN (ruF ρ b np nt L ys s n).2.2 1 0 10) b 1 np nt L k
    refine TT.steps (cd := cd209) 1 (c' := (44, [(2, 0), (0, ((m : Nat) : Int)), (0, ((ys : Nat) : Int)), (0, s), (0, w0), (0, (ruF ρ b np nt L ys s n).1), (0, (ruF ρ b np nt L ys s n).2.1), (0, ((n : Nat) : Int))], [(0, (aAdd (ruF ρ b np nt L ys s n).2.1 (((yrE (cpN (ruF ρ b np nt L ys s n).2.2 1 0 10) b 1 np nt L k).1 : Nat) : Int)))], σ3)) rfl rfl ?_
    refine TT.top0 (z := ((ruF ρ b np nt L ys s (n + 1)).2.1)) hd1.symm ?_
    refine TT.steps (cd := cd209) 5 (c' := (49, [(2, 0), (0, ((m : Nat) : Int)), (0, ((ys : Nat) : Int)), (0, s), (0, w0), (0, (ruF ρ b np nt L ys s n).1), (0, ((ruF ρ b np nt L ys s (n + 1)).2.1)), (0, ((n : Nat) : Int))], [(0, s), (2, 42), (0, (ruF ρ b np nt L ys s n).1)], σ3)) rfl rfl ?_
    refine TT.call (cd := cd209) rfl rfl rfl (by decide) rfl (u_bornAtS X s np σ3 hw4.2.2.1.1.1 c1) (fun r4 σ4 hq => ?_)
    rw [hq.1, hq.2]
    refine TT.steps (cd := cd209) 1 (c' := ((if decide (¬ ((bs (fun p => decide (σ3 44 p = s ∧ σ3 45 p = -1)) np : Nat) : Int) = 0) = true then 53 else 51), [(2, 0), (0, ((m : Nat) : Int)), (0, ((ys : Nat) : Int)), (0, s), (0, w0), (0, (ruF ρ b np nt L ys s n).1), (0, ((ruF ρ b np nt L ys s (n + 1)).2.1)), (0, ((n : Nat) : Int))], [(0, (ruF ρ b np nt L ys s n).1)], σ3)) rfl rfl ?_
    refine TT.br (p := ¬ ((bs (fun p => decide (σ3 44 p = s ∧ σ3 45 p = -1)) np : Nat) : Int) = 0) (fun h5 => ?_) (fun h5 => ?_)
    · refine TT.steps (cd := cd209) 2 (c' := (55, [(2, 0), (0, ((m : Nat) : Int)), (0, ((ys : Nat) : Int)), (0, s), (0, w0), (0, (ruF ρ b np nt L ys s n).1), (0, ((ruF ρ b np nt L ys s (n + 1)).2.1)), (0, ((n : Nat) : Int))], [(0, (aAdd (ruF ρ b np nt L ys s n).1 0))], σ3)) rfl rfl ?_
      refine TT.top0 (z := ((ruF ρ b np nt L ys s (n + 1)).1)) (by rw [hd2, if_pos (Decidable.not_not.mp (fun g => absurd ((bornAt_g hw4.2.2.1.1 s).mpr g) (by assumption)))]) ?_
      refine TT.steps (cd := cd209) 1 (c' := (56, [(2, 0), (0, ((m : Nat) : Int)), (0, ((ys : Nat) : Int)), (0, s), (0, w0), (0, ((ruF ρ b np nt L ys s (n + 1)).1)), (0, ((ruF ρ b np nt L ys s (n + 1)).2.1)), (0, ((n : Nat) : Int))], [], σ3)) rfl rfl ?_
      refine TT.inc (cd := cd209) ((n + 1 : Nat) : Int) rfl rfl rfl rfl (fun h => absurd h.2 (show ¬ (0 = 1) by decide)) (aAdd_n (a := n) (b := 1) (by omega)) (ls' := [(2, 0), (0, ((m : Nat) : Int)), (0, ((ys : Nat) : Int)), (0, s), (0, w0), (0, ((ruF ρ b np nt L ys s (n + 1)).1)), (0, ((ruF ρ b np nt L ys s (n + 1)).2.1)), (0, ((n + 1 : Nat) : Int))]) rfl ?_
      refine TT.steps (cd := cd209) 1 (c' := (29, [(2, 0), (0, ((m : Nat) : Int)), (0, ((ys : Nat) : Int)), (0, s), (0, w0), (0, ((ruF ρ b np nt L ys s (n + 1)).1)), (0, ((ruF ρ b np nt L ys s (n + 1)).2.1)), (0, ((n + 1 : Nat) : Int))], [], σ3)) rfl rfl ?_
      have e5 : ((ruF ρ b np nt L ys s (n + 1)).1) = (ruF ρ b np nt L ys s (n + 1)).1 := by rfl
      rw [e5]
      clear e5
      have e6 : ((ruF ρ b np nt L ys s (n + 1)).2.1) = (ruF ρ b np nt L ys s (n + 1)).2.1 := by rfl
      rw [e6]
      clear e6
      have e7 : ((n + 1 : Nat) : Int) = (((n + 1) : Nat) : Int) := by omega
      rw [e7]
      clear e7
      exact ih (n + 1) (by omega) _ (hRP)
    · refine TT.steps (cd := cd209) 3 (c' := (55, [(2, 0), (0, ((m : Nat) : Int)), (0, ((ys : Nat) : Int)), (0, s), (0, w0), (0, (ruF ρ b np nt L ys s n).1), (0, ((ruF ρ b np nt L ys s (n + 1)).2.1)), (0, ((n : Nat) : Int))], [(0, (aAdd (ruF ρ b np nt L ys s n).1 1))], σ3)) rfl rfl ?_
      refine TT.top0 (z := ((ruF ρ b np nt L ys s (n + 1)).1)) (by rw [hd2, if_neg ((bornAt_g hw4.2.2.1.1 s).mp (Decidable.not_not.mp (by assumption)))]) ?_
      refine TT.steps (cd := cd209) 1 (c' := (56, [(2, 0), (0, ((m : Nat) : Int)), (0, ((ys : Nat) : Int)), (0, s), (0, w0), (0, ((ruF ρ b np nt L ys s (n + 1)).1)), (0, ((ruF ρ b np nt L ys s (n + 1)).2.1)), (0, ((n : Nat) : Int))], [], σ3)) rfl rfl ?_
      refine TT.inc (cd := cd209) ((n + 1 : Nat) : Int) rfl rfl rfl rfl (fun h => absurd h.2 (show ¬ (0 = 1) by decide)) (aAdd_n (a := n) (b := 1) (by omega)) (ls' := [(2, 0), (0, ((m : Nat) : Int)), (0, ((ys : Nat) : Int)), (0, s), (0, w0), (0, ((ruF ρ b np nt L ys s (n + 1)).1)), (0, ((ruF ρ b np nt L ys s (n + 1)).2.1)), (0, ((n + 1 : Nat) : Int))]) rfl ?_
      refine TT.steps (cd := cd209) 1 (c' := (29, [(2, 0), (0, ((m : Nat) : Int)), (0, ((ys : Nat) : Int)), (0, s), (0, w0), (0, ((ruF ρ b np nt L ys s (n + 1)).1)), (0, ((ruF ρ b np nt L ys s (n + 1)).2.1)), (0, ((n + 1 : Nat) : Int))], [], σ3)) rfl rfl ?_
      have e5 : ((ruF ρ b np nt L ys s (n + 1)).1) = (ruF ρ b np nt L ys s (n + 1)).1 := by rfl
      rw [e5]
      clear e5
      have e6 : ((ruF ρ b np nt L ys s (n + 1)).2.1) = (ruF ρ b np nt L ys s (n + 1)).2.1 := by rfl
      rw [e6]
      clear e6
      have e7 : ((n + 1 : Nat) : Int) = (((n + 1) : Nat) : Int) := by omega
      rw [e7]
      clear e7
      exact ih (n + 1) (by omega) _ (hRP)
theorem K_runs1 (X : AX) {l : Nat} {σ ρ : AH} {b np nt ns : Nat} {L : Nat → Nat} {C : Nat → Nat → Nat} {w tp u tl oc : Nat} (h : IV σ ρ l b np nt ns L C w tp u tl oc) (m ys : Nat) (hm : 1 ≤ m ∧ m ≤ 20) (hys : 1 ≤ ys ∧ ys ≤ 20) (s w0 : Int) (hs : 0 ≤ s ∧ s < (ns : Int)) (hw0 : 0 ≤ w0 ∧ w0 ≤ 1)  : TT X 209 (0, [(2, 0), (0, ((m : Nat) : Int)), (0, ((ys : Nat) : Int)), (0, s), (0, w0), (9, 0), (9, 0), (9, 0)], [], σ) (fun r σ' => r = some (0, if w0 = 0 then (ruF ρ b np nt L ys s m).1 else (ruF ρ b np nt L ys s m).2.1) ∧ EX σ' (ruF ρ b np nt L ys s m).2.2 ∧ (∀ K j, (295 ≤ K ∨ K = 30 ∨ K = 192) → σ' K j = σ K j)) := by
  obtain ⟨⟨hl, h05, h33⟩, hL, hN, hPT, hF, hA, hTp, hO, hM, hH⟩ := id h
  obtain ⟨⟨a1, a2, a3, a4⟩, ⟨b1, b2, b3, b4, b5⟩, ⟨c1, c2, c3, c4, c5⟩, hTr, hCa, hAf, hPr, hDi⟩ := id hL
  obtain ⟨hPb, ⟨y1, y2, y3⟩, hhi, hPp⟩ := id hPT
  obtain ⟨yr, hyr, hyr2⟩ : ∃ yr : Nat, ρ 316 0 = (yr : Int) ∧ yr ≤ 9999 := ⟨(ρ 316 0).toNat, by omega, by omega⟩
  obtain ⟨k, hk1, hk2, hk3⟩ : ∃ k : Nat, k ≤ ys ∧ yr + k ≤ 9999 ∧ (k = ys ∨ yr + k = 9999) := by
    by_cases e : yr + ys ≤ 9999
    · exact ⟨ys, by omega, e, Or.inl rfl⟩
    · exact ⟨9999 - yr, by omega, by omega, by omega⟩
  refine TT.steps (cd := cd209) 3 (c' := ((if decide (((m : Nat) : Int) < 1) = true then 21 else 3), [(2, 0), (0, ((m : Nat) : Int)), (0, ((ys : Nat) : Int)), (0, s), (0, w0), (9, 0), (9, 0), (9, 0)], [], σ)) rfl rfl ?_
  refine TT.br (p := ((m : Nat) : Int) < 1) (fun h1 => absurd h1 (show ¬ (((m : Nat) : Int) < 1) by omega)) (fun h1 => ?_)
  refine TT.steps (cd := cd209) 3 (c' := ((if decide (20 < ((m : Nat) : Int)) = true then 21 else 6), [(2, 0), (0, ((m : Nat) : Int)), (0, ((ys : Nat) : Int)), (0, s), (0, w0), (9, 0), (9, 0), (9, 0)], [], σ)) rfl rfl ?_
  refine TT.br (p := 20 < ((m : Nat) : Int)) (fun h2 => absurd h2 (show ¬ (20 < ((m : Nat) : Int)) by omega)) (fun h2 => ?_)
  refine TT.steps (cd := cd209) 3 (c' := ((if decide (((ys : Nat) : Int) < 1) = true then 21 else 9), [(2, 0), (0, ((m : Nat) : Int)), (0, ((ys : Nat) : Int)), (0, s), (0, w0), (9, 0), (9, 0), (9, 0)], [], σ)) rfl rfl ?_
  refine TT.br (p := ((ys : Nat) : Int) < 1) (fun h3 => absurd h3 (show ¬ (((ys : Nat) : Int) < 1) by omega)) (fun h3 => ?_)
  refine TT.steps (cd := cd209) 3 (c' := ((if decide (20 < ((ys : Nat) : Int)) = true then 21 else 12), [(2, 0), (0, ((m : Nat) : Int)), (0, ((ys : Nat) : Int)), (0, s), (0, w0), (9, 0), (9, 0), (9, 0)], [], σ)) rfl rfl ?_
  refine TT.br (p := 20 < ((ys : Nat) : Int)) (fun h4 => absurd h4 (show ¬ (20 < ((ys : Nat) : Int)) by omega)) (fun h4 => ?_)
  refine TT.steps (cd := cd209) 2 (c' := (14, [(2, 0), (0, ((m : Nat) : Int)), (0, ((ys : Nat) : Int)), (0, s), (0, w0), (9, 0), (9, 0), (9, 0)], [(0, s), (2, 0)], σ)) rfl rfl ?_
  refine TT.call (cd := cd209) rfl rfl rfl (by decide) rfl (w_isStation X hl s σ h05) (fun r5 σ5 hq => ?_)
  rw [hq.1, hq.2, a1, if_pos hs]
  refine TT.steps (cd := cd209) 3 (c' := ((if decide (w0 < 0) = true then 21 else 18), [(2, 0), (0, ((m : Nat) : Int)), (0, ((ys : Nat) : Int)), (0, s), (0, w0), (9, 0), (9, 0), (9, 0)], [], σ)) rfl rfl ?_
  refine TT.br (p := w0 < 0) (fun h6 => absurd h6 (show ¬ (w0 < 0) by omega)) (fun h6 => ?_)
  refine TT.steps (cd := cd209) 3 (c' := ((if decide (w0 ≤ 1) = true then 23 else 21), [(2, 0), (0, ((m : Nat) : Int)), (0, ((ys : Nat) : Int)), (0, s), (0, w0), (9, 0), (9, 0), (9, 0)], [], σ)) rfl rfl ?_
  refine TT.br (p := w0 ≤ 1) (fun h7 => ?_) (fun h7 => absurd (show w0 ≤ 1 by omega) h7)
  refine TT.steps (cd := cd209) 6 (c' := (29, [(2, 0), (0, ((m : Nat) : Int)), (0, ((ys : Nat) : Int)), (0, s), (0, w0), (0, 0), (0, 0), (0, 0)], [], σ)) rfl rfl ?_
  refine vl_runs X _ hl (IV_WK h) c1 m ys k yr hm.2 hys.2 hyr hk1 hk2 hk3 s w0 (fun τ hP => ?_) m 0 (by omega) σ ⟨fun _ _ _ _ => rfl, hM.1, RF.refl _ _, 0, rfl, by omega⟩
  refine TT.steps (cd := cd209) 2 (c' := ((if decide (¬ w0 = 0) = true then 62 else 60), [(2, 0), (0, ((m : Nat) : Int)), (0, ((ys : Nat) : Int)), (0, s), (0, w0), (0, (ruF ρ b np nt L ys s m).1), (0, (ruF ρ b np nt L ys s m).2.1), (0, ((m : Nat) : Int))], [], τ)) rfl rfl ?_
  refine TT.br (p := ¬ w0 = 0) (fun h8 => ?_) (fun h8 => ?_)
  · refine TT.steps (cd := cd209) 1 (c' := (63, [(2, 0), (0, ((m : Nat) : Int)), (0, ((ys : Nat) : Int)), (0, s), (0, w0), (0, (ruF ρ b np nt L ys s m).1), (0, (ruF ρ b np nt L ys s m).2.1), (0, ((m : Nat) : Int))], [(0, (ruF ρ b np nt L ys s m).2.1)], τ)) rfl rfl ?_
    exact TT.ret (cd := cd209) rfl rfl rfl rfl (⟨by (symm; repeat (first | rw [if_pos (by assumption)] | rw [if_neg (by assumption)] | rw [if_pos (Decidable.not_not.mp (by assumption))])), ⟨_, _, _, _, _, _, _, _, _, _, _, _, IV_runs h hP.1 hP.2.2.1 hP.2.1⟩, fun K j hK => hP.1 K j (by omega) (by omega)⟩)
  · refine TT.steps (cd := cd209) 2 (c' := (63, [(2, 0), (0, ((m : Nat) : Int)), (0, ((ys : Nat) : Int)), (0, s), (0, w0), (0, (ruF ρ b np nt L ys s m).1), (0, (ruF ρ b np nt L ys s m).2.1), (0, ((m : Nat) : Int))], [(0, (ruF ρ b np nt L ys s m).1)], τ)) rfl rfl ?_
    exact TT.ret (cd := cd209) rfl rfl rfl rfl (⟨by (symm; repeat (first | rw [if_pos (by assumption)] | rw [if_neg (by assumption)] | rw [if_pos (Decidable.not_not.mp (by assumption))])), ⟨_, _, _, _, _, _, _, _, _, _, _, _, IV_runs h hP.1 hP.2.2.1 hP.2.1⟩, fun K j hK => hP.1 K j (by omega) (by omega)⟩)
theorem K_runs0 (X : AX) {l : Nat} {σ ρ : AH} {b np nt ns : Nat} {L : Nat → Nat} {C : Nat → Nat → Nat} {w tp u tl oc : Nat} (h : IV σ ρ l b np nt ns L C w tp u tl oc) (m ys s w0 : Int) (hs : ¬ (1 ≤ m ∧ m ≤ 20) ∨ ¬ (1 ≤ ys ∧ ys ≤ 20) ∨ ¬ (0 ≤ s ∧ s < (ns : Int)) ∨ ¬ (0 ≤ w0 ∧ w0 ≤ 1))  : TT X 209 (0, [(2, 0), (0, m), (0, ys), (0, s), (0, w0), (9, 0), (9, 0), (9, 0)], [], σ) (fun r σ' => r = some (0, -1) ∧ QS σ σ') := by
  obtain ⟨⟨hl, h05, h33⟩, hL, hN, hPT, hF, hA, hTp, hO, hM, hH⟩ := id h
  obtain ⟨⟨a1, a2, a3, a4⟩, ⟨b1, b2, b3, b4, b5⟩, ⟨c1, c2, c3, c4, c5⟩, hTr, hCa, hAf, hPr, hDi⟩ := id hL
  obtain ⟨hPb, ⟨y1, y2, y3⟩, hhi, hPp⟩ := id hPT
  refine TT.steps (cd := cd209) 3 (c' := ((if decide (m < 1) = true then 21 else 3), [(2, 0), (0, m), (0, ys), (0, s), (0, w0), (9, 0), (9, 0), (9, 0)], [], σ)) rfl rfl ?_
  refine TT.br (p := m < 1) (fun h1 => ?_) (fun h1 => ?_)
  · refine TT.steps (cd := cd209) 1 (c' := (22, [(2, 0), (0, m), (0, ys), (0, s), (0, w0), (9, 0), (9, 0), (9, 0)], [(0, -1)], σ)) rfl rfl ?_
    exact TT.ret (cd := cd209) rfl rfl rfl rfl (⟨rfl, QS.refl σ⟩)
  · refine TT.steps (cd := cd209) 3 (c' := ((if decide (20 < m) = true then 21 else 6), [(2, 0), (0, m), (0, ys), (0, s), (0, w0), (9, 0), (9, 0), (9, 0)], [], σ)) rfl rfl ?_
    refine TT.br (p := 20 < m) (fun h2 => ?_) (fun h2 => ?_)
    · refine TT.steps (cd := cd209) 1 (c' := (22, [(2, 0), (0, m), (0, ys), (0, s), (0, w0), (9, 0), (9, 0), (9, 0)], [(0, -1)], σ)) rfl rfl ?_
      exact TT.ret (cd := cd209) rfl rfl rfl rfl (⟨rfl, QS.refl σ⟩)
    · refine TT.steps (cd := cd209) 3 (c' := ((if decide (ys < 1) = true then 21 else 9), [(2, 0), (0, m), (0, ys), (0, s), (0, w0), (9, 0), (9, 0), (9, 0)], [], σ)) rfl rfl ?_
      refine TT.br (p := ys < 1) (fun h3 => ?_) (fun h3 => ?_)
      · refine TT.steps (cd := cd209) 1 (c' := (22, [(2, 0), (0, m), (0, ys), (0, s), (0, w0), (9, 0), (9, 0), (9, 0)], [(0, -1)], σ)) rfl rfl ?_
        exact TT.ret (cd := cd209) rfl rfl rfl rfl (⟨rfl, QS.refl σ⟩)
      · refine TT.steps (cd := cd209) 3 (c' := ((if decide (20 < ys) = true then 21 else 12), [(2, 0), (0, m), (0, ys), (0, s), (0, w0), (9, 0), (9, 0), (9, 0)], [], σ)) rfl rfl ?_
        refine TT.br (p := 20 < ys) (fun h4 => ?_) (fun h4 => ?_)
        · refine TT.steps (cd := cd209) 1 (c' := (22, [(2, 0), (0, m), (0, ys), (0, s), (0, w0), (9, 0), (9, 0), (9, 0)], [(0, -1)], σ)) rfl rfl ?_
          exact TT.ret (cd := cd209) rfl rfl rfl rfl (⟨rfl, QS.refl σ⟩)
        · refine TT.steps (cd := cd209) 2 (c' := (14, [(2, 0), (0, m), (0, ys), (0, s), (0, w0), (9, 0), (9, 0), (9, 0)], [(0, s), (2, 0)], σ)) rfl rfl ?_
          refine TT.call (cd := cd209) rfl rfl rfl (by decide) rfl (w_isStation X hl s σ h05) (fun r5 σ5 hq => ?_)
          rw [hq.1, hq.2, a1]
          refine TT.steps (cd := cd209) 1 (c' := ((if decide (((if 0 ≤ s ∧ s < (ns : Int) then 1 else 0) : Int) = 0) = true then 21 else 16), [(2, 0), (0, m), (0, ys), (0, s), (0, w0), (9, 0), (9, 0), (9, 0)], [], σ)) rfl rfl ?_
          refine TT.br (p := ((if 0 ≤ s ∧ s < (ns : Int) then 1 else 0) : Int) = 0) (fun h6 => ?_) (fun h6 => ?_)
          · replace h6 := ite_f h6
            refine TT.steps (cd := cd209) 1 (c' := (22, [(2, 0), (0, m), (0, ys), (0, s), (0, w0), (9, 0), (9, 0), (9, 0)], [(0, -1)], σ)) rfl rfl ?_
            exact TT.ret (cd := cd209) rfl rfl rfl rfl (⟨rfl, QS.refl σ⟩)
          · replace h6 := ite_t h6
            refine TT.steps (cd := cd209) 2 (c' := ((if decide (w0 < 0) = true then 21 else 18), [(2, 0), (0, m), (0, ys), (0, s), (0, w0), (9, 0), (9, 0), (9, 0)], [], σ)) rfl rfl ?_
            refine TT.br (p := w0 < 0) (fun h7 => ?_) (fun h7 => ?_)
            · refine TT.steps (cd := cd209) 1 (c' := (22, [(2, 0), (0, m), (0, ys), (0, s), (0, w0), (9, 0), (9, 0), (9, 0)], [(0, -1)], σ)) rfl rfl ?_
              exact TT.ret (cd := cd209) rfl rfl rfl rfl (⟨rfl, QS.refl σ⟩)
            · refine TT.steps (cd := cd209) 3 (c' := ((if decide (w0 ≤ 1) = true then 23 else 21), [(2, 0), (0, m), (0, ys), (0, s), (0, w0), (9, 0), (9, 0), (9, 0)], [], σ)) rfl rfl ?_
              refine TT.br (p := w0 ≤ 1) (fun h8 => ?_) (fun h8 => ?_)
              · omega
              · refine TT.steps (cd := cd209) 1 (c' := (22, [(2, 0), (0, m), (0, ys), (0, s), (0, w0), (9, 0), (9, 0), (9, 0)], [(0, -1)], σ)) rfl rfl ?_
                exact TT.ret (cd := cd209) rfl rfl rfl rfl (⟨rfl, QS.refl σ⟩)
