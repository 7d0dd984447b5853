/-! Years, whole. -/
theorem WK_year {σ0 τ τ1 υ2 υ3 ρ : AH} {l b q v np nt ns yr : Nat} {L : Nat → Nat} {C : Nat → Nat → Nat} (hl : l = 8 ∨ l = 170) (hq : q = 36 ∨ q = 42) (hw : WK τ ρ l b q v np nt ns L C) (hFr : ∀ K j, (K < 198 ∨ 254 < K) → τ1 K j = τ K j) (hY : YD τ1 υ2 q np) (hA : AG υ2 υ3 (mY1 (mDay ρ b v np nt L) v np) q v np ns np) (hy : ρ 316 v = (yr : Int)) (hy2 : yr + 1 ≤ 9999) : WK (up2 υ3 q 1 (aAdd (ρ 316 v) 1)) (mYear ρ b v np nt L).2 l b q v np nt ns L C ∧ CF q τ (up2 υ3 q 1 (aAdd (ρ 316 v) 1)) := by
  have hn := hw.2.1.2.2.1.1
  have hcf : CF q τ (up2 υ3 q 1 (aAdd (ρ 316 v) 1)) := by
    intro K j h1 h2 h3
    rw [up2_nq _ (by omega), hA.2.2 K j h1 h3, hY.1 K j (by omega) (by omega), hFr K j h2]
  have e16 : (mY2 (mY1 (mDay ρ b v np nt L) v np) v np).2 316 v = ρ 316 v := (mY2_fr _ _ _ _ _ (by decide)).trans ((mY1_fr _ _ _ _ _ (by decide)).trans (mDay_fr _ _ _ _ _ _ _ _ (by decide)))
  refine ⟨WK_mv hl hq hw hcf (mYear_RF ρ b v np nt L hn) ?_ ?_, hcf⟩
  · have := PT_yr hn hA.1 (e16.trans hy) hy2
    rw [e16] at this
    exact this
  · have h2 := hA.2.1
    unfold mYear
    dsimp only
    rw [up2_nq _ (by omega), up2_nq _ (by omega)]
    exact h2
theorem yrE_mYrs (ρ : AH) (b np nt : Nat) (L : Nat → Nat) (n : Nat) : yrE ρ b 0 np nt L n = mYrs ρ b np nt L n := by
  induction n with
  | zero => rfl
  | succ n ih => rw [yrE, mYrs, ih]
theorem RF_RN {ρ ρ' : AH} {v : Nat} (hv : v < 2) (h : RF v ρ ρ') : RN ρ ρ' := ⟨h.1, fun j hj => h.2.1 j ⟨hj.2, hj.1⟩, fun j hj => h.2.2.1 j (by omega), fun K j hK hj => h.2.2.2 K j hK (by omega)⟩
theorem IV_WK {σ ρ : AH} {l b np nt ns : Nat} {L : Nat → Nat} {C : Nat → Nat → Nat} {w tp u tl oc : Nat} (h : IV σ ρ l b np nt ns L C w tp u tl oc) : WK σ ρ l b 36 0 np nt ns L C := ⟨h.1.2.1, h.2.1, h.2.2.2.1, h.2.2.2.2.1, h.2.2.2.2.2.2.2.2.1.1⟩
theorem IV_wn {σ τ ρ ρ' : AH} {l b np nt ns : Nat} {L : Nat → Nat} {C : Nat → Nat → Nat} {w tp u tl oc : Nat} (h : IV σ ρ l b np nt ns L C w tp u tl oc) (h0 : σ 289 0 = 0) (hw : WK τ ρ' l b 36 0 np nt ns L C) (hc : CF 36 σ τ) (hr : RF 0 ρ ρ') : IV τ ρ' l b np nt ns L C w tp u tl oc := IV_n h (fun K j hK hj => hc K j (by omega) (by omega) hj) h0 (RF_RN (by decide) hr) hw.2.2.1 hw.2.2.2.2
theorem mAtN_p (ρ : AH) (n : Nat) : (∀ p, p < n → mAtN ρ n 320 p = ρ 334 p) ∧ (∀ j, n ≤ j → mAtN ρ n 320 j = ρ 320 j) := by
  induction n with
  | zero => exact ⟨fun p hp => by omega, fun j _ => rfl⟩
  | succ n ih =>
    rw [mAtN]
    refine ⟨fun p hp => ?_, fun j hj => ?_⟩
    · by_cases e : p = n
      · subst e; rw [up2_hit]
      · rw [up2_by _ _ _ e]; exact ih.1 p (by omega)
    · rw [up2_by _ _ _ (by omega)]; exact ih.2 j (by omega)
theorem mAtN_RF (ρ : AH) (np : Nat) (h : np ≤ 10) : RF 0 ρ (mAtN ρ np) := by
  refine ⟨fun K j hK => mAtN_fr _ _ _ _ (by omega), fun j hj => mAtN_fr _ _ _ _ (by omega), fun j hj => mAtN_fr _ _ _ _ (by omega), fun K j hK hj => ?_⟩
  by_cases e : K = 320
  · subst e; exact (mAtN_p ρ np).2 j (by omega)
  · exact mAtN_fr _ _ _ _ e
theorem vl_py_36 (X : AX) {l : Nat} (hl : l = 8 ∨ l = 170) {σ ρ : AH} {b v np nt ns : Nat} {L : Nat → Nat} {C : Nat → Nat → Nat} (hnp2 : np ≤ 10) (m k yr : Nat) (hm : m ≤ 40) (hyr : ρ 316 v = (yr : Int)) (hk1 : k ≤ m) (hk2 : yr + k ≤ 9999) (hk3 : k = m ∨ yr + k = 9999) : ∀ (d n : Nat), n + d = k → ∀ (τ : AH) (y5 : AV), WK τ (yrE ρ b v np nt L n).2 l b 36 v np nt ns L C → CF 36 σ τ → TT X 232 (4, [(2, 0), (2, 36), (0, ((m : Nat) : Int)), (0, (((yrE ρ b v np nt L n).1 : Nat) : Int)), (0, ((n : Nat) : Int)), y5], [], τ) (fun r σ' => r = some (0, (((yrE ρ b v np nt L k).1 : Nat) : Int)) ∧ WK σ' (yrE ρ b v np nt L k).2 l b 36 v np nt ns L C ∧ CF 36 σ σ') := by
  intro d
  induction d with
  | zero =>
    intro n hn τ y5 hw hcf
    have hnn : n = k := by omega
    subst hnn
    have hy : τ 36 1 = ((yr + n : Nat) : Int) := hw.2.2.1.2.1.1.trans (yrE_yr ρ b v np nt L hyr (by omega))
    by_cases hnm : n = m
    · refine TT.steps (cd := cd232) 3 (c' := ((if decide (((m : Nat) : Int) ≤ ((n : Nat) : Int)) = true then 63 else 7), [(2, 0), (2, 36), (0, ((m : Nat) : Int)), (0, (((yrE ρ b v np nt L n).1 : Nat) : Int)), (0, ((n : Nat) : Int)), y5], [], τ)) rfl rfl ?_
      refine TT.br (p := ((m : Nat) : Int) ≤ ((n : Nat) : Int)) (fun h1 => ?_) (fun h1 => absurd (show ((m : Nat) : Int) ≤ ((n : Nat) : Int) by omega) h1)
      refine TT.steps (cd := cd232) 1 (c' := (64, [(2, 0), (2, 36), (0, ((m : Nat) : Int)), (0, (((yrE ρ b v np nt L n).1 : Nat) : Int)), (0, ((n : Nat) : Int)), y5], [(0, (((yrE ρ b v np nt L n).1 : Nat) : Int))], τ)) rfl rfl ?_
      exact TT.ret (cd := cd232) rfl rfl rfl rfl (⟨rfl, hw, hcf⟩)
    · refine TT.steps (cd := cd232) 3 (c' := ((if decide (((m : Nat) : Int) ≤ ((n : Nat) : Int)) = true then 63 else 7), [(2, 0), (2, 36), (0, ((m : Nat) : Int)), (0, (((yrE ρ b v np nt L n).1 : Nat) : Int)), (0, ((n : Nat) : Int)), y5], [], τ)) rfl rfl ?_
      refine TT.br (p := ((m : Nat) : Int) ≤ ((n : Nat) : Int)) (fun h1 => absurd h1 (show ¬ (((m : Nat) : Int) ≤ ((n : Nat) : Int)) by omega)) (fun h1 => ?_)
      refine TT.steps (cd := cd232) 2 (c' := (9, [(2, 0), (2, 36), (0, ((m : Nat) : Int)), (0, (((yrE ρ b v np nt L n).1 : Nat) : Int)), (0, ((n : Nat) : Int)), y5], [(0, (τ 36 1))], τ)) rfl rfl ?_
      refine TT.top0 (z := ((yr + n : Nat) : Int)) hy ?_
      refine TT.steps (cd := cd232) 2 (c' := ((if decide (9999 ≤ ((yr + n : Nat) : Int)) = true then 63 else 11), [(2, 0), (2, 36), (0, ((m : Nat) : Int)), (0, (((yrE ρ b v np nt L n).1 : Nat) : Int)), (0, ((n : Nat) : Int)), y5], [], τ)) rfl rfl ?_
      refine TT.br (p := 9999 ≤ ((yr + n : Nat) : Int)) (fun h2 => ?_) (fun h2 => absurd (show 9999 ≤ ((yr + n : Nat) : Int) by omega) h2)
      refine TT.steps (cd := cd232) 1 (c' := (64, [(2, 0), (2, 36), (0, ((m : Nat) : Int)), (0, (((yrE ρ b v np nt L n).1 : Nat) : Int)), (0, ((n : Nat) : Int)), y5], [(0, (((yrE ρ b v np nt L n).1 : Nat) : Int))], τ)) rfl rfl ?_
      exact TT.ret (cd := cd232) rfl rfl rfl rfl (⟨rfl, hw, hcf⟩)
  | succ d ih =>
    intro n hn τ y5 hw hcf
    have hy1 : ((yrE ρ b v np nt L n).2) 316 v = ((yr + n : Nat) : Int) := yrE_yr ρ b v np nt L hyr (by omega)
    have hy : τ 36 1 = ((yr + n : Nat) : Int) := hw.2.2.1.2.1.1.trans hy1
    have hle := yrE_le ρ b v np nt L n
    have hle2 : np * n ≤ 10 * 40 := Nat.mul_le_mul hnp2 (by omega)
    have hle3 := mYear_le ((yrE ρ b v np nt L n).2) b v np nt L
    refine TT.steps (cd := cd232) 3 (c' := ((if decide (((m : Nat) : Int) ≤ ((n : Nat) : Int)) = true then 63 else 7), [(2, 0), (2, 36), (0, ((m : Nat) : Int)), (0, (((yrE ρ b v np nt L n).1 : Nat) : Int)), (0, ((n : Nat) : Int)), y5], [], τ)) rfl rfl ?_
    refine TT.br (p := ((m : Nat) : Int) ≤ ((n : Nat) : Int)) (fun h1 => absurd h1 (show ¬ (((m : Nat) : Int) ≤ ((n : Nat) : Int)) by omega)) (fun h1 => ?_)
    refine TT.steps (cd := cd232) 2 (c' := (9, [(2, 0), (2, 36), (0, ((m : Nat) : Int)), (0, (((yrE ρ b v np nt L n).1 : Nat) : Int)), (0, ((n : Nat) : Int)), y5], [(0, (τ 36 1))], τ)) rfl rfl ?_
    refine TT.top0 (z := ((yr + n : Nat) : Int)) hy ?_
    refine TT.steps (cd := cd232) 2 (c' := ((if decide (9999 ≤ ((yr + n : Nat) : Int)) = true then 63 else 11), [(2, 0), (2, 36), (0, ((m : Nat) : Int)), (0, (((yrE ρ b v np nt L n).1 : Nat) : Int)), (0, ((n : Nat) : Int)), y5], [], τ)) rfl rfl ?_
    refine TT.br (p := 9999 ≤ ((yr + n : Nat) : Int)) (fun h2 => absurd h2 (show ¬ (9999 ≤ ((yr + n : Nat) : Int)) by omega)) (fun h2 => ?_)
    refine TT.steps (cd := cd232) 2 (c' := (13, [(2, 0), (2, 36), (0, ((m : Nat) : Int)), (0, (((yrE ρ b v np nt L n).1 : Nat) : Int)), (0, ((n : Nat) : Int)), y5], [(2, 36), (2, 0)], τ)) rfl rfl ?_
    refine TT.call (cd := cd232) rfl rfl rfl (by decide) rfl (w_tryDay_36 X hl hw.1 hw.2.1 hw.2.2.1.1 hw.2.2.1.2.2.1 hw.2.2.2.1) (fun r3 σ3 hq => ?_)
    obtain ⟨rfl, hFr, hPR, hDD⟩ := hq
    have hPT1 : PT σ3 ((yrE ρ b v np nt L n).2) 36 v np ns := PT_mv hw.2.2.1 hnp2 (fun K j hK => hFr K j (by omega)) rfl (fun _ _ _ _ => rfl)
    obtain ⟨τ1, hτ1⟩ : ∃ τ1 : AH, τ1 = σ3 := ⟨_, rfl⟩
    rw [← hτ1] at hFr hPR hDD hPT1 ⊢
    refine TT.steps (cd := cd232) 2 (c' := (16, [(2, 0), (2, 36), (0, ((m : Nat) : Int)), (0, (((yrE ρ b v np nt L n).1 : Nat) : Int)), (0, ((n : Nat) : Int)), (0, 0)], [], τ1)) rfl rfl ?_
    refine TT.sg (σ' := τ1) rfl ?_
    refine vl_yd_36 X _ m np (((yrE ρ b v np nt L n).1 : Nat) : Int) ((n : Nat) : Int) hnp2 τ1 hPT1.1.1 (fun υ2 hY => ?_) np 0 (by omega) τ1 ⟨fun _ _ _ _ => rfl, fun p hp => by omega, fun p hp => ⟨rfl, rfl⟩⟩
    refine TT.steps (cd := cd232) 3 (c' := (52, [(2, 0), (2, 36), (0, ((m : Nat) : Int)), (0, (((yrE ρ b v np nt L n).1 : Nat) : Int)), (0, ((n : Nat) : Int)), (0, ((np : Nat) : Int))], [(2, 36), (2, 0), (0, (((yrE ρ b v np nt L n).1 : Nat) : Int))], υ2)) rfl rfl ?_
    refine TT.call (cd := cd232) rfl rfl rfl (by decide) rfl (v_ageAll_36 X (mY1 (mDay ((yrE ρ b v np nt L n).2) b v np nt L) v np) v np ns hnp2 υ2 (PT_y1 (l := l) hnp2 hPT1 hDD hY) (by rw [hY.1 _ _ (by omega) (by omega), hFr _ _ (by omega), mY1_fr _ _ _ _ _ (by decide), mDay_5 _ _ _ _ _ _ _ (by decide)]; exact hw.2.2.2.2)) (fun r4 σ4 hq => ?_)
    obtain ⟨hr3, hA⟩ := hq
    rw [hr3]
    have hy3 : σ4 36 1 = ((yrE ρ b v np nt L n).2) 316 v := hA.1.2.1.1.trans ((mY2_fr _ _ _ _ _ (by decide)).trans ((mY1_fr _ _ _ _ _ (by decide)).trans (mDay_fr _ _ _ _ _ _ _ _ (by decide))))
    have hle4 : (mY2 (mY1 (mDay ((yrE ρ b v np nt L n).2) b v np nt L) v np) v np).1 ≤ np := hle3
    refine TT.steps (cd := cd232) 1 (c' := (54, [(2, 0), (2, 36), (0, ((m : Nat) : Int)), (0, (((yrE ρ b v np nt L n).1 : Nat) : Int)), (0, ((n : Nat) : Int)), (0, ((np : Nat) : Int))], [(0, (aAdd (((yrE ρ b v np nt L n).1 : Nat) : Int) (((mY2 (mY1 (mDay ((yrE ρ b v np nt L n).2) b v np nt L) v np) v np).1 : Nat) : Int)))], σ4)) rfl rfl ?_
    refine TT.top0 (z := ((((yrE ρ b v np nt L n).1) + ((mY2 (mY1 (mDay ((yrE ρ b v np nt L n).2) b v np nt L) v np) v np).1) : Nat) : Int)) (aAdd_n (a := (yrE ρ b v np nt L n).1) (b := (mY2 (mY1 (mDay ((yrE ρ b v np nt L n).2) b v np nt L) v np) v np).1) (by omega)) ?_
    refine TT.steps (cd := cd232) 4 (c' := (58, [(2, 0), (2, 36), (0, ((m : Nat) : Int)), (0, ((((yrE ρ b v np nt L n).1) + ((mY2 (mY1 (mDay ((yrE ρ b v np nt L n).2) b v np nt L) v np) v np).1) : Nat) : Int)), (0, ((n : Nat) : Int)), (0, ((np : Nat) : Int))], [(0, (σ4 36 1)), (2, 36)], σ4)) rfl rfl ?_
    refine TT.top0 (z := (((yrE ρ b v np nt L n).2) 316 v)) hy3 ?_
    refine TT.steps (cd := cd232) 2 (c' := (60, [(2, 0), (2, 36), (0, ((m : Nat) : Int)), (0, ((((yrE ρ b v np nt L n).1) + ((mY2 (mY1 (mDay ((yrE ρ b v np nt L n).2) b v np nt L) v np) v np).1) : Nat) : Int)), (0, ((n : Nat) : Int)), (0, ((np : Nat) : Int))], [(0, (aAdd (((yrE ρ b v np nt L n).2) 316 v) 1)), (2, 36)], σ4)) rfl rfl ?_
    refine TT.steps (cd := cd232) 1 (c' := (61, [(2, 0), (2, 36), (0, ((m : Nat) : Int)), (0, ((((yrE ρ b v np nt L n).1) + ((mY2 (mY1 (mDay ((yrE ρ b v np nt L n).2) b v np nt L) v np) v np).1) : Nat) : Int)), (0, ((n : Nat) : Int)), (0, ((np : Nat) : Int))], [], (up2 σ4 36 1 (aAdd (((yrE ρ b v np nt L n).2) 316 v) 1)))) rfl rfl ?_
    refine TT.inc (cd := cd232) ((n + 1 : Nat) : Int) rfl rfl rfl rfl (fun h => absurd h.2 (show ¬ (0 = 1) by decide)) (aAdd_n (a := n) (b := 1) (by omega)) (ls' := [(2, 0), (2, 36), (0, ((m : Nat) : Int)), (0, ((((yrE ρ b v np nt L n).1) + ((mY2 (mY1 (mDay ((yrE ρ b v np nt L n).2) b v np nt L) v np) v np).1) : Nat) : Int)), (0, ((n + 1 : Nat) : Int)), (0, ((np : Nat) : Int))]) rfl ?_
    refine TT.steps (cd := cd232) 1 (c' := (4, [(2, 0), (2, 36), (0, ((m : Nat) : Int)), (0, ((((yrE ρ b v np nt L n).1) + ((mY2 (mY1 (mDay ((yrE ρ b v np nt L n).2) b v np nt L) v np) v np).1) : Nat) : Int)), (0, ((n + 1 : Nat) : Int)), (0, ((np : Nat) : Int))], [], (up2 σ4 36 1 (aAdd (((yrE ρ b v np nt L n).2) 316 v) 1)))) rfl rfl ?_
    obtain ⟨g1, g2⟩ := WK_year (σ0 := σ) hl (Or.inl rfl) hw hFr hY hA hy1 (by omega)
    exact ih (n + 1) (by omega) _ _ g1 (hcf.trans g2)
theorem v_passYears_36 (X : AX) {l : Nat} (hl : l = 8 ∨ l = 170) {σ ρ : AH} {b v np nt ns : Nat} {L : Nat → Nat} {C : Nat → Nat → Nat} (hnp2 : np ≤ 10) (m k yr : Nat) (hm : m ≤ 40) (hyr : ρ 316 v = (yr : Int)) (hk1 : k ≤ m) (hk2 : yr + k ≤ 9999) (hk3 : k = m ∨ yr + k = 9999) (hw : WK σ ρ l b 36 v np nt ns L C) : TT X 232 (0, [(2, 0), (2, 36), (0, ((m : Nat) : Int)), (9, 0), (9, 0), (9, 0)], [], σ) (fun r σ' => r = some (0, (((yrE ρ b v np nt L k).1 : Nat) : Int)) ∧ WK σ' (yrE ρ b v np nt L k).2 l b 36 v np nt ns L C ∧ CF 36 σ σ') := by
  refine TT.steps (cd := cd232) 4 (c' := (4, [(2, 0), (2, 36), (0, ((m : Nat) : Int)), (0, (((yrE ρ b v np nt L 0).1 : Nat) : Int)), (0, ((0 : Nat) : Int)), (9, 0)], [], σ)) rfl rfl ?_
  exact vl_py_36 X hl hnp2 m k yr hm hyr hk1 hk2 hk3 k 0 (by omega) σ (9, 0) hw (CF.refl _ _)
theorem vl_py_42 (X : AX) {l : Nat} (hl : l = 8 ∨ l = 170) {σ ρ : AH} {b v np nt ns : Nat} {L : Nat → Nat} {C : Nat → Nat → Nat} (hnp2 : np ≤ 10) (m k yr : Nat) (hm : m ≤ 40) (hyr : ρ 316 v = (yr : Int)) (hk1 : k ≤ m) (hk2 : yr + k ≤ 9999) (hk3 : k = m ∨ yr + k = 9999) : ∀ (d n : Nat), n + d = k → ∀ (τ : AH) (y5 : AV), WK τ (yrE ρ b v np nt L n).2 l b 42 v np nt ns L C → CF 42 σ τ → TT X 232 (4, [(2, 0), (2, 42), (0, ((m : Nat) : Int)), (0, (((yrE ρ b v np nt L n).1 : Nat) : Int)), (0, ((n : Nat) : Int)), y5], [], τ) (fun r σ' => r = some (0, (((yrE ρ b v np nt L k).1 : Nat) : Int)) ∧ WK σ' (yrE ρ b v np nt L k).2 l b 42 v np nt ns L C ∧ CF 42 σ σ') := by
  intro d
  induction d with
  | zero =>
    intro n hn τ y5 hw hcf
    have hnn : n = k := by omega
    subst hnn
    have hy : τ 42 1 = ((yr + n : Nat) : Int) := hw.2.2.1.2.1.1.trans (yrE_yr ρ b v np nt L hyr (by omega))
    by_cases hnm : n = m
    · refine TT.steps (cd := cd232) 3 (c' := ((if decide (((m : Nat) : Int) ≤ ((n : Nat) : Int)) = true then 63 else 7), [(2, 0), (2, 42), (0, ((m : Nat) : Int)), (0, (((yrE ρ b v np nt L n).1 : Nat) : Int)), (0, ((n : Nat) : Int)), y5], [], τ)) rfl rfl ?_
      refine TT.br (p := ((m : Nat) : Int) ≤ ((n : Nat) : Int)) (fun h1 => ?_) (fun h1 => absurd (show ((m : Nat) : Int) ≤ ((n : Nat) : Int) by omega) h1)
      refine TT.steps (cd := cd232) 1 (c' := (64, [(2, 0), (2, 42), (0, ((m : Nat) : Int)), (0, (((yrE ρ b v np nt L n).1 : Nat) : Int)), (0, ((n : Nat) : Int)), y5], [(0, (((yrE ρ b v np nt L n).1 : Nat) : Int))], τ)) rfl rfl ?_
      exact TT.ret (cd := cd232) rfl rfl rfl rfl (⟨rfl, hw, hcf⟩)
    · refine TT.steps (cd := cd232) 3 (c' := ((if decide (((m : Nat) : Int) ≤ ((n : Nat) : Int)) = true then 63 else 7), [(2, 0), (2, 42), (0, ((m : Nat) : Int)), (0, (((yrE ρ b v np nt L n).1 : Nat) : Int)), (0, ((n : Nat) : Int)), y5], [], τ)) rfl rfl ?_
      refine TT.br (p := ((m : Nat) : Int) ≤ ((n : Nat) : Int)) (fun h1 => absurd h1 (show ¬ (((m : Nat) : Int) ≤ ((n : Nat) : Int)) by omega)) (fun h1 => ?_)
      refine TT.steps (cd := cd232) 2 (c' := (9, [(2, 0), (2, 42), (0, ((m : Nat) : Int)), (0, (((yrE ρ b v np nt L n).1 : Nat) : Int)), (0, ((n : Nat) : Int)), y5], [(0, (τ 42 1))], τ)) rfl rfl ?_
      refine TT.top0 (z := ((yr + n : Nat) : Int)) hy ?_
      refine TT.steps (cd := cd232) 2 (c' := ((if decide (9999 ≤ ((yr + n : Nat) : Int)) = true then 63 else 11), [(2, 0), (2, 42), (0, ((m : Nat) : Int)), (0, (((yrE ρ b v np nt L n).1 : Nat) : Int)), (0, ((n : Nat) : Int)), y5], [], τ)) rfl rfl ?_
      refine TT.br (p := 9999 ≤ ((yr + n : Nat) : Int)) (fun h2 => ?_) (fun h2 => absurd (show 9999 ≤ ((yr + n : Nat) : Int) by omega) h2)
      refine TT.steps (cd := cd232) 1 (c' := (64, [(2, 0), (2, 42), (0, ((m : Nat) : Int)), (0, (((yrE ρ b v np nt L n).1 : Nat) : Int)), (0, ((n : Nat) : Int)), y5], [(0, (((yrE ρ b v np nt L n).1 : Nat) : Int))], τ)) rfl rfl ?_
      exact TT.ret (cd := cd232) rfl rfl rfl rfl (⟨rfl, hw, hcf⟩)
  | succ d ih =>
    intro n hn τ y5 hw hcf
    have hy1 : ((yrE ρ b v np nt L n).2) 316 v = ((yr + n : Nat) : Int) := yrE_yr ρ b v np nt L hyr (by omega)
    have hy : τ 42 1 = ((yr + n : Nat) : Int) := hw.2.2.1.2.1.1.trans hy1
    have hle := yrE_le ρ b v np nt L n
    have hle2 : np * n ≤ 10 * 40 := Nat.mul_le_mul hnp2 (by omega)
    have hle3 := mYear_le ((yrE ρ b v np nt L n).2) b v np nt L
    refine TT.steps (cd := cd232) 3 (c' := ((if decide (((m : Nat) : Int) ≤ ((n : Nat) : Int)) = true then 63 else 7), [(2, 0), (2, 42), (0, ((m : Nat) : Int)), (0, (((yrE ρ b v np nt L n).1 : Nat) : Int)), (0, ((n : Nat) : Int)), y5], [], τ)) rfl rfl ?_
    refine TT.br (p := ((m : Nat) : Int) ≤ ((n : Nat) : Int)) (fun h1 => absurd h1 (show ¬ (((m : Nat) : Int) ≤ ((n : Nat) : Int)) by omega)) (fun h1 => ?_)
    refine TT.steps (cd := cd232) 2 (c' := (9, [(2, 0), (2, 42), (0, ((m : Nat) : Int)), (0, (((yrE ρ b v np nt L n).1 : Nat) : Int)), (0, ((n : Nat) : Int)), y5], [(0, (τ 42 1))], τ)) rfl rfl ?_
    refine TT.top0 (z := ((yr + n : Nat) : Int)) hy ?_
    refine TT.steps (cd := cd232) 2 (c' := ((if decide (9999 ≤ ((yr + n : Nat) : Int)) = true then 63 else 11), [(2, 0), (2, 42), (0, ((m : Nat) : Int)), (0, (((yrE ρ b v np nt L n).1 : Nat) : Int)), (0, ((n : Nat) : Int)), y5], [], τ)) rfl rfl ?_
    refine TT.br (p := 9999 ≤ ((yr + n : Nat) : Int)) (fun h2 => absurd h2 (show ¬ (9999 ≤ ((yr + n : Nat) : Int)) by omega)) (fun h2 => ?_)
    refine TT.steps (cd := cd232) 2 (c' := (13, [(2, 0), (2, 42), (0, ((m : Nat) : Int)), (0, (((yrE ρ b v np nt L n).1 : Nat) : Int)), (0, ((n : Nat) : Int)), y5], [(2, 42), (2, 0)], τ)) rfl rfl ?_
    refine TT.call (cd := cd232) rfl rfl rfl (by decide) rfl (w_tryDay_42 X hl hw.1 hw.2.1 hw.2.2.1.1 hw.2.2.1.2.2.1 hw.2.2.2.1) (fun r3 σ3 hq => ?_)
    obtain ⟨rfl, hFr, hPR, hDD⟩ := hq
    have hPT1 : PT σ3 ((yrE ρ b v np nt L n).2) 42 v np ns := PT_mv hw.2.2.1 hnp2 (fun K j hK => hFr K j (by omega)) rfl (fun _ _ _ _ => rfl)
    obtain ⟨τ1, hτ1⟩ : ∃ τ1 : AH, τ1 = σ3 := ⟨_, rfl⟩
    rw [← hτ1] at hFr hPR hDD hPT1 ⊢
    refine TT.steps (cd := cd232) 2 (c' := (16, [(2, 0), (2, 42), (0, ((m : Nat) : Int)), (0, (((yrE ρ b v np nt L n).1 : Nat) : Int)), (0, ((n : Nat) : Int)), (0, 0)], [], τ1)) rfl rfl ?_
    refine TT.sg (σ' := τ1) rfl ?_
    refine vl_yd_42 X _ m np (((yrE ρ b v np nt L n).1 : Nat) : Int) ((n : Nat) : Int) hnp2 τ1 hPT1.1.1 (fun υ2 hY => ?_) np 0 (by omega) τ1 ⟨fun _ _ _ _ => rfl, fun p hp => by omega, fun p hp => ⟨rfl, rfl⟩⟩
    refine TT.steps (cd := cd232) 3 (c' := (52, [(2, 0), (2, 42), (0, ((m : Nat) : Int)), (0, (((yrE ρ b v np nt L n).1 : Nat) : Int)), (0, ((n : Nat) : Int)), (0, ((np : Nat) : Int))], [(2, 42), (2, 0), (0, (((yrE ρ b v np nt L n).1 : Nat) : Int))], υ2)) rfl rfl ?_
    refine TT.call (cd := cd232) rfl rfl rfl (by decide) rfl (v_ageAll_42 X (mY1 (mDay ((yrE ρ b v np nt L n).2) b v np nt L) v np) v np ns hnp2 υ2 (PT_y1 (l := l) hnp2 hPT1 hDD hY) (by rw [hY.1 _ _ (by omega) (by omega), hFr _ _ (by omega), mY1_fr _ _ _ _ _ (by decide), mDay_5 _ _ _ _ _ _ _ (by decide)]; exact hw.2.2.2.2)) (fun r4 σ4 hq => ?_)
    obtain ⟨hr3, hA⟩ := hq
    rw [hr3]
    have hy3 : σ4 42 1 = ((yrE ρ b v np nt L n).2) 316 v := hA.1.2.1.1.trans ((mY2_fr _ _ _ _ _ (by decide)).trans ((mY1_fr _ _ _ _ _ (by decide)).trans (mDay_fr _ _ _ _ _ _ _ _ (by decide))))
    have hle4 : (mY2 (mY1 (mDay ((yrE ρ b v np nt L n).2) b v np nt L) v np) v np).1 ≤ np := hle3
    refine TT.steps (cd := cd232) 1 (c' := (54, [(2, 0), (2, 42), (0, ((m : Nat) : Int)), (0, (((yrE ρ b v np nt L n).1 : Nat) : Int)), (0, ((n : Nat) : Int)), (0, ((np : Nat) : Int))], [(0, (aAdd (((yrE ρ b v np nt L n).1 : Nat) : Int) (((mY2 (mY1 (mDay ((yrE ρ b v np nt L n).2) b v np nt L) v np) v np).1 : Nat) : Int)))], σ4)) rfl rfl ?_
    refine TT.top0 (z := ((((yrE ρ b v np nt L n).1) + ((mY2 (mY1 (mDay ((yrE ρ b v np nt L n).2) b v np nt L) v np) v np).1) : Nat) : Int)) (aAdd_n (a := (yrE ρ b v np nt L n).1) (b := (mY2 (mY1 (mDay ((yrE ρ b v np nt L n).2) b v np nt L) v np) v np).1) (by omega)) ?_
    refine TT.steps (cd := cd232) 4 (c' := (58, [(2, 0), (2, 42), (0, ((m : Nat) : Int)), (0, ((((yrE ρ b v np nt L n).1) + ((mY2 (mY1 (mDay ((yrE ρ b v np nt L n).2) b v np nt L) v np) v np).1) : Nat) : Int)), (0, ((n : Nat) : Int)), (0, ((np : Nat) : Int))], [(0, (σ4 42 1)), (2, 42)], σ4)) rfl rfl ?_
    refine TT.top0 (z := (((yrE ρ b v np nt L n).2) 316 v)) hy3 ?_
    refine TT.steps (cd := cd232) 2 (c' := (60, [(2, 0), (2, 42), (0, ((m : Nat) : Int)), (0, ((((yrE ρ b v np nt L n).1) + ((mY2 (mY1 (mDay ((yrE ρ b v np nt L n).2) b v np nt L) v np) v np).1) : Nat) : Int)), (0, ((n : Nat) : Int)), (0, ((np : Nat) : Int))], [(0, (aAdd (((yrE ρ b v np nt L n).2) 316 v) 1)), (2, 42)], σ4)) rfl rfl ?_
    refine TT.steps (cd := cd232) 1 (c' := (61, [(2, 0), (2, 42), (0, ((m : Nat) : Int)), (0, ((((yrE ρ b v np nt L n).1) + ((mY2 (mY1 (mDay ((yrE ρ b v np nt L n).2) b v np nt L) v np) v np).1) : Nat) : Int)), (0, ((n : Nat) : Int)), (0, ((np : Nat) : Int))], [], (up2 σ4 42 1 (aAdd (((yrE ρ b v np nt L n).2) 316 v) 1)))) rfl rfl ?_
    refine TT.inc (cd := cd232) ((n + 1 : Nat) : Int) rfl rfl rfl rfl (fun h => absurd h.2 (show ¬ (0 = 1) by decide)) (aAdd_n (a := n) (b := 1) (by omega)) (ls' := [(2, 0), (2, 42), (0, ((m : Nat) : Int)), (0, ((((yrE ρ b v np nt L n).1) + ((mY2 (mY1 (mDay ((yrE ρ b v np nt L n).2) b v np nt L) v np) v np).1) : Nat) : Int)), (0, ((n + 1 : Nat) : Int)), (0, ((np : Nat) : Int))]) rfl ?_
    refine TT.steps (cd := cd232) 1 (c' := (4, [(2, 0), (2, 42), (0, ((m : Nat) : Int)), (0, ((((yrE ρ b v np nt L n).1) + ((mY2 (mY1 (mDay ((yrE ρ b v np nt L n).2) b v np nt L) v np) v np).1) : Nat) : Int)), (0, ((n + 1 : Nat) : Int)), (0, ((np : Nat) : Int))], [], (up2 σ4 42 1 (aAdd (((yrE ρ b v np nt L n).2) 316 v) 1)))) rfl rfl ?_
    obtain ⟨g1, g2⟩ := WK_year (σ0 := σ) hl (Or.inr rfl) hw hFr hY hA hy1 (by omega)
    exact ih (n + 1) (by omega) _ _ g1 (hcf.trans g2)
theorem v_passYears_42 (X : AX) {l : Nat} (hl : l = 8 ∨ l = 170) {σ ρ : AH} {b v np nt ns : Nat} {L : Nat → Nat} {C : Nat → Nat → Nat} (hnp2 : np ≤ 10) (m k yr : Nat) (hm : m ≤ 40) (hyr : ρ 316 v = (yr : Int)) (hk1 : k ≤ m) (hk2 : yr + k ≤ 9999) (hk3 : k = m ∨ yr + k = 9999) (hw : WK σ ρ l b 42 v np nt ns L C) : TT X 232 (0, [(2, 0), (2, 42), (0, ((m : Nat) : Int)), (9, 0), (9, 0), (9, 0)], [], σ) (fun r σ' => r = some (0, (((yrE ρ b v np nt L k).1 : Nat) : Int)) ∧ WK σ' (yrE ρ b v np nt L k).2 l b 42 v np nt ns L C ∧ CF 42 σ σ') := by
  refine TT.steps (cd := cd232) 4 (c' := (4, [(2, 0), (2, 42), (0, ((m : Nat) : Int)), (0, (((yrE ρ b v np nt L 0).1 : Nat) : Int)), (0, ((0 : Nat) : Int)), (9, 0)], [], σ)) rfl rfl ?_
  exact vl_py_42 X hl hnp2 m k yr hm hyr hk1 hk2 hk3 k 0 (by omega) σ (9, 0) hw (CF.refl _ _)
theorem K_years0 (X : AX) {l : Nat} {σ ρ : AH} {b np nt ns : Nat} {L : Nat → Nat} {C : Nat → Nat → Nat} {w tp u tl oc : Nat} (h : IV σ ρ l b np nt ns L C w tp u tl oc) (n : Int) (hn : ¬ (1 ≤ n ∧ n ≤ 40) ∨ 9999 < ρ 316 0 + n)  : TT X 194 (0, [(2, 0), (0, n)], [], σ) (fun r σ' => r = some (0, -1) ∧ EX σ' (up2 ρ 315 3 (aAdd (ρ 315 3) 1)) ∧ (∀ K j, (295 ≤ K ∨ K = 30 ∨ K = 192) → σ' K j = σ K j)) := by
  obtain ⟨⟨hl, h05, h33⟩, hL, hN, hPT, hF, hA, hTp, hO, hM, hH⟩ := id h
  obtain ⟨⟨a1, a2, a3, a4⟩, ⟨b1, b2, b3, b4, b5⟩, ⟨c1, c2, c3, c4, c5⟩, hTr, hCa, hAf, hPr, hDi⟩ := id hL
  obtain ⟨hPb, ⟨y1, y2, y3⟩, hhi, hPp⟩ := id hPT
  refine TT.steps (cd := cd194) 3 (c' := ((if decide (n < 1) = true then 13 else 3), [(2, 0), (0, n)], [], σ)) rfl rfl ?_
  refine TT.br (p := n < 1) (fun h1 => ?_) (fun h1 => ?_)
  · refine TT.steps (cd := cd194) 2 (c' := (15, [(2, 0), (0, n)], [(0, 3), (2, 0)], σ)) rfl rfl ?_
    refine TT.call (cd := cd194) rfl rfl rfl (by decide) rfl (w_refuse X 3 (by decide) σ) (fun r2 σ2 hq => ?_)
    rw [hq.1, hq.2]
    exact TT.ret (cd := cd194) rfl rfl rfl rfl (⟨rfl, ⟨_, _, _, _, _, _, _, _, _, _, _, _, IV_ref h 3 (by decide)⟩, fun K j hK => up2_far _ _ _ _ (by omega)⟩)
  · refine TT.steps (cd := cd194) 3 (c' := ((if decide (40 < n) = true then 13 else 6), [(2, 0), (0, n)], [], σ)) rfl rfl ?_
    refine TT.br (p := 40 < n) (fun h3 => ?_) (fun h3 => ?_)
    · refine TT.steps (cd := cd194) 2 (c' := (15, [(2, 0), (0, n)], [(0, 3), (2, 0)], σ)) rfl rfl ?_
      refine TT.call (cd := cd194) rfl rfl rfl (by decide) rfl (w_refuse X 3 (by decide) σ) (fun r4 σ4 hq => ?_)
      rw [hq.1, hq.2]
      exact TT.ret (cd := cd194) rfl rfl rfl rfl (⟨rfl, ⟨_, _, _, _, _, _, _, _, _, _, _, _, IV_ref h 3 (by decide)⟩, fun K j hK => up2_far _ _ _ _ (by omega)⟩)
    · refine TT.steps (cd := cd194) 3 (c' := (9, [(2, 0), (0, n)], [(0, (σ 36 1))], σ)) rfl rfl ?_
      refine TT.top0 (z := (ρ 316 0)) y1 ?_
      refine TT.steps (cd := cd194) 2 (c' := (11, [(2, 0), (0, n)], [(0, (aAdd (ρ 316 0) n))], σ)) rfl rfl ?_
      refine TT.top0 (z := (ρ 316 0 + n)) (aAdd_of (by omega) (by omega)) ?_
      refine TT.steps (cd := cd194) 2 (c' := ((if decide ((ρ 316 0 + n) ≤ 9999) = true then 17 else 13), [(2, 0), (0, n)], [], σ)) rfl rfl ?_
      refine TT.br (p := (ρ 316 0 + n) ≤ 9999) (fun h5 => ?_) (fun h5 => ?_)
      · omega
      · refine TT.steps (cd := cd194) 2 (c' := (15, [(2, 0), (0, n)], [(0, 3), (2, 0)], σ)) rfl rfl ?_
        refine TT.call (cd := cd194) rfl rfl rfl (by decide) rfl (w_refuse X 3 (by decide) σ) (fun r6 σ6 hq => ?_)
        rw [hq.1, hq.2]
        exact TT.ret (cd := cd194) rfl rfl rfl rfl (⟨rfl, ⟨_, _, _, _, _, _, _, _, _, _, _, _, IV_ref h 3 (by decide)⟩, fun K j hK => up2_far _ _ _ _ (by omega)⟩)
theorem K_years1 (X : AX) {l : Nat} {σ ρ : AH} {b np nt ns : Nat} {L : Nat → Nat} {C : Nat → Nat → Nat} {w tp u tl oc : Nat} (h : IV σ ρ l b np nt ns L C w tp u tl oc) (m yr : Nat) (hm1 : 1 ≤ m) (hm : m ≤ 40) (hyr : ρ 316 0 = (yr : Int)) (hyr2 : yr + m ≤ 9999)  : TT X 194 (0, [(2, 0), (0, ((m : Nat) : Int))], [], σ) (fun r σ' => r = some (0, (((mYrs (mKeep ρ u w) b np nt L m).1 : Nat) : Int)) ∧ EX σ' (mYrs (mKeep ρ u w) b np nt L m).2 ∧ (∀ K j, (295 ≤ K ∨ K = 30 ∨ K = 192) → σ' K j = σ K j)) := by
  obtain ⟨⟨hl, h05, h33⟩, hL, hN, hPT, hF, hA, hTp, hO, hM, hH⟩ := id h
  obtain ⟨⟨a1, a2, a3, a4⟩, ⟨b1, b2, b3, b4, b5⟩, ⟨c1, c2, c3, c4, c5⟩, hTr, hCa, hAf, hPr, hDi⟩ := id hL
  obtain ⟨hPb, ⟨y1, y2, y3⟩, hhi, hPp⟩ := id hPT
  have hyK : (mKeep ρ u w) 316 0 = (yr : Int) := by rw [(mKeep_f ρ u w hA.2.1.1).2.2.2 _ _ (by omega), (cpN_o ρ _ 0).1 _ (by omega)]; exact hyr
  refine TT.steps (cd := cd194) 3 (c' := ((if decide (((m : Nat) : Int) < 1) = true then 13 else 3), [(2, 0), (0, ((m : Nat) : Int))], [], σ)) rfl rfl ?_
  refine TT.br (p := ((m : Nat) : Int) < 1) (fun h1 => absurd h1 (show ¬ (((m : Nat) : Int) < 1) by omega)) (fun h1 => ?_)
  refine TT.steps (cd := cd194) 3 (c' := ((if decide (40 < ((m : Nat) : Int)) = true then 13 else 6), [(2, 0), (0, ((m : Nat) : Int))], [], σ)) rfl rfl ?_
  refine TT.br (p := 40 < ((m : Nat) : Int)) (fun h2 => absurd h2 (show ¬ (40 < ((m : Nat) : Int)) by omega)) (fun h2 => ?_)
  refine TT.steps (cd := cd194) 3 (c' := (9, [(2, 0), (0, ((m : Nat) : Int))], [(0, (σ 36 1))], σ)) rfl rfl ?_
  refine TT.top0 (z := ((yr : Nat) : Int)) (y1.trans hyr) ?_
  refine TT.steps (cd := cd194) 2 (c' := (11, [(2, 0), (0, ((m : Nat) : Int))], [(0, (aAdd ((yr : Nat) : Int) ((m : Nat) : Int)))], σ)) rfl rfl ?_
  refine TT.top0 (z := ((yr + m : Nat) : Int)) (aAdd_n (a := yr) (b := m) (by omega)) ?_
  refine TT.steps (cd := cd194) 2 (c' := ((if decide (((yr + m : Nat) : Int) ≤ 9999) = true then 17 else 13), [(2, 0), (0, ((m : Nat) : Int))], [], σ)) rfl rfl ?_
  refine TT.br (p := ((yr + m : Nat) : Int) ≤ 9999) (fun h3 => ?_) (fun h3 => absurd (show ((yr + m : Nat) : Int) ≤ 9999 by omega) h3)
  refine TT.steps (cd := cd194) 1 (c' := (18, [(2, 0), (0, ((m : Nat) : Int))], [(2, 0)], σ)) rfl rfl ?_
  refine TT.call (cd := cd194) rfl rfl rfl (by decide) rfl (w_beginAct X h) (fun r4 σ4 hq => ?_)
  obtain ⟨rfl, hIV, hB2, hB3⟩ := hq
  refine TT.steps (cd := cd194) 4 (c' := (23, [(2, 0), (0, ((m : Nat) : Int))], [(0, ((m : Nat) : Int)), (2, 36), (2, 0)], σ4)) rfl rfl ?_
  refine TT.call (cd := cd194) rfl rfl rfl (by decide) rfl (v_passYears_36 X hl c1 m m yr hm hyK (Nat.le_refl _) hyr2 (Or.inl rfl) (IV_WK hIV)) (fun r5 σ5 hq => ?_)
  obtain ⟨hr4, hw4, hc4⟩ := hq
  rw [hr4]
  exact TT.ret (cd := cd194) rfl rfl rfl rfl (⟨by rw [yrE_mYrs], by rw [← yrE_mYrs]; exact ⟨_, _, _, _, _, _, _, _, _, _, _, _, IV_wn hIV hB2 hw4 hc4 (yrE_RF _ _ _ _ _ _ c1 _)⟩, fun K j hK => (hc4 K j (by omega) (by omega) (by omega)).trans (hB3 K j (by omega))⟩)
theorem K_day (X : AX) {l : Nat} {σ ρ : AH} {b np nt ns : Nat} {L : Nat → Nat} {C : Nat → Nat → Nat} {w tp u tl oc : Nat} (h : IV σ ρ l b np nt ns L C w tp u tl oc)  : TT X 193 (0, [(2, 0)], [], σ) (fun r σ' => r = some (0, mArr (mAtN (mDay (mKeep ρ u w) b 0 np nt L) np) np) ∧ EX σ' (mAtN (mDay (mKeep ρ u w) b 0 np nt L) np) ∧ (∀ K j, (295 ≤ K ∨ K = 30 ∨ K = 192) → σ' K j = σ K j)) := by
  obtain ⟨⟨hl, h05, h33⟩, hL, hN, hPT, hF, hA, hTp, hO, hM, hH⟩ := id h
  obtain ⟨⟨a1, a2, a3, a4⟩, ⟨b1, b2, b3, b4, b5⟩, ⟨c1, c2, c3, c4, c5⟩, hTr, hCa, hAf, hPr, hDi⟩ := id hL
  obtain ⟨hPb, ⟨y1, y2, y3⟩, hhi, hPp⟩ := id hPT
  refine TT.steps (cd := cd193) 1 (c' := (1, [(2, 0)], [(2, 0)], σ)) rfl rfl ?_
  refine TT.call (cd := cd193) rfl rfl rfl (by decide) rfl (w_beginAct X h) (fun r1 σ1 hq => ?_)
  obtain ⟨rfl, hIV, hB2, hB3⟩ := hq
  refine TT.steps (cd := cd193) 3 (c' := (5, [(2, 0)], [(2, 36), (2, 0)], σ1)) rfl rfl ?_
  refine TT.call (cd := cd193) rfl rfl rfl (by decide) rfl (v_passDay_36 X hl (IV_WK hIV)) (fun r2 σ2 hq => ?_)
  obtain ⟨σ1, hPR1, hDD, hP2, hFr, hPT1, hr5⟩ := hq
  rw [hr5]
  obtain ⟨z9, hz9⟩ : ∃ z9 : Int, (if anyN (fun p => decide (¬ σ1 40 p = σ1 247 p)) np = true then (1 : Int) else 0) = z9 := ⟨_, rfl⟩
  rw [hz9]
  obtain ⟨⟨n1, hn1, hE⟩, hfull, h13⟩ := id hDD
  have hfu := hfull hIV.2.2.2.2.1.2.2
  refine TT.steps (cd := cd193) 4 (c' := (10, [(2, 0)], [(0, (σ2 198 7))], σ2)) rfl rfl ?_
  refine TT.top0 (z := ((bs (fun p => decide ((mDay (mKeep ρ u w) b 0 np nt L) 337 p = 1)) np : Nat) : Int)) ((hP2.1 _ _ (by decide)).trans hE.2.2.2.2.1.1) ?_
  refine TT.call (cd := cd193) rfl rfl rfl (by decide) rfl (u_bitCount X ((bs (fun p => decide ((mDay (mKeep ρ u w) b 0 np nt L) 337 p = 1)) np : Nat) : Int) σ2) (fun r3 σ3 hq => ?_)
  rw [hq.1, hq.2, bs_count (fun p => decide ((mDay (mKeep ρ u w) b 0 np nt L) 337 p = 1)) (by omega)]
  have hRF := mAtN_RF (mDay (mKeep ρ u w) b 0 np nt L) np c1
  have hpd : PT σ2 (mAtN (mDay (mKeep ρ u w) b 0 np nt L) np) 36 0 np ns := PT_day c1 hPT1 hDD hP2 (fun K j a1 a2 a3 => (mAtN_fr _ _ _ _ a3).trans (mDay_fr _ _ _ _ _ _ _ _ (by omega))) (fun p hp => by rw [show 10 * 0 + p = p by omega]; exact (mAtN_p _ _).1 p hp)
  have hcf := fun K j (a1 : K < 36 ∨ 36 + 5 < K) (a2 : K < 198 ∨ 254 < K) (_ : ¬ (K = 0 ∧ j = 11)) => (hP2.1 K j (by omega)).trans (hFr K j a2)
  refine TT.ret (cd := cd193) rfl rfl rfl rfl ⟨?_, ⟨_, _, _, _, _, _, _, _, _, _, _, _, IV_n hIV (fun K j hK hj => hcf K j (by omega) (by omega) hj) hB2 (RF_RN (by decide) ((mDay_RF _ _ _ _ _ _).trans hRF)) hpd ?_⟩, fun K j hK => (hcf K j (by omega) (by omega) (by omega)).trans (hB3 K j (by omega))⟩
  · unfold mArr
    rw [sumA_c (g := fun p => (mDay (mKeep ρ u w) b 0 np nt L) 337 p) (fun p hp => mAtN_fr _ _ _ _ (by decide)), sumA_01 (by omega) (fun p hp => (hE.2.2.2.1 p hp).2.2.2.2.2.2.2)]
  · rw [hP2.1 0 11 (by omega), hFr 0 11 (by omega), mAtN_fr _ _ _ _ (by decide), mDay_5 _ _ _ _ _ _ _ (by decide)]; exact hIV.2.2.2.2.2.2.2.2.1.1
