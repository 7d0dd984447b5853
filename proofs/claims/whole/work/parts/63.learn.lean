theorem vl_ln1_36 (X : AX) (Q : Option AV → AH → Prop) (li : Int) (np : Nat) (σ : AH) (hc : σ 36 0 = (np : Int)) (hnp2 : np ≤ 10)  (kk : ∀ (τ : AH), LN1 σ τ 36 np 14 → TT X 169 (19, [(2, 199), (2, li), (2, 36), (0, 14)], [], τ) Q) : ∀ (d n : Nat), n + d = 14 → ∀ (τ : AH), LN1 σ τ 36 np n → TT X 169 (2, [(2, 199), (2, li), (2, 36), (0, ((n : Nat) : Int))], [], τ) Q := by
  intro d
  induction d with
  | zero =>
    intro n hn τ hP
    have hnn : n = 14 := by omega
    rw [hnn] at hP ⊢
    refine TT.steps (cd := cd169) 3 (c' := (19, [(2, 199), (2, li), (2, 36), (0, 14)], [], τ)) rfl rfl ?_
    exact kk _ hP
  | succ d ih =>
    intro n hn τ hP
    refine TT.steps (cd := cd169) 3 (c' := ((if decide (14 ≤ ((n : Nat) : Int)) = true then 19 else 5), [(2, 199), (2, li), (2, 36), (0, ((n : Nat) : Int))], [], τ)) rfl rfl ?_
    refine TT.br (p := 14 ≤ ((n : Nat) : Int)) (fun h1 => absurd h1 (show ¬ (14 ≤ ((n : Nat) : Int)) by omega)) (fun h1 => ?_)
    refine TT.steps (cd := cd169) 5 (c' := (10, [(2, 199), (2, li), (2, 36), (0, ((n : Nat) : Int))], [(0, ((n : Nat) : Int)), (2, 36), (0, ((n : Nat) : Int)), (2, 200)], τ)) rfl rfl ?_
    refine TT.call (cd := cd169) rfl rfl rfl (by decide) rfl (u_bornAtN X ((n : Nat) : Int) np τ ((hP.1 _ _ (by omega) (by omega)).trans hc) hnp2) (fun r2 σ2 hq => ?_)
    rw [hq.1, hq.2]
    simp only [hP.1 38 _ (by omega) (by omega), hP.1 39 _ (by omega) (by omega)]
    refine TT.astN (cd := cd169) (200) (n) rfl rfl rfl rfl (show n < 14 by omega) ?_
    refine TT.steps (cd := cd169) 4 (c' := (16, [(2, 199), (2, li), (2, 36), (0, ((n : Nat) : Int))], [(0, 0), (0, ((n : Nat) : Int)), (2, 201)], (up2 τ 200 n ((bs (fun p => decide (σ 38 p = ((n : Nat) : Int) ∧ σ 39 p = -1)) np : Nat) : Int)))) rfl rfl ?_
    refine TT.astN (cd := cd169) (201) (n) rfl rfl rfl rfl (show n < 14 by omega) ?_
    refine TT.inc (cd := cd169) ((n + 1 : Nat) : Int) rfl rfl rfl rfl (fun h => absurd h.2 (show ¬ (2 = 1) by decide)) (aAdd_n (a := n) (b := 1) (by omega)) (ls' := [(2, 199), (2, li), (2, 36), (0, ((n + 1 : Nat) : Int))]) rfl ?_
    refine TT.steps (cd := cd169) 1 (c' := (2, [(2, 199), (2, li), (2, 36), (0, ((n + 1 : Nat) : Int))], [], (up2 (up2 τ 200 n ((bs (fun p => decide (σ 38 p = ((n : Nat) : Int) ∧ σ 39 p = -1)) np : Nat) : Int)) 201 n 0))) rfl rfl ?_
    have e3 : ((n + 1 : Nat) : Int) = (((n + 1) : Nat) : Int) := by omega
    rw [e3]
    clear e3
    exact ih (n + 1) (by omega) _ (LN1_s hP rfl)
theorem vl_ln2_36 (X : AX) (Q : Option AV → AH → Prop) (li : Int) (np : Nat) (σ : AH) (hc : σ 36 0 = (np : Int)) (hnp2 : np ≤ 10) (hto : ∀ p, p < np → ∃ s : Nat, s < 14 ∧ σ 41 p = (s : Int))  (kk : ∀ (τ : AH), LN2 σ τ 36 np np → TT X 169 (40, [(2, 199), (2, li), (2, 36), (0, ((np : Nat) : Int))], [], τ) Q) : ∀ (d n : Nat), n + d = np → ∀ (τ : AH), LN2 σ τ 36 np n → TT X 169 (21, [(2, 199), (2, li), (2, 36), (0, ((n : Nat) : Int))], [], τ) Q := by
  intro d
  induction d with
  | zero =>
    intro n hn τ hP
    have hnn : n = np := by omega
    rw [hnn] at hP ⊢
    refine TT.steps (cd := cd169) 3 (c' := (24, [(2, 199), (2, li), (2, 36), (0, ((np : Nat) : Int))], [(0, (τ 36 0)), (0, ((np : Nat) : Int))], τ)) rfl rfl ?_
    refine TT.top0 (z := ((np : Nat) : Int)) ((hP.1 _ _ (by omega) (by omega)).trans hc) ?_
    refine TT.steps (cd := cd169) 1 (c' := ((if decide (((np : Nat) : Int) ≤ ((np : Nat) : Int)) = true then 40 else 25), [(2, 199), (2, li), (2, 36), (0, ((np : Nat) : Int))], [], τ)) rfl rfl ?_
    refine TT.br (p := ((np : Nat) : Int) ≤ ((np : Nat) : Int)) (fun h1 => ?_) (fun h1 => absurd (show ((np : Nat) : Int) ≤ ((np : Nat) : Int) by omega) h1)
    exact kk _ hP
  | succ d ih =>
    intro n hn τ hP
    obtain ⟨s, hs2, hs⟩ := hto n (by omega)
    refine TT.steps (cd := cd169) 3 (c' := (24, [(2, 199), (2, li), (2, 36), (0, ((n : Nat) : Int))], [(0, (τ 36 0)), (0, ((n : Nat) : Int))], τ)) rfl rfl ?_
    refine TT.top0 (z := ((np : Nat) : Int)) ((hP.1 _ _ (by omega) (by omega)).trans hc) ?_
    refine TT.steps (cd := cd169) 1 (c' := ((if decide (((np : Nat) : Int) ≤ ((n : Nat) : Int)) = true then 40 else 25), [(2, 199), (2, li), (2, 36), (0, ((n : Nat) : Int))], [], τ)) rfl rfl ?_
    refine TT.br (p := ((np : Nat) : Int) ≤ ((n : Nat) : Int)) (fun h1 => absurd h1 (show ¬ (((np : Nat) : Int) ≤ ((n : Nat) : Int)) by omega)) (fun h1 => ?_)
    refine TT.steps (cd := cd169) 5 (c' := (30, [(2, 199), (2, li), (2, 36), (0, ((n : Nat) : Int))], [(0, ((n : Nat) : Int)), (2, 41), (2, 201)], τ)) rfl rfl ?_
    refine TT.aldN (cd := cd169) (41) (n) rfl rfl rfl rfl (show n < 10 by omega) ?_
    refine TT.top0 (z := ((s : Nat) : Int)) ((hP.1 _ _ (by omega) (by omega)).trans hs) ?_
    refine TT.steps (cd := cd169) 1 (c' := (32, [(2, 199), (2, li), (2, 36), (0, ((n : Nat) : Int))], [(0, ((s : Nat) : Int)), (2, 201), (0, ((s : Nat) : Int)), (2, 201)], τ)) rfl rfl ?_
    refine TT.aldN (cd := cd169) (201) (s) rfl rfl rfl rfl (show s < 14 by omega) ?_
    refine TT.top0 (z := ((bs (fun p => decide (σ 41 p = (s : Int))) n : Nat) : Int)) (hP.2 s hs2).2 ?_
    refine TT.steps (cd := cd169) 4 (c' := (37, [(2, 199), (2, li), (2, 36), (0, ((n : Nat) : Int))], [(0, (aOr ((bs (fun p => decide (σ 41 p = (s : Int))) n : Nat) : Int) (aShl 1 ((n : Nat) : Int)))), (0, ((s : Nat) : Int)), (2, 201)], τ)) rfl rfl ?_
    refine TT.astN (cd := cd169) (201) (s) rfl rfl rfl rfl (show s < 14 by omega) ?_
    refine TT.inc (cd := cd169) ((n + 1 : Nat) : Int) rfl rfl rfl rfl (fun h => absurd h.2 (show ¬ (2 = 1) by decide)) (aAdd_n (a := n) (b := 1) (by omega)) (ls' := [(2, 199), (2, li), (2, 36), (0, ((n + 1 : Nat) : Int))]) rfl ?_
    refine TT.steps (cd := cd169) 1 (c' := (21, [(2, 199), (2, li), (2, 36), (0, ((n + 1 : Nat) : Int))], [], (up2 τ 201 s (aOr ((bs (fun p => decide (σ 41 p = (s : Int))) n : Nat) : Int) (aShl 1 ((n : Nat) : Int)))))) rfl rfl ?_
    have e3 : ((n + 1 : Nat) : Int) = (((n + 1) : Nat) : Int) := by omega
    rw [e3]
    clear e3
    exact ih (n + 1) (by omega) _ (LN2_s hP (by omega) hs2 hs)
theorem vl_ln3_8_36 (X : AX) (Q : Option AV → AH → Prop) (np : Nat) (σ : AH) (hc : σ 36 0 = (np : Int)) (hnp2 : np ≤ 10) (nt : Nat) (L : Nat → Nat) (hnt : σ 8 2 = (nt : Int)) (hnt2 : nt ≤ 6) (hL : ∀ t, t < nt → σ 15 t = (L t : Int) ∧ L t ≤ 8) (hCa : ∀ t k, t < nt → k < L t → ∃ s : Nat, s < 14 ∧ σ (17 + t) k = (s : Int))  (kk : ∀ (τ : AH), LN3 σ τ 8 36 np L nt → TT X 169 (53, [(2, 199), (2, 8), (2, 36), (0, ((nt : Nat) : Int))], [], τ) Q) : ∀ (d n : Nat), n + d = nt → ∀ (τ : AH), LN3 σ τ 8 36 np L n → TT X 169 (42, [(2, 199), (2, 8), (2, 36), (0, ((n : Nat) : Int))], [], τ) Q := by
  intro d
  induction d with
  | zero =>
    intro n hn τ hP
    have hnn : n = nt := by omega
    rw [hnn] at hP ⊢
    refine TT.steps (cd := cd169) 3 (c' := (45, [(2, 199), (2, 8), (2, 36), (0, ((nt : Nat) : Int))], [(0, (τ 8 2)), (0, ((nt : Nat) : Int))], τ)) rfl rfl ?_
    refine TT.top0 (z := ((nt : Nat) : Int)) ((hP.1 _ _ (by omega)).trans hnt) ?_
    refine TT.steps (cd := cd169) 1 (c' := ((if decide (((nt : Nat) : Int) ≤ ((nt : Nat) : Int)) = true then 53 else 46), [(2, 199), (2, 8), (2, 36), (0, ((nt : Nat) : Int))], [], τ)) rfl rfl ?_
    refine TT.br (p := ((nt : Nat) : Int) ≤ ((nt : Nat) : Int)) (fun h1 => ?_) (fun h1 => absurd (show ((nt : Nat) : Int) ≤ ((nt : Nat) : Int) by omega) h1)
    exact kk _ hP
  | succ d ih =>
    intro n hn τ hP
    refine TT.steps (cd := cd169) 3 (c' := (45, [(2, 199), (2, 8), (2, 36), (0, ((n : Nat) : Int))], [(0, (τ 8 2)), (0, ((n : Nat) : Int))], τ)) rfl rfl ?_
    refine TT.top0 (z := ((nt : Nat) : Int)) ((hP.1 _ _ (by omega)).trans hnt) ?_
    refine TT.steps (cd := cd169) 1 (c' := ((if decide (((nt : Nat) : Int) ≤ ((n : Nat) : Int)) = true then 53 else 46), [(2, 199), (2, 8), (2, 36), (0, ((n : Nat) : Int))], [], τ)) rfl rfl ?_
    refine TT.br (p := ((nt : Nat) : Int) ≤ ((n : Nat) : Int)) (fun h1 => absurd h1 (show ¬ (((nt : Nat) : Int) ≤ ((n : Nat) : Int)) by omega)) (fun h1 => ?_)
    refine TT.steps (cd := cd169) 4 (c' := (50, [(2, 199), (2, 8), (2, 36), (0, ((n : Nat) : Int))], [(0, ((n : Nat) : Int)), (2, 36), (2, 8), (2, 199)], τ)) rfl rfl ?_
    refine TT.call (cd := cd169) rfl rfl rfl (by decide) rfl (v_learnTrain_8_36 X n (L n) np τ ((hP.1 _ _ (by omega)).trans hc) hnp2 (by omega) (hL n (by omega)).2 (fun k hk => by rw [hP.1 _ _ (by omega)]; exact hCa n k (by omega) hk) (fun s hs => by simp only [hP.1 41 _ (by omega)]; exact (hP.2.1 s hs).2) ((hP.1 _ _ (by omega)).trans (hL n (by omega)).1)) (fun r2 σ2 hq => ?_)
    obtain ⟨rfl, hT⟩ := hq
    refine TT.inc (cd := cd169) ((n + 1 : Nat) : Int) rfl rfl rfl rfl (fun h => absurd h.2 (show ¬ (2 = 1) by decide)) (aAdd_n (a := n) (b := 1) (by omega)) (ls' := [(2, 199), (2, 8), (2, 36), (0, ((n + 1 : Nat) : Int))]) rfl ?_
    refine TT.steps (cd := cd169) 1 (c' := (42, [(2, 199), (2, 8), (2, 36), (0, ((n + 1 : Nat) : Int))], [], σ2)) rfl rfl ?_
    have e3 : ((n + 1 : Nat) : Int) = (((n + 1) : Nat) : Int) := by omega
    rw [e3]
    clear e3
    exact ih (n + 1) (by omega) _ (LN3_s (Or.inl rfl) (Or.inl rfl) (by omega) hP hT)
theorem v_learn_8_36 (X : AX) (np : Nat) (σ : AH) (hc : σ 36 0 = (np : Int)) (hnp2 : np ≤ 10) (nt : Nat) (L : Nat → Nat) (hnt : σ 8 2 = (nt : Int)) (hnt2 : nt ≤ 6) (hL : ∀ t, t < nt → σ 15 t = (L t : Int) ∧ L t ≤ 8) (hCa : ∀ t k, t < nt → k < L t → ∃ s : Nat, s < 14 ∧ σ (17 + t) k = (s : Int)) (hto : ∀ p, p < np → ∃ s : Nat, s < 14 ∧ σ 41 p = (s : Int)) : TT X 169 (0, [(2, 199), (2, 8), (2, 36), (9, 0)], [], σ) (fun r υ => r = none ∧ LN3 σ υ 8 36 np L nt) := by
  refine TT.steps (cd := cd169) 2 (c' := (2, [(2, 199), (2, 8), (2, 36), (0, ((0 : Nat) : Int))], [], σ)) rfl rfl ?_
  refine vl_ln1_36 X _ 8 np σ hc hnp2 (fun τ1 hP1 => ?_) 14 0 (by omega) σ ⟨fun _ _ _ _ => rfl, fun s hs => by omega⟩
  refine TT.steps (cd := cd169) 2 (c' := (21, [(2, 199), (2, 8), (2, 36), (0, ((0 : Nat) : Int))], [], τ1)) rfl rfl ?_
  refine vl_ln2_36 X _ 8 np σ hc hnp2 hto (fun τ2 hP2 => ?_) np 0 (by omega) τ1 (LN12 hP1)
  refine TT.steps (cd := cd169) 2 (c' := (42, [(2, 199), (2, 8), (2, 36), (0, ((0 : Nat) : Int))], [], τ2)) rfl rfl ?_
  refine vl_ln3_8_36 X _ np σ hc hnp2 nt L hnt hnt2 hL hCa (fun τ3 hP3 => ?_) nt 0 (by omega) τ2 (LN23 hP2)
  exact TT.ret (cd := cd169) rfl rfl rfl rfl ⟨rfl, hP3⟩
theorem v_prepare_8_36 (X : AX) (np : Nat) (σ : AH) (hc : σ 36 0 = (np : Int)) (hnp2 : np ≤ 10) (nt : Nat) (L : Nat → Nat) (hnt : σ 8 2 = (nt : Int)) (hnt2 : nt ≤ 6) (hL : ∀ t, t < nt → σ 15 t = (L t : Int) ∧ L t ≤ 8) (hCa : ∀ t k, t < nt → k < L t → ∃ s : Nat, s < 14 ∧ σ (17 + t) k = (s : Int)) (hto : ∀ p, p < np → ∃ s : Nat, s < 14 ∧ σ 41 p = (s : Int))  : TT X 115 (0, [(2, 198), (2, 8), (2, 36)], [], σ) (fun r σ' => r = none ∧ LN3 (up2 (up2 σ 198 11 8) 198 12 36) σ' 8 36 np L nt) := by
  refine TT.steps (cd := cd115) 10 (c' := (10, [(2, 198), (2, 8), (2, 36)], [(2, 36), (2, 8), (2, 199)], (up2 (up2 σ 198 11 8) 198 12 36))) rfl rfl ?_
  refine TT.call (cd := cd115) rfl rfl rfl (by decide) rfl (v_learn_8_36 X np (up2 (up2 σ 198 11 8) 198 12 36) (((up2_far (k := 198) (k' := 36) _ _ _ _ (by decide)).trans (up2_far (k := 198) (k' := 36) _ _ _ _ (by decide))).trans hc) hnp2 nt L (((up2_far (k := 198) (k' := 8) _ _ _ _ (by decide)).trans (up2_far (k := 198) (k' := 8) _ _ _ _ (by decide))).trans hnt) hnt2 (fun t ht => by rw [up2_far _ _ _ _ (by omega), up2_far _ _ _ _ (by omega)]; exact hL t ht) (fun t k ht hk => by rw [up2_far _ _ _ _ (by omega), up2_far _ _ _ _ (by omega)]; exact hCa t k ht hk) (fun p hp => by rw [up2_far _ _ _ _ (by omega), up2_far _ _ _ _ (by omega)]; exact hto p hp)) (fun r1 σ1 hq => ?_)
  obtain ⟨rfl, hT⟩ := hq
  exact TT.ret (cd := cd115) rfl rfl rfl rfl (⟨rfl, hT⟩)
theorem vl_ln3_170_36 (X : AX) (Q : Option AV → AH → Prop) (np : Nat) (σ : AH) (hc : σ 36 0 = (np : Int)) (hnp2 : np ≤ 10) (nt : Nat) (L : Nat → Nat) (hnt : σ 170 2 = (nt : Int)) (hnt2 : nt ≤ 6) (hL : ∀ t, t < nt → σ 177 t = (L t : Int) ∧ L t ≤ 8) (hCa : ∀ t k, t < nt → k < L t → ∃ s : Nat, s < 14 ∧ σ (179 + t) k = (s : Int))  (kk : ∀ (τ : AH), LN3 σ τ 170 36 np L nt → TT X 169 (53, [(2, 199), (2, 170), (2, 36), (0, ((nt : Nat) : Int))], [], τ) Q) : ∀ (d n : Nat), n + d = nt → ∀ (τ : AH), LN3 σ τ 170 36 np L n → TT X 169 (42, [(2, 199), (2, 170), (2, 36), (0, ((n : Nat) : Int))], [], τ) Q := by
  intro d
  induction d with
  | zero =>
    intro n hn τ hP
    have hnn : n = nt := by omega
    rw [hnn] at hP ⊢
    refine TT.steps (cd := cd169) 3 (c' := (45, [(2, 199), (2, 170), (2, 36), (0, ((nt : Nat) : Int))], [(0, (τ 170 2)), (0, ((nt : Nat) : Int))], τ)) rfl rfl ?_
    refine TT.top0 (z := ((nt : Nat) : Int)) ((hP.1 _ _ (by omega)).trans hnt) ?_
    refine TT.steps (cd := cd169) 1 (c' := ((if decide (((nt : Nat) : Int) ≤ ((nt : Nat) : Int)) = true then 53 else 46), [(2, 199), (2, 170), (2, 36), (0, ((nt : Nat) : Int))], [], τ)) rfl rfl ?_
    refine TT.br (p := ((nt : Nat) : Int) ≤ ((nt : Nat) : Int)) (fun h1 => ?_) (fun h1 => absurd (show ((nt : Nat) : Int) ≤ ((nt : Nat) : Int) by omega) h1)
    exact kk _ hP
  | succ d ih =>
    intro n hn τ hP
    refine TT.steps (cd := cd169) 3 (c' := (45, [(2, 199), (2, 170), (2, 36), (0, ((n : Nat) : Int))], [(0, (τ 170 2)), (0, ((n : Nat) : Int))], τ)) rfl rfl ?_
    refine TT.top0 (z := ((nt : Nat) : Int)) ((hP.1 _ _ (by omega)).trans hnt) ?_
    refine TT.steps (cd := cd169) 1 (c' := ((if decide (((nt : Nat) : Int) ≤ ((n : Nat) : Int)) = true then 53 else 46), [(2, 199), (2, 170), (2, 36), (0, ((n : Nat) : Int))], [], τ)) rfl rfl ?_
    refine TT.br (p := ((nt : Nat) : Int) ≤ ((n : Nat) : Int)) (fun h1 => absurd h1 (show ¬ (((nt : Nat) : Int) ≤ ((n : Nat) : Int)) by omega)) (fun h1 => ?_)
    refine TT.steps (cd := cd169) 4 (c' := (50, [(2, 199), (2, 170), (2, 36), (0, ((n : Nat) : Int))], [(0, ((n : Nat) : Int)), (2, 36), (2, 170), (2, 199)], τ)) rfl rfl ?_
    refine TT.call (cd := cd169) rfl rfl rfl (by decide) rfl (v_learnTrain_170_36 X n (L n) np τ ((hP.1 _ _ (by omega)).trans hc) hnp2 (by omega) (hL n (by omega)).2 (fun k hk => by rw [hP.1 _ _ (by omega)]; exact hCa n k (by omega) hk) (fun s hs => by simp only [hP.1 41 _ (by omega)]; exact (hP.2.1 s hs).2) ((hP.1 _ _ (by omega)).trans (hL n (by omega)).1)) (fun r2 σ2 hq => ?_)
    obtain ⟨rfl, hT⟩ := hq
    refine TT.inc (cd := cd169) ((n + 1 : Nat) : Int) rfl rfl rfl rfl (fun h => absurd h.2 (show ¬ (2 = 1) by decide)) (aAdd_n (a := n) (b := 1) (by omega)) (ls' := [(2, 199), (2, 170), (2, 36), (0, ((n + 1 : Nat) : Int))]) rfl ?_
    refine TT.steps (cd := cd169) 1 (c' := (42, [(2, 199), (2, 170), (2, 36), (0, ((n + 1 : Nat) : Int))], [], σ2)) rfl rfl ?_
    have e3 : ((n + 1 : Nat) : Int) = (((n + 1) : Nat) : Int) := by omega
    rw [e3]
    clear e3
    exact ih (n + 1) (by omega) _ (LN3_s (Or.inr rfl) (Or.inl rfl) (by omega) hP hT)
theorem v_learn_170_36 (X : AX) (np : Nat) (σ : AH) (hc : σ 36 0 = (np : Int)) (hnp2 : np ≤ 10) (nt : Nat) (L : Nat → Nat) (hnt : σ 170 2 = (nt : Int)) (hnt2 : nt ≤ 6) (hL : ∀ t, t < nt → σ 177 t = (L t : Int) ∧ L t ≤ 8) (hCa : ∀ t k, t < nt → k < L t → ∃ s : Nat, s < 14 ∧ σ (179 + t) k = (s : Int)) (hto : ∀ p, p < np → ∃ s : Nat, s < 14 ∧ σ 41 p = (s : Int)) : TT X 169 (0, [(2, 199), (2, 170), (2, 36), (9, 0)], [], σ) (fun r υ => r = none ∧ LN3 σ υ 170 36 np L nt) := by
  refine TT.steps (cd := cd169) 2 (c' := (2, [(2, 199), (2, 170), (2, 36), (0, ((0 : Nat) : Int))], [], σ)) rfl rfl ?_
  refine vl_ln1_36 X _ 170 np σ hc hnp2 (fun τ1 hP1 => ?_) 14 0 (by omega) σ ⟨fun _ _ _ _ => rfl, fun s hs => by omega⟩
  refine TT.steps (cd := cd169) 2 (c' := (21, [(2, 199), (2, 170), (2, 36), (0, ((0 : Nat) : Int))], [], τ1)) rfl rfl ?_
  refine vl_ln2_36 X _ 170 np σ hc hnp2 hto (fun τ2 hP2 => ?_) np 0 (by omega) τ1 (LN12 hP1)
  refine TT.steps (cd := cd169) 2 (c' := (42, [(2, 199), (2, 170), (2, 36), (0, ((0 : Nat) : Int))], [], τ2)) rfl rfl ?_
  refine vl_ln3_170_36 X _ np σ hc hnp2 nt L hnt hnt2 hL hCa (fun τ3 hP3 => ?_) nt 0 (by omega) τ2 (LN23 hP2)
  exact TT.ret (cd := cd169) rfl rfl rfl rfl ⟨rfl, hP3⟩
theorem v_prepare_170_36 (X : AX) (np : Nat) (σ : AH) (hc : σ 36 0 = (np : Int)) (hnp2 : np ≤ 10) (nt : Nat) (L : Nat → Nat) (hnt : σ 170 2 = (nt : Int)) (hnt2 : nt ≤ 6) (hL : ∀ t, t < nt → σ 177 t = (L t : Int) ∧ L t ≤ 8) (hCa : ∀ t k, t < nt → k < L t → ∃ s : Nat, s < 14 ∧ σ (179 + t) k = (s : Int)) (hto : ∀ p, p < np → ∃ s : Nat, s < 14 ∧ σ 41 p = (s : Int))  : TT X 115 (0, [(2, 198), (2, 170), (2, 36)], [], σ) (fun r σ' => r = none ∧ LN3 (up2 (up2 σ 198 11 170) 198 12 36) σ' 170 36 np L nt) := by
  refine TT.steps (cd := cd115) 10 (c' := (10, [(2, 198), (2, 170), (2, 36)], [(2, 36), (2, 170), (2, 199)], (up2 (up2 σ 198 11 170) 198 12 36))) rfl rfl ?_
  refine TT.call (cd := cd115) rfl rfl rfl (by decide) rfl (v_learn_170_36 X np (up2 (up2 σ 198 11 170) 198 12 36) (((up2_far (k := 198) (k' := 36) _ _ _ _ (by decide)).trans (up2_far (k := 198) (k' := 36) _ _ _ _ (by decide))).trans hc) hnp2 nt L (((up2_far (k := 198) (k' := 170) _ _ _ _ (by decide)).trans (up2_far (k := 198) (k' := 170) _ _ _ _ (by decide))).trans hnt) hnt2 (fun t ht => by rw [up2_far _ _ _ _ (by omega), up2_far _ _ _ _ (by omega)]; exact hL t ht) (fun t k ht hk => by rw [up2_far _ _ _ _ (by omega), up2_far _ _ _ _ (by omega)]; exact hCa t k ht hk) (fun p hp => by rw [up2_far _ _ _ _ (by omega), up2_far _ _ _ _ (by omega)]; exact hto p hp)) (fun r1 σ1 hq => ?_)
  obtain ⟨rfl, hT⟩ := hq
  exact TT.ret (cd := cd115) rfl rfl rfl rfl (⟨rfl, hT⟩)
theorem vl_ln1_42 (X : AX) (Q : Option AV → AH → Prop) (li : Int) (np : Nat) (σ : AH) (hc : σ 42 0 = (np : Int)) (hnp2 : np ≤ 10)  (kk : ∀ (τ : AH), LN1 σ τ 42 np 14 → TT X 169 (19, [(2, 199), (2, li), (2, 42), (0, 14)], [], τ) Q) : ∀ (d n : Nat), n + d = 14 → ∀ (τ : AH), LN1 σ τ 42 np n → TT X 169 (2, [(2, 199), (2, li), (2, 42), (0, ((n : Nat) : Int))], [], τ) Q := by
  intro d
  induction d with
  | zero =>
    intro n hn τ hP
    have hnn : n = 14 := by omega
    rw [hnn] at hP ⊢
    refine TT.steps (cd := cd169) 3 (c' := (19, [(2, 199), (2, li), (2, 42), (0, 14)], [], τ)) rfl rfl ?_
    exact kk _ hP
  | succ d ih =>
    intro n hn τ hP
    refine TT.steps (cd := cd169) 3 (c' := ((if decide (14 ≤ ((n : Nat) : Int)) = true then 19 else 5), [(2, 199), (2, li), (2, 42), (0, ((n : Nat) : Int))], [], τ)) rfl rfl ?_
    refine TT.br (p := 14 ≤ ((n : Nat) : Int)) (fun h1 => absurd h1 (show ¬ (14 ≤ ((n : Nat) : Int)) by omega)) (fun h1 => ?_)
    refine TT.steps (cd := cd169) 5 (c' := (10, [(2, 199), (2, li), (2, 42), (0, ((n : Nat) : Int))], [(0, ((n : Nat) : Int)), (2, 42), (0, ((n : Nat) : Int)), (2, 200)], τ)) rfl rfl ?_
    refine TT.call (cd := cd169) rfl rfl rfl (by decide) rfl (u_bornAtS X ((n : Nat) : Int) np τ ((hP.1 _ _ (by omega) (by omega)).trans hc) hnp2) (fun r2 σ2 hq => ?_)
    rw [hq.1, hq.2]
    simp only [hP.1 44 _ (by omega) (by omega), hP.1 45 _ (by omega) (by omega)]
    refine TT.astN (cd := cd169) (200) (n) rfl rfl rfl rfl (show n < 14 by omega) ?_
    refine TT.steps (cd := cd169) 4 (c' := (16, [(2, 199), (2, li), (2, 42), (0, ((n : Nat) : Int))], [(0, 0), (0, ((n : Nat) : Int)), (2, 201)], (up2 τ 200 n ((bs (fun p => decide (σ 44 p = ((n : Nat) : Int) ∧ σ 45 p = -1)) np : Nat) : Int)))) rfl rfl ?_
    refine TT.astN (cd := cd169) (201) (n) rfl rfl rfl rfl (show n < 14 by omega) ?_
    refine TT.inc (cd := cd169) ((n + 1 : Nat) : Int) rfl rfl rfl rfl (fun h => absurd h.2 (show ¬ (2 = 1) by decide)) (aAdd_n (a := n) (b := 1) (by omega)) (ls' := [(2, 199), (2, li), (2, 42), (0, ((n + 1 : Nat) : Int))]) rfl ?_
    refine TT.steps (cd := cd169) 1 (c' := (2, [(2, 199), (2, li), (2, 42), (0, ((n + 1 : Nat) : Int))], [], (up2 (up2 τ 200 n ((bs (fun p => decide (σ 44 p = ((n : Nat) : Int) ∧ σ 45 p = -1)) np : Nat) : Int)) 201 n 0))) rfl rfl ?_
    have e3 : ((n + 1 : Nat) : Int) = (((n + 1) : Nat) : Int) := by omega
    rw [e3]
    clear e3
    exact ih (n + 1) (by omega) _ (LN1_s hP rfl)
theorem vl_ln2_42 (X : AX) (Q : Option AV → AH → Prop) (li : Int) (np : Nat) (σ : AH) (hc : σ 42 0 = (np : Int)) (hnp2 : np ≤ 10) (hto : ∀ p, p < np → ∃ s : Nat, s < 14 ∧ σ 47 p = (s : Int))  (kk : ∀ (τ : AH), LN2 σ τ 42 np np → TT X 169 (40, [(2, 199), (2, li), (2, 42), (0, ((np : Nat) : Int))], [], τ) Q) : ∀ (d n : Nat), n + d = np → ∀ (τ : AH), LN2 σ τ 42 np n → TT X 169 (21, [(2, 199), (2, li), (2, 42), (0, ((n : Nat) : Int))], [], τ) Q := by
  intro d
  induction d with
  | zero =>
    intro n hn τ hP
    have hnn : n = np := by omega
    rw [hnn] at hP ⊢
    refine TT.steps (cd := cd169) 3 (c' := (24, [(2, 199), (2, li), (2, 42), (0, ((np : Nat) : Int))], [(0, (τ 42 0)), (0, ((np : Nat) : Int))], τ)) rfl rfl ?_
    refine TT.top0 (z := ((np : Nat) : Int)) ((hP.1 _ _ (by omega) (by omega)).trans hc) ?_
    refine TT.steps (cd := cd169) 1 (c' := ((if decide (((np : Nat) : Int) ≤ ((np : Nat) : Int)) = true then 40 else 25), [(2, 199), (2, li), (2, 42), (0, ((np : Nat) : Int))], [], τ)) rfl rfl ?_
    refine TT.br (p := ((np : Nat) : Int) ≤ ((np : Nat) : Int)) (fun h1 => ?_) (fun h1 => absurd (show ((np : Nat) : Int) ≤ ((np : Nat) : Int) by omega) h1)
    exact kk _ hP
  | succ d ih =>
    intro n hn τ hP
    obtain ⟨s, hs2, hs⟩ := hto n (by omega)
    refine TT.steps (cd := cd169) 3 (c' := (24, [(2, 199), (2, li), (2, 42), (0, ((n : Nat) : Int))], [(0, (τ 42 0)), (0, ((n : Nat) : Int))], τ)) rfl rfl ?_
    refine TT.top0 (z := ((np : Nat) : Int)) ((hP.1 _ _ (by omega) (by omega)).trans hc) ?_
    refine TT.steps (cd := cd169) 1 (c' := ((if decide (((np : Nat) : Int) ≤ ((n : Nat) : Int)) = true then 40 else 25), [(2, 199), (2, li), (2, 42), (0, ((n : Nat) : Int))], [], τ)) rfl rfl ?_
    refine TT.br (p := ((np : Nat) : Int) ≤ ((n : Nat) : Int)) (fun h1 => absurd h1 (show ¬ (((np : Nat) : Int) ≤ ((n : Nat) : Int)) by omega)) (fun h1 => ?_)
    refine TT.steps (cd := cd169) 5 (c' := (30, [(2, 199), (2, li), (2, 42), (0, ((n : Nat) : Int))], [(0, ((n : Nat) : Int)), (2, 47), (2, 201)], τ)) rfl rfl ?_
    refine TT.aldN (cd := cd169) (47) (n) rfl rfl rfl rfl (show n < 10 by omega) ?_
    refine TT.top0 (z := ((s : Nat) : Int)) ((hP.1 _ _ (by omega) (by omega)).trans hs) ?_
    refine TT.steps (cd := cd169) 1 (c' := (32, [(2, 199), (2, li), (2, 42), (0, ((n : Nat) : Int))], [(0, ((s : Nat) : Int)), (2, 201), (0, ((s : Nat) : Int)), (2, 201)], τ)) rfl rfl ?_
    refine TT.aldN (cd := cd169) (201) (s) rfl rfl rfl rfl (show s < 14 by omega) ?_
    refine TT.top0 (z := ((bs (fun p => decide (σ 47 p = (s : Int))) n : Nat) : Int)) (hP.2 s hs2).2 ?_
    refine TT.steps (cd := cd169) 4 (c' := (37, [(2, 199), (2, li), (2, 42), (0, ((n : Nat) : Int))], [(0, (aOr ((bs (fun p => decide (σ 47 p = (s : Int))) n : Nat) : Int) (aShl 1 ((n : Nat) : Int)))), (0, ((s : Nat) : Int)), (2, 201)], τ)) rfl rfl ?_
    refine TT.astN (cd := cd169) (201) (s) rfl rfl rfl rfl (show s < 14 by omega) ?_
    refine TT.inc (cd := cd169) ((n + 1 : Nat) : Int) rfl rfl rfl rfl (fun h => absurd h.2 (show ¬ (2 = 1) by decide)) (aAdd_n (a := n) (b := 1) (by omega)) (ls' := [(2, 199), (2, li), (2, 42), (0, ((n + 1 : Nat) : Int))]) rfl ?_
    refine TT.steps (cd := cd169) 1 (c' := (21, [(2, 199), (2, li), (2, 42), (0, ((n + 1 : Nat) : Int))], [], (up2 τ 201 s (aOr ((bs (fun p => decide (σ 47 p = (s : Int))) n : Nat) : Int) (aShl 1 ((n : Nat) : Int)))))) rfl rfl ?_
    have e3 : ((n + 1 : Nat) : Int) = (((n + 1) : Nat) : Int) := by omega
    rw [e3]
    clear e3
    exact ih (n + 1) (by omega) _ (LN2_s hP (by omega) hs2 hs)
theorem vl_ln3_8_42 (X : AX) (Q : Option AV → AH → Prop) (np : Nat) (σ : AH) (hc : σ 42 0 = (np : Int)) (hnp2 : np ≤ 10) (nt : Nat) (L : Nat → Nat) (hnt : σ 8 2 = (nt : Int)) (hnt2 : nt ≤ 6) (hL : ∀ t, t < nt → σ 15 t = (L t : Int) ∧ L t ≤ 8) (hCa : ∀ t k, t < nt → k < L t → ∃ s : Nat, s < 14 ∧ σ (17 + t) k = (s : Int))  (kk : ∀ (τ : AH), LN3 σ τ 8 42 np L nt → TT X 169 (53, [(2, 199), (2, 8), (2, 42), (0, ((nt : Nat) : Int))], [], τ) Q) : ∀ (d n : Nat), n + d = nt → ∀ (τ : AH), LN3 σ τ 8 42 np L n → TT X 169 (42, [(2, 199), (2, 8), (2, 42), (0, ((n : Nat) : Int))], [], τ) Q := by
  intro d
  induction d with
  | zero =>
    intro n hn τ hP
    have hnn : n = nt := by omega
    rw [hnn] at hP ⊢
    refine TT.steps (cd := cd169) 3 (c' := (45, [(2, 199), (2, 8), (2, 42), (0, ((nt : Nat) : Int))], [(0, (τ 8 2)), (0, ((nt : Nat) : Int))], τ)) rfl rfl ?_
    refine TT.top0 (z := ((nt : Nat) : Int)) ((hP.1 _ _ (by omega)).trans hnt) ?_
    refine TT.steps (cd := cd169) 1 (c' := ((if decide (((nt : Nat) : Int) ≤ ((nt : Nat) : Int)) = true then 53 else 46), [(2, 199), (2, 8), (2, 42), (0, ((nt : Nat) : Int))], [], τ)) rfl rfl ?_
    refine TT.br (p := ((nt : Nat) : Int) ≤ ((nt : Nat) : Int)) (fun h1 => ?_) (fun h1 => absurd (show ((nt : Nat) : Int) ≤ ((nt : Nat) : Int) by omega) h1)
    exact kk _ hP
  | succ d ih =>
    intro n hn τ hP
    refine TT.steps (cd := cd169) 3 (c' := (45, [(2, 199), (2, 8), (2, 42), (0, ((n : Nat) : Int))], [(0, (τ 8 2)), (0, ((n : Nat) : Int))], τ)) rfl rfl ?_
    refine TT.top0 (z := ((nt : Nat) : Int)) ((hP.1 _ _ (by omega)).trans hnt) ?_
    refine TT.steps (cd := cd169) 1 (c' := ((if decide (((nt : Nat) : Int) ≤ ((n : Nat) : Int)) = true then 53 else 46), [(2, 199), (2, 8), (2, 42), (0, ((n : Nat) : Int))], [], τ)) rfl rfl ?_
    refine TT.br (p := ((nt : Nat) : Int) ≤ ((n : Nat) : Int)) (fun h1 => absurd h1 (show ¬ (((nt : Nat) : Int) ≤ ((n : Nat) : Int)) by omega)) (fun h1 => ?_)
    refine TT.steps (cd := cd169) 4 (c' := (50, [(2, 199), (2, 8), (2, 42), (0, ((n : Nat) : Int))], [(0, ((n : Nat) : Int)), (2, 42), (2, 8), (2, 199)], τ)) rfl rfl ?_
    refine TT.call (cd := cd169) rfl rfl rfl (by decide) rfl (v_learnTrain_8_42 X n (L n) np τ ((hP.1 _ _ (by omega)).trans hc) hnp2 (by omega) (hL n (by omega)).2 (fun k hk => by rw [hP.1 _ _ (by omega)]; exact hCa n k (by omega) hk) (fun s hs => by simp only [hP.1 47 _ (by omega)]; exact (hP.2.1 s hs).2) ((hP.1 _ _ (by omega)).trans (hL n (by omega)).1)) (fun r2 σ2 hq => ?_)
    obtain ⟨rfl, hT⟩ := hq
    refine TT.inc (cd := cd169) ((n + 1 : Nat) : Int) rfl rfl rfl rfl (fun h => absurd h.2 (show ¬ (2 = 1) by decide)) (aAdd_n (a := n) (b := 1) (by omega)) (ls' := [(2, 199), (2, 8), (2, 42), (0, ((n + 1 : Nat) : Int))]) rfl ?_
    refine TT.steps (cd := cd169) 1 (c' := (42, [(2, 199), (2, 8), (2, 42), (0, ((n + 1 : Nat) : Int))], [], σ2)) rfl rfl ?_
    have e3 : ((n + 1 : Nat) : Int) = (((n + 1) : Nat) : Int) := by omega
    rw [e3]
    clear e3
    exact ih (n + 1) (by omega) _ (LN3_s (Or.inl rfl) (Or.inr rfl) (by omega) hP hT)
theorem v_learn_8_42 (X : AX) (np : Nat) (σ : AH) (hc : σ 42 0 = (np : Int)) (hnp2 : np ≤ 10) (nt : Nat) (L : Nat → Nat) (hnt : σ 8 2 = (nt : Int)) (hnt2 : nt ≤ 6) (hL : ∀ t, t < nt → σ 15 t = (L t : Int) ∧ L t ≤ 8) (hCa : ∀ t k, t < nt → k < L t → ∃ s : Nat, s < 14 ∧ σ (17 + t) k = (s : Int)) (hto : ∀ p, p < np → ∃ s : Nat, s < 14 ∧ σ 47 p = (s : Int)) : TT X 169 (0, [(2, 199), (2, 8), (2, 42), (9, 0)], [], σ) (fun r υ => r = none ∧ LN3 σ υ 8 42 np L nt) := by
  refine TT.steps (cd := cd169) 2 (c' := (2, [(2, 199), (2, 8), (2, 42), (0, ((0 : Nat) : Int))], [], σ)) rfl rfl ?_
  refine vl_ln1_42 X _ 8 np σ hc hnp2 (fun τ1 hP1 => ?_) 14 0 (by omega) σ ⟨fun _ _ _ _ => rfl, fun s hs => by omega⟩
  refine TT.steps (cd := cd169) 2 (c' := (21, [(2, 199), (2, 8), (2, 42), (0, ((0 : Nat) : Int))], [], τ1)) rfl rfl ?_
  refine vl_ln2_42 X _ 8 np σ hc hnp2 hto (fun τ2 hP2 => ?_) np 0 (by omega) τ1 (LN12 hP1)
  refine TT.steps (cd := cd169) 2 (c' := (42, [(2, 199), (2, 8), (2, 42), (0, ((0 : Nat) : Int))], [], τ2)) rfl rfl ?_
  refine vl_ln3_8_42 X _ np σ hc hnp2 nt L hnt hnt2 hL hCa (fun τ3 hP3 => ?_) nt 0 (by omega) τ2 (LN23 hP2)
  exact TT.ret (cd := cd169) rfl rfl rfl rfl ⟨rfl, hP3⟩
theorem v_prepare_8_42 (X : AX) (np : Nat) (σ : AH) (hc : σ 42 0 = (np : Int)) (hnp2 : np ≤ 10) (nt : Nat) (L : Nat → Nat) (hnt : σ 8 2 = (nt : Int)) (hnt2 : nt ≤ 6) (hL : ∀ t, t < nt → σ 15 t = (L t : Int) ∧ L t ≤ 8) (hCa : ∀ t k, t < nt → k < L t → ∃ s : Nat, s < 14 ∧ σ (17 + t) k = (s : Int)) (hto : ∀ p, p < np → ∃ s : Nat, s < 14 ∧ σ 47 p = (s : Int))  : TT X 115 (0, [(2, 198), (2, 8), (2, 42)], [], σ) (fun r σ' => r = none ∧ LN3 (up2 (up2 σ 198 11 8) 198 12 42) σ' 8 42 np L nt) := by
  refine TT.steps (cd := cd115) 10 (c' := (10, [(2, 198), (2, 8), (2, 42)], [(2, 42), (2, 8), (2, 199)], (up2 (up2 σ 198 11 8) 198 12 42))) rfl rfl ?_
  refine TT.call (cd := cd115) rfl rfl rfl (by decide) rfl (v_learn_8_42 X np (up2 (up2 σ 198 11 8) 198 12 42) (((up2_far (k := 198) (k' := 42) _ _ _ _ (by decide)).trans (up2_far (k := 198) (k' := 42) _ _ _ _ (by decide))).trans hc) hnp2 nt L (((up2_far (k := 198) (k' := 8) _ _ _ _ (by decide)).trans (up2_far (k := 198) (k' := 8) _ _ _ _ (by decide))).trans hnt) hnt2 (fun t ht => by rw [up2_far _ _ _ _ (by omega), up2_far _ _ _ _ (by omega)]; exact hL t ht) (fun t k ht hk => by rw [up2_far _ _ _ _ (by omega), up2_far _ _ _ _ (by omega)]; exact hCa t k ht hk) (fun p hp => by rw [up2_far _ _ _ _ (by omega), up2_far _ _ _ _ (by omega)]; exact hto p hp)) (fun r1 σ1 hq => ?_)
  obtain ⟨rfl, hT⟩ := hq
  exact TT.ret (cd := cd115) rfl rfl rfl rfl (⟨rfl, hT⟩)
theorem vl_ln3_170_42 (X : AX) (Q : Option AV → AH → Prop) (np : Nat) (σ : AH) (hc : σ 42 0 = (np : Int)) (hnp2 : np ≤ 10) (nt : Nat) (L : Nat → Nat) (hnt : σ 170 2 = (nt : Int)) (hnt2 : nt ≤ 6) (hL : ∀ t, t < nt → σ 177 t = (L t : Int) ∧ L t ≤ 8) (hCa : ∀ t k, t < nt → k < L t → ∃ s : Nat, s < 14 ∧ σ (179 + t) k = (s : Int))  (kk : ∀ (τ : AH), LN3 σ τ 170 42 np L nt → TT X 169 (53, [(2, 199), (2, 170), (2, 42), (0, ((nt : Nat) : Int))], [], τ) Q) : ∀ (d n : Nat), n + d = nt → ∀ (τ : AH), LN3 σ τ 170 42 np L n → TT X 169 (42, [(2, 199), (2, 170), (2, 42), (0, ((n : Nat) : Int))], [], τ) Q := by
  intro d
  induction d with
  | zero =>
    intro n hn τ hP
    have hnn : n = nt := by omega
    rw [hnn] at hP ⊢
    refine TT.steps (cd := cd169) 3 (c' := (45, [(2, 199), (2, 170), (2, 42), (0, ((nt : Nat) : Int))], [(0, (τ 170 2)), (0, ((nt : Nat) : Int))], τ)) rfl rfl ?_
    refine TT.top0 (z := ((nt : Nat) : Int)) ((hP.1 _ _ (by omega)).trans hnt) ?_
    refine TT.steps (cd := cd169) 1 (c' := ((if decide (((nt : Nat) : Int) ≤ ((nt : Nat) : Int)) = true then 53 else 46), [(2, 199), (2, 170), (2, 42), (0, ((nt : Nat) : Int))], [], τ)) rfl rfl ?_
    refine TT.br (p := ((nt : Nat) : Int) ≤ ((nt : Nat) : Int)) (fun h1 => ?_) (fun h1 => absurd (show ((nt : Nat) : Int) ≤ ((nt : Nat) : Int) by omega) h1)
    exact kk _ hP
  | succ d ih =>
    intro n hn τ hP
    refine TT.steps (cd := cd169) 3 (c' := (45, [(2, 199), (2, 170), (2, 42), (0, ((n : Nat) : Int))], [(0, (τ 170 2)), (0, ((n : Nat) : Int))], τ)) rfl rfl ?_
    refine TT.top0 (z := ((nt : Nat) : Int)) ((hP.1 _ _ (by omega)).trans hnt) ?_
    refine TT.steps (cd := cd169) 1 (c' := ((if decide (((nt : Nat) : Int) ≤ ((n : Nat) : Int)) = true then 53 else 46), [(2, 199), (2, 170), (2, 42), (0, ((n : Nat) : Int))], [], τ)) rfl rfl ?_
    refine TT.br (p := ((nt : Nat) : Int) ≤ ((n : Nat) : Int)) (fun h1 => absurd h1 (show ¬ (((nt : Nat) : Int) ≤ ((n : Nat) : Int)) by omega)) (fun h1 => ?_)
    refine TT.steps (cd := cd169) 4 (c' := (50, [(2, 199), (2, 170), (2, 42), (0, ((n : Nat) : Int))], [(0, ((n : Nat) : Int)), (2, 42), (2, 170), (2, 199)], τ)) rfl rfl ?_
    refine TT.call (cd := cd169) rfl rfl rfl (by decide) rfl (v_learnTrain_170_42 X n (L n) np τ ((hP.1 _ _ (by omega)).trans hc) hnp2 (by omega) (hL n (by omega)).2 (fun k hk => by rw [hP.1 _ _ (by omega)]; exact hCa n k (by omega) hk) (fun s hs => by simp only [hP.1 47 _ (by omega)]; exact (hP.2.1 s hs).2) ((hP.1 _ _ (by omega)).trans (hL n (by omega)).1)) (fun r2 σ2 hq => ?_)
    obtain ⟨rfl, hT⟩ := hq
    refine TT.inc (cd := cd169) ((n + 1 : Nat) : Int) rfl rfl rfl rfl (fun h => absurd h.2 (show ¬ (2 = 1) by decide)) (aAdd_n (a := n) (b := 1) (by omega)) (ls' := [(2, 199), (2, 170), (2, 42), (0, ((n + 1 : Nat) : Int))]) rfl ?_
    refine TT.steps (cd := cd169) 1 (c' := (42, [(2, 199), (2, 170), (2, 42), (0, ((n + 1 : Nat) : Int))], [], σ2)) rfl rfl ?_
    have e3 : ((n + 1 : Nat) : Int) = (((n + 1) : Nat) : Int) := by omega
    rw [e3]
    clear e3
    exact ih (n + 1) (by omega) _ (LN3_s (Or.inr rfl) (Or.inr rfl) (by omega) hP hT)
theorem v_learn_170_42 (X : AX) (np : Nat) (σ : AH) (hc : σ 42 0 = (np : Int)) (hnp2 : np ≤ 10) (nt : Nat) (L : Nat → Nat) (hnt : σ 170 2 = (nt : Int)) (hnt2 : nt ≤ 6) (hL : ∀ t, t < nt → σ 177 t = (L t : Int) ∧ L t ≤ 8) (hCa : ∀ t k, t < nt → k < L t → ∃ s : Nat, s < 14 ∧ σ (179 + t) k = (s : Int)) (hto : ∀ p, p < np → ∃ s : Nat, s < 14 ∧ σ 47 p = (s : Int)) : TT X 169 (0, [(2, 199), (2, 170), (2, 42), (9, 0)], [], σ) (fun r υ => r = none ∧ LN3 σ υ 170 42 np L nt) := by
  refine TT.steps (cd := cd169) 2 (c' := (2, [(2, 199), (2, 170), (2, 42), (0, ((0 : Nat) : Int))], [], σ)) rfl rfl ?_
  refine vl_ln1_42 X _ 170 np σ hc hnp2 (fun τ1 hP1 => ?_) 14 0 (by omega) σ ⟨fun _ _ _ _ => rfl, fun s hs => by omega⟩
  refine TT.steps (cd := cd169) 2 (c' := (21, [(2, 199), (2, 170), (2, 42), (0, ((0 : Nat) : Int))], [], τ1)) rfl rfl ?_
  refine vl_ln2_42 X _ 170 np σ hc hnp2 hto (fun τ2 hP2 => ?_) np 0 (by omega) τ1 (LN12 hP1)
  refine TT.steps (cd := cd169) 2 (c' := (42, [(2, 199), (2, 170), (2, 42), (0, ((0 : Nat) : Int))], [], τ2)) rfl rfl ?_
  refine vl_ln3_170_42 X _ np σ hc hnp2 nt L hnt hnt2 hL hCa (fun τ3 hP3 => ?_) nt 0 (by omega) τ2 (LN23 hP2)
  exact TT.ret (cd := cd169) rfl rfl rfl rfl ⟨rfl, hP3⟩
theorem v_prepare_170_42 (X : AX) (np : Nat) (σ : AH) (hc : σ 42 0 = (np : Int)) (hnp2 : np ≤ 10) (nt : Nat) (L : Nat → Nat) (hnt : σ 170 2 = (nt : Int)) (hnt2 : nt ≤ 6) (hL : ∀ t, t < nt → σ 177 t = (L t : Int) ∧ L t ≤ 8) (hCa : ∀ t k, t < nt → k < L t → ∃ s : Nat, s < 14 ∧ σ (179 + t) k = (s : Int)) (hto : ∀ p, p < np → ∃ s : Nat, s < 14 ∧ σ 47 p = (s : Int))  : TT X 115 (0, [(2, 198), (2, 170), (2, 42)], [], σ) (fun r σ' => r = none ∧ LN3 (up2 (up2 σ 198 11 170) 198 12 42) σ' 170 42 np L nt) := by
  refine TT.steps (cd := cd115) 10 (c' := (10, [(2, 198), (2, 170), (2, 42)], [(2, 42), (2, 170), (2, 199)], (up2 (up2 σ 198 11 170) 198 12 42))) rfl rfl ?_
  refine TT.call (cd := cd115) rfl rfl rfl (by decide) rfl (v_learn_170_42 X np (up2 (up2 σ 198 11 170) 198 12 42) (((up2_far (k := 198) (k' := 42) _ _ _ _ (by decide)).trans (up2_far (k := 198) (k' := 42) _ _ _ _ (by decide))).trans hc) hnp2 nt L (((up2_far (k := 198) (k' := 170) _ _ _ _ (by decide)).trans (up2_far (k := 198) (k' := 170) _ _ _ _ (by decide))).trans hnt) hnt2 (fun t ht => by rw [up2_far _ _ _ _ (by omega), up2_far _ _ _ _ (by omega)]; exact hL t ht) (fun t k ht hk => by rw [up2_far _ _ _ _ (by omega), up2_far _ _ _ _ (by omega)]; exact hCa t k ht hk) (fun p hp => by rw [up2_far _ _ _ _ (by omega), up2_far _ _ _ _ (by omega)]; exact hto p hp)) (fun r1 σ1 hq => ?_)
  obtain ⟨rfl, hT⟩ := hq
  exact TT.ret (cd := cd115) rfl rfl rfl rfl (⟨rfl, hT⟩)
