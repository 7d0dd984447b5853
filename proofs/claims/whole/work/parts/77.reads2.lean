/-! How many there are; stations, trains, dead ones. -/
theorem sumA_01w {f : Nat → Int} {n : Nat} (hn : n ≤ 1000000) (g : Nat → Bool) (h : ∀ p, p < n → f p = if g p = true then 1 else 0) : sumA f n = ((cnt g n : Nat) : Int) := by
  rw [← sumA_cnt _ hn]
  exact sumA_c h
theorem bornAt_0 {σ ρ : AH} {np ns : Nat} (hT : PTb σ ρ 36 0 np ns) (s : Int) : (((bs (fun p => decide (σ 38 p = s ∧ σ 39 p = -1)) np : Nat) : Int) = 0) ↔ ¬ mAnyB ρ 0 np s = true := by
  have e : anyN (fun p => decide (σ 38 p = s ∧ σ 39 p = -1)) np = mAnyB ρ 0 np s := by
    apply anyN_c
    intro p hp
    obtain ⟨⟨s1, -, e1, e2⟩, e3, -⟩ := hT.2 p hp
    rw [e1, e2, e3]
  rw [← e]
  exact ⟨fun h g => (bs_ne _ _).mpr g h, fun h => Decidable.byContradiction (fun g => h ((bs_ne _ _).mp g))⟩
theorem ul_cd_8 (X : AX) (Q : Option AV → AH → Prop) (ρ : AH) (ns np : Nat) (σ : AH) (h05 : σ 0 5 = 8) (hns : σ 8 1 = (ns : Int)) (hns2 : ns ≤ 14) (hPb : PTb σ ρ 36 0 np ns) (c1 : np ≤ 10)  (kk : TT X 227 (22, [(2, 0), (0, (sumA (fun s => if mAnyB ρ 0 np (s : Int) = true then 0 else 1) ns)), (0, ((ns : Nat) : Int))], [], σ) Q) : ∀ (d n : Nat), n + d = ns → TT X 227 (4, [(2, 0), (0, (sumA (fun s => if mAnyB ρ 0 np (s : Int) = true then 0 else 1) n)), (0, ((n : Nat) : Int))], [], σ) Q := by
  intro d
  induction d with
  | zero =>
    intro n hn
    have hnn : n = ns := by omega
    rw [hnn]
    refine TT.steps (cd := cd227) 3 (c' := (7, [(2, 0), (0, (sumA (fun s => if mAnyB ρ 0 np (s : Int) = true then 0 else 1) ns)), (0, ((ns : Nat) : Int))], [(2, (σ 0 5)), (0, ((ns : Nat) : Int))], σ)) rfl rfl ?_
    refine TT.top0 (z := 8) h05 ?_
    refine TT.steps (cd := cd227) 1 (c' := (8, [(2, 0), (0, (sumA (fun s => if mAnyB ρ 0 np (s : Int) = true then 0 else 1) ns)), (0, ((ns : Nat) : Int))], [(0, (σ 8 1)), (0, ((ns : Nat) : Int))], σ)) rfl rfl ?_
    refine TT.top0 (z := ((ns : Nat) : Int)) hns ?_
    refine TT.steps (cd := cd227) 1 (c' := ((if decide (((ns : Nat) : Int) ≤ ((ns : Nat) : Int)) = true then 22 else 9), [(2, 0), (0, (sumA (fun s => if mAnyB ρ 0 np (s : Int) = true then 0 else 1) ns)), (0, ((ns : Nat) : Int))], [], σ)) rfl rfl ?_
    refine TT.br (p := ((ns : Nat) : Int) ≤ ((ns : Nat) : Int)) (fun h1 => ?_) (fun h1 => absurd (show ((ns : Nat) : Int) ≤ ((ns : Nat) : Int) by omega) h1)
    exact kk
  | succ d ih =>
    intro n hn
    refine TT.steps (cd := cd227) 3 (c' := (7, [(2, 0), (0, (sumA (fun s => if mAnyB ρ 0 np (s : Int) = true then 0 else 1) n)), (0, ((n : Nat) : Int))], [(2, (σ 0 5)), (0, ((n : Nat) : Int))], σ)) rfl rfl ?_
    refine TT.top0 (z := 8) h05 ?_
    refine TT.steps (cd := cd227) 1 (c' := (8, [(2, 0), (0, (sumA (fun s => if mAnyB ρ 0 np (s : Int) = true then 0 else 1) n)), (0, ((n : Nat) : Int))], [(0, (σ 8 1)), (0, ((n : Nat) : Int))], σ)) rfl rfl ?_
    refine TT.top0 (z := ((ns : Nat) : Int)) hns ?_
    refine TT.steps (cd := cd227) 1 (c' := ((if decide (((ns : Nat) : Int) ≤ ((n : Nat) : Int)) = true then 22 else 9), [(2, 0), (0, (sumA (fun s => if mAnyB ρ 0 np (s : Int) = true then 0 else 1) n)), (0, ((n : Nat) : Int))], [], σ)) rfl rfl ?_
    refine TT.br (p := ((ns : Nat) : Int) ≤ ((n : Nat) : Int)) (fun h1 => absurd h1 (show ¬ (((ns : Nat) : Int) ≤ ((n : Nat) : Int)) by omega)) (fun h1 => ?_)
    refine TT.steps (cd := cd227) 4 (c' := (13, [(2, 0), (0, (sumA (fun s => if mAnyB ρ 0 np (s : Int) = true then 0 else 1) n)), (0, ((n : Nat) : Int))], [(0, ((n : Nat) : Int)), (2, 36), (0, (sumA (fun s => if mAnyB ρ 0 np (s : Int) = true then 0 else 1) n))], σ)) rfl rfl ?_
    refine TT.call (cd := cd227) rfl rfl rfl (by decide) rfl (u_bornAtN X ((n : Nat) : Int) np σ hPb.1 c1) (fun r2 σ2 hq => ?_)
    rw [hq.1, hq.2]
    refine TT.steps (cd := cd227) 1 (c' := ((if decide (¬ ((bs (fun p => decide (σ 38 p = ((n : Nat) : Int) ∧ σ 39 p = -1)) np : Nat) : Int) = 0) = true then 17 else 15), [(2, 0), (0, (sumA (fun s => if mAnyB ρ 0 np (s : Int) = true then 0 else 1) n)), (0, ((n : Nat) : Int))], [(0, (sumA (fun s => if mAnyB ρ 0 np (s : Int) = true then 0 else 1) n))], σ)) rfl rfl ?_
    refine TT.br (p := ¬ ((bs (fun p => decide (σ 38 p = ((n : Nat) : Int) ∧ σ 39 p = -1)) np : Nat) : Int) = 0) (fun h3 => ?_) (fun h3 => ?_)
    · refine TT.steps (cd := cd227) 2 (c' := (19, [(2, 0), (0, (sumA (fun s => if mAnyB ρ 0 np (s : Int) = true then 0 else 1) n)), (0, ((n : Nat) : Int))], [(0, (aAdd (sumA (fun s => if mAnyB ρ 0 np (s : Int) = true then 0 else 1) n) 0))], σ)) rfl rfl ?_
      refine TT.steps (cd := cd227) 1 (c' := (20, [(2, 0), (0, (aAdd (sumA (fun s => if mAnyB ρ 0 np (s : Int) = true then 0 else 1) n) 0)), (0, ((n : Nat) : Int))], [], σ)) rfl rfl ?_
      refine TT.inc (cd := cd227) ((n + 1 : Nat) : Int) rfl rfl rfl rfl (fun h => absurd h.2 (show ¬ (0 = 1) by decide)) (aAdd_n (a := n) (b := 1) (by omega)) (ls' := [(2, 0), (0, (aAdd (sumA (fun s => if mAnyB ρ 0 np (s : Int) = true then 0 else 1) n) 0)), (0, ((n + 1 : Nat) : Int))]) rfl ?_
      refine TT.steps (cd := cd227) 1 (c' := (4, [(2, 0), (0, (aAdd (sumA (fun s => if mAnyB ρ 0 np (s : Int) = true then 0 else 1) n) 0)), (0, ((n + 1 : Nat) : Int))], [], σ)) rfl rfl ?_
      have e1 : (aAdd (sumA (fun s => if mAnyB ρ 0 np (s : Int) = true then 0 else 1) n) 0) = (sumA (fun s => if mAnyB ρ 0 np (s : Int) = true then 0 else 1) (n + 1)) := by first | (rw [sumA, if_neg ((bornAt_0 hPb _).mp (Decidable.not_not.mp (by assumption)))]; done) | (rw [sumA, if_neg ((bornAt_0 hPb _).mp (by assumption))]; done) | (rw [sumA, if_pos (Decidable.not_not.mp (fun g => absurd ((bornAt_0 hPb _).mpr g) (by assumption)))]; done)
      rw [e1]
      clear e1
      have e2 : ((n + 1 : Nat) : Int) = (((n + 1) : Nat) : Int) := by omega
      rw [e2]
      clear e2
      exact ih (n + 1) (by omega)
    · refine TT.steps (cd := cd227) 3 (c' := (19, [(2, 0), (0, (sumA (fun s => if mAnyB ρ 0 np (s : Int) = true then 0 else 1) n)), (0, ((n : Nat) : Int))], [(0, (aAdd (sumA (fun s => if mAnyB ρ 0 np (s : Int) = true then 0 else 1) n) 1))], σ)) rfl rfl ?_
      refine TT.steps (cd := cd227) 1 (c' := (20, [(2, 0), (0, (aAdd (sumA (fun s => if mAnyB ρ 0 np (s : Int) = true then 0 else 1) n) 1)), (0, ((n : Nat) : Int))], [], σ)) rfl rfl ?_
      refine TT.inc (cd := cd227) ((n + 1 : Nat) : Int) rfl rfl rfl rfl (fun h => absurd h.2 (show ¬ (0 = 1) by decide)) (aAdd_n (a := n) (b := 1) (by omega)) (ls' := [(2, 0), (0, (aAdd (sumA (fun s => if mAnyB ρ 0 np (s : Int) = true then 0 else 1) n) 1)), (0, ((n + 1 : Nat) : Int))]) rfl ?_
      refine TT.steps (cd := cd227) 1 (c' := (4, [(2, 0), (0, (aAdd (sumA (fun s => if mAnyB ρ 0 np (s : Int) = true then 0 else 1) n) 1)), (0, ((n + 1 : Nat) : Int))], [], σ)) rfl rfl ?_
      have e1 : (aAdd (sumA (fun s => if mAnyB ρ 0 np (s : Int) = true then 0 else 1) n) 1) = (sumA (fun s => if mAnyB ρ 0 np (s : Int) = true then 0 else 1) (n + 1)) := by first | (rw [sumA, if_neg ((bornAt_0 hPb _).mp (Decidable.not_not.mp (by assumption)))]; done) | (rw [sumA, if_neg ((bornAt_0 hPb _).mp (by assumption))]; done) | (rw [sumA, if_pos (Decidable.not_not.mp (fun g => absurd ((bornAt_0 hPb _).mpr g) (by assumption)))]; done)
      rw [e1]
      clear e1
      have e2 : ((n + 1 : Nat) : Int) = (((n + 1) : Nat) : Int) := by omega
      rw [e2]
      clear e2
      exact ih (n + 1) (by omega)
theorem u_countDead_8 (X : AX) (ρ : AH) (ns np : Nat) (σ : AH) (h05 : σ 0 5 = 8) (hns : σ 8 1 = (ns : Int)) (hns2 : ns ≤ 14) (hPb : PTb σ ρ 36 0 np ns) (c1 : np ≤ 10)  : TT X 227 (0, [(2, 0), (9, 0), (9, 0)], [], σ) (fun r σ' => r = some (0, mDM ρ np ns) ∧ σ' = σ) := by
  refine TT.steps (cd := cd227) 4 (c' := (4, [(2, 0), (0, 0), (0, 0)], [], σ)) rfl rfl ?_
  refine ul_cd_8 X _ ρ ns np σ h05 hns hns2 hPb c1 ?_ ns 0 (by omega)
  refine TT.steps (cd := cd227) 1 (c' := (23, [(2, 0), (0, (sumA (fun s => if mAnyB ρ 0 np (s : Int) = true then 0 else 1) ns)), (0, ((ns : Nat) : Int))], [(0, (sumA (fun s => if mAnyB ρ 0 np (s : Int) = true then 0 else 1) ns))], σ)) rfl rfl ?_
  exact TT.ret (cd := cd227) rfl rfl rfl rfl (⟨rfl, rfl⟩)
theorem ul_dead_8 (X : AX) (k0 : Int) (ρ : AH) (ns np : Nat) (σ : AH) (h05 : σ 0 5 = 8) (hns : σ 8 1 = (ns : Int)) (hns2 : ns ≤ 14) (hPb : PTb σ ρ 36 0 np ns) (c1 : np ≤ 10) : ∀ (d n a : Nat), n + d = ns → a ≤ n → TT X 208 (4, [(2, 0), (0, k0), (0, ((a : Nat) : Int)), (0, ((n : Nat) : Int))], [], σ) (fun r σ' => r = some (0, mDd ρ np k0 d n a) ∧ σ' = σ) := by
  intro d
  induction d with
  | zero =>
    intro n a hn ha
    have hnn : n = ns := by omega
    rw [hnn]
    refine TT.steps (cd := cd208) 3 (c' := (7, [(2, 0), (0, k0), (0, ((a : Nat) : Int)), (0, ((ns : Nat) : Int))], [(2, (σ 0 5)), (0, ((ns : Nat) : Int))], σ)) rfl rfl ?_
    refine TT.top0 (z := 8) h05 ?_
    refine TT.steps (cd := cd208) 1 (c' := (8, [(2, 0), (0, k0), (0, ((a : Nat) : Int)), (0, ((ns : Nat) : Int))], [(0, (σ 8 1)), (0, ((ns : Nat) : Int))], σ)) rfl rfl ?_
    refine TT.top0 (z := ((ns : Nat) : Int)) hns ?_
    refine TT.steps (cd := cd208) 1 (c' := ((if decide (((ns : Nat) : Int) ≤ ((ns : Nat) : Int)) = true then 22 else 9), [(2, 0), (0, k0), (0, ((a : Nat) : Int)), (0, ((ns : Nat) : Int))], [], σ)) rfl rfl ?_
    refine TT.br (p := ((ns : Nat) : Int) ≤ ((ns : Nat) : Int)) (fun h1 => ?_) (fun h1 => absurd (show ((ns : Nat) : Int) ≤ ((ns : Nat) : Int) by omega) h1)
    refine TT.steps (cd := cd208) 1 (c' := (23, [(2, 0), (0, k0), (0, ((a : Nat) : Int)), (0, ((ns : Nat) : Int))], [(0, -1)], σ)) rfl rfl ?_
    exact TT.ret (cd := cd208) rfl rfl rfl rfl (⟨rfl, rfl⟩)
  | succ d ih =>
    intro n a hn ha
    rw [mDd]
    refine TT.steps (cd := cd208) 3 (c' := (7, [(2, 0), (0, k0), (0, ((a : Nat) : Int)), (0, ((n : Nat) : Int))], [(2, (σ 0 5)), (0, ((n : Nat) : Int))], σ)) rfl rfl ?_
    refine TT.top0 (z := 8) h05 ?_
    refine TT.steps (cd := cd208) 1 (c' := (8, [(2, 0), (0, k0), (0, ((a : Nat) : Int)), (0, ((n : Nat) : Int))], [(0, (σ 8 1)), (0, ((n : Nat) : Int))], σ)) rfl rfl ?_
    refine TT.top0 (z := ((ns : Nat) : Int)) hns ?_
    refine TT.steps (cd := cd208) 1 (c' := ((if decide (((ns : Nat) : Int) ≤ ((n : Nat) : Int)) = true then 22 else 9), [(2, 0), (0, k0), (0, ((a : Nat) : Int)), (0, ((n : Nat) : Int))], [], σ)) rfl rfl ?_
    refine TT.br (p := ((ns : Nat) : Int) ≤ ((n : Nat) : Int)) (fun h1 => absurd h1 (show ¬ (((ns : Nat) : Int) ≤ ((n : Nat) : Int)) by omega)) (fun h1 => ?_)
    refine TT.steps (cd := cd208) 3 (c' := (12, [(2, 0), (0, k0), (0, ((a : Nat) : Int)), (0, ((n : Nat) : Int))], [(0, ((n : Nat) : Int)), (2, 36)], σ)) rfl rfl ?_
    refine TT.call (cd := cd208) rfl rfl rfl (by decide) rfl (u_bornAtN X ((n : Nat) : Int) np σ hPb.1 c1) (fun r2 σ2 hq => ?_)
    rw [hq.1, hq.2]
    refine TT.steps (cd := cd208) 1 (c' := ((if decide (¬ ((bs (fun p => decide (σ 38 p = ((n : Nat) : Int) ∧ σ 39 p = -1)) np : Nat) : Int) = 0) = true then 20 else 14), [(2, 0), (0, k0), (0, ((a : Nat) : Int)), (0, ((n : Nat) : Int))], [], σ)) rfl rfl ?_
    refine TT.br (p := ¬ ((bs (fun p => decide (σ 38 p = ((n : Nat) : Int) ∧ σ 39 p = -1)) np : Nat) : Int) = 0) (fun h3 => ?_) (fun h3 => ?_)
    · refine TT.inc (cd := cd208) ((n + 1 : Nat) : Int) rfl rfl rfl rfl (fun h => absurd h.2 (show ¬ (0 = 1) by decide)) (aAdd_n (a := n) (b := 1) (by omega)) (ls' := [(2, 0), (0, k0), (0, ((a : Nat) : Int)), (0, ((n + 1 : Nat) : Int))]) rfl ?_
      refine TT.steps (cd := cd208) 1 (c' := (4, [(2, 0), (0, k0), (0, ((a : Nat) : Int)), (0, ((n + 1 : Nat) : Int))], [], σ)) rfl rfl ?_
      rw [if_pos (Decidable.not_not.mp (fun g => absurd ((bornAt_0 hPb _).mpr g) (by assumption)))]
      exact ih (n + 1) a (by omega) (by omega)
    · refine TT.steps (cd := cd208) 3 (c' := ((if decide (¬ ((a : Nat) : Int) = k0) = true then 19 else 17), [(2, 0), (0, k0), (0, ((a : Nat) : Int)), (0, ((n : Nat) : Int))], [], σ)) rfl rfl ?_
      refine TT.br (p := ¬ ((a : Nat) : Int) = k0) (fun h4 => ?_) (fun h4 => ?_)
      · refine TT.inc (cd := cd208) ((a + 1 : Nat) : Int) rfl rfl rfl rfl (fun h => absurd h.2 (show ¬ (0 = 1) by decide)) (aAdd_n (a := a) (b := 1) (by omega)) (ls' := [(2, 0), (0, k0), (0, ((a + 1 : Nat) : Int)), (0, ((n : Nat) : Int))]) rfl ?_
        refine TT.inc (cd := cd208) ((n + 1 : Nat) : Int) rfl rfl rfl rfl (fun h => absurd h.2 (show ¬ (0 = 1) by decide)) (aAdd_n (a := n) (b := 1) (by omega)) (ls' := [(2, 0), (0, k0), (0, ((a + 1 : Nat) : Int)), (0, ((n + 1 : Nat) : Int))]) rfl ?_
        refine TT.steps (cd := cd208) 1 (c' := (4, [(2, 0), (0, k0), (0, ((a + 1 : Nat) : Int)), (0, ((n + 1 : Nat) : Int))], [], σ)) rfl rfl ?_
        rw [if_neg ((bornAt_0 hPb _).mp (Decidable.not_not.mp (by assumption))), if_neg (by omega)]
        exact ih (n + 1) (a + 1) (by omega) (by omega)
      · refine TT.steps (cd := cd208) 1 (c' := (18, [(2, 0), (0, k0), (0, ((a : Nat) : Int)), (0, ((n : Nat) : Int))], [(0, ((n : Nat) : Int))], σ)) rfl rfl ?_
        rw [if_neg ((bornAt_0 hPb _).mp (Decidable.not_not.mp (by assumption))), if_pos (by omega)]
        exact TT.ret (cd := cd208) rfl rfl rfl rfl ⟨rfl, rfl⟩
theorem u_dead_8 (X : AX) (k0 : Int) (ρ : AH) (ns np : Nat) (σ : AH) (h05 : σ 0 5 = 8) (hns : σ 8 1 = (ns : Int)) (hns2 : ns ≤ 14) (hPb : PTb σ ρ 36 0 np ns) (c1 : np ≤ 10)  : TT X 208 (0, [(2, 0), (0, k0), (9, 0), (9, 0)], [], σ) (fun r σ' => r = some (0, mDd ρ np k0 ns 0 0) ∧ σ' = σ) := by
  refine TT.steps (cd := cd208) 4 (c' := (4, [(2, 0), (0, k0), (0, 0), (0, 0)], [], σ)) rfl rfl ?_
  exact ul_dead_8 X k0 ρ ns np σ h05 hns hns2 hPb c1 ns 0 0 (by omega) (by omega)
theorem ul_cd_170 (X : AX) (Q : Option AV → AH → Prop) (ρ : AH) (ns np : Nat) (σ : AH) (h05 : σ 0 5 = 170) (hns : σ 170 1 = (ns : Int)) (hns2 : ns ≤ 14) (hPb : PTb σ ρ 36 0 np ns) (c1 : np ≤ 10)  (kk : TT X 227 (22, [(2, 0), (0, (sumA (fun s => if mAnyB ρ 0 np (s : Int) = true then 0 else 1) ns)), (0, ((ns : Nat) : Int))], [], σ) Q) : ∀ (d n : Nat), n + d = ns → TT X 227 (4, [(2, 0), (0, (sumA (fun s => if mAnyB ρ 0 np (s : Int) = true then 0 else 1) n)), (0, ((n : Nat) : Int))], [], σ) Q := by
  intro d
  induction d with
  | zero =>
    intro n hn
    have hnn : n = ns := by omega
    rw [hnn]
    refine TT.steps (cd := cd227) 3 (c' := (7, [(2, 0), (0, (sumA (fun s => if mAnyB ρ 0 np (s : Int) = true then 0 else 1) ns)), (0, ((ns : Nat) : Int))], [(2, (σ 0 5)), (0, ((ns : Nat) : Int))], σ)) rfl rfl ?_
    refine TT.top0 (z := 170) h05 ?_
    refine TT.steps (cd := cd227) 1 (c' := (8, [(2, 0), (0, (sumA (fun s => if mAnyB ρ 0 np (s : Int) = true then 0 else 1) ns)), (0, ((ns : Nat) : Int))], [(0, (σ 170 1)), (0, ((ns : Nat) : Int))], σ)) rfl rfl ?_
    refine TT.top0 (z := ((ns : Nat) : Int)) hns ?_
    refine TT.steps (cd := cd227) 1 (c' := ((if decide (((ns : Nat) : Int) ≤ ((ns : Nat) : Int)) = true then 22 else 9), [(2, 0), (0, (sumA (fun s => if mAnyB ρ 0 np (s : Int) = true then 0 else 1) ns)), (0, ((ns : Nat) : Int))], [], σ)) rfl rfl ?_
    refine TT.br (p := ((ns : Nat) : Int) ≤ ((ns : Nat) : Int)) (fun h1 => ?_) (fun h1 => absurd (show ((ns : Nat) : Int) ≤ ((ns : Nat) : Int) by omega) h1)
    exact kk
  | succ d ih =>
    intro n hn
    refine TT.steps (cd := cd227) 3 (c' := (7, [(2, 0), (0, (sumA (fun s => if mAnyB ρ 0 np (s : Int) = true then 0 else 1) n)), (0, ((n : Nat) : Int))], [(2, (σ 0 5)), (0, ((n : Nat) : Int))], σ)) rfl rfl ?_
    refine TT.top0 (z := 170) h05 ?_
    refine TT.steps (cd := cd227) 1 (c' := (8, [(2, 0), (0, (sumA (fun s => if mAnyB ρ 0 np (s : Int) = true then 0 else 1) n)), (0, ((n : Nat) : Int))], [(0, (σ 170 1)), (0, ((n : Nat) : Int))], σ)) rfl rfl ?_
    refine TT.top0 (z := ((ns : Nat) : Int)) hns ?_
    refine TT.steps (cd := cd227) 1 (c' := ((if decide (((ns : Nat) : Int) ≤ ((n : Nat) : Int)) = true then 22 else 9), [(2, 0), (0, (sumA (fun s => if mAnyB ρ 0 np (s : Int) = true then 0 else 1) n)), (0, ((n : Nat) : Int))], [], σ)) rfl rfl ?_
    refine TT.br (p := ((ns : Nat) : Int) ≤ ((n : Nat) : Int)) (fun h1 => absurd h1 (show ¬ (((ns : Nat) : Int) ≤ ((n : Nat) : Int)) by omega)) (fun h1 => ?_)
    refine TT.steps (cd := cd227) 4 (c' := (13, [(2, 0), (0, (sumA (fun s => if mAnyB ρ 0 np (s : Int) = true then 0 else 1) n)), (0, ((n : Nat) : Int))], [(0, ((n : Nat) : Int)), (2, 36), (0, (sumA (fun s => if mAnyB ρ 0 np (s : Int) = true then 0 else 1) n))], σ)) rfl rfl ?_
    refine TT.call (cd := cd227) rfl rfl rfl (by decide) rfl (u_bornAtN X ((n : Nat) : Int) np σ hPb.1 c1) (fun r2 σ2 hq => ?_)
    rw [hq.1, hq.2]
    refine TT.steps (cd := cd227) 1 (c' := ((if decide (¬ ((bs (fun p => decide (σ 38 p = ((n : Nat) : Int) ∧ σ 39 p = -1)) np : Nat) : Int) = 0) = true then 17 else 15), [(2, 0), (0, (sumA (fun s => if mAnyB ρ 0 np (s : Int) = true then 0 else 1) n)), (0, ((n : Nat) : Int))], [(0, (sumA (fun s => if mAnyB ρ 0 np (s : Int) = true then 0 else 1) n))], σ)) rfl rfl ?_
    refine TT.br (p := ¬ ((bs (fun p => decide (σ 38 p = ((n : Nat) : Int) ∧ σ 39 p = -1)) np : Nat) : Int) = 0) (fun h3 => ?_) (fun h3 => ?_)
    · refine TT.steps (cd := cd227) 2 (c' := (19, [(2, 0), (0, (sumA (fun s => if mAnyB ρ 0 np (s : Int) = true then 0 else 1) n)), (0, ((n : Nat) : Int))], [(0, (aAdd (sumA (fun s => if mAnyB ρ 0 np (s : Int) = true then 0 else 1) n) 0))], σ)) rfl rfl ?_
      refine TT.steps (cd := cd227) 1 (c' := (20, [(2, 0), (0, (aAdd (sumA (fun s => if mAnyB ρ 0 np (s : Int) = true then 0 else 1) n) 0)), (0, ((n : Nat) : Int))], [], σ)) rfl rfl ?_
      refine TT.inc (cd := cd227) ((n + 1 : Nat) : Int) rfl rfl rfl rfl (fun h => absurd h.2 (show ¬ (0 = 1) by decide)) (aAdd_n (a := n) (b := 1) (by omega)) (ls' := [(2, 0), (0, (aAdd (sumA (fun s => if mAnyB ρ 0 np (s : Int) = true then 0 else 1) n) 0)), (0, ((n + 1 : Nat) : Int))]) rfl ?_
      refine TT.steps (cd := cd227) 1 (c' := (4, [(2, 0), (0, (aAdd (sumA (fun s => if mAnyB ρ 0 np (s : Int) = true then 0 else 1) n) 0)), (0, ((n + 1 : Nat) : Int))], [], σ)) rfl rfl ?_
      have e1 : (aAdd (sumA (fun s => if mAnyB ρ 0 np (s : Int) = true then 0 else 1) n) 0) = (sumA (fun s => if mAnyB ρ 0 np (s : Int) = true then 0 else 1) (n + 1)) := by first | (rw [sumA, if_neg ((bornAt_0 hPb _).mp (Decidable.not_not.mp (by assumption)))]; done) | (rw [sumA, if_neg ((bornAt_0 hPb _).mp (by assumption))]; done) | (rw [sumA, if_pos (Decidable.not_not.mp (fun g => absurd ((bornAt_0 hPb _).mpr g) (by assumption)))]; done)
      rw [e1]
      clear e1
      have e2 : ((n + 1 : Nat) : Int) = (((n + 1) : Nat) : Int) := by omega
      rw [e2]
      clear e2
      exact ih (n + 1) (by omega)
    · refine TT.steps (cd := cd227) 3 (c' := (19, [(2, 0), (0, (sumA (fun s => if mAnyB ρ 0 np (s : Int) = true then 0 else 1) n)), (0, ((n : Nat) : Int))], [(0, (aAdd (sumA (fun s => if mAnyB ρ 0 np (s : Int) = true then 0 else 1) n) 1))], σ)) rfl rfl ?_
      refine TT.steps (cd := cd227) 1 (c' := (20, [(2, 0), (0, (aAdd (sumA (fun s => if mAnyB ρ 0 np (s : Int) = true then 0 else 1) n) 1)), (0, ((n : Nat) : Int))], [], σ)) rfl rfl ?_
      refine TT.inc (cd := cd227) ((n + 1 : Nat) : Int) rfl rfl rfl rfl (fun h => absurd h.2 (show ¬ (0 = 1) by decide)) (aAdd_n (a := n) (b := 1) (by omega)) (ls' := [(2, 0), (0, (aAdd (sumA (fun s => if mAnyB ρ 0 np (s : Int) = true then 0 else 1) n) 1)), (0, ((n + 1 : Nat) : Int))]) rfl ?_
      refine TT.steps (cd := cd227) 1 (c' := (4, [(2, 0), (0, (aAdd (sumA (fun s => if mAnyB ρ 0 np (s : Int) = true then 0 else 1) n) 1)), (0, ((n + 1 : Nat) : Int))], [], σ)) rfl rfl ?_
      have e1 : (aAdd (sumA (fun s => if mAnyB ρ 0 np (s : Int) = true then 0 else 1) n) 1) = (sumA (fun s => if mAnyB ρ 0 np (s : Int) = true then 0 else 1) (n + 1)) := by first | (rw [sumA, if_neg ((bornAt_0 hPb _).mp (Decidable.not_not.mp (by assumption)))]; done) | (rw [sumA, if_neg ((bornAt_0 hPb _).mp (by assumption))]; done) | (rw [sumA, if_pos (Decidable.not_not.mp (fun g => absurd ((bornAt_0 hPb _).mpr g) (by assumption)))]; done)
      rw [e1]
      clear e1
      have e2 : ((n + 1 : Nat) : Int) = (((n + 1) : Nat) : Int) := by omega
      rw [e2]
      clear e2
      exact ih (n + 1) (by omega)
theorem u_countDead_170 (X : AX) (ρ : AH) (ns np : Nat) (σ : AH) (h05 : σ 0 5 = 170) (hns : σ 170 1 = (ns : Int)) (hns2 : ns ≤ 14) (hPb : PTb σ ρ 36 0 np ns) (c1 : np ≤ 10)  : TT X 227 (0, [(2, 0), (9, 0), (9, 0)], [], σ) (fun r σ' => r = some (0, mDM ρ np ns) ∧ σ' = σ) := by
  refine TT.steps (cd := cd227) 4 (c' := (4, [(2, 0), (0, 0), (0, 0)], [], σ)) rfl rfl ?_
  refine ul_cd_170 X _ ρ ns np σ h05 hns hns2 hPb c1 ?_ ns 0 (by omega)
  refine TT.steps (cd := cd227) 1 (c' := (23, [(2, 0), (0, (sumA (fun s => if mAnyB ρ 0 np (s : Int) = true then 0 else 1) ns)), (0, ((ns : Nat) : Int))], [(0, (sumA (fun s => if mAnyB ρ 0 np (s : Int) = true then 0 else 1) ns))], σ)) rfl rfl ?_
  exact TT.ret (cd := cd227) rfl rfl rfl rfl (⟨rfl, rfl⟩)
theorem ul_dead_170 (X : AX) (k0 : Int) (ρ : AH) (ns np : Nat) (σ : AH) (h05 : σ 0 5 = 170) (hns : σ 170 1 = (ns : Int)) (hns2 : ns ≤ 14) (hPb : PTb σ ρ 36 0 np ns) (c1 : np ≤ 10) : ∀ (d n a : Nat), n + d = ns → a ≤ n → TT X 208 (4, [(2, 0), (0, k0), (0, ((a : Nat) : Int)), (0, ((n : Nat) : Int))], [], σ) (fun r σ' => r = some (0, mDd ρ np k0 d n a) ∧ σ' = σ) := by
  intro d
  induction d with
  | zero =>
    intro n a hn ha
    have hnn : n = ns := by omega
    rw [hnn]
    refine TT.steps (cd := cd208) 3 (c' := (7, [(2, 0), (0, k0), (0, ((a : Nat) : Int)), (0, ((ns : Nat) : Int))], [(2, (σ 0 5)), (0, ((ns : Nat) : Int))], σ)) rfl rfl ?_
    refine TT.top0 (z := 170) h05 ?_
    refine TT.steps (cd := cd208) 1 (c' := (8, [(2, 0), (0, k0), (0, ((a : Nat) : Int)), (0, ((ns : Nat) : Int))], [(0, (σ 170 1)), (0, ((ns : Nat) : Int))], σ)) rfl rfl ?_
    refine TT.top0 (z := ((ns : Nat) : Int)) hns ?_
    refine TT.steps (cd := cd208) 1 (c' := ((if decide (((ns : Nat) : Int) ≤ ((ns : Nat) : Int)) = true then 22 else 9), [(2, 0), (0, k0), (0, ((a : Nat) : Int)), (0, ((ns : Nat) : Int))], [], σ)) rfl rfl ?_
    refine TT.br (p := ((ns : Nat) : Int) ≤ ((ns : Nat) : Int)) (fun h1 => ?_) (fun h1 => absurd (show ((ns : Nat) : Int) ≤ ((ns : Nat) : Int) by omega) h1)
    refine TT.steps (cd := cd208) 1 (c' := (23, [(2, 0), (0, k0), (0, ((a : Nat) : Int)), (0, ((ns : Nat) : Int))], [(0, -1)], σ)) rfl rfl ?_
    exact TT.ret (cd := cd208) rfl rfl rfl rfl (⟨rfl, rfl⟩)
  | succ d ih =>
    intro n a hn ha
    rw [mDd]
    refine TT.steps (cd := cd208) 3 (c' := (7, [(2, 0), (0, k0), (0, ((a : Nat) : Int)), (0, ((n : Nat) : Int))], [(2, (σ 0 5)), (0, ((n : Nat) : Int))], σ)) rfl rfl ?_
    refine TT.top0 (z := 170) h05 ?_
    refine TT.steps (cd := cd208) 1 (c' := (8, [(2, 0), (0, k0), (0, ((a : Nat) : Int)), (0, ((n : Nat) : Int))], [(0, (σ 170 1)), (0, ((n : Nat) : Int))], σ)) rfl rfl ?_
    refine TT.top0 (z := ((ns : Nat) : Int)) hns ?_
    refine TT.steps (cd := cd208) 1 (c' := ((if decide (((ns : Nat) : Int) ≤ ((n : Nat) : Int)) = true then 22 else 9), [(2, 0), (0, k0), (0, ((a : Nat) : Int)), (0, ((n : Nat) : Int))], [], σ)) rfl rfl ?_
    refine TT.br (p := ((ns : Nat) : Int) ≤ ((n : Nat) : Int)) (fun h1 => absurd h1 (show ¬ (((ns : Nat) : Int) ≤ ((n : Nat) : Int)) by omega)) (fun h1 => ?_)
    refine TT.steps (cd := cd208) 3 (c' := (12, [(2, 0), (0, k0), (0, ((a : Nat) : Int)), (0, ((n : Nat) : Int))], [(0, ((n : Nat) : Int)), (2, 36)], σ)) rfl rfl ?_
    refine TT.call (cd := cd208) rfl rfl rfl (by decide) rfl (u_bornAtN X ((n : Nat) : Int) np σ hPb.1 c1) (fun r2 σ2 hq => ?_)
    rw [hq.1, hq.2]
    refine TT.steps (cd := cd208) 1 (c' := ((if decide (¬ ((bs (fun p => decide (σ 38 p = ((n : Nat) : Int) ∧ σ 39 p = -1)) np : Nat) : Int) = 0) = true then 20 else 14), [(2, 0), (0, k0), (0, ((a : Nat) : Int)), (0, ((n : Nat) : Int))], [], σ)) rfl rfl ?_
    refine TT.br (p := ¬ ((bs (fun p => decide (σ 38 p = ((n : Nat) : Int) ∧ σ 39 p = -1)) np : Nat) : Int) = 0) (fun h3 => ?_) (fun h3 => ?_)
    · refine TT.inc (cd := cd208) ((n + 1 : Nat) : Int) rfl rfl rfl rfl (fun h => absurd h.2 (show ¬ (0 = 1) by decide)) (aAdd_n (a := n) (b := 1) (by omega)) (ls' := [(2, 0), (0, k0), (0, ((a : Nat) : Int)), (0, ((n + 1 : Nat) : Int))]) rfl ?_
      refine TT.steps (cd := cd208) 1 (c' := (4, [(2, 0), (0, k0), (0, ((a : Nat) : Int)), (0, ((n + 1 : Nat) : Int))], [], σ)) rfl rfl ?_
      rw [if_pos (Decidable.not_not.mp (fun g => absurd ((bornAt_0 hPb _).mpr g) (by assumption)))]
      exact ih (n + 1) a (by omega) (by omega)
    · refine TT.steps (cd := cd208) 3 (c' := ((if decide (¬ ((a : Nat) : Int) = k0) = true then 19 else 17), [(2, 0), (0, k0), (0, ((a : Nat) : Int)), (0, ((n : Nat) : Int))], [], σ)) rfl rfl ?_
      refine TT.br (p := ¬ ((a : Nat) : Int) = k0) (fun h4 => ?_) (fun h4 => ?_)
      · refine TT.inc (cd := cd208) ((a + 1 : Nat) : Int) rfl rfl rfl rfl (fun h => absurd h.2 (show ¬ (0 = 1) by decide)) (aAdd_n (a := a) (b := 1) (by omega)) (ls' := [(2, 0), (0, k0), (0, ((a + 1 : Nat) : Int)), (0, ((n : Nat) : Int))]) rfl ?_
        refine TT.inc (cd := cd208) ((n + 1 : Nat) : Int) rfl rfl rfl rfl (fun h => absurd h.2 (show ¬ (0 = 1) by decide)) (aAdd_n (a := n) (b := 1) (by omega)) (ls' := [(2, 0), (0, k0), (0, ((a + 1 : Nat) : Int)), (0, ((n + 1 : Nat) : Int))]) rfl ?_
        refine TT.steps (cd := cd208) 1 (c' := (4, [(2, 0), (0, k0), (0, ((a + 1 : Nat) : Int)), (0, ((n + 1 : Nat) : Int))], [], σ)) rfl rfl ?_
        rw [if_neg ((bornAt_0 hPb _).mp (Decidable.not_not.mp (by assumption))), if_neg (by omega)]
        exact ih (n + 1) (a + 1) (by omega) (by omega)
      · refine TT.steps (cd := cd208) 1 (c' := (18, [(2, 0), (0, k0), (0, ((a : Nat) : Int)), (0, ((n : Nat) : Int))], [(0, ((n : Nat) : Int))], σ)) rfl rfl ?_
        rw [if_neg ((bornAt_0 hPb _).mp (Decidable.not_not.mp (by assumption))), if_pos (by omega)]
        exact TT.ret (cd := cd208) rfl rfl rfl rfl ⟨rfl, rfl⟩
theorem u_dead_170 (X : AX) (k0 : Int) (ρ : AH) (ns np : Nat) (σ : AH) (h05 : σ 0 5 = 170) (hns : σ 170 1 = (ns : Int)) (hns2 : ns ≤ 14) (hPb : PTb σ ρ 36 0 np ns) (c1 : np ≤ 10)  : TT X 208 (0, [(2, 0), (0, k0), (9, 0), (9, 0)], [], σ) (fun r σ' => r = some (0, mDd ρ np k0 ns 0 0) ∧ σ' = σ) := by
  refine TT.steps (cd := cd208) 4 (c' := (4, [(2, 0), (0, k0), (0, 0), (0, 0)], [], σ)) rfl rfl ?_
  exact ul_dead_170 X k0 ρ ns np σ h05 hns hns2 hPb c1 ns 0 0 (by omega) (by omega)
theorem K_dead (X : AX) {l : Nat} {σ ρ : AH} {b np nt ns : Nat} {L : Nat → Nat} {C : Nat → Nat → Nat} {w tp u tl oc : Nat} (h : IV σ ρ l b np nt ns L C w tp u tl oc) (k0 : Int) : TT X k_X10_dead (0, [(2, 0), (0, k0), (9, 0), (9, 0)], [], σ) (fun r σ' => r = some (0, mDd ρ np k0 ns 0 0) ∧ σ' = σ) := by
  obtain ⟨⟨hl, h05, -⟩, hL, -, hPT, -⟩ := h
  rcases hl with rfl | rfl
  · exact u_dead_8 X k0 ρ ns np σ h05 hL.1.1 hL.2.2.1.2.2.1 hPT.1 hL.2.2.1.1
  · exact u_dead_170 X k0 ρ ns np σ h05 hL.1.1 hL.2.2.1.2.2.1 hPT.1 hL.2.2.1.1
theorem u_countDead (X : AX) {l : Nat} {σ ρ : AH} {b np nt ns : Nat} {L : Nat → Nat} {C : Nat → Nat → Nat} {w tp u tl oc : Nat} (h : IV σ ρ l b np nt ns L C w tp u tl oc) : TT X k_X10_countDead (0, [(2, 0), (9, 0), (9, 0)], [], σ) (fun r σ' => r = some (0, mDM ρ np ns) ∧ σ' = σ) := by
  obtain ⟨⟨hl, h05, -⟩, hL, -, hPT, -⟩ := h
  rcases hl with rfl | rfl
  · exact u_countDead_8 X ρ ns np σ h05 hL.1.1 hL.2.2.1.2.2.1 hPT.1 hL.2.2.1.1
  · exact u_countDead_170 X ρ ns np σ h05 hL.1.1 hL.2.2.1.2.2.1 hPT.1 hL.2.2.1.1
theorem K_has0_8 (X : AX) {σ ρ : AH} {b np nt ns : Nat} {L : Nat → Nat} {C : Nat → Nat → Nat} {w tp u tl oc : Nat} (h : IV σ ρ 8 b np nt ns L C w tp u tl oc)  : TT X 185 (0, [(2, 0), (0, 0)], [], σ) (fun r σ' => r = some (0, (ns : Int)) ∧ σ' = σ) := by
  obtain ⟨⟨hl, h05, h33⟩, hL, hN, hPT, hF, hA, hTp, hO, hM, hH⟩ := id h
  obtain ⟨⟨a1, a2, a3, a4⟩, ⟨b1, b2, b3, b4, b5⟩, ⟨c1, c2, c3, c4, c5⟩, hTr, hCa, hAf, hPr, hDi⟩ := id hL
  obtain ⟨hPb, ⟨y1, y2, y3⟩, hhi, hPp⟩ := id hPT
  refine TT.steps (cd := cd185) 4 (c' := (4, [(2, 0), (0, 0)], [(2, (σ 0 5))], σ)) rfl rfl ?_
  refine TT.top0 (z := 8) h05 ?_
  refine TT.steps (cd := cd185) 1 (c' := (5, [(2, 0), (0, 0)], [(0, (σ 8 1))], σ)) rfl rfl ?_
  refine TT.top0 (z := ((ns : Nat) : Int)) a1 ?_
  exact TT.ret (cd := cd185) rfl rfl rfl rfl ⟨rfl, rfl⟩
theorem K_has0_170 (X : AX) {σ ρ : AH} {b np nt ns : Nat} {L : Nat → Nat} {C : Nat → Nat → Nat} {w tp u tl oc : Nat} (h : IV σ ρ 170 b np nt ns L C w tp u tl oc)  : TT X 185 (0, [(2, 0), (0, 0)], [], σ) (fun r σ' => r = some (0, (ns : Int)) ∧ σ' = σ) := by
  obtain ⟨⟨hl, h05, h33⟩, hL, hN, hPT, hF, hA, hTp, hO, hM, hH⟩ := id h
  obtain ⟨⟨a1, a2, a3, a4⟩, ⟨b1, b2, b3, b4, b5⟩, ⟨c1, c2, c3, c4, c5⟩, hTr, hCa, hAf, hPr, hDi⟩ := id hL
  obtain ⟨hPb, ⟨y1, y2, y3⟩, hhi, hPp⟩ := id hPT
  refine TT.steps (cd := cd185) 4 (c' := (4, [(2, 0), (0, 0)], [(2, (σ 0 5))], σ)) rfl rfl ?_
  refine TT.top0 (z := 170) h05 ?_
  refine TT.steps (cd := cd185) 1 (c' := (5, [(2, 0), (0, 0)], [(0, (σ 170 1))], σ)) rfl rfl ?_
  refine TT.top0 (z := ((ns : Nat) : Int)) a1 ?_
  exact TT.ret (cd := cd185) rfl rfl rfl rfl ⟨rfl, rfl⟩
theorem K_has0 (X : AX) {l : Nat} {σ ρ : AH} {b np nt ns : Nat} {L : Nat → Nat} {C : Nat → Nat → Nat} {w tp u tl oc : Nat} (h : IV σ ρ l b np nt ns L C w tp u tl oc)  : TT X 185 (0, [(2, 0), (0, 0)], [], σ) (fun r σ' => r = some (0, (ns : Int)) ∧ σ' = σ) := by
  rcases h.1.1 with rfl | rfl
  · exact K_has0_8 X h 
  · exact K_has0_170 X h 
theorem K_has1_8 (X : AX) {σ ρ : AH} {b np nt ns : Nat} {L : Nat → Nat} {C : Nat → Nat → Nat} {w tp u tl oc : Nat} (h : IV σ ρ 8 b np nt ns L C w tp u tl oc)  : TT X 185 (0, [(2, 0), (0, 1)], [], σ) (fun r σ' => r = some (0, (nt : Int)) ∧ σ' = σ) := by
  obtain ⟨⟨hl, h05, h33⟩, hL, hN, hPT, hF, hA, hTp, hO, hM, hH⟩ := id h
  obtain ⟨⟨a1, a2, a3, a4⟩, ⟨b1, b2, b3, b4, b5⟩, ⟨c1, c2, c3, c4, c5⟩, hTr, hCa, hAf, hPr, hDi⟩ := id hL
  obtain ⟨hPb, ⟨y1, y2, y3⟩, hhi, hPp⟩ := id hPT
  refine TT.steps (cd := cd185) 4 (c' := (8, [(2, 0), (0, 1)], [(2, (σ 0 5))], σ)) rfl rfl ?_
  refine TT.top0 (z := 8) h05 ?_
  refine TT.steps (cd := cd185) 1 (c' := (9, [(2, 0), (0, 1)], [(0, (σ 8 2))], σ)) rfl rfl ?_
  refine TT.top0 (z := ((nt : Nat) : Int)) a2 ?_
  exact TT.ret (cd := cd185) rfl rfl rfl rfl ⟨rfl, rfl⟩
theorem K_has1_170 (X : AX) {σ ρ : AH} {b np nt ns : Nat} {L : Nat → Nat} {C : Nat → Nat → Nat} {w tp u tl oc : Nat} (h : IV σ ρ 170 b np nt ns L C w tp u tl oc)  : TT X 185 (0, [(2, 0), (0, 1)], [], σ) (fun r σ' => r = some (0, (nt : Int)) ∧ σ' = σ) := by
  obtain ⟨⟨hl, h05, h33⟩, hL, hN, hPT, hF, hA, hTp, hO, hM, hH⟩ := id h
  obtain ⟨⟨a1, a2, a3, a4⟩, ⟨b1, b2, b3, b4, b5⟩, ⟨c1, c2, c3, c4, c5⟩, hTr, hCa, hAf, hPr, hDi⟩ := id hL
  obtain ⟨hPb, ⟨y1, y2, y3⟩, hhi, hPp⟩ := id hPT
  refine TT.steps (cd := cd185) 4 (c' := (8, [(2, 0), (0, 1)], [(2, (σ 0 5))], σ)) rfl rfl ?_
  refine TT.top0 (z := 170) h05 ?_
  refine TT.steps (cd := cd185) 1 (c' := (9, [(2, 0), (0, 1)], [(0, (σ 170 2))], σ)) rfl rfl ?_
  refine TT.top0 (z := ((nt : Nat) : Int)) a2 ?_
  exact TT.ret (cd := cd185) rfl rfl rfl rfl ⟨rfl, rfl⟩
theorem K_has1 (X : AX) {l : Nat} {σ ρ : AH} {b np nt ns : Nat} {L : Nat → Nat} {C : Nat → Nat → Nat} {w tp u tl oc : Nat} (h : IV σ ρ l b np nt ns L C w tp u tl oc)  : TT X 185 (0, [(2, 0), (0, 1)], [], σ) (fun r σ' => r = some (0, (nt : Int)) ∧ σ' = σ) := by
  rcases h.1.1 with rfl | rfl
  · exact K_has1_8 X h 
  · exact K_has1_170 X h 
theorem K_has2_8 (X : AX) {σ ρ : AH} {b np nt ns : Nat} {L : Nat → Nat} {C : Nat → Nat → Nat} {w tp u tl oc : Nat} (h : IV σ ρ 8 b np nt ns L C w tp u tl oc)  : TT X 185 (0, [(2, 0), (0, 2)], [], σ) (fun r σ' => r = some (0, (np : Int)) ∧ σ' = σ) := by
  obtain ⟨⟨hl, h05, h33⟩, hL, hN, hPT, hF, hA, hTp, hO, hM, hH⟩ := id h
  obtain ⟨⟨a1, a2, a3, a4⟩, ⟨b1, b2, b3, b4, b5⟩, ⟨c1, c2, c3, c4, c5⟩, hTr, hCa, hAf, hPr, hDi⟩ := id hL
  obtain ⟨hPb, ⟨y1, y2, y3⟩, hhi, hPp⟩ := id hPT
  refine TT.steps (cd := cd185) 5 (c' := (13, [(2, 0), (0, 2)], [(0, (σ 36 0))], σ)) rfl rfl ?_
  refine TT.top0 (z := ((np : Nat) : Int)) hPb.1 ?_
  exact TT.ret (cd := cd185) rfl rfl rfl rfl ⟨rfl, rfl⟩
theorem K_has2_170 (X : AX) {σ ρ : AH} {b np nt ns : Nat} {L : Nat → Nat} {C : Nat → Nat → Nat} {w tp u tl oc : Nat} (h : IV σ ρ 170 b np nt ns L C w tp u tl oc)  : TT X 185 (0, [(2, 0), (0, 2)], [], σ) (fun r σ' => r = some (0, (np : Int)) ∧ σ' = σ) := by
  obtain ⟨⟨hl, h05, h33⟩, hL, hN, hPT, hF, hA, hTp, hO, hM, hH⟩ := id h
  obtain ⟨⟨a1, a2, a3, a4⟩, ⟨b1, b2, b3, b4, b5⟩, ⟨c1, c2, c3, c4, c5⟩, hTr, hCa, hAf, hPr, hDi⟩ := id hL
  obtain ⟨hPb, ⟨y1, y2, y3⟩, hhi, hPp⟩ := id hPT
  refine TT.steps (cd := cd185) 5 (c' := (13, [(2, 0), (0, 2)], [(0, (σ 36 0))], σ)) rfl rfl ?_
  refine TT.top0 (z := ((np : Nat) : Int)) hPb.1 ?_
  exact TT.ret (cd := cd185) rfl rfl rfl rfl ⟨rfl, rfl⟩
theorem K_has2 (X : AX) {l : Nat} {σ ρ : AH} {b np nt ns : Nat} {L : Nat → Nat} {C : Nat → Nat → Nat} {w tp u tl oc : Nat} (h : IV σ ρ l b np nt ns L C w tp u tl oc)  : TT X 185 (0, [(2, 0), (0, 2)], [], σ) (fun r σ' => r = some (0, (np : Int)) ∧ σ' = σ) := by
  rcases h.1.1 with rfl | rfl
  · exact K_has2_8 X h 
  · exact K_has2_170 X h 
theorem K_has3_8 (X : AX) {σ ρ : AH} {b np nt ns : Nat} {L : Nat → Nat} {C : Nat → Nat → Nat} {w tp u tl oc : Nat} (h : IV σ ρ 8 b np nt ns L C w tp u tl oc)  : TT X 185 (0, [(2, 0), (0, 3)], [], σ) (fun r σ' => r = some (0, sumA (fun p => ρ 322 p) np) ∧ σ' = σ) := by
  obtain ⟨⟨hl, h05, h33⟩, hL, hN, hPT, hF, hA, hTp, hO, hM, hH⟩ := id h
  obtain ⟨⟨a1, a2, a3, a4⟩, ⟨b1, b2, b3, b4, b5⟩, ⟨c1, c2, c3, c4, c5⟩, hTr, hCa, hAf, hPr, hDi⟩ := id hL
  obtain ⟨hPb, ⟨y1, y2, y3⟩, hhi, hPp⟩ := id hPT
  refine TT.steps (cd := cd185) 5 (c' := (17, [(2, 0), (0, 3)], [(0, (σ 36 2))], σ)) rfl rfl ?_
  refine TT.top0 (z := ((bs (zH ρ 0) np : Nat) : Int)) hhi ?_
  refine TT.call (cd := cd185) rfl rfl rfl (by decide) rfl (u_bitCount X ((bs (zH ρ 0) np : Nat) : Int) σ) (fun r1 σ1 hq => ?_)
  rw [hq.1, hq.2, bs_count (zH ρ 0) (by omega)]
  refine TT.ret (cd := cd185) rfl rfl rfl rfl ⟨?_, rfl⟩
  rw [sumA_01w (by omega) (zH ρ 0) (fun p hp => ?_)]
  obtain ⟨-, -, -, -, e22⟩ := hPp p hp
  rw [show 10 * 0 + p = p by omega] at e22
  rcases e22 with g | g <;> simp [zH, g]
theorem K_has3_170 (X : AX) {σ ρ : AH} {b np nt ns : Nat} {L : Nat → Nat} {C : Nat → Nat → Nat} {w tp u tl oc : Nat} (h : IV σ ρ 170 b np nt ns L C w tp u tl oc)  : TT X 185 (0, [(2, 0), (0, 3)], [], σ) (fun r σ' => r = some (0, sumA (fun p => ρ 322 p) np) ∧ σ' = σ) := by
  obtain ⟨⟨hl, h05, h33⟩, hL, hN, hPT, hF, hA, hTp, hO, hM, hH⟩ := id h
  obtain ⟨⟨a1, a2, a3, a4⟩, ⟨b1, b2, b3, b4, b5⟩, ⟨c1, c2, c3, c4, c5⟩, hTr, hCa, hAf, hPr, hDi⟩ := id hL
  obtain ⟨hPb, ⟨y1, y2, y3⟩, hhi, hPp⟩ := id hPT
  refine TT.steps (cd := cd185) 5 (c' := (17, [(2, 0), (0, 3)], [(0, (σ 36 2))], σ)) rfl rfl ?_
  refine TT.top0 (z := ((bs (zH ρ 0) np : Nat) : Int)) hhi ?_
  refine TT.call (cd := cd185) rfl rfl rfl (by decide) rfl (u_bitCount X ((bs (zH ρ 0) np : Nat) : Int) σ) (fun r1 σ1 hq => ?_)
  rw [hq.1, hq.2, bs_count (zH ρ 0) (by omega)]
  refine TT.ret (cd := cd185) rfl rfl rfl rfl ⟨?_, rfl⟩
  rw [sumA_01w (by omega) (zH ρ 0) (fun p hp => ?_)]
  obtain ⟨-, -, -, -, e22⟩ := hPp p hp
  rw [show 10 * 0 + p = p by omega] at e22
  rcases e22 with g | g <;> simp [zH, g]
theorem K_has3 (X : AX) {l : Nat} {σ ρ : AH} {b np nt ns : Nat} {L : Nat → Nat} {C : Nat → Nat → Nat} {w tp u tl oc : Nat} (h : IV σ ρ l b np nt ns L C w tp u tl oc)  : TT X 185 (0, [(2, 0), (0, 3)], [], σ) (fun r σ' => r = some (0, sumA (fun p => ρ 322 p) np) ∧ σ' = σ) := by
  rcases h.1.1 with rfl | rfl
  · exact K_has3_8 X h 
  · exact K_has3_170 X h 
theorem K_has4_8 (X : AX) {σ ρ : AH} {b np nt ns : Nat} {L : Nat → Nat} {C : Nat → Nat → Nat} {w tp u tl oc : Nat} (h : IV σ ρ 8 b np nt ns L C w tp u tl oc)  : TT X 185 (0, [(2, 0), (0, 4)], [], σ) (fun r σ' => r = some (0, sumA (fun p => aMul (ρ 322 p) (ρ 314 (10 * b + p))) np) ∧ σ' = σ) := by
  obtain ⟨⟨hl, h05, h33⟩, hL, hN, hPT, hF, hA, hTp, hO, hM, hH⟩ := id h
  obtain ⟨⟨a1, a2, a3, a4⟩, ⟨b1, b2, b3, b4, b5⟩, ⟨c1, c2, c3, c4, c5⟩, hTr, hCa, hAf, hPr, hDi⟩ := id hL
  obtain ⟨hPb, ⟨y1, y2, y3⟩, hhi, hPp⟩ := id hPT
  refine TT.steps (cd := cd185) 4 (c' := (21, [(2, 0), (0, 4)], [(2, (σ 0 5))], σ)) rfl rfl ?_
  refine TT.top0 (z := 8) h05 ?_
  refine TT.steps (cd := cd185) 3 (c' := (24, [(2, 0), (0, 4)], [(0, (σ 36 2)), (2, 8)], σ)) rfl rfl ?_
  refine TT.top0 (z := ((bs (zH ρ 0) np : Nat) : Int)) hhi ?_
  refine TT.call (cd := cd185) rfl rfl rfl (by decide) rfl (v_coin X hl hL ((bs (zH ρ 0) np : Nat) : Int)) (fun r1 σ1 hq => ?_)
  rw [hq.1, hq.2]
  refine TT.ret (cd := cd185) rfl rfl rfl rfl ⟨?_, rfl⟩
  unfold mCoin
  refine congrArg (fun x => some (0, x)) (sumA_c (fun p hp => ?_))
  rw [bs_bitI _ (by omega) hp]
  obtain ⟨-, -, -, -, e22⟩ := hPp p hp
  rw [show 10 * 0 + p = p by omega] at e22
  rcases e22 with g | g <;> simp [zH, g]
theorem K_has4_170 (X : AX) {σ ρ : AH} {b np nt ns : Nat} {L : Nat → Nat} {C : Nat → Nat → Nat} {w tp u tl oc : Nat} (h : IV σ ρ 170 b np nt ns L C w tp u tl oc)  : TT X 185 (0, [(2, 0), (0, 4)], [], σ) (fun r σ' => r = some (0, sumA (fun p => aMul (ρ 322 p) (ρ 314 (10 * b + p))) np) ∧ σ' = σ) := by
  obtain ⟨⟨hl, h05, h33⟩, hL, hN, hPT, hF, hA, hTp, hO, hM, hH⟩ := id h
  obtain ⟨⟨a1, a2, a3, a4⟩, ⟨b1, b2, b3, b4, b5⟩, ⟨c1, c2, c3, c4, c5⟩, hTr, hCa, hAf, hPr, hDi⟩ := id hL
  obtain ⟨hPb, ⟨y1, y2, y3⟩, hhi, hPp⟩ := id hPT
  refine TT.steps (cd := cd185) 4 (c' := (21, [(2, 0), (0, 4)], [(2, (σ 0 5))], σ)) rfl rfl ?_
  refine TT.top0 (z := 170) h05 ?_
  refine TT.steps (cd := cd185) 3 (c' := (24, [(2, 0), (0, 4)], [(0, (σ 36 2)), (2, 170)], σ)) rfl rfl ?_
  refine TT.top0 (z := ((bs (zH ρ 0) np : Nat) : Int)) hhi ?_
  refine TT.call (cd := cd185) rfl rfl rfl (by decide) rfl (v_coin X hl hL ((bs (zH ρ 0) np : Nat) : Int)) (fun r1 σ1 hq => ?_)
  rw [hq.1, hq.2]
  refine TT.ret (cd := cd185) rfl rfl rfl rfl ⟨?_, rfl⟩
  unfold mCoin
  refine congrArg (fun x => some (0, x)) (sumA_c (fun p hp => ?_))
  rw [bs_bitI _ (by omega) hp]
  obtain ⟨-, -, -, -, e22⟩ := hPp p hp
  rw [show 10 * 0 + p = p by omega] at e22
  rcases e22 with g | g <;> simp [zH, g]
theorem K_has4 (X : AX) {l : Nat} {σ ρ : AH} {b np nt ns : Nat} {L : Nat → Nat} {C : Nat → Nat → Nat} {w tp u tl oc : Nat} (h : IV σ ρ l b np nt ns L C w tp u tl oc)  : TT X 185 (0, [(2, 0), (0, 4)], [], σ) (fun r σ' => r = some (0, sumA (fun p => aMul (ρ 322 p) (ρ 314 (10 * b + p))) np) ∧ σ' = σ) := by
  rcases h.1.1 with rfl | rfl
  · exact K_has4_8 X h 
  · exact K_has4_170 X h 
theorem K_has5_8 (X : AX) {σ ρ : AH} {b np nt ns : Nat} {L : Nat → Nat} {C : Nat → Nat → Nat} {w tp u tl oc : Nat} (h : IV σ ρ 8 b np nt ns L C w tp u tl oc)  : TT X 185 (0, [(2, 0), (0, 5)], [], σ) (fun r σ' => r = some (0, ρ 299 b) ∧ σ' = σ) := by
  obtain ⟨⟨hl, h05, h33⟩, hL, hN, hPT, hF, hA, hTp, hO, hM, hH⟩ := id h
  obtain ⟨⟨a1, a2, a3, a4⟩, ⟨b1, b2, b3, b4, b5⟩, ⟨c1, c2, c3, c4, c5⟩, hTr, hCa, hAf, hPr, hDi⟩ := id hL
  obtain ⟨hPb, ⟨y1, y2, y3⟩, hhi, hPp⟩ := id hPT
  refine TT.steps (cd := cd185) 4 (c' := (28, [(2, 0), (0, 5)], [(2, (σ 0 5))], σ)) rfl rfl ?_
  refine TT.top0 (z := 8) h05 ?_
  refine TT.steps (cd := cd185) 1 (c' := (29, [(2, 0), (0, 5)], [(0, (σ 8 3))], σ)) rfl rfl ?_
  refine TT.top0 (z := (ρ 299 b)) a3 ?_
  exact TT.ret (cd := cd185) rfl rfl rfl rfl ⟨rfl, rfl⟩
theorem K_has5_170 (X : AX) {σ ρ : AH} {b np nt ns : Nat} {L : Nat → Nat} {C : Nat → Nat → Nat} {w tp u tl oc : Nat} (h : IV σ ρ 170 b np nt ns L C w tp u tl oc)  : TT X 185 (0, [(2, 0), (0, 5)], [], σ) (fun r σ' => r = some (0, ρ 299 b) ∧ σ' = σ) := by
  obtain ⟨⟨hl, h05, h33⟩, hL, hN, hPT, hF, hA, hTp, hO, hM, hH⟩ := id h
  obtain ⟨⟨a1, a2, a3, a4⟩, ⟨b1, b2, b3, b4, b5⟩, ⟨c1, c2, c3, c4, c5⟩, hTr, hCa, hAf, hPr, hDi⟩ := id hL
  obtain ⟨hPb, ⟨y1, y2, y3⟩, hhi, hPp⟩ := id hPT
  refine TT.steps (cd := cd185) 4 (c' := (28, [(2, 0), (0, 5)], [(2, (σ 0 5))], σ)) rfl rfl ?_
  refine TT.top0 (z := 170) h05 ?_
  refine TT.steps (cd := cd185) 1 (c' := (29, [(2, 0), (0, 5)], [(0, (σ 170 3))], σ)) rfl rfl ?_
  refine TT.top0 (z := (ρ 299 b)) a3 ?_
  exact TT.ret (cd := cd185) rfl rfl rfl rfl ⟨rfl, rfl⟩
theorem K_has5 (X : AX) {l : Nat} {σ ρ : AH} {b np nt ns : Nat} {L : Nat → Nat} {C : Nat → Nat → Nat} {w tp u tl oc : Nat} (h : IV σ ρ l b np nt ns L C w tp u tl oc)  : TT X 185 (0, [(2, 0), (0, 5)], [], σ) (fun r σ' => r = some (0, ρ 299 b) ∧ σ' = σ) := by
  rcases h.1.1 with rfl | rfl
  · exact K_has5_8 X h 
  · exact K_has5_170 X h 
theorem K_has6_8 (X : AX) {σ ρ : AH} {b np nt ns : Nat} {L : Nat → Nat} {C : Nat → Nat → Nat} {w tp u tl oc : Nat} (h : IV σ ρ 8 b np nt ns L C w tp u tl oc)  : TT X 185 (0, [(2, 0), (0, 6)], [], σ) (fun r σ' => r = some (0, ρ 316 0) ∧ σ' = σ) := by
  obtain ⟨⟨hl, h05, h33⟩, hL, hN, hPT, hF, hA, hTp, hO, hM, hH⟩ := id h
  obtain ⟨⟨a1, a2, a3, a4⟩, ⟨b1, b2, b3, b4, b5⟩, ⟨c1, c2, c3, c4, c5⟩, hTr, hCa, hAf, hPr, hDi⟩ := id hL
  obtain ⟨hPb, ⟨y1, y2, y3⟩, hhi, hPp⟩ := id hPT
  refine TT.steps (cd := cd185) 5 (c' := (33, [(2, 0), (0, 6)], [(0, (σ 36 1))], σ)) rfl rfl ?_
  refine TT.top0 (z := (ρ 316 0)) y1 ?_
  exact TT.ret (cd := cd185) rfl rfl rfl rfl ⟨rfl, rfl⟩
theorem K_has6_170 (X : AX) {σ ρ : AH} {b np nt ns : Nat} {L : Nat → Nat} {C : Nat → Nat → Nat} {w tp u tl oc : Nat} (h : IV σ ρ 170 b np nt ns L C w tp u tl oc)  : TT X 185 (0, [(2, 0), (0, 6)], [], σ) (fun r σ' => r = some (0, ρ 316 0) ∧ σ' = σ) := by
  obtain ⟨⟨hl, h05, h33⟩, hL, hN, hPT, hF, hA, hTp, hO, hM, hH⟩ := id h
  obtain ⟨⟨a1, a2, a3, a4⟩, ⟨b1, b2, b3, b4, b5⟩, ⟨c1, c2, c3, c4, c5⟩, hTr, hCa, hAf, hPr, hDi⟩ := id hL
  obtain ⟨hPb, ⟨y1, y2, y3⟩, hhi, hPp⟩ := id hPT
  refine TT.steps (cd := cd185) 5 (c' := (33, [(2, 0), (0, 6)], [(0, (σ 36 1))], σ)) rfl rfl ?_
  refine TT.top0 (z := (ρ 316 0)) y1 ?_
  exact TT.ret (cd := cd185) rfl rfl rfl rfl ⟨rfl, rfl⟩
theorem K_has6 (X : AX) {l : Nat} {σ ρ : AH} {b np nt ns : Nat} {L : Nat → Nat} {C : Nat → Nat → Nat} {w tp u tl oc : Nat} (h : IV σ ρ l b np nt ns L C w tp u tl oc)  : TT X 185 (0, [(2, 0), (0, 6)], [], σ) (fun r σ' => r = some (0, ρ 316 0) ∧ σ' = σ) := by
  rcases h.1.1 with rfl | rfl
  · exact K_has6_8 X h 
  · exact K_has6_170 X h 
theorem K_has7_8 (X : AX) {σ ρ : AH} {b np nt ns : Nat} {L : Nat → Nat} {C : Nat → Nat → Nat} {w tp u tl oc : Nat} (h : IV σ ρ 8 b np nt ns L C w tp u tl oc)  : TT X 185 (0, [(2, 0), (0, 7)], [], σ) (fun r σ' => r = some (0, mDM ρ np ns) ∧ σ' = σ) := by
  obtain ⟨⟨hl, h05, h33⟩, hL, hN, hPT, hF, hA, hTp, hO, hM, hH⟩ := id h
  obtain ⟨⟨a1, a2, a3, a4⟩, ⟨b1, b2, b3, b4, b5⟩, ⟨c1, c2, c3, c4, c5⟩, hTr, hCa, hAf, hPr, hDi⟩ := id hL
  obtain ⟨hPb, ⟨y1, y2, y3⟩, hhi, hPp⟩ := id hPT
  refine TT.steps (cd := cd185) 3 (c' := (35, [(2, 0), (0, 7)], [(2, 0)], σ)) rfl rfl ?_
  refine TT.call (cd := cd185) rfl rfl rfl (by decide) rfl (u_countDead X h) (fun r1 σ1 hq => ?_)
  rw [hq.1, hq.2]
  exact TT.ret (cd := cd185) rfl rfl rfl rfl ⟨rfl, rfl⟩
theorem K_has7_170 (X : AX) {σ ρ : AH} {b np nt ns : Nat} {L : Nat → Nat} {C : Nat → Nat → Nat} {w tp u tl oc : Nat} (h : IV σ ρ 170 b np nt ns L C w tp u tl oc)  : TT X 185 (0, [(2, 0), (0, 7)], [], σ) (fun r σ' => r = some (0, mDM ρ np ns) ∧ σ' = σ) := by
  obtain ⟨⟨hl, h05, h33⟩, hL, hN, hPT, hF, hA, hTp, hO, hM, hH⟩ := id h
  obtain ⟨⟨a1, a2, a3, a4⟩, ⟨b1, b2, b3, b4, b5⟩, ⟨c1, c2, c3, c4, c5⟩, hTr, hCa, hAf, hPr, hDi⟩ := id hL
  obtain ⟨hPb, ⟨y1, y2, y3⟩, hhi, hPp⟩ := id hPT
  refine TT.steps (cd := cd185) 3 (c' := (35, [(2, 0), (0, 7)], [(2, 0)], σ)) rfl rfl ?_
  refine TT.call (cd := cd185) rfl rfl rfl (by decide) rfl (u_countDead X h) (fun r1 σ1 hq => ?_)
  rw [hq.1, hq.2]
  exact TT.ret (cd := cd185) rfl rfl rfl rfl ⟨rfl, rfl⟩
theorem K_has7 (X : AX) {l : Nat} {σ ρ : AH} {b np nt ns : Nat} {L : Nat → Nat} {C : Nat → Nat → Nat} {w tp u tl oc : Nat} (h : IV σ ρ l b np nt ns L C w tp u tl oc)  : TT X 185 (0, [(2, 0), (0, 7)], [], σ) (fun r σ' => r = some (0, mDM ρ np ns) ∧ σ' = σ) := by
  rcases h.1.1 with rfl | rfl
  · exact K_has7_8 X h 
  · exact K_has7_170 X h 
theorem K_has8_8 (X : AX) {σ ρ : AH} {b np nt ns : Nat} {L : Nat → Nat} {C : Nat → Nat → Nat} {w tp u tl oc : Nat} (h : IV σ ρ 8 b np nt ns L C w tp u tl oc)  : TT X 185 (0, [(2, 0), (0, 8)], [], σ) (fun r σ' => r = some (0, ρ 295 42) ∧ σ' = σ) := by
  obtain ⟨⟨hl, h05, h33⟩, hL, hN, hPT, hF, hA, hTp, hO, hM, hH⟩ := id h
  obtain ⟨⟨a1, a2, a3, a4⟩, ⟨b1, b2, b3, b4, b5⟩, ⟨c1, c2, c3, c4, c5⟩, hTr, hCa, hAf, hPr, hDi⟩ := id hL
  obtain ⟨hPb, ⟨y1, y2, y3⟩, hhi, hPp⟩ := id hPT
  refine TT.steps (cd := cd185) 5 (c' := (40, [(2, 0), (0, 8)], [(0, (σ 48 0))], σ)) rfl rfl ?_
  refine TT.top0 (z := (ρ 295 42)) (hA.1.1.trans hA.1.2.2.1.symm) ?_
  exact TT.ret (cd := cd185) rfl rfl rfl rfl ⟨rfl, rfl⟩
theorem K_has8_170 (X : AX) {σ ρ : AH} {b np nt ns : Nat} {L : Nat → Nat} {C : Nat → Nat → Nat} {w tp u tl oc : Nat} (h : IV σ ρ 170 b np nt ns L C w tp u tl oc)  : TT X 185 (0, [(2, 0), (0, 8)], [], σ) (fun r σ' => r = some (0, ρ 295 42) ∧ σ' = σ) := by
  obtain ⟨⟨hl, h05, h33⟩, hL, hN, hPT, hF, hA, hTp, hO, hM, hH⟩ := id h
  obtain ⟨⟨a1, a2, a3, a4⟩, ⟨b1, b2, b3, b4, b5⟩, ⟨c1, c2, c3, c4, c5⟩, hTr, hCa, hAf, hPr, hDi⟩ := id hL
  obtain ⟨hPb, ⟨y1, y2, y3⟩, hhi, hPp⟩ := id hPT
  refine TT.steps (cd := cd185) 5 (c' := (40, [(2, 0), (0, 8)], [(0, (σ 48 0))], σ)) rfl rfl ?_
  refine TT.top0 (z := (ρ 295 42)) (hA.1.1.trans hA.1.2.2.1.symm) ?_
  exact TT.ret (cd := cd185) rfl rfl rfl rfl ⟨rfl, rfl⟩
theorem K_has8 (X : AX) {l : Nat} {σ ρ : AH} {b np nt ns : Nat} {L : Nat → Nat} {C : Nat → Nat → Nat} {w tp u tl oc : Nat} (h : IV σ ρ l b np nt ns L C w tp u tl oc)  : TT X 185 (0, [(2, 0), (0, 8)], [], σ) (fun r σ' => r = some (0, ρ 295 42) ∧ σ' = σ) := by
  rcases h.1.1 with rfl | rfl
  · exact K_has8_8 X h 
  · exact K_has8_170 X h 
theorem K_has9_8 (X : AX) {σ ρ : AH} {b np nt ns : Nat} {L : Nat → Nat} {C : Nat → Nat → Nat} {w tp u tl oc : Nat} (h : IV σ ρ 8 b np nt ns L C w tp u tl oc)  : TT X 185 (0, [(2, 0), (0, 9)], [], σ) (fun r σ' => r = some (0, bL2i (ρ 295 43)) ∧ σ' = σ) := by
  obtain ⟨⟨hl, h05, h33⟩, hL, hN, hPT, hF, hA, hTp, hO, hM, hH⟩ := id h
  obtain ⟨⟨a1, a2, a3, a4⟩, ⟨b1, b2, b3, b4, b5⟩, ⟨c1, c2, c3, c4, c5⟩, hTr, hCa, hAf, hPr, hDi⟩ := id hL
  obtain ⟨hPb, ⟨y1, y2, y3⟩, hhi, hPp⟩ := id hPT
  refine TT.steps (cd := cd185) 4 (c' := (43, [(2, 0), (0, 9)], [(0, (σ 0 11))], σ)) rfl rfl ?_
  refine TT.top0 (z := (ρ 295 43)) hM.1.1 ?_
  refine TT.ret (cd := cd185) rfl rfl rfl rfl ⟨?_, rfl⟩
  refine congrArg (fun x => some (0, x)) ?_
  unfold bL2i
  have m := hM.1
  rw [Int64.toInt32_ofInt]
  exact (r32 (by omega) (by omega)).symm
theorem K_has9_170 (X : AX) {σ ρ : AH} {b np nt ns : Nat} {L : Nat → Nat} {C : Nat → Nat → Nat} {w tp u tl oc : Nat} (h : IV σ ρ 170 b np nt ns L C w tp u tl oc)  : TT X 185 (0, [(2, 0), (0, 9)], [], σ) (fun r σ' => r = some (0, bL2i (ρ 295 43)) ∧ σ' = σ) := by
  obtain ⟨⟨hl, h05, h33⟩, hL, hN, hPT, hF, hA, hTp, hO, hM, hH⟩ := id h
  obtain ⟨⟨a1, a2, a3, a4⟩, ⟨b1, b2, b3, b4, b5⟩, ⟨c1, c2, c3, c4, c5⟩, hTr, hCa, hAf, hPr, hDi⟩ := id hL
  obtain ⟨hPb, ⟨y1, y2, y3⟩, hhi, hPp⟩ := id hPT
  refine TT.steps (cd := cd185) 4 (c' := (43, [(2, 0), (0, 9)], [(0, (σ 0 11))], σ)) rfl rfl ?_
  refine TT.top0 (z := (ρ 295 43)) hM.1.1 ?_
  refine TT.ret (cd := cd185) rfl rfl rfl rfl ⟨?_, rfl⟩
  refine congrArg (fun x => some (0, x)) ?_
  unfold bL2i
  have m := hM.1
  rw [Int64.toInt32_ofInt]
  exact (r32 (by omega) (by omega)).symm
theorem K_has9 (X : AX) {l : Nat} {σ ρ : AH} {b np nt ns : Nat} {L : Nat → Nat} {C : Nat → Nat → Nat} {w tp u tl oc : Nat} (h : IV σ ρ l b np nt ns L C w tp u tl oc)  : TT X 185 (0, [(2, 0), (0, 9)], [], σ) (fun r σ' => r = some (0, bL2i (ρ 295 43)) ∧ σ' = σ) := by
  rcases h.1.1 with rfl | rfl
  · exact K_has9_8 X h 
  · exact K_has9_170 X h 
theorem K_has10_8 (X : AX) {σ ρ : AH} {b np nt ns : Nat} {L : Nat → Nat} {C : Nat → Nat → Nat} {w tp u tl oc : Nat} (h : IV σ ρ 8 b np nt ns L C w tp u tl oc)  : TT X 185 (0, [(2, 0), (0, 10)], [], σ) (fun r σ' => r = some (0, sumA (fun p => if ρ 320 p = ρ 321 p then 1 else 0) np) ∧ σ' = σ) := by
  obtain ⟨⟨hl, h05, h33⟩, hL, hN, hPT, hF, hA, hTp, hO, hM, hH⟩ := id h
  obtain ⟨⟨a1, a2, a3, a4⟩, ⟨b1, b2, b3, b4, b5⟩, ⟨c1, c2, c3, c4, c5⟩, hTr, hCa, hAf, hPr, hDi⟩ := id hL
  obtain ⟨hPb, ⟨y1, y2, y3⟩, hhi, hPp⟩ := id hPT
  refine TT.steps (cd := cd185) 4 (c' := (46, [(2, 0), (0, 10)], [(2, 36)], σ)) rfl rfl ?_
  refine TT.call (cd := cd185) rfl rfl rfl (by decide) rfl (u_contentN X np σ hPb.1 c1) (fun r1 σ1 hq => ?_)
  rw [hq.1, hq.2]
  refine TT.call (cd := cd185) rfl rfl rfl (by decide) rfl (u_bitCount X ((bs (fun p => decide (σ 40 p = σ 41 p)) np : Nat) : Int) σ) (fun r2 σ2 hq => ?_)
  rw [hq.1, hq.2, bs_count (fun p => decide (σ 40 p = σ 41 p)) (by omega)]
  refine TT.ret (cd := cd185) rfl rfl rfl rfl ⟨?_, rfl⟩
  rw [sumA_01w (by omega) (fun p => decide (σ 40 p = σ 41 p)) (fun p hp => ?_)]
  obtain ⟨-, -, ⟨s2, -, e1, e2⟩, ⟨s3, -, e3, e4⟩⟩ := hPb.2 p hp
  rw [show 10 * 0 + p = p by omega] at e2 e4
  simp only [e1, e2, e3, e4, decide_eq_true_eq]
theorem K_has10_170 (X : AX) {σ ρ : AH} {b np nt ns : Nat} {L : Nat → Nat} {C : Nat → Nat → Nat} {w tp u tl oc : Nat} (h : IV σ ρ 170 b np nt ns L C w tp u tl oc)  : TT X 185 (0, [(2, 0), (0, 10)], [], σ) (fun r σ' => r = some (0, sumA (fun p => if ρ 320 p = ρ 321 p then 1 else 0) np) ∧ σ' = σ) := by
  obtain ⟨⟨hl, h05, h33⟩, hL, hN, hPT, hF, hA, hTp, hO, hM, hH⟩ := id h
  obtain ⟨⟨a1, a2, a3, a4⟩, ⟨b1, b2, b3, b4, b5⟩, ⟨c1, c2, c3, c4, c5⟩, hTr, hCa, hAf, hPr, hDi⟩ := id hL
  obtain ⟨hPb, ⟨y1, y2, y3⟩, hhi, hPp⟩ := id hPT
  refine TT.steps (cd := cd185) 4 (c' := (46, [(2, 0), (0, 10)], [(2, 36)], σ)) rfl rfl ?_
  refine TT.call (cd := cd185) rfl rfl rfl (by decide) rfl (u_contentN X np σ hPb.1 c1) (fun r1 σ1 hq => ?_)
  rw [hq.1, hq.2]
  refine TT.call (cd := cd185) rfl rfl rfl (by decide) rfl (u_bitCount X ((bs (fun p => decide (σ 40 p = σ 41 p)) np : Nat) : Int) σ) (fun r2 σ2 hq => ?_)
  rw [hq.1, hq.2, bs_count (fun p => decide (σ 40 p = σ 41 p)) (by omega)]
  refine TT.ret (cd := cd185) rfl rfl rfl rfl ⟨?_, rfl⟩
  rw [sumA_01w (by omega) (fun p => decide (σ 40 p = σ 41 p)) (fun p hp => ?_)]
  obtain ⟨-, -, ⟨s2, -, e1, e2⟩, ⟨s3, -, e3, e4⟩⟩ := hPb.2 p hp
  rw [show 10 * 0 + p = p by omega] at e2 e4
  simp only [e1, e2, e3, e4, decide_eq_true_eq]
theorem K_has10 (X : AX) {l : Nat} {σ ρ : AH} {b np nt ns : Nat} {L : Nat → Nat} {C : Nat → Nat → Nat} {w tp u tl oc : Nat} (h : IV σ ρ l b np nt ns L C w tp u tl oc)  : TT X 185 (0, [(2, 0), (0, 10)], [], σ) (fun r σ' => r = some (0, sumA (fun p => if ρ 320 p = ρ 321 p then 1 else 0) np) ∧ σ' = σ) := by
  rcases h.1.1 with rfl | rfl
  · exact K_has10_8 X h 
  · exact K_has10_170 X h 
theorem K_hasN (X : AX) {l : Nat} {σ ρ : AH} {b np nt ns : Nat} {L : Nat → Nat} {C : Nat → Nat → Nat} {w tp u tl oc : Nat} (h : IV σ ρ l b np nt ns L C w tp u tl oc) (w0 : Int) (hw0 : w0 < 0 ∨ 10 < w0)  : TT X 185 (0, [(2, 0), (0, w0)], [], σ) (fun r σ' => r = some (0, -1) ∧ σ' = σ) := by
  obtain ⟨⟨hl, h05, h33⟩, hL, hN, hPT, hF, hA, hTp, hO, hM, hH⟩ := id h
  obtain ⟨⟨a1, a2, a3, a4⟩, ⟨b1, b2, b3, b4, b5⟩, ⟨c1, c2, c3, c4, c5⟩, hTr, hCa, hAf, hPr, hDi⟩ := id hL
  obtain ⟨hPb, ⟨y1, y2, y3⟩, hhi, hPp⟩ := id hPT
  refine TT.steps (cd := cd185) 2 (c' := ((swOf [(0, 2), (1, 6), (2, 10), (3, 14), (4, 19), (5, 26), (6, 30), (7, 34), (8, 37), (9, 41), (10, 44)] 49 w0), [(2, 0), (0, w0)], [], σ)) rfl rfl ?_
  refine TT.swc (fun h1 => ?_) (fun h1 => ?_)
  · omega
  refine TT.swc (fun h2 => ?_) (fun h2 => ?_)
  · omega
  refine TT.swc (fun h3 => ?_) (fun h3 => ?_)
  · omega
  refine TT.swc (fun h4 => ?_) (fun h4 => ?_)
  · omega
  refine TT.swc (fun h5 => ?_) (fun h5 => ?_)
  · omega
  refine TT.swc (fun h6 => ?_) (fun h6 => ?_)
  · omega
  refine TT.swc (fun h7 => ?_) (fun h7 => ?_)
  · omega
  refine TT.swc (fun h8 => ?_) (fun h8 => ?_)
  · omega
  refine TT.swc (fun h9 => ?_) (fun h9 => ?_)
  · omega
  refine TT.swc (fun h10 => ?_) (fun h10 => ?_)
  · omega
  refine TT.swc (fun h11 => ?_) (fun h11 => ?_)
  · omega
  show TT X 185 (49, [(2, 0), (0, w0)], [], σ) _
  refine TT.steps (cd := cd185) 1 (c' := (50, [(2, 0), (0, w0)], [(0, -1)], σ)) rfl rfl ?_
  exact TT.ret (cd := cd185) rfl rfl rfl rfl (⟨rfl, rfl⟩)
theorem K_stationN (X : AX) {l : Nat} {σ ρ : AH} {b np nt ns : Nat} {L : Nat → Nat} {C : Nat → Nat → Nat} {w tp u tl oc : Nat} (h : IV σ ρ l b np nt ns L C w tp u tl oc) (s w0 : Int) (hs : ¬ (0 ≤ s ∧ s < (ns : Int)))  : TT X 187 (0, [(2, 0), (0, s), (0, w0)], [], σ) (fun r σ' => r = some (0, -1) ∧ σ' = σ) := by
  obtain ⟨⟨hl, h05, h33⟩, hL, hN, hPT, hF, hA, hTp, hO, hM, hH⟩ := id h
  obtain ⟨⟨a1, a2, a3, a4⟩, ⟨b1, b2, b3, b4, b5⟩, ⟨c1, c2, c3, c4, c5⟩, hTr, hCa, hAf, hPr, hDi⟩ := id hL
  obtain ⟨hPb, ⟨y1, y2, y3⟩, hhi, hPp⟩ := id hPT
  refine TT.steps (cd := cd187) 2 (c' := (2, [(2, 0), (0, s), (0, w0)], [(0, s), (2, 0)], σ)) rfl rfl ?_
  refine TT.call (cd := cd187) rfl rfl rfl (by decide) rfl (w_isStation X hl s σ h05) (fun r1 σ1 hq => ?_)
  rw [hq.1, hq.2, a1, if_neg hs]
  refine TT.steps (cd := cd187) 2 (c' := (5, [(2, 0), (0, s), (0, w0)], [(0, -1)], σ)) rfl rfl ?_
  exact TT.ret (cd := cd187) rfl rfl rfl rfl (⟨rfl, rfl⟩)
theorem K_stationD (X : AX) {l : Nat} {σ ρ : AH} {b np nt ns : Nat} {L : Nat → Nat} {C : Nat → Nat → Nat} {w tp u tl oc : Nat} (h : IV σ ρ l b np nt ns L C w tp u tl oc) (s w0 : Int) (hs : 0 ≤ s ∧ s < (ns : Int)) (hw0 : w0 < 0 ∨ 3 < w0)  : TT X 187 (0, [(2, 0), (0, s), (0, w0)], [], σ) (fun r σ' => r = some (0, -1) ∧ σ' = σ) := by
  obtain ⟨⟨hl, h05, h33⟩, hL, hN, hPT, hF, hA, hTp, hO, hM, hH⟩ := id h
  obtain ⟨⟨a1, a2, a3, a4⟩, ⟨b1, b2, b3, b4, b5⟩, ⟨c1, c2, c3, c4, c5⟩, hTr, hCa, hAf, hPr, hDi⟩ := id hL
  obtain ⟨hPb, ⟨y1, y2, y3⟩, hhi, hPp⟩ := id hPT
  refine TT.steps (cd := cd187) 2 (c' := (2, [(2, 0), (0, s), (0, w0)], [(0, s), (2, 0)], σ)) rfl rfl ?_
  refine TT.call (cd := cd187) rfl rfl rfl (by decide) rfl (w_isStation X hl s σ h05) (fun r1 σ1 hq => ?_)
  rw [hq.1, hq.2, a1, if_pos hs]
  refine TT.steps (cd := cd187) 3 (c' := ((swOf [(0, 8), (1, 13), (2, 18), (3, 23)] 28 w0), [(2, 0), (0, s), (0, w0)], [], σ)) rfl rfl ?_
  refine TT.swc (fun h2 => ?_) (fun h2 => ?_)
  · omega
  refine TT.swc (fun h3 => ?_) (fun h3 => ?_)
  · omega
  refine TT.swc (fun h4 => ?_) (fun h4 => ?_)
  · omega
  refine TT.swc (fun h5 => ?_) (fun h5 => ?_)
  · omega
  show TT X 187 (28, [(2, 0), (0, s), (0, w0)], [], σ) _
  refine TT.steps (cd := cd187) 1 (c' := (29, [(2, 0), (0, s), (0, w0)], [(0, -1)], σ)) rfl rfl ?_
  exact TT.ret (cd := cd187) rfl rfl rfl rfl (⟨rfl, rfl⟩)
theorem K_station0_8 (X : AX) {σ ρ : AH} {b np nt ns : Nat} {L : Nat → Nat} {C : Nat → Nat → Nat} {w tp u tl oc : Nat} (h : IV σ ρ 8 b np nt ns L C w tp u tl oc) (s : Int) (hs : 0 ≤ s ∧ s < (ns : Int))  : TT X 187 (0, [(2, 0), (0, s), (0, 0)], [], σ) (fun r σ' => r = some (0, orA (fun p => if mBA (up2 ρ 295 46 0) 0 p s then aShl 1 ((p : Nat) : Int) else 0) np) ∧ σ' = σ) := by
  obtain ⟨⟨hl, h05, h33⟩, hL, hN, hPT, hF, hA, hTp, hO, hM, hH⟩ := id h
  obtain ⟨⟨a1, a2, a3, a4⟩, ⟨b1, b2, b3, b4, b5⟩, ⟨c1, c2, c3, c4, c5⟩, hTr, hCa, hAf, hPr, hDi⟩ := id hL
  obtain ⟨hPb, ⟨y1, y2, y3⟩, hhi, hPp⟩ := id hPT
  refine TT.steps (cd := cd187) 2 (c' := (2, [(2, 0), (0, s), (0, 0)], [(0, s), (2, 0)], σ)) rfl rfl ?_
  refine TT.call (cd := cd187) rfl rfl rfl (by decide) rfl (w_isStation X hl s σ h05) (fun r1 σ1 hq => ?_)
  rw [hq.1, hq.2, a1, if_pos hs]
  refine TT.steps (cd := cd187) 6 (c' := (11, [(2, 0), (0, s), (0, 0)], [(0, s), (2, 36)], σ)) rfl rfl ?_
  refine TT.call (cd := cd187) rfl rfl rfl (by decide) rfl (u_bornAtN X s np σ hPb.1 c1) (fun r2 σ2 hq => ?_)
  rw [hq.1, hq.2]
  refine TT.ret (cd := cd187) rfl rfl rfl rfl ⟨?_, rfl⟩
  rw [← orA_bs _ (by omega)]
  refine congrArg (fun x => some (0, x)) (orA_c (fun p hp => ?_))
  obtain ⟨⟨s1, -, e1, e2⟩, e3, -⟩ := hPb.2 p hp
  unfold mBA
  rw [up2_far _ _ _ _ (by decide), up2_far _ _ _ _ (by decide)]
  simp only [e1, e2, e3, decide_eq_true_eq]
theorem K_station0_170 (X : AX) {σ ρ : AH} {b np nt ns : Nat} {L : Nat → Nat} {C : Nat → Nat → Nat} {w tp u tl oc : Nat} (h : IV σ ρ 170 b np nt ns L C w tp u tl oc) (s : Int) (hs : 0 ≤ s ∧ s < (ns : Int))  : TT X 187 (0, [(2, 0), (0, s), (0, 0)], [], σ) (fun r σ' => r = some (0, orA (fun p => if mBA (up2 ρ 295 46 0) 0 p s then aShl 1 ((p : Nat) : Int) else 0) np) ∧ σ' = σ) := by
  obtain ⟨⟨hl, h05, h33⟩, hL, hN, hPT, hF, hA, hTp, hO, hM, hH⟩ := id h
  obtain ⟨⟨a1, a2, a3, a4⟩, ⟨b1, b2, b3, b4, b5⟩, ⟨c1, c2, c3, c4, c5⟩, hTr, hCa, hAf, hPr, hDi⟩ := id hL
  obtain ⟨hPb, ⟨y1, y2, y3⟩, hhi, hPp⟩ := id hPT
  refine TT.steps (cd := cd187) 2 (c' := (2, [(2, 0), (0, s), (0, 0)], [(0, s), (2, 0)], σ)) rfl rfl ?_
  refine TT.call (cd := cd187) rfl rfl rfl (by decide) rfl (w_isStation X hl s σ h05) (fun r1 σ1 hq => ?_)
  rw [hq.1, hq.2, a1, if_pos hs]
  refine TT.steps (cd := cd187) 6 (c' := (11, [(2, 0), (0, s), (0, 0)], [(0, s), (2, 36)], σ)) rfl rfl ?_
  refine TT.call (cd := cd187) rfl rfl rfl (by decide) rfl (u_bornAtN X s np σ hPb.1 c1) (fun r2 σ2 hq => ?_)
  rw [hq.1, hq.2]
  refine TT.ret (cd := cd187) rfl rfl rfl rfl ⟨?_, rfl⟩
  rw [← orA_bs _ (by omega)]
  refine congrArg (fun x => some (0, x)) (orA_c (fun p hp => ?_))
  obtain ⟨⟨s1, -, e1, e2⟩, e3, -⟩ := hPb.2 p hp
  unfold mBA
  rw [up2_far _ _ _ _ (by decide), up2_far _ _ _ _ (by decide)]
  simp only [e1, e2, e3, decide_eq_true_eq]
theorem K_station0 (X : AX) {l : Nat} {σ ρ : AH} {b np nt ns : Nat} {L : Nat → Nat} {C : Nat → Nat → Nat} {w tp u tl oc : Nat} (h : IV σ ρ l b np nt ns L C w tp u tl oc) (s : Int) (hs : 0 ≤ s ∧ s < (ns : Int))  : TT X 187 (0, [(2, 0), (0, s), (0, 0)], [], σ) (fun r σ' => r = some (0, orA (fun p => if mBA (up2 ρ 295 46 0) 0 p s then aShl 1 ((p : Nat) : Int) else 0) np) ∧ σ' = σ) := by
  rcases h.1.1 with rfl | rfl
  · exact K_station0_8 X h s hs
  · exact K_station0_170 X h s hs
theorem K_station1_8 (X : AX) {σ ρ : AH} {b np nt ns : Nat} {L : Nat → Nat} {C : Nat → Nat → Nat} {w tp u tl oc : Nat} (h : IV σ ρ 8 b np nt ns L C w tp u tl oc) (s : Int) (hs : 0 ≤ s ∧ s < (ns : Int))  : TT X 187 (0, [(2, 0), (0, s), (0, 1)], [], σ) (fun r σ' => r = some (0, sumA (fun p => if ρ 320 p = s then 1 else 0) np) ∧ σ' = σ) := by
  obtain ⟨⟨hl, h05, h33⟩, hL, hN, hPT, hF, hA, hTp, hO, hM, hH⟩ := id h
  obtain ⟨⟨a1, a2, a3, a4⟩, ⟨b1, b2, b3, b4, b5⟩, ⟨c1, c2, c3, c4, c5⟩, hTr, hCa, hAf, hPr, hDi⟩ := id hL
  obtain ⟨hPb, ⟨y1, y2, y3⟩, hhi, hPp⟩ := id hPT
  refine TT.steps (cd := cd187) 2 (c' := (2, [(2, 0), (0, s), (0, 1)], [(0, s), (2, 0)], σ)) rfl rfl ?_
  refine TT.call (cd := cd187) rfl rfl rfl (by decide) rfl (w_isStation X hl s σ h05) (fun r1 σ1 hq => ?_)
  rw [hq.1, hq.2, a1, if_pos hs]
  refine TT.steps (cd := cd187) 6 (c' := (16, [(2, 0), (0, s), (0, 1)], [(0, s), (2, 36)], σ)) rfl rfl ?_
  refine TT.call (cd := cd187) rfl rfl rfl (by decide) rfl (u_countAtN X s np σ hPb.1 c1) (fun r2 σ2 hq => ?_)
  rw [hq.1, hq.2]
  refine TT.ret (cd := cd187) rfl rfl rfl rfl ⟨?_, rfl⟩
  rw [sumA_01w (by omega) (fun p => decide (σ 40 p = s)) (fun p hp => ?_)]
  obtain ⟨-, -, ⟨s2, -, e1, e2⟩, -⟩ := hPb.2 p hp
  rw [show 10 * 0 + p = p by omega] at e2
  simp only [e1, e2, decide_eq_true_eq]
theorem K_station1_170 (X : AX) {σ ρ : AH} {b np nt ns : Nat} {L : Nat → Nat} {C : Nat → Nat → Nat} {w tp u tl oc : Nat} (h : IV σ ρ 170 b np nt ns L C w tp u tl oc) (s : Int) (hs : 0 ≤ s ∧ s < (ns : Int))  : TT X 187 (0, [(2, 0), (0, s), (0, 1)], [], σ) (fun r σ' => r = some (0, sumA (fun p => if ρ 320 p = s then 1 else 0) np) ∧ σ' = σ) := by
  obtain ⟨⟨hl, h05, h33⟩, hL, hN, hPT, hF, hA, hTp, hO, hM, hH⟩ := id h
  obtain ⟨⟨a1, a2, a3, a4⟩, ⟨b1, b2, b3, b4, b5⟩, ⟨c1, c2, c3, c4, c5⟩, hTr, hCa, hAf, hPr, hDi⟩ := id hL
  obtain ⟨hPb, ⟨y1, y2, y3⟩, hhi, hPp⟩ := id hPT
  refine TT.steps (cd := cd187) 2 (c' := (2, [(2, 0), (0, s), (0, 1)], [(0, s), (2, 0)], σ)) rfl rfl ?_
  refine TT.call (cd := cd187) rfl rfl rfl (by decide) rfl (w_isStation X hl s σ h05) (fun r1 σ1 hq => ?_)
  rw [hq.1, hq.2, a1, if_pos hs]
  refine TT.steps (cd := cd187) 6 (c' := (16, [(2, 0), (0, s), (0, 1)], [(0, s), (2, 36)], σ)) rfl rfl ?_
  refine TT.call (cd := cd187) rfl rfl rfl (by decide) rfl (u_countAtN X s np σ hPb.1 c1) (fun r2 σ2 hq => ?_)
  rw [hq.1, hq.2]
  refine TT.ret (cd := cd187) rfl rfl rfl rfl ⟨?_, rfl⟩
  rw [sumA_01w (by omega) (fun p => decide (σ 40 p = s)) (fun p hp => ?_)]
  obtain ⟨-, -, ⟨s2, -, e1, e2⟩, -⟩ := hPb.2 p hp
  rw [show 10 * 0 + p = p by omega] at e2
  simp only [e1, e2, decide_eq_true_eq]
theorem K_station1 (X : AX) {l : Nat} {σ ρ : AH} {b np nt ns : Nat} {L : Nat → Nat} {C : Nat → Nat → Nat} {w tp u tl oc : Nat} (h : IV σ ρ l b np nt ns L C w tp u tl oc) (s : Int) (hs : 0 ≤ s ∧ s < (ns : Int))  : TT X 187 (0, [(2, 0), (0, s), (0, 1)], [], σ) (fun r σ' => r = some (0, sumA (fun p => if ρ 320 p = s then 1 else 0) np) ∧ σ' = σ) := by
  rcases h.1.1 with rfl | rfl
  · exact K_station1_8 X h s hs
  · exact K_station1_170 X h s hs
theorem K_station2_8 (X : AX) {σ ρ : AH} {b np nt ns : Nat} {L : Nat → Nat} {C : Nat → Nat → Nat} {w tp u tl oc : Nat} (h : IV σ ρ 8 b np nt ns L C w tp u tl oc) (s : Int) (hs : 0 ≤ s ∧ s < (ns : Int))  : TT X 187 (0, [(2, 0), (0, s), (0, 2)], [], σ) (fun r σ' => r = some (0, sumA (fun p => if ρ 321 p = s then 1 else 0) np) ∧ σ' = σ) := by
  obtain ⟨⟨hl, h05, h33⟩, hL, hN, hPT, hF, hA, hTp, hO, hM, hH⟩ := id h
  obtain ⟨⟨a1, a2, a3, a4⟩, ⟨b1, b2, b3, b4, b5⟩, ⟨c1, c2, c3, c4, c5⟩, hTr, hCa, hAf, hPr, hDi⟩ := id hL
  obtain ⟨hPb, ⟨y1, y2, y3⟩, hhi, hPp⟩ := id hPT
  refine TT.steps (cd := cd187) 2 (c' := (2, [(2, 0), (0, s), (0, 2)], [(0, s), (2, 0)], σ)) rfl rfl ?_
  refine TT.call (cd := cd187) rfl rfl rfl (by decide) rfl (w_isStation X hl s σ h05) (fun r1 σ1 hq => ?_)
  rw [hq.1, hq.2, a1, if_pos hs]
  refine TT.steps (cd := cd187) 6 (c' := (21, [(2, 0), (0, s), (0, 2)], [(0, s), (2, 36)], σ)) rfl rfl ?_
  refine TT.call (cd := cd187) rfl rfl rfl (by decide) rfl (u_countToN X s np σ hPb.1 c1) (fun r2 σ2 hq => ?_)
  rw [hq.1, hq.2]
  refine TT.ret (cd := cd187) rfl rfl rfl rfl ⟨?_, rfl⟩
  rw [sumA_01w (by omega) (fun p => decide (σ 41 p = s)) (fun p hp => ?_)]
  obtain ⟨-, -, -, ⟨s2, -, e1, e2⟩⟩ := hPb.2 p hp
  rw [show 10 * 0 + p = p by omega] at e2
  simp only [e1, e2, decide_eq_true_eq]
theorem K_station2_170 (X : AX) {σ ρ : AH} {b np nt ns : Nat} {L : Nat → Nat} {C : Nat → Nat → Nat} {w tp u tl oc : Nat} (h : IV σ ρ 170 b np nt ns L C w tp u tl oc) (s : Int) (hs : 0 ≤ s ∧ s < (ns : Int))  : TT X 187 (0, [(2, 0), (0, s), (0, 2)], [], σ) (fun r σ' => r = some (0, sumA (fun p => if ρ 321 p = s then 1 else 0) np) ∧ σ' = σ) := by
  obtain ⟨⟨hl, h05, h33⟩, hL, hN, hPT, hF, hA, hTp, hO, hM, hH⟩ := id h
  obtain ⟨⟨a1, a2, a3, a4⟩, ⟨b1, b2, b3, b4, b5⟩, ⟨c1, c2, c3, c4, c5⟩, hTr, hCa, hAf, hPr, hDi⟩ := id hL
  obtain ⟨hPb, ⟨y1, y2, y3⟩, hhi, hPp⟩ := id hPT
  refine TT.steps (cd := cd187) 2 (c' := (2, [(2, 0), (0, s), (0, 2)], [(0, s), (2, 0)], σ)) rfl rfl ?_
  refine TT.call (cd := cd187) rfl rfl rfl (by decide) rfl (w_isStation X hl s σ h05) (fun r1 σ1 hq => ?_)
  rw [hq.1, hq.2, a1, if_pos hs]
  refine TT.steps (cd := cd187) 6 (c' := (21, [(2, 0), (0, s), (0, 2)], [(0, s), (2, 36)], σ)) rfl rfl ?_
  refine TT.call (cd := cd187) rfl rfl rfl (by decide) rfl (u_countToN X s np σ hPb.1 c1) (fun r2 σ2 hq => ?_)
  rw [hq.1, hq.2]
  refine TT.ret (cd := cd187) rfl rfl rfl rfl ⟨?_, rfl⟩
  rw [sumA_01w (by omega) (fun p => decide (σ 41 p = s)) (fun p hp => ?_)]
  obtain ⟨-, -, -, ⟨s2, -, e1, e2⟩⟩ := hPb.2 p hp
  rw [show 10 * 0 + p = p by omega] at e2
  simp only [e1, e2, decide_eq_true_eq]
theorem K_station2 (X : AX) {l : Nat} {σ ρ : AH} {b np nt ns : Nat} {L : Nat → Nat} {C : Nat → Nat → Nat} {w tp u tl oc : Nat} (h : IV σ ρ l b np nt ns L C w tp u tl oc) (s : Int) (hs : 0 ≤ s ∧ s < (ns : Int))  : TT X 187 (0, [(2, 0), (0, s), (0, 2)], [], σ) (fun r σ' => r = some (0, sumA (fun p => if ρ 321 p = s then 1 else 0) np) ∧ σ' = σ) := by
  rcases h.1.1 with rfl | rfl
  · exact K_station2_8 X h s hs
  · exact K_station2_170 X h s hs
theorem K_station3_8 (X : AX) {σ ρ : AH} {b np nt ns : Nat} {L : Nat → Nat} {C : Nat → Nat → Nat} {w tp u tl oc : Nat} (h : IV σ ρ 8 b np nt ns L C w tp u tl oc) (s : Int) (hs : 0 ≤ s ∧ s < (ns : Int))  : TT X 187 (0, [(2, 0), (0, s), (0, 3)], [], σ) (fun r σ' => r = some (0, sumA (fun t => (if anyN (fun i => decide (0 ≤ i ∧ (up2 ρ 295 46 0) 305 (8 * (6 * b + t) + i) = s)) (L t) = true then 1 else 0)) nt) ∧ σ' = σ) := by
  obtain ⟨⟨hl, h05, h33⟩, hL, hN, hPT, hF, hA, hTp, hO, hM, hH⟩ := id h
  obtain ⟨⟨a1, a2, a3, a4⟩, ⟨b1, b2, b3, b4, b5⟩, ⟨c1, c2, c3, c4, c5⟩, hTr, hCa, hAf, hPr, hDi⟩ := id hL
  obtain ⟨hPb, ⟨y1, y2, y3⟩, hhi, hPp⟩ := id hPT
  refine TT.steps (cd := cd187) 2 (c' := (2, [(2, 0), (0, s), (0, 3)], [(0, s), (2, 0)], σ)) rfl rfl ?_
  refine TT.call (cd := cd187) rfl rfl rfl (by decide) rfl (w_isStation X hl s σ h05) (fun r1 σ1 hq => ?_)
  rw [hq.1, hq.2, a1, if_pos hs]
  refine TT.steps (cd := cd187) 5 (c' := (25, [(2, 0), (0, s), (0, 3)], [(2, (σ 0 5))], σ)) rfl rfl ?_
  refine TT.top0 (z := 8) h05 ?_
  refine TT.steps (cd := cd187) 1 (c' := (26, [(2, 0), (0, s), (0, 3)], [(0, s), (2, 8)], σ)) rfl rfl ?_
  refine TT.call (cd := cd187) rfl rfl rfl (by decide) rfl (v_countCalls X hl hL s) (fun r2 σ2 hq => ?_)
  rw [hq.1, hq.2]
  refine TT.ret (cd := cd187) rfl rfl rfl rfl ⟨?_, rfl⟩
  refine congrArg (fun x => some (0, x)) (sumA_c (fun t ht => ?_))
  simp only [up2_far ρ (k := 295) (k' := 305) _ _ _ (by decide)]
theorem K_station3_170 (X : AX) {σ ρ : AH} {b np nt ns : Nat} {L : Nat → Nat} {C : Nat → Nat → Nat} {w tp u tl oc : Nat} (h : IV σ ρ 170 b np nt ns L C w tp u tl oc) (s : Int) (hs : 0 ≤ s ∧ s < (ns : Int))  : TT X 187 (0, [(2, 0), (0, s), (0, 3)], [], σ) (fun r σ' => r = some (0, sumA (fun t => (if anyN (fun i => decide (0 ≤ i ∧ (up2 ρ 295 46 0) 305 (8 * (6 * b + t) + i) = s)) (L t) = true then 1 else 0)) nt) ∧ σ' = σ) := by
  obtain ⟨⟨hl, h05, h33⟩, hL, hN, hPT, hF, hA, hTp, hO, hM, hH⟩ := id h
  obtain ⟨⟨a1, a2, a3, a4⟩, ⟨b1, b2, b3, b4, b5⟩, ⟨c1, c2, c3, c4, c5⟩, hTr, hCa, hAf, hPr, hDi⟩ := id hL
  obtain ⟨hPb, ⟨y1, y2, y3⟩, hhi, hPp⟩ := id hPT
  refine TT.steps (cd := cd187) 2 (c' := (2, [(2, 0), (0, s), (0, 3)], [(0, s), (2, 0)], σ)) rfl rfl ?_
  refine TT.call (cd := cd187) rfl rfl rfl (by decide) rfl (w_isStation X hl s σ h05) (fun r1 σ1 hq => ?_)
  rw [hq.1, hq.2, a1, if_pos hs]
  refine TT.steps (cd := cd187) 5 (c' := (25, [(2, 0), (0, s), (0, 3)], [(2, (σ 0 5))], σ)) rfl rfl ?_
  refine TT.top0 (z := 170) h05 ?_
  refine TT.steps (cd := cd187) 1 (c' := (26, [(2, 0), (0, s), (0, 3)], [(0, s), (2, 170)], σ)) rfl rfl ?_
  refine TT.call (cd := cd187) rfl rfl rfl (by decide) rfl (v_countCalls X hl hL s) (fun r2 σ2 hq => ?_)
  rw [hq.1, hq.2]
  refine TT.ret (cd := cd187) rfl rfl rfl rfl ⟨?_, rfl⟩
  refine congrArg (fun x => some (0, x)) (sumA_c (fun t ht => ?_))
  simp only [up2_far ρ (k := 295) (k' := 305) _ _ _ (by decide)]
theorem K_station3 (X : AX) {l : Nat} {σ ρ : AH} {b np nt ns : Nat} {L : Nat → Nat} {C : Nat → Nat → Nat} {w tp u tl oc : Nat} (h : IV σ ρ l b np nt ns L C w tp u tl oc) (s : Int) (hs : 0 ≤ s ∧ s < (ns : Int))  : TT X 187 (0, [(2, 0), (0, s), (0, 3)], [], σ) (fun r σ' => r = some (0, sumA (fun t => (if anyN (fun i => decide (0 ≤ i ∧ (up2 ρ 295 46 0) 305 (8 * (6 * b + t) + i) = s)) (L t) = true then 1 else 0)) nt) ∧ σ' = σ) := by
  rcases h.1.1 with rfl | rfl
  · exact K_station3_8 X h s hs
  · exact K_station3_170 X h s hs
theorem K_train0 (X : AX) {l : Nat} {σ ρ : AH} {b np nt ns : Nat} {L : Nat → Nat} {C : Nat → Nat → Nat} {w tp u tl oc : Nat} (h : IV σ ρ l b np nt ns L C w tp u tl oc) (t w0 : Int) (ht : ¬ (0 ≤ t ∧ t < (nt : Int)))  : TT X 188 (0, [(2, 0), (0, t), (0, w0)], [], σ) (fun r σ' => r = some (0, -1) ∧ σ' = σ) := by
  obtain ⟨⟨hl, h05, h33⟩, hL, hN, hPT, hF, hA, hTp, hO, hM, hH⟩ := id h
  obtain ⟨⟨a1, a2, a3, a4⟩, ⟨b1, b2, b3, b4, b5⟩, ⟨c1, c2, c3, c4, c5⟩, hTr, hCa, hAf, hPr, hDi⟩ := id hL
  obtain ⟨hPb, ⟨y1, y2, y3⟩, hhi, hPp⟩ := id hPT
  refine TT.steps (cd := cd188) 2 (c' := (2, [(2, 0), (0, t), (0, w0)], [(0, t), (2, 0)], σ)) rfl rfl ?_
  refine TT.call (cd := cd188) rfl rfl rfl (by decide) rfl (w_isTrain X hl t σ h05) (fun r1 σ1 hq => ?_)
  rw [hq.1, hq.2, a2, if_neg ht]
  refine TT.steps (cd := cd188) 2 (c' := (5, [(2, 0), (0, t), (0, w0)], [(0, -1)], σ)) rfl rfl ?_
  exact TT.ret (cd := cd188) rfl rfl rfl rfl (⟨rfl, rfl⟩)
theorem K_trainN_8 (X : AX) {σ ρ : AH} {b np nt ns : Nat} {L : Nat → Nat} {C : Nat → Nat → Nat} {w tp u tl oc : Nat} (h : IV σ ρ 8 b np nt ns L C w tp u tl oc) (t : Nat) (w0 : Int) (hw0 : w0 < 0) (ht : t < nt)  : TT X 188 (0, [(2, 0), (0, ((t : Nat) : Int)), (0, w0)], [], σ) (fun r σ' => r = some (0, -1) ∧ σ' = σ) := by
  obtain ⟨⟨hl, h05, h33⟩, hL, hN, hPT, hF, hA, hTp, hO, hM, hH⟩ := id h
  obtain ⟨⟨a1, a2, a3, a4⟩, ⟨b1, b2, b3, b4, b5⟩, ⟨c1, c2, c3, c4, c5⟩, hTr, hCa, hAf, hPr, hDi⟩ := id hL
  obtain ⟨hPb, ⟨y1, y2, y3⟩, hhi, hPp⟩ := id hPT
  refine TT.steps (cd := cd188) 2 (c' := (2, [(2, 0), (0, ((t : Nat) : Int)), (0, w0)], [(0, ((t : Nat) : Int)), (2, 0)], σ)) rfl rfl ?_
  refine TT.call (cd := cd188) rfl rfl rfl (by decide) rfl (w_isTrain X hl ((t : Nat) : Int) σ h05) (fun r1 σ1 hq => ?_)
  rw [hq.1, hq.2, a2, if_pos ⟨by omega, by omega⟩]
  refine TT.steps (cd := cd188) 3 (c' := ((swOf [(0, 8), (1, 14), (2, 20)] 26 w0), [(2, 0), (0, ((t : Nat) : Int)), (0, w0)], [], σ)) rfl rfl ?_
  refine TT.swc (fun h2 => ?_) (fun h2 => ?_)
  · omega
  refine TT.swc (fun h3 => ?_) (fun h3 => ?_)
  · omega
  refine TT.swc (fun h4 => ?_) (fun h4 => ?_)
  · omega
  show TT X 188 (26, [(2, 0), (0, ((t : Nat) : Int)), (0, w0)], [], σ) _
  refine TT.steps (cd := cd188) 3 (c' := ((if decide (w0 < 10) = true then 46 else 29), [(2, 0), (0, ((t : Nat) : Int)), (0, w0)], [], σ)) rfl rfl ?_
  refine TT.br (p := w0 < 10) (fun h5 => ?_) (fun h5 => absurd (show w0 < 10 by omega) h5)
  refine TT.steps (cd := cd188) 3 (c' := ((if decide (w0 < 21) = true then 66 else 49), [(2, 0), (0, ((t : Nat) : Int)), (0, w0)], [], σ)) rfl rfl ?_
  refine TT.br (p := w0 < 21) (fun h6 => ?_) (fun h6 => absurd (show w0 < 21 by omega) h6)
  refine TT.steps (cd := cd188) 1 (c' := (67, [(2, 0), (0, ((t : Nat) : Int)), (0, w0)], [(0, -1)], σ)) rfl rfl ?_
  exact TT.ret (cd := cd188) rfl rfl rfl rfl (⟨rfl, rfl⟩)
theorem K_trainN_170 (X : AX) {σ ρ : AH} {b np nt ns : Nat} {L : Nat → Nat} {C : Nat → Nat → Nat} {w tp u tl oc : Nat} (h : IV σ ρ 170 b np nt ns L C w tp u tl oc) (t : Nat) (w0 : Int) (hw0 : w0 < 0) (ht : t < nt)  : TT X 188 (0, [(2, 0), (0, ((t : Nat) : Int)), (0, w0)], [], σ) (fun r σ' => r = some (0, -1) ∧ σ' = σ) := by
  obtain ⟨⟨hl, h05, h33⟩, hL, hN, hPT, hF, hA, hTp, hO, hM, hH⟩ := id h
  obtain ⟨⟨a1, a2, a3, a4⟩, ⟨b1, b2, b3, b4, b5⟩, ⟨c1, c2, c3, c4, c5⟩, hTr, hCa, hAf, hPr, hDi⟩ := id hL
  obtain ⟨hPb, ⟨y1, y2, y3⟩, hhi, hPp⟩ := id hPT
  refine TT.steps (cd := cd188) 2 (c' := (2, [(2, 0), (0, ((t : Nat) : Int)), (0, w0)], [(0, ((t : Nat) : Int)), (2, 0)], σ)) rfl rfl ?_
  refine TT.call (cd := cd188) rfl rfl rfl (by decide) rfl (w_isTrain X hl ((t : Nat) : Int) σ h05) (fun r1 σ1 hq => ?_)
  rw [hq.1, hq.2, a2, if_pos ⟨by omega, by omega⟩]
  refine TT.steps (cd := cd188) 3 (c' := ((swOf [(0, 8), (1, 14), (2, 20)] 26 w0), [(2, 0), (0, ((t : Nat) : Int)), (0, w0)], [], σ)) rfl rfl ?_
  refine TT.swc (fun h2 => ?_) (fun h2 => ?_)
  · omega
  refine TT.swc (fun h3 => ?_) (fun h3 => ?_)
  · omega
  refine TT.swc (fun h4 => ?_) (fun h4 => ?_)
  · omega
  show TT X 188 (26, [(2, 0), (0, ((t : Nat) : Int)), (0, w0)], [], σ) _
  refine TT.steps (cd := cd188) 3 (c' := ((if decide (w0 < 10) = true then 46 else 29), [(2, 0), (0, ((t : Nat) : Int)), (0, w0)], [], σ)) rfl rfl ?_
  refine TT.br (p := w0 < 10) (fun h5 => ?_) (fun h5 => absurd (show w0 < 10 by omega) h5)
  refine TT.steps (cd := cd188) 3 (c' := ((if decide (w0 < 21) = true then 66 else 49), [(2, 0), (0, ((t : Nat) : Int)), (0, w0)], [], σ)) rfl rfl ?_
  refine TT.br (p := w0 < 21) (fun h6 => ?_) (fun h6 => absurd (show w0 < 21 by omega) h6)
  refine TT.steps (cd := cd188) 1 (c' := (67, [(2, 0), (0, ((t : Nat) : Int)), (0, w0)], [(0, -1)], σ)) rfl rfl ?_
  exact TT.ret (cd := cd188) rfl rfl rfl rfl (⟨rfl, rfl⟩)
theorem K_trainN (X : AX) {l : Nat} {σ ρ : AH} {b np nt ns : Nat} {L : Nat → Nat} {C : Nat → Nat → Nat} {w tp u tl oc : Nat} (h : IV σ ρ l b np nt ns L C w tp u tl oc) (t : Nat) (w0 : Int) (hw0 : w0 < 0) (ht : t < nt)  : TT X 188 (0, [(2, 0), (0, ((t : Nat) : Int)), (0, w0)], [], σ) (fun r σ' => r = some (0, -1) ∧ σ' = σ) := by
  rcases h.1.1 with rfl | rfl
  · exact K_trainN_8 X h t w0 hw0 ht
  · exact K_trainN_170 X h t w0 hw0 ht
theorem K_train1_8 (X : AX) {σ ρ : AH} {b np nt ns : Nat} {L : Nat → Nat} {C : Nat → Nat → Nat} {w tp u tl oc : Nat} (h : IV σ ρ 8 b np nt ns L C w tp u tl oc) (t w0 : Nat) (hw0 : w0 < 2147483648) (ht : t < nt)  : TT X 188 (0, [(2, 0), (0, ((t : Nat) : Int)), (0, ((w0 : Nat) : Int))], [], σ) (fun r σ' => r = some (0, if 10 ≤ w0 ∧ w0 ≤ 9 + L t then ρ 305 (8 * (6 * b + t) + (w0 - 10)) else if 21 ≤ w0 ∧ w0 ≤ 19 + L t then ρ 306 (8 * (6 * b + t) + (w0 - 20)) else if w0 = 0 then ρ 302 (6 * b + t) else if w0 = 1 then ρ 303 (6 * b + t) else if w0 = 2 then ((L t : Nat) : Int) else -1) ∧ σ' = σ) := by
  obtain ⟨⟨hl, h05, h33⟩, hL, hN, hPT, hF, hA, hTp, hO, hM, hH⟩ := id h
  obtain ⟨⟨a1, a2, a3, a4⟩, ⟨b1, b2, b3, b4, b5⟩, ⟨c1, c2, c3, c4, c5⟩, hTr, hCa, hAf, hPr, hDi⟩ := id hL
  obtain ⟨hPb, ⟨y1, y2, y3⟩, hhi, hPp⟩ := id hPT
  obtain ⟨e1, e2, e3, e4, e5, e6, e7, e8⟩ := hTr t ht
  refine TT.steps (cd := cd188) 2 (c' := (2, [(2, 0), (0, ((t : Nat) : Int)), (0, ((w0 : Nat) : Int))], [(0, ((t : Nat) : Int)), (2, 0)], σ)) rfl rfl ?_
  refine TT.call (cd := cd188) rfl rfl rfl (by decide) rfl (w_isTrain X hl ((t : Nat) : Int) σ h05) (fun r1 σ1 hq => ?_)
  rw [hq.1, hq.2, a2, if_pos ⟨by omega, by omega⟩]
  refine TT.steps (cd := cd188) 3 (c' := ((swOf [(0, 8), (1, 14), (2, 20)] 26 ((w0 : Nat) : Int)), [(2, 0), (0, ((t : Nat) : Int)), (0, ((w0 : Nat) : Int))], [], σ)) rfl rfl ?_
  refine TT.swc (fun h2 => ?_) (fun h2 => ?_)
  · refine TT.steps (cd := cd188) 2 (c' := (10, [(2, 0), (0, ((t : Nat) : Int)), (0, ((w0 : Nat) : Int))], [(2, (σ 0 5))], σ)) rfl rfl ?_
    refine TT.top0 (z := 8) h05 ?_
    refine TT.steps (cd := cd188) 2 (c' := (12, [(2, 0), (0, ((t : Nat) : Int)), (0, ((w0 : Nat) : Int))], [(0, ((t : Nat) : Int)), (2, 13)], σ)) rfl rfl ?_
    refine TT.aldN (cd := cd188) (13) (t) rfl rfl rfl rfl (show t < 6 by omega) ?_
    refine TT.top0 (z := (ρ 302 (6 * b + t))) e5 ?_
    refine TT.ret (cd := cd188) rfl rfl rfl rfl ⟨?_, rfl⟩
    rw [if_neg (by omega), if_neg (by omega)]
    simp only [show w0 = 0 by omega]
    first | rfl | (simp; done)
  refine TT.swc (fun h3 => ?_) (fun h3 => ?_)
  · refine TT.steps (cd := cd188) 2 (c' := (16, [(2, 0), (0, ((t : Nat) : Int)), (0, ((w0 : Nat) : Int))], [(2, (σ 0 5))], σ)) rfl rfl ?_
    refine TT.top0 (z := 8) h05 ?_
    refine TT.steps (cd := cd188) 2 (c' := (18, [(2, 0), (0, ((t : Nat) : Int)), (0, ((w0 : Nat) : Int))], [(0, ((t : Nat) : Int)), (2, 14)], σ)) rfl rfl ?_
    refine TT.aldN (cd := cd188) (14) (t) rfl rfl rfl rfl (show t < 6 by omega) ?_
    refine TT.top0 (z := (ρ 303 (6 * b + t))) e8 ?_
    refine TT.ret (cd := cd188) rfl rfl rfl rfl ⟨?_, rfl⟩
    rw [if_neg (by omega), if_neg (by omega)]
    simp only [show w0 = 1 by omega]
    first | rfl | (simp; done)
  refine TT.swc (fun h4 => ?_) (fun h4 => ?_)
  · refine TT.steps (cd := cd188) 2 (c' := (22, [(2, 0), (0, ((t : Nat) : Int)), (0, ((w0 : Nat) : Int))], [(2, (σ 0 5))], σ)) rfl rfl ?_
    refine TT.top0 (z := 8) h05 ?_
    refine TT.steps (cd := cd188) 2 (c' := (24, [(2, 0), (0, ((t : Nat) : Int)), (0, ((w0 : Nat) : Int))], [(0, ((t : Nat) : Int)), (2, 15)], σ)) rfl rfl ?_
    refine TT.aldN (cd := cd188) (15) (t) rfl rfl rfl rfl (show t < 6 by omega) ?_
    refine TT.top0 (z := (((L t) : Nat) : Int)) e1 ?_
    refine TT.ret (cd := cd188) rfl rfl rfl rfl ⟨?_, rfl⟩
    rw [if_neg (by omega), if_neg (by omega)]
    simp only [show w0 = 2 by omega]
    first | rfl | (simp; done)
  show TT X 188 (26, [(2, 0), (0, ((t : Nat) : Int)), (0, ((w0 : Nat) : Int))], [], σ) _
  refine TT.steps (cd := cd188) 3 (c' := ((if decide (((w0 : Nat) : Int) < 10) = true then 46 else 29), [(2, 0), (0, ((t : Nat) : Int)), (0, ((w0 : Nat) : Int))], [], σ)) rfl rfl ?_
  refine TT.br (p := ((w0 : Nat) : Int) < 10) (fun h5 => ?_) (fun h5 => ?_)
  · refine TT.steps (cd := cd188) 3 (c' := ((if decide (((w0 : Nat) : Int) < 21) = true then 66 else 49), [(2, 0), (0, ((t : Nat) : Int)), (0, ((w0 : Nat) : Int))], [], σ)) rfl rfl ?_
    refine TT.br (p := ((w0 : Nat) : Int) < 21) (fun h6 => ?_) (fun h6 => ?_)
    · refine TT.steps (cd := cd188) 1 (c' := (67, [(2, 0), (0, ((t : Nat) : Int)), (0, ((w0 : Nat) : Int))], [(0, -1)], σ)) rfl rfl ?_
      refine TT.ret (cd := cd188) rfl rfl rfl rfl ⟨?_, rfl⟩
      rw [if_neg (by omega), if_neg (by omega), if_neg (by omega), if_neg (by omega), if_neg (by omega)]
    · refine TT.steps (cd := cd188) 5 (c' := (54, [(2, 0), (0, ((t : Nat) : Int)), (0, ((w0 : Nat) : Int))], [(0, (aSub ((w0 : Nat) : Int) 20)), (0, ((t : Nat) : Int)), (2, 0)], σ)) rfl rfl ?_
      refine TT.top0 (z := ((w0 : Int) - 20)) (aSub_of (by omega) (by omega)) ?_
      refine TT.call (cd := cd188) rfl rfl rfl (by decide) rfl (w_isCall X hl t ((w0 : Int) - 20) σ h05 nt a2 c2 ht) (fun r7 σ7 hq => ?_)
      rw [hq.1, hq.2, (hTr t ht).1]
      refine TT.steps (cd := cd188) 1 (c' := ((if decide (((if 0 ≤ ((w0 : Int) - 20) ∧ ((w0 : Int) - 20) < (L t : Int) then 1 else 0) : Int) = 0) = true then 66 else 56), [(2, 0), (0, ((t : Nat) : Int)), (0, ((w0 : Nat) : Int))], [], σ)) rfl rfl ?_
      refine TT.br (p := ((if 0 ≤ ((w0 : Int) - 20) ∧ ((w0 : Int) - 20) < (L t : Int) then 1 else 0) : Int) = 0) (fun h8 => ?_) (fun h8 => ?_)
      · replace h8 := ite_f h8
        refine TT.steps (cd := cd188) 1 (c' := (67, [(2, 0), (0, ((t : Nat) : Int)), (0, ((w0 : Nat) : Int))], [(0, -1)], σ)) rfl rfl ?_
        refine TT.ret (cd := cd188) rfl rfl rfl rfl ⟨?_, rfl⟩
        rw [if_neg (by omega), if_neg (by omega), if_neg (by omega), if_neg (by omega), if_neg (by omega)]
      · replace h8 := ite_t h8
        refine TT.steps (cd := cd188) 2 (c' := (58, [(2, 0), (0, ((t : Nat) : Int)), (0, ((w0 : Nat) : Int))], [(2, (σ 0 5))], σ)) rfl rfl ?_
        refine TT.top0 (z := 8) h05 ?_
        refine TT.steps (cd := cd188) 2 (c' := (60, [(2, 0), (0, ((t : Nat) : Int)), (0, ((w0 : Nat) : Int))], [(0, ((t : Nat) : Int)), (2, 23)], σ)) rfl rfl ?_
        refine TT.aaldN (cd := cd188) 23 (t) (24 + t) rfl rfl rfl (Or.inr rfl) (show t < 6 by omega) (fxg_23 t (by omega)) ?_
        refine TT.steps (cd := cd188) 3 (c' := (64, [(2, 0), (0, ((t : Nat) : Int)), (0, ((w0 : Nat) : Int))], [(0, (aSub ((w0 : Nat) : Int) 20)), (2, ((24 + t : Nat) : Int))], σ)) rfl rfl ?_
        refine TT.top0 (z := ((w0 - 20 : Nat) : Int)) (aSub_n (a := w0) (b := 20) (by omega) (by omega)) ?_
        refine TT.aldN (cd := cd188) (24 + t) (w0 - 20) rfl rfl rfl (kdg_23 t (by omega)).1 (show w0 - 20 < ln (24 + t) by rw [(kdg_23 t (by omega)).2]; omega) ?_
        refine TT.ret (cd := cd188) rfl rfl rfl rfl ⟨?_, rfl⟩
        rw [if_neg (by omega), if_pos (by omega), show w0 - 20 = (w0 - 21) + 1 by omega, (hAf t (w0 - 21) ht (by omega)).1]
  · refine TT.steps (cd := cd188) 5 (c' := (34, [(2, 0), (0, ((t : Nat) : Int)), (0, ((w0 : Nat) : Int))], [(0, (aSub ((w0 : Nat) : Int) 10)), (0, ((t : Nat) : Int)), (2, 0)], σ)) rfl rfl ?_
    refine TT.top0 (z := ((w0 : Int) - 10)) (aSub_of (by omega) (by omega)) ?_
    refine TT.call (cd := cd188) rfl rfl rfl (by decide) rfl (w_isCall X hl t ((w0 : Int) - 10) σ h05 nt a2 c2 ht) (fun r9 σ9 hq => ?_)
    rw [hq.1, hq.2, (hTr t ht).1]
    refine TT.steps (cd := cd188) 1 (c' := ((if decide (((if 0 ≤ ((w0 : Int) - 10) ∧ ((w0 : Int) - 10) < (L t : Int) then 1 else 0) : Int) = 0) = true then 46 else 36), [(2, 0), (0, ((t : Nat) : Int)), (0, ((w0 : Nat) : Int))], [], σ)) rfl rfl ?_
    refine TT.br (p := ((if 0 ≤ ((w0 : Int) - 10) ∧ ((w0 : Int) - 10) < (L t : Int) then 1 else 0) : Int) = 0) (fun h10 => ?_) (fun h10 => ?_)
    · replace h10 := ite_f h10
      refine TT.steps (cd := cd188) 3 (c' := ((if decide (((w0 : Nat) : Int) < 21) = true then 66 else 49), [(2, 0), (0, ((t : Nat) : Int)), (0, ((w0 : Nat) : Int))], [], σ)) rfl rfl ?_
      refine TT.br (p := ((w0 : Nat) : Int) < 21) (fun h11 => ?_) (fun h11 => ?_)
      · refine TT.steps (cd := cd188) 1 (c' := (67, [(2, 0), (0, ((t : Nat) : Int)), (0, ((w0 : Nat) : Int))], [(0, -1)], σ)) rfl rfl ?_
        refine TT.ret (cd := cd188) rfl rfl rfl rfl ⟨?_, rfl⟩
        rw [if_neg (by omega), if_neg (by omega), if_neg (by omega), if_neg (by omega), if_neg (by omega)]
      · refine TT.steps (cd := cd188) 5 (c' := (54, [(2, 0), (0, ((t : Nat) : Int)), (0, ((w0 : Nat) : Int))], [(0, (aSub ((w0 : Nat) : Int) 20)), (0, ((t : Nat) : Int)), (2, 0)], σ)) rfl rfl ?_
        refine TT.top0 (z := ((w0 : Int) - 20)) (aSub_of (by omega) (by omega)) ?_
        refine TT.call (cd := cd188) rfl rfl rfl (by decide) rfl (w_isCall X hl t ((w0 : Int) - 20) σ h05 nt a2 c2 ht) (fun r12 σ12 hq => ?_)
        rw [hq.1, hq.2, (hTr t ht).1]
        refine TT.steps (cd := cd188) 1 (c' := ((if decide (((if 0 ≤ ((w0 : Int) - 20) ∧ ((w0 : Int) - 20) < (L t : Int) then 1 else 0) : Int) = 0) = true then 66 else 56), [(2, 0), (0, ((t : Nat) : Int)), (0, ((w0 : Nat) : Int))], [], σ)) rfl rfl ?_
        refine TT.br (p := ((if 0 ≤ ((w0 : Int) - 20) ∧ ((w0 : Int) - 20) < (L t : Int) then 1 else 0) : Int) = 0) (fun h13 => ?_) (fun h13 => ?_)
        · replace h13 := ite_f h13
          refine TT.steps (cd := cd188) 1 (c' := (67, [(2, 0), (0, ((t : Nat) : Int)), (0, ((w0 : Nat) : Int))], [(0, -1)], σ)) rfl rfl ?_
          refine TT.ret (cd := cd188) rfl rfl rfl rfl ⟨?_, rfl⟩
          rw [if_neg (by omega), if_neg (by omega), if_neg (by omega), if_neg (by omega), if_neg (by omega)]
        · replace h13 := ite_t h13
          refine TT.steps (cd := cd188) 2 (c' := (58, [(2, 0), (0, ((t : Nat) : Int)), (0, ((w0 : Nat) : Int))], [(2, (σ 0 5))], σ)) rfl rfl ?_
          refine TT.top0 (z := 8) h05 ?_
          refine TT.steps (cd := cd188) 2 (c' := (60, [(2, 0), (0, ((t : Nat) : Int)), (0, ((w0 : Nat) : Int))], [(0, ((t : Nat) : Int)), (2, 23)], σ)) rfl rfl ?_
          refine TT.aaldN (cd := cd188) 23 (t) (24 + t) rfl rfl rfl (Or.inr rfl) (show t < 6 by omega) (fxg_23 t (by omega)) ?_
          refine TT.steps (cd := cd188) 3 (c' := (64, [(2, 0), (0, ((t : Nat) : Int)), (0, ((w0 : Nat) : Int))], [(0, (aSub ((w0 : Nat) : Int) 20)), (2, ((24 + t : Nat) : Int))], σ)) rfl rfl ?_
          refine TT.top0 (z := ((w0 - 20 : Nat) : Int)) (aSub_n (a := w0) (b := 20) (by omega) (by omega)) ?_
          refine TT.aldN (cd := cd188) (24 + t) (w0 - 20) rfl rfl rfl (kdg_23 t (by omega)).1 (show w0 - 20 < ln (24 + t) by rw [(kdg_23 t (by omega)).2]; omega) ?_
          refine TT.ret (cd := cd188) rfl rfl rfl rfl ⟨?_, rfl⟩
          rw [if_neg (by omega), if_pos (by omega), show w0 - 20 = (w0 - 21) + 1 by omega, (hAf t (w0 - 21) ht (by omega)).1]
    · replace h10 := ite_t h10
      refine TT.steps (cd := cd188) 2 (c' := (38, [(2, 0), (0, ((t : Nat) : Int)), (0, ((w0 : Nat) : Int))], [(2, (σ 0 5))], σ)) rfl rfl ?_
      refine TT.top0 (z := 8) h05 ?_
      refine TT.steps (cd := cd188) 2 (c' := (40, [(2, 0), (0, ((t : Nat) : Int)), (0, ((w0 : Nat) : Int))], [(0, ((t : Nat) : Int)), (2, 16)], σ)) rfl rfl ?_
      refine TT.aaldN (cd := cd188) 16 (t) (17 + t) rfl rfl rfl (Or.inr rfl) (show t < 6 by omega) (fxg_16 t (by omega)) ?_
      refine TT.steps (cd := cd188) 3 (c' := (44, [(2, 0), (0, ((t : Nat) : Int)), (0, ((w0 : Nat) : Int))], [(0, (aSub ((w0 : Nat) : Int) 10)), (2, ((17 + t : Nat) : Int))], σ)) rfl rfl ?_
      refine TT.top0 (z := ((w0 - 10 : Nat) : Int)) (aSub_n (a := w0) (b := 10) (by omega) (by omega)) ?_
      refine TT.aldN (cd := cd188) (17 + t) (w0 - 10) rfl rfl rfl (kdg_16 t (by omega)).1 (show w0 - 10 < ln (17 + t) by rw [(kdg_16 t (by omega)).2]; omega) ?_
      refine TT.ret (cd := cd188) rfl rfl rfl rfl ⟨?_, rfl⟩
      rw [if_pos (by omega), (hCa t (w0 - 10) ht (by omega)).1, (hCa t (w0 - 10) ht (by omega)).2.1]
theorem K_train1_170 (X : AX) {σ ρ : AH} {b np nt ns : Nat} {L : Nat → Nat} {C : Nat → Nat → Nat} {w tp u tl oc : Nat} (h : IV σ ρ 170 b np nt ns L C w tp u tl oc) (t w0 : Nat) (hw0 : w0 < 2147483648) (ht : t < nt)  : TT X 188 (0, [(2, 0), (0, ((t : Nat) : Int)), (0, ((w0 : Nat) : Int))], [], σ) (fun r σ' => r = some (0, if 10 ≤ w0 ∧ w0 ≤ 9 + L t then ρ 305 (8 * (6 * b + t) + (w0 - 10)) else if 21 ≤ w0 ∧ w0 ≤ 19 + L t then ρ 306 (8 * (6 * b + t) + (w0 - 20)) else if w0 = 0 then ρ 302 (6 * b + t) else if w0 = 1 then ρ 303 (6 * b + t) else if w0 = 2 then ((L t : Nat) : Int) else -1) ∧ σ' = σ) := by
  obtain ⟨⟨hl, h05, h33⟩, hL, hN, hPT, hF, hA, hTp, hO, hM, hH⟩ := id h
  obtain ⟨⟨a1, a2, a3, a4⟩, ⟨b1, b2, b3, b4, b5⟩, ⟨c1, c2, c3, c4, c5⟩, hTr, hCa, hAf, hPr, hDi⟩ := id hL
  obtain ⟨hPb, ⟨y1, y2, y3⟩, hhi, hPp⟩ := id hPT
  obtain ⟨e1, e2, e3, e4, e5, e6, e7, e8⟩ := hTr t ht
  refine TT.steps (cd := cd188) 2 (c' := (2, [(2, 0), (0, ((t : Nat) : Int)), (0, ((w0 : Nat) : Int))], [(0, ((t : Nat) : Int)), (2, 0)], σ)) rfl rfl ?_
  refine TT.call (cd := cd188) rfl rfl rfl (by decide) rfl (w_isTrain X hl ((t : Nat) : Int) σ h05) (fun r1 σ1 hq => ?_)
  rw [hq.1, hq.2, a2, if_pos ⟨by omega, by omega⟩]
  refine TT.steps (cd := cd188) 3 (c' := ((swOf [(0, 8), (1, 14), (2, 20)] 26 ((w0 : Nat) : Int)), [(2, 0), (0, ((t : Nat) : Int)), (0, ((w0 : Nat) : Int))], [], σ)) rfl rfl ?_
  refine TT.swc (fun h2 => ?_) (fun h2 => ?_)
  · refine TT.steps (cd := cd188) 2 (c' := (10, [(2, 0), (0, ((t : Nat) : Int)), (0, ((w0 : Nat) : Int))], [(2, (σ 0 5))], σ)) rfl rfl ?_
    refine TT.top0 (z := 170) h05 ?_
    refine TT.steps (cd := cd188) 2 (c' := (12, [(2, 0), (0, ((t : Nat) : Int)), (0, ((w0 : Nat) : Int))], [(0, ((t : Nat) : Int)), (2, 175)], σ)) rfl rfl ?_
    refine TT.aldN (cd := cd188) (175) (t) rfl rfl rfl rfl (show t < 6 by omega) ?_
    refine TT.top0 (z := (ρ 302 (6 * b + t))) e5 ?_
    refine TT.ret (cd := cd188) rfl rfl rfl rfl ⟨?_, rfl⟩
    rw [if_neg (by omega), if_neg (by omega)]
    simp only [show w0 = 0 by omega]
    first | rfl | (simp; done)
  refine TT.swc (fun h3 => ?_) (fun h3 => ?_)
  · refine TT.steps (cd := cd188) 2 (c' := (16, [(2, 0), (0, ((t : Nat) : Int)), (0, ((w0 : Nat) : Int))], [(2, (σ 0 5))], σ)) rfl rfl ?_
    refine TT.top0 (z := 170) h05 ?_
    refine TT.steps (cd := cd188) 2 (c' := (18, [(2, 0), (0, ((t : Nat) : Int)), (0, ((w0 : Nat) : Int))], [(0, ((t : Nat) : Int)), (2, 176)], σ)) rfl rfl ?_
    refine TT.aldN (cd := cd188) (176) (t) rfl rfl rfl rfl (show t < 6 by omega) ?_
    refine TT.top0 (z := (ρ 303 (6 * b + t))) e8 ?_
    refine TT.ret (cd := cd188) rfl rfl rfl rfl ⟨?_, rfl⟩
    rw [if_neg (by omega), if_neg (by omega)]
    simp only [show w0 = 1 by omega]
    first | rfl | (simp; done)
  refine TT.swc (fun h4 => ?_) (fun h4 => ?_)
  · refine TT.steps (cd := cd188) 2 (c' := (22, [(2, 0), (0, ((t : Nat) : Int)), (0, ((w0 : Nat) : Int))], [(2, (σ 0 5))], σ)) rfl rfl ?_
    refine TT.top0 (z := 170) h05 ?_
    refine TT.steps (cd := cd188) 2 (c' := (24, [(2, 0), (0, ((t : Nat) : Int)), (0, ((w0 : Nat) : Int))], [(0, ((t : Nat) : Int)), (2, 177)], σ)) rfl rfl ?_
    refine TT.aldN (cd := cd188) (177) (t) rfl rfl rfl rfl (show t < 6 by omega) ?_
    refine TT.top0 (z := (((L t) : Nat) : Int)) e1 ?_
    refine TT.ret (cd := cd188) rfl rfl rfl rfl ⟨?_, rfl⟩
    rw [if_neg (by omega), if_neg (by omega)]
    simp only [show w0 = 2 by omega]
    first | rfl | (simp; done)
  show TT X 188 (26, [(2, 0), (0, ((t : Nat) : Int)), (0, ((w0 : Nat) : Int))], [], σ) _
  refine TT.steps (cd := cd188) 3 (c' := ((if decide (((w0 : Nat) : Int) < 10) = true then 46 else 29), [(2, 0), (0, ((t : Nat) : Int)), (0, ((w0 : Nat) : Int))], [], σ)) rfl rfl ?_
  refine TT.br (p := ((w0 : Nat) : Int) < 10) (fun h5 => ?_) (fun h5 => ?_)
  · refine TT.steps (cd := cd188) 3 (c' := ((if decide (((w0 : Nat) : Int) < 21) = true then 66 else 49), [(2, 0), (0, ((t : Nat) : Int)), (0, ((w0 : Nat) : Int))], [], σ)) rfl rfl ?_
    refine TT.br (p := ((w0 : Nat) : Int) < 21) (fun h6 => ?_) (fun h6 => ?_)
    · refine TT.steps (cd := cd188) 1 (c' := (67, [(2, 0), (0, ((t : Nat) : Int)), (0, ((w0 : Nat) : Int))], [(0, -1)], σ)) rfl rfl ?_
      refine TT.ret (cd := cd188) rfl rfl rfl rfl ⟨?_, rfl⟩
      rw [if_neg (by omega), if_neg (by omega), if_neg (by omega), if_neg (by omega), if_neg (by omega)]
    · refine TT.steps (cd := cd188) 5 (c' := (54, [(2, 0), (0, ((t : Nat) : Int)), (0, ((w0 : Nat) : Int))], [(0, (aSub ((w0 : Nat) : Int) 20)), (0, ((t : Nat) : Int)), (2, 0)], σ)) rfl rfl ?_
      refine TT.top0 (z := ((w0 : Int) - 20)) (aSub_of (by omega) (by omega)) ?_
      refine TT.call (cd := cd188) rfl rfl rfl (by decide) rfl (w_isCall X hl t ((w0 : Int) - 20) σ h05 nt a2 c2 ht) (fun r7 σ7 hq => ?_)
      rw [hq.1, hq.2, (hTr t ht).1]
      refine TT.steps (cd := cd188) 1 (c' := ((if decide (((if 0 ≤ ((w0 : Int) - 20) ∧ ((w0 : Int) - 20) < (L t : Int) then 1 else 0) : Int) = 0) = true then 66 else 56), [(2, 0), (0, ((t : Nat) : Int)), (0, ((w0 : Nat) : Int))], [], σ)) rfl rfl ?_
      refine TT.br (p := ((if 0 ≤ ((w0 : Int) - 20) ∧ ((w0 : Int) - 20) < (L t : Int) then 1 else 0) : Int) = 0) (fun h8 => ?_) (fun h8 => ?_)
      · replace h8 := ite_f h8
        refine TT.steps (cd := cd188) 1 (c' := (67, [(2, 0), (0, ((t : Nat) : Int)), (0, ((w0 : Nat) : Int))], [(0, -1)], σ)) rfl rfl ?_
        refine TT.ret (cd := cd188) rfl rfl rfl rfl ⟨?_, rfl⟩
        rw [if_neg (by omega), if_neg (by omega), if_neg (by omega), if_neg (by omega), if_neg (by omega)]
      · replace h8 := ite_t h8
        refine TT.steps (cd := cd188) 2 (c' := (58, [(2, 0), (0, ((t : Nat) : Int)), (0, ((w0 : Nat) : Int))], [(2, (σ 0 5))], σ)) rfl rfl ?_
        refine TT.top0 (z := 170) h05 ?_
        refine TT.steps (cd := cd188) 2 (c' := (60, [(2, 0), (0, ((t : Nat) : Int)), (0, ((w0 : Nat) : Int))], [(0, ((t : Nat) : Int)), (2, 185)], σ)) rfl rfl ?_
        refine TT.aaldN (cd := cd188) 185 (t) (186 + t) rfl rfl rfl (Or.inr rfl) (show t < 6 by omega) (fxg_185 t (by omega)) ?_
        refine TT.steps (cd := cd188) 3 (c' := (64, [(2, 0), (0, ((t : Nat) : Int)), (0, ((w0 : Nat) : Int))], [(0, (aSub ((w0 : Nat) : Int) 20)), (2, ((186 + t : Nat) : Int))], σ)) rfl rfl ?_
        refine TT.top0 (z := ((w0 - 20 : Nat) : Int)) (aSub_n (a := w0) (b := 20) (by omega) (by omega)) ?_
        refine TT.aldN (cd := cd188) (186 + t) (w0 - 20) rfl rfl rfl (kdg_185 t (by omega)).1 (show w0 - 20 < ln (186 + t) by rw [(kdg_185 t (by omega)).2]; omega) ?_
        refine TT.ret (cd := cd188) rfl rfl rfl rfl ⟨?_, rfl⟩
        rw [if_neg (by omega), if_pos (by omega), show w0 - 20 = (w0 - 21) + 1 by omega, (hAf t (w0 - 21) ht (by omega)).1]
  · refine TT.steps (cd := cd188) 5 (c' := (34, [(2, 0), (0, ((t : Nat) : Int)), (0, ((w0 : Nat) : Int))], [(0, (aSub ((w0 : Nat) : Int) 10)), (0, ((t : Nat) : Int)), (2, 0)], σ)) rfl rfl ?_
    refine TT.top0 (z := ((w0 : Int) - 10)) (aSub_of (by omega) (by omega)) ?_
    refine TT.call (cd := cd188) rfl rfl rfl (by decide) rfl (w_isCall X hl t ((w0 : Int) - 10) σ h05 nt a2 c2 ht) (fun r9 σ9 hq => ?_)
    rw [hq.1, hq.2, (hTr t ht).1]
    refine TT.steps (cd := cd188) 1 (c' := ((if decide (((if 0 ≤ ((w0 : Int) - 10) ∧ ((w0 : Int) - 10) < (L t : Int) then 1 else 0) : Int) = 0) = true then 46 else 36), [(2, 0), (0, ((t : Nat) : Int)), (0, ((w0 : Nat) : Int))], [], σ)) rfl rfl ?_
    refine TT.br (p := ((if 0 ≤ ((w0 : Int) - 10) ∧ ((w0 : Int) - 10) < (L t : Int) then 1 else 0) : Int) = 0) (fun h10 => ?_) (fun h10 => ?_)
    · replace h10 := ite_f h10
      refine TT.steps (cd := cd188) 3 (c' := ((if decide (((w0 : Nat) : Int) < 21) = true then 66 else 49), [(2, 0), (0, ((t : Nat) : Int)), (0, ((w0 : Nat) : Int))], [], σ)) rfl rfl ?_
      refine TT.br (p := ((w0 : Nat) : Int) < 21) (fun h11 => ?_) (fun h11 => ?_)
      · refine TT.steps (cd := cd188) 1 (c' := (67, [(2, 0), (0, ((t : Nat) : Int)), (0, ((w0 : Nat) : Int))], [(0, -1)], σ)) rfl rfl ?_
        refine TT.ret (cd := cd188) rfl rfl rfl rfl ⟨?_, rfl⟩
        rw [if_neg (by omega), if_neg (by omega), if_neg (by omega), if_neg (by omega), if_neg (by omega)]
      · refine TT.steps (cd := cd188) 5 (c' := (54, [(2, 0), (0, ((t : Nat) : Int)), (0, ((w0 : Nat) : Int))], [(0, (aSub ((w0 : Nat) : Int) 20)), (0, ((t : Nat) : Int)), (2, 0)], σ)) rfl rfl ?_
        refine TT.top0 (z := ((w0 : Int) - 20)) (aSub_of (by omega) (by omega)) ?_
        refine TT.call (cd := cd188) rfl rfl rfl (by decide) rfl (w_isCall X hl t ((w0 : Int) - 20) σ h05 nt a2 c2 ht) (fun r12 σ12 hq => ?_)
        rw [hq.1, hq.2, (hTr t ht).1]
        refine TT.steps (cd := cd188) 1 (c' := ((if decide (((if 0 ≤ ((w0 : Int) - 20) ∧ ((w0 : Int) - 20) < (L t : Int) then 1 else 0) : Int) = 0) = true then 66 else 56), [(2, 0), (0, ((t : Nat) : Int)), (0, ((w0 : Nat) : Int))], [], σ)) rfl rfl ?_
        refine TT.br (p := ((if 0 ≤ ((w0 : Int) - 20) ∧ ((w0 : Int) - 20) < (L t : Int) then 1 else 0) : Int) = 0) (fun h13 => ?_) (fun h13 => ?_)
        · replace h13 := ite_f h13
          refine TT.steps (cd := cd188) 1 (c' := (67, [(2, 0), (0, ((t : Nat) : Int)), (0, ((w0 : Nat) : Int))], [(0, -1)], σ)) rfl rfl ?_
          refine TT.ret (cd := cd188) rfl rfl rfl rfl ⟨?_, rfl⟩
          rw [if_neg (by omega), if_neg (by omega), if_neg (by omega), if_neg (by omega), if_neg (by omega)]
        · replace h13 := ite_t h13
          refine TT.steps (cd := cd188) 2 (c' := (58, [(2, 0), (0, ((t : Nat) : Int)), (0, ((w0 : Nat) : Int))], [(2, (σ 0 5))], σ)) rfl rfl ?_
          refine TT.top0 (z := 170) h05 ?_
          refine TT.steps (cd := cd188) 2 (c' := (60, [(2, 0), (0, ((t : Nat) : Int)), (0, ((w0 : Nat) : Int))], [(0, ((t : Nat) : Int)), (2, 185)], σ)) rfl rfl ?_
          refine TT.aaldN (cd := cd188) 185 (t) (186 + t) rfl rfl rfl (Or.inr rfl) (show t < 6 by omega) (fxg_185 t (by omega)) ?_
          refine TT.steps (cd := cd188) 3 (c' := (64, [(2, 0), (0, ((t : Nat) : Int)), (0, ((w0 : Nat) : Int))], [(0, (aSub ((w0 : Nat) : Int) 20)), (2, ((186 + t : Nat) : Int))], σ)) rfl rfl ?_
          refine TT.top0 (z := ((w0 - 20 : Nat) : Int)) (aSub_n (a := w0) (b := 20) (by omega) (by omega)) ?_
          refine TT.aldN (cd := cd188) (186 + t) (w0 - 20) rfl rfl rfl (kdg_185 t (by omega)).1 (show w0 - 20 < ln (186 + t) by rw [(kdg_185 t (by omega)).2]; omega) ?_
          refine TT.ret (cd := cd188) rfl rfl rfl rfl ⟨?_, rfl⟩
          rw [if_neg (by omega), if_pos (by omega), show w0 - 20 = (w0 - 21) + 1 by omega, (hAf t (w0 - 21) ht (by omega)).1]
    · replace h10 := ite_t h10
      refine TT.steps (cd := cd188) 2 (c' := (38, [(2, 0), (0, ((t : Nat) : Int)), (0, ((w0 : Nat) : Int))], [(2, (σ 0 5))], σ)) rfl rfl ?_
      refine TT.top0 (z := 170) h05 ?_
      refine TT.steps (cd := cd188) 2 (c' := (40, [(2, 0), (0, ((t : Nat) : Int)), (0, ((w0 : Nat) : Int))], [(0, ((t : Nat) : Int)), (2, 178)], σ)) rfl rfl ?_
      refine TT.aaldN (cd := cd188) 178 (t) (179 + t) rfl rfl rfl (Or.inr rfl) (show t < 6 by omega) (fxg_178 t (by omega)) ?_
      refine TT.steps (cd := cd188) 3 (c' := (44, [(2, 0), (0, ((t : Nat) : Int)), (0, ((w0 : Nat) : Int))], [(0, (aSub ((w0 : Nat) : Int) 10)), (2, ((179 + t : Nat) : Int))], σ)) rfl rfl ?_
      refine TT.top0 (z := ((w0 - 10 : Nat) : Int)) (aSub_n (a := w0) (b := 10) (by omega) (by omega)) ?_
      refine TT.aldN (cd := cd188) (179 + t) (w0 - 10) rfl rfl rfl (kdg_178 t (by omega)).1 (show w0 - 10 < ln (179 + t) by rw [(kdg_178 t (by omega)).2]; omega) ?_
      refine TT.ret (cd := cd188) rfl rfl rfl rfl ⟨?_, rfl⟩
      rw [if_pos (by omega), (hCa t (w0 - 10) ht (by omega)).1, (hCa t (w0 - 10) ht (by omega)).2.1]
theorem K_train1 (X : AX) {l : Nat} {σ ρ : AH} {b np nt ns : Nat} {L : Nat → Nat} {C : Nat → Nat → Nat} {w tp u tl oc : Nat} (h : IV σ ρ l b np nt ns L C w tp u tl oc) (t w0 : Nat) (hw0 : w0 < 2147483648) (ht : t < nt)  : TT X 188 (0, [(2, 0), (0, ((t : Nat) : Int)), (0, ((w0 : Nat) : Int))], [], σ) (fun r σ' => r = some (0, if 10 ≤ w0 ∧ w0 ≤ 9 + L t then ρ 305 (8 * (6 * b + t) + (w0 - 10)) else if 21 ≤ w0 ∧ w0 ≤ 19 + L t then ρ 306 (8 * (6 * b + t) + (w0 - 20)) else if w0 = 0 then ρ 302 (6 * b + t) else if w0 = 1 then ρ 303 (6 * b + t) else if w0 = 2 then ((L t : Nat) : Int) else -1) ∧ σ' = σ) := by
  rcases h.1.1 with rfl | rfl
  · exact K_train1_8 X h t w0 hw0 ht
  · exact K_train1_170 X h t w0 hw0 ht
