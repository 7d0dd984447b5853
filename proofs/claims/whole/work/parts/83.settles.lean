/-! Settles and runs of the class. -/
theorem mStl_c (σ : AH) (n : Nat) : (mStl σ n).1 = (if anyN (fun p => decide (¬ σ 320 (10 + p) = σ 334 p)) n = true then 0 else 1) ∧ (∀ p, p < n → (mStl σ n).2 320 (10 + p) = σ 334 p) ∧ (∀ K j, ¬ (K = 320 ∧ 10 ≤ j ∧ j < 10 + n) → (mStl σ n).2 K j = σ K j) := by
  induction n with
  | zero => exact ⟨rfl, fun p hp => by omega, fun _ _ _ => rfl⟩
  | succ n ih =>
    obtain ⟨i1, i2, i3⟩ := ih
    rw [mStl]
    refine ⟨?_, fun p hp => ?_, fun K j hK => ?_⟩
    · dsimp only
      rw [i1, i3 320 (10 + n) (by omega), anyN]
      by_cases g : anyN (fun p => decide (¬ σ 320 (10 + p) = σ 334 p)) n = true
      · simp [g]
      · by_cases e : σ 320 (10 + n) = σ 334 n
        · simp [g, e]
        · simp [g, e]
    · dsimp only
      by_cases e : p = n
      · subst e; rw [up2_hit]
      · rw [up2_by _ _ _ (by omega)]; exact i2 p (by omega)
    · dsimp only
      rw [up2_nq _ (by omega)]; exact i3 K j (by omega)
theorem RS_stl (ρ : AH) {np : Nat} (h : np ≤ 10) : RS ρ (mStl ρ np).2 := by
  obtain ⟨-, -, i3⟩ := mStl_c ρ np
  exact ⟨fun K j hK => i3 K j (by omega), fun j hj => i3 _ j (by omega), fun j hj => i3 _ j (by omega), fun K j hK hj => i3 K j (by omega)⟩
/-- the class's spare people beside the reference's tried ones -/
def SE (σ ρ τ ρi : AH) (l b np nt ns : Nat) (L : Nat → Nat) (C : Nat → Nat → Nat) : Prop := WK τ ρi l b 42 1 np nt ns L C ∧ QS σ τ ∧ RS ρ ρi
theorem SE_day {σ ρ τ ρi σ1 υ : AH} {l b np nt ns : Nat} {L : Nat → Nat} {C : Nat → Nat → Nat} (hl : l = 8 ∨ l = 170) (h : SE σ ρ τ ρi l b np nt ns L C) (hDD : DD τ σ1 ρi b 1 np nt ns L C) (hP2 : PD σ1 υ 42 np) (hFr : ∀ K j, (K < 198 ∨ 254 < K) → σ1 K j = τ K j) (hPT1 : PT σ1 ρi 42 1 np ns) : SE σ ρ υ (mStl (mDay ρi b 1 np nt L) np).2 l b np nt ns L C ∧ (if anyN (fun p => decide (¬ σ1 46 p = σ1 247 p)) np = true then (1 : Int) else 0) = (if (mStl (mDay ρi b 1 np nt L) np).1 = 0 then 1 else 0) := by
  obtain ⟨hw, hQ, hR⟩ := h
  have hn := hw.2.1.2.2.1.1
  have hR2 : RS ρi (mStl (mDay ρi b 1 np nt L) np).2 := (RS_day _ _ _ _ _ _).trans (RS_stl _ hn)
  obtain ⟨m1, m2, m3⟩ := mStl_c (mDay ρi b 1 np nt L) np
  have hQ1 : QS τ υ := fun K j hK => (hP2.1 K j (by omega)).trans (hFr K j (by omega))
  have hpt : PT υ (mStl (mDay ρi b 1 np nt L) np).2 42 1 np ns := PT_day hn hPT1 hDD hP2 (fun K j a1 a2 a3 => (m3 K j (by omega)).trans (mDay_fr _ _ _ _ _ _ _ _ (by omega))) (fun p hp => m2 p hp)
  refine ⟨⟨⟨(hQ1 _ _ (by omega)).trans hw.1, LT_q hl hw.2.1 hQ1 hR2, hpt, FL_q hw.2.2.2.1 hR2, ?_⟩, hQ.trans hQ1, hR.trans hR2⟩, ?_⟩
  · rw [hQ1 _ _ (by omega), hR2.2.1 43 (by decide)]; exact hw.2.2.2.2
  · rw [m1]
    have e : anyN (fun p => decide (¬ σ1 46 p = σ1 247 p)) np = anyN (fun p => decide (¬ mDay ρi b 1 np nt L 320 (10 + p) = mDay ρi b 1 np nt L 334 p)) np := by
      apply anyN_c
      intro p hp
      obtain ⟨-, -, ⟨s1, -, e1, e2⟩, -⟩ := hPT1.1.2 p hp
      obtain ⟨⟨n1, -, hE⟩, -, -⟩ := hDD
      rw [mDay_fr _ _ _ _ _ _ 320 _ (by omega), show 10 + p = 10 * 1 + p by omega, e2, (hE.2.2.2.1 p hp).2.2.1, show σ1 46 p = (s1 : Int) from e1]
    rw [e]
    by_cases g : anyN (fun p => decide (¬ mDay ρi b 1 np nt L 320 (10 + p) = mDay ρi b 1 np nt L 334 p)) np = true
    · simp [g]
    · simp [g]
theorem ryF_E (b np nt : Nat) (L : Nat → Nat) (hn : np ≤ 10) : ∀ (d : Nat) (a : Nat) (ρ : AH) (yr k : Nat), ρ 316 1 = (yr : Int) → k ≤ d → yr + k ≤ 9999 → (k = d ∨ yr + k = 9999) → a + 10 * d ≤ 1000000 → ryF b np nt L d ((a : Int), ρ) = (((a + (yrE ρ b 1 np nt L k).1 : Nat) : Int), (yrE ρ b 1 np nt L k).2) := by
  have shift : ∀ (k : Nat) (ρ : AH), yrE ρ b 1 np nt L (k + 1) = ((mYear ρ b 1 np nt L).1 + (yrE (mYear ρ b 1 np nt L).2 b 1 np nt L k).1, (yrE (mYear ρ b 1 np nt L).2 b 1 np nt L k).2) := by
    intro k
    induction k with
    | zero => intro ρ; rw [yrE, yrE, yrE]; dsimp only; rw [Nat.zero_add, Nat.add_zero]
    | succ k ih => intro ρ; rw [yrE, ih ρ, yrE]; dsimp only; rw [Nat.add_assoc]
  intro d
  induction d with
  | zero =>
    intro a ρ yr k h1 h2 h3 h4 h5
    have : k = 0 := by omega
    subst this
    rfl
  | succ d ih =>
    intro a ρ yr k h1 h2 h3 h4 h5
    rw [ryF]
    dsimp only
    by_cases e : k = 0
    · subst e
      rw [if_neg (by omega)]
      rfl
    · obtain ⟨k', rfl⟩ : ∃ k', k = k' + 1 := ⟨k - 1, by omega⟩
      have hm := mYear_le ρ b 1 np nt L
      have hy : (mYear ρ b 1 np nt L).2 316 1 = ((yr + 1 : Nat) : Int) := by
        unfold mYear
        dsimp only
        rw [up2_hit, h1, aAdd_of (by omega) (by omega)]; omega
      rw [if_pos (by omega), aAdd_of (by omega) (by omega), show (a : Int) + (((mYear ρ b 1 np nt L).1 : Nat) : Int) = ((a + (mYear ρ b 1 np nt L).1 : Nat) : Int) by omega, ih _ _ (yr + 1) k' hy (by omega) (by omega) (by omega) (by omega), shift]
      dsimp only
      rw [Nat.add_assoc]
theorem ul_cel (X : AX) (Q : Option AV → AH → Prop) (np : Nat) (σ : AH) (hc : σ 36 0 = (np : Int)) (hnp2 : np ≤ 10)  (kk : TT X 166 (25, [(2, 36), (2, 42), (0, ((cnt (fun p => decide (¬ σ 40 p = σ 46 p)) np : Nat) : Int)), (0, ((np : Nat) : Int))], [], σ) Q) : ∀ (d n : Nat), n + d = np → TT X 166 (4, [(2, 36), (2, 42), (0, ((cnt (fun p => decide (¬ σ 40 p = σ 46 p)) n : Nat) : Int)), (0, ((n : Nat) : Int))], [], σ) Q := by
  intro d
  induction d with
  | zero =>
    intro n hn
    have hnn : n = np := by omega
    rw [hnn]
    refine TT.steps (cd := cd166) 3 (c' := (7, [(2, 36), (2, 42), (0, ((cnt (fun p => decide (¬ σ 40 p = σ 46 p)) np : Nat) : Int)), (0, ((np : Nat) : Int))], [(0, (σ 36 0)), (0, ((np : Nat) : Int))], σ)) rfl rfl ?_
    refine TT.top0 (z := ((np : Nat) : Int)) hc ?_
    refine TT.steps (cd := cd166) 1 (c' := ((if decide (((np : Nat) : Int) ≤ ((np : Nat) : Int)) = true then 25 else 8), [(2, 36), (2, 42), (0, ((cnt (fun p => decide (¬ σ 40 p = σ 46 p)) np : Nat) : Int)), (0, ((np : Nat) : Int))], [], σ)) rfl rfl ?_
    refine TT.br (p := ((np : Nat) : Int) ≤ ((np : Nat) : Int)) (fun h1 => ?_) (fun h1 => absurd (show ((np : Nat) : Int) ≤ ((np : Nat) : Int) by omega) h1)
    exact kk
  | succ d ih =>
    intro n hn
    refine TT.steps (cd := cd166) 3 (c' := (7, [(2, 36), (2, 42), (0, ((cnt (fun p => decide (¬ σ 40 p = σ 46 p)) n : Nat) : Int)), (0, ((n : Nat) : Int))], [(0, (σ 36 0)), (0, ((n : Nat) : Int))], σ)) rfl rfl ?_
    refine TT.top0 (z := ((np : Nat) : Int)) hc ?_
    refine TT.steps (cd := cd166) 1 (c' := ((if decide (((np : Nat) : Int) ≤ ((n : Nat) : Int)) = true then 25 else 8), [(2, 36), (2, 42), (0, ((cnt (fun p => decide (¬ σ 40 p = σ 46 p)) n : Nat) : Int)), (0, ((n : Nat) : Int))], [], σ)) rfl rfl ?_
    refine TT.br (p := ((np : Nat) : Int) ≤ ((n : Nat) : Int)) (fun h1 => absurd h1 (show ¬ (((np : Nat) : Int) ≤ ((n : Nat) : Int)) by omega)) (fun h1 => ?_)
    refine TT.steps (cd := cd166) 4 (c' := (12, [(2, 36), (2, 42), (0, ((cnt (fun p => decide (¬ σ 40 p = σ 46 p)) n : Nat) : Int)), (0, ((n : Nat) : Int))], [(0, ((n : Nat) : Int)), (2, 40), (0, ((cnt (fun p => decide (¬ σ 40 p = σ 46 p)) n : Nat) : Int))], σ)) rfl rfl ?_
    refine TT.aldN (cd := cd166) (40) (n) rfl rfl rfl rfl (show n < 10 by omega) ?_
    refine TT.steps (cd := cd166) 3 (c' := (16, [(2, 36), (2, 42), (0, ((cnt (fun p => decide (¬ σ 40 p = σ 46 p)) n : Nat) : Int)), (0, ((n : Nat) : Int))], [(0, ((n : Nat) : Int)), (2, 46), (0, (σ 40 n)), (0, ((cnt (fun p => decide (¬ σ 40 p = σ 46 p)) n : Nat) : Int))], σ)) rfl rfl ?_
    refine TT.aldN (cd := cd166) (46) (n) rfl rfl rfl rfl (show n < 10 by omega) ?_
    refine TT.steps (cd := cd166) 1 (c' := ((if decide ((σ 40 n) = (σ 46 n)) = true then 20 else 18), [(2, 36), (2, 42), (0, ((cnt (fun p => decide (¬ σ 40 p = σ 46 p)) n : Nat) : Int)), (0, ((n : Nat) : Int))], [(0, ((cnt (fun p => decide (¬ σ 40 p = σ 46 p)) n : Nat) : Int))], σ)) rfl rfl ?_
    refine TT.br (p := (σ 40 n) = (σ 46 n)) (fun h2 => ?_) (fun h2 => ?_)
    · refine TT.steps (cd := cd166) 2 (c' := (22, [(2, 36), (2, 42), (0, ((cnt (fun p => decide (¬ σ 40 p = σ 46 p)) n : Nat) : Int)), (0, ((n : Nat) : Int))], [(0, (aAdd ((cnt (fun p => decide (¬ σ 40 p = σ 46 p)) n : Nat) : Int) 0))], σ)) rfl rfl ?_
      refine TT.steps (cd := cd166) 1 (c' := (23, [(2, 36), (2, 42), (0, (aAdd ((cnt (fun p => decide (¬ σ 40 p = σ 46 p)) n : Nat) : Int) 0)), (0, ((n : Nat) : Int))], [], σ)) rfl rfl ?_
      refine TT.inc (cd := cd166) ((n + 1 : Nat) : Int) rfl rfl rfl rfl (fun h => absurd h.2 (show ¬ (0 = 1) by decide)) (aAdd_n (a := n) (b := 1) (by omega)) (ls' := [(2, 36), (2, 42), (0, (aAdd ((cnt (fun p => decide (¬ σ 40 p = σ 46 p)) n : Nat) : Int) 0)), (0, ((n + 1 : Nat) : Int))]) rfl ?_
      refine TT.steps (cd := cd166) 1 (c' := (4, [(2, 36), (2, 42), (0, (aAdd ((cnt (fun p => decide (¬ σ 40 p = σ 46 p)) n : Nat) : Int) 0)), (0, ((n + 1 : Nat) : Int))], [], σ)) rfl rfl ?_
      have e2 : (aAdd ((cnt (fun p => decide (¬ σ 40 p = σ 46 p)) n : Nat) : Int) 0) = ((cnt (fun p => decide (¬ σ 40 p = σ 46 p)) (n + 1) : Nat) : Int) := by first | exact cnt_t (decide_eq_true (by omega)) (by omega) | exact cnt_z (decide_eq_false (by omega)) (by omega)
      rw [e2]
      clear e2
      have e3 : ((n + 1 : Nat) : Int) = (((n + 1) : Nat) : Int) := by omega
      rw [e3]
      clear e3
      exact ih (n + 1) (by omega)
    · refine TT.steps (cd := cd166) 3 (c' := (22, [(2, 36), (2, 42), (0, ((cnt (fun p => decide (¬ σ 40 p = σ 46 p)) n : Nat) : Int)), (0, ((n : Nat) : Int))], [(0, (aAdd ((cnt (fun p => decide (¬ σ 40 p = σ 46 p)) n : Nat) : Int) 1))], σ)) rfl rfl ?_
      refine TT.steps (cd := cd166) 1 (c' := (23, [(2, 36), (2, 42), (0, (aAdd ((cnt (fun p => decide (¬ σ 40 p = σ 46 p)) n : Nat) : Int) 1)), (0, ((n : Nat) : Int))], [], σ)) rfl rfl ?_
      refine TT.inc (cd := cd166) ((n + 1 : Nat) : Int) rfl rfl rfl rfl (fun h => absurd h.2 (show ¬ (0 = 1) by decide)) (aAdd_n (a := n) (b := 1) (by omega)) (ls' := [(2, 36), (2, 42), (0, (aAdd ((cnt (fun p => decide (¬ σ 40 p = σ 46 p)) n : Nat) : Int) 1)), (0, ((n + 1 : Nat) : Int))]) rfl ?_
      refine TT.steps (cd := cd166) 1 (c' := (4, [(2, 36), (2, 42), (0, (aAdd ((cnt (fun p => decide (¬ σ 40 p = σ 46 p)) n : Nat) : Int) 1)), (0, ((n + 1 : Nat) : Int))], [], σ)) rfl rfl ?_
      have e2 : (aAdd ((cnt (fun p => decide (¬ σ 40 p = σ 46 p)) n : Nat) : Int) 1) = ((cnt (fun p => decide (¬ σ 40 p = σ 46 p)) (n + 1) : Nat) : Int) := by first | exact cnt_t (decide_eq_true (by omega)) (by omega) | exact cnt_z (decide_eq_false (by omega)) (by omega)
      rw [e2]
      clear e2
      have e3 : ((n + 1 : Nat) : Int) = (((n + 1) : Nat) : Int) := by omega
      rw [e3]
      clear e3
      exact ih (n + 1) (by omega)
theorem u_countElsewhere (X : AX) (np : Nat) (σ : AH) (hc : σ 36 0 = (np : Int)) (hnp2 : np ≤ 10)  : TT X 166 (0, [(2, 36), (2, 42), (9, 0), (9, 0)], [], σ) (fun r σ' => r = some (0, ((cnt (fun p => decide (¬ σ 40 p = σ 46 p)) np : Nat) : Int)) ∧ σ' = σ) := by
  refine TT.steps (cd := cd166) 4 (c' := (4, [(2, 36), (2, 42), (0, 0), (0, 0)], [], σ)) rfl rfl ?_
  refine ul_cel X _ np σ hc hnp2 ?_ np 0 (by omega)
  refine TT.steps (cd := cd166) 1 (c' := (26, [(2, 36), (2, 42), (0, ((cnt (fun p => decide (¬ σ 40 p = σ 46 p)) np : Nat) : Int)), (0, ((np : Nat) : Int))], [(0, ((cnt (fun p => decide (¬ σ 40 p = σ 46 p)) np : Nat) : Int))], σ)) rfl rfl ?_
  exact TT.ret (cd := cd166) rfl rfl rfl rfl (⟨rfl, rfl⟩)
theorem vl_set (X : AX) (Q : Option AV → AH → Prop) {l : Nat} (hl : l = 8 ∨ l = 170) {σ ρ : AH} {b np nt ns : Nat} {L : Nat → Nat} {C : Nat → Nat → Nat} (w0 : Int) (SF : Nat × Int × Int × Int × Int × AH) (kk : ∀ τ, SE σ ρ τ SF.2.2.2.2.2 l b np nt ns L C → (SF.2.2.2.2.1 = 0 ∨ SF.2.2.2.2.1 = 1) → TT X 213 (45, [(2, 0), (0, w0), (0, ((SF.1 : Nat) : Int)), (0, SF.2.2.2.1), (0, SF.2.1), (0, SF.2.2.1), (0, (if SF.2.2.2.2.1 = 0 then 1 else 0))], [], τ) Q) : ∀ (d : Nat) (S : Nat × Int × Int × Int × Int × AH) (τ : AH), seF b np nt L d S = SF → S.1 + d = 30 → SE σ ρ τ S.2.2.2.2.2 l b np nt ns L C → (S.2.2.2.2.1 = 0 ∨ S.2.2.2.2.1 = 1) → TT X 213 (22, [(2, 0), (0, w0), (0, ((S.1 : Nat) : Int)), (0, S.2.2.2.1), (0, S.2.1), (0, S.2.2.1), (0, (if S.2.2.2.2.1 = 0 then 1 else 0))], [], τ) Q := by
  intro d
  induction d with
  | zero =>
    intro S τ hS hn hE hs
    rw [seF] at hS
    subst hS
    rcases id hs with h0 | h0
    · refine TT.ls0 (ls' := [(2, 0), (0, w0), (0, ((S.1 : Nat) : Int)), (0, S.2.2.2.1), (0, S.2.1), (0, S.2.2.1), (0, 1)]) (by rw [if_pos h0]) ?_
      refine TT.steps (cd := cd213) 5 (c' := ((if decide (30 ≤ ((S.1 : Nat) : Int)) = true then 45 else 27), [(2, 0), (0, w0), (0, ((S.1 : Nat) : Int)), (0, S.2.2.2.1), (0, S.2.1), (0, S.2.2.1), (0, 1)], [], τ)) rfl rfl ?_
      refine TT.br (p := 30 ≤ ((S.1 : Nat) : Int)) (fun h1 => ?_) (fun h1 => absurd (show 30 ≤ ((S.1 : Nat) : Int) by omega) h1)
      refine TT.ls0 (ls' := [(2, 0), (0, w0), (0, ((S.1 : Nat) : Int)), (0, S.2.2.2.1), (0, S.2.1), (0, S.2.2.1), (0, (if S.2.2.2.2.1 = 0 then 1 else 0))]) (by rw [if_pos h0]) ?_
      exact kk _ hE hs
    · refine TT.ls0 (ls' := [(2, 0), (0, w0), (0, ((S.1 : Nat) : Int)), (0, S.2.2.2.1), (0, S.2.1), (0, S.2.2.1), (0, 0)]) (by rw [if_neg (show ¬ S.2.2.2.2.1 = 0 by omega)]) ?_
      refine TT.steps (cd := cd213) 2 (c' := (45, [(2, 0), (0, w0), (0, ((S.1 : Nat) : Int)), (0, S.2.2.2.1), (0, S.2.1), (0, S.2.2.1), (0, 0)], [], τ)) rfl rfl ?_
      refine TT.ls0 (ls' := [(2, 0), (0, w0), (0, ((S.1 : Nat) : Int)), (0, S.2.2.2.1), (0, S.2.1), (0, S.2.2.1), (0, (if S.2.2.2.2.1 = 0 then 1 else 0))]) (by rw [if_neg (show ¬ S.2.2.2.2.1 = 0 by omega)]) ?_
      exact kk _ hE hs
  | succ d ih =>
    intro S τ hS hn hE hs
    rw [seF] at hS
    rcases id hs with h0 | h0
    · refine TT.ls0 (ls' := [(2, 0), (0, w0), (0, ((S.1 : Nat) : Int)), (0, S.2.2.2.1), (0, S.2.1), (0, S.2.2.1), (0, 1)]) (by rw [if_pos h0]) ?_
      rw [if_pos h0] at hS
      refine TT.steps (cd := cd213) 5 (c' := ((if decide (30 ≤ ((S.1 : Nat) : Int)) = true then 45 else 27), [(2, 0), (0, w0), (0, ((S.1 : Nat) : Int)), (0, S.2.2.2.1), (0, S.2.1), (0, S.2.2.1), (0, 1)], [], τ)) rfl rfl ?_
      refine TT.br (p := 30 ≤ ((S.1 : Nat) : Int)) (fun h1 => absurd h1 (show ¬ (30 ≤ ((S.1 : Nat) : Int)) by omega)) (fun h1 => ?_)
      refine TT.steps (cd := cd213) 3 (c' := (30, [(2, 0), (0, w0), (0, ((S.1 : Nat) : Int)), (0, S.2.2.2.1), (0, S.2.1), (0, S.2.2.1), (0, 1)], [(2, 42), (2, 0)], τ)) rfl rfl ?_
      refine TT.call (cd := cd213) rfl rfl rfl (by decide) rfl (v_passDay_42 X hl hE.1) (fun r2 σ2 hq => ?_)
      obtain ⟨σ1, hPR1, hDD, hP2, hFr, hPT1, hr5⟩ := hq
      obtain ⟨hE2, hfl⟩ := SE_day hl hE hDD hP2 hFr hPT1
      rw [hr5, hfl]
      refine TT.steps (cd := cd213) 1 (c' := (32, [(2, 0), (0, w0), (0, ((S.1 : Nat) : Int)), (0, S.2.2.2.1), (0, S.2.1), (0, S.2.2.1), (0, (if (mStl (mDay S.2.2.2.2.2 b 1 np nt L) np).1 = 0 then 1 else 0))], [], σ2)) rfl rfl ?_
      refine TT.inc (cd := cd213) (((S.1) + 1 : Nat) : Int) rfl rfl rfl rfl (fun h => absurd h.2 (show ¬ (0 = 1) by decide)) (aAdd_n (a := S.1) (b := 1) (by omega)) (ls' := [(2, 0), (0, w0), (0, (((S.1) + 1 : Nat) : Int)), (0, S.2.2.2.1), (0, S.2.1), (0, S.2.2.1), (0, (if (mStl (mDay S.2.2.2.2.2 b 1 np nt L) np).1 = 0 then 1 else 0))]) rfl ?_
      refine TT.steps (cd := cd213) 2 (c' := (35, [(2, 0), (0, w0), (0, (((S.1) + 1 : Nat) : Int)), (0, S.2.2.2.1), (0, S.2.1), (0, S.2.2.1), (0, (if (mStl (mDay S.2.2.2.2.2 b 1 np nt L) np).1 = 0 then 1 else 0))], [(2, 198)], σ2)) rfl rfl ?_
      refine TT.call (cd := cd213) rfl rfl rfl (by decide) rfl (v_countGoodW X hl (Or.inr rfl) hDD hE.1.2.2.2.1.2.2 hPR1 (LT_mv hl hE.1.2.1 (fun K j hK => hFr K j (by omega)) (fun _ _ _ => rfl) rfl) hPT1.1 hP2.1) (fun r3 σ3 hq => ?_)
      rw [hq.1, hq.2]
      refine TT.steps (cd := cd213) 4 (c' := ((if decide ((mGood (mDay S.2.2.2.2.2 b 1 np nt L) 1 np) ≤ S.2.1) = true then 22 else 40), [(2, 0), (0, w0), (0, (((S.1) + 1 : Nat) : Int)), (0, (mGood (mDay S.2.2.2.2.2 b 1 np nt L) 1 np)), (0, S.2.1), (0, S.2.2.1), (0, (if (mStl (mDay S.2.2.2.2.2 b 1 np nt L) np).1 = 0 then 1 else 0))], [], σ2)) rfl rfl ?_
      refine TT.br (p := (mGood (mDay S.2.2.2.2.2 b 1 np nt L) 1 np) ≤ S.2.1) (fun h4 => ?_) (fun h4 => ?_)
      · have e1 : (seStep b np nt L S) = (S.1 + 1, S.2.1, S.2.2.1, (mGood (mDay S.2.2.2.2.2 b 1 np nt L) 1 np), (mStl (mDay S.2.2.2.2.2 b 1 np nt L) np).1, (mStl (mDay S.2.2.2.2.2 b 1 np nt L) np).2) := by unfold seStep; rw [if_neg (show ¬ S.2.1 < (mGood (mDay S.2.2.2.2.2 b 1 np nt L) 1 np) by omega), if_neg (show ¬ S.2.1 < (mGood (mDay S.2.2.2.2.2 b 1 np nt L) 1 np) by omega)]
        have hg := (mStl_c (mDay S.2.2.2.2.2 b 1 np nt L) np).1
        have h01 : (mStl (mDay S.2.2.2.2.2 b 1 np nt L) np).1 = 0 ∨ (mStl (mDay S.2.2.2.2.2 b 1 np nt L) np).1 = 1 := by rw [hg]; split <;> simp
        rw [e1] at hS
        exact ih _ _ hS (by dsimp only; omega) hE2 h01
      · refine TT.steps (cd := cd213) 5 (c' := (22, [(2, 0), (0, w0), (0, (((S.1) + 1 : Nat) : Int)), (0, (mGood (mDay S.2.2.2.2.2 b 1 np nt L) 1 np)), (0, (mGood (mDay S.2.2.2.2.2 b 1 np nt L) 1 np)), (0, (((S.1) + 1 : Nat) : Int)), (0, (if (mStl (mDay S.2.2.2.2.2 b 1 np nt L) np).1 = 0 then 1 else 0))], [], σ2)) rfl rfl ?_
        have e1 : (seStep b np nt L S) = (S.1 + 1, (mGood (mDay S.2.2.2.2.2 b 1 np nt L) 1 np), (((S.1) + 1 : Nat) : Int), (mGood (mDay S.2.2.2.2.2 b 1 np nt L) 1 np), (mStl (mDay S.2.2.2.2.2 b 1 np nt L) np).1, (mStl (mDay S.2.2.2.2.2 b 1 np nt L) np).2) := by unfold seStep; rw [if_pos (show S.2.1 < (mGood (mDay S.2.2.2.2.2 b 1 np nt L) 1 np) by omega), if_pos (show S.2.1 < (mGood (mDay S.2.2.2.2.2 b 1 np nt L) 1 np) by omega)]
        have hg := (mStl_c (mDay S.2.2.2.2.2 b 1 np nt L) np).1
        have h01 : (mStl (mDay S.2.2.2.2.2 b 1 np nt L) np).1 = 0 ∨ (mStl (mDay S.2.2.2.2.2 b 1 np nt L) np).1 = 1 := by rw [hg]; split <;> simp
        rw [e1] at hS
        exact ih _ _ hS (by dsimp only; omega) hE2 h01
    · refine TT.ls0 (ls' := [(2, 0), (0, w0), (0, ((S.1 : Nat) : Int)), (0, S.2.2.2.1), (0, S.2.1), (0, S.2.2.1), (0, 0)]) (by rw [if_neg (show ¬ S.2.2.2.2.1 = 0 by omega)]) ?_
      rw [if_neg (show ¬ S.2.2.2.2.1 = 0 by omega)] at hS
      subst hS
      refine TT.steps (cd := cd213) 2 (c' := (45, [(2, 0), (0, w0), (0, ((S.1 : Nat) : Int)), (0, S.2.2.2.1), (0, S.2.1), (0, S.2.2.1), (0, 0)], [], τ)) rfl rfl ?_
      refine TT.ls0 (ls' := [(2, 0), (0, w0), (0, ((S.1 : Nat) : Int)), (0, S.2.2.2.1), (0, S.2.1), (0, S.2.2.1), (0, (if S.2.2.2.2.1 = 0 then 1 else 0))]) (by rw [if_neg (show ¬ S.2.2.2.2.1 = 0 by omega)]) ?_
      exact kk _ hE hs
theorem K_settles1 (X : AX) {l : Nat} {σ ρ : AH} {b np nt ns : Nat} {L : Nat → Nat} {C : Nat → Nat → Nat} {w tp u tl oc : Nat} (h : IV σ ρ l b np nt ns L C w tp u tl oc) (w0 : Int) (hw0 : 0 ≤ w0 ∧ w0 ≤ 3)  : TT X 213 (0, [(2, 0), (0, w0), (9, 0), (9, 0), (9, 0), (9, 0), (9, 0)], [], σ) (fun r σ' => r = some (0, if w0 = 0 then (if (seF b np nt L 30 (0, -1, 0, 0, 0, (cpN ρ 1 0 10))).2.2.2.2.1 = 0 then 31 else (((seF b np nt L 30 (0, -1, 0, 0, 0, (cpN ρ 1 0 10))).1 : Nat) : Int)) else if w0 = 1 then (seF b np nt L 30 (0, -1, 0, 0, 0, (cpN ρ 1 0 10))).2.2.2.1 else if w0 = 2 then (sumA (fun p => if (seF b np nt L 30 (0, -1, 0, 0, 0, (cpN ρ 1 0 10))).2.2.2.2.2 320 (10 + p) = (seF b np nt L 30 (0, -1, 0, 0, 0, (cpN ρ 1 0 10))).2.2.2.2.2 320 p then 0 else 1) np) else (seF b np nt L 30 (0, -1, 0, 0, 0, (cpN ρ 1 0 10))).2.2.1) ∧ QS σ σ' ∧ RS ρ (seF b np nt L 30 (0, -1, 0, 0, 0, (cpN ρ 1 0 10))).2.2.2.2.2) := by
  obtain ⟨⟨hl, h05, h33⟩, hL, hN, hPT, hF, hA, hTp, hO, hM, hH⟩ := id h
  obtain ⟨⟨a1, a2, a3, a4⟩, ⟨b1, b2, b3, b4, b5⟩, ⟨c1, c2, c3, c4, c5⟩, hTr, hCa, hAf, hPr, hDi⟩ := id hL
  obtain ⟨hPb, ⟨y1, y2, y3⟩, hhi, hPp⟩ := id hPT
  refine TT.steps (cd := cd213) 2 (c' := ((if decide (w0 < 0) = true then 5 else 2), [(2, 0), (0, w0), (9, 0), (9, 0), (9, 0), (9, 0), (9, 0)], [], σ)) rfl rfl ?_
  refine TT.br (p := w0 < 0) (fun h1 => absurd h1 (show ¬ (w0 < 0) by omega)) (fun h1 => ?_)
  refine TT.steps (cd := cd213) 3 (c' := ((if decide (w0 ≤ 3) = true then 7 else 5), [(2, 0), (0, w0), (9, 0), (9, 0), (9, 0), (9, 0), (9, 0)], [], σ)) rfl rfl ?_
  refine TT.br (p := w0 ≤ 3) (fun h2 => ?_) (fun h2 => absurd (show w0 ≤ 3 by omega) h2)
  refine TT.steps (cd := cd213) 4 (c' := (11, [(2, 0), (0, w0), (9, 0), (9, 0), (9, 0), (9, 0), (9, 0)], [(2, 36), (2, 42)], σ)) rfl rfl ?_
  refine TT.call (cd := cd213) rfl rfl rfl (by decide) rfl (v_copy_42_36 X σ) (fun r3 σ3 hq => ?_)
  obtain ⟨rfl, hC⟩ := hq
  have hQ0 : QS σ σ3 := fun K j hK => hC.1 K j (by omega)
  have hE0 : SE σ ρ σ3 (cpN ρ 1 0 10) l b np nt ns L C := ⟨⟨(hQ0 _ _ (by omega)).trans h05, LT_q hl hL hQ0 (RS_cp ρ), PT_cp c1 hPT hC (cpN_l ρ 1 0).1 (cpN_l ρ 1 0).2, FL_q hF (RS_cp ρ), by rw [hQ0 _ _ (by omega), (RS_cp ρ).2.1 43 (by decide)]; exact hM.1⟩, hQ0, RS_cp ρ⟩
  refine TT.steps (cd := cd213) 10 (c' := (22, [(2, 0), (0, w0), (0, 0), (0, 0), (0, -1), (0, 0), (0, 1)], [], σ3)) rfl rfl ?_
  refine TT.ls0 (ls' := [(2, 0), (0, w0), (0, ((((0 : Nat) : Nat) : Nat) : Int)), (0, 0), (0, -1), (0, 0), (0, (if (0 : Int) = 0 then 1 else 0))]) rfl ?_
  refine vl_set X _ hl w0 (seF b np nt L 30 (0, -1, 0, 0, 0, (cpN ρ 1 0 10))) (fun τ hE hs => ?_) 30 (0, -1, 0, 0, 0, (cpN ρ 1 0 10)) σ3 rfl rfl hE0 (Or.inl rfl)
  refine TT.steps (cd := cd213) 2 (c' := ((swOf [(0, 47), (1, 53), (2, 55)] 61 w0), [(2, 0), (0, w0), (0, (((seF b np nt L 30 (0, -1, 0, 0, 0, (cpN ρ 1 0 10))).1 : Nat) : Int)), (0, (seF b np nt L 30 (0, -1, 0, 0, 0, (cpN ρ 1 0 10))).2.2.2.1), (0, (seF b np nt L 30 (0, -1, 0, 0, 0, (cpN ρ 1 0 10))).2.1), (0, (seF b np nt L 30 (0, -1, 0, 0, 0, (cpN ρ 1 0 10))).2.2.1), (0, (if (seF b np nt L 30 (0, -1, 0, 0, 0, (cpN ρ 1 0 10))).2.2.2.2.1 = 0 then 1 else 0))], [], τ)) rfl rfl ?_
  refine TT.swc (fun h4 => ?_) (fun h4 => ?_)
  · refine TT.steps (cd := cd213) 2 (c' := ((if decide (((if (seF b np nt L 30 (0, -1, 0, 0, 0, (cpN ρ 1 0 10))).2.2.2.2.1 = 0 then 1 else 0) : Int) = 0) = true then 51 else 49), [(2, 0), (0, w0), (0, (((seF b np nt L 30 (0, -1, 0, 0, 0, (cpN ρ 1 0 10))).1 : Nat) : Int)), (0, (seF b np nt L 30 (0, -1, 0, 0, 0, (cpN ρ 1 0 10))).2.2.2.1), (0, (seF b np nt L 30 (0, -1, 0, 0, 0, (cpN ρ 1 0 10))).2.1), (0, (seF b np nt L 30 (0, -1, 0, 0, 0, (cpN ρ 1 0 10))).2.2.1), (0, (if (seF b np nt L 30 (0, -1, 0, 0, 0, (cpN ρ 1 0 10))).2.2.2.2.1 = 0 then 1 else 0))], [], τ)) rfl rfl ?_
    refine TT.br (p := ((if (seF b np nt L 30 (0, -1, 0, 0, 0, (cpN ρ 1 0 10))).2.2.2.2.1 = 0 then 1 else 0) : Int) = 0) (fun h5 => ?_) (fun h5 => ?_)
    · replace h5 := ite_f h5
      refine TT.steps (cd := cd213) 1 (c' := (52, [(2, 0), (0, w0), (0, (((seF b np nt L 30 (0, -1, 0, 0, 0, (cpN ρ 1 0 10))).1 : Nat) : Int)), (0, (seF b np nt L 30 (0, -1, 0, 0, 0, (cpN ρ 1 0 10))).2.2.2.1), (0, (seF b np nt L 30 (0, -1, 0, 0, 0, (cpN ρ 1 0 10))).2.1), (0, (seF b np nt L 30 (0, -1, 0, 0, 0, (cpN ρ 1 0 10))).2.2.1), (0, (if (seF b np nt L 30 (0, -1, 0, 0, 0, (cpN ρ 1 0 10))).2.2.2.2.1 = 0 then 1 else 0))], [(0, (((seF b np nt L 30 (0, -1, 0, 0, 0, (cpN ρ 1 0 10))).1 : Nat) : Int))], τ)) rfl rfl ?_
      refine TT.ret (cd := cd213) rfl rfl rfl rfl ⟨?_, hE.2.1, hE.2.2⟩
      symm
      rw [if_pos (show w0 = 0 by omega)]
      first | rw [if_pos (by assumption)] | rw [if_neg (by assumption)]
    · replace h5 := ite_t h5
      refine TT.steps (cd := cd213) 2 (c' := (52, [(2, 0), (0, w0), (0, (((seF b np nt L 30 (0, -1, 0, 0, 0, (cpN ρ 1 0 10))).1 : Nat) : Int)), (0, (seF b np nt L 30 (0, -1, 0, 0, 0, (cpN ρ 1 0 10))).2.2.2.1), (0, (seF b np nt L 30 (0, -1, 0, 0, 0, (cpN ρ 1 0 10))).2.1), (0, (seF b np nt L 30 (0, -1, 0, 0, 0, (cpN ρ 1 0 10))).2.2.1), (0, (if (seF b np nt L 30 (0, -1, 0, 0, 0, (cpN ρ 1 0 10))).2.2.2.2.1 = 0 then 1 else 0))], [(0, 31)], τ)) rfl rfl ?_
      refine TT.ret (cd := cd213) rfl rfl rfl rfl ⟨?_, hE.2.1, hE.2.2⟩
      symm
      rw [if_pos (show w0 = 0 by omega)]
      first | rw [if_pos (by assumption)] | rw [if_neg (by assumption)]
  refine TT.swc (fun h6 => ?_) (fun h6 => ?_)
  · refine TT.steps (cd := cd213) 1 (c' := (54, [(2, 0), (0, w0), (0, (((seF b np nt L 30 (0, -1, 0, 0, 0, (cpN ρ 1 0 10))).1 : Nat) : Int)), (0, (seF b np nt L 30 (0, -1, 0, 0, 0, (cpN ρ 1 0 10))).2.2.2.1), (0, (seF b np nt L 30 (0, -1, 0, 0, 0, (cpN ρ 1 0 10))).2.1), (0, (seF b np nt L 30 (0, -1, 0, 0, 0, (cpN ρ 1 0 10))).2.2.1), (0, (if (seF b np nt L 30 (0, -1, 0, 0, 0, (cpN ρ 1 0 10))).2.2.2.2.1 = 0 then 1 else 0))], [(0, (seF b np nt L 30 (0, -1, 0, 0, 0, (cpN ρ 1 0 10))).2.2.2.1)], τ)) rfl rfl ?_
    refine TT.ret (cd := cd213) rfl rfl rfl rfl ⟨?_, hE.2.1, hE.2.2⟩
    symm
    rw [if_neg (by omega), if_pos (by omega)]
  refine TT.swc (fun h7 => ?_) (fun h7 => ?_)
  · refine TT.steps (cd := cd213) 4 (c' := (59, [(2, 0), (0, w0), (0, (((seF b np nt L 30 (0, -1, 0, 0, 0, (cpN ρ 1 0 10))).1 : Nat) : Int)), (0, (seF b np nt L 30 (0, -1, 0, 0, 0, (cpN ρ 1 0 10))).2.2.2.1), (0, (seF b np nt L 30 (0, -1, 0, 0, 0, (cpN ρ 1 0 10))).2.1), (0, (seF b np nt L 30 (0, -1, 0, 0, 0, (cpN ρ 1 0 10))).2.2.1), (0, (if (seF b np nt L 30 (0, -1, 0, 0, 0, (cpN ρ 1 0 10))).2.2.2.2.1 = 0 then 1 else 0))], [(2, 42), (2, 36)], τ)) rfl rfl ?_
    refine TT.call (cd := cd213) rfl rfl rfl (by decide) rfl (u_countElsewhere X np τ ((hE.2.1 _ _ (by omega)).trans hPb.1) c1) (fun r8 σ8 hq => ?_)
    rw [hq.1, hq.2]
    refine TT.ret (cd := cd213) rfl rfl rfl rfl ⟨?_, hE.2.1, hE.2.2⟩
    symm
    rw [if_neg (by omega), if_neg (by omega), if_pos (by omega)]
    rw [sumA_01w (by omega) (fun p => decide (¬ τ 40 p = τ 46 p)) (fun p hp => ?_)]
    obtain ⟨-, -, ⟨s1, -, e1, e2⟩, -⟩ := hE.1.2.2.1.1.2 p hp
    obtain ⟨-, -, ⟨s2, -, e3, e4⟩, -⟩ := hPb.2 p hp
    rw [show τ 46 p = (s1 : Int) from e1, hE.2.1 40 p (by omega), show σ 40 p = (s2 : Int) from e3, hE.2.2.2.2.2 320 p (by omega) (by omega), show ρ 320 p = (s2 : Int) by rw [show 10 * 0 + p = p by omega] at e4; exact e4, show (seF b np nt L 30 (0, -1, 0, 0, 0, (cpN ρ 1 0 10))).2.2.2.2.2 320 (10 + p) = (s1 : Int) from e2]
    by_cases g : (s1 : Int) = (s2 : Int)
    · rw [if_pos g]; simp [g]
    · rw [if_neg g]; simp; omega
  show TT X 213 (61, [(2, 0), (0, w0), (0, (((seF b np nt L 30 (0, -1, 0, 0, 0, (cpN ρ 1 0 10))).1 : Nat) : Int)), (0, (seF b np nt L 30 (0, -1, 0, 0, 0, (cpN ρ 1 0 10))).2.2.2.1), (0, (seF b np nt L 30 (0, -1, 0, 0, 0, (cpN ρ 1 0 10))).2.1), (0, (seF b np nt L 30 (0, -1, 0, 0, 0, (cpN ρ 1 0 10))).2.2.1), (0, (if (seF b np nt L 30 (0, -1, 0, 0, 0, (cpN ρ 1 0 10))).2.2.2.2.1 = 0 then 1 else 0))], [], τ) _
  refine TT.steps (cd := cd213) 1 (c' := (62, [(2, 0), (0, w0), (0, (((seF b np nt L 30 (0, -1, 0, 0, 0, (cpN ρ 1 0 10))).1 : Nat) : Int)), (0, (seF b np nt L 30 (0, -1, 0, 0, 0, (cpN ρ 1 0 10))).2.2.2.1), (0, (seF b np nt L 30 (0, -1, 0, 0, 0, (cpN ρ 1 0 10))).2.1), (0, (seF b np nt L 30 (0, -1, 0, 0, 0, (cpN ρ 1 0 10))).2.2.1), (0, (if (seF b np nt L 30 (0, -1, 0, 0, 0, (cpN ρ 1 0 10))).2.2.2.2.1 = 0 then 1 else 0))], [(0, (seF b np nt L 30 (0, -1, 0, 0, 0, (cpN ρ 1 0 10))).2.2.1)], τ)) rfl rfl ?_
  refine TT.ret (cd := cd213) rfl rfl rfl rfl ⟨?_, hE.2.1, hE.2.2⟩
  symm
  rw [if_neg (by omega), if_neg (by omega), if_neg (by omega)]
theorem K_settles0 (X : AX) {l : Nat} {σ ρ : AH} {b np nt ns : Nat} {L : Nat → Nat} {C : Nat → Nat → Nat} {w tp u tl oc : Nat} (h : IV σ ρ l b np nt ns L C w tp u tl oc) (w0 : Int) (hw0 : ¬ (0 ≤ w0 ∧ w0 ≤ 3))  : TT X 213 (0, [(2, 0), (0, w0), (9, 0), (9, 0), (9, 0), (9, 0), (9, 0)], [], σ) (fun r σ' => r = some (0, -1) ∧ QS σ σ') := by
  obtain ⟨⟨hl, h05, h33⟩, hL, hN, hPT, hF, hA, hTp, hO, hM, hH⟩ := id h
  obtain ⟨⟨a1, a2, a3, a4⟩, ⟨b1, b2, b3, b4, b5⟩, ⟨c1, c2, c3, c4, c5⟩, hTr, hCa, hAf, hPr, hDi⟩ := id hL
  obtain ⟨hPb, ⟨y1, y2, y3⟩, hhi, hPp⟩ := id hPT
  refine TT.steps (cd := cd213) 2 (c' := ((if decide (w0 < 0) = true then 5 else 2), [(2, 0), (0, w0), (9, 0), (9, 0), (9, 0), (9, 0), (9, 0)], [], σ)) rfl rfl ?_
  refine TT.br (p := w0 < 0) (fun h1 => ?_) (fun h1 => ?_)
  · refine TT.steps (cd := cd213) 1 (c' := (6, [(2, 0), (0, w0), (9, 0), (9, 0), (9, 0), (9, 0), (9, 0)], [(0, -1)], σ)) rfl rfl ?_
    exact TT.ret (cd := cd213) rfl rfl rfl rfl (⟨rfl, QS.refl σ⟩)
  · refine TT.steps (cd := cd213) 3 (c' := ((if decide (w0 ≤ 3) = true then 7 else 5), [(2, 0), (0, w0), (9, 0), (9, 0), (9, 0), (9, 0), (9, 0)], [], σ)) rfl rfl ?_
    refine TT.br (p := w0 ≤ 3) (fun h2 => ?_) (fun h2 => ?_)
    · omega
    · refine TT.steps (cd := cd213) 1 (c' := (6, [(2, 0), (0, w0), (9, 0), (9, 0), (9, 0), (9, 0), (9, 0)], [(0, -1)], σ)) rfl rfl ?_
      exact TT.ret (cd := cd213) rfl rfl rfl rfl (⟨rfl, QS.refl σ⟩)
