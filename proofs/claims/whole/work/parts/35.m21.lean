/-- stops of a train by the births of some -/
def sbP (σ : AH) (v b t k : Nat) (z a : Int) : Nat → Int
  | 0 => a
  | n + 1 => if aAnd (aShr z ((n : Nat) : Int)) 1 = 1 ∧ mBA σ v n (σ 305 (8 * (6 * b + t) + k)) then aOr (sbP σ v b t k z a n) (aShl 1 ((k : Nat) : Int)) else sbP σ v b t k z a n
def sbK (σ : AH) (v b t np lt : Nat) (z : Int) : Nat → Int
  | 0 => aOr 1 (aShl 1 ((lt - 1 : Nat) : Int))
  | j + 1 => sbP σ v b t (j + 1) z (sbK σ v b t np lt z j) np
abbrev mSb (σ : AH) (v b t np lt : Nat) (z : Int) : Int := sbK σ v b t np lt z (lt - 2)
theorem l_sb1 (X : AX) (Q : Option AV → AH → Prop) (t k : Nat) (ht : t < 6) (hk : k < 8) (z a : Int) (np : Nat) (σ : AH) {b v : Nat} (hb : σ 295 13 = (b : Int)) (hb2 : b < 2) (hv : σ 295 46 = (v : Int)) (hv2 : v < 22) (hnp : σ 307 b = (np : Int)) (hnp2 : np ≤ 10) (kk : ∀ x : AV, TT X 101 (51, [(2, 295), (0, ((t : Nat) : Int)), (0, z), (0, (sbP σ v b t k z a np)), (0, ((k : Nat) : Int)), x], [], σ) Q) : ∀ (d n : Nat), n + d = np → TT X 101 (21, [(2, 295), (0, ((t : Nat) : Int)), (0, z), (0, (sbP σ v b t k z a n)), (0, ((k : Nat) : Int)), (0, ((n : Nat) : Int))], [], σ) Q := by
  intro d
  induction d with
  | zero =>
    intro n hn 
    have hnn : n = np := by omega
    refine TT.steps (cd := cd101) 5 (c' := (26, [(2, 295), (0, ((t : Nat) : Int)), (0, z), (0, (sbP σ v b t k z a n)), (0, ((k : Nat) : Int)), (0, ((n : Nat) : Int))], [(0, (σ 295 13)), (2, 307), (0, ((n : Nat) : Int))], σ)) rfl rfl ?_
    refine TT.top0 (z := ((b : Nat) : Int)) hb ?_
    refine TT.aldN (cd := cd101) (307) (b) rfl rfl rfl rfl (show b < 2 by omega) ?_
    refine TT.top0 (z := ((np : Nat) : Int)) hnp ?_
    refine TT.steps (cd := cd101) 1 (c' := ((if decide (((np : Nat) : Int) ≤ ((n : Nat) : Int)) = true then 51 else 28), [(2, 295), (0, ((t : Nat) : Int)), (0, z), (0, (sbP σ v b t k z a n)), (0, ((k : Nat) : Int)), (0, ((n : Nat) : Int))], [], σ)) rfl rfl ?_
    refine TT.br (p := ((np : Nat) : Int) ≤ ((n : Nat) : Int)) (fun h1 => ?_) (fun h1 => absurd (show ((np : Nat) : Int) ≤ ((n : Nat) : Int) by omega) h1)
    subst hnn
    exact kk _
  | succ d ih =>
    intro n hn 
    refine TT.steps (cd := cd101) 5 (c' := (26, [(2, 295), (0, ((t : Nat) : Int)), (0, z), (0, (sbP σ v b t k z a n)), (0, ((k : Nat) : Int)), (0, ((n : Nat) : Int))], [(0, (σ 295 13)), (2, 307), (0, ((n : Nat) : Int))], σ)) rfl rfl ?_
    refine TT.top0 (z := ((b : Nat) : Int)) hb ?_
    refine TT.aldN (cd := cd101) (307) (b) rfl rfl rfl rfl (show b < 2 by omega) ?_
    refine TT.top0 (z := ((np : Nat) : Int)) hnp ?_
    refine TT.steps (cd := cd101) 1 (c' := ((if decide (((np : Nat) : Int) ≤ ((n : Nat) : Int)) = true then 51 else 28), [(2, 295), (0, ((t : Nat) : Int)), (0, z), (0, (sbP σ v b t k z a n)), (0, ((k : Nat) : Int)), (0, ((n : Nat) : Int))], [], σ)) rfl rfl ?_
    refine TT.br (p := ((np : Nat) : Int) ≤ ((n : Nat) : Int)) (fun h1 => absurd h1 (show ¬ (((np : Nat) : Int) ≤ ((n : Nat) : Int)) by omega)) (fun h1 => ?_)
    refine TT.steps (cd := cd101) 7 (c' := ((if decide (¬ (aAnd (aShr z ((n : Nat) : Int)) 1) = 1) = true then 49 else 35), [(2, 295), (0, ((t : Nat) : Int)), (0, z), (0, (sbP σ v b t k z a n)), (0, ((k : Nat) : Int)), (0, ((n : Nat) : Int))], [], σ)) rfl rfl ?_
    refine TT.br (p := ¬ (aAnd (aShr z ((n : Nat) : Int)) 1) = 1) (fun h2 => ?_) (fun h2 => ?_)
    · refine TT.inc (cd := cd101) ((n + 1 : Nat) : Int) rfl rfl rfl rfl (fun h => absurd h.2 (show ¬ (0 = 1) by decide)) (aAdd_n (a := n) (b := 1) (by omega)) (ls' := [(2, 295), (0, ((t : Nat) : Int)), (0, z), (0, (sbP σ v b t k z a n)), (0, ((k : Nat) : Int)), (0, ((n + 1 : Nat) : Int))]) rfl ?_
      refine TT.steps (cd := cd101) 1 (c' := (21, [(2, 295), (0, ((t : Nat) : Int)), (0, z), (0, (sbP σ v b t k z a n)), (0, ((k : Nat) : Int)), (0, ((n + 1 : Nat) : Int))], [], σ)) rfl rfl ?_
      have := ih (n + 1) (by omega)
      simp only [sbP] at this
      first | (rw [if_pos ⟨by omega, by assumption⟩] at this; exact this) | (rw [if_neg (fun hc => by first | exact absurd hc.2 (by assumption) | omega)] at this; exact this)
    · refine TT.steps (cd := cd101) 5 (c' := (40, [(2, 295), (0, ((t : Nat) : Int)), (0, z), (0, (sbP σ v b t k z a n)), (0, ((k : Nat) : Int)), (0, ((n : Nat) : Int))], [(0, ((k : Nat) : Int)), (0, ((t : Nat) : Int)), (2, 295), (0, ((n : Nat) : Int)), (2, 295)], σ)) rfl rfl ?_
      refine TT.call (cd := cd101) rfl rfl rfl (by decide) rfl (t_callOf X t k (by omega) (by omega) σ hb hb2) (fun r3 σ3 hq => ?_)
      rw [hq.1, hq.2]
      refine TT.call (cd := cd101) rfl rfl rfl (by decide) rfl (t_isBornAt X n (by omega) (σ 305 (8 * (6 * b + t) + k)) σ hv hv2) (fun r4 σ4 hq => ?_)
      rw [hq.1, hq.2]
      refine TT.steps (cd := cd101) 1 (c' := ((if decide (((if mBA σ v n (σ 305 (8 * (6 * b + t) + k)) then 1 else 0) : Int) = 0) = true then 49 else 43), [(2, 295), (0, ((t : Nat) : Int)), (0, z), (0, (sbP σ v b t k z a n)), (0, ((k : Nat) : Int)), (0, ((n : Nat) : Int))], [], σ)) rfl rfl ?_
      refine TT.br (p := ((if mBA σ v n (σ 305 (8 * (6 * b + t) + k)) then 1 else 0) : Int) = 0) (fun h5 => ?_) (fun h5 => ?_)
      · replace h5 := ite_f h5
        refine TT.inc (cd := cd101) ((n + 1 : Nat) : Int) rfl rfl rfl rfl (fun h => absurd h.2 (show ¬ (0 = 1) by decide)) (aAdd_n (a := n) (b := 1) (by omega)) (ls' := [(2, 295), (0, ((t : Nat) : Int)), (0, z), (0, (sbP σ v b t k z a n)), (0, ((k : Nat) : Int)), (0, ((n + 1 : Nat) : Int))]) rfl ?_
        refine TT.steps (cd := cd101) 1 (c' := (21, [(2, 295), (0, ((t : Nat) : Int)), (0, z), (0, (sbP σ v b t k z a n)), (0, ((k : Nat) : Int)), (0, ((n + 1 : Nat) : Int))], [], σ)) rfl rfl ?_
        have := ih (n + 1) (by omega)
        simp only [sbP] at this
        first | (rw [if_pos ⟨by omega, by assumption⟩] at this; exact this) | (rw [if_neg (fun hc => by first | exact absurd hc.2 (by assumption) | omega)] at this; exact this)
      · replace h5 := ite_t h5
        refine TT.steps (cd := cd101) 6 (c' := (49, [(2, 295), (0, ((t : Nat) : Int)), (0, z), (0, (aOr (sbP σ v b t k z a n) (aShl 1 ((k : Nat) : Int)))), (0, ((k : Nat) : Int)), (0, ((n : Nat) : Int))], [], σ)) rfl rfl ?_
        refine TT.inc (cd := cd101) ((n + 1 : Nat) : Int) rfl rfl rfl rfl (fun h => absurd h.2 (show ¬ (0 = 1) by decide)) (aAdd_n (a := n) (b := 1) (by omega)) (ls' := [(2, 295), (0, ((t : Nat) : Int)), (0, z), (0, (aOr (sbP σ v b t k z a n) (aShl 1 ((k : Nat) : Int)))), (0, ((k : Nat) : Int)), (0, ((n + 1 : Nat) : Int))]) rfl ?_
        refine TT.steps (cd := cd101) 1 (c' := (21, [(2, 295), (0, ((t : Nat) : Int)), (0, z), (0, (aOr (sbP σ v b t k z a n) (aShl 1 ((k : Nat) : Int)))), (0, ((k : Nat) : Int)), (0, ((n + 1 : Nat) : Int))], [], σ)) rfl rfl ?_
        have := ih (n + 1) (by omega)
        simp only [sbP] at this
        first | (rw [if_pos ⟨by omega, by assumption⟩] at this; exact this) | (rw [if_neg (fun hc => by first | exact absurd hc.2 (by assumption) | omega)] at this; exact this)
theorem l_sb2 (X : AX) (t lt : Nat) (ht : t < 6) (z : Int) (np : Nat) (σ : AH) {b v : Nat} (hb : σ 295 13 = (b : Int)) (hb2 : b < 2) (hv : σ 295 46 = (v : Int)) (hv2 : v < 22) (hnp : σ 307 b = (np : Int)) (hnp2 : np ≤ 10) (hlt : σ 304 (6 * b + t) = (lt : Int)) (hlt2 : 2 ≤ lt ∧ lt ≤ 8) : ∀ (d n : Nat), n + d = lt - 2 → ∀ y : AV, TT X 101 (12, [(2, 295), (0, ((t : Nat) : Int)), (0, z), (0, (sbK σ v b t np lt z n)), (0, ((n + 1 : Nat) : Int)), y], [], σ) (fun r σ' => r = some (0, mSb σ v b t np lt z) ∧ σ' = σ) := by
  intro d
  induction d with
  | zero =>
    intro n hn y
    have hnn : n = lt - 2 := by omega
    refine TT.steps (cd := cd101) 3 (c' := (15, [(2, 295), (0, ((t : Nat) : Int)), (0, z), (0, (sbK σ v b t np lt z n)), (0, ((n + 1 : Nat) : Int)), y], [(0, ((t : Nat) : Int)), (2, 295), (0, ((n + 1 : Nat) : Int))], σ)) rfl rfl ?_
    refine TT.call (cd := cd101) rfl rfl rfl (by decide) rfl (t_callsOf X t (by omega) σ hb hb2) (fun r1 σ1 hq => ?_)
    rw [hq.1, hq.2]
    refine TT.top0 (z := ((lt : Nat) : Int)) hlt ?_
    refine TT.steps (cd := cd101) 2 (c' := (18, [(2, 295), (0, ((t : Nat) : Int)), (0, z), (0, (sbK σ v b t np lt z n)), (0, ((n + 1 : Nat) : Int)), y], [(0, (aSub ((lt : Nat) : Int) 1)), (0, ((n + 1 : Nat) : Int))], σ)) rfl rfl ?_
    refine TT.top0 (z := ((lt - 1 : Nat) : Int)) (aSub_n (a := lt) (b := 1) (by omega) (by omega)) ?_
    refine TT.steps (cd := cd101) 1 (c' := ((if decide (((lt - 1 : Nat) : Int) ≤ ((n + 1 : Nat) : Int)) = true then 53 else 19), [(2, 295), (0, ((t : Nat) : Int)), (0, z), (0, (sbK σ v b t np lt z n)), (0, ((n + 1 : Nat) : Int)), y], [], σ)) rfl rfl ?_
    refine TT.br (p := ((lt - 1 : Nat) : Int) ≤ ((n + 1 : Nat) : Int)) (fun h2 => ?_) (fun h2 => absurd (show ((lt - 1 : Nat) : Int) ≤ ((n + 1 : Nat) : Int) by omega) h2)
    refine TT.steps (cd := cd101) 1 (c' := (54, [(2, 295), (0, ((t : Nat) : Int)), (0, z), (0, (sbK σ v b t np lt z n)), (0, ((n + 1 : Nat) : Int)), y], [(0, (sbK σ v b t np lt z n))], σ)) rfl rfl ?_
    exact TT.ret (cd := cd101) rfl rfl rfl rfl (⟨by rw [hnn], rfl⟩)
  | succ d ih =>
    intro n hn y
    refine TT.steps (cd := cd101) 3 (c' := (15, [(2, 295), (0, ((t : Nat) : Int)), (0, z), (0, (sbK σ v b t np lt z n)), (0, ((n + 1 : Nat) : Int)), y], [(0, ((t : Nat) : Int)), (2, 295), (0, ((n + 1 : Nat) : Int))], σ)) rfl rfl ?_
    refine TT.call (cd := cd101) rfl rfl rfl (by decide) rfl (t_callsOf X t (by omega) σ hb hb2) (fun r1 σ1 hq => ?_)
    rw [hq.1, hq.2]
    refine TT.top0 (z := ((lt : Nat) : Int)) hlt ?_
    refine TT.steps (cd := cd101) 2 (c' := (18, [(2, 295), (0, ((t : Nat) : Int)), (0, z), (0, (sbK σ v b t np lt z n)), (0, ((n + 1 : Nat) : Int)), y], [(0, (aSub ((lt : Nat) : Int) 1)), (0, ((n + 1 : Nat) : Int))], σ)) rfl rfl ?_
    refine TT.top0 (z := ((lt - 1 : Nat) : Int)) (aSub_n (a := lt) (b := 1) (by omega) (by omega)) ?_
    refine TT.steps (cd := cd101) 1 (c' := ((if decide (((lt - 1 : Nat) : Int) ≤ ((n + 1 : Nat) : Int)) = true then 53 else 19), [(2, 295), (0, ((t : Nat) : Int)), (0, z), (0, (sbK σ v b t np lt z n)), (0, ((n + 1 : Nat) : Int)), y], [], σ)) rfl rfl ?_
    refine TT.br (p := ((lt - 1 : Nat) : Int) ≤ ((n + 1 : Nat) : Int)) (fun h2 => absurd h2 (show ¬ (((lt - 1 : Nat) : Int) ≤ ((n + 1 : Nat) : Int)) by omega)) (fun h2 => ?_)
    refine TT.steps (cd := cd101) 2 (c' := (21, [(2, 295), (0, ((t : Nat) : Int)), (0, z), (0, (sbK σ v b t np lt z n)), (0, ((n + 1 : Nat) : Int)), (0, 0)], [], σ)) rfl rfl ?_
    refine l_sb1 X _ t (n + 1) ht (by omega) z _ np σ hb hb2 hv hv2 hnp hnp2 (fun x => ?_) np 0 (by omega)
    refine TT.inc (cd := cd101) (((n + 1) + 1 : Nat) : Int) rfl rfl rfl rfl (fun h => absurd h.2 (show ¬ (0 = 1) by decide)) (aAdd_n (a := n + 1) (b := 1) (by omega)) (ls' := [(2, 295), (0, ((t : Nat) : Int)), (0, z), (0, (sbP σ v b t (n + 1) z (sbK σ v b t np lt z n) np)), (0, (((n + 1) + 1 : Nat) : Int)), x]) rfl ?_
    refine TT.steps (cd := cd101) 1 (c' := (12, [(2, 295), (0, ((t : Nat) : Int)), (0, z), (0, (sbP σ v b t (n + 1) z (sbK σ v b t np lt z n) np)), (0, (((n + 1) + 1 : Nat) : Int)), x], [], σ)) rfl rfl ?_
    exact ih (n + 1) (by omega) _
theorem t_stopsBy (X : AX) (t lt : Nat) (ht : t < 6) (z : Int) (np : Nat) (σ : AH) {b v : Nat} (hb : σ 295 13 = (b : Int)) (hb2 : b < 2) (hv : σ 295 46 = (v : Int)) (hv2 : v < 22) (hnp : σ 307 b = (np : Int)) (hnp2 : np ≤ 10) (hlt : σ 304 (6 * b + t) = (lt : Int)) (hlt2 : 2 ≤ lt ∧ lt ≤ 8)  : TT X 101 (0, [(2, 295), (0, ((t : Nat) : Int)), (0, z), (9, 0), (9, 0), (9, 0)], [], σ) (fun r σ' => r = some (0, mSb σ v b t np lt z) ∧ σ' = σ) := by
  refine TT.steps (cd := cd101) 4 (c' := (4, [(2, 295), (0, ((t : Nat) : Int)), (0, z), (9, 0), (9, 0), (9, 0)], [(0, ((t : Nat) : Int)), (2, 295), (0, 1), (0, 1)], σ)) rfl rfl ?_
  refine TT.call (cd := cd101) rfl rfl rfl (by decide) rfl (t_callsOf X t (by omega) σ hb hb2) (fun r1 σ1 hq => ?_)
  rw [hq.1, hq.2]
  refine TT.top0 (z := ((lt : Nat) : Int)) hlt ?_
  refine TT.steps (cd := cd101) 2 (c' := (7, [(2, 295), (0, ((t : Nat) : Int)), (0, z), (9, 0), (9, 0), (9, 0)], [(0, (aSub ((lt : Nat) : Int) 1)), (0, 1), (0, 1)], σ)) rfl rfl ?_
  refine TT.top0 (z := ((lt - 1 : Nat) : Int)) (aSub_n (a := lt) (b := 1) (by omega) (by omega)) ?_
  refine TT.steps (cd := cd101) 5 (c' := (12, [(2, 295), (0, ((t : Nat) : Int)), (0, z), (0, (aOr 1 (aShl 1 ((lt - 1 : Nat) : Int)))), (0, 1), (9, 0)], [], σ)) rfl rfl ?_
  exact l_sb2 X t lt ht z np σ hb hb2 hv hv2 hnp hnp2 hlt hlt2 (lt - 2) 0 (by omega) _
/-- who may be aboard: how many sets, all of them, some of them -/
def mSn (σ : AH) (b t np lt : Nat) (z : Int) : Nat → Int × Int × Int
  | 0 => (0, aSub ((2 ^ np : Nat) : Int) 1, 0)
  | n + 1 => if mSb σ 0 b t np lt ((n : Nat) : Int) = z then (aAdd (mSn σ b t np lt z n).1 1, aAnd (mSn σ b t np lt z n).2.1 ((n : Nat) : Int), aOr (mSn σ b t np lt z n).2.2 ((n : Nat) : Int)) else mSn σ b t np lt z n

theorem l_seen (X : AX) (Q : Option AV → AH → Prop) (t lt : Nat) (ht : t < 6) (z w : Int) (np : Nat) (σ : AH) {b : Nat} (hb : σ 295 13 = (b : Int)) (hb2 : b < 2) (hv : σ 295 46 = ((0 : Nat) : Int)) (hnp : σ 307 b = (np : Int)) (hnp2 : np ≤ 10) (hlt : σ 304 (6 * b + t) = (lt : Int)) (hlt2 : 2 ≤ lt ∧ lt ≤ 8) (kk : ∀ x : AV, TT X 102 (82, [(2, 295), (0, ((t : Nat) : Int)), (0, z), (0, w), (0, (mSn σ b t np lt z (2 ^ np)).1), (0, (mSn σ b t np lt z (2 ^ np)).2.1), (0, (mSn σ b t np lt z (2 ^ np)).2.2), x], [], σ) Q) : ∀ (d n : Nat), n + d = 2 ^ np → TT X 102 (55, [(2, 295), (0, ((t : Nat) : Int)), (0, z), (0, w), (0, (mSn σ b t np lt z n).1), (0, (mSn σ b t np lt z n).2.1), (0, (mSn σ b t np lt z n).2.2), (0, ((n : Nat) : Int))], [], σ) Q := by
  intro d
  have hN : 2 ^ np ≤ 1024 := pw10 np hnp2
  induction d with
  | zero =>
    intro n hn 
    have hnn : n = 2 ^ np := by omega
    refine TT.steps (cd := cd102) 6 (c' := (61, [(2, 295), (0, ((t : Nat) : Int)), (0, z), (0, w), (0, (mSn σ b t np lt z n).1), (0, (mSn σ b t np lt z n).2.1), (0, (mSn σ b t np lt z n).2.2), (0, ((n : Nat) : Int))], [(0, (σ 295 13)), (2, 307), (0, 1), (0, ((n : Nat) : Int))], σ)) rfl rfl ?_
    refine TT.top0 (z := ((b : Nat) : Int)) hb ?_
    refine TT.aldN (cd := cd102) (307) (b) rfl rfl rfl rfl (show b < 2 by omega) ?_
    refine TT.top0 (z := ((np : Nat) : Int)) hnp ?_
    refine TT.steps (cd := cd102) 1 (c' := (63, [(2, 295), (0, ((t : Nat) : Int)), (0, z), (0, w), (0, (mSn σ b t np lt z n).1), (0, (mSn σ b t np lt z n).2.1), (0, (mSn σ b t np lt z n).2.2), (0, ((n : Nat) : Int))], [(0, (aShl 1 ((np : Nat) : Int))), (0, ((n : Nat) : Int))], σ)) rfl rfl ?_
    refine TT.top0 (z := (((2 ^ np) : Nat) : Int)) (shl1 np hnp2) ?_
    refine TT.steps (cd := cd102) 1 (c' := ((if decide ((((2 ^ np) : Nat) : Int) ≤ ((n : Nat) : Int)) = true then 82 else 64), [(2, 295), (0, ((t : Nat) : Int)), (0, z), (0, w), (0, (mSn σ b t np lt z n).1), (0, (mSn σ b t np lt z n).2.1), (0, (mSn σ b t np lt z n).2.2), (0, ((n : Nat) : Int))], [], σ)) rfl rfl ?_
    refine TT.br (p := (((2 ^ np) : Nat) : Int) ≤ ((n : Nat) : Int)) (fun h1 => ?_) (fun h1 => absurd (show (((2 ^ np) : Nat) : Int) ≤ ((n : Nat) : Int) by omega) h1)
    subst hnn
    exact kk _
  | succ d ih =>
    intro n hn 
    refine TT.steps (cd := cd102) 6 (c' := (61, [(2, 295), (0, ((t : Nat) : Int)), (0, z), (0, w), (0, (mSn σ b t np lt z n).1), (0, (mSn σ b t np lt z n).2.1), (0, (mSn σ b t np lt z n).2.2), (0, ((n : Nat) : Int))], [(0, (σ 295 13)), (2, 307), (0, 1), (0, ((n : Nat) : Int))], σ)) rfl rfl ?_
    refine TT.top0 (z := ((b : Nat) : Int)) hb ?_
    refine TT.aldN (cd := cd102) (307) (b) rfl rfl rfl rfl (show b < 2 by omega) ?_
    refine TT.top0 (z := ((np : Nat) : Int)) hnp ?_
    refine TT.steps (cd := cd102) 1 (c' := (63, [(2, 295), (0, ((t : Nat) : Int)), (0, z), (0, w), (0, (mSn σ b t np lt z n).1), (0, (mSn σ b t np lt z n).2.1), (0, (mSn σ b t np lt z n).2.2), (0, ((n : Nat) : Int))], [(0, (aShl 1 ((np : Nat) : Int))), (0, ((n : Nat) : Int))], σ)) rfl rfl ?_
    refine TT.top0 (z := (((2 ^ np) : Nat) : Int)) (shl1 np hnp2) ?_
    refine TT.steps (cd := cd102) 1 (c' := ((if decide ((((2 ^ np) : Nat) : Int) ≤ ((n : Nat) : Int)) = true then 82 else 64), [(2, 295), (0, ((t : Nat) : Int)), (0, z), (0, w), (0, (mSn σ b t np lt z n).1), (0, (mSn σ b t np lt z n).2.1), (0, (mSn σ b t np lt z n).2.2), (0, ((n : Nat) : Int))], [], σ)) rfl rfl ?_
    refine TT.br (p := (((2 ^ np) : Nat) : Int) ≤ ((n : Nat) : Int)) (fun h1 => absurd h1 (show ¬ ((((2 ^ np) : Nat) : Int) ≤ ((n : Nat) : Int)) by omega)) (fun h1 => ?_)
    refine TT.steps (cd := cd102) 3 (c' := (67, [(2, 295), (0, ((t : Nat) : Int)), (0, z), (0, w), (0, (mSn σ b t np lt z n).1), (0, (mSn σ b t np lt z n).2.1), (0, (mSn σ b t np lt z n).2.2), (0, ((n : Nat) : Int))], [(0, ((n : Nat) : Int)), (0, ((t : Nat) : Int)), (2, 295)], σ)) rfl rfl ?_
    refine TT.call (cd := cd102) rfl rfl rfl (by decide) rfl (t_stopsBy X t lt ht ((n : Nat) : Int) np σ hb hb2 hv (by decide) hnp hnp2 hlt hlt2) (fun r2 σ2 hq => ?_)
    rw [hq.1, hq.2]
    refine TT.steps (cd := cd102) 2 (c' := ((if decide ((mSb σ 0 b t np lt ((n : Nat) : Int)) = z) = true then 71 else 70), [(2, 295), (0, ((t : Nat) : Int)), (0, z), (0, w), (0, (mSn σ b t np lt z n).1), (0, (mSn σ b t np lt z n).2.1), (0, (mSn σ b t np lt z n).2.2), (0, ((n : Nat) : Int))], [], σ)) rfl rfl ?_
    refine TT.br (p := (mSb σ 0 b t np lt ((n : Nat) : Int)) = z) (fun h3 => ?_) (fun h3 => ?_)
    · refine TT.inc (cd := cd102) (aAdd (mSn σ b t np lt z n).1 1) rfl rfl rfl rfl (fun h => absurd h.2 (show ¬ (0 = 1) by decide)) rfl (ls' := [(2, 295), (0, ((t : Nat) : Int)), (0, z), (0, w), (0, (aAdd (mSn σ b t np lt z n).1 1)), (0, (mSn σ b t np lt z n).2.1), (0, (mSn σ b t np lt z n).2.2), (0, ((n : Nat) : Int))]) rfl ?_
      refine TT.steps (cd := cd102) 8 (c' := (80, [(2, 295), (0, ((t : Nat) : Int)), (0, z), (0, w), (0, (aAdd (mSn σ b t np lt z n).1 1)), (0, (aAnd (mSn σ b t np lt z n).2.1 ((n : Nat) : Int))), (0, (aOr (mSn σ b t np lt z n).2.2 ((n : Nat) : Int))), (0, ((n : Nat) : Int))], [], σ)) rfl rfl ?_
      refine TT.inc (cd := cd102) ((n + 1 : Nat) : Int) rfl rfl rfl rfl (fun h => absurd h.2 (show ¬ (0 = 1) by decide)) (aAdd_n (a := n) (b := 1) (by omega)) (ls' := [(2, 295), (0, ((t : Nat) : Int)), (0, z), (0, w), (0, (aAdd (mSn σ b t np lt z n).1 1)), (0, (aAnd (mSn σ b t np lt z n).2.1 ((n : Nat) : Int))), (0, (aOr (mSn σ b t np lt z n).2.2 ((n : Nat) : Int))), (0, ((n + 1 : Nat) : Int))]) rfl ?_
      refine TT.steps (cd := cd102) 1 (c' := (55, [(2, 295), (0, ((t : Nat) : Int)), (0, z), (0, w), (0, (aAdd (mSn σ b t np lt z n).1 1)), (0, (aAnd (mSn σ b t np lt z n).2.1 ((n : Nat) : Int))), (0, (aOr (mSn σ b t np lt z n).2.2 ((n : Nat) : Int))), (0, ((n + 1 : Nat) : Int))], [], σ)) rfl rfl ?_
      have := ih (n + 1) (by omega)
      simp only [mSn] at this
      first | (rw [if_pos (by omega)] at this; exact this) | (rw [if_neg (by omega)] at this; exact this)
    · refine TT.steps (cd := cd102) 1 (c' := (80, [(2, 295), (0, ((t : Nat) : Int)), (0, z), (0, w), (0, (mSn σ b t np lt z n).1), (0, (mSn σ b t np lt z n).2.1), (0, (mSn σ b t np lt z n).2.2), (0, ((n : Nat) : Int))], [], σ)) rfl rfl ?_
      refine TT.inc (cd := cd102) ((n + 1 : Nat) : Int) rfl rfl rfl rfl (fun h => absurd h.2 (show ¬ (0 = 1) by decide)) (aAdd_n (a := n) (b := 1) (by omega)) (ls' := [(2, 295), (0, ((t : Nat) : Int)), (0, z), (0, w), (0, (mSn σ b t np lt z n).1), (0, (mSn σ b t np lt z n).2.1), (0, (mSn σ b t np lt z n).2.2), (0, ((n + 1 : Nat) : Int))]) rfl ?_
      refine TT.steps (cd := cd102) 1 (c' := (55, [(2, 295), (0, ((t : Nat) : Int)), (0, z), (0, w), (0, (mSn σ b t np lt z n).1), (0, (mSn σ b t np lt z n).2.1), (0, (mSn σ b t np lt z n).2.2), (0, ((n + 1 : Nat) : Int))], [], σ)) rfl rfl ?_
      have := ih (n + 1) (by omega)
      simp only [mSn] at this
      first | (rw [if_pos (by omega)] at this; exact this) | (rw [if_neg (by omega)] at this; exact this)
theorem t_seen1 (X : AX) (z w : Int) (t : Nat) (np nt : Nat) (L : Nat → Nat) (σ : AH) {b : Nat} (hb : σ 295 13 = (b : Int)) (hb2 : b < 2) (hnp : σ 307 b = (np : Int)) (hnp2 : np ≤ 10) (hnt : σ 300 b = (nt : Int)) (hnt2 : nt ≤ 6) (hL : ∀ t, t < nt → σ 304 (6 * b + t) = (L t : Int) ∧ 2 ≤ L t ∧ L t ≤ 8) (ht : t < nt)  : TT X 102 (0, [(2, 295), (0, ((t : Nat) : Int)), (0, z), (0, w), (9, 0), (9, 0), (9, 0), (9, 0)], [], σ) (fun r σ' => (¬ (0 ≤ w ∧ w ≤ 2) ∨ z < 0 ∨ aShl 1 ((L t : Nat) : Int) ≤ z ∨ aAnd z 1 = 0 ∨ aAnd (aShr z (((L t) - 1 : Nat) : Int)) 1 = 0 → r = some (0, -1) ∧ σ' = σ) ∧ (¬ (¬ (0 ≤ w ∧ w ≤ 2) ∨ z < 0 ∨ aShl 1 ((L t : Nat) : Int) ≤ z ∨ aAnd z 1 = 0 ∨ aAnd (aShr z (((L t) - 1 : Nat) : Int)) 1 = 0) → r = some (0, if w = 0 then (mSn (up2 σ 295 46 0) b t np (L t) z (2 ^ np)).1 else if (mSn (up2 σ 295 46 0) b t np (L t) z (2 ^ np)).1 = 0 then 0 else if w = 1 then (mSn (up2 σ 295 46 0) b t np (L t) z (2 ^ np)).2.1 else (mSn (up2 σ 295 46 0) b t np (L t) z (2 ^ np)).2.2) ∧ σ' = (up2 σ 295 46 0))) := by
  refine TT.steps (cd := cd102) 2 (c' := (2, [(2, 295), (0, ((t : Nat) : Int)), (0, z), (0, w), (9, 0), (9, 0), (9, 0), (9, 0)], [(0, ((t : Nat) : Int)), (2, 295)], σ)) rfl rfl ?_
  refine TT.call (cd := cd102) rfl rfl rfl (by decide) rfl (t_isTrain X ((t : Nat) : Int) σ hb hb2) (fun r1 σ1 hq => ?_)
  rw [hq.1, hq.2, hnt]
  refine TT.steps (cd := cd102) 1 (c' := ((if decide (((if 0 ≤ ((t : Nat) : Int) ∧ ((t : Nat) : Int) < (nt : Int) then 1 else 0) : Int) = 0) = true then 18 else 4), [(2, 295), (0, ((t : Nat) : Int)), (0, z), (0, w), (9, 0), (9, 0), (9, 0), (9, 0)], [], σ)) rfl rfl ?_
  refine TT.br (p := ((if 0 ≤ ((t : Nat) : Int) ∧ ((t : Nat) : Int) < (nt : Int) then 1 else 0) : Int) = 0) (fun h2 => absurd h2 (show ¬ (((if 0 ≤ ((t : Nat) : Int) ∧ ((t : Nat) : Int) < (nt : Int) then 1 else 0) : Int) = 0) by (rw [if_pos (by first | assumption | omega)]; decide))) (fun h2 => ?_)
  refine TT.steps (cd := cd102) 3 (c' := (7, [(2, 295), (0, ((t : Nat) : Int)), (0, z), (0, w), (9, 0), (9, 0), (9, 0), (9, 0)], [(0, 2), (0, 0), (0, w)], σ)) rfl rfl ?_
  refine TT.call (cd := cd102) rfl rfl rfl (by decide) rfl (t_is X w 0 2 σ) (fun r3 σ3 hq => ?_)
  rw [hq.1, hq.2]
  refine TT.steps (cd := cd102) 1 (c' := ((if decide (((if 0 ≤ w ∧ w ≤ 2 then 1 else 0) : Int) = 0) = true then 18 else 9), [(2, 295), (0, ((t : Nat) : Int)), (0, z), (0, w), (9, 0), (9, 0), (9, 0), (9, 0)], [], σ)) rfl rfl ?_
  refine TT.br (p := ((if 0 ≤ w ∧ w ≤ 2 then 1 else 0) : Int) = 0) (fun h4 => ?_) (fun h4 => ?_)
  · replace h4 := ite_f h4
    refine TT.steps (cd := cd102) 1 (c' := (19, [(2, 295), (0, ((t : Nat) : Int)), (0, z), (0, w), (9, 0), (9, 0), (9, 0), (9, 0)], [(0, -1)], σ)) rfl rfl ?_
    exact TT.ret (cd := cd102) rfl rfl rfl rfl (⟨fun hh => by first | exact ⟨rfl, rfl⟩ | (exfalso; omega), fun hh => by first | (exfalso; omega) | (refine ⟨?_, rfl⟩; first | (rw [if_pos (by omega)]; done) | (rw [if_neg (by omega)]; done) | (rw [if_pos (by omega), if_pos (by omega)]; done) | (rw [if_pos (by omega), if_neg (by omega)]; done) | (rw [if_neg (by omega), if_pos (by omega)]; done) | (rw [if_neg (by omega), if_neg (by omega)]; done) | (rw [if_pos (by omega), if_pos (by omega), if_pos (by omega)]; done) | (rw [if_pos (by omega), if_pos (by omega), if_neg (by omega)]; done) | (rw [if_pos (by omega), if_neg (by omega), if_pos (by omega)]; done) | (rw [if_pos (by omega), if_neg (by omega), if_neg (by omega)]; done) | (rw [if_neg (by omega), if_pos (by omega), if_pos (by omega)]; done) | (rw [if_neg (by omega), if_pos (by omega), if_neg (by omega)]; done) | (rw [if_neg (by omega), if_neg (by omega), if_pos (by omega)]; done) | (rw [if_neg (by omega), if_neg (by omega), if_neg (by omega)]; done))⟩)
  · replace h4 := ite_t h4
    refine TT.steps (cd := cd102) 2 (c' := ((if decide (z < 0) = true then 18 else 11), [(2, 295), (0, ((t : Nat) : Int)), (0, z), (0, w), (9, 0), (9, 0), (9, 0), (9, 0)], [], σ)) rfl rfl ?_
    refine TT.br (p := z < 0) (fun h5 => ?_) (fun h5 => ?_)
    · refine TT.steps (cd := cd102) 1 (c' := (19, [(2, 295), (0, ((t : Nat) : Int)), (0, z), (0, w), (9, 0), (9, 0), (9, 0), (9, 0)], [(0, -1)], σ)) rfl rfl ?_
      exact TT.ret (cd := cd102) rfl rfl rfl rfl (⟨fun hh => by first | exact ⟨rfl, rfl⟩ | (exfalso; omega), fun hh => by first | (exfalso; omega) | (refine ⟨?_, rfl⟩; first | (rw [if_pos (by omega)]; done) | (rw [if_neg (by omega)]; done) | (rw [if_pos (by omega), if_pos (by omega)]; done) | (rw [if_pos (by omega), if_neg (by omega)]; done) | (rw [if_neg (by omega), if_pos (by omega)]; done) | (rw [if_neg (by omega), if_neg (by omega)]; done) | (rw [if_pos (by omega), if_pos (by omega), if_pos (by omega)]; done) | (rw [if_pos (by omega), if_pos (by omega), if_neg (by omega)]; done) | (rw [if_pos (by omega), if_neg (by omega), if_pos (by omega)]; done) | (rw [if_pos (by omega), if_neg (by omega), if_neg (by omega)]; done) | (rw [if_neg (by omega), if_pos (by omega), if_pos (by omega)]; done) | (rw [if_neg (by omega), if_pos (by omega), if_neg (by omega)]; done) | (rw [if_neg (by omega), if_neg (by omega), if_pos (by omega)]; done) | (rw [if_neg (by omega), if_neg (by omega), if_neg (by omega)]; done))⟩)
    · refine TT.steps (cd := cd102) 4 (c' := (15, [(2, 295), (0, ((t : Nat) : Int)), (0, z), (0, w), (9, 0), (9, 0), (9, 0), (9, 0)], [(0, ((t : Nat) : Int)), (2, 295), (0, 1), (0, z)], σ)) rfl rfl ?_
      refine TT.call (cd := cd102) rfl rfl rfl (by decide) rfl (t_callsOf X t (by omega) σ hb hb2) (fun r6 σ6 hq => ?_)
      rw [hq.1, hq.2]
      refine TT.top0 (z := (((L t) : Nat) : Int)) (hL t ht).1 ?_
      refine TT.steps (cd := cd102) 2 (c' := ((if decide (z < (aShl 1 (((L t) : Nat) : Int))) = true then 20 else 18), [(2, 295), (0, ((t : Nat) : Int)), (0, z), (0, w), (9, 0), (9, 0), (9, 0), (9, 0)], [], σ)) rfl rfl ?_
      refine TT.br (p := z < (aShl 1 (((L t) : Nat) : Int))) (fun h7 => ?_) (fun h7 => ?_)
      · refine TT.steps (cd := cd102) 4 (c' := ((if decide ((aAnd z 1) = 0) = true then 34 else 24), [(2, 295), (0, ((t : Nat) : Int)), (0, z), (0, w), (9, 0), (9, 0), (9, 0), (9, 0)], [], σ)) rfl rfl ?_
        refine TT.br (p := (aAnd z 1) = 0) (fun h8 => ?_) (fun h8 => ?_)
        · refine TT.steps (cd := cd102) 1 (c' := (35, [(2, 295), (0, ((t : Nat) : Int)), (0, z), (0, w), (9, 0), (9, 0), (9, 0), (9, 0)], [(0, -1)], σ)) rfl rfl ?_
          exact TT.ret (cd := cd102) rfl rfl rfl rfl (⟨fun hh => by first | exact ⟨rfl, rfl⟩ | (exfalso; omega), fun hh => by first | (exfalso; omega) | (refine ⟨?_, rfl⟩; first | (rw [if_pos (by omega)]; done) | (rw [if_neg (by omega)]; done) | (rw [if_pos (by omega), if_pos (by omega)]; done) | (rw [if_pos (by omega), if_neg (by omega)]; done) | (rw [if_neg (by omega), if_pos (by omega)]; done) | (rw [if_neg (by omega), if_neg (by omega)]; done) | (rw [if_pos (by omega), if_pos (by omega), if_pos (by omega)]; done) | (rw [if_pos (by omega), if_pos (by omega), if_neg (by omega)]; done) | (rw [if_pos (by omega), if_neg (by omega), if_pos (by omega)]; done) | (rw [if_pos (by omega), if_neg (by omega), if_neg (by omega)]; done) | (rw [if_neg (by omega), if_pos (by omega), if_pos (by omega)]; done) | (rw [if_neg (by omega), if_pos (by omega), if_neg (by omega)]; done) | (rw [if_neg (by omega), if_neg (by omega), if_pos (by omega)]; done) | (rw [if_neg (by omega), if_neg (by omega), if_neg (by omega)]; done))⟩)
        · refine TT.steps (cd := cd102) 3 (c' := (27, [(2, 295), (0, ((t : Nat) : Int)), (0, z), (0, w), (9, 0), (9, 0), (9, 0), (9, 0)], [(0, ((t : Nat) : Int)), (2, 295), (0, z)], σ)) rfl rfl ?_
          refine TT.call (cd := cd102) rfl rfl rfl (by decide) rfl (t_callsOf X t (by omega) σ hb hb2) (fun r9 σ9 hq => ?_)
          rw [hq.1, hq.2]
          refine TT.top0 (z := (((L t) : Nat) : Int)) (hL t ht).1 ?_
          refine TT.steps (cd := cd102) 2 (c' := (30, [(2, 295), (0, ((t : Nat) : Int)), (0, z), (0, w), (9, 0), (9, 0), (9, 0), (9, 0)], [(0, (aSub (((L t) : Nat) : Int) 1)), (0, z)], σ)) rfl rfl ?_
          refine TT.top0 (z := ((((L t)) - 1 : Nat) : Int)) (aSub_n (a := (L t)) (b := 1) (by (have := hL t ht; omega)) (by (have := hL t ht; omega))) ?_
          refine TT.steps (cd := cd102) 4 (c' := ((if decide (¬ (aAnd (aShr z ((((L t)) - 1 : Nat) : Int)) 1) = 0) = true then 36 else 34), [(2, 295), (0, ((t : Nat) : Int)), (0, z), (0, w), (9, 0), (9, 0), (9, 0), (9, 0)], [], σ)) rfl rfl ?_
          refine TT.br (p := ¬ (aAnd (aShr z ((((L t)) - 1 : Nat) : Int)) 1) = 0) (fun h10 => ?_) (fun h10 => ?_)
          · refine TT.steps (cd := cd102) 10 (c' := (46, [(2, 295), (0, ((t : Nat) : Int)), (0, z), (0, w), (0, 0), (9, 0), (9, 0), (9, 0)], [(0, ((up2 σ 295 46 0) 295 13)), (2, 307), (0, 1)], (up2 σ 295 46 0))) rfl rfl ?_
            refine TT.top0 (z := ((b : Nat) : Int)) ((up2_by _ _ (j := 46) (j' := 13) _ (by decide)).trans hb) ?_
            refine TT.aldN (cd := cd102) (307) (b) rfl rfl rfl rfl (show b < 2 by (have := hL t ht; omega)) ?_
            refine TT.top0 (z := ((np : Nat) : Int)) ((up2_far (k := 295) (k' := 307) _ _ _ _ (by decide)).trans hnp) ?_
            refine TT.steps (cd := cd102) 1 (c' := (48, [(2, 295), (0, ((t : Nat) : Int)), (0, z), (0, w), (0, 0), (9, 0), (9, 0), (9, 0)], [(0, (aShl 1 ((np : Nat) : Int)))], (up2 σ 295 46 0))) rfl rfl ?_
            refine TT.top0 (z := (((2 ^ np) : Nat) : Int)) (shl1 np hnp2) ?_
            refine TT.steps (cd := cd102) 2 (c' := (50, [(2, 295), (0, ((t : Nat) : Int)), (0, z), (0, w), (0, 0), (9, 0), (9, 0), (9, 0)], [(0, (aSub (((2 ^ np) : Nat) : Int) 1))], (up2 σ 295 46 0))) rfl rfl ?_
            refine TT.steps (cd := cd102) 5 (c' := (55, [(2, 295), (0, ((t : Nat) : Int)), (0, z), (0, w), (0, 0), (0, (aSub (((2 ^ np) : Nat) : Int) 1)), (0, 0), (0, 0)], [], (up2 σ 295 46 0))) rfl rfl ?_
            refine l_seen X _ t (L t) (by omega) z w np (up2 σ 295 46 0) ((up2_by _ _ (j := 46) (j' := 13) _ (by decide)).trans hb) hb2 (up2_hit _ _ _ _) ((up2_far (k := 295) (k' := 307) _ _ _ _ (by decide)).trans hnp) hnp2 ((show ∀ j, (up2 σ 295 46 0) 304 j = σ 304 j from fun j => (up2_far (k := 295) (k' := 304) _ _ _ _ (by decide))) _ |>.trans (hL t ht).1) (hL t ht).2 (fun x => ?_) (2 ^ np) 0 (by omega)
            refine TT.steps (cd := cd102) 2 (c' := ((if decide (¬ w = 0) = true then 86 else 84), [(2, 295), (0, ((t : Nat) : Int)), (0, z), (0, w), (0, (mSn (up2 σ 295 46 0) b t np (L t) z (2 ^ np)).1), (0, (mSn (up2 σ 295 46 0) b t np (L t) z (2 ^ np)).2.1), (0, (mSn (up2 σ 295 46 0) b t np (L t) z (2 ^ np)).2.2), x], [], (up2 σ 295 46 0))) rfl rfl ?_
            refine TT.br (p := ¬ w = 0) (fun h11 => ?_) (fun h11 => ?_)
            · refine TT.steps (cd := cd102) 2 (c' := ((if decide (¬ (mSn (up2 σ 295 46 0) b t np (L t) z (2 ^ np)).1 = 0) = true then 90 else 88), [(2, 295), (0, ((t : Nat) : Int)), (0, z), (0, w), (0, (mSn (up2 σ 295 46 0) b t np (L t) z (2 ^ np)).1), (0, (mSn (up2 σ 295 46 0) b t np (L t) z (2 ^ np)).2.1), (0, (mSn (up2 σ 295 46 0) b t np (L t) z (2 ^ np)).2.2), x], [], (up2 σ 295 46 0))) rfl rfl ?_
              refine TT.br (p := ¬ (mSn (up2 σ 295 46 0) b t np (L t) z (2 ^ np)).1 = 0) (fun h12 => ?_) (fun h12 => ?_)
              · refine TT.steps (cd := cd102) 3 (c' := ((if decide (¬ w = 1) = true then 95 else 93), [(2, 295), (0, ((t : Nat) : Int)), (0, z), (0, w), (0, (mSn (up2 σ 295 46 0) b t np (L t) z (2 ^ np)).1), (0, (mSn (up2 σ 295 46 0) b t np (L t) z (2 ^ np)).2.1), (0, (mSn (up2 σ 295 46 0) b t np (L t) z (2 ^ np)).2.2), x], [], (up2 σ 295 46 0))) rfl rfl ?_
                refine TT.br (p := ¬ w = 1) (fun h13 => ?_) (fun h13 => ?_)
                · refine TT.steps (cd := cd102) 1 (c' := (96, [(2, 295), (0, ((t : Nat) : Int)), (0, z), (0, w), (0, (mSn (up2 σ 295 46 0) b t np (L t) z (2 ^ np)).1), (0, (mSn (up2 σ 295 46 0) b t np (L t) z (2 ^ np)).2.1), (0, (mSn (up2 σ 295 46 0) b t np (L t) z (2 ^ np)).2.2), x], [(0, (mSn (up2 σ 295 46 0) b t np (L t) z (2 ^ np)).2.2)], (up2 σ 295 46 0))) rfl rfl ?_
                  exact TT.ret (cd := cd102) rfl rfl rfl rfl (⟨fun hh => by first | exact ⟨rfl, rfl⟩ | (exfalso; omega), fun hh => by first | (exfalso; omega) | (refine ⟨?_, rfl⟩; first | (rw [if_pos (by omega)]; done) | (rw [if_neg (by omega)]; done) | (rw [if_pos (by omega), if_pos (by omega)]; done) | (rw [if_pos (by omega), if_neg (by omega)]; done) | (rw [if_neg (by omega), if_pos (by omega)]; done) | (rw [if_neg (by omega), if_neg (by omega)]; done) | (rw [if_pos (by omega), if_pos (by omega), if_pos (by omega)]; done) | (rw [if_pos (by omega), if_pos (by omega), if_neg (by omega)]; done) | (rw [if_pos (by omega), if_neg (by omega), if_pos (by omega)]; done) | (rw [if_pos (by omega), if_neg (by omega), if_neg (by omega)]; done) | (rw [if_neg (by omega), if_pos (by omega), if_pos (by omega)]; done) | (rw [if_neg (by omega), if_pos (by omega), if_neg (by omega)]; done) | (rw [if_neg (by omega), if_neg (by omega), if_pos (by omega)]; done) | (rw [if_neg (by omega), if_neg (by omega), if_neg (by omega)]; done))⟩)
                · refine TT.steps (cd := cd102) 2 (c' := (96, [(2, 295), (0, ((t : Nat) : Int)), (0, z), (0, w), (0, (mSn (up2 σ 295 46 0) b t np (L t) z (2 ^ np)).1), (0, (mSn (up2 σ 295 46 0) b t np (L t) z (2 ^ np)).2.1), (0, (mSn (up2 σ 295 46 0) b t np (L t) z (2 ^ np)).2.2), x], [(0, (mSn (up2 σ 295 46 0) b t np (L t) z (2 ^ np)).2.1)], (up2 σ 295 46 0))) rfl rfl ?_
                  exact TT.ret (cd := cd102) rfl rfl rfl rfl (⟨fun hh => by first | exact ⟨rfl, rfl⟩ | (exfalso; omega), fun hh => by first | (exfalso; omega) | (refine ⟨?_, rfl⟩; first | (rw [if_pos (by omega)]; done) | (rw [if_neg (by omega)]; done) | (rw [if_pos (by omega), if_pos (by omega)]; done) | (rw [if_pos (by omega), if_neg (by omega)]; done) | (rw [if_neg (by omega), if_pos (by omega)]; done) | (rw [if_neg (by omega), if_neg (by omega)]; done) | (rw [if_pos (by omega), if_pos (by omega), if_pos (by omega)]; done) | (rw [if_pos (by omega), if_pos (by omega), if_neg (by omega)]; done) | (rw [if_pos (by omega), if_neg (by omega), if_pos (by omega)]; done) | (rw [if_pos (by omega), if_neg (by omega), if_neg (by omega)]; done) | (rw [if_neg (by omega), if_pos (by omega), if_pos (by omega)]; done) | (rw [if_neg (by omega), if_pos (by omega), if_neg (by omega)]; done) | (rw [if_neg (by omega), if_neg (by omega), if_pos (by omega)]; done) | (rw [if_neg (by omega), if_neg (by omega), if_neg (by omega)]; done))⟩)
              · refine TT.steps (cd := cd102) 2 (c' := (96, [(2, 295), (0, ((t : Nat) : Int)), (0, z), (0, w), (0, (mSn (up2 σ 295 46 0) b t np (L t) z (2 ^ np)).1), (0, (mSn (up2 σ 295 46 0) b t np (L t) z (2 ^ np)).2.1), (0, (mSn (up2 σ 295 46 0) b t np (L t) z (2 ^ np)).2.2), x], [(0, 0)], (up2 σ 295 46 0))) rfl rfl ?_
                exact TT.ret (cd := cd102) rfl rfl rfl rfl (⟨fun hh => by first | exact ⟨rfl, rfl⟩ | (exfalso; omega), fun hh => by first | (exfalso; omega) | (refine ⟨?_, rfl⟩; first | (rw [if_pos (by omega)]; done) | (rw [if_neg (by omega)]; done) | (rw [if_pos (by omega), if_pos (by omega)]; done) | (rw [if_pos (by omega), if_neg (by omega)]; done) | (rw [if_neg (by omega), if_pos (by omega)]; done) | (rw [if_neg (by omega), if_neg (by omega)]; done) | (rw [if_pos (by omega), if_pos (by omega), if_pos (by omega)]; done) | (rw [if_pos (by omega), if_pos (by omega), if_neg (by omega)]; done) | (rw [if_pos (by omega), if_neg (by omega), if_pos (by omega)]; done) | (rw [if_pos (by omega), if_neg (by omega), if_neg (by omega)]; done) | (rw [if_neg (by omega), if_pos (by omega), if_pos (by omega)]; done) | (rw [if_neg (by omega), if_pos (by omega), if_neg (by omega)]; done) | (rw [if_neg (by omega), if_neg (by omega), if_pos (by omega)]; done) | (rw [if_neg (by omega), if_neg (by omega), if_neg (by omega)]; done))⟩)
            · refine TT.steps (cd := cd102) 2 (c' := (96, [(2, 295), (0, ((t : Nat) : Int)), (0, z), (0, w), (0, (mSn (up2 σ 295 46 0) b t np (L t) z (2 ^ np)).1), (0, (mSn (up2 σ 295 46 0) b t np (L t) z (2 ^ np)).2.1), (0, (mSn (up2 σ 295 46 0) b t np (L t) z (2 ^ np)).2.2), x], [(0, (mSn (up2 σ 295 46 0) b t np (L t) z (2 ^ np)).1)], (up2 σ 295 46 0))) rfl rfl ?_
              exact TT.ret (cd := cd102) rfl rfl rfl rfl (⟨fun hh => by first | exact ⟨rfl, rfl⟩ | (exfalso; omega), fun hh => by first | (exfalso; omega) | (refine ⟨?_, rfl⟩; first | (rw [if_pos (by omega)]; done) | (rw [if_neg (by omega)]; done) | (rw [if_pos (by omega), if_pos (by omega)]; done) | (rw [if_pos (by omega), if_neg (by omega)]; done) | (rw [if_neg (by omega), if_pos (by omega)]; done) | (rw [if_neg (by omega), if_neg (by omega)]; done) | (rw [if_pos (by omega), if_pos (by omega), if_pos (by omega)]; done) | (rw [if_pos (by omega), if_pos (by omega), if_neg (by omega)]; done) | (rw [if_pos (by omega), if_neg (by omega), if_pos (by omega)]; done) | (rw [if_pos (by omega), if_neg (by omega), if_neg (by omega)]; done) | (rw [if_neg (by omega), if_pos (by omega), if_pos (by omega)]; done) | (rw [if_neg (by omega), if_pos (by omega), if_neg (by omega)]; done) | (rw [if_neg (by omega), if_neg (by omega), if_pos (by omega)]; done) | (rw [if_neg (by omega), if_neg (by omega), if_neg (by omega)]; done))⟩)
          · refine TT.steps (cd := cd102) 1 (c' := (35, [(2, 295), (0, ((t : Nat) : Int)), (0, z), (0, w), (9, 0), (9, 0), (9, 0), (9, 0)], [(0, -1)], σ)) rfl rfl ?_
            exact TT.ret (cd := cd102) rfl rfl rfl rfl (⟨fun hh => by first | exact ⟨rfl, rfl⟩ | (exfalso; omega), fun hh => by first | (exfalso; omega) | (refine ⟨?_, rfl⟩; first | (rw [if_pos (by omega)]; done) | (rw [if_neg (by omega)]; done) | (rw [if_pos (by omega), if_pos (by omega)]; done) | (rw [if_pos (by omega), if_neg (by omega)]; done) | (rw [if_neg (by omega), if_pos (by omega)]; done) | (rw [if_neg (by omega), if_neg (by omega)]; done) | (rw [if_pos (by omega), if_pos (by omega), if_pos (by omega)]; done) | (rw [if_pos (by omega), if_pos (by omega), if_neg (by omega)]; done) | (rw [if_pos (by omega), if_neg (by omega), if_pos (by omega)]; done) | (rw [if_pos (by omega), if_neg (by omega), if_neg (by omega)]; done) | (rw [if_neg (by omega), if_pos (by omega), if_pos (by omega)]; done) | (rw [if_neg (by omega), if_pos (by omega), if_neg (by omega)]; done) | (rw [if_neg (by omega), if_neg (by omega), if_pos (by omega)]; done) | (rw [if_neg (by omega), if_neg (by omega), if_neg (by omega)]; done))⟩)
      · refine TT.steps (cd := cd102) 1 (c' := (19, [(2, 295), (0, ((t : Nat) : Int)), (0, z), (0, w), (9, 0), (9, 0), (9, 0), (9, 0)], [(0, -1)], σ)) rfl rfl ?_
        exact TT.ret (cd := cd102) rfl rfl rfl rfl (⟨fun hh => by first | exact ⟨rfl, rfl⟩ | (exfalso; omega), fun hh => by first | (exfalso; omega) | (refine ⟨?_, rfl⟩; first | (rw [if_pos (by omega)]; done) | (rw [if_neg (by omega)]; done) | (rw [if_pos (by omega), if_pos (by omega)]; done) | (rw [if_pos (by omega), if_neg (by omega)]; done) | (rw [if_neg (by omega), if_pos (by omega)]; done) | (rw [if_neg (by omega), if_neg (by omega)]; done) | (rw [if_pos (by omega), if_pos (by omega), if_pos (by omega)]; done) | (rw [if_pos (by omega), if_pos (by omega), if_neg (by omega)]; done) | (rw [if_pos (by omega), if_neg (by omega), if_pos (by omega)]; done) | (rw [if_pos (by omega), if_neg (by omega), if_neg (by omega)]; done) | (rw [if_neg (by omega), if_pos (by omega), if_pos (by omega)]; done) | (rw [if_neg (by omega), if_pos (by omega), if_neg (by omega)]; done) | (rw [if_neg (by omega), if_neg (by omega), if_pos (by omega)]; done) | (rw [if_neg (by omega), if_neg (by omega), if_neg (by omega)]; done))⟩)
theorem t_seen0 (X : AX) (t z w : Int) (np nt : Nat) (L : Nat → Nat) (σ : AH) {b : Nat} (hb : σ 295 13 = (b : Int)) (hb2 : b < 2) (hnp : σ 307 b = (np : Int)) (hnp2 : np ≤ 10) (hnt : σ 300 b = (nt : Int)) (hnt2 : nt ≤ 6) (hL : ∀ t, t < nt → σ 304 (6 * b + t) = (L t : Int) ∧ 2 ≤ L t ∧ L t ≤ 8) (ht : ¬ (0 ≤ t ∧ t < (nt : Int)))  : TT X 102 (0, [(2, 295), (0, t), (0, z), (0, w), (9, 0), (9, 0), (9, 0), (9, 0)], [], σ) (fun r σ' => r = some (0, -1) ∧ σ' = σ) := by
  refine TT.steps (cd := cd102) 2 (c' := (2, [(2, 295), (0, t), (0, z), (0, w), (9, 0), (9, 0), (9, 0), (9, 0)], [(0, t), (2, 295)], σ)) rfl rfl ?_
  refine TT.call (cd := cd102) rfl rfl rfl (by decide) rfl (t_isTrain X t σ hb hb2) (fun r1 σ1 hq => ?_)
  rw [hq.1, hq.2, hnt]
  refine TT.steps (cd := cd102) 1 (c' := ((if decide (((if 0 ≤ t ∧ t < (nt : Int) then 1 else 0) : Int) = 0) = true then 18 else 4), [(2, 295), (0, t), (0, z), (0, w), (9, 0), (9, 0), (9, 0), (9, 0)], [], σ)) rfl rfl ?_
  refine TT.br (p := ((if 0 ≤ t ∧ t < (nt : Int) then 1 else 0) : Int) = 0) (fun h2 => ?_) (fun h2 => ?_)
  · replace h2 := ite_f h2
    refine TT.steps (cd := cd102) 1 (c' := (19, [(2, 295), (0, t), (0, z), (0, w), (9, 0), (9, 0), (9, 0), (9, 0)], [(0, -1)], σ)) rfl rfl ?_
    exact TT.ret (cd := cd102) rfl rfl rfl rfl (⟨rfl, rfl⟩)
  · replace h2 := ite_t h2
    exact absurd (by assumption) ht
/-- years of one run: died, heap -/
def ryF (b np nt : Nat) (L : Nat → Nat) : Nat → Int × AH → Int × AH
  | 0, S => S
  | d + 1, S => if S.2 316 1 < 9999 then ryF b np nt L d (aAdd S.1 (((mYear S.2 b 1 np nt L).1 : Nat) : Int), (mYear S.2 b 1 np nt L).2) else S
theorem ryF_fr (b np nt : Nat) (L : Nat → Nat) (c j : Nat) (h : c ≠ 295 ∧ (c < 316 ∨ 337 < c)) : ∀ (d : Nat) (S : Int × AH), (ryF b np nt L d S).2 c j = S.2 c j := by
  intro d
  induction d with
  | zero => intro S; rfl
  | succ d ih =>
    intro S
    rw [ryF]
    split
    · rw [ih]
      exact mYear_fr _ _ _ _ _ _ _ _ h
    · rfl
theorem ryF_M (b np nt : Nat) (L : Nat → Nat) (j : Nat) (h : j ≠ 43 ∧ j ≠ 46) : ∀ (d : Nat) (S : Int × AH), (ryF b np nt L d S).2 295 j = S.2 295 j := by
  intro d
  induction d with
  | zero => intro S; rfl
  | succ d ih =>
    intro S
    rw [ryF]
    split
    · rw [ih]
      exact mYear_M _ _ _ _ _ _ _ h
    · rfl
theorem l_runs1 (X : AX) (Q : Option AV → AH → Prop) (m ys i : Nat) (hys : ys ≤ 20) (s w de : Int) (np nt : Nat) (L : Nat → Nat) (σ : AH) {b : Nat} (hb : σ 295 13 = (b : Int)) (hb2 : b < 2) (hnp : σ 307 b = (np : Int)) (hnp2 : np ≤ 10) (hnt : σ 300 b = (nt : Int)) (hnt2 : nt ≤ 6) (hL : ∀ t, t < nt → σ 304 (6 * b + t) = (L t : Int) ∧ 2 ≤ L t ∧ L t ≤ 8) : ∀ (d k : Nat) (di : Int) (τ : AH), k + d = ys → (∀ c j, c ≠ 295 ∧ (c < 316 ∨ 337 < c) → τ c j = σ c j) → (∀ j, j ≠ 43 ∧ j ≠ 46 → τ 295 j = σ 295 j) → (∀ x : AV, TT X 104 (53, [(2, 295), (0, ((m : Nat) : Int)), (0, ((ys : Nat) : Int)), (0, s), (0, w), (0, de), (0, (ryF b np nt L d (di, τ)).1), (0, ((i : Nat) : Int)), x], [], (ryF b np nt L d (di, τ)).2) Q) → TT X 104 (36, [(2, 295), (0, ((m : Nat) : Int)), (0, ((ys : Nat) : Int)), (0, s), (0, w), (0, de), (0, di), (0, ((i : Nat) : Int)), (0, ((k : Nat) : Int))], [], τ) Q := by
  intro d
  induction d with
  | zero =>
    intro k di τ hn hfr hfM kk
    refine TT.steps (cd := cd104) 3 (c' := ((if decide (((ys : Nat) : Int) ≤ ((k : Nat) : Int)) = true then 53 else 39), [(2, 295), (0, ((m : Nat) : Int)), (0, ((ys : Nat) : Int)), (0, s), (0, w), (0, de), (0, di), (0, ((i : Nat) : Int)), (0, ((k : Nat) : Int))], [], τ)) rfl rfl ?_
    refine TT.br (p := ((ys : Nat) : Int) ≤ ((k : Nat) : Int)) (fun h1 => ?_) (fun h1 => absurd (show ((ys : Nat) : Int) ≤ ((k : Nat) : Int) by omega) h1)
    exact kk _
  | succ d ih =>
    intro k di τ hn hfr hfM kk
    rw [ryF] at kk
    dsimp only at kk
    refine TT.steps (cd := cd104) 3 (c' := ((if decide (((ys : Nat) : Int) ≤ ((k : Nat) : Int)) = true then 53 else 39), [(2, 295), (0, ((m : Nat) : Int)), (0, ((ys : Nat) : Int)), (0, s), (0, w), (0, de), (0, di), (0, ((i : Nat) : Int)), (0, ((k : Nat) : Int))], [], τ)) rfl rfl ?_
    refine TT.br (p := ((ys : Nat) : Int) ≤ ((k : Nat) : Int)) (fun h1 => absurd h1 (show ¬ (((ys : Nat) : Int) ≤ ((k : Nat) : Int)) by omega)) (fun h1 => ?_)
    refine TT.steps (cd := cd104) 3 (c' := (42, [(2, 295), (0, ((m : Nat) : Int)), (0, ((ys : Nat) : Int)), (0, s), (0, w), (0, de), (0, di), (0, ((i : Nat) : Int)), (0, ((k : Nat) : Int))], [(0, 1), (2, 316)], τ)) rfl rfl ?_
    refine TT.aldN (cd := cd104) (316) (1) rfl rfl rfl rfl (show 1 < 22 by omega) ?_
    refine TT.steps (cd := cd104) 2 (c' := ((if decide (9999 ≤ (τ 316 1)) = true then 53 else 45), [(2, 295), (0, ((m : Nat) : Int)), (0, ((ys : Nat) : Int)), (0, s), (0, w), (0, de), (0, di), (0, ((i : Nat) : Int)), (0, ((k : Nat) : Int))], [], τ)) rfl rfl ?_
    refine TT.br (p := 9999 ≤ (τ 316 1)) (fun h2 => ?_) (fun h2 => ?_)
    · rw [if_neg (by omega)] at kk
      exact kk _
    · refine TT.steps (cd := cd104) 3 (c' := (48, [(2, 295), (0, ((m : Nat) : Int)), (0, ((ys : Nat) : Int)), (0, s), (0, w), (0, de), (0, di), (0, ((i : Nat) : Int)), (0, ((k : Nat) : Int))], [(0, 1), (2, 295), (0, di)], τ)) rfl rfl ?_
      refine TT.call (cd := cd104) rfl rfl rfl (by decide) rfl (t_yearOf X np nt L τ (v := 1) ((hfM (13) (by decide)).trans hb) hb2 (by decide) ((hfr 307 (b) (by decide)).trans hnp) hnp2 ((hfr 300 (b) (by decide)).trans hnt) hnt2 (fun t ht => ⟨(show ∀ j, τ 304 j = σ 304 j from fun j => (hfr 304 (j) (by decide))) _ |>.trans (hL t ht).1, (hL t ht).2⟩)) (fun r3 σ3 hq => ?_)
      rw [hq.1, hq.2]
      refine TT.steps (cd := cd104) 1 (c' := (50, [(2, 295), (0, ((m : Nat) : Int)), (0, ((ys : Nat) : Int)), (0, s), (0, w), (0, de), (0, di), (0, ((i : Nat) : Int)), (0, ((k : Nat) : Int))], [(0, (aAdd di (((mYear τ b 1 np nt L).1 : Nat) : Int)))], ((mYear τ b 1 np nt L).2))) rfl rfl ?_
      refine TT.steps (cd := cd104) 1 (c' := (51, [(2, 295), (0, ((m : Nat) : Int)), (0, ((ys : Nat) : Int)), (0, s), (0, w), (0, de), (0, (aAdd di (((mYear τ b 1 np nt L).1 : Nat) : Int))), (0, ((i : Nat) : Int)), (0, ((k : Nat) : Int))], [], ((mYear τ b 1 np nt L).2))) rfl rfl ?_
      refine TT.inc (cd := cd104) ((k + 1 : Nat) : Int) rfl rfl rfl rfl (fun h => absurd h.2 (show ¬ (0 = 1) by decide)) (aAdd_n (a := k) (b := 1) (by omega)) (ls' := [(2, 295), (0, ((m : Nat) : Int)), (0, ((ys : Nat) : Int)), (0, s), (0, w), (0, de), (0, (aAdd di (((mYear τ b 1 np nt L).1 : Nat) : Int))), (0, ((i : Nat) : Int)), (0, ((k + 1 : Nat) : Int))]) rfl ?_
      refine TT.steps (cd := cd104) 1 (c' := (36, [(2, 295), (0, ((m : Nat) : Int)), (0, ((ys : Nat) : Int)), (0, s), (0, w), (0, de), (0, (aAdd di (((mYear τ b 1 np nt L).1 : Nat) : Int))), (0, ((i : Nat) : Int)), (0, ((k + 1 : Nat) : Int))], [], ((mYear τ b 1 np nt L).2))) rfl rfl ?_
      rw [if_pos (by omega)] at kk
      refine ih (k + 1) _ ((mYear τ b 1 np nt L).2) (by omega) (fun c j h => ?_) (fun j h => ?_) kk
      · rw [mYear_fr _ _ _ _ _ _ _ _ h, hfr c j h]
      · rw [mYear_M _ _ _ _ _ _ _ h, hfM j h]
