/-- stops of a train by the births of some -/
def sbP (σ : AH) (v b t k : Nat) (z a : Int) : Nat → Int
  | 0 => a
  | n + 1 => if aAnd (aShr z ((n : Nat) : Int)) 1 = 1 ∧ mBA σ v n (σ 305 (8 * (6 * b + t) + k)) then aOr (sbP σ v b t k z a n) (aShl 1 ((k : Nat) : Int)) else sbP σ v b t k z a n
def sbK (σ : AH) (v b t np lt : Nat) (z : Int) : Nat → Int
  | 0 => aOr 1 (aShl 1 ((lt - 1 : Nat) : Int))
  | j + 1 => sbP σ v b t (j + 1) z (sbK σ v b t np lt z j) np
abbrev mSb (σ : AH) (v b t np lt : Nat) (z : Int) : Int := sbK σ v b t np lt z (lt - 2)
theorem l_sb1 (X : AX) (Q : Option AV → AH → Prop) (t k : Nat) (ht : t < 6) (hk : k < 8) (z a : Int) (np : Nat) (σ : AH) {b v : Nat} (hb : σ 295 13 = (b : Int)) (hb2 : b < 2) (hv : σ 295 46 = (v : Int)) (hv2 : v < 22) (hnp : σ 307 b = (np : Int)) (hnp2 : np ≤ 10) (kk : ∀ x : AV, TT X 229 (51, [(2, 295), (0, ((t : Nat) : Int)), (0, z), (0, (sbP σ v b t k z a np)), (0, ((k : Nat) : Int)), x], [], σ) Q) : ∀ (d n : Nat), n + d = np → TT X 229 (21, [(2, 295), (0, ((t : Nat) : Int)), (0, z), (0, (sbP σ v b t k z a n)), (0, ((k : Nat) : Int)), (0, ((n : Nat) : Int))], [], σ) Q := by
  intro d
  induction d with
  | zero =>
    intro n hn 
    have hnn : n = np := by omega
    refine TT.steps (cd := cd229) 5 (c' := (26, [(2, 295), (0, ((t : Nat) : Int)), (0, z), (0, (sbP σ v b t k z a n)), (0, ((k : Nat) : Int)), (0, ((n : Nat) : Int))], [(0, (σ 295 13)), (2, 307), (0, ((n : Nat) : Int))], σ)) rfl rfl ?_
    refine TT.top0 (z := ((b : Nat) : Int)) hb ?_
    refine TT.aldN (cd := cd229) (307) (b) rfl rfl rfl rfl (show b < 2 by omega) ?_
    refine TT.top0 (z := ((np : Nat) : Int)) hnp ?_
    refine TT.steps (cd := cd229) 1 (c' := ((if decide (((np : Nat) : Int) ≤ ((n : Nat) : Int)) = true then 51 else 28), [(2, 295), (0, ((t : Nat) : Int)), (0, z), (0, (sbP σ v b t k z a n)), (0, ((k : Nat) : Int)), (0, ((n : Nat) : Int))], [], σ)) rfl rfl ?_
    refine TT.br (p := ((np : Nat) : Int) ≤ ((n : Nat) : Int)) (fun h1 => ?_) (fun h1 => absurd (show ((np : Nat) : Int) ≤ ((n : Nat) : Int) by omega) h1)
    subst hnn
    exact kk _
  | succ d ih =>
    intro n hn 
    refine TT.steps (cd := cd229) 5 (c' := (26, [(2, 295), (0, ((t : Nat) : Int)), (0, z), (0, (sbP σ v b t k z a n)), (0, ((k : Nat) : Int)), (0, ((n : Nat) : Int))], [(0, (σ 295 13)), (2, 307), (0, ((n : Nat) : Int))], σ)) rfl rfl ?_
    refine TT.top0 (z := ((b : Nat) : Int)) hb ?_
    refine TT.aldN (cd := cd229) (307) (b) rfl rfl rfl rfl (show b < 2 by omega) ?_
    refine TT.top0 (z := ((np : Nat) : Int)) hnp ?_
    refine TT.steps (cd := cd229) 1 (c' := ((if decide (((np : Nat) : Int) ≤ ((n : Nat) : Int)) = true then 51 else 28), [(2, 295), (0, ((t : Nat) : Int)), (0, z), (0, (sbP σ v b t k z a n)), (0, ((k : Nat) : Int)), (0, ((n : Nat) : Int))], [], σ)) rfl rfl ?_
    refine TT.br (p := ((np : Nat) : Int) ≤ ((n : Nat) : Int)) (fun h1 => absurd h1 (show ¬ (((np : Nat) : Int) ≤ ((n : Nat) : Int)) by omega)) (fun h1 => ?_)
    refine TT.steps (cd := cd229) 7 (c' := ((if decide (¬ (aAnd (aShr z ((n : Nat) : Int)) 1) = 1) = true then 49 else 35), [(2, 295), (0, ((t : Nat) : Int)), (0, z), (0, (sbP σ v b t k z a n)), (0, ((k : Nat) : Int)), (0, ((n : Nat) : Int))], [], σ)) rfl rfl ?_
    refine TT.br (p := ¬ (aAnd (aShr z ((n : Nat) : Int)) 1) = 1) (fun h2 => ?_) (fun h2 => ?_)
    · refine TT.inc (cd := cd229) ((n + 1 : Nat) : Int) rfl rfl rfl rfl (fun h => absurd h.2 (show ¬ (0 = 1) by decide)) (aAdd_n (a := n) (b := 1) (by omega)) (ls' := [(2, 295), (0, ((t : Nat) : Int)), (0, z), (0, (sbP σ v b t k z a n)), (0, ((k : Nat) : Int)), (0, ((n + 1 : Nat) : Int))]) rfl ?_
      refine TT.steps (cd := cd229) 1 (c' := (21, [(2, 295), (0, ((t : Nat) : Int)), (0, z), (0, (sbP σ v b t k z a n)), (0, ((k : Nat) : Int)), (0, ((n + 1 : Nat) : Int))], [], σ)) rfl rfl ?_
      have := ih (n + 1) (by omega)
      simp only [sbP] at this
      first | (rw [if_pos ⟨by omega, by assumption⟩] at this; exact this) | (rw [if_neg (fun hc => by first | exact absurd hc.2 (by assumption) | omega)] at this; exact this)
    · refine TT.steps (cd := cd229) 5 (c' := (40, [(2, 295), (0, ((t : Nat) : Int)), (0, z), (0, (sbP σ v b t k z a n)), (0, ((k : Nat) : Int)), (0, ((n : Nat) : Int))], [(0, ((k : Nat) : Int)), (0, ((t : Nat) : Int)), (2, 295), (0, ((n : Nat) : Int)), (2, 295)], σ)) rfl rfl ?_
      refine TT.call (cd := cd229) rfl rfl rfl (by decide) rfl (t_callOf X t k (by omega) (by omega) σ hb hb2) (fun r3 σ3 hq => ?_)
      rw [hq.1, hq.2]
      refine TT.call (cd := cd229) rfl rfl rfl (by decide) rfl (t_isBornAt X n (by omega) (σ 305 (8 * (6 * b + t) + k)) σ hv hv2) (fun r4 σ4 hq => ?_)
      rw [hq.1, hq.2]
      refine TT.steps (cd := cd229) 1 (c' := ((if decide (((if mBA σ v n (σ 305 (8 * (6 * b + t) + k)) then 1 else 0) : Int) = 0) = true then 49 else 43), [(2, 295), (0, ((t : Nat) : Int)), (0, z), (0, (sbP σ v b t k z a n)), (0, ((k : Nat) : Int)), (0, ((n : Nat) : Int))], [], σ)) rfl rfl ?_
      refine TT.br (p := ((if mBA σ v n (σ 305 (8 * (6 * b + t) + k)) then 1 else 0) : Int) = 0) (fun h5 => ?_) (fun h5 => ?_)
      · replace h5 := ite_f h5
        refine TT.inc (cd := cd229) ((n + 1 : Nat) : Int) rfl rfl rfl rfl (fun h => absurd h.2 (show ¬ (0 = 1) by decide)) (aAdd_n (a := n) (b := 1) (by omega)) (ls' := [(2, 295), (0, ((t : Nat) : Int)), (0, z), (0, (sbP σ v b t k z a n)), (0, ((k : Nat) : Int)), (0, ((n + 1 : Nat) : Int))]) rfl ?_
        refine TT.steps (cd := cd229) 1 (c' := (21, [(2, 295), (0, ((t : Nat) : Int)), (0, z), (0, (sbP σ v b t k z a n)), (0, ((k : Nat) : Int)), (0, ((n + 1 : Nat) : Int))], [], σ)) rfl rfl ?_
        have := ih (n + 1) (by omega)
        simp only [sbP] at this
        first | (rw [if_pos ⟨by omega, by assumption⟩] at this; exact this) | (rw [if_neg (fun hc => by first | exact absurd hc.2 (by assumption) | omega)] at this; exact this)
      · replace h5 := ite_t h5
        refine TT.steps (cd := cd229) 6 (c' := (49, [(2, 295), (0, ((t : Nat) : Int)), (0, z), (0, (aOr (sbP σ v b t k z a n) (aShl 1 ((k : Nat) : Int)))), (0, ((k : Nat) : Int)), (0, ((n : Nat) : Int))], [], σ)) rfl rfl ?_
        refine TT.inc (cd := cd229) ((n + 1 : Nat) : Int) rfl rfl rfl rfl (fun h => absurd h.2 (show ¬ (0 = 1) by decide)) (aAdd_n (a := n) (b := 1) (by omega)) (ls' := [(2, 295), (0, ((t : Nat) : Int)), (0, z), (0, (aOr (sbP σ v b t k z a n) (aShl 1 ((k : Nat) : Int)))), (0, ((k : Nat) : Int)), (0, ((n + 1 : Nat) : Int))]) rfl ?_
        refine TT.steps (cd := cd229) 1 (c' := (21, [(2, 295), (0, ((t : Nat) : Int)), (0, z), (0, (aOr (sbP σ v b t k z a n) (aShl 1 ((k : Nat) : Int)))), (0, ((k : Nat) : Int)), (0, ((n + 1 : Nat) : Int))], [], σ)) rfl rfl ?_
        have := ih (n + 1) (by omega)
        simp only [sbP] at this
        first | (rw [if_pos ⟨by omega, by assumption⟩] at this; exact this) | (rw [if_neg (fun hc => by first | exact absurd hc.2 (by assumption) | omega)] at this; exact this)
theorem l_sb2 (X : AX) (t lt : Nat) (ht : t < 6) (z : Int) (np : Nat) (σ : AH) {b v : Nat} (hb : σ 295 13 = (b : Int)) (hb2 : b < 2) (hv : σ 295 46 = (v : Int)) (hv2 : v < 22) (hnp : σ 307 b = (np : Int)) (hnp2 : np ≤ 10) (hlt : σ 304 (6 * b + t) = (lt : Int)) (hlt2 : 2 ≤ lt ∧ lt ≤ 8) : ∀ (d n : Nat), n + d = lt - 2 → ∀ y : AV, TT X 229 (12, [(2, 295), (0, ((t : Nat) : Int)), (0, z), (0, (sbK σ v b t np lt z n)), (0, ((n + 1 : Nat) : Int)), y], [], σ) (fun r σ' => r = some (0, mSb σ v b t np lt z) ∧ σ' = σ) := by
  intro d
  induction d with
  | zero =>
    intro n hn y
    have hnn : n = lt - 2 := by omega
    refine TT.steps (cd := cd229) 3 (c' := (15, [(2, 295), (0, ((t : Nat) : Int)), (0, z), (0, (sbK σ v b t np lt z n)), (0, ((n + 1 : Nat) : Int)), y], [(0, ((t : Nat) : Int)), (2, 295), (0, ((n + 1 : Nat) : Int))], σ)) rfl rfl ?_
    refine TT.call (cd := cd229) rfl rfl rfl (by decide) rfl (t_callsOf X t (by omega) σ hb hb2) (fun r1 σ1 hq => ?_)
    rw [hq.1, hq.2]
    refine TT.top0 (z := ((lt : Nat) : Int)) hlt ?_
    refine TT.steps (cd := cd229) 2 (c' := (18, [(2, 295), (0, ((t : Nat) : Int)), (0, z), (0, (sbK σ v b t np lt z n)), (0, ((n + 1 : Nat) : Int)), y], [(0, (aSub ((lt : Nat) : Int) 1)), (0, ((n + 1 : Nat) : Int))], σ)) rfl rfl ?_
    refine TT.top0 (z := ((lt - 1 : Nat) : Int)) (aSub_n (a := lt) (b := 1) (by omega) (by omega)) ?_
    refine TT.steps (cd := cd229) 1 (c' := ((if decide (((lt - 1 : Nat) : Int) ≤ ((n + 1 : Nat) : Int)) = true then 53 else 19), [(2, 295), (0, ((t : Nat) : Int)), (0, z), (0, (sbK σ v b t np lt z n)), (0, ((n + 1 : Nat) : Int)), y], [], σ)) rfl rfl ?_
    refine TT.br (p := ((lt - 1 : Nat) : Int) ≤ ((n + 1 : Nat) : Int)) (fun h2 => ?_) (fun h2 => absurd (show ((lt - 1 : Nat) : Int) ≤ ((n + 1 : Nat) : Int) by omega) h2)
    refine TT.steps (cd := cd229) 1 (c' := (54, [(2, 295), (0, ((t : Nat) : Int)), (0, z), (0, (sbK σ v b t np lt z n)), (0, ((n + 1 : Nat) : Int)), y], [(0, (sbK σ v b t np lt z n))], σ)) rfl rfl ?_
    exact TT.ret (cd := cd229) rfl rfl rfl rfl (⟨by rw [hnn], rfl⟩)
  | succ d ih =>
    intro n hn y
    refine TT.steps (cd := cd229) 3 (c' := (15, [(2, 295), (0, ((t : Nat) : Int)), (0, z), (0, (sbK σ v b t np lt z n)), (0, ((n + 1 : Nat) : Int)), y], [(0, ((t : Nat) : Int)), (2, 295), (0, ((n + 1 : Nat) : Int))], σ)) rfl rfl ?_
    refine TT.call (cd := cd229) rfl rfl rfl (by decide) rfl (t_callsOf X t (by omega) σ hb hb2) (fun r1 σ1 hq => ?_)
    rw [hq.1, hq.2]
    refine TT.top0 (z := ((lt : Nat) : Int)) hlt ?_
    refine TT.steps (cd := cd229) 2 (c' := (18, [(2, 295), (0, ((t : Nat) : Int)), (0, z), (0, (sbK σ v b t np lt z n)), (0, ((n + 1 : Nat) : Int)), y], [(0, (aSub ((lt : Nat) : Int) 1)), (0, ((n + 1 : Nat) : Int))], σ)) rfl rfl ?_
    refine TT.top0 (z := ((lt - 1 : Nat) : Int)) (aSub_n (a := lt) (b := 1) (by omega) (by omega)) ?_
    refine TT.steps (cd := cd229) 1 (c' := ((if decide (((lt - 1 : Nat) : Int) ≤ ((n + 1 : Nat) : Int)) = true then 53 else 19), [(2, 295), (0, ((t : Nat) : Int)), (0, z), (0, (sbK σ v b t np lt z n)), (0, ((n + 1 : Nat) : Int)), y], [], σ)) rfl rfl ?_
    refine TT.br (p := ((lt - 1 : Nat) : Int) ≤ ((n + 1 : Nat) : Int)) (fun h2 => absurd h2 (show ¬ (((lt - 1 : Nat) : Int) ≤ ((n + 1 : Nat) : Int)) by omega)) (fun h2 => ?_)
    refine TT.steps (cd := cd229) 2 (c' := (21, [(2, 295), (0, ((t : Nat) : Int)), (0, z), (0, (sbK σ v b t np lt z n)), (0, ((n + 1 : Nat) : Int)), (0, 0)], [], σ)) rfl rfl ?_
    refine l_sb1 X _ t (n + 1) ht (by omega) z _ np σ hb hb2 hv hv2 hnp hnp2 (fun x => ?_) np 0 (by omega)
    refine TT.inc (cd := cd229) (((n + 1) + 1 : Nat) : Int) rfl rfl rfl rfl (fun h => absurd h.2 (show ¬ (0 = 1) by decide)) (aAdd_n (a := n + 1) (b := 1) (by omega)) (ls' := [(2, 295), (0, ((t : Nat) : Int)), (0, z), (0, (sbP σ v b t (n + 1) z (sbK σ v b t np lt z n) np)), (0, (((n + 1) + 1 : Nat) : Int)), x]) rfl ?_
    refine TT.steps (cd := cd229) 1 (c' := (12, [(2, 295), (0, ((t : Nat) : Int)), (0, z), (0, (sbP σ v b t (n + 1) z (sbK σ v b t np lt z n) np)), (0, (((n + 1) + 1 : Nat) : Int)), x], [], σ)) rfl rfl ?_
    exact ih (n + 1) (by omega) _
theorem t_stopsBy (X : AX) (t lt : Nat) (ht : t < 6) (z : Int) (np : Nat) (σ : AH) {b v : Nat} (hb : σ 295 13 = (b : Int)) (hb2 : b < 2) (hv : σ 295 46 = (v : Int)) (hv2 : v < 22) (hnp : σ 307 b = (np : Int)) (hnp2 : np ≤ 10) (hlt : σ 304 (6 * b + t) = (lt : Int)) (hlt2 : 2 ≤ lt ∧ lt ≤ 8)  : TT X 229 (0, [(2, 295), (0, ((t : Nat) : Int)), (0, z), (9, 0), (9, 0), (9, 0)], [], σ) (fun r σ' => r = some (0, mSb σ v b t np lt z) ∧ σ' = σ) := by
  refine TT.steps (cd := cd229) 4 (c' := (4, [(2, 295), (0, ((t : Nat) : Int)), (0, z), (9, 0), (9, 0), (9, 0)], [(0, ((t : Nat) : Int)), (2, 295), (0, 1), (0, 1)], σ)) rfl rfl ?_
  refine TT.call (cd := cd229) rfl rfl rfl (by decide) rfl (t_callsOf X t (by omega) σ hb hb2) (fun r1 σ1 hq => ?_)
  rw [hq.1, hq.2]
  refine TT.top0 (z := ((lt : Nat) : Int)) hlt ?_
  refine TT.steps (cd := cd229) 2 (c' := (7, [(2, 295), (0, ((t : Nat) : Int)), (0, z), (9, 0), (9, 0), (9, 0)], [(0, (aSub ((lt : Nat) : Int) 1)), (0, 1), (0, 1)], σ)) rfl rfl ?_
  refine TT.top0 (z := ((lt - 1 : Nat) : Int)) (aSub_n (a := lt) (b := 1) (by omega) (by omega)) ?_
  refine TT.steps (cd := cd229) 5 (c' := (12, [(2, 295), (0, ((t : Nat) : Int)), (0, z), (0, (aOr 1 (aShl 1 ((lt - 1 : Nat) : Int)))), (0, 1), (9, 0)], [], σ)) rfl rfl ?_
  exact l_sb2 X t lt ht z np σ hb hb2 hv hv2 hnp hnp2 hlt hlt2 (lt - 2) 0 (by omega) _
/-- who may be aboard: how many sets, all of them, some of them -/
def mSn (σ : AH) (b t np lt : Nat) (z : Int) : Nat → Int × Int × Int
  | 0 => (0, aSub ((2 ^ np : Nat) : Int) 1, 0)
  | n + 1 => if mSb σ 0 b t np lt ((n : Nat) : Int) = z then (aAdd (mSn σ b t np lt z n).1 1, aAnd (mSn σ b t np lt z n).2.1 ((n : Nat) : Int), aOr (mSn σ b t np lt z n).2.2 ((n : Nat) : Int)) else mSn σ b t np lt z n

theorem l_seen (X : AX) (Q : Option AV → AH → Prop) (t lt : Nat) (ht : t < 6) (z w : Int) (np : Nat) (σ : AH) {b : Nat} (hb : σ 295 13 = (b : Int)) (hb2 : b < 2) (hv : σ 295 46 = ((0 : Nat) : Int)) (hnp : σ 307 b = (np : Int)) (hnp2 : np ≤ 10) (hlt : σ 304 (6 * b + t) = (lt : Int)) (hlt2 : 2 ≤ lt ∧ lt ≤ 8) (kk : ∀ x : AV, TT X 230 (82, [(2, 295), (0, ((t : Nat) : Int)), (0, z), (0, w), (0, (mSn σ b t np lt z (2 ^ np)).1), (0, (mSn σ b t np lt z (2 ^ np)).2.1), (0, (mSn σ b t np lt z (2 ^ np)).2.2), x], [], σ) Q) : ∀ (d n : Nat), n + d = 2 ^ np → TT X 230 (55, [(2, 295), (0, ((t : Nat) : Int)), (0, z), (0, w), (0, (mSn σ b t np lt z n).1), (0, (mSn σ b t np lt z n).2.1), (0, (mSn σ b t np lt z n).2.2), (0, ((n : Nat) : Int))], [], σ) Q := by
  intro d
  have hN : 2 ^ np ≤ 1024 := pw10 np hnp2
  induction d with
  | zero =>
    intro n hn 
    have hnn : n = 2 ^ np := by omega
    refine TT.steps (cd := cd230) 6 (c' := (61, [(2, 295), (0, ((t : Nat) : Int)), (0, z), (0, w), (0, (mSn σ b t np lt z n).1), (0, (mSn σ b t np lt z n).2.1), (0, (mSn σ b t np lt z n).2.2), (0, ((n : Nat) : Int))], [(0, (σ 295 13)), (2, 307), (0, 1), (0, ((n : Nat) : Int))], σ)) rfl rfl ?_
    refine TT.top0 (z := ((b : Nat) : Int)) hb ?_
    refine TT.aldN (cd := cd230) (307) (b) rfl rfl rfl rfl (show b < 2 by omega) ?_
    refine TT.top0 (z := ((np : Nat) : Int)) hnp ?_
    refine TT.steps (cd := cd230) 1 (c' := (63, [(2, 295), (0, ((t : Nat) : Int)), (0, z), (0, w), (0, (mSn σ b t np lt z n).1), (0, (mSn σ b t np lt z n).2.1), (0, (mSn σ b t np lt z n).2.2), (0, ((n : Nat) : Int))], [(0, (aShl 1 ((np : Nat) : Int))), (0, ((n : Nat) : Int))], σ)) rfl rfl ?_
    refine TT.top0 (z := (((2 ^ np) : Nat) : Int)) (shl1 np hnp2) ?_
    refine TT.steps (cd := cd230) 1 (c' := ((if decide ((((2 ^ np) : Nat) : Int) ≤ ((n : Nat) : Int)) = true then 82 else 64), [(2, 295), (0, ((t : Nat) : Int)), (0, z), (0, w), (0, (mSn σ b t np lt z n).1), (0, (mSn σ b t np lt z n).2.1), (0, (mSn σ b t np lt z n).2.2), (0, ((n : Nat) : Int))], [], σ)) rfl rfl ?_
    refine TT.br (p := (((2 ^ np) : Nat) : Int) ≤ ((n : Nat) : Int)) (fun h1 => ?_) (fun h1 => absurd (show (((2 ^ np) : Nat) : Int) ≤ ((n : Nat) : Int) by omega) h1)
    subst hnn
    exact kk _
  | succ d ih =>
    intro n hn 
    refine TT.steps (cd := cd230) 6 (c' := (61, [(2, 295), (0, ((t : Nat) : Int)), (0, z), (0, w), (0, (mSn σ b t np lt z n).1), (0, (mSn σ b t np lt z n).2.1), (0, (mSn σ b t np lt z n).2.2), (0, ((n : Nat) : Int))], [(0, (σ 295 13)), (2, 307), (0, 1), (0, ((n : Nat) : Int))], σ)) rfl rfl ?_
    refine TT.top0 (z := ((b : Nat) : Int)) hb ?_
    refine TT.aldN (cd := cd230) (307) (b) rfl rfl rfl rfl (show b < 2 by omega) ?_
    refine TT.top0 (z := ((np : Nat) : Int)) hnp ?_
    refine TT.steps (cd := cd230) 1 (c' := (63, [(2, 295), (0, ((t : Nat) : Int)), (0, z), (0, w), (0, (mSn σ b t np lt z n).1), (0, (mSn σ b t np lt z n).2.1), (0, (mSn σ b t np lt z n).2.2), (0, ((n : Nat) : Int))], [(0, (aShl 1 ((np : Nat) : Int))), (0, ((n : Nat) : Int))], σ)) rfl rfl ?_
    refine TT.top0 (z := (((2 ^ np) : Nat) : Int)) (shl1 np hnp2) ?_
    refine TT.steps (cd := cd230) 1 (c' := ((if decide ((((2 ^ np) : Nat) : Int) ≤ ((n : Nat) : Int)) = true then 82 else 64), [(2, 295), (0, ((t : Nat) : Int)), (0, z), (0, w), (0, (mSn σ b t np lt z n).1), (0, (mSn σ b t np lt z n).2.1), (0, (mSn σ b t np lt z n).2.2), (0, ((n : Nat) : Int))], [], σ)) rfl rfl ?_
    refine TT.br (p := (((2 ^ np) : Nat) : Int) ≤ ((n : Nat) : Int)) (fun h1 => absurd h1 (show ¬ ((((2 ^ np) : Nat) : Int) ≤ ((n : Nat) : Int)) by omega)) (fun h1 => ?_)
    refine TT.steps (cd := cd230) 3 (c' := (67, [(2, 295), (0, ((t : Nat) : Int)), (0, z), (0, w), (0, (mSn σ b t np lt z n).1), (0, (mSn σ b t np lt z n).2.1), (0, (mSn σ b t np lt z n).2.2), (0, ((n : Nat) : Int))], [(0, ((n : Nat) : Int)), (0, ((t : Nat) : Int)), (2, 295)], σ)) rfl rfl ?_
    refine TT.call (cd := cd230) rfl rfl rfl (by decide) rfl (t_stopsBy X t lt ht ((n : Nat) : Int) np σ hb hb2 hv (by decide) hnp hnp2 hlt hlt2) (fun r2 σ2 hq => ?_)
    rw [hq.1, hq.2]
    refine TT.steps (cd := cd230) 2 (c' := ((if decide ((mSb σ 0 b t np lt ((n : Nat) : Int)) = z) = true then 71 else 70), [(2, 295), (0, ((t : Nat) : Int)), (0, z), (0, w), (0, (mSn σ b t np lt z n).1), (0, (mSn σ b t np lt z n).2.1), (0, (mSn σ b t np lt z n).2.2), (0, ((n : Nat) : Int))], [], σ)) rfl rfl ?_
    refine TT.br (p := (mSb σ 0 b t np lt ((n : Nat) : Int)) = z) (fun h3 => ?_) (fun h3 => ?_)
    · refine TT.inc (cd := cd230) (aAdd (mSn σ b t np lt z n).1 1) rfl rfl rfl rfl (fun h => absurd h.2 (show ¬ (0 = 1) by decide)) rfl (ls' := [(2, 295), (0, ((t : Nat) : Int)), (0, z), (0, w), (0, (aAdd (mSn σ b t np lt z n).1 1)), (0, (mSn σ b t np lt z n).2.1), (0, (mSn σ b t np lt z n).2.2), (0, ((n : Nat) : Int))]) rfl ?_
      refine TT.steps (cd := cd230) 8 (c' := (80, [(2, 295), (0, ((t : Nat) : Int)), (0, z), (0, w), (0, (aAdd (mSn σ b t np lt z n).1 1)), (0, (aAnd (mSn σ b t np lt z n).2.1 ((n : Nat) : Int))), (0, (aOr (mSn σ b t np lt z n).2.2 ((n : Nat) : Int))), (0, ((n : Nat) : Int))], [], σ)) rfl rfl ?_
      refine TT.inc (cd := cd230) ((n + 1 : Nat) : Int) rfl rfl rfl rfl (fun h => absurd h.2 (show ¬ (0 = 1) by decide)) (aAdd_n (a := n) (b := 1) (by omega)) (ls' := [(2, 295), (0, ((t : Nat) : Int)), (0, z), (0, w), (0, (aAdd (mSn σ b t np lt z n).1 1)), (0, (aAnd (mSn σ b t np lt z n).2.1 ((n : Nat) : Int))), (0, (aOr (mSn σ b t np lt z n).2.2 ((n : Nat) : Int))), (0, ((n + 1 : Nat) : Int))]) rfl ?_
      refine TT.steps (cd := cd230) 1 (c' := (55, [(2, 295), (0, ((t : Nat) : Int)), (0, z), (0, w), (0, (aAdd (mSn σ b t np lt z n).1 1)), (0, (aAnd (mSn σ b t np lt z n).2.1 ((n : Nat) : Int))), (0, (aOr (mSn σ b t np lt z n).2.2 ((n : Nat) : Int))), (0, ((n + 1 : Nat) : Int))], [], σ)) rfl rfl ?_
      have := ih (n + 1) (by omega)
      simp only [mSn] at this
      first | (rw [if_pos (by omega)] at this; exact this) | (rw [if_neg (by omega)] at this; exact this)
    · refine TT.steps (cd := cd230) 1 (c' := (80, [(2, 295), (0, ((t : Nat) : Int)), (0, z), (0, w), (0, (mSn σ b t np lt z n).1), (0, (mSn σ b t np lt z n).2.1), (0, (mSn σ b t np lt z n).2.2), (0, ((n : Nat) : Int))], [], σ)) rfl rfl ?_
      refine TT.inc (cd := cd230) ((n + 1 : Nat) : Int) rfl rfl rfl rfl (fun h => absurd h.2 (show ¬ (0 = 1) by decide)) (aAdd_n (a := n) (b := 1) (by omega)) (ls' := [(2, 295), (0, ((t : Nat) : Int)), (0, z), (0, w), (0, (mSn σ b t np lt z n).1), (0, (mSn σ b t np lt z n).2.1), (0, (mSn σ b t np lt z n).2.2), (0, ((n + 1 : Nat) : Int))]) rfl ?_
      refine TT.steps (cd := cd230) 1 (c' := (55, [(2, 295), (0, ((t : Nat) : Int)), (0, z), (0, w), (0, (mSn σ b t np lt z n).1), (0, (mSn σ b t np lt z n).2.1), (0, (mSn σ b t np lt z n).2.2), (0, ((n + 1 : Nat) : Int))], [], σ)) rfl rfl ?_
      have := ih (n + 1) (by omega)
      simp only [mSn] at this
      first | (rw [if_pos (by omega)] at this; exact this) | (rw [if_neg (by omega)] at this; exact this)
