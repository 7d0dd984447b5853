/-- a year of a layer: how many died, the heap behind it -/
def mYear (σ : AH) (b v np nt : Nat) (L : Nat → Nat) : Nat × AH := ((mY2 (mY1 (mDay σ b v np nt L) v np) v np).1, up2 (mY2 (mY1 (mDay σ b v np nt L) v np) v np).2 316 v (aAdd (σ 316 v) 1))
theorem t_yearOf (X : AX) (np nt : Nat) (L : Nat → Nat) (σ : AH) {b v : Nat} (hb : σ 295 13 = (b : Int)) (hb2 : b < 2) (hv2 : v < 22) (hnp : σ 307 b = (np : Int)) (hnp2 : np ≤ 10) (hnt : σ 300 b = (nt : Int)) (hnt2 : nt ≤ 6) (hL : ∀ t, t < nt → σ 304 (6 * b + t) = (L t : Int) ∧ 2 ≤ L t ∧ L t ≤ 8)  : TT X 75 (0, [(2, 295), (0, ((v : Nat) : Int)), (9, 0), (9, 0), (9, 0)], [], σ) (fun r σ' => r = some (0, (((mYear σ b v np nt L).1 : Nat) : Int)) ∧ σ' = (mYear σ b v np nt L).2) := by
  refine TT.steps (cd := cd75) 2 (c' := (2, [(2, 295), (0, ((v : Nat) : Int)), (9, 0), (9, 0), (9, 0)], [(0, ((v : Nat) : Int)), (2, 295)], σ)) rfl rfl ?_
  refine TT.call (cd := cd75) rfl rfl rfl (by decide) rfl (t_dayOf X np nt L σ (v := v) hb hb2 (by omega) hnp hnp2 hnt hnt2 hL) (fun r1 σ1 hq => ?_)
  rw [hq.1, hq.2]
  refine TT.steps (cd := cd75) 2 (c' := (5, [(2, 295), (0, ((v : Nat) : Int)), (0, 0), (9, 0), (9, 0)], [], (mDay σ b v np nt L))) rfl rfl ?_
  refine l_year1 X _ np v hv2 (mDay σ b v np nt L) ((mDay_M _ _ _ _ _ _ (13) (by decide)).trans hb) hb2 ((mDay_fr _ _ _ _ _ _ 307 (b) (by decide)).trans hnp) hnp2 (fun x2 x3 x4 => ?_) np 0 (by omega) _ _
  refine TT.steps (cd := cd75) 4 (c' := (51, [(2, 295), (0, ((v : Nat) : Int)), (0, 0), (0, 0), x4], [], (mY1 (mDay σ b v np nt L) v np))) rfl rfl ?_
  refine l_year2 X _ np v hv2 (mY1 (mDay σ b v np nt L) v np) (((mY1_fr _ _ _ 295 (13) (by decide)).trans (mDay_M _ _ _ _ _ _ (13) (by decide))).trans hb) hb2 (((mY1_fr _ _ _ 307 (b) (by decide)).trans (mDay_fr _ _ _ _ _ _ 307 (b) (by decide))).trans hnp) hnp2 (fun x3 x4 => ?_) np 0 (by omega) _
  refine TT.steps (cd := cd75) 4 (c' := (101, [(2, 295), (0, ((v : Nat) : Int)), (0, (((mY2 (mY1 (mDay σ b v np nt L) v np) v np).1 : Nat) : Int)), x3, x4], [(0, ((v : Nat) : Int)), (2, 316), (0, ((v : Nat) : Int)), (2, 316)], ((mY2 (mY1 (mDay σ b v np nt L) v np) v np).2))) rfl rfl ?_
  refine TT.aldN (cd := cd75) (316) (v) rfl rfl rfl rfl (show v < 22 by omega) ?_
  refine TT.top0 (z := (σ 316 v)) (((mY2_fr _ _ _ 316 (v) (by decide)).trans (mY1_fr _ _ _ 316 (v) (by decide))).trans (mDay_fr _ _ _ _ _ _ 316 (v) (by decide))) ?_
  refine TT.steps (cd := cd75) 2 (c' := (104, [(2, 295), (0, ((v : Nat) : Int)), (0, (((mY2 (mY1 (mDay σ b v np nt L) v np) v np).1 : Nat) : Int)), x3, x4], [(0, (aAdd (σ 316 v) 1)), (0, ((v : Nat) : Int)), (2, 316)], ((mY2 (mY1 (mDay σ b v np nt L) v np) v np).2))) rfl rfl ?_
  refine TT.astN (cd := cd75) (316) (v) rfl rfl rfl rfl (show v < 22 by omega) ?_
  refine TT.steps (cd := cd75) 1 (c' := (106, [(2, 295), (0, ((v : Nat) : Int)), (0, (((mY2 (mY1 (mDay σ b v np nt L) v np) v np).1 : Nat) : Int)), x3, x4], [(0, (((mY2 (mY1 (mDay σ b v np nt L) v np) v np).1 : Nat) : Int))], (up2 ((mY2 (mY1 (mDay σ b v np nt L) v np) v np).2) 316 v (aAdd (σ 316 v) 1)))) rfl rfl ?_
  exact TT.ret (cd := cd75) rfl rfl rfl rfl (⟨rfl, rfl⟩)
theorem t_person0 (X : AX) (p w : Int) (np : Nat) (σ : AH) {b : Nat} (hb : σ 295 13 = (b : Int)) (hb2 : b < 2) (hnp : σ 307 b = (np : Int)) (hnp2 : np ≤ 10) (hp : ¬ (0 ≤ p ∧ p < (np : Int)))  : TT X 68 (0, [(2, 295), (0, p), (0, w)], [], σ) (fun r σ' => r = some (0, -1) ∧ σ' = σ) := by
  refine TT.steps (cd := cd68) 2 (c' := (2, [(2, 295), (0, p), (0, w)], [(0, p), (2, 295)], σ)) rfl rfl ?_
  refine TT.call (cd := cd68) rfl rfl rfl (by decide) rfl (t_isPerson X p σ hb hb2) (fun r1 σ1 hq => ?_)
  rw [hq.1, hq.2, hnp]
  refine TT.steps (cd := cd68) 1 (c' := ((if decide (¬ ((if 0 ≤ p ∧ p < (np : Int) then 1 else 0) : Int) = 0) = true then 6 else 4), [(2, 295), (0, p), (0, w)], [], σ)) rfl rfl ?_
  refine TT.br (p := ¬ ((if 0 ≤ p ∧ p < (np : Int) then 1 else 0) : Int) = 0) (fun h2 => ?_) (fun h2 => ?_)
  · replace h2 := ite_t h2
    exact absurd (by assumption) hp
  · replace h2 := ite_f (Decidable.not_not.mp h2)
    refine TT.steps (cd := cd68) 1 (c' := (5, [(2, 295), (0, p), (0, w)], [(0, -1)], σ)) rfl rfl ?_
    exact TT.ret (cd := cd68) rfl rfl rfl rfl (⟨rfl, rfl⟩)
theorem t_person1 (X : AX) (p : Nat) (w : Int) (np : Nat) (σ : AH) {b : Nat} (hb : σ 295 13 = (b : Int)) (hb2 : b < 2) (hnp : σ 307 b = (np : Int)) (hnp2 : np ≤ 10) (hp : p < np)  : TT X 68 (0, [(2, 295), (0, ((p : Nat) : Int)), (0, w)], [], σ) (fun r σ' => r = some (0, if w = 0 then σ 317 p else if w = 1 then σ 318 p else if w = 2 then σ 319 p else if w = 3 then σ 320 p else if w = 4 then σ 321 p else if w = 5 then σ 314 (10 * b + p) else if w = 6 then σ 322 p else -1) ∧ σ' = σ) := by
  refine TT.steps (cd := cd68) 2 (c' := (2, [(2, 295), (0, ((p : Nat) : Int)), (0, w)], [(0, ((p : Nat) : Int)), (2, 295)], σ)) rfl rfl ?_
  refine TT.call (cd := cd68) rfl rfl rfl (by decide) rfl (t_isPerson X ((p : Nat) : Int) σ hb hb2) (fun r1 σ1 hq => ?_)
  rw [hq.1, hq.2, hnp]
  refine TT.steps (cd := cd68) 1 (c' := ((if decide (¬ ((if 0 ≤ ((p : Nat) : Int) ∧ ((p : Nat) : Int) < (np : Int) then 1 else 0) : Int) = 0) = true then 6 else 4), [(2, 295), (0, ((p : Nat) : Int)), (0, w)], [], σ)) rfl rfl ?_
  refine TT.br (p := ¬ ((if 0 ≤ ((p : Nat) : Int) ∧ ((p : Nat) : Int) < (np : Int) then 1 else 0) : Int) = 0) (fun h2 => ?_) (fun h2 => ?_)
  · replace h2 := ite_t h2
    refine TT.steps (cd := cd68) 2 (c' := ((swOf [(0, 8), (1, 13), (2, 18), (3, 23), (4, 28), (5, 33), (6, 37)] 42 w), [(2, 295), (0, ((p : Nat) : Int)), (0, w)], [], σ)) rfl rfl ?_
    refine TT.swc (fun h3 => ?_) (fun h3 => ?_)
    · refine TT.steps (cd := cd68) 3 (c' := (11, [(2, 295), (0, ((p : Nat) : Int)), (0, w)], [(0, ((p : Nat) : Int)), (2, 317)], σ)) rfl rfl ?_
      refine TT.aldN (cd := cd68) (317) (p) rfl rfl rfl rfl (show p < 220 by omega) ?_
      exact TT.ret (cd := cd68) rfl rfl rfl rfl (⟨by first | (exfalso; omega) | (simp [*]; done), rfl⟩)
    refine TT.swc (fun h4 => ?_) (fun h4 => ?_)
    · refine TT.steps (cd := cd68) 3 (c' := (16, [(2, 295), (0, ((p : Nat) : Int)), (0, w)], [(0, ((p : Nat) : Int)), (2, 318)], σ)) rfl rfl ?_
      refine TT.aldN (cd := cd68) (318) (p) rfl rfl rfl rfl (show p < 220 by omega) ?_
      exact TT.ret (cd := cd68) rfl rfl rfl rfl (⟨by first | (exfalso; omega) | (simp [*]; done), rfl⟩)
    refine TT.swc (fun h5 => ?_) (fun h5 => ?_)
    · refine TT.steps (cd := cd68) 3 (c' := (21, [(2, 295), (0, ((p : Nat) : Int)), (0, w)], [(0, ((p : Nat) : Int)), (2, 319)], σ)) rfl rfl ?_
      refine TT.aldN (cd := cd68) (319) (p) rfl rfl rfl rfl (show p < 220 by omega) ?_
      exact TT.ret (cd := cd68) rfl rfl rfl rfl (⟨by first | (exfalso; omega) | (simp [*]; done), rfl⟩)
    refine TT.swc (fun h6 => ?_) (fun h6 => ?_)
    · refine TT.steps (cd := cd68) 3 (c' := (26, [(2, 295), (0, ((p : Nat) : Int)), (0, w)], [(0, ((p : Nat) : Int)), (2, 320)], σ)) rfl rfl ?_
      refine TT.aldN (cd := cd68) (320) (p) rfl rfl rfl rfl (show p < 220 by omega) ?_
      exact TT.ret (cd := cd68) rfl rfl rfl rfl (⟨by first | (exfalso; omega) | (simp [*]; done), rfl⟩)
    refine TT.swc (fun h7 => ?_) (fun h7 => ?_)
    · refine TT.steps (cd := cd68) 3 (c' := (31, [(2, 295), (0, ((p : Nat) : Int)), (0, w)], [(0, ((p : Nat) : Int)), (2, 321)], σ)) rfl rfl ?_
      refine TT.aldN (cd := cd68) (321) (p) rfl rfl rfl rfl (show p < 220 by omega) ?_
      exact TT.ret (cd := cd68) rfl rfl rfl rfl (⟨by first | (exfalso; omega) | (simp [*]; done), rfl⟩)
    refine TT.swc (fun h8 => ?_) (fun h8 => ?_)
    · refine TT.steps (cd := cd68) 2 (c' := (35, [(2, 295), (0, ((p : Nat) : Int)), (0, w)], [(0, ((p : Nat) : Int)), (2, 295)], σ)) rfl rfl ?_
      refine TT.call (cd := cd68) rfl rfl rfl (by decide) rfl (t_priceOf X p (by omega) σ hb hb2) (fun r9 σ9 hq => ?_)
      rw [hq.1, hq.2]
      exact TT.ret (cd := cd68) rfl rfl rfl rfl (⟨by first | (exfalso; omega) | (simp [*]; done), rfl⟩)
    refine TT.swc (fun h10 => ?_) (fun h10 => ?_)
    · refine TT.steps (cd := cd68) 3 (c' := (40, [(2, 295), (0, ((p : Nat) : Int)), (0, w)], [(0, ((p : Nat) : Int)), (2, 322)], σ)) rfl rfl ?_
      refine TT.aldN (cd := cd68) (322) (p) rfl rfl rfl rfl (show p < 220 by omega) ?_
      exact TT.ret (cd := cd68) rfl rfl rfl rfl (⟨by first | (exfalso; omega) | (simp [*]; done), rfl⟩)
    show TT X 68 (42, [(2, 295), (0, ((p : Nat) : Int)), (0, w)], [], σ) _
    refine TT.steps (cd := cd68) 1 (c' := (43, [(2, 295), (0, ((p : Nat) : Int)), (0, w)], [(0, -1)], σ)) rfl rfl ?_
    exact TT.ret (cd := cd68) rfl rfl rfl rfl (⟨by first | (exfalso; omega) | (simp [*]; done), rfl⟩)
  · replace h2 := ite_f (Decidable.not_not.mp h2)
    refine TT.steps (cd := cd68) 1 (c' := (5, [(2, 295), (0, ((p : Nat) : Int)), (0, w)], [(0, -1)], σ)) rfl rfl ?_
    exact TT.ret (cd := cd68) rfl rfl rfl rfl (⟨by first | (exfalso; omega) | (simp [*]; done), rfl⟩)
theorem mYear_fr (σ : AH) (b v np nt : Nat) (L : Nat → Nat) (c j : Nat) (h : c ≠ 295 ∧ (c < 316 ∨ 337 < c)) : (mYear σ b v np nt L).2 c j = σ c j := by
  unfold mYear
  dsimp only
  rw [up2_far _ _ _ _ (by omega), mY2_fr _ _ _ _ _ (by omega), mY1_fr _ _ _ _ _ (by omega), mDay_fr _ _ _ _ _ _ _ _ (by omega)]
theorem mYear_M (σ : AH) (b v np nt : Nat) (L : Nat → Nat) (j : Nat) (h : j ≠ 43 ∧ j ≠ 46) : (mYear σ b v np nt L).2 295 j = σ 295 j := by
  unfold mYear
  dsimp only
  rw [up2_far _ _ _ _ (by decide), mY2_M _ _ _ _ h.1, mY1_fr _ _ _ _ _ (by decide), mDay_M _ _ _ _ _ _ _ h.2]
theorem t_fares0 (X : AX) (p w : Int) (np nt : Nat) (L : Nat → Nat) (σ : AH) {b : Nat} (hb : σ 295 13 = (b : Int)) (hb2 : b < 2) (hnp : σ 307 b = (np : Int)) (hnp2 : np ≤ 10) (hnt : σ 300 b = (nt : Int)) (hnt2 : nt ≤ 6) (hL : ∀ t, t < nt → σ 304 (6 * b + t) = (L t : Int) ∧ 2 ≤ L t ∧ L t ≤ 8) (hp : ¬ (0 ≤ p ∧ p < (np : Int)))  : TT X 79 (0, [(2, 295), (0, p), (0, w)], [], σ) (fun r σ' => r = some (0, -1) ∧ σ' = σ) := by
  refine TT.steps (cd := cd79) 2 (c' := (2, [(2, 295), (0, p), (0, w)], [(0, p), (2, 295)], σ)) rfl rfl ?_
  refine TT.call (cd := cd79) rfl rfl rfl (by decide) rfl (t_isPerson X p σ hb hb2) (fun r1 σ1 hq => ?_)
  rw [hq.1, hq.2, hnp]
  refine TT.steps (cd := cd79) 1 (c' := ((if decide (¬ ((if 0 ≤ p ∧ p < (np : Int) then 1 else 0) : Int) = 0) = true then 6 else 4), [(2, 295), (0, p), (0, w)], [], σ)) rfl rfl ?_
  refine TT.br (p := ¬ ((if 0 ≤ p ∧ p < (np : Int) then 1 else 0) : Int) = 0) (fun h2 => ?_) (fun h2 => ?_)
  · replace h2 := ite_t h2
    exact absurd (by assumption) hp
  · replace h2 := ite_f (Decidable.not_not.mp h2)
    refine TT.steps (cd := cd79) 1 (c' := (5, [(2, 295), (0, p), (0, w)], [(0, -1)], σ)) rfl rfl ?_
    exact TT.ret (cd := cd79) rfl rfl rfl rfl (⟨rfl, rfl⟩)
theorem t_fares1 (X : AX) (p : Nat) (w : Int) (np nt : Nat) (L : Nat → Nat) (σ : AH) {b : Nat} (hb : σ 295 13 = (b : Int)) (hb2 : b < 2) (hnp : σ 307 b = (np : Int)) (hnp2 : np ≤ 10) (hnt : σ 300 b = (nt : Int)) (hnt2 : nt ≤ 6) (hL : ∀ t, t < nt → σ 304 (6 * b + t) = (L t : Int) ∧ 2 ≤ L t ∧ L t ≤ 8) (hp : p < np)  : TT X 79 (0, [(2, 295), (0, ((p : Nat) : Int)), (0, w)], [], σ) (fun r σ' => r = some (0, if w = 0 then (mDay σ b 0 np nt L) 334 p else if w = 1 then (mDay σ b 0 np nt L) 335 p else if w = 2 then (mDay σ b 0 np nt L) 336 p else if w = 3 then (mDay σ b 0 np nt L) 337 p else if w = 4 then (if mStrC (mDay σ b 0 np nt L) 0 p then 1 else 0) else -1) ∧ σ' = (mDay σ b 0 np nt L)) := by
  refine TT.steps (cd := cd79) 2 (c' := (2, [(2, 295), (0, ((p : Nat) : Int)), (0, w)], [(0, ((p : Nat) : Int)), (2, 295)], σ)) rfl rfl ?_
  refine TT.call (cd := cd79) rfl rfl rfl (by decide) rfl (t_isPerson X ((p : Nat) : Int) σ hb hb2) (fun r1 σ1 hq => ?_)
  rw [hq.1, hq.2, hnp]
  refine TT.steps (cd := cd79) 1 (c' := ((if decide (¬ ((if 0 ≤ ((p : Nat) : Int) ∧ ((p : Nat) : Int) < (np : Int) then 1 else 0) : Int) = 0) = true then 6 else 4), [(2, 295), (0, ((p : Nat) : Int)), (0, w)], [], σ)) rfl rfl ?_
  refine TT.br (p := ¬ ((if 0 ≤ ((p : Nat) : Int) ∧ ((p : Nat) : Int) < (np : Int) then 1 else 0) : Int) = 0) (fun h2 => ?_) (fun h2 => absurd (show ¬ ((if 0 ≤ ((p : Nat) : Int) ∧ ((p : Nat) : Int) < (np : Int) then 1 else 0) : Int) = 0 by (rw [if_pos ⟨by omega, by omega⟩]; decide)) h2)
  refine TT.steps (cd := cd79) 2 (c' := (8, [(2, 295), (0, ((p : Nat) : Int)), (0, w)], [(0, 0), (2, 295)], σ)) rfl rfl ?_
  refine TT.call (cd := cd79) rfl rfl rfl (by decide) rfl (t_dayOf X np nt L σ (v := 0) hb hb2 (by omega) hnp hnp2 hnt hnt2 hL) (fun r3 σ3 hq => ?_)
  rw [hq.1, hq.2]
  refine TT.steps (cd := cd79) 2 (c' := ((swOf [(0, 11), (1, 16), (2, 21), (3, 26), (4, 31)] 39 w), [(2, 295), (0, ((p : Nat) : Int)), (0, w)], [], (mDay σ b 0 np nt L))) rfl rfl ?_
  refine TT.swc (fun h4 => ?_) (fun h4 => ?_)
  · refine TT.steps (cd := cd79) 3 (c' := (14, [(2, 295), (0, ((p : Nat) : Int)), (0, w)], [(0, ((p : Nat) : Int)), (2, 334)], (mDay σ b 0 np nt L))) rfl rfl ?_
    refine TT.aldN (cd := cd79) (334) (p) rfl rfl rfl rfl (show p < 10 by omega) ?_
    exact TT.ret (cd := cd79) rfl rfl rfl rfl (⟨by subst_vars; first | (simp_all; done) | (simp_all [mStrC]; done), rfl⟩)
  refine TT.swc (fun h5 => ?_) (fun h5 => ?_)
  · refine TT.steps (cd := cd79) 3 (c' := (19, [(2, 295), (0, ((p : Nat) : Int)), (0, w)], [(0, ((p : Nat) : Int)), (2, 335)], (mDay σ b 0 np nt L))) rfl rfl ?_
    refine TT.aldN (cd := cd79) (335) (p) rfl rfl rfl rfl (show p < 10 by omega) ?_
    exact TT.ret (cd := cd79) rfl rfl rfl rfl (⟨by subst_vars; first | (simp_all; done) | (simp_all [mStrC]; done), rfl⟩)
  refine TT.swc (fun h6 => ?_) (fun h6 => ?_)
  · refine TT.steps (cd := cd79) 3 (c' := (24, [(2, 295), (0, ((p : Nat) : Int)), (0, w)], [(0, ((p : Nat) : Int)), (2, 336)], (mDay σ b 0 np nt L))) rfl rfl ?_
    refine TT.aldN (cd := cd79) (336) (p) rfl rfl rfl rfl (show p < 10 by omega) ?_
    exact TT.ret (cd := cd79) rfl rfl rfl rfl (⟨by subst_vars; first | (simp_all; done) | (simp_all [mStrC]; done), rfl⟩)
  refine TT.swc (fun h7 => ?_) (fun h7 => ?_)
  · refine TT.steps (cd := cd79) 3 (c' := (29, [(2, 295), (0, ((p : Nat) : Int)), (0, w)], [(0, ((p : Nat) : Int)), (2, 337)], (mDay σ b 0 np nt L))) rfl rfl ?_
    refine TT.aldN (cd := cd79) (337) (p) rfl rfl rfl rfl (show p < 10 by omega) ?_
    exact TT.ret (cd := cd79) rfl rfl rfl rfl (⟨by subst_vars; first | (simp_all; done) | (simp_all [mStrC]; done), rfl⟩)
  refine TT.swc (fun h8 => ?_) (fun h8 => ?_)
  · refine TT.steps (cd := cd79) 2 (c' := (33, [(2, 295), (0, ((p : Nat) : Int)), (0, w)], [(0, ((p : Nat) : Int)), (2, 295)], (mDay σ b 0 np nt L))) rfl rfl ?_
    refine TT.call (cd := cd79) rfl rfl rfl (by decide) rfl (t_isStranded X p (by omega) (mDay σ b 0 np nt L) (mDay_l _ _ _ _ _ _) (by decide)) (fun r9 σ9 hq => ?_)
    rw [hq.1, hq.2]
    refine TT.steps (cd := cd79) 1 (c' := ((if decide (((if mStrC (mDay σ b 0 np nt L) 0 p then 1 else 0) : Int) = 0) = true then 37 else 35), [(2, 295), (0, ((p : Nat) : Int)), (0, w)], [], (mDay σ b 0 np nt L))) rfl rfl ?_
    refine TT.br (p := ((if mStrC (mDay σ b 0 np nt L) 0 p then 1 else 0) : Int) = 0) (fun h10 => ?_) (fun h10 => ?_)
    · replace h10 := ite_f h10
      refine TT.steps (cd := cd79) 1 (c' := (38, [(2, 295), (0, ((p : Nat) : Int)), (0, w)], [(0, 0)], (mDay σ b 0 np nt L))) rfl rfl ?_
      exact TT.ret (cd := cd79) rfl rfl rfl rfl (⟨by subst_vars; first | (simp_all; done) | (simp_all [mStrC]; done), rfl⟩)
    · replace h10 := ite_t h10
      refine TT.steps (cd := cd79) 2 (c' := (38, [(2, 295), (0, ((p : Nat) : Int)), (0, w)], [(0, 1)], (mDay σ b 0 np nt L))) rfl rfl ?_
      exact TT.ret (cd := cd79) rfl rfl rfl rfl (⟨by subst_vars; first | (simp_all; done) | (simp_all [mStrC]; done), rfl⟩)
  show TT X 79 (39, [(2, 295), (0, ((p : Nat) : Int)), (0, w)], [], (mDay σ b 0 np nt L)) _
  refine TT.steps (cd := cd79) 1 (c' := (40, [(2, 295), (0, ((p : Nat) : Int)), (0, w)], [(0, -1)], (mDay σ b 0 np nt L))) rfl rfl ?_
  exact TT.ret (cd := cd79) rfl rfl rfl rfl (⟨by subst_vars; first | (simp_all; done) | (simp_all [mStrC]; done), rfl⟩)
