/-- whether somebody aboard was born at the k-th station of the train -/
abbrev mStC (σ : AH) (b v np t k : Nat) : Bool := anyN (fun p => decide (σ 333 p = (t : Int) ∧ mBA σ v p (mCall σ b t k))) np
abbrev mStop (σ : AH) (b v np t k lt : Nat) : Prop := k = 0 ∨ k + 1 = lt ∨ mStC σ b v np t k = true
def mH1 (σ : AH) (t k : Nat) (sp : Int) : AH := up2 (up2 (up2 (up2 (up2 (up2 σ 326 ((8 * t) + k) (σ 324 t)) 325 ((8 * t) + k) sp) 327 ((8 * t) + k) 0) 328 ((8 * t) + k) 0) 332 ((8 * t) + k) 0) 331 ((8 * t) + k) 0
theorem mH1_fr (σ : AH) (t k : Nat) (sp : Int) (c j : Nat) (h : c ≠ 326 ∧ c ≠ 325 ∧ c ≠ 327 ∧ c ≠ 328 ∧ c ≠ 332 ∧ c ≠ 331) : mH1 σ t k sp c j = σ c j := by
  unfold mH1
  rw [up2_far _ _ _ _ h.2.2.2.2.2, up2_far _ _ _ _ h.2.2.2.2.1, up2_far _ _ _ _ h.2.2.2.1, up2_far _ _ _ _ h.2.2.1, up2_far _ _ _ _ h.2.1, up2_far _ _ _ _ h.1]
/-- who was born there of the first n aboard -/
def mBirN (σ : AH) (b v t k : Nat) : Nat → AH
  | 0 => σ
  | n + 1 => up2 (mBirN σ b v t k n) 331 ((8 * t) + k) (aOr (mBirN σ b v t k n 331 ((8 * t) + k)) (if σ 333 n = (t : Int) ∧ mBA σ v n (mCall σ b t k) then aShl 1 (n : Int) else 0))
theorem mBirN_fr (σ : AH) (b v t k n c j : Nat) (h : c ≠ 331) : mBirN σ b v t k n c j = σ c j := by
  induction n with
  | zero => rfl
  | succ n ih => rw [mBirN, up2_far _ _ _ _ h, ih]
theorem l_birth (X : AX) (sp : Int) (Q : Option AV → AH → Prop) (t k np lt : Nat) (σ : AH) {b v : Nat} (hb : σ 295 13 = (b : Int)) (hb2 : b < 2) (hv : σ 295 46 = (v : Int)) (hv2 : v < 22) (hnp : σ 307 b = (np : Int)) (hnp2 : np ≤ 10) (ht : t < 6) (hk : k < 8)  (hk0 : 0 < k) (kk : ∀ x6 : AV, TT X 56 (105, [(2, 295), (0, ((t : Nat) : Int)), (0, ((k : Nat) : Int)), (0, (((8 * t) + k : Nat) : Int)), (0, 0), (0, sp), x6], [], mBirN σ b v t k np) Q) : ∀ (d n : Nat), n + d = np → TT X 56 (66, [(2, 295), (0, ((t : Nat) : Int)), (0, ((k : Nat) : Int)), (0, (((8 * t) + k : Nat) : Int)), (0, 0), (0, sp), (0, ((n : Nat) : Int))], [], mBirN σ b v t k n) Q := by
  intro d
  induction d with
  | zero =>
    intro n hn
    have hnn : n = np := by omega
    refine TT.steps (cd := cd56) 5 (c' := (71, [(2, 295), (0, ((t : Nat) : Int)), (0, ((k : Nat) : Int)), (0, (((8 * t) + k : Nat) : Int)), (0, 0), (0, sp), (0, ((n : Nat) : Int))], [(0, ((mBirN σ b v t k n) 295 13)), (2, 307), (0, ((n : Nat) : Int))], (mBirN σ b v t k n))) rfl rfl ?_
    refine TT.top0 (z := ((b : Nat) : Int)) ((mBirN_fr _ _ _ _ _ _ 295 (13) (by decide)).trans hb) ?_
    refine TT.aldN (cd := cd56) (307) (b) rfl rfl rfl rfl (show b < 2 by omega) ?_
    refine TT.top0 (z := ((np : Nat) : Int)) ((mBirN_fr _ _ _ _ _ _ 307 (b) (by decide)).trans hnp) ?_
    refine TT.steps (cd := cd56) 1 (c' := ((if decide (((np : Nat) : Int) ≤ ((n : Nat) : Int)) = true then 105 else 73), [(2, 295), (0, ((t : Nat) : Int)), (0, ((k : Nat) : Int)), (0, (((8 * t) + k : Nat) : Int)), (0, 0), (0, sp), (0, ((n : Nat) : Int))], [], (mBirN σ b v t k n))) rfl rfl ?_
    refine TT.br (p := ((np : Nat) : Int) ≤ ((n : Nat) : Int)) (fun h1 => ?_) (fun h1 => absurd (show ((np : Nat) : Int) ≤ ((n : Nat) : Int) by omega) h1)
    subst hnn
    exact kk _
  | succ d ih =>
    intro n hn
    refine TT.steps (cd := cd56) 5 (c' := (71, [(2, 295), (0, ((t : Nat) : Int)), (0, ((k : Nat) : Int)), (0, (((8 * t) + k : Nat) : Int)), (0, 0), (0, sp), (0, ((n : Nat) : Int))], [(0, ((mBirN σ b v t k n) 295 13)), (2, 307), (0, ((n : Nat) : Int))], (mBirN σ b v t k n))) rfl rfl ?_
    refine TT.top0 (z := ((b : Nat) : Int)) ((mBirN_fr _ _ _ _ _ _ 295 (13) (by decide)).trans hb) ?_
    refine TT.aldN (cd := cd56) (307) (b) rfl rfl rfl rfl (show b < 2 by omega) ?_
    refine TT.top0 (z := ((np : Nat) : Int)) ((mBirN_fr _ _ _ _ _ _ 307 (b) (by decide)).trans hnp) ?_
    refine TT.steps (cd := cd56) 1 (c' := ((if decide (((np : Nat) : Int) ≤ ((n : Nat) : Int)) = true then 105 else 73), [(2, 295), (0, ((t : Nat) : Int)), (0, ((k : Nat) : Int)), (0, (((8 * t) + k : Nat) : Int)), (0, 0), (0, sp), (0, ((n : Nat) : Int))], [], (mBirN σ b v t k n))) rfl rfl ?_
    refine TT.br (p := ((np : Nat) : Int) ≤ ((n : Nat) : Int)) (fun h1 => absurd h1 (show ¬ (((np : Nat) : Int) ≤ ((n : Nat) : Int)) by omega)) (fun h1 => ?_)
    refine TT.steps (cd := cd56) 2 (c' := ((if decide (((k : Nat) : Int) ≤ 0) = true then 105 else 75), [(2, 295), (0, ((t : Nat) : Int)), (0, ((k : Nat) : Int)), (0, (((8 * t) + k : Nat) : Int)), (0, 0), (0, sp), (0, ((n : Nat) : Int))], [], (mBirN σ b v t k n))) rfl rfl ?_
    refine TT.br (p := ((k : Nat) : Int) ≤ 0) (fun h2 => absurd h2 (show ¬ (((k : Nat) : Int) ≤ 0) by omega)) (fun h2 => ?_)
    refine TT.steps (cd := cd56) 6 (c' := (81, [(2, 295), (0, ((t : Nat) : Int)), (0, ((k : Nat) : Int)), (0, (((8 * t) + k : Nat) : Int)), (0, 0), (0, sp), (0, ((n : Nat) : Int))], [(0, (((8 * t) + k : Nat) : Int)), (2, 331), (0, (((8 * t) + k : Nat) : Int)), (2, 331)], (mBirN σ b v t k n))) rfl rfl ?_
    refine TT.aldN (cd := cd56) (331) ((8 * t) + k) rfl rfl rfl rfl (show (8 * t) + k < 48 by omega) ?_
    refine TT.steps (cd := cd56) 3 (c' := (85, [(2, 295), (0, ((t : Nat) : Int)), (0, ((k : Nat) : Int)), (0, (((8 * t) + k : Nat) : Int)), (0, 0), (0, sp), (0, ((n : Nat) : Int))], [(0, ((n : Nat) : Int)), (2, 333), (0, ((mBirN σ b v t k n) 331 ((8 * t) + k))), (0, (((8 * t) + k : Nat) : Int)), (2, 331)], (mBirN σ b v t k n))) rfl rfl ?_
    refine TT.aldN (cd := cd56) (333) (n) rfl rfl rfl rfl (show n < 10 by omega) ?_
    refine TT.top0 (z := (σ 333 n)) (mBirN_fr _ _ _ _ _ _ 333 (n) (by decide)) ?_
    refine TT.steps (cd := cd56) 2 (c' := ((if decide (¬ (σ 333 n) = ((t : Nat) : Int)) = true then 100 else 88), [(2, 295), (0, ((t : Nat) : Int)), (0, ((k : Nat) : Int)), (0, (((8 * t) + k : Nat) : Int)), (0, 0), (0, sp), (0, ((n : Nat) : Int))], [(0, ((mBirN σ b v t k n) 331 ((8 * t) + k))), (0, (((8 * t) + k : Nat) : Int)), (2, 331)], (mBirN σ b v t k n))) rfl rfl ?_
    refine TT.br (p := ¬ (σ 333 n) = ((t : Nat) : Int)) (fun h3 => ?_) (fun h3 => ?_)
    · refine TT.steps (cd := cd56) 2 (c' := (102, [(2, 295), (0, ((t : Nat) : Int)), (0, ((k : Nat) : Int)), (0, (((8 * t) + k : Nat) : Int)), (0, 0), (0, sp), (0, ((n : Nat) : Int))], [(0, (aOr ((mBirN σ b v t k n) 331 ((8 * t) + k)) 0)), (0, (((8 * t) + k : Nat) : Int)), (2, 331)], (mBirN σ b v t k n))) rfl rfl ?_
      refine TT.astN (cd := cd56) (331) ((8 * t) + k) rfl rfl rfl rfl (show (8 * t) + k < 48 by omega) ?_
      refine TT.inc (cd := cd56) ((n + 1 : Nat) : Int) rfl rfl rfl rfl (fun h => absurd h.2 (show ¬ (0 = 1) by decide)) (aAdd_n (a := n) (b := 1) (by omega)) (ls' := [(2, 295), (0, ((t : Nat) : Int)), (0, ((k : Nat) : Int)), (0, (((8 * t) + k : Nat) : Int)), (0, 0), (0, sp), (0, ((n + 1 : Nat) : Int))]) rfl ?_
      refine TT.steps (cd := cd56) 1 (c' := (66, [(2, 295), (0, ((t : Nat) : Int)), (0, ((k : Nat) : Int)), (0, (((8 * t) + k : Nat) : Int)), (0, 0), (0, sp), (0, ((n + 1 : Nat) : Int))], [], (up2 (mBirN σ b v t k n) 331 ((8 * t) + k) (aOr ((mBirN σ b v t k n) 331 ((8 * t) + k)) 0)))) rfl rfl ?_
      refine TT.sg (σ' := mBirN σ b v t k (n + 1)) ?_ (ih (n + 1) (by omega))
      simp only [mBirN]
      first | (rw [if_pos ⟨by omega, by assumption⟩]; done) | (rw [if_neg (by rintro ⟨z1, z2⟩; first | omega | exact absurd z2 (by assumption))]; done)
    · refine TT.steps (cd := cd56) 5 (c' := (93, [(2, 295), (0, ((t : Nat) : Int)), (0, ((k : Nat) : Int)), (0, (((8 * t) + k : Nat) : Int)), (0, 0), (0, sp), (0, ((n : Nat) : Int))], [(0, ((k : Nat) : Int)), (0, ((t : Nat) : Int)), (2, 295), (0, ((n : Nat) : Int)), (2, 295), (0, ((mBirN σ b v t k n) 331 ((8 * t) + k))), (0, (((8 * t) + k : Nat) : Int)), (2, 331)], (mBirN σ b v t k n))) rfl rfl ?_
      refine TT.call (cd := cd56) rfl rfl rfl (by decide) rfl (t_callOf X t k (by omega) (by omega) (mBirN σ b v t k n) ((mBirN_fr _ _ _ _ _ _ 295 (13) (by decide)).trans hb) hb2) (fun r4 σ4 hq => ?_)
      rw [hq.1, hq.2]
      refine TT.top0 (z := (σ 305 (8 * (6 * b + t) + k))) (mBirN_fr _ _ _ _ _ _ 305 (8 * (6 * b + t) + k) (by decide)) ?_
      refine TT.call (cd := cd56) rfl rfl rfl (by decide) rfl (t_isBornAt X n (by omega) (σ 305 (8 * (6 * b + t) + k)) (mBirN σ b v t k n) ((mBirN_fr _ _ _ _ _ _ 295 (46) (by decide)).trans hv) hv2) (fun r5 σ5 hq => ?_)
      rw [hq.1, hq.2]
      refine TT.top0 (z := (if mBA σ v n (σ 305 (8 * (6 * b + t) + k)) then 1 else 0)) (by rw [(mBirN_fr _ _ _ _ _ _ 318 (10 * v + n) (by decide)), (mBirN_fr _ _ _ _ _ _ 319 (10 * v + n) (by decide))]) ?_
      refine TT.steps (cd := cd56) 1 (c' := ((if decide (((if mBA σ v n (σ 305 (8 * (6 * b + t) + k)) then 1 else 0) : Int) = 0) = true then 100 else 96), [(2, 295), (0, ((t : Nat) : Int)), (0, ((k : Nat) : Int)), (0, (((8 * t) + k : Nat) : Int)), (0, 0), (0, sp), (0, ((n : Nat) : Int))], [(0, ((mBirN σ b v t k n) 331 ((8 * t) + k))), (0, (((8 * t) + k : Nat) : Int)), (2, 331)], (mBirN σ b v t k n))) rfl rfl ?_
      refine TT.br (p := ((if mBA σ v n (σ 305 (8 * (6 * b + t) + k)) then 1 else 0) : Int) = 0) (fun h6 => ?_) (fun h6 => ?_)
      · replace h6 := ite_f h6
        refine TT.steps (cd := cd56) 2 (c' := (102, [(2, 295), (0, ((t : Nat) : Int)), (0, ((k : Nat) : Int)), (0, (((8 * t) + k : Nat) : Int)), (0, 0), (0, sp), (0, ((n : Nat) : Int))], [(0, (aOr ((mBirN σ b v t k n) 331 ((8 * t) + k)) 0)), (0, (((8 * t) + k : Nat) : Int)), (2, 331)], (mBirN σ b v t k n))) rfl rfl ?_
        refine TT.astN (cd := cd56) (331) ((8 * t) + k) rfl rfl rfl rfl (show (8 * t) + k < 48 by omega) ?_
        refine TT.inc (cd := cd56) ((n + 1 : Nat) : Int) rfl rfl rfl rfl (fun h => absurd h.2 (show ¬ (0 = 1) by decide)) (aAdd_n (a := n) (b := 1) (by omega)) (ls' := [(2, 295), (0, ((t : Nat) : Int)), (0, ((k : Nat) : Int)), (0, (((8 * t) + k : Nat) : Int)), (0, 0), (0, sp), (0, ((n + 1 : Nat) : Int))]) rfl ?_
        refine TT.steps (cd := cd56) 1 (c' := (66, [(2, 295), (0, ((t : Nat) : Int)), (0, ((k : Nat) : Int)), (0, (((8 * t) + k : Nat) : Int)), (0, 0), (0, sp), (0, ((n + 1 : Nat) : Int))], [], (up2 (mBirN σ b v t k n) 331 ((8 * t) + k) (aOr ((mBirN σ b v t k n) 331 ((8 * t) + k)) 0)))) rfl rfl ?_
        refine TT.sg (σ' := mBirN σ b v t k (n + 1)) ?_ (ih (n + 1) (by omega))
        simp only [mBirN]
        first | (rw [if_pos ⟨by omega, by assumption⟩]; done) | (rw [if_neg (by rintro ⟨z1, z2⟩; first | omega | exact absurd z2 (by assumption))]; done)
      · replace h6 := ite_t h6
        refine TT.steps (cd := cd56) 5 (c' := (102, [(2, 295), (0, ((t : Nat) : Int)), (0, ((k : Nat) : Int)), (0, (((8 * t) + k : Nat) : Int)), (0, 0), (0, sp), (0, ((n : Nat) : Int))], [(0, (aOr ((mBirN σ b v t k n) 331 ((8 * t) + k)) (aShl 1 ((n : Nat) : Int)))), (0, (((8 * t) + k : Nat) : Int)), (2, 331)], (mBirN σ b v t k n))) rfl rfl ?_
        refine TT.astN (cd := cd56) (331) ((8 * t) + k) rfl rfl rfl rfl (show (8 * t) + k < 48 by omega) ?_
        refine TT.inc (cd := cd56) ((n + 1 : Nat) : Int) rfl rfl rfl rfl (fun h => absurd h.2 (show ¬ (0 = 1) by decide)) (aAdd_n (a := n) (b := 1) (by omega)) (ls' := [(2, 295), (0, ((t : Nat) : Int)), (0, ((k : Nat) : Int)), (0, (((8 * t) + k : Nat) : Int)), (0, 0), (0, sp), (0, ((n + 1 : Nat) : Int))]) rfl ?_
        refine TT.steps (cd := cd56) 1 (c' := (66, [(2, 295), (0, ((t : Nat) : Int)), (0, ((k : Nat) : Int)), (0, (((8 * t) + k : Nat) : Int)), (0, 0), (0, sp), (0, ((n + 1 : Nat) : Int))], [], (up2 (mBirN σ b v t k n) 331 ((8 * t) + k) (aOr ((mBirN σ b v t k n) 331 ((8 * t) + k)) (aShl 1 ((n : Nat) : Int)))))) rfl rfl ?_
        refine TT.sg (σ' := mBirN σ b v t k (n + 1)) ?_ (ih (n + 1) (by omega))
        simp only [mBirN]
        first | (rw [if_pos ⟨by omega, by assumption⟩]; done) | (rw [if_neg (by rintro ⟨z1, z2⟩; first | omega | exact absurd z2 (by assumption))]; done)
