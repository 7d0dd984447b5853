theorem ite_t {c : Prop} [Decidable c] (h : ¬ (if c then (1 : Int) else 0) = 0) : c := by
  by_cases hc : c
  · exact hc
  · rw [if_neg hc] at h; exact absurd rfl h
theorem ite_f {c : Prop} [Decidable c] (h : (if c then (1 : Int) else 0) = 0) : ¬ c := fun hc => by rw [if_pos hc] at h; exact absurd h (by decide)
/-- whether some number below n has it -/
def anyN (f : Nat → Bool) : Nat → Bool
  | 0 => false
  | n + 1 => anyN f n || f n
theorem anyN_f {f : Nat → Bool} {n : Nat} (h : ∀ p, p < n → f p = false) : anyN f n = false := by
  induction n with
  | zero => rfl
  | succ n ih => simp [anyN, ih (fun p hp => h p (by omega)), h n (by omega)]
theorem anyN_t {f : Nat → Bool} {n p : Nat} (hp : p < n) (h : f p = true) : anyN f n = true := by
  induction n with
  | zero => omega
  | succ n ih =>
    by_cases e : p = n
    · subst e; simp [anyN, h]
    · simp [anyN, ih (by omega)]
abbrev mBA (σ : AH) (v p : Nat) (s : Int) : Prop := σ 318 (10 * v + p) = s ∧ σ 319 (10 * v + p) = -1
abbrev mBB (σ : AH) (v p : Nat) (s u : Int) : Prop := (σ 318 (10 * v + p) = s ∧ σ 319 (10 * v + p) = u) ∨ (σ 318 (10 * v + p) = u ∧ σ 319 (10 * v + p) = s)
abbrev mCall (σ : AH) (b t k : Nat) : Int := σ 305 (8 * (6 * b + t) + k)
/-- how many of the first n are aboard a train -/
def mAbo (σ : AH) (t : Nat) : Nat → Nat
  | 0 => 0
  | n + 1 => mAbo σ t n + (if σ 333 n = (t : Int) then 1 else 0)
theorem mAbo_le (σ : AH) (t n : Nat) : mAbo σ t n ≤ n := by
  induction n with
  | zero => exact Nat.le_refl _
  | succ n ih => unfold mAbo; split <;> omega
theorem l_aboardOf (X : AX) (t np : Nat) (σ : AH) {b : Nat} (hb : σ 295 13 = (b : Int)) (hb2 : b < 2) (hnp : σ 307 b = (np : Int)) (hnp2 : np ≤ 10)  : ∀ (d n : Nat), n + d = np →  TT X 53 (4, [(2, 295), (0, ((t : Nat) : Int)), (0, (((mAbo σ t n) : Nat) : Int)), (0, ((n : Nat) : Int))], [], σ) (fun r σ' => r = some (0, ((mAbo σ t np : Nat) : Int)) ∧ σ' = σ) := by
  intro d
  induction d with
  | zero =>
    intro n hn 
    refine TT.steps (cd := cd53) 5 (c' := (9, [(2, 295), (0, ((t : Nat) : Int)), (0, (((mAbo σ t n) : Nat) : Int)), (0, ((n : Nat) : Int))], [(0, (σ 295 13)), (2, 307), (0, ((n : Nat) : Int))], σ)) rfl rfl ?_
    refine TT.top0 (z := ((b : Nat) : Int)) hb ?_
    refine TT.aldN (cd := cd53) (307) (b) rfl rfl rfl rfl (show b < 2 by (have := mAbo_le σ t n; omega)) ?_
    refine TT.top0 (z := ((np : Nat) : Int)) hnp ?_
    refine TT.steps (cd := cd53) 1 (c' := ((if decide (((np : Nat) : Int) ≤ ((n : Nat) : Int)) = true then 25 else 11), [(2, 295), (0, ((t : Nat) : Int)), (0, (((mAbo σ t n) : Nat) : Int)), (0, ((n : Nat) : Int))], [], σ)) rfl rfl ?_
    refine TT.br (p := ((np : Nat) : Int) ≤ ((n : Nat) : Int)) (fun h1 => ?_) (fun h1 => absurd (show ((np : Nat) : Int) ≤ ((n : Nat) : Int) by omega) h1)
    refine TT.steps (cd := cd53) 1 (c' := (26, [(2, 295), (0, ((t : Nat) : Int)), (0, (((mAbo σ t n) : Nat) : Int)), (0, ((n : Nat) : Int))], [(0, (((mAbo σ t n) : Nat) : Int))], σ)) rfl rfl ?_
    exact TT.ret (cd := cd53) rfl rfl rfl rfl (⟨by rw [show n = np by omega], rfl⟩)
  | succ d ih =>
    intro n hn 
    refine TT.steps (cd := cd53) 5 (c' := (9, [(2, 295), (0, ((t : Nat) : Int)), (0, (((mAbo σ t n) : Nat) : Int)), (0, ((n : Nat) : Int))], [(0, (σ 295 13)), (2, 307), (0, ((n : Nat) : Int))], σ)) rfl rfl ?_
    refine TT.top0 (z := ((b : Nat) : Int)) hb ?_
    refine TT.aldN (cd := cd53) (307) (b) rfl rfl rfl rfl (show b < 2 by (have := mAbo_le σ t n; omega)) ?_
    refine TT.top0 (z := ((np : Nat) : Int)) hnp ?_
    refine TT.steps (cd := cd53) 1 (c' := ((if decide (((np : Nat) : Int) ≤ ((n : Nat) : Int)) = true then 25 else 11), [(2, 295), (0, ((t : Nat) : Int)), (0, (((mAbo σ t n) : Nat) : Int)), (0, ((n : Nat) : Int))], [], σ)) rfl rfl ?_
    refine TT.br (p := ((np : Nat) : Int) ≤ ((n : Nat) : Int)) (fun h1 => absurd h1 (show ¬ (((np : Nat) : Int) ≤ ((n : Nat) : Int)) by omega)) (fun h1 => ?_)
    refine TT.steps (cd := cd53) 4 (c' := (15, [(2, 295), (0, ((t : Nat) : Int)), (0, (((mAbo σ t n) : Nat) : Int)), (0, ((n : Nat) : Int))], [(0, ((n : Nat) : Int)), (2, 333), (0, (((mAbo σ t n) : Nat) : Int))], σ)) rfl rfl ?_
    refine TT.aldN (cd := cd53) (333) (n) rfl rfl rfl rfl (show n < 10 by (have := mAbo_le σ t n; omega)) ?_
    refine TT.steps (cd := cd53) 2 (c' := ((if decide (¬ (σ 333 n) = ((t : Nat) : Int)) = true then 20 else 18), [(2, 295), (0, ((t : Nat) : Int)), (0, (((mAbo σ t n) : Nat) : Int)), (0, ((n : Nat) : Int))], [(0, (((mAbo σ t n) : Nat) : Int))], σ)) rfl rfl ?_
    refine TT.br (p := ¬ (σ 333 n) = ((t : Nat) : Int)) (fun h2 => ?_) (fun h2 => ?_)
    · refine TT.steps (cd := cd53) 2 (c' := (22, [(2, 295), (0, ((t : Nat) : Int)), (0, (((mAbo σ t n) : Nat) : Int)), (0, ((n : Nat) : Int))], [(0, (aAdd (((mAbo σ t n) : Nat) : Int) 0))], σ)) rfl rfl ?_
      refine TT.top0 (z := ((((mAbo σ t n)) + 0 : Nat) : Int)) (aAdd_n (a := (mAbo σ t n)) (b := 0) (by (have := mAbo_le σ t n; omega))) ?_
      refine TT.steps (cd := cd53) 1 (c' := (23, [(2, 295), (0, ((t : Nat) : Int)), (0, ((((mAbo σ t n)) + 0 : Nat) : Int)), (0, ((n : Nat) : Int))], [], σ)) rfl rfl ?_
      refine TT.inc (cd := cd53) ((n + 1 : Nat) : Int) rfl rfl rfl rfl (fun h => absurd h.2 (show ¬ (0 = 1) by decide)) (aAdd_n (a := n) (b := 1) (by (have := mAbo_le σ t n; omega))) (ls' := [(2, 295), (0, ((t : Nat) : Int)), (0, ((((mAbo σ t n)) + 0 : Nat) : Int)), (0, ((n + 1 : Nat) : Int))]) rfl ?_
      refine TT.steps (cd := cd53) 1 (c' := (4, [(2, 295), (0, ((t : Nat) : Int)), (0, ((((mAbo σ t n)) + 0 : Nat) : Int)), (0, ((n + 1 : Nat) : Int))], [], σ)) rfl rfl ?_
      have := ih (n + 1) (by omega)
      simp only [mAbo] at this
      first | rw [if_pos (by omega)] at this | rw [if_neg (by omega)] at this
      exact this
    · refine TT.steps (cd := cd53) 3 (c' := (22, [(2, 295), (0, ((t : Nat) : Int)), (0, (((mAbo σ t n) : Nat) : Int)), (0, ((n : Nat) : Int))], [(0, (aAdd (((mAbo σ t n) : Nat) : Int) 1))], σ)) rfl rfl ?_
      refine TT.top0 (z := ((((mAbo σ t n)) + 1 : Nat) : Int)) (aAdd_n (a := (mAbo σ t n)) (b := 1) (by (have := mAbo_le σ t n; omega))) ?_
      refine TT.steps (cd := cd53) 1 (c' := (23, [(2, 295), (0, ((t : Nat) : Int)), (0, ((((mAbo σ t n)) + 1 : Nat) : Int)), (0, ((n : Nat) : Int))], [], σ)) rfl rfl ?_
      refine TT.inc (cd := cd53) ((n + 1 : Nat) : Int) rfl rfl rfl rfl (fun h => absurd h.2 (show ¬ (0 = 1) by decide)) (aAdd_n (a := n) (b := 1) (by (have := mAbo_le σ t n; omega))) (ls' := [(2, 295), (0, ((t : Nat) : Int)), (0, ((((mAbo σ t n)) + 1 : Nat) : Int)), (0, ((n + 1 : Nat) : Int))]) rfl ?_
      refine TT.steps (cd := cd53) 1 (c' := (4, [(2, 295), (0, ((t : Nat) : Int)), (0, ((((mAbo σ t n)) + 1 : Nat) : Int)), (0, ((n + 1 : Nat) : Int))], [], σ)) rfl rfl ?_
      have := ih (n + 1) (by omega)
      simp only [mAbo] at this
      first | rw [if_pos (by omega)] at this | rw [if_neg (by omega)] at this
      exact this
theorem t_aboardOf (X : AX) (t np : Nat) (σ : AH) {b : Nat} (hb : σ 295 13 = (b : Int)) (hb2 : b < 2) (hnp : σ 307 b = (np : Int)) (hnp2 : np ≤ 10)  : TT X 53 (0, [(2, 295), (0, ((t : Nat) : Int)), (9, 0), (9, 0)], [], σ) (fun r σ' => r = some (0, ((mAbo σ t np : Nat) : Int)) ∧ σ' = σ) := by
  refine TT.steps (cd := cd53) 4 (c' := (4, [(2, 295), (0, ((t : Nat) : Int)), (0, 0), (0, 0)], [], σ)) rfl rfl ?_
  exact l_aboardOf X t np σ hb hb2 hnp hnp2 np 0 (by omega)
theorem l_stopsAt (X : AX) (t k np lt : Nat) (σ : AH) {b v : Nat} (hb : σ 295 13 = (b : Int)) (hb2 : b < 2) (hv : σ 295 46 = (v : Int)) (hv2 : v < 22) (hnp : σ 307 b = (np : Int)) (hnp2 : np ≤ 10) (ht : t < 6) (hk : k < 8) (hlt : σ 304 (6 * b + t) = (lt : Int)) (hlt2 : 1 ≤ lt ∧ lt ≤ 8)  : ∀ (d n : Nat), n + d = np → (∀ p, p < n → (fun p => decide (σ 333 p = (t : Int) ∧ mBA σ v p (mCall σ b t k))) p = false) → TT X 49 (13, [(2, 295), (0, ((t : Nat) : Int)), (0, ((k : Nat) : Int)), (0, ((n : Nat) : Int))], [], σ) (fun r σ' => r = some (0, if anyN (fun p => decide (σ 333 p = (t : Int) ∧ mBA σ v p (mCall σ b t k))) np = true then 1 else 0) ∧ σ' = σ) := by
  intro d
  induction d with
  | zero =>
    intro n hn ha
    refine TT.steps (cd := cd49) 5 (c' := (18, [(2, 295), (0, ((t : Nat) : Int)), (0, ((k : Nat) : Int)), (0, ((n : Nat) : Int))], [(0, (σ 295 13)), (2, 307), (0, ((n : Nat) : Int))], σ)) rfl rfl ?_
    refine TT.top0 (z := ((b : Nat) : Int)) hb ?_
    refine TT.aldN (cd := cd49) (307) (b) rfl rfl rfl rfl (show b < 2 by omega) ?_
    refine TT.top0 (z := ((np : Nat) : Int)) hnp ?_
    refine TT.steps (cd := cd49) 1 (c' := ((if decide (((np : Nat) : Int) ≤ ((n : Nat) : Int)) = true then 38 else 20), [(2, 295), (0, ((t : Nat) : Int)), (0, ((k : Nat) : Int)), (0, ((n : Nat) : Int))], [], σ)) rfl rfl ?_
    refine TT.br (p := ((np : Nat) : Int) ≤ ((n : Nat) : Int)) (fun h1 => ?_) (fun h1 => absurd (show ((np : Nat) : Int) ≤ ((n : Nat) : Int) by omega) h1)
    refine TT.steps (cd := cd49) 1 (c' := (39, [(2, 295), (0, ((t : Nat) : Int)), (0, ((k : Nat) : Int)), (0, ((n : Nat) : Int))], [(0, 0)], σ)) rfl rfl ?_
    exact TT.ret (cd := cd49) rfl rfl rfl rfl (⟨by rw [anyN_f (fun p hp => ha p (by omega))]; rfl, rfl⟩)
  | succ d ih =>
    intro n hn ha
    refine TT.steps (cd := cd49) 5 (c' := (18, [(2, 295), (0, ((t : Nat) : Int)), (0, ((k : Nat) : Int)), (0, ((n : Nat) : Int))], [(0, (σ 295 13)), (2, 307), (0, ((n : Nat) : Int))], σ)) rfl rfl ?_
    refine TT.top0 (z := ((b : Nat) : Int)) hb ?_
    refine TT.aldN (cd := cd49) (307) (b) rfl rfl rfl rfl (show b < 2 by omega) ?_
    refine TT.top0 (z := ((np : Nat) : Int)) hnp ?_
    refine TT.steps (cd := cd49) 1 (c' := ((if decide (((np : Nat) : Int) ≤ ((n : Nat) : Int)) = true then 38 else 20), [(2, 295), (0, ((t : Nat) : Int)), (0, ((k : Nat) : Int)), (0, ((n : Nat) : Int))], [], σ)) rfl rfl ?_
    refine TT.br (p := ((np : Nat) : Int) ≤ ((n : Nat) : Int)) (fun h1 => absurd h1 (show ¬ (((np : Nat) : Int) ≤ ((n : Nat) : Int)) by omega)) (fun h1 => ?_)
    refine TT.steps (cd := cd49) 3 (c' := (23, [(2, 295), (0, ((t : Nat) : Int)), (0, ((k : Nat) : Int)), (0, ((n : Nat) : Int))], [(0, ((n : Nat) : Int)), (2, 333)], σ)) rfl rfl ?_
    refine TT.aldN (cd := cd49) (333) (n) rfl rfl rfl rfl (show n < 10 by omega) ?_
    refine TT.steps (cd := cd49) 2 (c' := ((if decide (¬ (σ 333 n) = ((t : Nat) : Int)) = true then 36 else 26), [(2, 295), (0, ((t : Nat) : Int)), (0, ((k : Nat) : Int)), (0, ((n : Nat) : Int))], [], σ)) rfl rfl ?_
    refine TT.br (p := ¬ (σ 333 n) = ((t : Nat) : Int)) (fun h2 => ?_) (fun h2 => ?_)
    · refine TT.inc (cd := cd49) ((n + 1 : Nat) : Int) rfl rfl rfl rfl (fun h => absurd h.2 (show ¬ (0 = 1) by decide)) (aAdd_n (a := n) (b := 1) (by omega)) (ls' := [(2, 295), (0, ((t : Nat) : Int)), (0, ((k : Nat) : Int)), (0, ((n + 1 : Nat) : Int))]) rfl ?_
      refine TT.steps (cd := cd49) 1 (c' := (13, [(2, 295), (0, ((t : Nat) : Int)), (0, ((k : Nat) : Int)), (0, ((n + 1 : Nat) : Int))], [], σ)) rfl rfl ?_
      exact ih (n + 1) (by omega) (fun p hp => by rcases (show p < n ∨ p = n by omega) with h | rfl; exact ha p h; simp_all)
    · refine TT.steps (cd := cd49) 5 (c' := (31, [(2, 295), (0, ((t : Nat) : Int)), (0, ((k : Nat) : Int)), (0, ((n : Nat) : Int))], [(0, ((k : Nat) : Int)), (0, ((t : Nat) : Int)), (2, 295), (0, ((n : Nat) : Int)), (2, 295)], σ)) rfl rfl ?_
      refine TT.call (cd := cd49) rfl rfl rfl (by decide) rfl (t_callOf X (t) (k) (by omega) (by omega) σ hb hb2) (fun r3 σ3 hq => ?_)
      rw [hq.1, hq.2]
      refine TT.call (cd := cd49) rfl rfl rfl (by decide) rfl (t_isBornAt X n (by omega) (σ 305 (8 * (6 * b + t) + k)) σ hv hv2) (fun r4 σ4 hq => ?_)
      rw [hq.1, hq.2]
      refine TT.steps (cd := cd49) 1 (c' := ((if decide (((if mBA σ v n (σ 305 (8 * (6 * b + t) + k)) then 1 else 0) : Int) = 0) = true then 36 else 34), [(2, 295), (0, ((t : Nat) : Int)), (0, ((k : Nat) : Int)), (0, ((n : Nat) : Int))], [], σ)) rfl rfl ?_
      refine TT.br (p := ((if mBA σ v n (σ 305 (8 * (6 * b + t) + k)) then 1 else 0) : Int) = 0) (fun h5 => ?_) (fun h5 => ?_)
      · replace h5 := ite_f h5
        refine TT.inc (cd := cd49) ((n + 1 : Nat) : Int) rfl rfl rfl rfl (fun h => absurd h.2 (show ¬ (0 = 1) by decide)) (aAdd_n (a := n) (b := 1) (by omega)) (ls' := [(2, 295), (0, ((t : Nat) : Int)), (0, ((k : Nat) : Int)), (0, ((n + 1 : Nat) : Int))]) rfl ?_
        refine TT.steps (cd := cd49) 1 (c' := (13, [(2, 295), (0, ((t : Nat) : Int)), (0, ((k : Nat) : Int)), (0, ((n + 1 : Nat) : Int))], [], σ)) rfl rfl ?_
        exact ih (n + 1) (by omega) (fun p hp => by rcases (show p < n ∨ p = n by omega) with h | rfl; exact ha p h; simp_all)
      · replace h5 := ite_t h5
        refine TT.steps (cd := cd49) 1 (c' := (35, [(2, 295), (0, ((t : Nat) : Int)), (0, ((k : Nat) : Int)), (0, ((n : Nat) : Int))], [(0, 1)], σ)) rfl rfl ?_
        exact TT.ret (cd := cd49) rfl rfl rfl rfl ⟨by rw [anyN_t (p := n) (by omega) (decide_eq_true ⟨by omega, h5⟩)]; rfl, rfl⟩
theorem t_stopsAt (X : AX) (t k np lt : Nat) (σ : AH) {b v : Nat} (hb : σ 295 13 = (b : Int)) (hb2 : b < 2) (hv : σ 295 46 = (v : Int)) (hv2 : v < 22) (hnp : σ 307 b = (np : Int)) (hnp2 : np ≤ 10) (ht : t < 6) (hk : k < 8) (hlt : σ 304 (6 * b + t) = (lt : Int)) (hlt2 : 1 ≤ lt ∧ lt ≤ 8)  : TT X 49 (0, [(2, 295), (0, ((t : Nat) : Int)), (0, ((k : Nat) : Int)), (9, 0)], [], σ) (fun r σ' => r = some (0, if k = 0 ∨ k + 1 = lt ∨ anyN (fun p => decide (σ 333 p = (t : Int) ∧ mBA σ v p (mCall σ b t k))) np = true then 1 else 0) ∧ σ' = σ) := by
  refine TT.steps (cd := cd49) 2 (c' := ((if decide (((k : Nat) : Int) = 0) = true then 9 else 2), [(2, 295), (0, ((t : Nat) : Int)), (0, ((k : Nat) : Int)), (9, 0)], [], σ)) rfl rfl ?_
  refine TT.br (p := ((k : Nat) : Int) = 0) (fun h1 => ?_) (fun h1 => ?_)
  · refine TT.steps (cd := cd49) 1 (c' := (10, [(2, 295), (0, ((t : Nat) : Int)), (0, ((k : Nat) : Int)), (9, 0)], [(0, 1)], σ)) rfl rfl ?_
    exact TT.ret (cd := cd49) rfl rfl rfl rfl (⟨by rw [if_pos (by omega)], rfl⟩)
  · refine TT.steps (cd := cd49) 3 (c' := (5, [(2, 295), (0, ((t : Nat) : Int)), (0, ((k : Nat) : Int)), (9, 0)], [(0, ((t : Nat) : Int)), (2, 295), (0, ((k : Nat) : Int))], σ)) rfl rfl ?_
    refine TT.call (cd := cd49) rfl rfl rfl (by decide) rfl (t_callsOf X t (by omega) σ hb hb2) (fun r2 σ2 hq => ?_)
    rw [hq.1, hq.2, hlt]
    refine TT.steps (cd := cd49) 2 (c' := (8, [(2, 295), (0, ((t : Nat) : Int)), (0, ((k : Nat) : Int)), (9, 0)], [(0, (aSub ((lt : Nat) : Int) 1)), (0, ((k : Nat) : Int))], σ)) rfl rfl ?_
    refine TT.top0 (z := ((lt - 1 : Nat) : Int)) (aSub_n (a := lt) (b := 1) (by omega) (by omega)) ?_
    refine TT.steps (cd := cd49) 1 (c' := ((if decide (¬ ((k : Nat) : Int) = ((lt - 1 : Nat) : Int)) = true then 11 else 9), [(2, 295), (0, ((t : Nat) : Int)), (0, ((k : Nat) : Int)), (9, 0)], [], σ)) rfl rfl ?_
    refine TT.br (p := ¬ ((k : Nat) : Int) = ((lt - 1 : Nat) : Int)) (fun h3 => ?_) (fun h3 => ?_)
    · refine TT.steps (cd := cd49) 2 (c' := (13, [(2, 295), (0, ((t : Nat) : Int)), (0, ((k : Nat) : Int)), (0, 0)], [], σ)) rfl rfl ?_
      refine TT.mono (l_stopsAt X t k np lt σ hb hb2 hv hv2 hnp hnp2 ht hk hlt hlt2 np 0 (by omega) (fun p hp => by omega)) (fun r σ' h => ?_)
      obtain ⟨rfl, rfl⟩ := h
      refine ⟨?_, rfl⟩
      have e1 : ¬ k = 0 := by omega
      have e2 : ¬ k + 1 = lt := by omega
      simp only [e1, e2, false_or]
    · refine TT.steps (cd := cd49) 1 (c' := (10, [(2, 295), (0, ((t : Nat) : Int)), (0, ((k : Nat) : Int)), (9, 0)], [(0, 1)], σ)) rfl rfl ?_
      exact TT.ret (cd := cd49) rfl rfl rfl rfl (⟨by rw [if_pos (by omega)], rfl⟩)
theorem l_stopsBetween (X : AX) (t k np : Nat) (σ : AH) {b v : Nat} (hb : σ 295 13 = (b : Int)) (hb2 : b < 2) (hv : σ 295 46 = (v : Int)) (hv2 : v < 22) (hnp : σ 307 b = (np : Int)) (hnp2 : np ≤ 10) (ht : t < 6) (hk : k + 1 < 8)  : ∀ (d n : Nat), n + d = np → (∀ p, p < n → (fun p => decide (σ 333 p = (t : Int) ∧ mBB σ v p (mCall σ b t k) (mCall σ b t (k + 1)))) p = false) → TT X 50 (2, [(2, 295), (0, ((t : Nat) : Int)), (0, ((k : Nat) : Int)), (0, ((n : Nat) : Int))], [], σ) (fun r σ' => r = some (0, if anyN (fun p => decide (σ 333 p = (t : Int) ∧ mBB σ v p (mCall σ b t k) (mCall σ b t (k + 1)))) np = true then 1 else 0) ∧ σ' = σ) := by
  intro d
  induction d with
  | zero =>
    intro n hn ha
    refine TT.steps (cd := cd50) 5 (c' := (7, [(2, 295), (0, ((t : Nat) : Int)), (0, ((k : Nat) : Int)), (0, ((n : Nat) : Int))], [(0, (σ 295 13)), (2, 307), (0, ((n : Nat) : Int))], σ)) rfl rfl ?_
    refine TT.top0 (z := ((b : Nat) : Int)) hb ?_
    refine TT.aldN (cd := cd50) (307) (b) rfl rfl rfl rfl (show b < 2 by omega) ?_
    refine TT.top0 (z := ((np : Nat) : Int)) hnp ?_
    refine TT.steps (cd := cd50) 1 (c' := ((if decide (((np : Nat) : Int) ≤ ((n : Nat) : Int)) = true then 33 else 9), [(2, 295), (0, ((t : Nat) : Int)), (0, ((k : Nat) : Int)), (0, ((n : Nat) : Int))], [], σ)) rfl rfl ?_
    refine TT.br (p := ((np : Nat) : Int) ≤ ((n : Nat) : Int)) (fun h1 => ?_) (fun h1 => absurd (show ((np : Nat) : Int) ≤ ((n : Nat) : Int) by omega) h1)
    refine TT.steps (cd := cd50) 1 (c' := (34, [(2, 295), (0, ((t : Nat) : Int)), (0, ((k : Nat) : Int)), (0, ((n : Nat) : Int))], [(0, 0)], σ)) rfl rfl ?_
    exact TT.ret (cd := cd50) rfl rfl rfl rfl (⟨by rw [anyN_f (fun p hp => ha p (by omega))]; rfl, rfl⟩)
  | succ d ih =>
    intro n hn ha
    refine TT.steps (cd := cd50) 5 (c' := (7, [(2, 295), (0, ((t : Nat) : Int)), (0, ((k : Nat) : Int)), (0, ((n : Nat) : Int))], [(0, (σ 295 13)), (2, 307), (0, ((n : Nat) : Int))], σ)) rfl rfl ?_
    refine TT.top0 (z := ((b : Nat) : Int)) hb ?_
    refine TT.aldN (cd := cd50) (307) (b) rfl rfl rfl rfl (show b < 2 by omega) ?_
    refine TT.top0 (z := ((np : Nat) : Int)) hnp ?_
    refine TT.steps (cd := cd50) 1 (c' := ((if decide (((np : Nat) : Int) ≤ ((n : Nat) : Int)) = true then 33 else 9), [(2, 295), (0, ((t : Nat) : Int)), (0, ((k : Nat) : Int)), (0, ((n : Nat) : Int))], [], σ)) rfl rfl ?_
    refine TT.br (p := ((np : Nat) : Int) ≤ ((n : Nat) : Int)) (fun h1 => absurd h1 (show ¬ (((np : Nat) : Int) ≤ ((n : Nat) : Int)) by omega)) (fun h1 => ?_)
    refine TT.steps (cd := cd50) 3 (c' := (12, [(2, 295), (0, ((t : Nat) : Int)), (0, ((k : Nat) : Int)), (0, ((n : Nat) : Int))], [(0, ((n : Nat) : Int)), (2, 333)], σ)) rfl rfl ?_
    refine TT.aldN (cd := cd50) (333) (n) rfl rfl rfl rfl (show n < 10 by omega) ?_
    refine TT.steps (cd := cd50) 2 (c' := ((if decide (¬ (σ 333 n) = ((t : Nat) : Int)) = true then 31 else 15), [(2, 295), (0, ((t : Nat) : Int)), (0, ((k : Nat) : Int)), (0, ((n : Nat) : Int))], [], σ)) rfl rfl ?_
    refine TT.br (p := ¬ (σ 333 n) = ((t : Nat) : Int)) (fun h2 => ?_) (fun h2 => ?_)
    · refine TT.inc (cd := cd50) ((n + 1 : Nat) : Int) rfl rfl rfl rfl (fun h => absurd h.2 (show ¬ (0 = 1) by decide)) (aAdd_n (a := n) (b := 1) (by omega)) (ls' := [(2, 295), (0, ((t : Nat) : Int)), (0, ((k : Nat) : Int)), (0, ((n + 1 : Nat) : Int))]) rfl ?_
      refine TT.steps (cd := cd50) 1 (c' := (2, [(2, 295), (0, ((t : Nat) : Int)), (0, ((k : Nat) : Int)), (0, ((n + 1 : Nat) : Int))], [], σ)) rfl rfl ?_
      exact ih (n + 1) (by omega) (fun p hp => by rcases (show p < n ∨ p = n by omega) with h | rfl; exact ha p h; simp_all)
    · refine TT.steps (cd := cd50) 5 (c' := (20, [(2, 295), (0, ((t : Nat) : Int)), (0, ((k : Nat) : Int)), (0, ((n : Nat) : Int))], [(0, ((k : Nat) : Int)), (0, ((t : Nat) : Int)), (2, 295), (0, ((n : Nat) : Int)), (2, 295)], σ)) rfl rfl ?_
      refine TT.call (cd := cd50) rfl rfl rfl (by decide) rfl (t_callOf X (t) (k) (by omega) (by omega) σ hb hb2) (fun r3 σ3 hq => ?_)
      rw [hq.1, hq.2]
      refine TT.steps (cd := cd50) 5 (c' := (26, [(2, 295), (0, ((t : Nat) : Int)), (0, ((k : Nat) : Int)), (0, ((n : Nat) : Int))], [(0, (aAdd ((k : Nat) : Int) 1)), (0, ((t : Nat) : Int)), (2, 295), (0, (σ 305 (8 * (6 * b + t) + k))), (0, ((n : Nat) : Int)), (2, 295)], σ)) rfl rfl ?_
      refine TT.top0 (z := ((k + 1 : Nat) : Int)) (aAdd_n (a := k) (b := 1) (by omega)) ?_
      refine TT.call (cd := cd50) rfl rfl rfl (by decide) rfl (t_callOf X (t) (k + 1) (by omega) (by omega) σ hb hb2) (fun r4 σ4 hq => ?_)
      rw [hq.1, hq.2]
      refine TT.call (cd := cd50) rfl rfl rfl (by decide) rfl (t_isBornBetween X n (by omega) (σ 305 (8 * (6 * b + t) + k)) (σ 305 (8 * (6 * b + t) + (k + 1))) σ hv hv2) (fun r5 σ5 hq => ?_)
      rw [hq.1, hq.2]
      refine TT.steps (cd := cd50) 1 (c' := ((if decide (((if mBB σ v n (σ 305 (8 * (6 * b + t) + k)) (σ 305 (8 * (6 * b + t) + (k + 1))) then 1 else 0) : Int) = 0) = true then 31 else 29), [(2, 295), (0, ((t : Nat) : Int)), (0, ((k : Nat) : Int)), (0, ((n : Nat) : Int))], [], σ)) rfl rfl ?_
      refine TT.br (p := ((if mBB σ v n (σ 305 (8 * (6 * b + t) + k)) (σ 305 (8 * (6 * b + t) + (k + 1))) then 1 else 0) : Int) = 0) (fun h6 => ?_) (fun h6 => ?_)
      · replace h6 := ite_f h6
        refine TT.inc (cd := cd50) ((n + 1 : Nat) : Int) rfl rfl rfl rfl (fun h => absurd h.2 (show ¬ (0 = 1) by decide)) (aAdd_n (a := n) (b := 1) (by omega)) (ls' := [(2, 295), (0, ((t : Nat) : Int)), (0, ((k : Nat) : Int)), (0, ((n + 1 : Nat) : Int))]) rfl ?_
        refine TT.steps (cd := cd50) 1 (c' := (2, [(2, 295), (0, ((t : Nat) : Int)), (0, ((k : Nat) : Int)), (0, ((n + 1 : Nat) : Int))], [], σ)) rfl rfl ?_
        exact ih (n + 1) (by omega) (fun p hp => by rcases (show p < n ∨ p = n by omega) with h | rfl; exact ha p h; simp_all)
      · replace h6 := ite_t h6
        refine TT.steps (cd := cd50) 1 (c' := (30, [(2, 295), (0, ((t : Nat) : Int)), (0, ((k : Nat) : Int)), (0, ((n : Nat) : Int))], [(0, 1)], σ)) rfl rfl ?_
        exact TT.ret (cd := cd50) rfl rfl rfl rfl ⟨by rw [anyN_t (p := n) (by omega) (decide_eq_true ⟨by omega, h6⟩)]; rfl, rfl⟩
theorem t_stopsBetween (X : AX) (t k np : Nat) (σ : AH) {b v : Nat} (hb : σ 295 13 = (b : Int)) (hb2 : b < 2) (hv : σ 295 46 = (v : Int)) (hv2 : v < 22) (hnp : σ 307 b = (np : Int)) (hnp2 : np ≤ 10) (ht : t < 6) (hk : k + 1 < 8)  : TT X 50 (0, [(2, 295), (0, ((t : Nat) : Int)), (0, ((k : Nat) : Int)), (9, 0)], [], σ) (fun r σ' => r = some (0, if anyN (fun p => decide (σ 333 p = (t : Int) ∧ mBB σ v p (mCall σ b t k) (mCall σ b t (k + 1)))) np = true then 1 else 0) ∧ σ' = σ) := by
  refine TT.steps (cd := cd50) 2 (c' := (2, [(2, 295), (0, ((t : Nat) : Int)), (0, ((k : Nat) : Int)), (0, 0)], [], σ)) rfl rfl ?_
  exact l_stopsBetween X t k np σ hb hb2 hv hv2 hnp hnp2 ht hk np 0 (by omega) (fun p hp => by omega)
