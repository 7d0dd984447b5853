theorem l_comesLater (X : AX) (t lt n0 : Nat) (s : Int) (y : AV) (σ : AH) {b : Nat} (hb : σ 295 13 = (b : Int)) (hb2 : b < 2) (ht : t < 6) (hlt : σ 304 (6 * b + t) = (lt : Int)) (hlt2 : lt ≤ 8)  : ∀ (d n : Nat), n + d = lt → n0 ≤ n → (∀ p, p < n → (fun i => decide (n0 ≤ i ∧ σ 305 (8 * (6 * b + t) + i) = s)) p = false) → TT X 52 (4, [(2, 295), (0, ((t : Nat) : Int)), y, (0, s), (0, ((n : Nat) : Int))], [], σ) (fun r σ' => r = some (0, if anyN (fun i => decide (n0 ≤ i ∧ σ 305 (8 * (6 * b + t) + i) = s)) lt = true then 1 else 0) ∧ σ' = σ) := by
  intro d
  induction d with
  | zero =>
    intro n hn hn0 ha
    refine TT.steps (cd := cd52) 3 (c' := (7, [(2, 295), (0, ((t : Nat) : Int)), y, (0, s), (0, ((n : Nat) : Int))], [(0, ((t : Nat) : Int)), (2, 295), (0, ((n : Nat) : Int))], σ)) rfl rfl ?_
    refine TT.call (cd := cd52) rfl rfl rfl (by decide) rfl (t_callsOf X t (by omega) σ hb hb2) (fun r1 σ1 hq => ?_)
    rw [hq.1, hq.2]
    refine TT.top0 (z := ((lt : Nat) : Int)) hlt ?_
    refine TT.steps (cd := cd52) 1 (c' := ((if decide (((lt : Nat) : Int) ≤ ((n : Nat) : Int)) = true then 19 else 9), [(2, 295), (0, ((t : Nat) : Int)), y, (0, s), (0, ((n : Nat) : Int))], [], σ)) rfl rfl ?_
    refine TT.br (p := ((lt : Nat) : Int) ≤ ((n : Nat) : Int)) (fun h2 => ?_) (fun h2 => absurd (show ((lt : Nat) : Int) ≤ ((n : Nat) : Int) by omega) h2)
    refine TT.steps (cd := cd52) 1 (c' := (20, [(2, 295), (0, ((t : Nat) : Int)), y, (0, s), (0, ((n : Nat) : Int))], [(0, 0)], σ)) rfl rfl ?_
    exact TT.ret (cd := cd52) rfl rfl rfl rfl (⟨by rw [anyN_f (fun p hp => ha p (by omega))]; rfl, rfl⟩)
  | succ d ih =>
    intro n hn hn0 ha
    refine TT.steps (cd := cd52) 3 (c' := (7, [(2, 295), (0, ((t : Nat) : Int)), y, (0, s), (0, ((n : Nat) : Int))], [(0, ((t : Nat) : Int)), (2, 295), (0, ((n : Nat) : Int))], σ)) rfl rfl ?_
    refine TT.call (cd := cd52) rfl rfl rfl (by decide) rfl (t_callsOf X t (by omega) σ hb hb2) (fun r1 σ1 hq => ?_)
    rw [hq.1, hq.2]
    refine TT.top0 (z := ((lt : Nat) : Int)) hlt ?_
    refine TT.steps (cd := cd52) 1 (c' := ((if decide (((lt : Nat) : Int) ≤ ((n : Nat) : Int)) = true then 19 else 9), [(2, 295), (0, ((t : Nat) : Int)), y, (0, s), (0, ((n : Nat) : Int))], [], σ)) rfl rfl ?_
    refine TT.br (p := ((lt : Nat) : Int) ≤ ((n : Nat) : Int)) (fun h2 => absurd h2 (show ¬ (((lt : Nat) : Int) ≤ ((n : Nat) : Int)) by omega)) (fun h2 => ?_)
    refine TT.steps (cd := cd52) 3 (c' := (12, [(2, 295), (0, ((t : Nat) : Int)), y, (0, s), (0, ((n : Nat) : Int))], [(0, ((n : Nat) : Int)), (0, ((t : Nat) : Int)), (2, 295)], σ)) rfl rfl ?_
    refine TT.call (cd := cd52) rfl rfl rfl (by decide) rfl (t_callOf X t n (by omega) (by omega) σ hb hb2) (fun r3 σ3 hq => ?_)
    rw [hq.1, hq.2]
    refine TT.steps (cd := cd52) 2 (c' := ((if decide (¬ (σ 305 (8 * (6 * b + t) + n)) = s) = true then 17 else 15), [(2, 295), (0, ((t : Nat) : Int)), y, (0, s), (0, ((n : Nat) : Int))], [], σ)) rfl rfl ?_
    refine TT.br (p := ¬ (σ 305 (8 * (6 * b + t) + n)) = s) (fun h4 => ?_) (fun h4 => ?_)
    · refine TT.inc (cd := cd52) ((n + 1 : Nat) : Int) rfl rfl rfl rfl (fun h => absurd h.2 (show ¬ (0 = 1) by decide)) (aAdd_n (a := n) (b := 1) (by omega)) (ls' := [(2, 295), (0, ((t : Nat) : Int)), y, (0, s), (0, ((n + 1 : Nat) : Int))]) rfl ?_
      refine TT.steps (cd := cd52) 1 (c' := (4, [(2, 295), (0, ((t : Nat) : Int)), y, (0, s), (0, ((n + 1 : Nat) : Int))], [], σ)) rfl rfl ?_
      exact ih (n + 1) (by omega) (by omega) (fun p hp => by rcases (show p < n ∨ p = n by omega) with h | rfl; exact ha p h; simp_all)
    · refine TT.steps (cd := cd52) 1 (c' := (16, [(2, 295), (0, ((t : Nat) : Int)), y, (0, s), (0, ((n : Nat) : Int))], [(0, 1)], σ)) rfl rfl ?_
      exact TT.ret (cd := cd52) rfl rfl rfl rfl ⟨by rw [anyN_t (p := n) (by omega) (decide_eq_true ⟨by omega, by omega⟩)]; rfl, rfl⟩
theorem t_comesLater (X : AX) (t lt : Nat) (k : Nat) (hk : k < 8) (s : Int) (σ : AH) {b : Nat} (hb : σ 295 13 = (b : Int)) (hb2 : b < 2) (ht : t < 6) (hlt : σ 304 (6 * b + t) = (lt : Int)) (hlt2 : lt ≤ 8) (hkl : k + 1 ≤ lt)  : TT X 52 (0, [(2, 295), (0, ((t : Nat) : Int)), (0, ((k : Nat) : Int)), (0, s), (9, 0)], [], σ) (fun r σ' => r = some (0, if anyN (fun i => decide ((k + 1) ≤ i ∧ σ 305 (8 * (6 * b + t) + i) = s)) lt = true then 1 else 0) ∧ σ' = σ) := by
  refine TT.steps (cd := cd52) 3 (c' := (3, [(2, 295), (0, ((t : Nat) : Int)), (0, ((k : Nat) : Int)), (0, s), (9, 0)], [(0, (aAdd ((k : Nat) : Int) 1))], σ)) rfl rfl ?_
  refine TT.top0 (z := ((k + 1 : Nat) : Int)) (aAdd_n (a := k) (b := 1) (by omega)) ?_
  refine TT.steps (cd := cd52) 1 (c' := (4, [(2, 295), (0, ((t : Nat) : Int)), (0, ((k : Nat) : Int)), (0, s), (0, ((k + 1 : Nat) : Int))], [], σ)) rfl rfl ?_
  exact l_comesLater X t lt (k + 1) s _ σ hb hb2 ht hlt hlt2 (lt - (k + 1)) (k + 1) (by omega) (by omega) (fun p hp => by simp; omega)
theorem t_comesAny (X : AX) (t lt : Nat) (s : Int) (σ : AH) {b : Nat} (hb : σ 295 13 = (b : Int)) (hb2 : b < 2) (ht : t < 6) (hlt : σ 304 (6 * b + t) = (lt : Int)) (hlt2 : lt ≤ 8)  : TT X 52 (0, [(2, 295), (0, ((t : Nat) : Int)), (0, -1), (0, s), (9, 0)], [], σ) (fun r σ' => r = some (0, if anyN (fun i => decide (0 ≤ i ∧ σ 305 (8 * (6 * b + t) + i) = s)) lt = true then 1 else 0) ∧ σ' = σ) := by
  refine TT.steps (cd := cd52) 3 (c' := (3, [(2, 295), (0, ((t : Nat) : Int)), (0, -1), (0, s), (9, 0)], [(0, (aAdd (-1) 1))], σ)) rfl rfl ?_
  refine TT.top0 (z := 0) (by decide) ?_
  refine TT.steps (cd := cd52) 1 (c' := (4, [(2, 295), (0, ((t : Nat) : Int)), (0, -1), (0, s), (0, 0)], [], σ)) rfl rfl ?_
  exact l_comesLater X t lt 0 s _ σ hb hb2 ht hlt hlt2 (lt - 0) 0 (by omega) (by omega) (fun p hp => by simp; omega)
/-- one gets off at a station in a minute -/
def mGo (σ : AH) (v p : Nat) (s mi : Int) : AH := if σ 321 (10 * v + p) = s then up2 (up2 (up2 (up2 σ 333 p (-1)) 334 p s) 335 p mi) 337 p 1 else up2 (up2 (up2 σ 333 p (-1)) 334 p s) 335 p mi
theorem t_getsOff (X : AX) (p : Nat) (hp : p < 10) (s mi : Int) (σ : AH) {v : Nat} (hv : σ 295 46 = (v : Int)) (hv2 : v < 22)  : TT X 51 (0, [(2, 295), (0, ((p : Nat) : Int)), (0, s), (0, mi)], [], σ) (fun r σ' => r = none ∧ σ' = mGo σ v p s mi) := by
  refine TT.steps (cd := cd51) 4 (c' := (4, [(2, 295), (0, ((p : Nat) : Int)), (0, s), (0, mi)], [(0, -1), (0, ((p : Nat) : Int)), (2, 333)], σ)) rfl rfl ?_
  refine TT.astN (cd := cd51) (333) (p) rfl rfl rfl rfl (show p < 10 by omega) ?_
  refine TT.steps (cd := cd51) 4 (c' := (9, [(2, 295), (0, ((p : Nat) : Int)), (0, s), (0, mi)], [(0, s), (0, ((p : Nat) : Int)), (2, 334)], (up2 σ 333 p (-1)))) rfl rfl ?_
  refine TT.astN (cd := cd51) (334) (p) rfl rfl rfl rfl (show p < 10 by omega) ?_
  refine TT.steps (cd := cd51) 4 (c' := (14, [(2, 295), (0, ((p : Nat) : Int)), (0, s), (0, mi)], [(0, mi), (0, ((p : Nat) : Int)), (2, 335)], (up2 (up2 σ 333 p (-1)) 334 p s))) rfl rfl ?_
  refine TT.astN (cd := cd51) (335) (p) rfl rfl rfl rfl (show p < 10 by omega) ?_
  refine TT.steps (cd := cd51) 2 (c' := (17, [(2, 295), (0, ((p : Nat) : Int)), (0, s), (0, mi)], [(0, ((p : Nat) : Int)), (2, 295)], (up2 (up2 (up2 σ 333 p (-1)) 334 p s) 335 p mi))) rfl rfl ?_
  refine TT.call (cd := cd51) rfl rfl rfl (by decide) rfl (t_wishOf X p (by omega) (up2 (up2 (up2 σ 333 p (-1)) 334 p s) 335 p mi) ((((up2_far (k := 335) (k' := 295) _ _ _ _ (by decide)).trans (up2_far (k := 334) (k' := 295) _ _ _ _ (by decide))).trans (up2_far (k := 333) (k' := 295) _ _ _ _ (by decide))).trans hv) hv2) (fun r1 σ1 hq => ?_)
  rw [hq.1, hq.2]
  refine TT.top0 (z := (σ 321 (10 * v + p))) (((up2_far (k := 335) (k' := 321) _ _ _ _ (by decide)).trans (up2_far (k := 334) (k' := 321) _ _ _ _ (by decide))).trans (up2_far (k := 333) (k' := 321) _ _ _ _ (by decide))) ?_
  refine TT.steps (cd := cd51) 2 (c' := ((if decide (¬ (σ 321 (10 * v + p)) = s) = true then 25 else 20), [(2, 295), (0, ((p : Nat) : Int)), (0, s), (0, mi)], [], (up2 (up2 (up2 σ 333 p (-1)) 334 p s) 335 p mi))) rfl rfl ?_
  refine TT.br (p := ¬ (σ 321 (10 * v + p)) = s) (fun h2 => ?_) (fun h2 => ?_)
  · exact TT.ret (cd := cd51) rfl rfl rfl rfl ⟨rfl, by unfold mGo; first | rw [if_pos (by omega)] | rw [if_neg (by omega)]⟩
  · refine TT.steps (cd := cd51) 4 (c' := (24, [(2, 295), (0, ((p : Nat) : Int)), (0, s), (0, mi)], [(0, 1), (0, ((p : Nat) : Int)), (2, 337)], (up2 (up2 (up2 σ 333 p (-1)) 334 p s) 335 p mi))) rfl rfl ?_
    refine TT.astN (cd := cd51) (337) (p) rfl rfl rfl rfl (show p < 10 by omega) ?_
    exact TT.ret (cd := cd51) rfl rfl rfl rfl ⟨rfl, by unfold mGo; first | rw [if_pos (by omega)] | rw [if_neg (by omega)]⟩
theorem mGo_fr (σ : AH) (v p : Nat) (s mi : Int) (c j : Nat) (h : c ≠ 333 ∧ c ≠ 334 ∧ c ≠ 335 ∧ c ≠ 337) : mGo σ v p s mi c j = σ c j := by
  unfold mGo
  split <;> simp [up2, h.1, h.2.1, h.2.2.1, h.2.2.2]
/-- whether the n-th of the people gets off the train at its k-th station -/
abbrev mOffC (τ σ : AH) (b v t k lt n : Nat) : Prop := τ 333 n = (t : Int) ∧ (k + 1 = lt ∨ ¬ (σ 322 (10 * v + n) = 1) ∧ σ 321 (10 * v + n) = σ 305 (8 * (6 * b + t) + k) ∧ ¬ ((n : Int) = σ 295 45))
/-- the first n get off -/
def mOffN (σ : AH) (b v t k lt e : Nat) : Nat → AH
  | 0 => σ
  | n + 1 => if mOffC (mOffN σ b v t k lt e n) σ b v t k lt n then
      up2 (up2 (mGo (mOffN σ b v t k lt e n) v n (σ 305 (8 * (6 * b + t) + k)) (σ 326 e)) 327 e (aAdd (mOffN σ b v t k lt e n 327 e) 1)) 332 e (aOr (mOffN σ b v t k lt e n 332 e) (aShl 1 (n : Int)))
    else mOffN σ b v t k lt e n
theorem mOffN_fr (σ : AH) (b v t k lt e n c j : Nat) (h : c ≠ 333 ∧ c ≠ 334 ∧ c ≠ 335 ∧ c ≠ 337 ∧ c ≠ 327 ∧ c ≠ 332) : mOffN σ b v t k lt e n c j = σ c j := by
  induction n with
  | zero => rfl
  | succ n ih =>
    unfold mOffN
    split
    · rw [up2_far _ _ _ _ h.2.2.2.2.2, up2_far _ _ _ _ h.2.2.2.2.1, mGo_fr _ _ _ _ _ _ _ ⟨h.1, h.2.1, h.2.2.1, h.2.2.2.1⟩, ih]
    · exact ih
theorem l_getOff (X : AX) (la : Int) (t k e np lt : Nat) (hla : la = if k + 1 = lt then 1 else 0) (σ : AH) {b v : Nat} (hb : σ 295 13 = (b : Int)) (hb2 : b < 2) (hv : σ 295 46 = (v : Int)) (hv2 : v < 22) (hnp : σ 307 b = (np : Int)) (hnp2 : np ≤ 10) (ht : t < 6) (hk : k < 8) (he : e < 48) (hlt : σ 304 (6 * b + t) = (lt : Int)) (hlt2 : 1 ≤ lt ∧ lt ≤ 8)  : ∀ (d n : Nat), n + d = np →  TT X 54 (13, [(2, 295), (0, ((t : Nat) : Int)), (0, ((k : Nat) : Int)), (0, ((e : Nat) : Int)), (0, la), (0, ((n : Nat) : Int))], [], (mOffN σ b v t k lt e n)) (fun r σ' => r = none ∧ σ' = mOffN σ b v t k lt e np) := by
  intro d
  induction d with
  | zero =>
    intro n hn 
    refine TT.steps (cd := cd54) 5 (c' := (18, [(2, 295), (0, ((t : Nat) : Int)), (0, ((k : Nat) : Int)), (0, ((e : Nat) : Int)), (0, la), (0, ((n : Nat) : Int))], [(0, ((mOffN σ b v t k lt e n) 295 13)), (2, 307), (0, ((n : Nat) : Int))], (mOffN σ b v t k lt e n))) rfl rfl ?_
    refine TT.top0 (z := ((b : Nat) : Int)) ((mOffN_fr _ _ _ _ _ _ _ _ 295 (13) (by decide)).trans hb) ?_
    refine TT.aldN (cd := cd54) (307) (b) rfl rfl rfl rfl (show b < 2 by omega) ?_
    refine TT.top0 (z := ((np : Nat) : Int)) ((mOffN_fr _ _ _ _ _ _ _ _ 307 (b) (by decide)).trans hnp) ?_
    refine TT.steps (cd := cd54) 1 (c' := ((if decide (((np : Nat) : Int) ≤ ((n : Nat) : Int)) = true then 77 else 20), [(2, 295), (0, ((t : Nat) : Int)), (0, ((k : Nat) : Int)), (0, ((e : Nat) : Int)), (0, la), (0, ((n : Nat) : Int))], [], (mOffN σ b v t k lt e n))) rfl rfl ?_
    refine TT.br (p := ((np : Nat) : Int) ≤ ((n : Nat) : Int)) (fun h1 => ?_) (fun h1 => absurd (show ((np : Nat) : Int) ≤ ((n : Nat) : Int) by omega) h1)
    exact TT.ret (cd := cd54) rfl rfl rfl rfl (⟨rfl, by rw [show n = np by omega]⟩)
  | succ d ih =>
    intro n hn 
    refine TT.steps (cd := cd54) 5 (c' := (18, [(2, 295), (0, ((t : Nat) : Int)), (0, ((k : Nat) : Int)), (0, ((e : Nat) : Int)), (0, la), (0, ((n : Nat) : Int))], [(0, ((mOffN σ b v t k lt e n) 295 13)), (2, 307), (0, ((n : Nat) : Int))], (mOffN σ b v t k lt e n))) rfl rfl ?_
    refine TT.top0 (z := ((b : Nat) : Int)) ((mOffN_fr _ _ _ _ _ _ _ _ 295 (13) (by decide)).trans hb) ?_
    refine TT.aldN (cd := cd54) (307) (b) rfl rfl rfl rfl (show b < 2 by omega) ?_
    refine TT.top0 (z := ((np : Nat) : Int)) ((mOffN_fr _ _ _ _ _ _ _ _ 307 (b) (by decide)).trans hnp) ?_
    refine TT.steps (cd := cd54) 1 (c' := ((if decide (((np : Nat) : Int) ≤ ((n : Nat) : Int)) = true then 77 else 20), [(2, 295), (0, ((t : Nat) : Int)), (0, ((k : Nat) : Int)), (0, ((e : Nat) : Int)), (0, la), (0, ((n : Nat) : Int))], [], (mOffN σ b v t k lt e n))) rfl rfl ?_
    refine TT.br (p := ((np : Nat) : Int) ≤ ((n : Nat) : Int)) (fun h1 => absurd h1 (show ¬ (((np : Nat) : Int) ≤ ((n : Nat) : Int)) by omega)) (fun h1 => ?_)
    refine TT.steps (cd := cd54) 3 (c' := (23, [(2, 295), (0, ((t : Nat) : Int)), (0, ((k : Nat) : Int)), (0, ((e : Nat) : Int)), (0, la), (0, ((n : Nat) : Int))], [(0, ((n : Nat) : Int)), (2, 333)], (mOffN σ b v t k lt e n))) rfl rfl ?_
    refine TT.aldN (cd := cd54) (333) (n) rfl rfl rfl rfl (show n < 10 by omega) ?_
    refine TT.steps (cd := cd54) 2 (c' := ((if decide (((mOffN σ b v t k lt e n) 333 n) = ((t : Nat) : Int)) = true then 27 else 26), [(2, 295), (0, ((t : Nat) : Int)), (0, ((k : Nat) : Int)), (0, ((e : Nat) : Int)), (0, la), (0, ((n : Nat) : Int))], [], (mOffN σ b v t k lt e n))) rfl rfl ?_
    refine TT.br (p := ((mOffN σ b v t k lt e n) 333 n) = ((t : Nat) : Int)) (fun h2 => ?_) (fun h2 => ?_)
    · refine TT.steps (cd := cd54) 2 (c' := ((if decide (¬ la = 0) = true then 46 else 29), [(2, 295), (0, ((t : Nat) : Int)), (0, ((k : Nat) : Int)), (0, ((e : Nat) : Int)), (0, la), (0, ((n : Nat) : Int))], [], (mOffN σ b v t k lt e n))) rfl rfl ?_
      refine TT.br (p := ¬ la = 0) (fun h3 => ?_) (fun h3 => ?_)
      · refine TT.steps (cd := cd54) 5 (c' := (51, [(2, 295), (0, ((t : Nat) : Int)), (0, ((k : Nat) : Int)), (0, ((e : Nat) : Int)), (0, la), (0, ((n : Nat) : Int))], [(0, ((k : Nat) : Int)), (0, ((t : Nat) : Int)), (2, 295), (0, ((n : Nat) : Int)), (2, 295)], (mOffN σ b v t k lt e n))) rfl rfl ?_
        refine TT.call (cd := cd54) rfl rfl rfl (by decide) rfl (t_callOf X t k (by omega) (by omega) (mOffN σ b v t k lt e n) ((mOffN_fr _ _ _ _ _ _ _ _ 295 (13) (by decide)).trans hb) hb2) (fun r4 σ4 hq => ?_)
        rw [hq.1, hq.2]
        refine TT.top0 (z := (σ 305 (8 * (6 * b + t) + k))) (mOffN_fr _ _ _ _ _ _ _ _ 305 (8 * (6 * b + t) + k) (by decide)) ?_
        refine TT.steps (cd := cd54) 3 (c' := (55, [(2, 295), (0, ((t : Nat) : Int)), (0, ((k : Nat) : Int)), (0, ((e : Nat) : Int)), (0, la), (0, ((n : Nat) : Int))], [(0, ((e : Nat) : Int)), (2, 326), (0, (σ 305 (8 * (6 * b + t) + k))), (0, ((n : Nat) : Int)), (2, 295)], (mOffN σ b v t k lt e n))) rfl rfl ?_
        refine TT.aldN (cd := cd54) (326) (e) rfl rfl rfl rfl (show e < 48 by omega) ?_
        refine TT.top0 (z := (σ 326 e)) (mOffN_fr _ _ _ _ _ _ _ _ 326 (e) (by decide)) ?_
        refine TT.call (cd := cd54) rfl rfl rfl (by decide) rfl (t_getsOff X n (by omega) (σ 305 (8 * (6 * b + t) + k)) (σ 326 e) (mOffN σ b v t k lt e n) ((mOffN_fr _ _ _ _ _ _ _ _ 295 (46) (by decide)).trans hv) hv2) (fun r5 σ5 hq => ?_)
        rw [hq.1, hq.2]
        refine TT.steps (cd := cd54) 4 (c' := (61, [(2, 295), (0, ((t : Nat) : Int)), (0, ((k : Nat) : Int)), (0, ((e : Nat) : Int)), (0, la), (0, ((n : Nat) : Int))], [(0, ((e : Nat) : Int)), (2, 327), (0, ((e : Nat) : Int)), (2, 327)], (mGo (mOffN σ b v t k lt e n) v n (σ 305 (8 * (6 * b + t) + k)) (σ 326 e)))) rfl rfl ?_
        refine TT.aldN (cd := cd54) (327) (e) rfl rfl rfl rfl (show e < 48 by omega) ?_
        refine TT.top0 (z := ((mOffN σ b v t k lt e n) 327 e)) (mGo_fr _ _ _ _ _ 327 (e) (by decide)) ?_
        refine TT.steps (cd := cd54) 2 (c' := (64, [(2, 295), (0, ((t : Nat) : Int)), (0, ((k : Nat) : Int)), (0, ((e : Nat) : Int)), (0, la), (0, ((n : Nat) : Int))], [(0, (aAdd ((mOffN σ b v t k lt e n) 327 e) 1)), (0, ((e : Nat) : Int)), (2, 327)], (mGo (mOffN σ b v t k lt e n) v n (σ 305 (8 * (6 * b + t) + k)) (σ 326 e)))) rfl rfl ?_
        refine TT.astN (cd := cd54) (327) (e) rfl rfl rfl rfl (show e < 48 by omega) ?_
        refine TT.steps (cd := cd54) 4 (c' := (69, [(2, 295), (0, ((t : Nat) : Int)), (0, ((k : Nat) : Int)), (0, ((e : Nat) : Int)), (0, la), (0, ((n : Nat) : Int))], [(0, ((e : Nat) : Int)), (2, 332), (0, ((e : Nat) : Int)), (2, 332)], (up2 (mGo (mOffN σ b v t k lt e n) v n (σ 305 (8 * (6 * b + t) + k)) (σ 326 e)) 327 e (aAdd ((mOffN σ b v t k lt e n) 327 e) 1)))) rfl rfl ?_
        refine TT.aldN (cd := cd54) (332) (e) rfl rfl rfl rfl (show e < 48 by omega) ?_
        refine TT.top0 (z := ((mOffN σ b v t k lt e n) 332 e)) ((up2_far (k := 327) (k' := 332) _ _ _ _ (by decide)).trans (mGo_fr _ _ _ _ _ 332 (e) (by decide))) ?_
        refine TT.steps (cd := cd54) 4 (c' := (74, [(2, 295), (0, ((t : Nat) : Int)), (0, ((k : Nat) : Int)), (0, ((e : Nat) : Int)), (0, la), (0, ((n : Nat) : Int))], [(0, (aOr ((mOffN σ b v t k lt e n) 332 e) (aShl 1 ((n : Nat) : Int)))), (0, ((e : Nat) : Int)), (2, 332)], (up2 (mGo (mOffN σ b v t k lt e n) v n (σ 305 (8 * (6 * b + t) + k)) (σ 326 e)) 327 e (aAdd ((mOffN σ b v t k lt e n) 327 e) 1)))) rfl rfl ?_
        refine TT.astN (cd := cd54) (332) (e) rfl rfl rfl rfl (show e < 48 by omega) ?_
        refine TT.inc (cd := cd54) ((n + 1 : Nat) : Int) rfl rfl rfl rfl (fun h => absurd h.2 (show ¬ (0 = 1) by decide)) (aAdd_n (a := n) (b := 1) (by omega)) (ls' := [(2, 295), (0, ((t : Nat) : Int)), (0, ((k : Nat) : Int)), (0, ((e : Nat) : Int)), (0, la), (0, ((n + 1 : Nat) : Int))]) rfl ?_
        refine TT.steps (cd := cd54) 1 (c' := (13, [(2, 295), (0, ((t : Nat) : Int)), (0, ((k : Nat) : Int)), (0, ((e : Nat) : Int)), (0, la), (0, ((n + 1 : Nat) : Int))], [], (up2 (up2 (mGo (mOffN σ b v t k lt e n) v n (σ 305 (8 * (6 * b + t) + k)) (σ 326 e)) 327 e (aAdd ((mOffN σ b v t k lt e n) 327 e) 1)) 332 e (aOr ((mOffN σ b v t k lt e n) 332 e) (aShl 1 ((n : Nat) : Int)))))) rfl rfl ?_
        refine TT.sg (σ' := mOffN σ b v t k lt e (n + 1)) ?_ (ih (n + 1) (by omega))
        simp only [mOffN, mOffC]
        first | (rw [if_pos (by omega)]; done) | (rw [if_neg (by omega)]; done)
      · refine TT.steps (cd := cd54) 2 (c' := (31, [(2, 295), (0, ((t : Nat) : Int)), (0, ((k : Nat) : Int)), (0, ((e : Nat) : Int)), (0, la), (0, ((n : Nat) : Int))], [(0, ((n : Nat) : Int)), (2, 295)], (mOffN σ b v t k lt e n))) rfl rfl ?_
        refine TT.call (cd := cd54) rfl rfl rfl (by decide) rfl (t_isHired X n (by omega) (mOffN σ b v t k lt e n) ((mOffN_fr _ _ _ _ _ _ _ _ 295 (46) (by decide)).trans hv) hv2) (fun r6 σ6 hq => ?_)
        rw [hq.1, hq.2]
        refine TT.top0 (z := (if (σ 322 (10 * v + n)) = 1 then 1 else 0)) (by rw [(mOffN_fr _ _ _ _ _ _ _ _ 322 (10 * v + n) (by decide))]) ?_
        refine TT.steps (cd := cd54) 1 (c' := ((if decide (¬ ((if (σ 322 (10 * v + n)) = 1 then 1 else 0) : Int) = 0) = true then 75 else 33), [(2, 295), (0, ((t : Nat) : Int)), (0, ((k : Nat) : Int)), (0, ((e : Nat) : Int)), (0, la), (0, ((n : Nat) : Int))], [], (mOffN σ b v t k lt e n))) rfl rfl ?_
        refine TT.br (p := ¬ ((if (σ 322 (10 * v + n)) = 1 then 1 else 0) : Int) = 0) (fun h7 => ?_) (fun h7 => ?_)
        · replace h7 := ite_t h7
          refine TT.inc (cd := cd54) ((n + 1 : Nat) : Int) rfl rfl rfl rfl (fun h => absurd h.2 (show ¬ (0 = 1) by decide)) (aAdd_n (a := n) (b := 1) (by omega)) (ls' := [(2, 295), (0, ((t : Nat) : Int)), (0, ((k : Nat) : Int)), (0, ((e : Nat) : Int)), (0, la), (0, ((n + 1 : Nat) : Int))]) rfl ?_
          refine TT.steps (cd := cd54) 1 (c' := (13, [(2, 295), (0, ((t : Nat) : Int)), (0, ((k : Nat) : Int)), (0, ((e : Nat) : Int)), (0, la), (0, ((n + 1 : Nat) : Int))], [], (mOffN σ b v t k lt e n))) rfl rfl ?_
          refine TT.sg (σ' := mOffN σ b v t k lt e (n + 1)) ?_ (ih (n + 1) (by omega))
          simp only [mOffN, mOffC]
          first | (rw [if_pos (by omega)]; done) | (rw [if_neg (by omega)]; done)
        · replace h7 := ite_f (Decidable.not_not.mp h7)
          refine TT.steps (cd := cd54) 2 (c' := (35, [(2, 295), (0, ((t : Nat) : Int)), (0, ((k : Nat) : Int)), (0, ((e : Nat) : Int)), (0, la), (0, ((n : Nat) : Int))], [(0, ((n : Nat) : Int)), (2, 295)], (mOffN σ b v t k lt e n))) rfl rfl ?_
          refine TT.call (cd := cd54) rfl rfl rfl (by decide) rfl (t_wishOf X n (by omega) (mOffN σ b v t k lt e n) ((mOffN_fr _ _ _ _ _ _ _ _ 295 (46) (by decide)).trans hv) hv2) (fun r8 σ8 hq => ?_)
          rw [hq.1, hq.2]
          refine TT.top0 (z := (σ 321 (10 * v + n))) (mOffN_fr _ _ _ _ _ _ _ _ 321 (10 * v + n) (by decide)) ?_
          refine TT.steps (cd := cd54) 3 (c' := (39, [(2, 295), (0, ((t : Nat) : Int)), (0, ((k : Nat) : Int)), (0, ((e : Nat) : Int)), (0, la), (0, ((n : Nat) : Int))], [(0, ((k : Nat) : Int)), (0, ((t : Nat) : Int)), (2, 295), (0, (σ 321 (10 * v + n)))], (mOffN σ b v t k lt e n))) rfl rfl ?_
          refine TT.call (cd := cd54) rfl rfl rfl (by decide) rfl (t_callOf X t k (by omega) (by omega) (mOffN σ b v t k lt e n) ((mOffN_fr _ _ _ _ _ _ _ _ 295 (13) (by decide)).trans hb) hb2) (fun r9 σ9 hq => ?_)
          rw [hq.1, hq.2]
          refine TT.top0 (z := (σ 305 (8 * (6 * b + t) + k))) (mOffN_fr _ _ _ _ _ _ _ _ 305 (8 * (6 * b + t) + k) (by decide)) ?_
          refine TT.steps (cd := cd54) 1 (c' := ((if decide (¬ (σ 321 (10 * v + n)) = (σ 305 (8 * (6 * b + t) + k))) = true then 75 else 41), [(2, 295), (0, ((t : Nat) : Int)), (0, ((k : Nat) : Int)), (0, ((e : Nat) : Int)), (0, la), (0, ((n : Nat) : Int))], [], (mOffN σ b v t k lt e n))) rfl rfl ?_
          refine TT.br (p := ¬ (σ 321 (10 * v + n)) = (σ 305 (8 * (6 * b + t) + k))) (fun h10 => ?_) (fun h10 => ?_)
          · refine TT.inc (cd := cd54) ((n + 1 : Nat) : Int) rfl rfl rfl rfl (fun h => absurd h.2 (show ¬ (0 = 1) by decide)) (aAdd_n (a := n) (b := 1) (by omega)) (ls' := [(2, 295), (0, ((t : Nat) : Int)), (0, ((k : Nat) : Int)), (0, ((e : Nat) : Int)), (0, la), (0, ((n + 1 : Nat) : Int))]) rfl ?_
            refine TT.steps (cd := cd54) 1 (c' := (13, [(2, 295), (0, ((t : Nat) : Int)), (0, ((k : Nat) : Int)), (0, ((e : Nat) : Int)), (0, la), (0, ((n + 1 : Nat) : Int))], [], (mOffN σ b v t k lt e n))) rfl rfl ?_
            refine TT.sg (σ' := mOffN σ b v t k lt e (n + 1)) ?_ (ih (n + 1) (by omega))
            simp only [mOffN, mOffC]
            first | (rw [if_pos (by omega)]; done) | (rw [if_neg (by omega)]; done)
          · refine TT.steps (cd := cd54) 3 (c' := (44, [(2, 295), (0, ((t : Nat) : Int)), (0, ((k : Nat) : Int)), (0, ((e : Nat) : Int)), (0, la), (0, ((n : Nat) : Int))], [(0, ((mOffN σ b v t k lt e n) 295 45)), (0, ((n : Nat) : Int))], (mOffN σ b v t k lt e n))) rfl rfl ?_
            refine TT.top0 (z := (σ 295 45)) (mOffN_fr _ _ _ _ _ _ _ _ 295 (45) (by decide)) ?_
            refine TT.steps (cd := cd54) 1 (c' := ((if decide (¬ ((n : Nat) : Int) = (σ 295 45)) = true then 46 else 45), [(2, 295), (0, ((t : Nat) : Int)), (0, ((k : Nat) : Int)), (0, ((e : Nat) : Int)), (0, la), (0, ((n : Nat) : Int))], [], (mOffN σ b v t k lt e n))) rfl rfl ?_
            refine TT.br (p := ¬ ((n : Nat) : Int) = (σ 295 45)) (fun h11 => ?_) (fun h11 => ?_)
            · refine TT.steps (cd := cd54) 5 (c' := (51, [(2, 295), (0, ((t : Nat) : Int)), (0, ((k : Nat) : Int)), (0, ((e : Nat) : Int)), (0, la), (0, ((n : Nat) : Int))], [(0, ((k : Nat) : Int)), (0, ((t : Nat) : Int)), (2, 295), (0, ((n : Nat) : Int)), (2, 295)], (mOffN σ b v t k lt e n))) rfl rfl ?_
              refine TT.call (cd := cd54) rfl rfl rfl (by decide) rfl (t_callOf X t k (by omega) (by omega) (mOffN σ b v t k lt e n) ((mOffN_fr _ _ _ _ _ _ _ _ 295 (13) (by decide)).trans hb) hb2) (fun r12 σ12 hq => ?_)
              rw [hq.1, hq.2]
              refine TT.top0 (z := (σ 305 (8 * (6 * b + t) + k))) (mOffN_fr _ _ _ _ _ _ _ _ 305 (8 * (6 * b + t) + k) (by decide)) ?_
              refine TT.steps (cd := cd54) 3 (c' := (55, [(2, 295), (0, ((t : Nat) : Int)), (0, ((k : Nat) : Int)), (0, ((e : Nat) : Int)), (0, la), (0, ((n : Nat) : Int))], [(0, ((e : Nat) : Int)), (2, 326), (0, (σ 305 (8 * (6 * b + t) + k))), (0, ((n : Nat) : Int)), (2, 295)], (mOffN σ b v t k lt e n))) rfl rfl ?_
              refine TT.aldN (cd := cd54) (326) (e) rfl rfl rfl rfl (show e < 48 by omega) ?_
              refine TT.top0 (z := (σ 326 e)) (mOffN_fr _ _ _ _ _ _ _ _ 326 (e) (by decide)) ?_
              refine TT.call (cd := cd54) rfl rfl rfl (by decide) rfl (t_getsOff X n (by omega) (σ 305 (8 * (6 * b + t) + k)) (σ 326 e) (mOffN σ b v t k lt e n) ((mOffN_fr _ _ _ _ _ _ _ _ 295 (46) (by decide)).trans hv) hv2) (fun r13 σ13 hq => ?_)
              rw [hq.1, hq.2]
              refine TT.steps (cd := cd54) 4 (c' := (61, [(2, 295), (0, ((t : Nat) : Int)), (0, ((k : Nat) : Int)), (0, ((e : Nat) : Int)), (0, la), (0, ((n : Nat) : Int))], [(0, ((e : Nat) : Int)), (2, 327), (0, ((e : Nat) : Int)), (2, 327)], (mGo (mOffN σ b v t k lt e n) v n (σ 305 (8 * (6 * b + t) + k)) (σ 326 e)))) rfl rfl ?_
              refine TT.aldN (cd := cd54) (327) (e) rfl rfl rfl rfl (show e < 48 by omega) ?_
              refine TT.top0 (z := ((mOffN σ b v t k lt e n) 327 e)) (mGo_fr _ _ _ _ _ 327 (e) (by decide)) ?_
              refine TT.steps (cd := cd54) 2 (c' := (64, [(2, 295), (0, ((t : Nat) : Int)), (0, ((k : Nat) : Int)), (0, ((e : Nat) : Int)), (0, la), (0, ((n : Nat) : Int))], [(0, (aAdd ((mOffN σ b v t k lt e n) 327 e) 1)), (0, ((e : Nat) : Int)), (2, 327)], (mGo (mOffN σ b v t k lt e n) v n (σ 305 (8 * (6 * b + t) + k)) (σ 326 e)))) rfl rfl ?_
              refine TT.astN (cd := cd54) (327) (e) rfl rfl rfl rfl (show e < 48 by omega) ?_
              refine TT.steps (cd := cd54) 4 (c' := (69, [(2, 295), (0, ((t : Nat) : Int)), (0, ((k : Nat) : Int)), (0, ((e : Nat) : Int)), (0, la), (0, ((n : Nat) : Int))], [(0, ((e : Nat) : Int)), (2, 332), (0, ((e : Nat) : Int)), (2, 332)], (up2 (mGo (mOffN σ b v t k lt e n) v n (σ 305 (8 * (6 * b + t) + k)) (σ 326 e)) 327 e (aAdd ((mOffN σ b v t k lt e n) 327 e) 1)))) rfl rfl ?_
              refine TT.aldN (cd := cd54) (332) (e) rfl rfl rfl rfl (show e < 48 by omega) ?_
              refine TT.top0 (z := ((mOffN σ b v t k lt e n) 332 e)) ((up2_far (k := 327) (k' := 332) _ _ _ _ (by decide)).trans (mGo_fr _ _ _ _ _ 332 (e) (by decide))) ?_
              refine TT.steps (cd := cd54) 4 (c' := (74, [(2, 295), (0, ((t : Nat) : Int)), (0, ((k : Nat) : Int)), (0, ((e : Nat) : Int)), (0, la), (0, ((n : Nat) : Int))], [(0, (aOr ((mOffN σ b v t k lt e n) 332 e) (aShl 1 ((n : Nat) : Int)))), (0, ((e : Nat) : Int)), (2, 332)], (up2 (mGo (mOffN σ b v t k lt e n) v n (σ 305 (8 * (6 * b + t) + k)) (σ 326 e)) 327 e (aAdd ((mOffN σ b v t k lt e n) 327 e) 1)))) rfl rfl ?_
              refine TT.astN (cd := cd54) (332) (e) rfl rfl rfl rfl (show e < 48 by omega) ?_
              refine TT.inc (cd := cd54) ((n + 1 : Nat) : Int) rfl rfl rfl rfl (fun h => absurd h.2 (show ¬ (0 = 1) by decide)) (aAdd_n (a := n) (b := 1) (by omega)) (ls' := [(2, 295), (0, ((t : Nat) : Int)), (0, ((k : Nat) : Int)), (0, ((e : Nat) : Int)), (0, la), (0, ((n + 1 : Nat) : Int))]) rfl ?_
              refine TT.steps (cd := cd54) 1 (c' := (13, [(2, 295), (0, ((t : Nat) : Int)), (0, ((k : Nat) : Int)), (0, ((e : Nat) : Int)), (0, la), (0, ((n + 1 : Nat) : Int))], [], (up2 (up2 (mGo (mOffN σ b v t k lt e n) v n (σ 305 (8 * (6 * b + t) + k)) (σ 326 e)) 327 e (aAdd ((mOffN σ b v t k lt e n) 327 e) 1)) 332 e (aOr ((mOffN σ b v t k lt e n) 332 e) (aShl 1 ((n : Nat) : Int)))))) rfl rfl ?_
              refine TT.sg (σ' := mOffN σ b v t k lt e (n + 1)) ?_ (ih (n + 1) (by omega))
              simp only [mOffN, mOffC]
              first | (rw [if_pos (by omega)]; done) | (rw [if_neg (by omega)]; done)
            · refine TT.steps (cd := cd54) 1 (c' := (75, [(2, 295), (0, ((t : Nat) : Int)), (0, ((k : Nat) : Int)), (0, ((e : Nat) : Int)), (0, la), (0, ((n : Nat) : Int))], [], (mOffN σ b v t k lt e n))) rfl rfl ?_
              refine TT.inc (cd := cd54) ((n + 1 : Nat) : Int) rfl rfl rfl rfl (fun h => absurd h.2 (show ¬ (0 = 1) by decide)) (aAdd_n (a := n) (b := 1) (by omega)) (ls' := [(2, 295), (0, ((t : Nat) : Int)), (0, ((k : Nat) : Int)), (0, ((e : Nat) : Int)), (0, la), (0, ((n + 1 : Nat) : Int))]) rfl ?_
              refine TT.steps (cd := cd54) 1 (c' := (13, [(2, 295), (0, ((t : Nat) : Int)), (0, ((k : Nat) : Int)), (0, ((e : Nat) : Int)), (0, la), (0, ((n + 1 : Nat) : Int))], [], (mOffN σ b v t k lt e n))) rfl rfl ?_
              refine TT.sg (σ' := mOffN σ b v t k lt e (n + 1)) ?_ (ih (n + 1) (by omega))
              simp only [mOffN, mOffC]
              first | (rw [if_pos (by omega)]; done) | (rw [if_neg (by omega)]; done)
    · refine TT.steps (cd := cd54) 1 (c' := (75, [(2, 295), (0, ((t : Nat) : Int)), (0, ((k : Nat) : Int)), (0, ((e : Nat) : Int)), (0, la), (0, ((n : Nat) : Int))], [], (mOffN σ b v t k lt e n))) rfl rfl ?_
      refine TT.inc (cd := cd54) ((n + 1 : Nat) : Int) rfl rfl rfl rfl (fun h => absurd h.2 (show ¬ (0 = 1) by decide)) (aAdd_n (a := n) (b := 1) (by omega)) (ls' := [(2, 295), (0, ((t : Nat) : Int)), (0, ((k : Nat) : Int)), (0, ((e : Nat) : Int)), (0, la), (0, ((n + 1 : Nat) : Int))]) rfl ?_
      refine TT.steps (cd := cd54) 1 (c' := (13, [(2, 295), (0, ((t : Nat) : Int)), (0, ((k : Nat) : Int)), (0, ((e : Nat) : Int)), (0, la), (0, ((n + 1 : Nat) : Int))], [], (mOffN σ b v t k lt e n))) rfl rfl ?_
      refine TT.sg (σ' := mOffN σ b v t k lt e (n + 1)) ?_ (ih (n + 1) (by omega))
      simp only [mOffN, mOffC]
      first | (rw [if_pos (by omega)]; done) | (rw [if_neg (by omega)]; done)
theorem t_getOff (X : AX) (t k e np lt : Nat) (σ : AH) {b v : Nat} (hb : σ 295 13 = (b : Int)) (hb2 : b < 2) (hv : σ 295 46 = (v : Int)) (hv2 : v < 22) (hnp : σ 307 b = (np : Int)) (hnp2 : np ≤ 10) (ht : t < 6) (hk : k < 8) (he : e < 48) (hlt : σ 304 (6 * b + t) = (lt : Int)) (hlt2 : 1 ≤ lt ∧ lt ≤ 8)  : TT X 54 (0, [(2, 295), (0, ((t : Nat) : Int)), (0, ((k : Nat) : Int)), (0, ((e : Nat) : Int)), (9, 0), (9, 0)], [], σ) (fun r σ' => r = none ∧ σ' = mOffN σ b v t k lt e np) := by
  refine TT.steps (cd := cd54) 3 (c' := (3, [(2, 295), (0, ((t : Nat) : Int)), (0, ((k : Nat) : Int)), (0, ((e : Nat) : Int)), (9, 0), (9, 0)], [(0, ((t : Nat) : Int)), (2, 295), (0, ((k : Nat) : Int))], σ)) rfl rfl ?_
  refine TT.call (cd := cd54) rfl rfl rfl (by decide) rfl (t_callsOf X t (by omega) σ hb hb2) (fun r1 σ1 hq => ?_)
  rw [hq.1, hq.2]
  refine TT.top0 (z := ((lt : Nat) : Int)) hlt ?_
  refine TT.steps (cd := cd54) 2 (c' := (6, [(2, 295), (0, ((t : Nat) : Int)), (0, ((k : Nat) : Int)), (0, ((e : Nat) : Int)), (9, 0), (9, 0)], [(0, (aSub ((lt : Nat) : Int) 1)), (0, ((k : Nat) : Int))], σ)) rfl rfl ?_
  refine TT.top0 (z := ((lt - 1 : Nat) : Int)) (aSub_n (a := lt) (b := 1) (by omega) (by omega)) ?_
  refine TT.steps (cd := cd54) 1 (c' := ((if decide (¬ ((k : Nat) : Int) = ((lt - 1 : Nat) : Int)) = true then 9 else 7), [(2, 295), (0, ((t : Nat) : Int)), (0, ((k : Nat) : Int)), (0, ((e : Nat) : Int)), (9, 0), (9, 0)], [], σ)) rfl rfl ?_
  refine TT.br (p := ¬ ((k : Nat) : Int) = ((lt - 1 : Nat) : Int)) (fun h2 => ?_) (fun h2 => ?_)
  · refine TT.steps (cd := cd54) 4 (c' := (13, [(2, 295), (0, ((t : Nat) : Int)), (0, ((k : Nat) : Int)), (0, ((e : Nat) : Int)), (0, 0), (0, 0)], [], σ)) rfl rfl ?_
    exact l_getOff X _ t k e np lt (by first | (rw [if_pos (by omega)]; done) | (rw [if_neg (by omega)]; done)) σ hb hb2 hv hv2 hnp hnp2 ht hk he hlt hlt2 np 0 (by omega)
  · refine TT.steps (cd := cd54) 5 (c' := (13, [(2, 295), (0, ((t : Nat) : Int)), (0, ((k : Nat) : Int)), (0, ((e : Nat) : Int)), (0, 1), (0, 0)], [], σ)) rfl rfl ?_
    exact l_getOff X _ t k e np lt (by first | (rw [if_pos (by omega)]; done) | (rw [if_neg (by omega)]; done)) σ hb hb2 hv hv2 hnp hnp2 ht hk he hlt hlt2 np 0 (by omega)
