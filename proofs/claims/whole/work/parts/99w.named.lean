/-! The reference's parser: names. -/
def rxF (ρ : AH) (cell sz bi n : Nat) (w : Int) : Int := fstI (fun k => decide (bCmp (ρ cell (sz * bi + k)) w = 0)) n 0
theorem fst_step {p : Nat → Bool} {n0 n : Nat} {x : Int} (h : x = fstI p (n0 - n) n) (hn : n < n0) (hp : ¬ p n = true) : x = fstI p (n0 - (n + 1)) (n + 1) := by
  rw [h, show n0 - n = (n0 - (n + 1)) + 1 by omega, fstI, if_neg hp]
theorem fst_hit {p : Nat → Bool} {n0 n : Nat} {x : Int} (h : x = fstI p (n0 - n) n) (hn : n < n0) (hp : p n = true) : x = (n : Int) := by
  rw [h, show n0 - n = (n0 - (n + 1)) + 1 by omega, fstI, if_pos hp]
theorem fst_end {p : Nat → Bool} {n0 n : Nat} {x : Int} (h : x = fstI p (n0 - n) n) (hn : n0 ≤ n) : x = -1 := by
  rw [h, show n0 - n = 0 by omega, fstI]
/-- the class's names found beside the reference's -/
theorem rx_eq {τ ρ : AH} {A cell sz bi n : Nat} {x w : Int} (h : ∀ j, j < n → nT (τ A j) (ρ cell (sz * bi + j))) (hx : nT x w) : rxF ρ cell sz bi n w = fstI (fun k => decide (τ A k = x)) n 0 := by
  unfold rxF
  refine fstI_c n 0 (fun j _ hj => decide_eq_decide.mpr ?_)
  have h1 := h j (by omega)
  obtain ⟨y, ey, hy⟩ := nT_b h1
  obtain ⟨z, ez, hz⟩ := nT_b hx
  rw [nT_eq h1 hx, ey, ez, bCmp_z (by omega) (by omega)]
theorem rl_named0 (X : AX) (w : Int) {ρ : AH} {bi np nt ns : Nat} (h32 : ρ 295 32 = (bi : Int)) (hb2 : bi < 2) (m0 : ρ 297 bi = (ns : Int)) (n0 : ns ≤ 14) (m1 : ρ 300 bi = (nt : Int)) (n1 : nt ≤ 6) (m2 : ρ 307 bi = (np : Int)) (n2 : np ≤ 10)  : ∀ (d n : Nat), n + d = ns → (rxF ρ 298 14 bi ns w) = fstI (fun k => decide (bCmp (ρ 298 (14 * bi + k)) w = 0)) (ns - n) n → TT X 15 (2, [(2, 295), (0, 0), (1, w), (9, 0), (0, ((n : Nat) : Int))], [], ρ) (fun r σ' => r = some (0, (rxF ρ 298 14 bi ns w)) ∧ σ' = ρ) := by
  intro d
  induction d with
  | zero =>
    intro n hn hI
    refine TT.steps (cd := cd15) 4 (c' := (6, [(2, 295), (0, 0), (1, w), (9, 0), (0, ((n : Nat) : Int))], [(0, (ρ 295 32)), (2, 295), (0, ((n : Nat) : Int))], ρ)) rfl rfl ?_
    refine TT.top0 (z := ((bi : Nat) : Int)) h32 ?_
    refine TT.steps (cd := cd15) 1 (c' := (7, [(2, 295), (0, 0), (1, w), (9, 0), (0, ((n : Nat) : Int))], [(0, 0), (0, ((bi : Nat) : Int)), (2, 295), (0, ((n : Nat) : Int))], ρ)) rfl rfl ?_
    refine TT.call (cd := cd15) rfl rfl rfl (by decide) rfl (t_manyOf X bi hb2 0 ρ) (fun r1 σ1 hq => ?_)
    rw [hq.1, hq.2, if_pos rfl, m0]
    refine TT.steps (cd := cd15) 1 (c' := ((if decide (((ns : Nat) : Int) ≤ ((n : Nat) : Int)) = true then 22 else 9), [(2, 295), (0, 0), (1, w), (9, 0), (0, ((n : Nat) : Int))], [], ρ)) rfl rfl ?_
    refine TT.br (p := ((ns : Nat) : Int) ≤ ((n : Nat) : Int)) (fun h2 => ?_) (fun h2 => absurd (show ((ns : Nat) : Int) ≤ ((n : Nat) : Int) by omega) h2)
    refine TT.steps (cd := cd15) 1 (c' := (23, [(2, 295), (0, 0), (1, w), (9, 0), (0, ((n : Nat) : Int))], [(0, -1)], ρ)) rfl rfl ?_
    exact TT.ret (cd := cd15) rfl rfl rfl rfl ⟨by rw [fst_end hI (by omega)], rfl⟩
  | succ d ih =>
    intro n hn hI
    refine TT.steps (cd := cd15) 4 (c' := (6, [(2, 295), (0, 0), (1, w), (9, 0), (0, ((n : Nat) : Int))], [(0, (ρ 295 32)), (2, 295), (0, ((n : Nat) : Int))], ρ)) rfl rfl ?_
    refine TT.top0 (z := ((bi : Nat) : Int)) h32 ?_
    refine TT.steps (cd := cd15) 1 (c' := (7, [(2, 295), (0, 0), (1, w), (9, 0), (0, ((n : Nat) : Int))], [(0, 0), (0, ((bi : Nat) : Int)), (2, 295), (0, ((n : Nat) : Int))], ρ)) rfl rfl ?_
    refine TT.call (cd := cd15) rfl rfl rfl (by decide) rfl (t_manyOf X bi hb2 0 ρ) (fun r1 σ1 hq => ?_)
    rw [hq.1, hq.2, if_pos rfl, m0]
    refine TT.steps (cd := cd15) 1 (c' := ((if decide (((ns : Nat) : Int) ≤ ((n : Nat) : Int)) = true then 22 else 9), [(2, 295), (0, 0), (1, w), (9, 0), (0, ((n : Nat) : Int))], [], ρ)) rfl rfl ?_
    refine TT.br (p := ((ns : Nat) : Int) ≤ ((n : Nat) : Int)) (fun h2 => absurd h2 (show ¬ (((ns : Nat) : Int) ≤ ((n : Nat) : Int)) by omega)) (fun h2 => ?_)
    refine TT.steps (cd := cd15) 3 (c' := (12, [(2, 295), (0, 0), (1, w), (9, 0), (0, ((n : Nat) : Int))], [(0, (ρ 295 32)), (2, 295)], ρ)) rfl rfl ?_
    refine TT.top0 (z := ((bi : Nat) : Int)) h32 ?_
    refine TT.steps (cd := cd15) 2 (c' := (14, [(2, 295), (0, 0), (1, w), (9, 0), (0, ((n : Nat) : Int))], [(0, ((n : Nat) : Int)), (0, 0), (0, ((bi : Nat) : Int)), (2, 295)], ρ)) rfl rfl ?_
    refine TT.call (cd := cd15) rfl rfl rfl (by decide) rfl (t_nameOf X bi n hb2 0 (by decide) ⟨fun h => by first | omega | exact absurd h (by decide), fun h => by first | omega | exact absurd h (by decide), fun h => by first | omega | exact absurd h (by decide)⟩ ρ) (fun r3 σ3 hq => ?_)
    rw [hq.1, hq.2, if_pos rfl]
    refine TT.steps (cd := cd15) 3 (c' := ((if decide (¬ (bCmp (ρ 298 (14 * bi + n)) w) = 0) = true then 20 else 18), [(2, 295), (0, 0), (1, w), (9, 0), (0, ((n : Nat) : Int))], [], ρ)) rfl rfl ?_
    refine TT.br (p := ¬ (bCmp (ρ 298 (14 * bi + n)) w) = 0) (fun h4 => ?_) (fun h4 => ?_)
    · refine TT.inc (cd := cd15) ((n + 1 : Nat) : Int) rfl rfl rfl rfl (fun h => absurd h.2 (show ¬ (9 = 1) by decide)) (aAdd_n (a := n) (b := 1) (by omega)) (ls' := [(2, 295), (0, 0), (1, w), (9, 0), (0, ((n + 1 : Nat) : Int))]) rfl ?_
      refine TT.steps (cd := cd15) 1 (c' := (2, [(2, 295), (0, 0), (1, w), (9, 0), (0, ((n + 1 : Nat) : Int))], [], ρ)) rfl rfl ?_
      have e4 : ((n + 1 : Nat) : Int) = (((n + 1) : Nat) : Int) := by omega
      rw [e4]
      clear e4
      exact ih (n + 1) (by omega) (fst_step hI (by omega) (fun q => absurd (of_decide_eq_true q) (by assumption)))
    · refine TT.steps (cd := cd15) 1 (c' := (19, [(2, 295), (0, 0), (1, w), (9, 0), (0, ((n : Nat) : Int))], [(0, ((n : Nat) : Int))], ρ)) rfl rfl ?_
      exact TT.ret (cd := cd15) rfl rfl rfl rfl ⟨by rw [fst_hit hI (by omega) (decide_eq_true (by first | assumption | exact Decidable.not_not.mp (by assumption)))], rfl⟩
theorem r_named0 (X : AX) (w : Int) {ρ : AH} {bi np nt ns : Nat} (h32 : ρ 295 32 = (bi : Int)) (hb2 : bi < 2) (m0 : ρ 297 bi = (ns : Int)) (n0 : ns ≤ 14) (m1 : ρ 300 bi = (nt : Int)) (n1 : nt ≤ 6) (m2 : ρ 307 bi = (np : Int)) (n2 : np ≤ 10)  : TT X 15 (0, [(2, 295), (0, 0), (1, w), (9, 0), (9, 0)], [], ρ) (fun r σ' => r = some (0, (rxF ρ 298 14 bi ns w)) ∧ σ' = ρ) := by
  refine TT.steps (cd := cd15) 2 (c' := (2, [(2, 295), (0, 0), (1, w), (9, 0), (0, 0)], [], ρ)) rfl rfl ?_
  exact rl_named0 X w h32 hb2 m0 n0 m1 n1 m2 n2 ns 0 (by omega) rfl
theorem rl_named1 (X : AX) (w : Int) {ρ : AH} {bi np nt ns : Nat} (h32 : ρ 295 32 = (bi : Int)) (hb2 : bi < 2) (m0 : ρ 297 bi = (ns : Int)) (n0 : ns ≤ 14) (m1 : ρ 300 bi = (nt : Int)) (n1 : nt ≤ 6) (m2 : ρ 307 bi = (np : Int)) (n2 : np ≤ 10)  : ∀ (d n : Nat), n + d = nt → (rxF ρ 301 6 bi nt w) = fstI (fun k => decide (bCmp (ρ 301 (6 * bi + k)) w = 0)) (nt - n) n → TT X 15 (2, [(2, 295), (0, 1), (1, w), (9, 0), (0, ((n : Nat) : Int))], [], ρ) (fun r σ' => r = some (0, (rxF ρ 301 6 bi nt w)) ∧ σ' = ρ) := by
  intro d
  induction d with
  | zero =>
    intro n hn hI
    refine TT.steps (cd := cd15) 4 (c' := (6, [(2, 295), (0, 1), (1, w), (9, 0), (0, ((n : Nat) : Int))], [(0, (ρ 295 32)), (2, 295), (0, ((n : Nat) : Int))], ρ)) rfl rfl ?_
    refine TT.top0 (z := ((bi : Nat) : Int)) h32 ?_
    refine TT.steps (cd := cd15) 1 (c' := (7, [(2, 295), (0, 1), (1, w), (9, 0), (0, ((n : Nat) : Int))], [(0, 1), (0, ((bi : Nat) : Int)), (2, 295), (0, ((n : Nat) : Int))], ρ)) rfl rfl ?_
    refine TT.call (cd := cd15) rfl rfl rfl (by decide) rfl (t_manyOf X bi hb2 1 ρ) (fun r1 σ1 hq => ?_)
    rw [hq.1, hq.2, if_neg (by decide), if_pos rfl, m1]
    refine TT.steps (cd := cd15) 1 (c' := ((if decide (((nt : Nat) : Int) ≤ ((n : Nat) : Int)) = true then 22 else 9), [(2, 295), (0, 1), (1, w), (9, 0), (0, ((n : Nat) : Int))], [], ρ)) rfl rfl ?_
    refine TT.br (p := ((nt : Nat) : Int) ≤ ((n : Nat) : Int)) (fun h2 => ?_) (fun h2 => absurd (show ((nt : Nat) : Int) ≤ ((n : Nat) : Int) by omega) h2)
    refine TT.steps (cd := cd15) 1 (c' := (23, [(2, 295), (0, 1), (1, w), (9, 0), (0, ((n : Nat) : Int))], [(0, -1)], ρ)) rfl rfl ?_
    exact TT.ret (cd := cd15) rfl rfl rfl rfl ⟨by rw [fst_end hI (by omega)], rfl⟩
  | succ d ih =>
    intro n hn hI
    refine TT.steps (cd := cd15) 4 (c' := (6, [(2, 295), (0, 1), (1, w), (9, 0), (0, ((n : Nat) : Int))], [(0, (ρ 295 32)), (2, 295), (0, ((n : Nat) : Int))], ρ)) rfl rfl ?_
    refine TT.top0 (z := ((bi : Nat) : Int)) h32 ?_
    refine TT.steps (cd := cd15) 1 (c' := (7, [(2, 295), (0, 1), (1, w), (9, 0), (0, ((n : Nat) : Int))], [(0, 1), (0, ((bi : Nat) : Int)), (2, 295), (0, ((n : Nat) : Int))], ρ)) rfl rfl ?_
    refine TT.call (cd := cd15) rfl rfl rfl (by decide) rfl (t_manyOf X bi hb2 1 ρ) (fun r1 σ1 hq => ?_)
    rw [hq.1, hq.2, if_neg (by decide), if_pos rfl, m1]
    refine TT.steps (cd := cd15) 1 (c' := ((if decide (((nt : Nat) : Int) ≤ ((n : Nat) : Int)) = true then 22 else 9), [(2, 295), (0, 1), (1, w), (9, 0), (0, ((n : Nat) : Int))], [], ρ)) rfl rfl ?_
    refine TT.br (p := ((nt : Nat) : Int) ≤ ((n : Nat) : Int)) (fun h2 => absurd h2 (show ¬ (((nt : Nat) : Int) ≤ ((n : Nat) : Int)) by omega)) (fun h2 => ?_)
    refine TT.steps (cd := cd15) 3 (c' := (12, [(2, 295), (0, 1), (1, w), (9, 0), (0, ((n : Nat) : Int))], [(0, (ρ 295 32)), (2, 295)], ρ)) rfl rfl ?_
    refine TT.top0 (z := ((bi : Nat) : Int)) h32 ?_
    refine TT.steps (cd := cd15) 2 (c' := (14, [(2, 295), (0, 1), (1, w), (9, 0), (0, ((n : Nat) : Int))], [(0, ((n : Nat) : Int)), (0, 1), (0, ((bi : Nat) : Int)), (2, 295)], ρ)) rfl rfl ?_
    refine TT.call (cd := cd15) rfl rfl rfl (by decide) rfl (t_nameOf X bi n hb2 1 (by decide) ⟨fun h => by first | omega | exact absurd h (by decide), fun h => by first | omega | exact absurd h (by decide), fun h => by first | omega | exact absurd h (by decide)⟩ ρ) (fun r3 σ3 hq => ?_)
    rw [hq.1, hq.2, if_neg (by decide), if_pos rfl]
    refine TT.steps (cd := cd15) 3 (c' := ((if decide (¬ (bCmp (ρ 301 (6 * bi + n)) w) = 0) = true then 20 else 18), [(2, 295), (0, 1), (1, w), (9, 0), (0, ((n : Nat) : Int))], [], ρ)) rfl rfl ?_
    refine TT.br (p := ¬ (bCmp (ρ 301 (6 * bi + n)) w) = 0) (fun h4 => ?_) (fun h4 => ?_)
    · refine TT.inc (cd := cd15) ((n + 1 : Nat) : Int) rfl rfl rfl rfl (fun h => absurd h.2 (show ¬ (9 = 1) by decide)) (aAdd_n (a := n) (b := 1) (by omega)) (ls' := [(2, 295), (0, 1), (1, w), (9, 0), (0, ((n + 1 : Nat) : Int))]) rfl ?_
      refine TT.steps (cd := cd15) 1 (c' := (2, [(2, 295), (0, 1), (1, w), (9, 0), (0, ((n + 1 : Nat) : Int))], [], ρ)) rfl rfl ?_
      have e4 : ((n + 1 : Nat) : Int) = (((n + 1) : Nat) : Int) := by omega
      rw [e4]
      clear e4
      exact ih (n + 1) (by omega) (fst_step hI (by omega) (fun q => absurd (of_decide_eq_true q) (by assumption)))
    · refine TT.steps (cd := cd15) 1 (c' := (19, [(2, 295), (0, 1), (1, w), (9, 0), (0, ((n : Nat) : Int))], [(0, ((n : Nat) : Int))], ρ)) rfl rfl ?_
      exact TT.ret (cd := cd15) rfl rfl rfl rfl ⟨by rw [fst_hit hI (by omega) (decide_eq_true (by first | assumption | exact Decidable.not_not.mp (by assumption)))], rfl⟩
theorem r_named1 (X : AX) (w : Int) {ρ : AH} {bi np nt ns : Nat} (h32 : ρ 295 32 = (bi : Int)) (hb2 : bi < 2) (m0 : ρ 297 bi = (ns : Int)) (n0 : ns ≤ 14) (m1 : ρ 300 bi = (nt : Int)) (n1 : nt ≤ 6) (m2 : ρ 307 bi = (np : Int)) (n2 : np ≤ 10)  : TT X 15 (0, [(2, 295), (0, 1), (1, w), (9, 0), (9, 0)], [], ρ) (fun r σ' => r = some (0, (rxF ρ 301 6 bi nt w)) ∧ σ' = ρ) := by
  refine TT.steps (cd := cd15) 2 (c' := (2, [(2, 295), (0, 1), (1, w), (9, 0), (0, 0)], [], ρ)) rfl rfl ?_
  exact rl_named1 X w h32 hb2 m0 n0 m1 n1 m2 n2 nt 0 (by omega) rfl
theorem rl_named2 (X : AX) (w : Int) {ρ : AH} {bi np nt ns : Nat} (h32 : ρ 295 32 = (bi : Int)) (hb2 : bi < 2) (m0 : ρ 297 bi = (ns : Int)) (n0 : ns ≤ 14) (m1 : ρ 300 bi = (nt : Int)) (n1 : nt ≤ 6) (m2 : ρ 307 bi = (np : Int)) (n2 : np ≤ 10)  : ∀ (d n : Nat), n + d = np → (rxF ρ 308 10 bi np w) = fstI (fun k => decide (bCmp (ρ 308 (10 * bi + k)) w = 0)) (np - n) n → TT X 15 (2, [(2, 295), (0, 2), (1, w), (9, 0), (0, ((n : Nat) : Int))], [], ρ) (fun r σ' => r = some (0, (rxF ρ 308 10 bi np w)) ∧ σ' = ρ) := by
  intro d
  induction d with
  | zero =>
    intro n hn hI
    refine TT.steps (cd := cd15) 4 (c' := (6, [(2, 295), (0, 2), (1, w), (9, 0), (0, ((n : Nat) : Int))], [(0, (ρ 295 32)), (2, 295), (0, ((n : Nat) : Int))], ρ)) rfl rfl ?_
    refine TT.top0 (z := ((bi : Nat) : Int)) h32 ?_
    refine TT.steps (cd := cd15) 1 (c' := (7, [(2, 295), (0, 2), (1, w), (9, 0), (0, ((n : Nat) : Int))], [(0, 2), (0, ((bi : Nat) : Int)), (2, 295), (0, ((n : Nat) : Int))], ρ)) rfl rfl ?_
    refine TT.call (cd := cd15) rfl rfl rfl (by decide) rfl (t_manyOf X bi hb2 2 ρ) (fun r1 σ1 hq => ?_)
    rw [hq.1, hq.2, if_neg (by decide), if_neg (by decide), m2]
    refine TT.steps (cd := cd15) 1 (c' := ((if decide (((np : Nat) : Int) ≤ ((n : Nat) : Int)) = true then 22 else 9), [(2, 295), (0, 2), (1, w), (9, 0), (0, ((n : Nat) : Int))], [], ρ)) rfl rfl ?_
    refine TT.br (p := ((np : Nat) : Int) ≤ ((n : Nat) : Int)) (fun h2 => ?_) (fun h2 => absurd (show ((np : Nat) : Int) ≤ ((n : Nat) : Int) by omega) h2)
    refine TT.steps (cd := cd15) 1 (c' := (23, [(2, 295), (0, 2), (1, w), (9, 0), (0, ((n : Nat) : Int))], [(0, -1)], ρ)) rfl rfl ?_
    exact TT.ret (cd := cd15) rfl rfl rfl rfl ⟨by rw [fst_end hI (by omega)], rfl⟩
  | succ d ih =>
    intro n hn hI
    refine TT.steps (cd := cd15) 4 (c' := (6, [(2, 295), (0, 2), (1, w), (9, 0), (0, ((n : Nat) : Int))], [(0, (ρ 295 32)), (2, 295), (0, ((n : Nat) : Int))], ρ)) rfl rfl ?_
    refine TT.top0 (z := ((bi : Nat) : Int)) h32 ?_
    refine TT.steps (cd := cd15) 1 (c' := (7, [(2, 295), (0, 2), (1, w), (9, 0), (0, ((n : Nat) : Int))], [(0, 2), (0, ((bi : Nat) : Int)), (2, 295), (0, ((n : Nat) : Int))], ρ)) rfl rfl ?_
    refine TT.call (cd := cd15) rfl rfl rfl (by decide) rfl (t_manyOf X bi hb2 2 ρ) (fun r1 σ1 hq => ?_)
    rw [hq.1, hq.2, if_neg (by decide), if_neg (by decide), m2]
    refine TT.steps (cd := cd15) 1 (c' := ((if decide (((np : Nat) : Int) ≤ ((n : Nat) : Int)) = true then 22 else 9), [(2, 295), (0, 2), (1, w), (9, 0), (0, ((n : Nat) : Int))], [], ρ)) rfl rfl ?_
    refine TT.br (p := ((np : Nat) : Int) ≤ ((n : Nat) : Int)) (fun h2 => absurd h2 (show ¬ (((np : Nat) : Int) ≤ ((n : Nat) : Int)) by omega)) (fun h2 => ?_)
    refine TT.steps (cd := cd15) 3 (c' := (12, [(2, 295), (0, 2), (1, w), (9, 0), (0, ((n : Nat) : Int))], [(0, (ρ 295 32)), (2, 295)], ρ)) rfl rfl ?_
    refine TT.top0 (z := ((bi : Nat) : Int)) h32 ?_
    refine TT.steps (cd := cd15) 2 (c' := (14, [(2, 295), (0, 2), (1, w), (9, 0), (0, ((n : Nat) : Int))], [(0, ((n : Nat) : Int)), (0, 2), (0, ((bi : Nat) : Int)), (2, 295)], ρ)) rfl rfl ?_
    refine TT.call (cd := cd15) rfl rfl rfl (by decide) rfl (t_nameOf X bi n hb2 2 (by decide) ⟨fun h => by first | omega | exact absurd h (by decide), fun h => by first | omega | exact absurd h (by decide), fun h => by first | omega | exact absurd h (by decide)⟩ ρ) (fun r3 σ3 hq => ?_)
    rw [hq.1, hq.2, if_neg (by decide), if_neg (by decide)]
    refine TT.steps (cd := cd15) 3 (c' := ((if decide (¬ (bCmp (ρ 308 (10 * bi + n)) w) = 0) = true then 20 else 18), [(2, 295), (0, 2), (1, w), (9, 0), (0, ((n : Nat) : Int))], [], ρ)) rfl rfl ?_
    refine TT.br (p := ¬ (bCmp (ρ 308 (10 * bi + n)) w) = 0) (fun h4 => ?_) (fun h4 => ?_)
    · refine TT.inc (cd := cd15) ((n + 1 : Nat) : Int) rfl rfl rfl rfl (fun h => absurd h.2 (show ¬ (9 = 1) by decide)) (aAdd_n (a := n) (b := 1) (by omega)) (ls' := [(2, 295), (0, 2), (1, w), (9, 0), (0, ((n + 1 : Nat) : Int))]) rfl ?_
      refine TT.steps (cd := cd15) 1 (c' := (2, [(2, 295), (0, 2), (1, w), (9, 0), (0, ((n + 1 : Nat) : Int))], [], ρ)) rfl rfl ?_
      have e4 : ((n + 1 : Nat) : Int) = (((n + 1) : Nat) : Int) := by omega
      rw [e4]
      clear e4
      exact ih (n + 1) (by omega) (fst_step hI (by omega) (fun q => absurd (of_decide_eq_true q) (by assumption)))
    · refine TT.steps (cd := cd15) 1 (c' := (19, [(2, 295), (0, 2), (1, w), (9, 0), (0, ((n : Nat) : Int))], [(0, ((n : Nat) : Int))], ρ)) rfl rfl ?_
      exact TT.ret (cd := cd15) rfl rfl rfl rfl ⟨by rw [fst_hit hI (by omega) (decide_eq_true (by first | assumption | exact Decidable.not_not.mp (by assumption)))], rfl⟩
theorem r_named2 (X : AX) (w : Int) {ρ : AH} {bi np nt ns : Nat} (h32 : ρ 295 32 = (bi : Int)) (hb2 : bi < 2) (m0 : ρ 297 bi = (ns : Int)) (n0 : ns ≤ 14) (m1 : ρ 300 bi = (nt : Int)) (n1 : nt ≤ 6) (m2 : ρ 307 bi = (np : Int)) (n2 : np ≤ 10)  : TT X 15 (0, [(2, 295), (0, 2), (1, w), (9, 0), (9, 0)], [], ρ) (fun r σ' => r = some (0, (rxF ρ 308 10 bi np w)) ∧ σ' = ρ) := by
  refine TT.steps (cd := cd15) 2 (c' := (2, [(2, 295), (0, 2), (1, w), (9, 0), (0, 0)], [], ρ)) rfl rfl ?_
  exact rl_named2 X w h32 hb2 m0 n0 m1 n1 m2 n2 np 0 (by omega) rfl
