/-! One more station at which a train calls: the reference. -/
theorem rl_callX (X : AX) {ρ : AH} (a s : Int) (j : Nat) (hj : j ≤ 9) {kx m : Nat} (hkx : kx < 12) (hm8 : m ≤ 8) (h8 : 0 < ρ 295 8) (h304 : ρ 304 kx = (m : Nat)) : TT X 24 (5, [(2, 295), (0, ((kx : Nat) : Int)), (0, a), (0, s), (0, ((j : Nat) : Int))], [], ρ) (fun r σ' => r = none ∧ σ' = ρ) := by
  refine TT.steps (cd := cd24) 4 (c' := (9, [(2, 295), (0, ((kx : Nat) : Int)), (0, a), (0, s), (0, ((j : Nat) : Int))], [(0, ((kx : Nat) : Int)), (2, 304), (0, ((j : Nat) : Int))], ρ)) rfl rfl ?_
  refine TT.aldN (cd := cd24) (304) (kx) rfl rfl rfl rfl (show kx < 12 by omega) ?_
  refine TT.top0 (z := ((m : Nat) : Int)) h304 ?_
  refine TT.steps (cd := cd24) 1 (c' := ((if decide (((m : Nat) : Int) ≤ ((j : Nat) : Int)) = true then 31 else 11), [(2, 295), (0, ((kx : Nat) : Int)), (0, a), (0, s), (0, ((j : Nat) : Int))], [], ρ)) rfl rfl ?_
  refine TT.br (p := ((m : Nat) : Int) ≤ ((j : Nat) : Int)) (fun h1 => ?_) (fun h1 => ?_)
  · refine TT.steps (cd := cd24) 2 (c' := (33, [(2, 295), (0, ((kx : Nat) : Int)), (0, a), (0, s), (0, ((j : Nat) : Int))], [(0, (ρ 295 8))], ρ)) rfl rfl ?_
    refine TT.top0 (z := (ρ 295 8)) rfl ?_
    refine TT.steps (cd := cd24) 1 (c' := ((if decide ((ρ 295 8) ≤ 0) = true then 35 else 34), [(2, 295), (0, ((kx : Nat) : Int)), (0, a), (0, s), (0, ((j : Nat) : Int))], [], ρ)) rfl rfl ?_
    refine TT.br (p := (ρ 295 8) ≤ 0) (fun h2 => absurd h2 (show ¬ ((ρ 295 8) ≤ 0) by omega)) (fun h2 => ?_)
    exact TT.ret (cd := cd24) rfl rfl rfl rfl (⟨rfl, rfl⟩)
  · refine TT.steps (cd := cd24) 2 (c' := (13, [(2, 295), (0, ((kx : Nat) : Int)), (0, a), (0, s), (0, ((j : Nat) : Int))], [(0, (ρ 295 8))], ρ)) rfl rfl ?_
    refine TT.top0 (z := (ρ 295 8)) rfl ?_
    refine TT.steps (cd := cd24) 1 (c' := ((if decide (¬ (ρ 295 8) = 0) = true then 31 else 14), [(2, 295), (0, ((kx : Nat) : Int)), (0, a), (0, s), (0, ((j : Nat) : Int))], [], ρ)) rfl rfl ?_
    refine TT.br (p := ¬ (ρ 295 8) = 0) (fun h3 => ?_) (fun h3 => absurd (show ¬ (ρ 295 8) = 0 by omega) h3)
    refine TT.steps (cd := cd24) 2 (c' := (33, [(2, 295), (0, ((kx : Nat) : Int)), (0, a), (0, s), (0, ((j : Nat) : Int))], [(0, (ρ 295 8))], ρ)) rfl rfl ?_
    refine TT.top0 (z := (ρ 295 8)) rfl ?_
    refine TT.steps (cd := cd24) 1 (c' := ((if decide ((ρ 295 8) ≤ 0) = true then 35 else 34), [(2, 295), (0, ((kx : Nat) : Int)), (0, a), (0, s), (0, ((j : Nat) : Int))], [], ρ)) rfl rfl ?_
    refine TT.br (p := (ρ 295 8) ≤ 0) (fun h4 => absurd h4 (show ¬ ((ρ 295 8) ≤ 0) by omega)) (fun h4 => ?_)
    exact TT.ret (cd := cd24) rfl rfl rfl rfl (⟨rfl, rfl⟩)
theorem r_callF (X : AX) (a : Int) {ρ : AH} {kx m : Nat} (hkx : kx < 12) (hm8 : m ≤ 8) (h304 : ρ 304 kx = (m : Nat)) (h8 : 0 < ρ 295 8)  : TT X 24 (0, [(2, 295), (0, ((kx : Nat) : Int)), (0, a), (9, 0), (9, 0)], [], ρ) (fun r σ' => r = none ∧ σ' = ρ) := by
  refine TT.steps (cd := cd24) 1 (c' := (1, [(2, 295), (0, ((kx : Nat) : Int)), (0, a), (9, 0), (9, 0)], [(2, 295)], ρ)) rfl rfl ?_
  refine TT.call (cd := cd24) rfl rfl rfl (by decide) rfl (r_looF X h8) (fun r1 σ1 hq => ?_)
  rw [hq.1, hq.2]
  refine TT.steps (cd := cd24) 3 (c' := (5, [(2, 295), (0, ((kx : Nat) : Int)), (0, a), (0, 0), (0, 0)], [], ρ)) rfl rfl ?_
  exact rl_callX X a 0 0 (by omega) hkx hm8 h8 h304
theorem r_callN (X : AX) (a : Int) {f : Nat → Int} {N c i : Nat} {K : Nat → Int} {S : Nat → Nat} {V : Nat → Int} {P : Nat → Nat} {ρ : AH} (hT : TD f N c K S V P) (hR : RTk f N K S V P i ρ) {kx m : Nat} (hkx : kx < 12) (hm8 : m ≤ 8) (h304 : ρ 304 kx = (m : Nat)) (hne : ¬ K i = 14)  : TT X 24 (0, [(2, 295), (0, ((kx : Nat) : Int)), (0, a), (9, 0), (9, 0)], [], ρ) (fun r σ' => r = none ∧ FT 1 (plc K S V i) σ' ∧ RFB ρ σ') := by
  refine TT.steps (cd := cd24) 1 (c' := (1, [(2, 295), (0, ((kx : Nat) : Int)), (0, a), (9, 0), (9, 0)], [(2, 295)], ρ)) rfl rfl ?_
  refine TT.call (cd := cd24) rfl rfl rfl (by decide) rfl (r_looN X hT hR hne) (fun r1 σ1 hq => ?_)
  obtain ⟨x9, hq1, hq2, hq3⟩ := hq
  rw [hq1]
  refine TT.steps (cd := cd24) 3 (c' := (5, [(2, 295), (0, ((kx : Nat) : Int)), (0, a), (0, x9), (0, 0)], [], σ1)) rfl rfl ?_
  exact (rl_callX X a x9 0 (by omega) hkx hm8 (ρ := σ1) (by rw [hq2.1]; decide) ((hq3 _ _ (by omega)).trans h304)).mono (fun r σ' h => ⟨h.1, by rw [h.2]; exact hq2, by rw [h.2]; exact hq3⟩)
theorem r_callR (X : AX) (a : Int) {f : Nat → Int} {N c i : Nat} {K : Nat → Int} {S : Nat → Nat} {V : Nat → Int} {P : Nat → Nat} {ρ : AH} (hT : TD f N c K S V P) (hR : RTk f N K S V P i ρ) {bi np nt ns : Nat} (h32 : ρ 295 32 = (bi : Int)) (hb2 : bi < 2) (m0 : ρ 297 bi = (ns : Int)) (n0 : ns ≤ 14) (m1 : ρ 300 bi = (nt : Int)) (n1 : nt ≤ 6) (m2 : ρ 307 bi = (np : Int)) (n2 : np ≤ 10) (q0 : Int) (e0 : (rxF ρ 298 14 bi ns (ρ 295 7)) = q0) {kx m : Nat} (hkx : kx < 12) (hm8 : m ≤ 8) (h304 : ρ 304 kx = (m : Nat)) (he : K i = 14) (hq0 : q0 = -1)  : TT X 24 (0, [(2, 295), (0, ((kx : Nat) : Int)), (0, a), (9, 0), (9, 0)], [], ρ) (fun r σ' => r = none ∧ FT 3 (plc K S V i) σ' ∧ RFB ρ σ') := by
  refine TT.steps (cd := cd24) 1 (c' := (1, [(2, 295), (0, ((kx : Nat) : Int)), (0, a), (9, 0), (9, 0)], [(2, 295)], ρ)) rfl rfl ?_
  refine TT.call (cd := cd24) rfl rfl rfl (by decide) rfl ((r_loo X hT hR h32 hb2 m0 n0 m1 n1 m2 n2 q0 e0 he).mono (fun _ _ h => h.1 hq0)) (fun r1 σ1 hq => ?_)
  obtain ⟨x9, hq1, hq2, hq3⟩ := hq
  rw [hq1]
  refine TT.steps (cd := cd24) 3 (c' := (5, [(2, 295), (0, ((kx : Nat) : Int)), (0, a), (0, x9), (0, 0)], [], σ1)) rfl rfl ?_
  exact (rl_callX X a x9 0 (by omega) hkx hm8 (ρ := σ1) (by rw [hq2.1]; decide) ((hq3 _ _ (by omega)).trans h304)).mono (fun r σ' h => ⟨h.1, by rw [h.2]; exact hq2, by rw [h.2]; exact hq3⟩)
theorem rl_callO (X : AX) (Q : Option AV → AH → Prop) {ρ : AH} (a : Int) {kx m : Nat} (hkx : kx < 12) (hm8 : m ≤ 8) (h304 : ρ 304 kx = (m : Nat)) (h8 : ρ 295 8 = 0) (cs : Nat → Nat) (hcs : ∀ j, j < m → ρ 305 (8 * kx + j) = (cs j : Int)) (s : Nat) (hne : ∀ j, j < m → ¬ cs j = s)  (kk : TT X 24 (31, [(2, 295), (0, ((kx : Nat) : Int)), (0, a), (0, ((s : Nat) : Int)), (0, ((m : Nat) : Int))], [], ρ) Q) : ∀ (d n : Nat), n + d = m → TT X 24 (5, [(2, 295), (0, ((kx : Nat) : Int)), (0, a), (0, ((s : Nat) : Int)), (0, ((n : Nat) : Int))], [], ρ) Q := by
  intro d
  induction d with
  | zero =>
    intro n hn
    have hnn : n = m := by omega
    rw [hnn]
    refine TT.steps (cd := cd24) 4 (c' := (9, [(2, 295), (0, ((kx : Nat) : Int)), (0, a), (0, ((s : Nat) : Int)), (0, ((m : Nat) : Int))], [(0, ((kx : Nat) : Int)), (2, 304), (0, ((m : Nat) : Int))], ρ)) rfl rfl ?_
    refine TT.aldN (cd := cd24) (304) (kx) rfl rfl rfl rfl (show kx < 12 by omega) ?_
    refine TT.top0 (z := ((m : Nat) : Int)) h304 ?_
    refine TT.steps (cd := cd24) 1 (c' := ((if decide (((m : Nat) : Int) ≤ ((m : Nat) : Int)) = true then 31 else 11), [(2, 295), (0, ((kx : Nat) : Int)), (0, a), (0, ((s : Nat) : Int)), (0, ((m : Nat) : Int))], [], ρ)) rfl rfl ?_
    refine TT.br (p := ((m : Nat) : Int) ≤ ((m : Nat) : Int)) (fun h1 => ?_) (fun h1 => absurd (show ((m : Nat) : Int) ≤ ((m : Nat) : Int) by omega) h1)
    exact kk
  | succ d ih =>
    intro n hn
    refine TT.steps (cd := cd24) 4 (c' := (9, [(2, 295), (0, ((kx : Nat) : Int)), (0, a), (0, ((s : Nat) : Int)), (0, ((n : Nat) : Int))], [(0, ((kx : Nat) : Int)), (2, 304), (0, ((n : Nat) : Int))], ρ)) rfl rfl ?_
    refine TT.aldN (cd := cd24) (304) (kx) rfl rfl rfl rfl (show kx < 12 by omega) ?_
    refine TT.top0 (z := ((m : Nat) : Int)) h304 ?_
    refine TT.steps (cd := cd24) 1 (c' := ((if decide (((m : Nat) : Int) ≤ ((n : Nat) : Int)) = true then 31 else 11), [(2, 295), (0, ((kx : Nat) : Int)), (0, a), (0, ((s : Nat) : Int)), (0, ((n : Nat) : Int))], [], ρ)) rfl rfl ?_
    refine TT.br (p := ((m : Nat) : Int) ≤ ((n : Nat) : Int)) (fun h1 => absurd h1 (show ¬ (((m : Nat) : Int) ≤ ((n : Nat) : Int)) by omega)) (fun h1 => ?_)
    refine TT.steps (cd := cd24) 2 (c' := (13, [(2, 295), (0, ((kx : Nat) : Int)), (0, a), (0, ((s : Nat) : Int)), (0, ((n : Nat) : Int))], [(0, (ρ 295 8))], ρ)) rfl rfl ?_
    refine TT.top0 (z := 0) h8 ?_
    refine TT.steps (cd := cd24) 6 (c' := (19, [(2, 295), (0, ((kx : Nat) : Int)), (0, a), (0, ((s : Nat) : Int)), (0, ((n : Nat) : Int))], [(0, (aMul 8 ((kx : Nat) : Int))), (2, 305)], ρ)) rfl rfl ?_
    refine TT.top0 (z := ((8 * kx : Nat) : Int)) (aMul_n (a := 8) (b := kx) (by omega)) ?_
    refine TT.steps (cd := cd24) 2 (c' := (21, [(2, 295), (0, ((kx : Nat) : Int)), (0, a), (0, ((s : Nat) : Int)), (0, ((n : Nat) : Int))], [(0, (aAdd ((8 * kx : Nat) : Int) ((n : Nat) : Int))), (2, 305)], ρ)) rfl rfl ?_
    refine TT.top0 (z := (((8 * kx) + n : Nat) : Int)) (aAdd_n (a := 8 * kx) (b := n) (by omega)) ?_
    refine TT.aldN (cd := cd24) (305) ((8 * kx) + n) rfl rfl rfl rfl (show (8 * kx) + n < 96 by omega) ?_
    refine TT.top0 (z := (((cs n) : Nat) : Int)) (hcs n (by omega)) ?_
    refine TT.steps (cd := cd24) 2 (c' := ((if decide (¬ (((cs n) : Nat) : Int) = ((s : Nat) : Int)) = true then 29 else 24), [(2, 295), (0, ((kx : Nat) : Int)), (0, a), (0, ((s : Nat) : Int)), (0, ((n : Nat) : Int))], [], ρ)) rfl rfl ?_
    refine TT.br (p := ¬ (((cs n) : Nat) : Int) = ((s : Nat) : Int)) (fun h2 => ?_) (fun h2 => absurd (show ¬ (((cs n) : Nat) : Int) = ((s : Nat) : Int) by have := hne n (by omega); omega) h2)
    refine TT.inc (cd := cd24) ((n + 1 : Nat) : Int) rfl rfl rfl rfl (fun h => absurd h.2 (show ¬ (0 = 1) by decide)) (aAdd_n (a := n) (b := 1) (by omega)) (ls' := [(2, 295), (0, ((kx : Nat) : Int)), (0, a), (0, ((s : Nat) : Int)), (0, ((n + 1 : Nat) : Int))]) rfl ?_
    refine TT.steps (cd := cd24) 1 (c' := (5, [(2, 295), (0, ((kx : Nat) : Int)), (0, a), (0, ((s : Nat) : Int)), (0, ((n + 1 : Nat) : Int))], [], ρ)) rfl rfl ?_
    have e4 : ((n + 1 : Nat) : Int) = (((n + 1) : Nat) : Int) := by omega
    rw [e4]
    clear e4
    exact ih (n + 1) (by omega)
theorem rl_callE (X : AX) {ρ : AH} (a : Int) {f : Nat → Int} {N c i : Nat} {K : Nat → Int} {S : Nat → Nat} {V : Nat → Int} {P : Nat → Nat} (hT : TD f N c K S V P) (hR : RTk f N K S V P i ρ) {kx m : Nat} (hkx : kx < 12) (hm8 : m ≤ 8) (h304 : ρ 304 kx = (m : Nat)) (cs : Nat → Nat) (hcs : ∀ j, j < m → ρ 305 (8 * kx + j) = (cs j : Int)) (s : Nat) : ∀ (d n : Nat), n + d = m → (∃ j, n ≤ j ∧ j < m ∧ cs j = s) → TT X 24 (5, [(2, 295), (0, ((kx : Nat) : Int)), (0, a), (0, ((s : Nat) : Int)), (0, ((n : Nat) : Int))], [], ρ) (fun r σ' => r = none ∧ FT 3 (S i : Int) σ' ∧ RFB ρ σ') := by
  intro d
  induction d with
  | zero =>
    intro n hn hI
    obtain ⟨j, j1, j2, j3⟩ := hI
    omega
  | succ d ih =>
    intro n hn hI
    refine TT.steps (cd := cd24) 4 (c' := (9, [(2, 295), (0, ((kx : Nat) : Int)), (0, a), (0, ((s : Nat) : Int)), (0, ((n : Nat) : Int))], [(0, ((kx : Nat) : Int)), (2, 304), (0, ((n : Nat) : Int))], ρ)) rfl rfl ?_
    refine TT.aldN (cd := cd24) (304) (kx) rfl rfl rfl rfl (show kx < 12 by omega) ?_
    refine TT.top0 (z := ((m : Nat) : Int)) h304 ?_
    refine TT.steps (cd := cd24) 1 (c' := ((if decide (((m : Nat) : Int) ≤ ((n : Nat) : Int)) = true then 31 else 11), [(2, 295), (0, ((kx : Nat) : Int)), (0, a), (0, ((s : Nat) : Int)), (0, ((n : Nat) : Int))], [], ρ)) rfl rfl ?_
    refine TT.br (p := ((m : Nat) : Int) ≤ ((n : Nat) : Int)) (fun h1 => absurd h1 (show ¬ (((m : Nat) : Int) ≤ ((n : Nat) : Int)) by omega)) (fun h1 => ?_)
    refine TT.steps (cd := cd24) 2 (c' := (13, [(2, 295), (0, ((kx : Nat) : Int)), (0, a), (0, ((s : Nat) : Int)), (0, ((n : Nat) : Int))], [(0, (ρ 295 8))], ρ)) rfl rfl ?_
    refine TT.top0 (z := 0) hR.1 ?_
    refine TT.steps (cd := cd24) 6 (c' := (19, [(2, 295), (0, ((kx : Nat) : Int)), (0, a), (0, ((s : Nat) : Int)), (0, ((n : Nat) : Int))], [(0, (aMul 8 ((kx : Nat) : Int))), (2, 305)], ρ)) rfl rfl ?_
    refine TT.top0 (z := ((8 * kx : Nat) : Int)) (aMul_n (a := 8) (b := kx) (by omega)) ?_
    refine TT.steps (cd := cd24) 2 (c' := (21, [(2, 295), (0, ((kx : Nat) : Int)), (0, a), (0, ((s : Nat) : Int)), (0, ((n : Nat) : Int))], [(0, (aAdd ((8 * kx : Nat) : Int) ((n : Nat) : Int))), (2, 305)], ρ)) rfl rfl ?_
    refine TT.top0 (z := (((8 * kx) + n : Nat) : Int)) (aAdd_n (a := 8 * kx) (b := n) (by omega)) ?_
    refine TT.aldN (cd := cd24) (305) ((8 * kx) + n) rfl rfl rfl rfl (show (8 * kx) + n < 96 by omega) ?_
    refine TT.top0 (z := (((cs n) : Nat) : Int)) (hcs n (by omega)) ?_
    refine TT.steps (cd := cd24) 2 (c' := ((if decide (¬ (((cs n) : Nat) : Int) = ((s : Nat) : Int)) = true then 29 else 24), [(2, 295), (0, ((kx : Nat) : Int)), (0, a), (0, ((s : Nat) : Int)), (0, ((n : Nat) : Int))], [], ρ)) rfl rfl ?_
    refine TT.br (p := ¬ (((cs n) : Nat) : Int) = ((s : Nat) : Int)) (fun h2 => ?_) (fun h2 => ?_)
    · refine TT.inc (cd := cd24) ((n + 1 : Nat) : Int) rfl rfl rfl rfl (fun h => absurd h.2 (show ¬ (0 = 1) by decide)) (aAdd_n (a := n) (b := 1) (by omega)) (ls' := [(2, 295), (0, ((kx : Nat) : Int)), (0, a), (0, ((s : Nat) : Int)), (0, ((n + 1 : Nat) : Int))]) rfl ?_
      refine TT.steps (cd := cd24) 1 (c' := (5, [(2, 295), (0, ((kx : Nat) : Int)), (0, a), (0, ((s : Nat) : Int)), (0, ((n + 1 : Nat) : Int))], [], ρ)) rfl rfl ?_
      exact ih (n + 1) (by omega) (by obtain ⟨j, j1, j2, j3⟩ := hI; by_cases e : j = n; (subst e; omega); exact ⟨j, by omega, j2, j3⟩)
    · refine TT.steps (cd := cd24) 4 (c' := (28, [(2, 295), (0, ((kx : Nat) : Int)), (0, a), (0, ((s : Nat) : Int)), (0, ((n : Nat) : Int))], [(0, (ρ 295 4)), (0, 3), (2, 295)], ρ)) rfl rfl ?_
      refine TT.top0 (z := (((S i) : Nat) : Int)) hR.2.2.2.1 ?_
      refine TT.call (cd := cd24) rfl rfl rfl (by decide) rfl (r_bl X hR.1 3 ((S i : Nat) : Int)) (fun r3 σ3 hq => ?_)
      obtain ⟨hq1, hq2, hq3⟩ := hq
      rw [hq1]
      refine TT.inc (cd := cd24) ((n + 1 : Nat) : Int) rfl rfl rfl rfl (fun h => absurd h.2 (show ¬ (0 = 1) by decide)) (aAdd_n (a := n) (b := 1) (by omega)) (ls' := [(2, 295), (0, ((kx : Nat) : Int)), (0, a), (0, ((s : Nat) : Int)), (0, ((n + 1 : Nat) : Int))]) rfl ?_
      refine TT.steps (cd := cd24) 1 (c' := (5, [(2, 295), (0, ((kx : Nat) : Int)), (0, a), (0, ((s : Nat) : Int)), (0, ((n + 1 : Nat) : Int))], [], σ3)) rfl rfl ?_
      exact (rl_callX X a _ (n + 1) (by omega) hkx hm8 (ρ := σ3) (by rw [hq2.1]; decide) ((hq3 _ _ (by omega)).trans h304)).mono (fun r σ' h => ⟨h.1, by rw [h.2]; exact hq2, by rw [h.2]; exact hq3⟩)
theorem r_callE (X : AX) (a : Int) {f : Nat → Int} {N c i : Nat} {K : Nat → Int} {S : Nat → Nat} {V : Nat → Int} {P : Nat → Nat} {ρ : AH} (hT : TD f N c K S V P) (hR : RTk f N K S V P i ρ) {bi np nt ns : Nat} (h32 : ρ 295 32 = (bi : Int)) (hb2 : bi < 2) (m0 : ρ 297 bi = (ns : Int)) (n0 : ns ≤ 14) (m1 : ρ 300 bi = (nt : Int)) (n1 : nt ≤ 6) (m2 : ρ 307 bi = (np : Int)) (n2 : np ≤ 10) {kx m : Nat} (hkx : kx < 12) (hm8 : m ≤ 8) (h304 : ρ 304 kx = (m : Nat)) (cs : Nat → Nat) (hcs : ∀ j, j < m → ρ 305 (8 * kx + j) = (cs j : Int)) (s : Nat) (e0 : (rxF ρ 298 14 bi ns (ρ 295 7)) = ((s : Nat) : Int)) (he : K i = 14) (hex : ∃ j, j < m ∧ cs j = s)  : TT X 24 (0, [(2, 295), (0, ((kx : Nat) : Int)), (0, a), (9, 0), (9, 0)], [], ρ) (fun r σ' => r = none ∧ FT 3 (S i : Int) σ' ∧ RFB ρ σ') := by
  refine TT.steps (cd := cd24) 1 (c' := (1, [(2, 295), (0, ((kx : Nat) : Int)), (0, a), (9, 0), (9, 0)], [(2, 295)], ρ)) rfl rfl ?_
  refine TT.call (cd := cd24) rfl rfl rfl (by decide) rfl ((r_loo X hT hR h32 hb2 m0 n0 m1 n1 m2 n2 ((s : Nat) : Int) e0 he).mono (fun _ _ h => h.2 (by omega))) (fun r1 σ1 hq => ?_)
  rw [hq.1, hq.2]
  refine TT.steps (cd := cd24) 3 (c' := (5, [(2, 295), (0, ((kx : Nat) : Int)), (0, a), (0, ((s : Nat) : Int)), (0, 0)], [], ρ)) rfl rfl ?_
  exact rl_callE X a hT hR hkx hm8 h304 cs hcs s m 0 (by omega) (by obtain ⟨j, j1, j2⟩ := hex; exact ⟨j, by omega, j1, j2⟩)
theorem r_callO (X : AX) (a : Int) {f : Nat → Int} {N c i : Nat} {K : Nat → Int} {S : Nat → Nat} {V : Nat → Int} {P : Nat → Nat} {ρ : AH} (hT : TD f N c K S V P) (hR : RTk f N K S V P i ρ) {bi np nt ns : Nat} (h32 : ρ 295 32 = (bi : Int)) (hb2 : bi < 2) (m0 : ρ 297 bi = (ns : Int)) (n0 : ns ≤ 14) (m1 : ρ 300 bi = (nt : Int)) (n1 : nt ≤ 6) (m2 : ρ 307 bi = (np : Int)) (n2 : np ≤ 10) {kx m : Nat} (hkx : kx < 12) (hm8 : m < 8) (h304 : ρ 304 kx = (m : Nat)) (cs : Nat → Nat) (hcs : ∀ j, j < m → ρ 305 (8 * kx + j) = (cs j : Int)) (s : Nat) (e0 : (rxF ρ 298 14 bi ns (ρ 295 7)) = ((s : Nat) : Int)) (hi : i < c) (he : K i = 14) (hne : ∀ j, j < m → ¬ cs j = s)  : TT X 24 (0, [(2, 295), (0, ((kx : Nat) : Int)), (0, a), (9, 0), (9, 0)], [], ρ) (fun r σ' => r = none ∧ ∃ ρm, RTk f N K S V P (i + 1) ρm ∧ RFA ρ ρm ∧ σ' = up2 (up2 (up2 ρm 305 (8 * kx + m) (s : Int)) 306 (8 * kx + m) a) 304 kx ((m + 1 : Nat) : Int)) := by
  refine TT.steps (cd := cd24) 1 (c' := (1, [(2, 295), (0, ((kx : Nat) : Int)), (0, a), (9, 0), (9, 0)], [(2, 295)], ρ)) rfl rfl ?_
  refine TT.call (cd := cd24) rfl rfl rfl (by decide) rfl ((r_loo X hT hR h32 hb2 m0 n0 m1 n1 m2 n2 ((s : Nat) : Int) e0 he).mono (fun _ _ h => h.2 (by omega))) (fun r1 σ1 hq => ?_)
  rw [hq.1, hq.2]
  refine TT.steps (cd := cd24) 3 (c' := (5, [(2, 295), (0, ((kx : Nat) : Int)), (0, a), (0, ((s : Nat) : Int)), (0, 0)], [], ρ)) rfl rfl ?_
  refine rl_callO X _ a hkx (by omega) h304 hR.1 cs hcs s hne ?_ m 0 (by omega)
  refine TT.steps (cd := cd24) 2 (c' := (33, [(2, 295), (0, ((kx : Nat) : Int)), (0, a), (0, ((s : Nat) : Int)), (0, ((m : Nat) : Int))], [(0, (ρ 295 8))], ρ)) rfl rfl ?_
  refine TT.top0 (z := 0) hR.1 ?_
  refine TT.steps (cd := cd24) 2 (c' := (36, [(2, 295), (0, ((kx : Nat) : Int)), (0, a), (0, ((s : Nat) : Int)), (0, ((m : Nat) : Int))], [(2, 295)], ρ)) rfl rfl ?_
  refine TT.call (cd := cd24) rfl rfl rfl (by decide) rfl (r_ahead X hT hR hi) (fun r2 σ2 hq => ?_)
  obtain ⟨hq1, hq2, hq3⟩ := hq
  rw [hq1]
  refine TT.steps (cd := cd24) 5 (c' := (42, [(2, 295), (0, ((kx : Nat) : Int)), (0, a), (0, ((s : Nat) : Int)), (0, ((m : Nat) : Int))], [(0, (aMul 8 ((kx : Nat) : Int))), (2, 305)], σ2)) rfl rfl ?_
  refine TT.top0 (z := ((8 * kx : Nat) : Int)) (aMul_n (a := 8) (b := kx) (by omega)) ?_
  refine TT.steps (cd := cd24) 3 (c' := (45, [(2, 295), (0, ((kx : Nat) : Int)), (0, a), (0, ((s : Nat) : Int)), (0, ((m : Nat) : Int))], [(0, ((kx : Nat) : Int)), (2, 304), (0, ((8 * kx : Nat) : Int)), (2, 305)], σ2)) rfl rfl ?_
  refine TT.aldN (cd := cd24) (304) (kx) rfl rfl rfl rfl (show kx < 12 by omega) ?_
  refine TT.top0 (z := ((m : Nat) : Int)) ((hq3 304 (kx) (by omega)).trans h304) ?_
  refine TT.steps (cd := cd24) 1 (c' := (47, [(2, 295), (0, ((kx : Nat) : Int)), (0, a), (0, ((s : Nat) : Int)), (0, ((m : Nat) : Int))], [(0, (aAdd ((8 * kx : Nat) : Int) ((m : Nat) : Int))), (2, 305)], σ2)) rfl rfl ?_
  refine TT.top0 (z := (((8 * kx) + m : Nat) : Int)) (aAdd_n (a := 8 * kx) (b := m) (by omega)) ?_
  refine TT.steps (cd := cd24) 1 (c' := (48, [(2, 295), (0, ((kx : Nat) : Int)), (0, a), (0, ((s : Nat) : Int)), (0, ((m : Nat) : Int))], [(0, ((s : Nat) : Int)), (0, (((8 * kx) + m : Nat) : Int)), (2, 305)], σ2)) rfl rfl ?_
  refine TT.astN (cd := cd24) (305) ((8 * kx) + m) rfl rfl rfl rfl (show (8 * kx) + m < 96 by omega) ?_
  refine TT.steps (cd := cd24) 5 (c' := (54, [(2, 295), (0, ((kx : Nat) : Int)), (0, a), (0, ((s : Nat) : Int)), (0, ((m : Nat) : Int))], [(0, (aMul 8 ((kx : Nat) : Int))), (2, 306)], (up2 σ2 305 ((8 * kx) + m) ((s : Nat) : Int)))) rfl rfl ?_
  refine TT.top0 (z := ((8 * kx : Nat) : Int)) (aMul_n (a := 8) (b := kx) (by omega)) ?_
  refine TT.steps (cd := cd24) 3 (c' := (57, [(2, 295), (0, ((kx : Nat) : Int)), (0, a), (0, ((s : Nat) : Int)), (0, ((m : Nat) : Int))], [(0, ((kx : Nat) : Int)), (2, 304), (0, ((8 * kx : Nat) : Int)), (2, 306)], (up2 σ2 305 ((8 * kx) + m) ((s : Nat) : Int)))) rfl rfl ?_
  refine TT.aldN (cd := cd24) (304) (kx) rfl rfl rfl rfl (show kx < 12 by omega) ?_
  refine TT.top0 (z := ((m : Nat) : Int)) (((up2_far (k := 305) (k' := 304) _ _ _ _ (by decide)).trans (hq3 304 (kx) (by omega))).trans h304) ?_
  refine TT.steps (cd := cd24) 1 (c' := (59, [(2, 295), (0, ((kx : Nat) : Int)), (0, a), (0, ((s : Nat) : Int)), (0, ((m : Nat) : Int))], [(0, (aAdd ((8 * kx : Nat) : Int) ((m : Nat) : Int))), (2, 306)], (up2 σ2 305 ((8 * kx) + m) ((s : Nat) : Int)))) rfl rfl ?_
  refine TT.top0 (z := (((8 * kx) + m : Nat) : Int)) (aAdd_n (a := 8 * kx) (b := m) (by omega)) ?_
  refine TT.steps (cd := cd24) 1 (c' := (60, [(2, 295), (0, ((kx : Nat) : Int)), (0, a), (0, ((s : Nat) : Int)), (0, ((m : Nat) : Int))], [(0, a), (0, (((8 * kx) + m : Nat) : Int)), (2, 306)], (up2 σ2 305 ((8 * kx) + m) ((s : Nat) : Int)))) rfl rfl ?_
  refine TT.astN (cd := cd24) (306) ((8 * kx) + m) rfl rfl rfl rfl (show (8 * kx) + m < 96 by omega) ?_
  refine TT.steps (cd := cd24) 4 (c' := (65, [(2, 295), (0, ((kx : Nat) : Int)), (0, a), (0, ((s : Nat) : Int)), (0, ((m : Nat) : Int))], [(0, ((kx : Nat) : Int)), (2, 304), (0, ((kx : Nat) : Int)), (2, 304)], (up2 (up2 σ2 305 ((8 * kx) + m) ((s : Nat) : Int)) 306 ((8 * kx) + m) a))) rfl rfl ?_
  refine TT.aldN (cd := cd24) (304) (kx) rfl rfl rfl rfl (show kx < 12 by omega) ?_
  refine TT.top0 (z := ((m : Nat) : Int)) ((((up2_far (k := 306) (k' := 304) _ _ _ _ (by decide)).trans (up2_far (k := 305) (k' := 304) _ _ _ _ (by decide))).trans (hq3 304 (kx) (by omega))).trans h304) ?_
  refine TT.steps (cd := cd24) 2 (c' := (68, [(2, 295), (0, ((kx : Nat) : Int)), (0, a), (0, ((s : Nat) : Int)), (0, ((m : Nat) : Int))], [(0, (aAdd ((m : Nat) : Int) 1)), (0, ((kx : Nat) : Int)), (2, 304)], (up2 (up2 σ2 305 ((8 * kx) + m) ((s : Nat) : Int)) 306 ((8 * kx) + m) a))) rfl rfl ?_
  refine TT.top0 (z := ((m + 1 : Nat) : Int)) (aAdd_n (a := m) (b := 1) (by omega)) ?_
  refine TT.astN (cd := cd24) (304) (kx) rfl rfl rfl rfl (show kx < 12 by omega) ?_
  exact TT.ret (cd := cd24) rfl rfl rfl rfl (⟨rfl, _, hq2, hq3, rfl⟩)
