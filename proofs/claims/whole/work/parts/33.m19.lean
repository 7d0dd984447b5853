/-- whether a train calls at a station, whether one stops there: calls of one train, of all -/
def eK (σ : AH) (b t : Nat) (s : Int) (c0 : Int × Int) : Nat → Int × Int
  | 0 => c0
  | k + 1 => if σ 305 (8 * (6 * b + t) + k) = s then (1, if (eK σ b t s c0 k).2 = 0 ∧ ¬ σ 325 (8 * t + k) = 1 then 0 else 1) else eK σ b t s c0 k
def eT (σ : AH) (b : Nat) (L : Nat → Nat) (s : Int) : Nat → Int × Int
  | 0 => (0, 0)
  | t + 1 => eK σ b t s (eT σ b L s t) (L t)
abbrev mEachC (σ : AH) (b nt ns : Nat) (L : Nat → Nat) : Prop := anyN (fun s => decide (¬ (eT σ b L ((s : Nat) : Int) nt).1 = 0 ∧ (eT σ b L ((s : Nat) : Int) nt).2 = 0)) ns = false
theorem l_ies1 (X : AX) (Q : Option AV → AH → Prop) (s t lt : Nat) (ht : t < 6) (c0 : Int × Int) (σ : AH) {b : Nat} (hb : σ 295 13 = (b : Int)) (hb2 : b < 2) (hlt : σ 304 (6 * b + t) = (lt : Int)) (hlt2 : lt ≤ 8) (kk : ∀ x : AV, TT X 95 (56, [(2, 295), (0, ((s : Nat) : Int)), (0, (eK σ b t ((s : Nat) : Int) c0 lt).1), (0, (eK σ b t ((s : Nat) : Int) c0 lt).2), (0, ((t : Nat) : Int)), x], [], σ) Q) : ∀ (d n : Nat), n + d = lt → TT X 95 (24, [(2, 295), (0, ((s : Nat) : Int)), (0, (eK σ b t ((s : Nat) : Int) c0 n).1), (0, (eK σ b t ((s : Nat) : Int) c0 n).2), (0, ((t : Nat) : Int)), (0, ((n : Nat) : Int))], [], σ) Q := by
  intro d
  induction d with
  | zero =>
    intro n hn 
    have hnn : n = lt := by omega
    refine TT.steps (cd := cd95) 3 (c' := (27, [(2, 295), (0, ((s : Nat) : Int)), (0, (eK σ b t ((s : Nat) : Int) c0 n).1), (0, (eK σ b t ((s : Nat) : Int) c0 n).2), (0, ((t : Nat) : Int)), (0, ((n : Nat) : Int))], [(0, ((t : Nat) : Int)), (2, 295), (0, ((n : Nat) : Int))], σ)) rfl rfl ?_
    refine TT.call (cd := cd95) rfl rfl rfl (by decide) rfl (t_callsOf X t (by omega) σ hb hb2) (fun r1 σ1 hq => ?_)
    rw [hq.1, hq.2]
    refine TT.top0 (z := ((lt : Nat) : Int)) hlt ?_
    refine TT.steps (cd := cd95) 1 (c' := ((if decide (((lt : Nat) : Int) ≤ ((n : Nat) : Int)) = true then 56 else 29), [(2, 295), (0, ((s : Nat) : Int)), (0, (eK σ b t ((s : Nat) : Int) c0 n).1), (0, (eK σ b t ((s : Nat) : Int) c0 n).2), (0, ((t : Nat) : Int)), (0, ((n : Nat) : Int))], [], σ)) rfl rfl ?_
    refine TT.br (p := ((lt : Nat) : Int) ≤ ((n : Nat) : Int)) (fun h2 => ?_) (fun h2 => absurd (show ((lt : Nat) : Int) ≤ ((n : Nat) : Int) by omega) h2)
    subst hnn
    exact kk _
  | succ d ih =>
    intro n hn 
    refine TT.steps (cd := cd95) 3 (c' := (27, [(2, 295), (0, ((s : Nat) : Int)), (0, (eK σ b t ((s : Nat) : Int) c0 n).1), (0, (eK σ b t ((s : Nat) : Int) c0 n).2), (0, ((t : Nat) : Int)), (0, ((n : Nat) : Int))], [(0, ((t : Nat) : Int)), (2, 295), (0, ((n : Nat) : Int))], σ)) rfl rfl ?_
    refine TT.call (cd := cd95) rfl rfl rfl (by decide) rfl (t_callsOf X t (by omega) σ hb hb2) (fun r1 σ1 hq => ?_)
    rw [hq.1, hq.2]
    refine TT.top0 (z := ((lt : Nat) : Int)) hlt ?_
    refine TT.steps (cd := cd95) 1 (c' := ((if decide (((lt : Nat) : Int) ≤ ((n : Nat) : Int)) = true then 56 else 29), [(2, 295), (0, ((s : Nat) : Int)), (0, (eK σ b t ((s : Nat) : Int) c0 n).1), (0, (eK σ b t ((s : Nat) : Int) c0 n).2), (0, ((t : Nat) : Int)), (0, ((n : Nat) : Int))], [], σ)) rfl rfl ?_
    refine TT.br (p := ((lt : Nat) : Int) ≤ ((n : Nat) : Int)) (fun h2 => absurd h2 (show ¬ (((lt : Nat) : Int) ≤ ((n : Nat) : Int)) by omega)) (fun h2 => ?_)
    refine TT.steps (cd := cd95) 3 (c' := (32, [(2, 295), (0, ((s : Nat) : Int)), (0, (eK σ b t ((s : Nat) : Int) c0 n).1), (0, (eK σ b t ((s : Nat) : Int) c0 n).2), (0, ((t : Nat) : Int)), (0, ((n : Nat) : Int))], [(0, ((n : Nat) : Int)), (0, ((t : Nat) : Int)), (2, 295)], σ)) rfl rfl ?_
    refine TT.call (cd := cd95) rfl rfl rfl (by decide) rfl (t_callOf X t n (by omega) (by omega) σ hb hb2) (fun r3 σ3 hq => ?_)
    rw [hq.1, hq.2]
    refine TT.steps (cd := cd95) 2 (c' := ((if decide ((σ 305 (8 * (6 * b + t) + n)) = ((s : Nat) : Int)) = true then 36 else 35), [(2, 295), (0, ((s : Nat) : Int)), (0, (eK σ b t ((s : Nat) : Int) c0 n).1), (0, (eK σ b t ((s : Nat) : Int) c0 n).2), (0, ((t : Nat) : Int)), (0, ((n : Nat) : Int))], [], σ)) rfl rfl ?_
    refine TT.br (p := (σ 305 (8 * (6 * b + t) + n)) = ((s : Nat) : Int)) (fun h4 => ?_) (fun h4 => ?_)
    · refine TT.steps (cd := cd95) 4 (c' := ((if decide (¬ (eK σ b t ((s : Nat) : Int) c0 n).2 = 0) = true then 50 else 40), [(2, 295), (0, ((s : Nat) : Int)), (0, 1), (0, (eK σ b t ((s : Nat) : Int) c0 n).2), (0, ((t : Nat) : Int)), (0, ((n : Nat) : Int))], [], σ)) rfl rfl ?_
      refine TT.br (p := ¬ (eK σ b t ((s : Nat) : Int) c0 n).2 = 0) (fun h5 => ?_) (fun h5 => ?_)
      · refine TT.steps (cd := cd95) 3 (c' := (54, [(2, 295), (0, ((s : Nat) : Int)), (0, 1), (0, 1), (0, ((t : Nat) : Int)), (0, ((n : Nat) : Int))], [], σ)) rfl rfl ?_
        refine TT.inc (cd := cd95) ((n + 1 : Nat) : Int) rfl rfl rfl rfl (fun h => absurd h.2 (show ¬ (0 = 1) by decide)) (aAdd_n (a := n) (b := 1) (by omega)) (ls' := [(2, 295), (0, ((s : Nat) : Int)), (0, 1), (0, 1), (0, ((t : Nat) : Int)), (0, ((n + 1 : Nat) : Int))]) rfl ?_
        refine TT.steps (cd := cd95) 1 (c' := (24, [(2, 295), (0, ((s : Nat) : Int)), (0, 1), (0, 1), (0, ((t : Nat) : Int)), (0, ((n + 1 : Nat) : Int))], [], σ)) rfl rfl ?_
        have := ih (n + 1) (by omega)
        simp only [eK] at this
        first | (rw [if_neg (by omega)] at this; exact this) | (rw [if_pos (by omega), if_pos (by omega)] at this; exact this) | (rw [if_pos (by omega), if_neg (by omega)] at this; exact this)
      · refine TT.steps (cd := cd95) 5 (c' := (45, [(2, 295), (0, ((s : Nat) : Int)), (0, 1), (0, (eK σ b t ((s : Nat) : Int) c0 n).2), (0, ((t : Nat) : Int)), (0, ((n : Nat) : Int))], [(0, (aMul 8 ((t : Nat) : Int))), (2, 325)], σ)) rfl rfl ?_
        refine TT.top0 (z := ((8 * t : Nat) : Int)) (aMul_n (a := 8) (b := t) (by omega)) ?_
        refine TT.steps (cd := cd95) 2 (c' := (47, [(2, 295), (0, ((s : Nat) : Int)), (0, 1), (0, (eK σ b t ((s : Nat) : Int) c0 n).2), (0, ((t : Nat) : Int)), (0, ((n : Nat) : Int))], [(0, (aAdd ((8 * t : Nat) : Int) ((n : Nat) : Int))), (2, 325)], σ)) rfl rfl ?_
        refine TT.top0 (z := (((8 * t) + n : Nat) : Int)) (aAdd_n (a := 8 * t) (b := n) (by omega)) ?_
        refine TT.aldN (cd := cd95) (325) ((8 * t) + n) rfl rfl rfl rfl (show (8 * t) + n < 48 by omega) ?_
        refine TT.steps (cd := cd95) 2 (c' := ((if decide (¬ (σ 325 ((8 * t) + n)) = 1) = true then 52 else 50), [(2, 295), (0, ((s : Nat) : Int)), (0, 1), (0, (eK σ b t ((s : Nat) : Int) c0 n).2), (0, ((t : Nat) : Int)), (0, ((n : Nat) : Int))], [], σ)) rfl rfl ?_
        refine TT.br (p := ¬ (σ 325 ((8 * t) + n)) = 1) (fun h6 => ?_) (fun h6 => ?_)
        · refine TT.steps (cd := cd95) 2 (c' := (54, [(2, 295), (0, ((s : Nat) : Int)), (0, 1), (0, 0), (0, ((t : Nat) : Int)), (0, ((n : Nat) : Int))], [], σ)) rfl rfl ?_
          refine TT.inc (cd := cd95) ((n + 1 : Nat) : Int) rfl rfl rfl rfl (fun h => absurd h.2 (show ¬ (0 = 1) by decide)) (aAdd_n (a := n) (b := 1) (by omega)) (ls' := [(2, 295), (0, ((s : Nat) : Int)), (0, 1), (0, 0), (0, ((t : Nat) : Int)), (0, ((n + 1 : Nat) : Int))]) rfl ?_
          refine TT.steps (cd := cd95) 1 (c' := (24, [(2, 295), (0, ((s : Nat) : Int)), (0, 1), (0, 0), (0, ((t : Nat) : Int)), (0, ((n + 1 : Nat) : Int))], [], σ)) rfl rfl ?_
          have := ih (n + 1) (by omega)
          simp only [eK] at this
          first | (rw [if_neg (by omega)] at this; exact this) | (rw [if_pos (by omega), if_pos (by omega)] at this; exact this) | (rw [if_pos (by omega), if_neg (by omega)] at this; exact this)
        · refine TT.steps (cd := cd95) 3 (c' := (54, [(2, 295), (0, ((s : Nat) : Int)), (0, 1), (0, 1), (0, ((t : Nat) : Int)), (0, ((n : Nat) : Int))], [], σ)) rfl rfl ?_
          refine TT.inc (cd := cd95) ((n + 1 : Nat) : Int) rfl rfl rfl rfl (fun h => absurd h.2 (show ¬ (0 = 1) by decide)) (aAdd_n (a := n) (b := 1) (by omega)) (ls' := [(2, 295), (0, ((s : Nat) : Int)), (0, 1), (0, 1), (0, ((t : Nat) : Int)), (0, ((n + 1 : Nat) : Int))]) rfl ?_
          refine TT.steps (cd := cd95) 1 (c' := (24, [(2, 295), (0, ((s : Nat) : Int)), (0, 1), (0, 1), (0, ((t : Nat) : Int)), (0, ((n + 1 : Nat) : Int))], [], σ)) rfl rfl ?_
          have := ih (n + 1) (by omega)
          simp only [eK] at this
          first | (rw [if_neg (by omega)] at this; exact this) | (rw [if_pos (by omega), if_pos (by omega)] at this; exact this) | (rw [if_pos (by omega), if_neg (by omega)] at this; exact this)
    · refine TT.steps (cd := cd95) 1 (c' := (54, [(2, 295), (0, ((s : Nat) : Int)), (0, (eK σ b t ((s : Nat) : Int) c0 n).1), (0, (eK σ b t ((s : Nat) : Int) c0 n).2), (0, ((t : Nat) : Int)), (0, ((n : Nat) : Int))], [], σ)) rfl rfl ?_
      refine TT.inc (cd := cd95) ((n + 1 : Nat) : Int) rfl rfl rfl rfl (fun h => absurd h.2 (show ¬ (0 = 1) by decide)) (aAdd_n (a := n) (b := 1) (by omega)) (ls' := [(2, 295), (0, ((s : Nat) : Int)), (0, (eK σ b t ((s : Nat) : Int) c0 n).1), (0, (eK σ b t ((s : Nat) : Int) c0 n).2), (0, ((t : Nat) : Int)), (0, ((n + 1 : Nat) : Int))]) rfl ?_
      refine TT.steps (cd := cd95) 1 (c' := (24, [(2, 295), (0, ((s : Nat) : Int)), (0, (eK σ b t ((s : Nat) : Int) c0 n).1), (0, (eK σ b t ((s : Nat) : Int) c0 n).2), (0, ((t : Nat) : Int)), (0, ((n + 1 : Nat) : Int))], [], σ)) rfl rfl ?_
      have := ih (n + 1) (by omega)
      simp only [eK] at this
      first | (rw [if_neg (by omega)] at this; exact this) | (rw [if_pos (by omega), if_pos (by omega)] at this; exact this) | (rw [if_pos (by omega), if_neg (by omega)] at this; exact this)
theorem l_ies2 (X : AX) (Q : Option AV → AH → Prop) (s nt : Nat) (L : Nat → Nat) (σ : AH) {b : Nat} (hb : σ 295 13 = (b : Int)) (hb2 : b < 2) (hnt : σ 300 b = (nt : Int)) (hnt2 : nt ≤ 6) (hL : ∀ t, t < nt → σ 304 (6 * b + t) = (L t : Int) ∧ 2 ≤ L t ∧ L t ≤ 8) (kk : ∀ x y : AV, TT X 95 (58, [(2, 295), (0, ((s : Nat) : Int)), (0, (eT σ b L ((s : Nat) : Int) nt).1), (0, (eT σ b L ((s : Nat) : Int) nt).2), x, y], [], σ) Q) : ∀ (d n : Nat), n + d = nt → ∀ y : AV, TT X 95 (15, [(2, 295), (0, ((s : Nat) : Int)), (0, (eT σ b L ((s : Nat) : Int) n).1), (0, (eT σ b L ((s : Nat) : Int) n).2), (0, ((n : Nat) : Int)), y], [], σ) Q := by
  intro d
  induction d with
  | zero =>
    intro n hn y
    have hnn : n = nt := by omega
    refine TT.steps (cd := cd95) 5 (c' := (20, [(2, 295), (0, ((s : Nat) : Int)), (0, (eT σ b L ((s : Nat) : Int) n).1), (0, (eT σ b L ((s : Nat) : Int) n).2), (0, ((n : Nat) : Int)), y], [(0, (σ 295 13)), (2, 300), (0, ((n : Nat) : Int))], σ)) rfl rfl ?_
    refine TT.top0 (z := ((b : Nat) : Int)) hb ?_
    refine TT.aldN (cd := cd95) (300) (b) rfl rfl rfl rfl (show b < 2 by omega) ?_
    refine TT.top0 (z := ((nt : Nat) : Int)) hnt ?_
    refine TT.steps (cd := cd95) 1 (c' := ((if decide (((nt : Nat) : Int) ≤ ((n : Nat) : Int)) = true then 58 else 22), [(2, 295), (0, ((s : Nat) : Int)), (0, (eT σ b L ((s : Nat) : Int) n).1), (0, (eT σ b L ((s : Nat) : Int) n).2), (0, ((n : Nat) : Int)), y], [], σ)) rfl rfl ?_
    refine TT.br (p := ((nt : Nat) : Int) ≤ ((n : Nat) : Int)) (fun h1 => ?_) (fun h1 => absurd (show ((nt : Nat) : Int) ≤ ((n : Nat) : Int) by omega) h1)
    subst hnn
    exact kk _ _
  | succ d ih =>
    intro n hn y
    refine TT.steps (cd := cd95) 5 (c' := (20, [(2, 295), (0, ((s : Nat) : Int)), (0, (eT σ b L ((s : Nat) : Int) n).1), (0, (eT σ b L ((s : Nat) : Int) n).2), (0, ((n : Nat) : Int)), y], [(0, (σ 295 13)), (2, 300), (0, ((n : Nat) : Int))], σ)) rfl rfl ?_
    refine TT.top0 (z := ((b : Nat) : Int)) hb ?_
    refine TT.aldN (cd := cd95) (300) (b) rfl rfl rfl rfl (show b < 2 by omega) ?_
    refine TT.top0 (z := ((nt : Nat) : Int)) hnt ?_
    refine TT.steps (cd := cd95) 1 (c' := ((if decide (((nt : Nat) : Int) ≤ ((n : Nat) : Int)) = true then 58 else 22), [(2, 295), (0, ((s : Nat) : Int)), (0, (eT σ b L ((s : Nat) : Int) n).1), (0, (eT σ b L ((s : Nat) : Int) n).2), (0, ((n : Nat) : Int)), y], [], σ)) rfl rfl ?_
    refine TT.br (p := ((nt : Nat) : Int) ≤ ((n : Nat) : Int)) (fun h1 => absurd h1 (show ¬ (((nt : Nat) : Int) ≤ ((n : Nat) : Int)) by omega)) (fun h1 => ?_)
    refine TT.steps (cd := cd95) 2 (c' := (24, [(2, 295), (0, ((s : Nat) : Int)), (0, (eT σ b L ((s : Nat) : Int) n).1), (0, (eT σ b L ((s : Nat) : Int) n).2), (0, ((n : Nat) : Int)), (0, 0)], [], σ)) rfl rfl ?_
    refine l_ies1 X _ s n (L n) (by omega) (eT σ b L ((s : Nat) : Int) n) σ hb hb2 (hL n (by omega)).1 (hL n (by omega)).2.2 (fun x => ?_) (L n) 0 (by omega)
    refine TT.inc (cd := cd95) ((n + 1 : Nat) : Int) rfl rfl rfl rfl (fun h => absurd h.2 (show ¬ (0 = 1) by decide)) (aAdd_n (a := n) (b := 1) (by omega)) (ls' := [(2, 295), (0, ((s : Nat) : Int)), (0, (eK σ b n ((s : Nat) : Int) (eT σ b L ((s : Nat) : Int) n) (L n)).1), (0, (eK σ b n ((s : Nat) : Int) (eT σ b L ((s : Nat) : Int) n) (L n)).2), (0, ((n + 1 : Nat) : Int)), x]) rfl ?_
    refine TT.steps (cd := cd95) 1 (c' := (15, [(2, 295), (0, ((s : Nat) : Int)), (0, (eK σ b n ((s : Nat) : Int) (eT σ b L ((s : Nat) : Int) n) (L n)).1), (0, (eK σ b n ((s : Nat) : Int) (eT σ b L ((s : Nat) : Int) n) (L n)).2), (0, ((n + 1 : Nat) : Int)), x], [], σ)) rfl rfl ?_
    exact ih (n + 1) (by omega) _
theorem l_ies3 (X : AX) (nt ns : Nat) (L : Nat → Nat) (σ : AH) {b : Nat} (hb : σ 295 13 = (b : Int)) (hb2 : b < 2) (hnt : σ 300 b = (nt : Int)) (hnt2 : nt ≤ 6) (hns : σ 297 b = (ns : Int)) (hns2 : ns ≤ 14) (hL : ∀ t, t < nt → σ 304 (6 * b + t) = (L t : Int) ∧ 2 ≤ L t ∧ L t ≤ 8) : ∀ (d n : Nat), n + d = ns → (∀ p, p < n → (fun s => decide (¬ (eT σ b L ((s : Nat) : Int) nt).1 = 0 ∧ (eT σ b L ((s : Nat) : Int) nt).2 = 0)) p = false) → ∀ y0 y1 y2 y3 : AV, TT X 95 (2, [(2, 295), (0, ((n : Nat) : Int)), y0, y1, y2, y3], [], σ) (fun r σ' => r = some (0, if mEachC σ b nt ns L then 1 else 0) ∧ σ' = σ) := by
  intro d
  induction d with
  | zero =>
    intro n hn ha y0 y1 y2 y3
    have hnn : n = ns := by omega
    refine TT.steps (cd := cd95) 5 (c' := (7, [(2, 295), (0, ((n : Nat) : Int)), y0, y1, y2, y3], [(0, (σ 295 13)), (2, 297), (0, ((n : Nat) : Int))], σ)) rfl rfl ?_
    refine TT.top0 (z := ((b : Nat) : Int)) hb ?_
    refine TT.aldN (cd := cd95) (297) (b) rfl rfl rfl rfl (show b < 2 by omega) ?_
    refine TT.top0 (z := ((ns : Nat) : Int)) hns ?_
    refine TT.steps (cd := cd95) 1 (c' := ((if decide (((ns : Nat) : Int) ≤ ((n : Nat) : Int)) = true then 66 else 9), [(2, 295), (0, ((n : Nat) : Int)), y0, y1, y2, y3], [], σ)) rfl rfl ?_
    refine TT.br (p := ((ns : Nat) : Int) ≤ ((n : Nat) : Int)) (fun h1 => ?_) (fun h1 => absurd (show ((ns : Nat) : Int) ≤ ((n : Nat) : Int) by omega) h1)
    refine TT.steps (cd := cd95) 1 (c' := (67, [(2, 295), (0, ((n : Nat) : Int)), y0, y1, y2, y3], [(0, 1)], σ)) rfl rfl ?_
    exact TT.ret (cd := cd95) rfl rfl rfl rfl (⟨by rw [if_pos (anyN_f (fun p hp => ha p (by omega)))], rfl⟩)
  | succ d ih =>
    intro n hn ha y0 y1 y2 y3
    refine TT.steps (cd := cd95) 5 (c' := (7, [(2, 295), (0, ((n : Nat) : Int)), y0, y1, y2, y3], [(0, (σ 295 13)), (2, 297), (0, ((n : Nat) : Int))], σ)) rfl rfl ?_
    refine TT.top0 (z := ((b : Nat) : Int)) hb ?_
    refine TT.aldN (cd := cd95) (297) (b) rfl rfl rfl rfl (show b < 2 by omega) ?_
    refine TT.top0 (z := ((ns : Nat) : Int)) hns ?_
    refine TT.steps (cd := cd95) 1 (c' := ((if decide (((ns : Nat) : Int) ≤ ((n : Nat) : Int)) = true then 66 else 9), [(2, 295), (0, ((n : Nat) : Int)), y0, y1, y2, y3], [], σ)) rfl rfl ?_
    refine TT.br (p := ((ns : Nat) : Int) ≤ ((n : Nat) : Int)) (fun h1 => absurd h1 (show ¬ (((ns : Nat) : Int) ≤ ((n : Nat) : Int)) by omega)) (fun h1 => ?_)
    refine TT.steps (cd := cd95) 6 (c' := (15, [(2, 295), (0, ((n : Nat) : Int)), (0, 0), (0, 0), (0, 0), y3], [], σ)) rfl rfl ?_
    refine l_ies2 X _ n nt L σ hb hb2 hnt hnt2 hL (fun x y => ?_) nt 0 (by omega) _
    refine TT.steps (cd := cd95) 2 (c' := ((if decide ((eT σ b L ((n : Nat) : Int) nt).1 = 0) = true then 64 else 60), [(2, 295), (0, ((n : Nat) : Int)), (0, (eT σ b L ((n : Nat) : Int) nt).1), (0, (eT σ b L ((n : Nat) : Int) nt).2), x, y], [], σ)) rfl rfl ?_
    refine TT.br (p := (eT σ b L ((n : Nat) : Int) nt).1 = 0) (fun h2 => ?_) (fun h2 => ?_)
    · refine TT.inc (cd := cd95) ((n + 1 : Nat) : Int) rfl rfl rfl rfl (fun h => absurd h.2 (show ¬ (2 = 1) by decide)) (aAdd_n (a := n) (b := 1) (by omega)) (ls' := [(2, 295), (0, ((n + 1 : Nat) : Int)), (0, (eT σ b L ((n : Nat) : Int) nt).1), (0, (eT σ b L ((n : Nat) : Int) nt).2), x, y]) rfl ?_
      refine TT.steps (cd := cd95) 1 (c' := (2, [(2, 295), (0, ((n + 1 : Nat) : Int)), (0, (eT σ b L ((n : Nat) : Int) nt).1), (0, (eT σ b L ((n : Nat) : Int) nt).2), x, y], [], σ)) rfl rfl ?_
      exact ih (n + 1) (by omega) (fun p hp => by rcases (show p < n ∨ p = n by omega) with h | rfl; exact ha p h; exact decide_eq_false (by omega)) _ _ _ _
    · refine TT.steps (cd := cd95) 2 (c' := ((if decide (¬ (eT σ b L ((n : Nat) : Int) nt).2 = 0) = true then 64 else 62), [(2, 295), (0, ((n : Nat) : Int)), (0, (eT σ b L ((n : Nat) : Int) nt).1), (0, (eT σ b L ((n : Nat) : Int) nt).2), x, y], [], σ)) rfl rfl ?_
      refine TT.br (p := ¬ (eT σ b L ((n : Nat) : Int) nt).2 = 0) (fun h3 => ?_) (fun h3 => ?_)
      · refine TT.inc (cd := cd95) ((n + 1 : Nat) : Int) rfl rfl rfl rfl (fun h => absurd h.2 (show ¬ (2 = 1) by decide)) (aAdd_n (a := n) (b := 1) (by omega)) (ls' := [(2, 295), (0, ((n + 1 : Nat) : Int)), (0, (eT σ b L ((n : Nat) : Int) nt).1), (0, (eT σ b L ((n : Nat) : Int) nt).2), x, y]) rfl ?_
        refine TT.steps (cd := cd95) 1 (c' := (2, [(2, 295), (0, ((n + 1 : Nat) : Int)), (0, (eT σ b L ((n : Nat) : Int) nt).1), (0, (eT σ b L ((n : Nat) : Int) nt).2), x, y], [], σ)) rfl rfl ?_
        exact ih (n + 1) (by omega) (fun p hp => by rcases (show p < n ∨ p = n by omega) with h | rfl; exact ha p h; exact decide_eq_false (by omega)) _ _ _ _
      · refine TT.steps (cd := cd95) 1 (c' := (63, [(2, 295), (0, ((n : Nat) : Int)), (0, (eT σ b L ((n : Nat) : Int) nt).1), (0, (eT σ b L ((n : Nat) : Int) nt).2), x, y], [(0, 0)], σ)) rfl rfl ?_
        exact TT.ret (cd := cd95) rfl rfl rfl rfl (⟨by rw [if_neg (fun hc => by have h9 : anyN (fun s => decide (¬ (eT σ b L ((s : Nat) : Int) nt).1 = 0 ∧ (eT σ b L ((s : Nat) : Int) nt).2 = 0)) ns = false := hc; rw [anyN_t (p := n) (by omega) (decide_eq_true (by omega))] at h9; exact absurd h9 (by decide))], rfl⟩)
theorem t_isEachStopped (X : AX) (nt ns : Nat) (L : Nat → Nat) (σ : AH) {b : Nat} (hb : σ 295 13 = (b : Int)) (hb2 : b < 2) (hnt : σ 300 b = (nt : Int)) (hnt2 : nt ≤ 6) (hns : σ 297 b = (ns : Int)) (hns2 : ns ≤ 14) (hL : ∀ t, t < nt → σ 304 (6 * b + t) = (L t : Int) ∧ 2 ≤ L t ∧ L t ≤ 8)  : TT X 95 (0, [(2, 295), (9, 0), (9, 0), (9, 0), (9, 0), (9, 0)], [], σ) (fun r σ' => r = some (0, if mEachC σ b nt ns L then 1 else 0) ∧ σ' = σ) := by
  refine TT.steps (cd := cd95) 2 (c' := (2, [(2, 295), (0, 0), (9, 0), (9, 0), (9, 0), (9, 0)], [], σ)) rfl rfl ?_
  exact l_ies3 X nt ns L σ hb hb2 hnt hnt2 hns hns2 hL ns 0 (by omega) (fun p hp => by omega) _ _ _ _
def stPl (b np nt : Nat) (L : Nat → Nat) (ns : Nat) (n : Nat) (S : Int × Int × Int × AH) : Int × Int × Int × AH :=
  if mCanC S.2.2.2 b np ((n : Nat) : Int) then (if S.2.1 < (((bitsN 10 n 0) : Nat) : Int) then S else if (((bitsN 10 n 0) : Nat) : Int) = S.2.1 then (if mCoin (S.2.2.2) b np ((n : Nat) : Int) < S.2.2.1 then (if mEachC (mDW S.2.2.2 b np nt L ((n : Nat) : Int)) b nt ns L then (((n : Nat) : Int), (((bitsN 10 n 0) : Nat) : Int), mCoin (mDW S.2.2.2 b np nt L ((n : Nat) : Int)) b np ((n : Nat) : Int), mDW S.2.2.2 b np nt L ((n : Nat) : Int)) else (S.1, S.2.1, S.2.2.1, mDW S.2.2.2 b np nt L ((n : Nat) : Int))) else S) else (if mEachC (mDW S.2.2.2 b np nt L ((n : Nat) : Int)) b nt ns L then (((n : Nat) : Int), (((bitsN 10 n 0) : Nat) : Int), mCoin (mDW S.2.2.2 b np nt L ((n : Nat) : Int)) b np ((n : Nat) : Int), mDW S.2.2.2 b np nt L ((n : Nat) : Int)) else (S.1, S.2.1, S.2.2.1, mDW S.2.2.2 b np nt L ((n : Nat) : Int)))) else S
def mPl (σ : AH) (b np nt : Nat) (L : Nat → Nat) (ns : Nat) : Nat → Int × Int × Int × AH
  | 0 => (-1, 1000000, 1000000, σ)
  | n + 1 => stPl b np nt L ns n (mPl σ b np nt L ns n)
theorem stPl_fr (b np nt : Nat) (L : Nat → Nat) (ns : Nat) (n : Nat) (S : Int × Int × Int × AH) (c j : Nat) (h : c ≠ 295 ∧ (c < 316 ∨ 337 < c)) : (stPl b np nt L ns n S).2.2.2 c j = S.2.2.2 c j := by
    unfold stPl
    repeat' split
    all_goals first | rfl | exact mDW_fr _ _ _ _ _ _ _ _ h
theorem stPl_M (b np nt : Nat) (L : Nat → Nat) (ns : Nat) (n : Nat) (S : Int × Int × Int × AH) (j : Nat) (h : j ≠ 46) : (stPl b np nt L ns n S).2.2.2 295 j = S.2.2.2 295 j := by
    unfold stPl
    repeat' split
    all_goals first | rfl | exact mDW_M _ _ _ _ _ _ _ h
theorem mPl_fr (σ : AH) (b np nt : Nat) (L : Nat → Nat) (ns : Nat) (n c j : Nat) (h : c ≠ 295 ∧ (c < 316 ∨ 337 < c)) : (mPl σ b np nt L ns n).2.2.2 c j = σ c j := by
  induction n with
  | zero => rfl
  | succ n ih => rw [mPl, stPl_fr _ _ _ _ _ _ _ _ _ h, ih]
theorem mPl_M (σ : AH) (b np nt : Nat) (L : Nat → Nat) (ns : Nat) (n j : Nat) (h : j ≠ 46) : (mPl σ b np nt L ns n).2.2.2 295 j = σ 295 j := by
  induction n with
  | zero => rfl
  | succ n ih => rw [mPl, stPl_M _ _ _ _ _ _ _ _ h, ih]
theorem l_Pl (X : AX) (Q : Option AV → AH → Prop) (ns : Nat) (np nt : Nat) (L : Nat → Nat) (σ : AH) {b : Nat} (hb : σ 295 13 = (b : Int)) (hb2 : b < 2) (hnp : σ 307 b = (np : Int)) (hnp2 : np ≤ 10) (hnt : σ 300 b = (nt : Int)) (hnt2 : nt ≤ 6) (hL : ∀ t, t < nt → σ 304 (6 * b + t) = (L t : Int) ∧ 2 ≤ L t ∧ L t ≤ 8) (w : Int) (hns : σ 297 b = (ns : Int)) (hns2 : ns ≤ 14) (x0 : AV) (kk : ∀ x y : AV, TT X 96 (60, [(2, 295), (0, w), (0, (mPl σ b np nt L ns (2 ^ np)).1), (0, (mPl σ b np nt L ns (2 ^ np)).2.1), (0, (mPl σ b np nt L ns (2 ^ np)).2.2.1), x], [], (mPl σ b np nt L ns (2 ^ np)).2.2.2) Q) : ∀ (d n : Nat), n + d = 2 ^ np → ∀ y : AV, TT X 96 (15, [(2, 295), (0, w), (0, (mPl σ b np nt L ns n).1), (0, (mPl σ b np nt L ns n).2.1), (0, (mPl σ b np nt L ns n).2.2.1), (0, ((n : Nat) : Int))], [], (mPl σ b np nt L ns n).2.2.2) Q := by
  intro d
  have hN : 2 ^ np ≤ 1024 := pw10 np hnp2
  induction d with
  | zero =>
    intro n hn y
    have hnn : n = 2 ^ np := by omega
    have hfr := fun c j h => mPl_fr σ b np nt L ns n c j h
    have hfM := fun j h => mPl_M σ b np nt L ns n j h
    subst hnn
    obtain ⟨⟨s0, s1, s2, τ⟩, hS⟩ : ∃ S, mPl σ b np nt L ns (2 ^ np) = S := ⟨_, rfl⟩
    rw [hS] at hfr hfM ⊢
    rw [hS] at kk
    dsimp only at hfr hfM ⊢ kk
    refine TT.steps (cd := cd96) 6 (c' := (21, [(2, 295), (0, w), (0, s0), (0, s1), (0, s2), (0, (((2 ^ np) : Nat) : Int))], [(0, (τ 295 13)), (2, 307), (0, 1), (0, (((2 ^ np) : Nat) : Int))], τ)) rfl rfl ?_
    refine TT.top0 (z := ((b : Nat) : Int)) ((hfM (13) (by decide)).trans hb) ?_
    refine TT.aldN (cd := cd96) (307) (b) rfl rfl rfl rfl (show b < 2 by omega) ?_
    refine TT.top0 (z := ((np : Nat) : Int)) ((hfr 307 (b) (by decide)).trans hnp) ?_
    refine TT.steps (cd := cd96) 1 (c' := (23, [(2, 295), (0, w), (0, s0), (0, s1), (0, s2), (0, (((2 ^ np) : Nat) : Int))], [(0, (aShl 1 ((np : Nat) : Int))), (0, (((2 ^ np) : Nat) : Int))], τ)) rfl rfl ?_
    refine TT.top0 (z := (((2 ^ np) : Nat) : Int)) (shl1 np hnp2) ?_
    refine TT.steps (cd := cd96) 1 (c' := ((if decide ((((2 ^ np) : Nat) : Int) ≤ (((2 ^ np) : Nat) : Int)) = true then 60 else 24), [(2, 295), (0, w), (0, s0), (0, s1), (0, s2), (0, (((2 ^ np) : Nat) : Int))], [], τ)) rfl rfl ?_
    refine TT.br (p := (((2 ^ np) : Nat) : Int) ≤ (((2 ^ np) : Nat) : Int)) (fun h1 => ?_) (fun h1 => absurd (show (((2 ^ np) : Nat) : Int) ≤ (((2 ^ np) : Nat) : Int) by omega) h1)
    exact kk _ (0, 0)
  | succ d ih =>
    intro n hn y
    have hfr := fun c j h => mPl_fr σ b np nt L ns n c j h
    have hfM := fun j h => mPl_M σ b np nt L ns n j h
    obtain ⟨⟨s0, s1, s2, τ⟩, hS⟩ : ∃ S, mPl σ b np nt L ns n = S := ⟨_, rfl⟩
    rw [hS] at hfr hfM ⊢
    dsimp only at hfr hfM ⊢
    refine TT.steps (cd := cd96) 6 (c' := (21, [(2, 295), (0, w), (0, s0), (0, s1), (0, s2), (0, ((n : Nat) : Int))], [(0, (τ 295 13)), (2, 307), (0, 1), (0, ((n : Nat) : Int))], τ)) rfl rfl ?_
    refine TT.top0 (z := ((b : Nat) : Int)) ((hfM (13) (by decide)).trans hb) ?_
    refine TT.aldN (cd := cd96) (307) (b) rfl rfl rfl rfl (show b < 2 by omega) ?_
    refine TT.top0 (z := ((np : Nat) : Int)) ((hfr 307 (b) (by decide)).trans hnp) ?_
    refine TT.steps (cd := cd96) 1 (c' := (23, [(2, 295), (0, w), (0, s0), (0, s1), (0, s2), (0, ((n : Nat) : Int))], [(0, (aShl 1 ((np : Nat) : Int))), (0, ((n : Nat) : Int))], τ)) rfl rfl ?_
    refine TT.top0 (z := (((2 ^ np) : Nat) : Int)) (shl1 np hnp2) ?_
    refine TT.steps (cd := cd96) 1 (c' := ((if decide ((((2 ^ np) : Nat) : Int) ≤ ((n : Nat) : Int)) = true then 60 else 24), [(2, 295), (0, w), (0, s0), (0, s1), (0, s2), (0, ((n : Nat) : Int))], [], τ)) rfl rfl ?_
    refine TT.br (p := (((2 ^ np) : Nat) : Int) ≤ ((n : Nat) : Int)) (fun h1 => absurd h1 (show ¬ ((((2 ^ np) : Nat) : Int) ≤ ((n : Nat) : Int)) by omega)) (fun h1 => ?_)
    refine TT.steps (cd := cd96) 2 (c' := (26, [(2, 295), (0, w), (0, s0), (0, s1), (0, s2), (0, ((n : Nat) : Int))], [(0, ((n : Nat) : Int)), (2, 295)], τ)) rfl rfl ?_
    refine TT.call (cd := cd96) rfl rfl rfl (by decide) rfl (t_canHire X ((n : Nat) : Int) np τ ((hfM (13) (by decide)).trans hb) hb2 ((hfr 307 (b) (by decide)).trans hnp) hnp2) (fun r2 σ2 hq => ?_)
    rw [hq.1, hq.2]
    refine TT.steps (cd := cd96) 1 (c' := ((if decide (((if mCanC τ b np ((n : Nat) : Int) then 1 else 0) : Int) = 0) = true then 58 else 28), [(2, 295), (0, w), (0, s0), (0, s1), (0, s2), (0, ((n : Nat) : Int))], [], τ)) rfl rfl ?_
    refine TT.br (p := ((if mCanC τ b np ((n : Nat) : Int) then 1 else 0) : Int) = 0) (fun h3 => ?_) (fun h3 => ?_)
    · replace h3 := ite_f h3
      refine TT.inc (cd := cd96) ((n + 1 : Nat) : Int) rfl rfl rfl rfl (fun h => absurd h.2 (show ¬ (0 = 1) by decide)) (aAdd_n (a := n) (b := 1) (by omega)) (ls' := [(2, 295), (0, w), (0, s0), (0, s1), (0, s2), (0, ((n + 1 : Nat) : Int))]) rfl ?_
      refine TT.steps (cd := cd96) 1 (c' := (15, [(2, 295), (0, w), (0, s0), (0, s1), (0, s2), (0, ((n + 1 : Nat) : Int))], [], τ)) rfl rfl ?_
      have e1 : mPl σ b np nt L ns (n + 1) = (s0, s1, s2, τ) := by
        rw [mPl, hS]
        unfold stPl
        dsimp only
        first | (rw [if_neg (by first | assumption | omega)]; done) | (rw [if_pos (by first | assumption | omega), if_pos (by first | assumption | omega)]; done) | (rw [if_pos (by first | assumption | omega), if_neg (by first | assumption | omega), if_pos (by first | assumption | omega), if_neg (by first | assumption | omega)]; done) | (rw [if_pos (by first | assumption | omega), if_neg (by first | assumption | omega), if_pos (by first | assumption | omega), if_pos (by first | assumption | omega), if_pos (by first | assumption | omega)]; done) | (rw [if_pos (by first | assumption | omega), if_neg (by first | assumption | omega), if_pos (by first | assumption | omega), if_pos (by first | assumption | omega), if_neg (by first | assumption | omega)]; done) | (rw [if_pos (by first | assumption | omega), if_neg (by first | assumption | omega), if_neg (by first | assumption | omega), if_pos (by first | assumption | omega)]; done) | (rw [if_pos (by first | assumption | omega), if_neg (by first | assumption | omega), if_neg (by first | assumption | omega), if_neg (by first | assumption | omega)]; done)
      have := ih (n + 1) (by omega) (0, 0)
      rw [e1] at this
      exact this
    · replace h3 := ite_t h3
      refine TT.steps (cd := cd96) 1 (c' := (29, [(2, 295), (0, w), (0, s0), (0, s1), (0, s2), (0, ((n : Nat) : Int))], [(0, ((n : Nat) : Int))], τ)) rfl rfl ?_
      refine TT.call (cd := cd96) rfl rfl rfl (by decide) rfl (t_bits X n (by omega) τ) (fun r4 σ4 hq => ?_)
      rw [hq.1, hq.2]
      refine TT.steps (cd := cd96) 2 (c' := ((if decide (s1 < (((bitsN 10 n 0) : Nat) : Int)) = true then 58 else 32), [(2, 295), (0, w), (0, s0), (0, s1), (0, s2), (0, ((n : Nat) : Int))], [], τ)) rfl rfl ?_
      refine TT.br (p := s1 < (((bitsN 10 n 0) : Nat) : Int)) (fun h5 => ?_) (fun h5 => ?_)
      · refine TT.inc (cd := cd96) ((n + 1 : Nat) : Int) rfl rfl rfl rfl (fun h => absurd h.2 (show ¬ (0 = 1) by decide)) (aAdd_n (a := n) (b := 1) (by omega)) (ls' := [(2, 295), (0, w), (0, s0), (0, s1), (0, s2), (0, ((n + 1 : Nat) : Int))]) rfl ?_
        refine TT.steps (cd := cd96) 1 (c' := (15, [(2, 295), (0, w), (0, s0), (0, s1), (0, s2), (0, ((n + 1 : Nat) : Int))], [], τ)) rfl rfl ?_
        have e1 : mPl σ b np nt L ns (n + 1) = (s0, s1, s2, τ) := by
          rw [mPl, hS]
          unfold stPl
          dsimp only
          first | (rw [if_neg (by first | assumption | omega)]; done) | (rw [if_pos (by first | assumption | omega), if_pos (by first | assumption | omega)]; done) | (rw [if_pos (by first | assumption | omega), if_neg (by first | assumption | omega), if_pos (by first | assumption | omega), if_neg (by first | assumption | omega)]; done) | (rw [if_pos (by first | assumption | omega), if_neg (by first | assumption | omega), if_pos (by first | assumption | omega), if_pos (by first | assumption | omega), if_pos (by first | assumption | omega)]; done) | (rw [if_pos (by first | assumption | omega), if_neg (by first | assumption | omega), if_pos (by first | assumption | omega), if_pos (by first | assumption | omega), if_neg (by first | assumption | omega)]; done) | (rw [if_pos (by first | assumption | omega), if_neg (by first | assumption | omega), if_neg (by first | assumption | omega), if_pos (by first | assumption | omega)]; done) | (rw [if_pos (by first | assumption | omega), if_neg (by first | assumption | omega), if_neg (by first | assumption | omega), if_neg (by first | assumption | omega)]; done)
        have := ih (n + 1) (by omega) (0, 0)
        rw [e1] at this
        exact this
      · refine TT.steps (cd := cd96) 1 (c' := (33, [(2, 295), (0, w), (0, s0), (0, s1), (0, s2), (0, ((n : Nat) : Int))], [(0, ((n : Nat) : Int))], τ)) rfl rfl ?_
        refine TT.call (cd := cd96) rfl rfl rfl (by decide) rfl (t_bits X n (by omega) τ) (fun r6 σ6 hq => ?_)
        rw [hq.1, hq.2]
        refine TT.steps (cd := cd96) 2 (c' := ((if decide (¬ (((bitsN 10 n 0) : Nat) : Int) = s1) = true then 42 else 36), [(2, 295), (0, w), (0, s0), (0, s1), (0, s2), (0, ((n : Nat) : Int))], [], τ)) rfl rfl ?_
        refine TT.br (p := ¬ (((bitsN 10 n 0) : Nat) : Int) = s1) (fun h7 => ?_) (fun h7 => ?_)
        · refine TT.steps (cd := cd96) 2 (c' := (44, [(2, 295), (0, w), (0, s0), (0, s1), (0, s2), (0, ((n : Nat) : Int))], [(0, ((n : Nat) : Int)), (2, 295)], τ)) rfl rfl ?_
          refine TT.call (cd := cd96) rfl rfl rfl (by decide) rfl (t_dayWith X ((n : Nat) : Int) np nt L τ ((hfM (13) (by decide)).trans hb) hb2 ((hfr 307 (b) (by decide)).trans hnp) hnp2 ((hfr 300 (b) (by decide)).trans hnt) hnt2 (fun t ht => ⟨(show ∀ j, τ 304 j = σ 304 j from fun j => (hfr 304 (j) (by decide))) _ |>.trans (hL t ht).1, (hL t ht).2⟩)) (fun r8 σ8 hq => ?_)
          rw [hq.1, hq.2]
          refine TT.steps (cd := cd96) 1 (c' := (46, [(2, 295), (0, w), (0, s0), (0, s1), (0, s2), (0, ((n : Nat) : Int))], [(2, 295)], (mDW τ b np nt L ((n : Nat) : Int)))) rfl rfl ?_
          refine TT.call (cd := cd96) rfl rfl rfl (by decide) rfl (t_isEachStopped X nt ns L (mDW τ b np nt L ((n : Nat) : Int)) (((mDW_M _ _ _ _ _ _ (13) (by decide)).trans (hfM (13) (by decide))).trans hb) hb2 (((mDW_fr _ _ _ _ _ _ 300 (b) (by decide)).trans (hfr 300 (b) (by decide))).trans hnt) hnt2 (((mDW_fr _ _ _ _ _ _ 297 (b) (by decide)).trans (hfr 297 (b) (by decide))).trans hns) hns2 (fun t ht => ⟨(show ∀ j, (mDW τ b np nt L ((n : Nat) : Int)) 304 j = σ 304 j from fun j => ((mDW_fr _ _ _ _ _ _ 304 (j) (by decide)).trans (hfr 304 (j) (by decide)))) _ |>.trans (hL t ht).1, (hL t ht).2⟩)) (fun r9 σ9 hq => ?_)
          rw [hq.1, hq.2]
          refine TT.steps (cd := cd96) 1 (c' := ((if decide (¬ ((if mEachC (mDW τ b np nt L ((n : Nat) : Int)) b nt ns L then 1 else 0) : Int) = 0) = true then 49 else 48), [(2, 295), (0, w), (0, s0), (0, s1), (0, s2), (0, ((n : Nat) : Int))], [], (mDW τ b np nt L ((n : Nat) : Int)))) rfl rfl ?_
          refine TT.br (p := ¬ ((if mEachC (mDW τ b np nt L ((n : Nat) : Int)) b nt ns L then 1 else 0) : Int) = 0) (fun h10 => ?_) (fun h10 => ?_)
          · replace h10 := ite_t h10
            refine TT.steps (cd := cd96) 3 (c' := (52, [(2, 295), (0, w), (0, ((n : Nat) : Int)), (0, s1), (0, s2), (0, ((n : Nat) : Int))], [(0, ((n : Nat) : Int))], (mDW τ b np nt L ((n : Nat) : Int)))) rfl rfl ?_
            refine TT.call (cd := cd96) rfl rfl rfl (by decide) rfl (t_bits X n (by omega) (mDW τ b np nt L ((n : Nat) : Int))) (fun r11 σ11 hq => ?_)
            rw [hq.1, hq.2]
            refine TT.steps (cd := cd96) 3 (c' := (56, [(2, 295), (0, w), (0, ((n : Nat) : Int)), (0, (((bitsN 10 n 0) : Nat) : Int)), (0, s2), (0, ((n : Nat) : Int))], [(0, ((n : Nat) : Int)), (2, 295)], (mDW τ b np nt L ((n : Nat) : Int)))) rfl rfl ?_
            refine TT.call (cd := cd96) rfl rfl rfl (by decide) rfl (t_coinOf X ((n : Nat) : Int) np (mDW τ b np nt L ((n : Nat) : Int)) (((mDW_M _ _ _ _ _ _ (13) (by decide)).trans (hfM (13) (by decide))).trans hb) hb2 (((mDW_fr _ _ _ _ _ _ 307 (b) (by decide)).trans (hfr 307 (b) (by decide))).trans hnp) hnp2) (fun r12 σ12 hq => ?_)
            rw [hq.1, hq.2]
            refine TT.steps (cd := cd96) 1 (c' := (58, [(2, 295), (0, w), (0, ((n : Nat) : Int)), (0, (((bitsN 10 n 0) : Nat) : Int)), (0, (mCoin (mDW τ b np nt L ((n : Nat) : Int)) b np ((n : Nat) : Int))), (0, ((n : Nat) : Int))], [], (mDW τ b np nt L ((n : Nat) : Int)))) rfl rfl ?_
            refine TT.inc (cd := cd96) ((n + 1 : Nat) : Int) rfl rfl rfl rfl (fun h => absurd h.2 (show ¬ (0 = 1) by decide)) (aAdd_n (a := n) (b := 1) (by omega)) (ls' := [(2, 295), (0, w), (0, ((n : Nat) : Int)), (0, (((bitsN 10 n 0) : Nat) : Int)), (0, (mCoin (mDW τ b np nt L ((n : Nat) : Int)) b np ((n : Nat) : Int))), (0, ((n + 1 : Nat) : Int))]) rfl ?_
            refine TT.steps (cd := cd96) 1 (c' := (15, [(2, 295), (0, w), (0, ((n : Nat) : Int)), (0, (((bitsN 10 n 0) : Nat) : Int)), (0, (mCoin (mDW τ b np nt L ((n : Nat) : Int)) b np ((n : Nat) : Int))), (0, ((n + 1 : Nat) : Int))], [], (mDW τ b np nt L ((n : Nat) : Int)))) rfl rfl ?_
            have e1 : mPl σ b np nt L ns (n + 1) = (((n : Nat) : Int), (((bitsN 10 n 0) : Nat) : Int), (mCoin (mDW τ b np nt L ((n : Nat) : Int)) b np ((n : Nat) : Int)), (mDW τ b np nt L ((n : Nat) : Int))) := by
              rw [mPl, hS]
              unfold stPl
              dsimp only
              first | (rw [if_neg (by first | assumption | omega)]; done) | (rw [if_pos (by first | assumption | omega), if_pos (by first | assumption | omega)]; done) | (rw [if_pos (by first | assumption | omega), if_neg (by first | assumption | omega), if_pos (by first | assumption | omega), if_neg (by first | assumption | omega)]; done) | (rw [if_pos (by first | assumption | omega), if_neg (by first | assumption | omega), if_pos (by first | assumption | omega), if_pos (by first | assumption | omega), if_pos (by first | assumption | omega)]; done) | (rw [if_pos (by first | assumption | omega), if_neg (by first | assumption | omega), if_pos (by first | assumption | omega), if_pos (by first | assumption | omega), if_neg (by first | assumption | omega)]; done) | (rw [if_pos (by first | assumption | omega), if_neg (by first | assumption | omega), if_neg (by first | assumption | omega), if_pos (by first | assumption | omega)]; done) | (rw [if_pos (by first | assumption | omega), if_neg (by first | assumption | omega), if_neg (by first | assumption | omega), if_neg (by first | assumption | omega)]; done)
            have := ih (n + 1) (by omega) (0, 0)
            rw [e1] at this
            exact this
          · replace h10 := ite_f (Decidable.not_not.mp h10)
            refine TT.steps (cd := cd96) 1 (c' := (58, [(2, 295), (0, w), (0, s0), (0, s1), (0, s2), (0, ((n : Nat) : Int))], [], (mDW τ b np nt L ((n : Nat) : Int)))) rfl rfl ?_
            refine TT.inc (cd := cd96) ((n + 1 : Nat) : Int) rfl rfl rfl rfl (fun h => absurd h.2 (show ¬ (0 = 1) by decide)) (aAdd_n (a := n) (b := 1) (by omega)) (ls' := [(2, 295), (0, w), (0, s0), (0, s1), (0, s2), (0, ((n + 1 : Nat) : Int))]) rfl ?_
            refine TT.steps (cd := cd96) 1 (c' := (15, [(2, 295), (0, w), (0, s0), (0, s1), (0, s2), (0, ((n + 1 : Nat) : Int))], [], (mDW τ b np nt L ((n : Nat) : Int)))) rfl rfl ?_
            have e1 : mPl σ b np nt L ns (n + 1) = (s0, s1, s2, (mDW τ b np nt L ((n : Nat) : Int))) := by
              rw [mPl, hS]
              unfold stPl
              dsimp only
              first | (rw [if_neg (by first | assumption | omega)]; done) | (rw [if_pos (by first | assumption | omega), if_pos (by first | assumption | omega)]; done) | (rw [if_pos (by first | assumption | omega), if_neg (by first | assumption | omega), if_pos (by first | assumption | omega), if_neg (by first | assumption | omega)]; done) | (rw [if_pos (by first | assumption | omega), if_neg (by first | assumption | omega), if_pos (by first | assumption | omega), if_pos (by first | assumption | omega), if_pos (by first | assumption | omega)]; done) | (rw [if_pos (by first | assumption | omega), if_neg (by first | assumption | omega), if_pos (by first | assumption | omega), if_pos (by first | assumption | omega), if_neg (by first | assumption | omega)]; done) | (rw [if_pos (by first | assumption | omega), if_neg (by first | assumption | omega), if_neg (by first | assumption | omega), if_pos (by first | assumption | omega)]; done) | (rw [if_pos (by first | assumption | omega), if_neg (by first | assumption | omega), if_neg (by first | assumption | omega), if_neg (by first | assumption | omega)]; done)
            have := ih (n + 1) (by omega) (0, 0)
            rw [e1] at this
            exact this
        · refine TT.steps (cd := cd96) 2 (c' := (38, [(2, 295), (0, w), (0, s0), (0, s1), (0, s2), (0, ((n : Nat) : Int))], [(0, ((n : Nat) : Int)), (2, 295)], τ)) rfl rfl ?_
          refine TT.call (cd := cd96) rfl rfl rfl (by decide) rfl (t_coinOf X ((n : Nat) : Int) np τ ((hfM (13) (by decide)).trans hb) hb2 ((hfr 307 (b) (by decide)).trans hnp) hnp2) (fun r13 σ13 hq => ?_)
          rw [hq.1, hq.2]
          refine TT.steps (cd := cd96) 2 (c' := ((if decide ((mCoin τ b np ((n : Nat) : Int)) < s2) = true then 42 else 41), [(2, 295), (0, w), (0, s0), (0, s1), (0, s2), (0, ((n : Nat) : Int))], [], τ)) rfl rfl ?_
          refine TT.br (p := (mCoin τ b np ((n : Nat) : Int)) < s2) (fun h14 => ?_) (fun h14 => ?_)
          · refine TT.steps (cd := cd96) 2 (c' := (44, [(2, 295), (0, w), (0, s0), (0, s1), (0, s2), (0, ((n : Nat) : Int))], [(0, ((n : Nat) : Int)), (2, 295)], τ)) rfl rfl ?_
            refine TT.call (cd := cd96) rfl rfl rfl (by decide) rfl (t_dayWith X ((n : Nat) : Int) np nt L τ ((hfM (13) (by decide)).trans hb) hb2 ((hfr 307 (b) (by decide)).trans hnp) hnp2 ((hfr 300 (b) (by decide)).trans hnt) hnt2 (fun t ht => ⟨(show ∀ j, τ 304 j = σ 304 j from fun j => (hfr 304 (j) (by decide))) _ |>.trans (hL t ht).1, (hL t ht).2⟩)) (fun r15 σ15 hq => ?_)
            rw [hq.1, hq.2]
            refine TT.steps (cd := cd96) 1 (c' := (46, [(2, 295), (0, w), (0, s0), (0, s1), (0, s2), (0, ((n : Nat) : Int))], [(2, 295)], (mDW τ b np nt L ((n : Nat) : Int)))) rfl rfl ?_
            refine TT.call (cd := cd96) rfl rfl rfl (by decide) rfl (t_isEachStopped X nt ns L (mDW τ b np nt L ((n : Nat) : Int)) (((mDW_M _ _ _ _ _ _ (13) (by decide)).trans (hfM (13) (by decide))).trans hb) hb2 (((mDW_fr _ _ _ _ _ _ 300 (b) (by decide)).trans (hfr 300 (b) (by decide))).trans hnt) hnt2 (((mDW_fr _ _ _ _ _ _ 297 (b) (by decide)).trans (hfr 297 (b) (by decide))).trans hns) hns2 (fun t ht => ⟨(show ∀ j, (mDW τ b np nt L ((n : Nat) : Int)) 304 j = σ 304 j from fun j => ((mDW_fr _ _ _ _ _ _ 304 (j) (by decide)).trans (hfr 304 (j) (by decide)))) _ |>.trans (hL t ht).1, (hL t ht).2⟩)) (fun r16 σ16 hq => ?_)
            rw [hq.1, hq.2]
            refine TT.steps (cd := cd96) 1 (c' := ((if decide (¬ ((if mEachC (mDW τ b np nt L ((n : Nat) : Int)) b nt ns L then 1 else 0) : Int) = 0) = true then 49 else 48), [(2, 295), (0, w), (0, s0), (0, s1), (0, s2), (0, ((n : Nat) : Int))], [], (mDW τ b np nt L ((n : Nat) : Int)))) rfl rfl ?_
            refine TT.br (p := ¬ ((if mEachC (mDW τ b np nt L ((n : Nat) : Int)) b nt ns L then 1 else 0) : Int) = 0) (fun h17 => ?_) (fun h17 => ?_)
            · replace h17 := ite_t h17
              refine TT.steps (cd := cd96) 3 (c' := (52, [(2, 295), (0, w), (0, ((n : Nat) : Int)), (0, s1), (0, s2), (0, ((n : Nat) : Int))], [(0, ((n : Nat) : Int))], (mDW τ b np nt L ((n : Nat) : Int)))) rfl rfl ?_
              refine TT.call (cd := cd96) rfl rfl rfl (by decide) rfl (t_bits X n (by omega) (mDW τ b np nt L ((n : Nat) : Int))) (fun r18 σ18 hq => ?_)
              rw [hq.1, hq.2]
              refine TT.steps (cd := cd96) 3 (c' := (56, [(2, 295), (0, w), (0, ((n : Nat) : Int)), (0, (((bitsN 10 n 0) : Nat) : Int)), (0, s2), (0, ((n : Nat) : Int))], [(0, ((n : Nat) : Int)), (2, 295)], (mDW τ b np nt L ((n : Nat) : Int)))) rfl rfl ?_
              refine TT.call (cd := cd96) rfl rfl rfl (by decide) rfl (t_coinOf X ((n : Nat) : Int) np (mDW τ b np nt L ((n : Nat) : Int)) (((mDW_M _ _ _ _ _ _ (13) (by decide)).trans (hfM (13) (by decide))).trans hb) hb2 (((mDW_fr _ _ _ _ _ _ 307 (b) (by decide)).trans (hfr 307 (b) (by decide))).trans hnp) hnp2) (fun r19 σ19 hq => ?_)
              rw [hq.1, hq.2]
              refine TT.steps (cd := cd96) 1 (c' := (58, [(2, 295), (0, w), (0, ((n : Nat) : Int)), (0, (((bitsN 10 n 0) : Nat) : Int)), (0, (mCoin (mDW τ b np nt L ((n : Nat) : Int)) b np ((n : Nat) : Int))), (0, ((n : Nat) : Int))], [], (mDW τ b np nt L ((n : Nat) : Int)))) rfl rfl ?_
              refine TT.inc (cd := cd96) ((n + 1 : Nat) : Int) rfl rfl rfl rfl (fun h => absurd h.2 (show ¬ (0 = 1) by decide)) (aAdd_n (a := n) (b := 1) (by omega)) (ls' := [(2, 295), (0, w), (0, ((n : Nat) : Int)), (0, (((bitsN 10 n 0) : Nat) : Int)), (0, (mCoin (mDW τ b np nt L ((n : Nat) : Int)) b np ((n : Nat) : Int))), (0, ((n + 1 : Nat) : Int))]) rfl ?_
              refine TT.steps (cd := cd96) 1 (c' := (15, [(2, 295), (0, w), (0, ((n : Nat) : Int)), (0, (((bitsN 10 n 0) : Nat) : Int)), (0, (mCoin (mDW τ b np nt L ((n : Nat) : Int)) b np ((n : Nat) : Int))), (0, ((n + 1 : Nat) : Int))], [], (mDW τ b np nt L ((n : Nat) : Int)))) rfl rfl ?_
              have e1 : mPl σ b np nt L ns (n + 1) = (((n : Nat) : Int), (((bitsN 10 n 0) : Nat) : Int), (mCoin (mDW τ b np nt L ((n : Nat) : Int)) b np ((n : Nat) : Int)), (mDW τ b np nt L ((n : Nat) : Int))) := by
                rw [mPl, hS]
                unfold stPl
                dsimp only
                first | (rw [if_neg (by first | assumption | omega)]; done) | (rw [if_pos (by first | assumption | omega), if_pos (by first | assumption | omega)]; done) | (rw [if_pos (by first | assumption | omega), if_neg (by first | assumption | omega), if_pos (by first | assumption | omega), if_neg (by first | assumption | omega)]; done) | (rw [if_pos (by first | assumption | omega), if_neg (by first | assumption | omega), if_pos (by first | assumption | omega), if_pos (by first | assumption | omega), if_pos (by first | assumption | omega)]; done) | (rw [if_pos (by first | assumption | omega), if_neg (by first | assumption | omega), if_pos (by first | assumption | omega), if_pos (by first | assumption | omega), if_neg (by first | assumption | omega)]; done) | (rw [if_pos (by first | assumption | omega), if_neg (by first | assumption | omega), if_neg (by first | assumption | omega), if_pos (by first | assumption | omega)]; done) | (rw [if_pos (by first | assumption | omega), if_neg (by first | assumption | omega), if_neg (by first | assumption | omega), if_neg (by first | assumption | omega)]; done)
              have := ih (n + 1) (by omega) (0, 0)
              rw [e1] at this
              exact this
            · replace h17 := ite_f (Decidable.not_not.mp h17)
              refine TT.steps (cd := cd96) 1 (c' := (58, [(2, 295), (0, w), (0, s0), (0, s1), (0, s2), (0, ((n : Nat) : Int))], [], (mDW τ b np nt L ((n : Nat) : Int)))) rfl rfl ?_
              refine TT.inc (cd := cd96) ((n + 1 : Nat) : Int) rfl rfl rfl rfl (fun h => absurd h.2 (show ¬ (0 = 1) by decide)) (aAdd_n (a := n) (b := 1) (by omega)) (ls' := [(2, 295), (0, w), (0, s0), (0, s1), (0, s2), (0, ((n + 1 : Nat) : Int))]) rfl ?_
              refine TT.steps (cd := cd96) 1 (c' := (15, [(2, 295), (0, w), (0, s0), (0, s1), (0, s2), (0, ((n + 1 : Nat) : Int))], [], (mDW τ b np nt L ((n : Nat) : Int)))) rfl rfl ?_
              have e1 : mPl σ b np nt L ns (n + 1) = (s0, s1, s2, (mDW τ b np nt L ((n : Nat) : Int))) := by
                rw [mPl, hS]
                unfold stPl
                dsimp only
                first | (rw [if_neg (by first | assumption | omega)]; done) | (rw [if_pos (by first | assumption | omega), if_pos (by first | assumption | omega)]; done) | (rw [if_pos (by first | assumption | omega), if_neg (by first | assumption | omega), if_pos (by first | assumption | omega), if_neg (by first | assumption | omega)]; done) | (rw [if_pos (by first | assumption | omega), if_neg (by first | assumption | omega), if_pos (by first | assumption | omega), if_pos (by first | assumption | omega), if_pos (by first | assumption | omega)]; done) | (rw [if_pos (by first | assumption | omega), if_neg (by first | assumption | omega), if_pos (by first | assumption | omega), if_pos (by first | assumption | omega), if_neg (by first | assumption | omega)]; done) | (rw [if_pos (by first | assumption | omega), if_neg (by first | assumption | omega), if_neg (by first | assumption | omega), if_pos (by first | assumption | omega)]; done) | (rw [if_pos (by first | assumption | omega), if_neg (by first | assumption | omega), if_neg (by first | assumption | omega), if_neg (by first | assumption | omega)]; done)
              have := ih (n + 1) (by omega) (0, 0)
              rw [e1] at this
              exact this
          · refine TT.steps (cd := cd96) 1 (c' := (58, [(2, 295), (0, w), (0, s0), (0, s1), (0, s2), (0, ((n : Nat) : Int))], [], τ)) rfl rfl ?_
            refine TT.inc (cd := cd96) ((n + 1 : Nat) : Int) rfl rfl rfl rfl (fun h => absurd h.2 (show ¬ (0 = 1) by decide)) (aAdd_n (a := n) (b := 1) (by omega)) (ls' := [(2, 295), (0, w), (0, s0), (0, s1), (0, s2), (0, ((n + 1 : Nat) : Int))]) rfl ?_
            refine TT.steps (cd := cd96) 1 (c' := (15, [(2, 295), (0, w), (0, s0), (0, s1), (0, s2), (0, ((n + 1 : Nat) : Int))], [], τ)) rfl rfl ?_
            have e1 : mPl σ b np nt L ns (n + 1) = (s0, s1, s2, τ) := by
              rw [mPl, hS]
              unfold stPl
              dsimp only
              first | (rw [if_neg (by first | assumption | omega)]; done) | (rw [if_pos (by first | assumption | omega), if_pos (by first | assumption | omega)]; done) | (rw [if_pos (by first | assumption | omega), if_neg (by first | assumption | omega), if_pos (by first | assumption | omega), if_neg (by first | assumption | omega)]; done) | (rw [if_pos (by first | assumption | omega), if_neg (by first | assumption | omega), if_pos (by first | assumption | omega), if_pos (by first | assumption | omega), if_pos (by first | assumption | omega)]; done) | (rw [if_pos (by first | assumption | omega), if_neg (by first | assumption | omega), if_pos (by first | assumption | omega), if_pos (by first | assumption | omega), if_neg (by first | assumption | omega)]; done) | (rw [if_pos (by first | assumption | omega), if_neg (by first | assumption | omega), if_neg (by first | assumption | omega), if_pos (by first | assumption | omega)]; done) | (rw [if_pos (by first | assumption | omega), if_neg (by first | assumption | omega), if_neg (by first | assumption | omega), if_neg (by first | assumption | omega)]; done)
            have := ih (n + 1) (by omega) (0, 0)
            rw [e1] at this
            exact this
theorem t_places1 (X : AX) (w : Int) (hw : 0 ≤ w ∧ w ≤ 2) (ns : Nat) (np nt : Nat) (L : Nat → Nat) (σ : AH) {b : Nat} (hb : σ 295 13 = (b : Int)) (hb2 : b < 2) (hnp : σ 307 b = (np : Int)) (hnp2 : np ≤ 10) (hnt : σ 300 b = (nt : Int)) (hnt2 : nt ≤ 6) (hL : ∀ t, t < nt → σ 304 (6 * b + t) = (L t : Int) ∧ 2 ≤ L t ∧ L t ≤ 8) (hns : σ 297 b = (ns : Int)) (hns2 : ns ≤ 14)  : TT X 96 (0, [(2, 295), (0, w), (9, 0), (9, 0), (9, 0), (9, 0)], [], σ) (fun r σ' => r = some (0, if (mPl σ b np nt L ns (2 ^ np)).1 = -1 then -1 else if w = 0 then (mPl σ b np nt L ns (2 ^ np)).2.1 else if w = 1 then (mPl σ b np nt L ns (2 ^ np)).2.2.1 else (mPl σ b np nt L ns (2 ^ np)).1) ∧ σ' = (mPl σ b np nt L ns (2 ^ np)).2.2.2) := by
  refine TT.steps (cd := cd96) 3 (c' := (3, [(2, 295), (0, w), (9, 0), (9, 0), (9, 0), (9, 0)], [(0, 2), (0, 0), (0, w)], σ)) rfl rfl ?_
  refine TT.call (cd := cd96) rfl rfl rfl (by decide) rfl (t_is X w 0 2 σ) (fun r1 σ1 hq => ?_)
  rw [hq.1, hq.2]
  refine TT.steps (cd := cd96) 1 (c' := ((if decide (¬ ((if 0 ≤ w ∧ w ≤ 2 then 1 else 0) : Int) = 0) = true then 7 else 5), [(2, 295), (0, w), (9, 0), (9, 0), (9, 0), (9, 0)], [], σ)) rfl rfl ?_
  refine TT.br (p := ¬ ((if 0 ≤ w ∧ w ≤ 2 then 1 else 0) : Int) = 0) (fun h2 => ?_) (fun h2 => absurd (show ¬ ((if 0 ≤ w ∧ w ≤ 2 then 1 else 0) : Int) = 0 by (rw [if_pos (by first | assumption | omega)]; decide)) h2)
  refine TT.steps (cd := cd96) 8 (c' := (15, [(2, 295), (0, w), (0, -1), (0, 1000000), (0, 1000000), (0, 0)], [], σ)) rfl rfl ?_
  refine l_Pl X _ ns np nt L σ hb hb2 hnp hnp2 hnt hnt2 hL w hns hns2 (0, 0) (fun x y => ?_) (2 ^ np) 0 (by omega) (0, 0)
  refine TT.steps (cd := cd96) 3 (c' := ((if decide (¬ (mPl σ b np nt L ns (2 ^ np)).1 = (-1)) = true then 65 else 63), [(2, 295), (0, w), (0, (mPl σ b np nt L ns (2 ^ np)).1), (0, (mPl σ b np nt L ns (2 ^ np)).2.1), (0, (mPl σ b np nt L ns (2 ^ np)).2.2.1), x], [], ((mPl σ b np nt L ns (2 ^ np)).2.2.2))) rfl rfl ?_
  refine TT.br (p := ¬ (mPl σ b np nt L ns (2 ^ np)).1 = (-1)) (fun h3 => ?_) (fun h3 => ?_)
  · refine TT.steps (cd := cd96) 2 (c' := ((if decide (¬ w = 0) = true then 69 else 67), [(2, 295), (0, w), (0, (mPl σ b np nt L ns (2 ^ np)).1), (0, (mPl σ b np nt L ns (2 ^ np)).2.1), (0, (mPl σ b np nt L ns (2 ^ np)).2.2.1), x], [], ((mPl σ b np nt L ns (2 ^ np)).2.2.2))) rfl rfl ?_
    refine TT.br (p := ¬ w = 0) (fun h4 => ?_) (fun h4 => ?_)
    · refine TT.steps (cd := cd96) 3 (c' := ((if decide (¬ w = 1) = true then 74 else 72), [(2, 295), (0, w), (0, (mPl σ b np nt L ns (2 ^ np)).1), (0, (mPl σ b np nt L ns (2 ^ np)).2.1), (0, (mPl σ b np nt L ns (2 ^ np)).2.2.1), x], [], ((mPl σ b np nt L ns (2 ^ np)).2.2.2))) rfl rfl ?_
      refine TT.br (p := ¬ w = 1) (fun h5 => ?_) (fun h5 => ?_)
      · refine TT.steps (cd := cd96) 1 (c' := (75, [(2, 295), (0, w), (0, (mPl σ b np nt L ns (2 ^ np)).1), (0, (mPl σ b np nt L ns (2 ^ np)).2.1), (0, (mPl σ b np nt L ns (2 ^ np)).2.2.1), x], [(0, (mPl σ b np nt L ns (2 ^ np)).1)], ((mPl σ b np nt L ns (2 ^ np)).2.2.2))) rfl rfl ?_
        exact TT.ret (cd := cd96) rfl rfl rfl rfl (⟨by first | rfl | (rw [if_pos (by omega)]; done) | (rw [if_neg (by omega), if_pos (by omega)]; done) | (rw [if_neg (by omega), if_neg (by omega)]; done) | (rw [if_neg (by omega)]; done) | (rw [if_neg (by omega), if_neg (by omega), if_pos (by omega)]; done) | (rw [if_neg (by omega), if_neg (by omega), if_neg (by omega)]; done), rfl⟩)
      · refine TT.steps (cd := cd96) 2 (c' := (75, [(2, 295), (0, w), (0, (mPl σ b np nt L ns (2 ^ np)).1), (0, (mPl σ b np nt L ns (2 ^ np)).2.1), (0, (mPl σ b np nt L ns (2 ^ np)).2.2.1), x], [(0, (mPl σ b np nt L ns (2 ^ np)).2.2.1)], ((mPl σ b np nt L ns (2 ^ np)).2.2.2))) rfl rfl ?_
        exact TT.ret (cd := cd96) rfl rfl rfl rfl (⟨by first | rfl | (rw [if_pos (by omega)]; done) | (rw [if_neg (by omega), if_pos (by omega)]; done) | (rw [if_neg (by omega), if_neg (by omega)]; done) | (rw [if_neg (by omega)]; done) | (rw [if_neg (by omega), if_neg (by omega), if_pos (by omega)]; done) | (rw [if_neg (by omega), if_neg (by omega), if_neg (by omega)]; done), rfl⟩)
    · refine TT.steps (cd := cd96) 2 (c' := (75, [(2, 295), (0, w), (0, (mPl σ b np nt L ns (2 ^ np)).1), (0, (mPl σ b np nt L ns (2 ^ np)).2.1), (0, (mPl σ b np nt L ns (2 ^ np)).2.2.1), x], [(0, (mPl σ b np nt L ns (2 ^ np)).2.1)], ((mPl σ b np nt L ns (2 ^ np)).2.2.2))) rfl rfl ?_
      exact TT.ret (cd := cd96) rfl rfl rfl rfl (⟨by first | rfl | (rw [if_pos (by omega)]; done) | (rw [if_neg (by omega), if_pos (by omega)]; done) | (rw [if_neg (by omega), if_neg (by omega)]; done) | (rw [if_neg (by omega)]; done) | (rw [if_neg (by omega), if_neg (by omega), if_pos (by omega)]; done) | (rw [if_neg (by omega), if_neg (by omega), if_neg (by omega)]; done), rfl⟩)
  · refine TT.steps (cd := cd96) 2 (c' := (75, [(2, 295), (0, w), (0, (mPl σ b np nt L ns (2 ^ np)).1), (0, (mPl σ b np nt L ns (2 ^ np)).2.1), (0, (mPl σ b np nt L ns (2 ^ np)).2.2.1), x], [(0, -1)], ((mPl σ b np nt L ns (2 ^ np)).2.2.2))) rfl rfl ?_
    exact TT.ret (cd := cd96) rfl rfl rfl rfl (⟨by first | rfl | (rw [if_pos (by omega)]; done) | (rw [if_neg (by omega), if_pos (by omega)]; done) | (rw [if_neg (by omega), if_neg (by omega)]; done) | (rw [if_neg (by omega)]; done) | (rw [if_neg (by omega), if_neg (by omega), if_pos (by omega)]; done) | (rw [if_neg (by omega), if_neg (by omega), if_neg (by omega)]; done), rfl⟩)
theorem t_places0 (X : AX) (w : Int) (np nt : Nat) (L : Nat → Nat) (σ : AH) {b : Nat} (hb : σ 295 13 = (b : Int)) (hb2 : b < 2) (hnp : σ 307 b = (np : Int)) (hnp2 : np ≤ 10) (hnt : σ 300 b = (nt : Int)) (hnt2 : nt ≤ 6) (hL : ∀ t, t < nt → σ 304 (6 * b + t) = (L t : Int) ∧ 2 ≤ L t ∧ L t ≤ 8) (hw : ¬ (0 ≤ w ∧ w ≤ 2))  : TT X 96 (0, [(2, 295), (0, w), (9, 0), (9, 0), (9, 0), (9, 0)], [], σ) (fun r σ' => r = some (0, -1) ∧ σ' = σ) := by
  refine TT.steps (cd := cd96) 3 (c' := (3, [(2, 295), (0, w), (9, 0), (9, 0), (9, 0), (9, 0)], [(0, 2), (0, 0), (0, w)], σ)) rfl rfl ?_
  refine TT.call (cd := cd96) rfl rfl rfl (by decide) rfl (t_is X w 0 2 σ) (fun r1 σ1 hq => ?_)
  rw [hq.1, hq.2]
  refine TT.steps (cd := cd96) 1 (c' := ((if decide (¬ ((if 0 ≤ w ∧ w ≤ 2 then 1 else 0) : Int) = 0) = true then 7 else 5), [(2, 295), (0, w), (9, 0), (9, 0), (9, 0), (9, 0)], [], σ)) rfl rfl ?_
  refine TT.br (p := ¬ ((if 0 ≤ w ∧ w ≤ 2 then 1 else 0) : Int) = 0) (fun h2 => ?_) (fun h2 => ?_)
  · replace h2 := ite_t h2
    exfalso
    omega
  · replace h2 := ite_f (Decidable.not_not.mp h2)
    refine TT.steps (cd := cd96) 1 (c' := (6, [(2, 295), (0, w), (9, 0), (9, 0), (9, 0), (9, 0)], [(0, -1)], σ)) rfl rfl ?_
    exact TT.ret (cd := cd96) rfl rfl rfl rfl (⟨rfl, rfl⟩)
