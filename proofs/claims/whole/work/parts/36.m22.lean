/-- runs of years one behind another: dead stations, died, heap -/
def ruF (σ : AH) (b np nt : Nat) (L : Nat → Nat) (ys : Nat) (s : Int) : Nat → Int × Int × AH
  | 0 => (0, 0, σ)
  | i + 1 => (aAdd (ruF σ b np nt L ys s i).1 (if mAnyB (ryF b np nt L ys ((ruF σ b np nt L ys s i).2.1, cpN (ruF σ b np nt L ys s i).2.2 1 0 10)).2 1 np s = true then 0 else 1), (ryF b np nt L ys ((ruF σ b np nt L ys s i).2.1, cpN (ruF σ b np nt L ys s i).2.2 1 0 10)).1, up2 (ryF b np nt L ys ((ruF σ b np nt L ys s i).2.1, cpN (ruF σ b np nt L ys s i).2.2 1 0 10)).2 295 46 1)
theorem ruF_fr (σ : AH) (b np nt : Nat) (L : Nat → Nat) (ys : Nat) (s : Int) (n c j : Nat) (h : c ≠ 295 ∧ (c < 316 ∨ 337 < c)) : (ruF σ b np nt L ys s n).2.2 c j = σ c j := by
  induction n with
  | zero => rfl
  | succ n ih =>
    rw [ruF]
    dsimp only
    rw [up2_far _ _ _ _ h.1, ryF_fr _ _ _ _ _ _ h]
    exact (cpN_fr _ 1 0 10 _ _ (by omega)).trans ih
theorem ruF_M (σ : AH) (b np nt : Nat) (L : Nat → Nat) (ys : Nat) (s : Int) (n j : Nat) (h : j ≠ 43 ∧ j ≠ 46) : (ruF σ b np nt L ys s n).2.2 295 j = σ 295 j := by
  induction n with
  | zero => rfl
  | succ n ih =>
    rw [ruF]
    dsimp only
    rw [up2_by _ _ _ h.2, ryF_M _ _ _ _ _ h]
    exact (cpN_fr _ 1 0 10 _ _ (by decide)).trans ih
theorem l_runs2 (X : AX) (Q : Option AV → AH → Prop) (m ys : Nat) (hys : ys ≤ 20) (hm : m ≤ 20) (s w : Int) (np nt : Nat) (L : Nat → Nat) (σ : AH) {b : Nat} (hb : σ 295 13 = (b : Int)) (hb2 : b < 2) (hnp : σ 307 b = (np : Int)) (hnp2 : np ≤ 10) (hnt : σ 300 b = (nt : Int)) (hnt2 : nt ≤ 6) (hL : ∀ t, t < nt → σ 304 (6 * b + t) = (L t : Int) ∧ 2 ≤ L t ∧ L t ≤ 8) (kk : ∀ x y : AV, TT X 104 (66, [(2, 295), (0, ((m : Nat) : Int)), (0, ((ys : Nat) : Int)), (0, s), (0, w), (0, (ruF σ b np nt L ys s m).1), (0, (ruF σ b np nt L ys s m).2.1), x, y], [], (ruF σ b np nt L ys s m).2.2) Q) : ∀ (d n : Nat), n + d = m → ∀ y : AV, TT X 104 (27, [(2, 295), (0, ((m : Nat) : Int)), (0, ((ys : Nat) : Int)), (0, s), (0, w), (0, (ruF σ b np nt L ys s n).1), (0, (ruF σ b np nt L ys s n).2.1), (0, ((n : Nat) : Int)), y], [], (ruF σ b np nt L ys s n).2.2) Q := by
  intro d
  induction d with
  | zero =>
    intro n hn y
    have hnn : n = m := by omega
    skip
    have hfr := fun c j h => ruF_fr σ b np nt L ys s n c j h
    have hfM := fun j h => ruF_M σ b np nt L ys s n j h
    obtain ⟨⟨de, di, τ⟩, hS⟩ : ∃ S, ruF σ b np nt L ys s n = S := ⟨_, rfl⟩
    rw [hS] at hfr hfM ⊢
    dsimp only at hfr hfM ⊢
    refine TT.steps (cd := cd104) 3 (c' := ((if decide (((m : Nat) : Int) ≤ ((n : Nat) : Int)) = true then 66 else 30), [(2, 295), (0, ((m : Nat) : Int)), (0, ((ys : Nat) : Int)), (0, s), (0, w), (0, de), (0, di), (0, ((n : Nat) : Int)), y], [], τ)) rfl rfl ?_
    refine TT.br (p := ((m : Nat) : Int) ≤ ((n : Nat) : Int)) (fun h1 => ?_) (fun h1 => absurd (show ((m : Nat) : Int) ≤ ((n : Nat) : Int) by omega) h1)
    subst hnn
    rw [hS] at kk
    exact kk _ _
  | succ d ih =>
    intro n hn y
    have hfr := fun c j h => ruF_fr σ b np nt L ys s n c j h
    have hfM := fun j h => ruF_M σ b np nt L ys s n j h
    obtain ⟨⟨de, di, τ⟩, hS⟩ : ∃ S, ruF σ b np nt L ys s n = S := ⟨_, rfl⟩
    rw [hS] at hfr hfM ⊢
    dsimp only at hfr hfM ⊢
    refine TT.steps (cd := cd104) 3 (c' := ((if decide (((m : Nat) : Int) ≤ ((n : Nat) : Int)) = true then 66 else 30), [(2, 295), (0, ((m : Nat) : Int)), (0, ((ys : Nat) : Int)), (0, s), (0, w), (0, de), (0, di), (0, ((n : Nat) : Int)), y], [], τ)) rfl rfl ?_
    refine TT.br (p := ((m : Nat) : Int) ≤ ((n : Nat) : Int)) (fun h1 => absurd h1 (show ¬ (((m : Nat) : Int) ≤ ((n : Nat) : Int)) by omega)) (fun h1 => ?_)
    refine TT.steps (cd := cd104) 3 (c' := (33, [(2, 295), (0, ((m : Nat) : Int)), (0, ((ys : Nat) : Int)), (0, s), (0, w), (0, de), (0, di), (0, ((n : Nat) : Int)), y], [(0, 0), (0, 1), (2, 295)], τ)) rfl rfl ?_
    refine TT.call (cd := cd104) rfl rfl rfl (by decide) rfl (t_copies X 1 0 (by omega) (by omega) τ) (fun r2 σ2 hq => ?_)
    rw [hq.1, hq.2]
    refine TT.steps (cd := cd104) 2 (c' := (36, [(2, 295), (0, ((m : Nat) : Int)), (0, ((ys : Nat) : Int)), (0, s), (0, w), (0, de), (0, di), (0, ((n : Nat) : Int)), (0, 0)], [], (cpN τ 1 0 10))) rfl rfl ?_
    refine l_runs1 X _ m ys n hys s w de np nt L (cpN τ 1 0 10) (((cpN_fr _ _ _ _ 295 (13) (by decide)).trans (hfM (13) (by decide))).trans hb) hb2 (((cpN_fr _ _ _ _ 307 (b) (by decide)).trans (hfr 307 (b) (by decide))).trans hnp) hnp2 (((cpN_fr _ _ _ _ 300 (b) (by decide)).trans (hfr 300 (b) (by decide))).trans hnt) hnt2 (fun t ht => ⟨(show ∀ j, (cpN τ 1 0 10) 304 j = σ 304 j from fun j => ((cpN_fr _ _ _ _ 304 (j) (by decide)).trans (hfr 304 (j) (by decide)))) _ |>.trans (hL t ht).1, (hL t ht).2⟩) ys 0 di (cpN τ 1 0 10) (by omega) (fun _ _ _ => rfl) (fun _ _ => rfl) (fun x => ?_)
    refine TT.steps (cd := cd104) 4 (c' := (57, [(2, 295), (0, ((m : Nat) : Int)), (0, ((ys : Nat) : Int)), (0, s), (0, w), (0, de), (0, (ryF b np nt L ys (di, (cpN τ 1 0 10))).1), (0, ((n : Nat) : Int)), x], [(0, s), (0, 1), (2, 295), (0, de)], ((ryF b np nt L ys (di, (cpN τ 1 0 10))).2))) rfl rfl ?_
    refine TT.call (cd := cd104) rfl rfl rfl (by decide) rfl (t_isDead X np 1 s (by decide) ((ryF b np nt L ys (di, (cpN τ 1 0 10))).2) ((((show ((ryF b np nt L ys (di, (cpN τ 1 0 10))).2) 295 (13) = (cpN τ 1 0 10) 295 (13) from ryF_M _ _ _ _ (13) (by decide) _ _).trans (cpN_fr _ _ _ _ 295 (13) (by decide))).trans (hfM (13) (by decide))).trans hb) hb2 ((((show ((ryF b np nt L ys (di, (cpN τ 1 0 10))).2) 307 (b) = (cpN τ 1 0 10) 307 (b) from ryF_fr _ _ _ _ 307 (b) (by decide) _ _).trans (cpN_fr _ _ _ _ 307 (b) (by decide))).trans (hfr 307 (b) (by decide))).trans hnp) hnp2) (fun r3 σ3 hq => ?_)
    rw [hq.1, hq.2]
    refine TT.steps (cd := cd104) 1 (c' := ((if decide (((if mAnyB ((ryF b np nt L ys (di, (cpN τ 1 0 10))).2) 1 np s = true then 0 else 1) : Int) = 0) = true then 61 else 59), [(2, 295), (0, ((m : Nat) : Int)), (0, ((ys : Nat) : Int)), (0, s), (0, w), (0, de), (0, (ryF b np nt L ys (di, (cpN τ 1 0 10))).1), (0, ((n : Nat) : Int)), x], [(0, de)], (up2 ((ryF b np nt L ys (di, (cpN τ 1 0 10))).2) 295 46 1))) rfl rfl ?_
    refine TT.br (p := ((if mAnyB ((ryF b np nt L ys (di, (cpN τ 1 0 10))).2) 1 np s = true then 0 else 1) : Int) = 0) (fun h4 => ?_) (fun h4 => ?_)
    · refine TT.steps (cd := cd104) 2 (c' := (63, [(2, 295), (0, ((m : Nat) : Int)), (0, ((ys : Nat) : Int)), (0, s), (0, w), (0, de), (0, (ryF b np nt L ys (di, (cpN τ 1 0 10))).1), (0, ((n : Nat) : Int)), x], [(0, (aAdd de 0))], (up2 ((ryF b np nt L ys (di, (cpN τ 1 0 10))).2) 295 46 1))) rfl rfl ?_
      refine TT.steps (cd := cd104) 1 (c' := (64, [(2, 295), (0, ((m : Nat) : Int)), (0, ((ys : Nat) : Int)), (0, s), (0, w), (0, (aAdd de 0)), (0, (ryF b np nt L ys (di, (cpN τ 1 0 10))).1), (0, ((n : Nat) : Int)), x], [], (up2 ((ryF b np nt L ys (di, (cpN τ 1 0 10))).2) 295 46 1))) rfl rfl ?_
      refine TT.inc (cd := cd104) ((n + 1 : Nat) : Int) rfl rfl rfl rfl (fun h => absurd h.2 (show ¬ (0 = 1) by decide)) (aAdd_n (a := n) (b := 1) (by omega)) (ls' := [(2, 295), (0, ((m : Nat) : Int)), (0, ((ys : Nat) : Int)), (0, s), (0, w), (0, (aAdd de 0)), (0, (ryF b np nt L ys (di, (cpN τ 1 0 10))).1), (0, ((n + 1 : Nat) : Int)), x]) rfl ?_
      refine TT.steps (cd := cd104) 1 (c' := (27, [(2, 295), (0, ((m : Nat) : Int)), (0, ((ys : Nat) : Int)), (0, s), (0, w), (0, (aAdd de 0)), (0, (ryF b np nt L ys (di, (cpN τ 1 0 10))).1), (0, ((n + 1 : Nat) : Int)), x], [], (up2 ((ryF b np nt L ys (di, (cpN τ 1 0 10))).2) 295 46 1))) rfl rfl ?_
      have e1 : ruF σ b np nt L ys s (n + 1) = ((aAdd de 0), (ryF b np nt L ys (di, (cpN τ 1 0 10))).1, (up2 ((ryF b np nt L ys (di, (cpN τ 1 0 10))).2) 295 46 1)) := by
        rw [ruF, hS]
        dsimp only
        first | (rw [show (if mAnyB ((ryF b np nt L ys (di, (cpN τ 1 0 10))).2) 1 np s = true then (0 : Int) else 1) = 0 from by assumption]; done) | (rw [show (if mAnyB ((ryF b np nt L ys (di, (cpN τ 1 0 10))).2) 1 np s = true then (0 : Int) else 1) = 1 from ite_n1 (by assumption)]; done)
      have := ih (n + 1) (by omega) x
      rw [e1] at this
      exact this
    · refine TT.steps (cd := cd104) 3 (c' := (63, [(2, 295), (0, ((m : Nat) : Int)), (0, ((ys : Nat) : Int)), (0, s), (0, w), (0, de), (0, (ryF b np nt L ys (di, (cpN τ 1 0 10))).1), (0, ((n : Nat) : Int)), x], [(0, (aAdd de 1))], (up2 ((ryF b np nt L ys (di, (cpN τ 1 0 10))).2) 295 46 1))) rfl rfl ?_
      refine TT.steps (cd := cd104) 1 (c' := (64, [(2, 295), (0, ((m : Nat) : Int)), (0, ((ys : Nat) : Int)), (0, s), (0, w), (0, (aAdd de 1)), (0, (ryF b np nt L ys (di, (cpN τ 1 0 10))).1), (0, ((n : Nat) : Int)), x], [], (up2 ((ryF b np nt L ys (di, (cpN τ 1 0 10))).2) 295 46 1))) rfl rfl ?_
      refine TT.inc (cd := cd104) ((n + 1 : Nat) : Int) rfl rfl rfl rfl (fun h => absurd h.2 (show ¬ (0 = 1) by decide)) (aAdd_n (a := n) (b := 1) (by omega)) (ls' := [(2, 295), (0, ((m : Nat) : Int)), (0, ((ys : Nat) : Int)), (0, s), (0, w), (0, (aAdd de 1)), (0, (ryF b np nt L ys (di, (cpN τ 1 0 10))).1), (0, ((n + 1 : Nat) : Int)), x]) rfl ?_
      refine TT.steps (cd := cd104) 1 (c' := (27, [(2, 295), (0, ((m : Nat) : Int)), (0, ((ys : Nat) : Int)), (0, s), (0, w), (0, (aAdd de 1)), (0, (ryF b np nt L ys (di, (cpN τ 1 0 10))).1), (0, ((n + 1 : Nat) : Int)), x], [], (up2 ((ryF b np nt L ys (di, (cpN τ 1 0 10))).2) 295 46 1))) rfl rfl ?_
      have e1 : ruF σ b np nt L ys s (n + 1) = ((aAdd de 1), (ryF b np nt L ys (di, (cpN τ 1 0 10))).1, (up2 ((ryF b np nt L ys (di, (cpN τ 1 0 10))).2) 295 46 1)) := by
        rw [ruF, hS]
        dsimp only
        first | (rw [show (if mAnyB ((ryF b np nt L ys (di, (cpN τ 1 0 10))).2) 1 np s = true then (0 : Int) else 1) = 0 from by assumption]; done) | (rw [show (if mAnyB ((ryF b np nt L ys (di, (cpN τ 1 0 10))).2) 1 np s = true then (0 : Int) else 1) = 1 from ite_n1 (by assumption)]; done)
      have := ih (n + 1) (by omega) x
      rw [e1] at this
      exact this
theorem t_runs1 (X : AX) (m ys : Nat) (hm : 1 ≤ m ∧ m ≤ 20) (hys : 1 ≤ ys ∧ ys ≤ 20) (s w : Int) (hw : 0 ≤ w ∧ w ≤ 1) (np nt : Nat) (L : Nat → Nat) (σ : AH) {b : Nat} (hb : σ 295 13 = (b : Int)) (hb2 : b < 2) (hnp : σ 307 b = (np : Int)) (hnp2 : np ≤ 10) (hnt : σ 300 b = (nt : Int)) (hnt2 : nt ≤ 6) (hL : ∀ t, t < nt → σ 304 (6 * b + t) = (L t : Int) ∧ 2 ≤ L t ∧ L t ≤ 8) (ns : Nat) (hns : σ 297 b = (ns : Int)) (hns2 : ns ≤ 14) (hs : 0 ≤ s ∧ s < (ns : Int))  : TT X 104 (0, [(2, 295), (0, ((m : Nat) : Int)), (0, ((ys : Nat) : Int)), (0, s), (0, w), (9, 0), (9, 0), (9, 0), (9, 0)], [], σ) (fun r σ' => r = some (0, if w = 0 then (ruF σ b np nt L ys s m).1 else (ruF σ b np nt L ys s m).2.1) ∧ σ' = (ruF σ b np nt L ys s m).2.2) := by
  refine TT.steps (cd := cd104) 3 (c' := (3, [(2, 295), (0, ((m : Nat) : Int)), (0, ((ys : Nat) : Int)), (0, s), (0, w), (9, 0), (9, 0), (9, 0), (9, 0)], [(0, 20), (0, 1), (0, ((m : Nat) : Int))], σ)) rfl rfl ?_
  refine TT.call (cd := cd104) rfl rfl rfl (by decide) rfl (t_is X ((m : Nat) : Int) 1 20 σ) (fun r1 σ1 hq => ?_)
  rw [hq.1, hq.2]
  refine TT.steps (cd := cd104) 1 (c' := ((if decide (((if 1 ≤ ((m : Nat) : Int) ∧ ((m : Nat) : Int) ≤ 20 then 1 else 0) : Int) = 0) = true then 19 else 5), [(2, 295), (0, ((m : Nat) : Int)), (0, ((ys : Nat) : Int)), (0, s), (0, w), (9, 0), (9, 0), (9, 0), (9, 0)], [], σ)) rfl rfl ?_
  refine TT.br (p := ((if 1 ≤ ((m : Nat) : Int) ∧ ((m : Nat) : Int) ≤ 20 then 1 else 0) : Int) = 0) (fun h2 => absurd h2 (show ¬ (((if 1 ≤ ((m : Nat) : Int) ∧ ((m : Nat) : Int) ≤ 20 then 1 else 0) : Int) = 0) by (rw [if_pos (by first | assumption | omega)]; decide))) (fun h2 => ?_)
  refine TT.steps (cd := cd104) 3 (c' := (8, [(2, 295), (0, ((m : Nat) : Int)), (0, ((ys : Nat) : Int)), (0, s), (0, w), (9, 0), (9, 0), (9, 0), (9, 0)], [(0, 20), (0, 1), (0, ((ys : Nat) : Int))], σ)) rfl rfl ?_
  refine TT.call (cd := cd104) rfl rfl rfl (by decide) rfl (t_is X ((ys : Nat) : Int) 1 20 σ) (fun r3 σ3 hq => ?_)
  rw [hq.1, hq.2]
  refine TT.steps (cd := cd104) 1 (c' := ((if decide (((if 1 ≤ ((ys : Nat) : Int) ∧ ((ys : Nat) : Int) ≤ 20 then 1 else 0) : Int) = 0) = true then 19 else 10), [(2, 295), (0, ((m : Nat) : Int)), (0, ((ys : Nat) : Int)), (0, s), (0, w), (9, 0), (9, 0), (9, 0), (9, 0)], [], σ)) rfl rfl ?_
  refine TT.br (p := ((if 1 ≤ ((ys : Nat) : Int) ∧ ((ys : Nat) : Int) ≤ 20 then 1 else 0) : Int) = 0) (fun h4 => absurd h4 (show ¬ (((if 1 ≤ ((ys : Nat) : Int) ∧ ((ys : Nat) : Int) ≤ 20 then 1 else 0) : Int) = 0) by (rw [if_pos (by first | assumption | omega)]; decide))) (fun h4 => ?_)
  refine TT.steps (cd := cd104) 2 (c' := (12, [(2, 295), (0, ((m : Nat) : Int)), (0, ((ys : Nat) : Int)), (0, s), (0, w), (9, 0), (9, 0), (9, 0), (9, 0)], [(0, s), (2, 295)], σ)) rfl rfl ?_
  refine TT.call (cd := cd104) rfl rfl rfl (by decide) rfl (t_isStation X s σ hb hb2) (fun r5 σ5 hq => ?_)
  rw [hq.1, hq.2, hns]
  refine TT.steps (cd := cd104) 1 (c' := ((if decide (((if 0 ≤ s ∧ s < (ns : Int) then 1 else 0) : Int) = 0) = true then 19 else 14), [(2, 295), (0, ((m : Nat) : Int)), (0, ((ys : Nat) : Int)), (0, s), (0, w), (9, 0), (9, 0), (9, 0), (9, 0)], [], σ)) rfl rfl ?_
  refine TT.br (p := ((if 0 ≤ s ∧ s < (ns : Int) then 1 else 0) : Int) = 0) (fun h6 => absurd h6 (show ¬ (((if 0 ≤ s ∧ s < (ns : Int) then 1 else 0) : Int) = 0) by (rw [if_pos (by first | assumption | omega)]; decide))) (fun h6 => ?_)
  refine TT.steps (cd := cd104) 3 (c' := (17, [(2, 295), (0, ((m : Nat) : Int)), (0, ((ys : Nat) : Int)), (0, s), (0, w), (9, 0), (9, 0), (9, 0), (9, 0)], [(0, 1), (0, 0), (0, w)], σ)) rfl rfl ?_
  refine TT.call (cd := cd104) rfl rfl rfl (by decide) rfl (t_is X w 0 1 σ) (fun r7 σ7 hq => ?_)
  rw [hq.1, hq.2]
  refine TT.steps (cd := cd104) 1 (c' := ((if decide (¬ ((if 0 ≤ w ∧ w ≤ 1 then 1 else 0) : Int) = 0) = true then 21 else 19), [(2, 295), (0, ((m : Nat) : Int)), (0, ((ys : Nat) : Int)), (0, s), (0, w), (9, 0), (9, 0), (9, 0), (9, 0)], [], σ)) rfl rfl ?_
  refine TT.br (p := ¬ ((if 0 ≤ w ∧ w ≤ 1 then 1 else 0) : Int) = 0) (fun h8 => ?_) (fun h8 => absurd (show ¬ ((if 0 ≤ w ∧ w ≤ 1 then 1 else 0) : Int) = 0 by (rw [if_pos (by first | assumption | omega)]; decide)) h8)
  refine TT.steps (cd := cd104) 6 (c' := (27, [(2, 295), (0, ((m : Nat) : Int)), (0, ((ys : Nat) : Int)), (0, s), (0, w), (0, 0), (0, 0), (0, 0), (9, 0)], [], σ)) rfl rfl ?_
  refine l_runs2 X _ m ys hys.2 hm.2 s w np nt L σ hb hb2 hnp hnp2 hnt hnt2 hL (fun x y => ?_) m 0 (by omega) _
  refine TT.steps (cd := cd104) 2 (c' := ((if decide (¬ w = 0) = true then 70 else 68), [(2, 295), (0, ((m : Nat) : Int)), (0, ((ys : Nat) : Int)), (0, s), (0, w), (0, (ruF σ b np nt L ys s m).1), (0, (ruF σ b np nt L ys s m).2.1), x, y], [], ((ruF σ b np nt L ys s m).2.2))) rfl rfl ?_
  refine TT.br (p := ¬ w = 0) (fun h9 => ?_) (fun h9 => ?_)
  · refine TT.steps (cd := cd104) 1 (c' := (71, [(2, 295), (0, ((m : Nat) : Int)), (0, ((ys : Nat) : Int)), (0, s), (0, w), (0, (ruF σ b np nt L ys s m).1), (0, (ruF σ b np nt L ys s m).2.1), x, y], [(0, (ruF σ b np nt L ys s m).2.1)], ((ruF σ b np nt L ys s m).2.2))) rfl rfl ?_
    exact TT.ret (cd := cd104) rfl rfl rfl rfl (⟨by first | (rw [if_pos (by omega)]; done) | (rw [if_neg (by omega)]; done), rfl⟩)
  · refine TT.steps (cd := cd104) 2 (c' := (71, [(2, 295), (0, ((m : Nat) : Int)), (0, ((ys : Nat) : Int)), (0, s), (0, w), (0, (ruF σ b np nt L ys s m).1), (0, (ruF σ b np nt L ys s m).2.1), x, y], [(0, (ruF σ b np nt L ys s m).1)], ((ruF σ b np nt L ys s m).2.2))) rfl rfl ?_
    exact TT.ret (cd := cd104) rfl rfl rfl rfl (⟨by first | (rw [if_pos (by omega)]; done) | (rw [if_neg (by omega)]; done), rfl⟩)
theorem t_runs0 (X : AX) (m ys s w : Int) (np nt : Nat) (L : Nat → Nat) (σ : AH) {b : Nat} (hb : σ 295 13 = (b : Int)) (hb2 : b < 2) (hnp : σ 307 b = (np : Int)) (hnp2 : np ≤ 10) (hnt : σ 300 b = (nt : Int)) (hnt2 : nt ≤ 6) (hL : ∀ t, t < nt → σ 304 (6 * b + t) = (L t : Int) ∧ 2 ≤ L t ∧ L t ≤ 8) (ns : Nat) (hns : σ 297 b = (ns : Int)) (hns2 : ns ≤ 14) (hs : ¬ (1 ≤ m ∧ m ≤ 20) ∨ ¬ (1 ≤ ys ∧ ys ≤ 20) ∨ ¬ (0 ≤ s ∧ s < (ns : Int)) ∨ ¬ (0 ≤ w ∧ w ≤ 1))  : TT X 104 (0, [(2, 295), (0, m), (0, ys), (0, s), (0, w), (9, 0), (9, 0), (9, 0), (9, 0)], [], σ) (fun r σ' => r = some (0, -1) ∧ σ' = σ) := by
  refine TT.steps (cd := cd104) 3 (c' := (3, [(2, 295), (0, m), (0, ys), (0, s), (0, w), (9, 0), (9, 0), (9, 0), (9, 0)], [(0, 20), (0, 1), (0, m)], σ)) rfl rfl ?_
  refine TT.call (cd := cd104) rfl rfl rfl (by decide) rfl (t_is X m 1 20 σ) (fun r1 σ1 hq => ?_)
  rw [hq.1, hq.2]
  refine TT.steps (cd := cd104) 1 (c' := ((if decide (((if 1 ≤ m ∧ m ≤ 20 then 1 else 0) : Int) = 0) = true then 19 else 5), [(2, 295), (0, m), (0, ys), (0, s), (0, w), (9, 0), (9, 0), (9, 0), (9, 0)], [], σ)) rfl rfl ?_
  refine TT.br (p := ((if 1 ≤ m ∧ m ≤ 20 then 1 else 0) : Int) = 0) (fun h2 => ?_) (fun h2 => ?_)
  · replace h2 := ite_f h2
    refine TT.steps (cd := cd104) 1 (c' := (20, [(2, 295), (0, m), (0, ys), (0, s), (0, w), (9, 0), (9, 0), (9, 0), (9, 0)], [(0, -1)], σ)) rfl rfl ?_
    exact TT.ret (cd := cd104) rfl rfl rfl rfl (⟨rfl, rfl⟩)
  · replace h2 := ite_t h2
    refine TT.steps (cd := cd104) 3 (c' := (8, [(2, 295), (0, m), (0, ys), (0, s), (0, w), (9, 0), (9, 0), (9, 0), (9, 0)], [(0, 20), (0, 1), (0, ys)], σ)) rfl rfl ?_
    refine TT.call (cd := cd104) rfl rfl rfl (by decide) rfl (t_is X ys 1 20 σ) (fun r3 σ3 hq => ?_)
    rw [hq.1, hq.2]
    refine TT.steps (cd := cd104) 1 (c' := ((if decide (((if 1 ≤ ys ∧ ys ≤ 20 then 1 else 0) : Int) = 0) = true then 19 else 10), [(2, 295), (0, m), (0, ys), (0, s), (0, w), (9, 0), (9, 0), (9, 0), (9, 0)], [], σ)) rfl rfl ?_
    refine TT.br (p := ((if 1 ≤ ys ∧ ys ≤ 20 then 1 else 0) : Int) = 0) (fun h4 => ?_) (fun h4 => ?_)
    · replace h4 := ite_f h4
      refine TT.steps (cd := cd104) 1 (c' := (20, [(2, 295), (0, m), (0, ys), (0, s), (0, w), (9, 0), (9, 0), (9, 0), (9, 0)], [(0, -1)], σ)) rfl rfl ?_
      exact TT.ret (cd := cd104) rfl rfl rfl rfl (⟨rfl, rfl⟩)
    · replace h4 := ite_t h4
      refine TT.steps (cd := cd104) 2 (c' := (12, [(2, 295), (0, m), (0, ys), (0, s), (0, w), (9, 0), (9, 0), (9, 0), (9, 0)], [(0, s), (2, 295)], σ)) rfl rfl ?_
      refine TT.call (cd := cd104) rfl rfl rfl (by decide) rfl (t_isStation X s σ hb hb2) (fun r5 σ5 hq => ?_)
      rw [hq.1, hq.2, hns]
      refine TT.steps (cd := cd104) 1 (c' := ((if decide (((if 0 ≤ s ∧ s < (ns : Int) then 1 else 0) : Int) = 0) = true then 19 else 14), [(2, 295), (0, m), (0, ys), (0, s), (0, w), (9, 0), (9, 0), (9, 0), (9, 0)], [], σ)) rfl rfl ?_
      refine TT.br (p := ((if 0 ≤ s ∧ s < (ns : Int) then 1 else 0) : Int) = 0) (fun h6 => ?_) (fun h6 => ?_)
      · replace h6 := ite_f h6
        refine TT.steps (cd := cd104) 1 (c' := (20, [(2, 295), (0, m), (0, ys), (0, s), (0, w), (9, 0), (9, 0), (9, 0), (9, 0)], [(0, -1)], σ)) rfl rfl ?_
        exact TT.ret (cd := cd104) rfl rfl rfl rfl (⟨rfl, rfl⟩)
      · replace h6 := ite_t h6
        refine TT.steps (cd := cd104) 3 (c' := (17, [(2, 295), (0, m), (0, ys), (0, s), (0, w), (9, 0), (9, 0), (9, 0), (9, 0)], [(0, 1), (0, 0), (0, w)], σ)) rfl rfl ?_
        refine TT.call (cd := cd104) rfl rfl rfl (by decide) rfl (t_is X w 0 1 σ) (fun r7 σ7 hq => ?_)
        rw [hq.1, hq.2]
        refine TT.steps (cd := cd104) 1 (c' := ((if decide (¬ ((if 0 ≤ w ∧ w ≤ 1 then 1 else 0) : Int) = 0) = true then 21 else 19), [(2, 295), (0, m), (0, ys), (0, s), (0, w), (9, 0), (9, 0), (9, 0), (9, 0)], [], σ)) rfl rfl ?_
        refine TT.br (p := ¬ ((if 0 ≤ w ∧ w ≤ 1 then 1 else 0) : Int) = 0) (fun h8 => ?_) (fun h8 => ?_)
        · replace h8 := ite_t h8
          exfalso
          omega
        · replace h8 := ite_f (Decidable.not_not.mp h8)
          refine TT.steps (cd := cd104) 1 (c' := (20, [(2, 295), (0, m), (0, ys), (0, s), (0, w), (9, 0), (9, 0), (9, 0), (9, 0)], [(0, -1)], σ)) rfl rfl ?_
          exact TT.ret (cd := cd104) rfl rfl rfl rfl (⟨rfl, rfl⟩)
