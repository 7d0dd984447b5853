/-- whether all are where they were; they are there then -/
def mStl (σ : AH) : Nat → Int × AH
  | 0 => (1, σ)
  | n + 1 => (if (mStl σ n).1 = 0 ∨ ¬ (mStl σ n).2 320 (10 + n) = σ 334 n then 0 else 1, up2 (mStl σ n).2 320 (10 + n) (σ 334 n))
theorem mStl_fr (σ : AH) (n c j : Nat) (h : c ≠ 320) : (mStl σ n).2 c j = σ c j := by
  induction n with
  | zero => rfl
  | succ n ih => rw [mStl]; exact (up2_far _ _ _ _ h).trans ih
theorem mStl_b (σ : AH) (n : Nat) : (mStl σ n).1 = 0 ∨ (mStl σ n).1 = 1 := by
  cases n with
  | zero => exact Or.inr rfl
  | succ n =>
    rw [mStl]
    dsimp only
    split
    · exact Or.inl rfl
    · exact Or.inr rfl
theorem l_isSettled (X : AX) (np : Nat) (σ : AH) {b : Nat} (hb : σ 295 13 = (b : Int)) (hb2 : b < 2) (hnp : σ 307 b = (np : Int)) (hnp2 : np ≤ 10) : ∀ (d n : Nat), n + d = np → TT X 86 (4, [(2, 295), (0, (mStl σ n).1), (0, ((n : Nat) : Int))], [], ((mStl σ n).2)) (fun r σ' => r = some (0, (mStl σ np).1) ∧ σ' = (mStl σ np).2) := by
  intro d
  induction d with
  | zero =>
    intro n hn 
    have hnn : n = np := by omega
    refine TT.steps (cd := cd86) 5 (c' := (9, [(2, 295), (0, (mStl σ n).1), (0, ((n : Nat) : Int))], [(0, (((mStl σ n).2) 295 13)), (2, 307), (0, ((n : Nat) : Int))], ((mStl σ n).2))) rfl rfl ?_
    refine TT.top0 (z := ((b : Nat) : Int)) ((mStl_fr _ _ 295 (13) (by decide)).trans hb) ?_
    refine TT.aldN (cd := cd86) (307) (b) rfl rfl rfl rfl (show b < 2 by omega) ?_
    refine TT.top0 (z := ((np : Nat) : Int)) ((mStl_fr _ _ 307 (b) (by decide)).trans hnp) ?_
    refine TT.steps (cd := cd86) 1 (c' := ((if decide (((np : Nat) : Int) ≤ ((n : Nat) : Int)) = true then 40 else 11), [(2, 295), (0, (mStl σ n).1), (0, ((n : Nat) : Int))], [], ((mStl σ n).2))) rfl rfl ?_
    refine TT.br (p := ((np : Nat) : Int) ≤ ((n : Nat) : Int)) (fun h1 => ?_) (fun h1 => absurd (show ((np : Nat) : Int) ≤ ((n : Nat) : Int) by omega) h1)
    refine TT.steps (cd := cd86) 1 (c' := (41, [(2, 295), (0, (mStl σ n).1), (0, ((n : Nat) : Int))], [(0, (mStl σ n).1)], ((mStl σ n).2))) rfl rfl ?_
    rcases mStl_b σ n with h9 | h9
    · exact TT.top0 (z := 0) h9 (TT.ret (cd := cd86) rfl rfl rfl rfl ⟨by rw [← hnn, h9], by rw [hnn]⟩)
    · exact TT.top0 (z := 1) h9 (TT.ret (cd := cd86) rfl rfl rfl rfl ⟨by rw [← hnn, h9], by rw [hnn]⟩)
  | succ d ih =>
    intro n hn 
    refine TT.steps (cd := cd86) 5 (c' := (9, [(2, 295), (0, (mStl σ n).1), (0, ((n : Nat) : Int))], [(0, (((mStl σ n).2) 295 13)), (2, 307), (0, ((n : Nat) : Int))], ((mStl σ n).2))) rfl rfl ?_
    refine TT.top0 (z := ((b : Nat) : Int)) ((mStl_fr _ _ 295 (13) (by decide)).trans hb) ?_
    refine TT.aldN (cd := cd86) (307) (b) rfl rfl rfl rfl (show b < 2 by omega) ?_
    refine TT.top0 (z := ((np : Nat) : Int)) ((mStl_fr _ _ 307 (b) (by decide)).trans hnp) ?_
    refine TT.steps (cd := cd86) 1 (c' := ((if decide (((np : Nat) : Int) ≤ ((n : Nat) : Int)) = true then 40 else 11), [(2, 295), (0, (mStl σ n).1), (0, ((n : Nat) : Int))], [], ((mStl σ n).2))) rfl rfl ?_
    refine TT.br (p := ((np : Nat) : Int) ≤ ((n : Nat) : Int)) (fun h1 => absurd h1 (show ¬ (((np : Nat) : Int) ≤ ((n : Nat) : Int)) by omega)) (fun h1 => ?_)
    refine TT.steps (cd := cd86) 2 (c' := ((if decide ((mStl σ n).1 = 0) = true then 26 else 13), [(2, 295), (0, (mStl σ n).1), (0, ((n : Nat) : Int))], [], ((mStl σ n).2))) rfl rfl ?_
    refine TT.br (p := (mStl σ n).1 = 0) (fun h2 => ?_) (fun h2 => ?_)
    · refine TT.steps (cd := cd86) 7 (c' := (33, [(2, 295), (0, 0), (0, ((n : Nat) : Int))], [(0, (aAdd 10 ((n : Nat) : Int))), (2, 320)], ((mStl σ n).2))) rfl rfl ?_
      refine TT.top0 (z := ((10 + n : Nat) : Int)) (aAdd_n (a := 10) (b := n) (by omega)) ?_
      refine TT.steps (cd := cd86) 3 (c' := (36, [(2, 295), (0, 0), (0, ((n : Nat) : Int))], [(0, ((n : Nat) : Int)), (2, 334), (0, ((10 + n : Nat) : Int)), (2, 320)], ((mStl σ n).2))) rfl rfl ?_
      refine TT.aldN (cd := cd86) (334) (n) rfl rfl rfl rfl (show n < 10 by omega) ?_
      refine TT.top0 (z := (σ 334 n)) (mStl_fr _ _ 334 (n) (by decide)) ?_
      refine TT.astN (cd := cd86) (320) (10 + n) rfl rfl rfl rfl (show 10 + n < 220 by omega) ?_
      refine TT.inc (cd := cd86) ((n + 1 : Nat) : Int) rfl rfl rfl rfl (fun h => absurd h.2 (show ¬ (0 = 1) by decide)) (aAdd_n (a := n) (b := 1) (by omega)) (ls' := [(2, 295), (0, 0), (0, ((n + 1 : Nat) : Int))]) rfl ?_
      refine TT.steps (cd := cd86) 1 (c' := (4, [(2, 295), (0, 0), (0, ((n + 1 : Nat) : Int))], [], (up2 ((mStl σ n).2) 320 (10 + n) (σ 334 n)))) rfl rfl ?_
      have := ih (n + 1) (by omega)
      simp only [mStl] at this
      first | (rw [if_pos (by omega)] at this; exact this) | (rw [if_neg (by omega)] at this; exact this)
    · refine TT.steps (cd := cd86) 5 (c' := (18, [(2, 295), (0, (mStl σ n).1), (0, ((n : Nat) : Int))], [(0, (aAdd 10 ((n : Nat) : Int))), (2, 320)], ((mStl σ n).2))) rfl rfl ?_
      refine TT.top0 (z := ((10 + n : Nat) : Int)) (aAdd_n (a := 10) (b := n) (by omega)) ?_
      refine TT.aldN (cd := cd86) (320) (10 + n) rfl rfl rfl rfl (show 10 + n < 220 by omega) ?_
      refine TT.steps (cd := cd86) 3 (c' := (22, [(2, 295), (0, (mStl σ n).1), (0, ((n : Nat) : Int))], [(0, ((n : Nat) : Int)), (2, 334), (0, (((mStl σ n).2) 320 (10 + n)))], ((mStl σ n).2))) rfl rfl ?_
      refine TT.aldN (cd := cd86) (334) (n) rfl rfl rfl rfl (show n < 10 by omega) ?_
      refine TT.top0 (z := (σ 334 n)) (mStl_fr _ _ 334 (n) (by decide)) ?_
      refine TT.steps (cd := cd86) 1 (c' := ((if decide (¬ (((mStl σ n).2) 320 (10 + n)) = (σ 334 n)) = true then 26 else 24), [(2, 295), (0, (mStl σ n).1), (0, ((n : Nat) : Int))], [], ((mStl σ n).2))) rfl rfl ?_
      refine TT.br (p := ¬ (((mStl σ n).2) 320 (10 + n)) = (σ 334 n)) (fun h3 => ?_) (fun h3 => ?_)
      · refine TT.steps (cd := cd86) 7 (c' := (33, [(2, 295), (0, 0), (0, ((n : Nat) : Int))], [(0, (aAdd 10 ((n : Nat) : Int))), (2, 320)], ((mStl σ n).2))) rfl rfl ?_
        refine TT.top0 (z := ((10 + n : Nat) : Int)) (aAdd_n (a := 10) (b := n) (by omega)) ?_
        refine TT.steps (cd := cd86) 3 (c' := (36, [(2, 295), (0, 0), (0, ((n : Nat) : Int))], [(0, ((n : Nat) : Int)), (2, 334), (0, ((10 + n : Nat) : Int)), (2, 320)], ((mStl σ n).2))) rfl rfl ?_
        refine TT.aldN (cd := cd86) (334) (n) rfl rfl rfl rfl (show n < 10 by omega) ?_
        refine TT.top0 (z := (σ 334 n)) (mStl_fr _ _ 334 (n) (by decide)) ?_
        refine TT.astN (cd := cd86) (320) (10 + n) rfl rfl rfl rfl (show 10 + n < 220 by omega) ?_
        refine TT.inc (cd := cd86) ((n + 1 : Nat) : Int) rfl rfl rfl rfl (fun h => absurd h.2 (show ¬ (0 = 1) by decide)) (aAdd_n (a := n) (b := 1) (by omega)) (ls' := [(2, 295), (0, 0), (0, ((n + 1 : Nat) : Int))]) rfl ?_
        refine TT.steps (cd := cd86) 1 (c' := (4, [(2, 295), (0, 0), (0, ((n + 1 : Nat) : Int))], [], (up2 ((mStl σ n).2) 320 (10 + n) (σ 334 n)))) rfl rfl ?_
        have := ih (n + 1) (by omega)
        simp only [mStl] at this
        first | (rw [if_pos (by omega)] at this; exact this) | (rw [if_neg (by omega)] at this; exact this)
      · refine TT.steps (cd := cd86) 8 (c' := (33, [(2, 295), (0, 1), (0, ((n : Nat) : Int))], [(0, (aAdd 10 ((n : Nat) : Int))), (2, 320)], ((mStl σ n).2))) rfl rfl ?_
        refine TT.top0 (z := ((10 + n : Nat) : Int)) (aAdd_n (a := 10) (b := n) (by omega)) ?_
        refine TT.steps (cd := cd86) 3 (c' := (36, [(2, 295), (0, 1), (0, ((n : Nat) : Int))], [(0, ((n : Nat) : Int)), (2, 334), (0, ((10 + n : Nat) : Int)), (2, 320)], ((mStl σ n).2))) rfl rfl ?_
        refine TT.aldN (cd := cd86) (334) (n) rfl rfl rfl rfl (show n < 10 by omega) ?_
        refine TT.top0 (z := (σ 334 n)) (mStl_fr _ _ 334 (n) (by decide)) ?_
        refine TT.astN (cd := cd86) (320) (10 + n) rfl rfl rfl rfl (show 10 + n < 220 by omega) ?_
        refine TT.inc (cd := cd86) ((n + 1 : Nat) : Int) rfl rfl rfl rfl (fun h => absurd h.2 (show ¬ (0 = 1) by decide)) (aAdd_n (a := n) (b := 1) (by omega)) (ls' := [(2, 295), (0, 1), (0, ((n + 1 : Nat) : Int))]) rfl ?_
        refine TT.steps (cd := cd86) 1 (c' := (4, [(2, 295), (0, 1), (0, ((n + 1 : Nat) : Int))], [], (up2 ((mStl σ n).2) 320 (10 + n) (σ 334 n)))) rfl rfl ?_
        have := ih (n + 1) (by omega)
        simp only [mStl] at this
        first | (rw [if_pos (by omega)] at this; exact this) | (rw [if_neg (by omega)] at this; exact this)
theorem t_isSettled (X : AX) (np : Nat) (σ : AH) {b : Nat} (hb : σ 295 13 = (b : Int)) (hb2 : b < 2) (hnp : σ 307 b = (np : Int)) (hnp2 : np ≤ 10)  : TT X 86 (0, [(2, 295), (9, 0), (9, 0)], [], σ) (fun r σ' => r = some (0, (mStl σ np).1) ∧ σ' = (mStl σ np).2) := by
  refine TT.steps (cd := cd86) 4 (c' := (4, [(2, 295), (0, 1), (0, 0)], [], σ)) rfl rfl ?_
  exact l_isSettled X np σ hb hb2 hnp hnp2 np 0 (by omega)
/-- days until nobody is elsewhere: days, most, best, last, settled, heap -/
def seStep (b np nt : Nat) (L : Nat → Nat) (S : Nat × Int × Int × Int × Int × AH) : Nat × Int × Int × Int × Int × AH :=
  (S.1 + 1, if S.2.1 < mGood (mDay S.2.2.2.2.2 b 1 np nt L) 1 np then mGood (mDay S.2.2.2.2.2 b 1 np nt L) 1 np else S.2.1, if S.2.1 < mGood (mDay S.2.2.2.2.2 b 1 np nt L) 1 np then ((S.1 + 1 : Nat) : Int) else S.2.2.1, mGood (mDay S.2.2.2.2.2 b 1 np nt L) 1 np, (mStl (mDay S.2.2.2.2.2 b 1 np nt L) np).1, (mStl (mDay S.2.2.2.2.2 b 1 np nt L) np).2)
def seF (b np nt : Nat) (L : Nat → Nat) : Nat → Nat × Int × Int × Int × Int × AH → Nat × Int × Int × Int × Int × AH
  | 0, S => S
  | d + 1, S => if S.2.2.2.2.1 = 0 then seF b np nt L d (seStep b np nt L S) else S
theorem l_settles (X : AX) (Q : Option AV → AH → Prop) (w : Int) (np nt : Nat) (L : Nat → Nat) (σ : AH) {b : Nat} (hb : σ 295 13 = (b : Int)) (hb2 : b < 2) (hnp : σ 307 b = (np : Int)) (hnp2 : np ≤ 10) (hnt : σ 300 b = (nt : Int)) (hnt2 : nt ≤ 6) (hL : ∀ t, t < nt → σ 304 (6 * b + t) = (L t : Int) ∧ 2 ≤ L t ∧ L t ≤ 8) (y7 y8 : AV) : ∀ (d n : Nat) (mo be la se : Int) (τ : AH), n + d = 30 → (∀ c j, c ≠ 295 ∧ (c < 316 ∨ 337 < c) → τ c j = σ c j) → (∀ j, j ≠ 46 → τ 295 j = σ 295 j) → TT X 87 (45, [(2, 295), (0, w), (0, (((seF b np nt L d (n, mo, be, la, se, τ)).1 : Nat) : Int)), (0, (seF b np nt L d (n, mo, be, la, se, τ)).2.1), (0, (seF b np nt L d (n, mo, be, la, se, τ)).2.2.1), (0, (seF b np nt L d (n, mo, be, la, se, τ)).2.2.2.1), (0, (seF b np nt L d (n, mo, be, la, se, τ)).2.2.2.2.1), y7, y8], [], (seF b np nt L d (n, mo, be, la, se, τ)).2.2.2.2.2) Q → TT X 87 (21, [(2, 295), (0, w), (0, ((n : Nat) : Int)), (0, mo), (0, be), (0, la), (0, se), y7, y8], [], τ) Q := by
  intro d
  induction d with
  | zero =>
    intro n mo be la se τ hn hfr hfM kk
    refine TT.steps (cd := cd87) 2 (c' := ((if decide (¬ se = 0) = true then 45 else 23), [(2, 295), (0, w), (0, ((n : Nat) : Int)), (0, mo), (0, be), (0, la), (0, se), y7, y8], [], τ)) rfl rfl ?_
    refine TT.br (p := ¬ se = 0) (fun h1 => ?_) (fun h1 => ?_)
    · exact kk
    · refine TT.steps (cd := cd87) 3 (c' := ((if decide (30 ≤ ((n : Nat) : Int)) = true then 45 else 26), [(2, 295), (0, w), (0, ((n : Nat) : Int)), (0, mo), (0, be), (0, la), (0, se), y7, y8], [], τ)) rfl rfl ?_
      refine TT.br (p := 30 ≤ ((n : Nat) : Int)) (fun h2 => ?_) (fun h2 => absurd (show 30 ≤ ((n : Nat) : Int) by omega) h2)
      exact kk
  | succ d ih =>
    intro n mo be la se τ hn hfr hfM kk
    refine TT.steps (cd := cd87) 2 (c' := ((if decide (¬ se = 0) = true then 45 else 23), [(2, 295), (0, w), (0, ((n : Nat) : Int)), (0, mo), (0, be), (0, la), (0, se), y7, y8], [], τ)) rfl rfl ?_
    refine TT.br (p := ¬ se = 0) (fun h1 => ?_) (fun h1 => ?_)
    · rw [seF, if_neg (by assumption)] at kk
      exact kk
    · refine TT.steps (cd := cd87) 3 (c' := ((if decide (30 ≤ ((n : Nat) : Int)) = true then 45 else 26), [(2, 295), (0, w), (0, ((n : Nat) : Int)), (0, mo), (0, be), (0, la), (0, se), y7, y8], [], τ)) rfl rfl ?_
      refine TT.br (p := 30 ≤ ((n : Nat) : Int)) (fun h2 => absurd h2 (show ¬ (30 ≤ ((n : Nat) : Int)) by omega)) (fun h2 => ?_)
      refine TT.steps (cd := cd87) 2 (c' := (28, [(2, 295), (0, w), (0, ((n : Nat) : Int)), (0, mo), (0, be), (0, la), (0, se), y7, y8], [(0, 1), (2, 295)], τ)) rfl rfl ?_
      refine TT.call (cd := cd87) rfl rfl rfl (by decide) rfl (t_goodOf X np nt L τ (v := 1) ((hfM (13) (by decide)).trans hb) hb2 (by omega) ((hfr 307 (b) (by decide)).trans hnp) hnp2 ((hfr 300 (b) (by decide)).trans hnt) hnt2 (fun t ht => ⟨(show ∀ j, τ 304 j = σ 304 j from fun j => (hfr 304 (j) (by decide))) _ |>.trans (hL t ht).1, (hL t ht).2⟩)) (fun r3 σ3 hq => ?_)
      rw [hq.1, hq.2]
      refine TT.steps (cd := cd87) 1 (c' := (30, [(2, 295), (0, w), (0, ((n : Nat) : Int)), (0, mo), (0, be), (0, (mGood (mDay τ b 1 np nt L) 1 np)), (0, se), y7, y8], [], (mDay τ b 1 np nt L))) rfl rfl ?_
      refine TT.inc (cd := cd87) ((n + 1 : Nat) : Int) rfl rfl rfl rfl (fun h => absurd h.2 (show ¬ (0 = 1) by decide)) (aAdd_n (a := n) (b := 1) (by omega)) (ls' := [(2, 295), (0, w), (0, ((n + 1 : Nat) : Int)), (0, mo), (0, be), (0, (mGood (mDay τ b 1 np nt L) 1 np)), (0, se), y7, y8]) rfl ?_
      refine TT.steps (cd := cd87) 3 (c' := ((if decide ((mGood (mDay τ b 1 np nt L) 1 np) ≤ mo) = true then 36 else 34), [(2, 295), (0, w), (0, ((n + 1 : Nat) : Int)), (0, mo), (0, be), (0, (mGood (mDay τ b 1 np nt L) 1 np)), (0, se), y7, y8], [], (mDay τ b 1 np nt L))) rfl rfl ?_
      refine TT.br (p := (mGood (mDay τ b 1 np nt L) 1 np) ≤ mo) (fun h4 => ?_) (fun h4 => ?_)
      · refine TT.steps (cd := cd87) 3 (c' := ((if decide ((mGood (mDay τ b 1 np nt L) 1 np) ≤ mo) = true then 41 else 39), [(2, 295), (0, w), (0, ((n + 1 : Nat) : Int)), (0, mo), (0, be), (0, (mGood (mDay τ b 1 np nt L) 1 np)), (0, se), y7, y8], [], (mDay τ b 1 np nt L))) rfl rfl ?_
        refine TT.br (p := (mGood (mDay τ b 1 np nt L) 1 np) ≤ mo) (fun h5 => ?_) (fun h5 => ?_)
        · refine TT.steps (cd := cd87) 1 (c' := (42, [(2, 295), (0, w), (0, ((n + 1 : Nat) : Int)), (0, mo), (0, be), (0, (mGood (mDay τ b 1 np nt L) 1 np)), (0, se), y7, y8], [(2, 295)], (mDay τ b 1 np nt L))) rfl rfl ?_
          refine TT.call (cd := cd87) rfl rfl rfl (by decide) rfl (t_isSettled X np (mDay τ b 1 np nt L) (((mDay_M _ _ _ _ _ _ (13) (by decide)).trans (hfM (13) (by decide))).trans hb) hb2 (((mDay_fr _ _ _ _ _ _ 307 (b) (by decide)).trans (hfr 307 (b) (by decide))).trans hnp) hnp2) (fun r6 σ6 hq => ?_)
          rw [hq.1, hq.2]
          refine TT.steps (cd := cd87) 2 (c' := (21, [(2, 295), (0, w), (0, ((n + 1 : Nat) : Int)), (0, mo), (0, be), (0, (mGood (mDay τ b 1 np nt L) 1 np)), (0, (mStl (mDay τ b 1 np nt L) np).1), y7, y8], [], ((mStl (mDay τ b 1 np nt L) np).2))) rfl rfl ?_
          try (exfalso; omega)
          all_goals
            rw [seF, if_pos (show (n, mo, be, la, se, τ).2.2.2.2.1 = 0 by first | assumption | exact Decidable.not_not.mp (by assumption))] at kk
            unfold seStep at kk
            dsimp only at kk
            first | rw [if_pos (by omega), if_pos (by omega)] at kk | rw [if_neg (by omega), if_neg (by omega)] at kk
            refine ih (n + 1) _ _ _ _ ((mStl (mDay τ b 1 np nt L) np).2) (by omega) (fun c j h => ?_) (fun j h => ?_) kk
            · rw [mStl_fr _ _ _ _ (by omega), mDay_fr _ _ _ _ _ _ _ _ (by omega), hfr c j h]
            · rw [mStl_fr _ _ _ _ (by decide), mDay_M _ _ _ _ _ _ _ h, hfM j h]
        · refine TT.steps (cd := cd87) 3 (c' := (42, [(2, 295), (0, w), (0, ((n + 1 : Nat) : Int)), (0, (mGood (mDay τ b 1 np nt L) 1 np)), (0, be), (0, (mGood (mDay τ b 1 np nt L) 1 np)), (0, se), y7, y8], [(2, 295)], (mDay τ b 1 np nt L))) rfl rfl ?_
          refine TT.call (cd := cd87) rfl rfl rfl (by decide) rfl (t_isSettled X np (mDay τ b 1 np nt L) (((mDay_M _ _ _ _ _ _ (13) (by decide)).trans (hfM (13) (by decide))).trans hb) hb2 (((mDay_fr _ _ _ _ _ _ 307 (b) (by decide)).trans (hfr 307 (b) (by decide))).trans hnp) hnp2) (fun r7 σ7 hq => ?_)
          rw [hq.1, hq.2]
          refine TT.steps (cd := cd87) 2 (c' := (21, [(2, 295), (0, w), (0, ((n + 1 : Nat) : Int)), (0, (mGood (mDay τ b 1 np nt L) 1 np)), (0, be), (0, (mGood (mDay τ b 1 np nt L) 1 np)), (0, (mStl (mDay τ b 1 np nt L) np).1), y7, y8], [], ((mStl (mDay τ b 1 np nt L) np).2))) rfl rfl ?_
          try (exfalso; omega)
          all_goals
            rw [seF, if_pos (show (n, mo, be, la, se, τ).2.2.2.2.1 = 0 by first | assumption | exact Decidable.not_not.mp (by assumption))] at kk
            unfold seStep at kk
            dsimp only at kk
            first | rw [if_pos (by omega), if_pos (by omega)] at kk | rw [if_neg (by omega), if_neg (by omega)] at kk
            refine ih (n + 1) _ _ _ _ ((mStl (mDay τ b 1 np nt L) np).2) (by omega) (fun c j h => ?_) (fun j h => ?_) kk
            · rw [mStl_fr _ _ _ _ (by omega), mDay_fr _ _ _ _ _ _ _ _ (by omega), hfr c j h]
            · rw [mStl_fr _ _ _ _ (by decide), mDay_M _ _ _ _ _ _ _ h, hfM j h]
      · refine TT.steps (cd := cd87) 5 (c' := ((if decide ((mGood (mDay τ b 1 np nt L) 1 np) ≤ mo) = true then 41 else 39), [(2, 295), (0, w), (0, ((n + 1 : Nat) : Int)), (0, mo), (0, ((n + 1 : Nat) : Int)), (0, (mGood (mDay τ b 1 np nt L) 1 np)), (0, se), y7, y8], [], (mDay τ b 1 np nt L))) rfl rfl ?_
        refine TT.br (p := (mGood (mDay τ b 1 np nt L) 1 np) ≤ mo) (fun h8 => ?_) (fun h8 => ?_)
        · refine TT.steps (cd := cd87) 1 (c' := (42, [(2, 295), (0, w), (0, ((n + 1 : Nat) : Int)), (0, mo), (0, ((n + 1 : Nat) : Int)), (0, (mGood (mDay τ b 1 np nt L) 1 np)), (0, se), y7, y8], [(2, 295)], (mDay τ b 1 np nt L))) rfl rfl ?_
          refine TT.call (cd := cd87) rfl rfl rfl (by decide) rfl (t_isSettled X np (mDay τ b 1 np nt L) (((mDay_M _ _ _ _ _ _ (13) (by decide)).trans (hfM (13) (by decide))).trans hb) hb2 (((mDay_fr _ _ _ _ _ _ 307 (b) (by decide)).trans (hfr 307 (b) (by decide))).trans hnp) hnp2) (fun r9 σ9 hq => ?_)
          rw [hq.1, hq.2]
          refine TT.steps (cd := cd87) 2 (c' := (21, [(2, 295), (0, w), (0, ((n + 1 : Nat) : Int)), (0, mo), (0, ((n + 1 : Nat) : Int)), (0, (mGood (mDay τ b 1 np nt L) 1 np)), (0, (mStl (mDay τ b 1 np nt L) np).1), y7, y8], [], ((mStl (mDay τ b 1 np nt L) np).2))) rfl rfl ?_
          try (exfalso; omega)
          all_goals
            rw [seF, if_pos (show (n, mo, be, la, se, τ).2.2.2.2.1 = 0 by first | assumption | exact Decidable.not_not.mp (by assumption))] at kk
            unfold seStep at kk
            dsimp only at kk
            first | rw [if_pos (by omega), if_pos (by omega)] at kk | rw [if_neg (by omega), if_neg (by omega)] at kk
            refine ih (n + 1) _ _ _ _ ((mStl (mDay τ b 1 np nt L) np).2) (by omega) (fun c j h => ?_) (fun j h => ?_) kk
            · rw [mStl_fr _ _ _ _ (by omega), mDay_fr _ _ _ _ _ _ _ _ (by omega), hfr c j h]
            · rw [mStl_fr _ _ _ _ (by decide), mDay_M _ _ _ _ _ _ _ h, hfM j h]
        · refine TT.steps (cd := cd87) 3 (c' := (42, [(2, 295), (0, w), (0, ((n + 1 : Nat) : Int)), (0, (mGood (mDay τ b 1 np nt L) 1 np)), (0, ((n + 1 : Nat) : Int)), (0, (mGood (mDay τ b 1 np nt L) 1 np)), (0, se), y7, y8], [(2, 295)], (mDay τ b 1 np nt L))) rfl rfl ?_
          refine TT.call (cd := cd87) rfl rfl rfl (by decide) rfl (t_isSettled X np (mDay τ b 1 np nt L) (((mDay_M _ _ _ _ _ _ (13) (by decide)).trans (hfM (13) (by decide))).trans hb) hb2 (((mDay_fr _ _ _ _ _ _ 307 (b) (by decide)).trans (hfr 307 (b) (by decide))).trans hnp) hnp2) (fun r10 σ10 hq => ?_)
          rw [hq.1, hq.2]
          refine TT.steps (cd := cd87) 2 (c' := (21, [(2, 295), (0, w), (0, ((n + 1 : Nat) : Int)), (0, (mGood (mDay τ b 1 np nt L) 1 np)), (0, ((n + 1 : Nat) : Int)), (0, (mGood (mDay τ b 1 np nt L) 1 np)), (0, (mStl (mDay τ b 1 np nt L) np).1), y7, y8], [], ((mStl (mDay τ b 1 np nt L) np).2))) rfl rfl ?_
          try (exfalso; omega)
          all_goals
            rw [seF, if_pos (show (n, mo, be, la, se, τ).2.2.2.2.1 = 0 by first | assumption | exact Decidable.not_not.mp (by assumption))] at kk
            unfold seStep at kk
            dsimp only at kk
            first | rw [if_pos (by omega), if_pos (by omega)] at kk | rw [if_neg (by omega), if_neg (by omega)] at kk
            refine ih (n + 1) _ _ _ _ ((mStl (mDay τ b 1 np nt L) np).2) (by omega) (fun c j h => ?_) (fun j h => ?_) kk
            · rw [mStl_fr _ _ _ _ (by omega), mDay_fr _ _ _ _ _ _ _ _ (by omega), hfr c j h]
            · rw [mStl_fr _ _ _ _ (by decide), mDay_M _ _ _ _ _ _ _ h, hfM j h]
theorem seF_fr (b np nt : Nat) (L : Nat → Nat) (c j : Nat) (h : c ≠ 295 ∧ (c < 316 ∨ 337 < c)) : ∀ (d : Nat) (S : Nat × Int × Int × Int × Int × AH), (seF b np nt L d S).2.2.2.2.2 c j = S.2.2.2.2.2 c j := by
  intro d
  induction d with
  | zero => intro S; rfl
  | succ d ih =>
    intro S
    rw [seF]
    split
    · rw [ih]
      unfold seStep
      dsimp only
      rw [mStl_fr _ _ _ _ (by omega), mDay_fr _ _ _ _ _ _ _ _ (by omega)]
    · rfl
theorem seF_M (b np nt : Nat) (L : Nat → Nat) (j : Nat) (h : j ≠ 46) : ∀ (d : Nat) (S : Nat × Int × Int × Int × Int × AH), (seF b np nt L d S).2.2.2.2.2 295 j = S.2.2.2.2.2 295 j := by
  intro d
  induction d with
  | zero => intro S; rfl
  | succ d ih =>
    intro S
    rw [seF]
    split
    · rw [ih]
      unfold seStep
      dsimp only
      rw [mStl_fr _ _ _ _ (by decide), mDay_M _ _ _ _ _ _ _ h]
    · rfl
theorem l_settles2 (X : AX) (Q : Option AV → AH → Prop) (w : Int) (x2 : Nat) (x3 x4 x5 x6 : Int) (np : Nat) (σ : AH) {b : Nat} (hb : σ 295 13 = (b : Int)) (hb2 : b < 2) (hnp : σ 307 b = (np : Int)) (hnp2 : np ≤ 10) (kk : ∀ x : AV, TT X 87 (75, [(2, 295), (0, w), (0, ((x2 : Nat) : Int)), (0, x3), (0, x4), (0, x5), (0, x6), (0, (sumA (fun p => if σ 320 (10 + p) = σ 320 p then 0 else 1) np)), x], [], σ) Q) : ∀ (d n : Nat), n + d = np → TT X 87 (49, [(2, 295), (0, w), (0, ((x2 : Nat) : Int)), (0, x3), (0, x4), (0, x5), (0, x6), (0, (sumA (fun p => if σ 320 (10 + p) = σ 320 p then 0 else 1) n)), (0, ((n : Nat) : Int))], [], σ) Q := by
  intro d
  induction d with
  | zero =>
    intro n hn 
    have hnn : n = np := by omega
    refine TT.steps (cd := cd87) 5 (c' := (54, [(2, 295), (0, w), (0, ((x2 : Nat) : Int)), (0, x3), (0, x4), (0, x5), (0, x6), (0, (sumA (fun p => if σ 320 (10 + p) = σ 320 p then 0 else 1) n)), (0, ((n : Nat) : Int))], [(0, (σ 295 13)), (2, 307), (0, ((n : Nat) : Int))], σ)) rfl rfl ?_
    refine TT.top0 (z := ((b : Nat) : Int)) hb ?_
    refine TT.aldN (cd := cd87) (307) (b) rfl rfl rfl rfl (show b < 2 by omega) ?_
    refine TT.top0 (z := ((np : Nat) : Int)) hnp ?_
    refine TT.steps (cd := cd87) 1 (c' := ((if decide (((np : Nat) : Int) ≤ ((n : Nat) : Int)) = true then 75 else 56), [(2, 295), (0, w), (0, ((x2 : Nat) : Int)), (0, x3), (0, x4), (0, x5), (0, x6), (0, (sumA (fun p => if σ 320 (10 + p) = σ 320 p then 0 else 1) n)), (0, ((n : Nat) : Int))], [], σ)) rfl rfl ?_
    refine TT.br (p := ((np : Nat) : Int) ≤ ((n : Nat) : Int)) (fun h1 => ?_) (fun h1 => absurd (show ((np : Nat) : Int) ≤ ((n : Nat) : Int) by omega) h1)
    subst hnn
    exact kk _
  | succ d ih =>
    intro n hn 
    refine TT.steps (cd := cd87) 5 (c' := (54, [(2, 295), (0, w), (0, ((x2 : Nat) : Int)), (0, x3), (0, x4), (0, x5), (0, x6), (0, (sumA (fun p => if σ 320 (10 + p) = σ 320 p then 0 else 1) n)), (0, ((n : Nat) : Int))], [(0, (σ 295 13)), (2, 307), (0, ((n : Nat) : Int))], σ)) rfl rfl ?_
    refine TT.top0 (z := ((b : Nat) : Int)) hb ?_
    refine TT.aldN (cd := cd87) (307) (b) rfl rfl rfl rfl (show b < 2 by omega) ?_
    refine TT.top0 (z := ((np : Nat) : Int)) hnp ?_
    refine TT.steps (cd := cd87) 1 (c' := ((if decide (((np : Nat) : Int) ≤ ((n : Nat) : Int)) = true then 75 else 56), [(2, 295), (0, w), (0, ((x2 : Nat) : Int)), (0, x3), (0, x4), (0, x5), (0, x6), (0, (sumA (fun p => if σ 320 (10 + p) = σ 320 p then 0 else 1) n)), (0, ((n : Nat) : Int))], [], σ)) rfl rfl ?_
    refine TT.br (p := ((np : Nat) : Int) ≤ ((n : Nat) : Int)) (fun h1 => absurd h1 (show ¬ (((np : Nat) : Int) ≤ ((n : Nat) : Int)) by omega)) (fun h1 => ?_)
    refine TT.steps (cd := cd87) 6 (c' := (62, [(2, 295), (0, w), (0, ((x2 : Nat) : Int)), (0, x3), (0, x4), (0, x5), (0, x6), (0, (sumA (fun p => if σ 320 (10 + p) = σ 320 p then 0 else 1) n)), (0, ((n : Nat) : Int))], [(0, (aAdd 10 ((n : Nat) : Int))), (2, 320), (0, (sumA (fun p => if σ 320 (10 + p) = σ 320 p then 0 else 1) n))], σ)) rfl rfl ?_
    refine TT.top0 (z := ((10 + n : Nat) : Int)) (aAdd_n (a := 10) (b := n) (by omega)) ?_
    refine TT.aldN (cd := cd87) (320) (10 + n) rfl rfl rfl rfl (show 10 + n < 220 by omega) ?_
    refine TT.steps (cd := cd87) 3 (c' := (66, [(2, 295), (0, w), (0, ((x2 : Nat) : Int)), (0, x3), (0, x4), (0, x5), (0, x6), (0, (sumA (fun p => if σ 320 (10 + p) = σ 320 p then 0 else 1) n)), (0, ((n : Nat) : Int))], [(0, ((n : Nat) : Int)), (2, 320), (0, (σ 320 (10 + n))), (0, (sumA (fun p => if σ 320 (10 + p) = σ 320 p then 0 else 1) n))], σ)) rfl rfl ?_
    refine TT.aldN (cd := cd87) (320) (n) rfl rfl rfl rfl (show n < 220 by omega) ?_
    refine TT.steps (cd := cd87) 1 (c' := ((if decide (¬ (σ 320 (10 + n)) = (σ 320 n)) = true then 70 else 68), [(2, 295), (0, w), (0, ((x2 : Nat) : Int)), (0, x3), (0, x4), (0, x5), (0, x6), (0, (sumA (fun p => if σ 320 (10 + p) = σ 320 p then 0 else 1) n)), (0, ((n : Nat) : Int))], [(0, (sumA (fun p => if σ 320 (10 + p) = σ 320 p then 0 else 1) n))], σ)) rfl rfl ?_
    refine TT.br (p := ¬ (σ 320 (10 + n)) = (σ 320 n)) (fun h2 => ?_) (fun h2 => ?_)
    · refine TT.steps (cd := cd87) 2 (c' := (72, [(2, 295), (0, w), (0, ((x2 : Nat) : Int)), (0, x3), (0, x4), (0, x5), (0, x6), (0, (sumA (fun p => if σ 320 (10 + p) = σ 320 p then 0 else 1) n)), (0, ((n : Nat) : Int))], [(0, (aAdd (sumA (fun p => if σ 320 (10 + p) = σ 320 p then 0 else 1) n) 1))], σ)) rfl rfl ?_
      refine TT.steps (cd := cd87) 1 (c' := (73, [(2, 295), (0, w), (0, ((x2 : Nat) : Int)), (0, x3), (0, x4), (0, x5), (0, x6), (0, (aAdd (sumA (fun p => if σ 320 (10 + p) = σ 320 p then 0 else 1) n) 1)), (0, ((n : Nat) : Int))], [], σ)) rfl rfl ?_
      refine TT.inc (cd := cd87) ((n + 1 : Nat) : Int) rfl rfl rfl rfl (fun h => absurd h.2 (show ¬ (0 = 1) by decide)) (aAdd_n (a := n) (b := 1) (by omega)) (ls' := [(2, 295), (0, w), (0, ((x2 : Nat) : Int)), (0, x3), (0, x4), (0, x5), (0, x6), (0, (aAdd (sumA (fun p => if σ 320 (10 + p) = σ 320 p then 0 else 1) n) 1)), (0, ((n + 1 : Nat) : Int))]) rfl ?_
      refine TT.steps (cd := cd87) 1 (c' := (49, [(2, 295), (0, w), (0, ((x2 : Nat) : Int)), (0, x3), (0, x4), (0, x5), (0, x6), (0, (aAdd (sumA (fun p => if σ 320 (10 + p) = σ 320 p then 0 else 1) n) 1)), (0, ((n + 1 : Nat) : Int))], [], σ)) rfl rfl ?_
      have := ih (n + 1) (by omega)
      simp only [sumA] at this
      first | (rw [if_pos (by omega)] at this; exact this) | (rw [if_neg (by omega)] at this; exact this)
    · refine TT.steps (cd := cd87) 3 (c' := (72, [(2, 295), (0, w), (0, ((x2 : Nat) : Int)), (0, x3), (0, x4), (0, x5), (0, x6), (0, (sumA (fun p => if σ 320 (10 + p) = σ 320 p then 0 else 1) n)), (0, ((n : Nat) : Int))], [(0, (aAdd (sumA (fun p => if σ 320 (10 + p) = σ 320 p then 0 else 1) n) 0))], σ)) rfl rfl ?_
      refine TT.steps (cd := cd87) 1 (c' := (73, [(2, 295), (0, w), (0, ((x2 : Nat) : Int)), (0, x3), (0, x4), (0, x5), (0, x6), (0, (aAdd (sumA (fun p => if σ 320 (10 + p) = σ 320 p then 0 else 1) n) 0)), (0, ((n : Nat) : Int))], [], σ)) rfl rfl ?_
      refine TT.inc (cd := cd87) ((n + 1 : Nat) : Int) rfl rfl rfl rfl (fun h => absurd h.2 (show ¬ (0 = 1) by decide)) (aAdd_n (a := n) (b := 1) (by omega)) (ls' := [(2, 295), (0, w), (0, ((x2 : Nat) : Int)), (0, x3), (0, x4), (0, x5), (0, x6), (0, (aAdd (sumA (fun p => if σ 320 (10 + p) = σ 320 p then 0 else 1) n) 0)), (0, ((n + 1 : Nat) : Int))]) rfl ?_
      refine TT.steps (cd := cd87) 1 (c' := (49, [(2, 295), (0, w), (0, ((x2 : Nat) : Int)), (0, x3), (0, x4), (0, x5), (0, x6), (0, (aAdd (sumA (fun p => if σ 320 (10 + p) = σ 320 p then 0 else 1) n) 0)), (0, ((n + 1 : Nat) : Int))], [], σ)) rfl rfl ?_
      have := ih (n + 1) (by omega)
      simp only [sumA] at this
      first | (rw [if_pos (by omega)] at this; exact this) | (rw [if_neg (by omega)] at this; exact this)
theorem t_settles1 (X : AX) (w : Int) (hw : 0 ≤ w ∧ w ≤ 3) (np nt : Nat) (L : Nat → Nat) (σ : AH) {b : Nat} (hb : σ 295 13 = (b : Int)) (hb2 : b < 2) (hnp : σ 307 b = (np : Int)) (hnp2 : np ≤ 10) (hnt : σ 300 b = (nt : Int)) (hnt2 : nt ≤ 6) (hL : ∀ t, t < nt → σ 304 (6 * b + t) = (L t : Int) ∧ 2 ≤ L t ∧ L t ≤ 8)  : TT X 87 (0, [(2, 295), (0, w), (9, 0), (9, 0), (9, 0), (9, 0), (9, 0), (9, 0), (9, 0)], [], σ) (fun r σ' => r = some (0, if w = 0 then (if (seF b np nt L 30 (0, -1, 0, 0, 0, (cpN σ 1 0 10))).2.2.2.2.1 = 0 then 31 else (((seF b np nt L 30 (0, -1, 0, 0, 0, (cpN σ 1 0 10))).1 : Nat) : Int)) else if w = 1 then (seF b np nt L 30 (0, -1, 0, 0, 0, (cpN σ 1 0 10))).2.2.2.1 else if w = 2 then (sumA (fun p => if (seF b np nt L 30 (0, -1, 0, 0, 0, (cpN σ 1 0 10))).2.2.2.2.2 320 (10 + p) = (seF b np nt L 30 (0, -1, 0, 0, 0, (cpN σ 1 0 10))).2.2.2.2.2 320 p then 0 else 1) np) else (seF b np nt L 30 (0, -1, 0, 0, 0, (cpN σ 1 0 10))).2.2.1) ∧ σ' = (seF b np nt L 30 (0, -1, 0, 0, 0, (cpN σ 1 0 10))).2.2.2.2.2) := by
  refine TT.steps (cd := cd87) 3 (c' := (3, [(2, 295), (0, w), (9, 0), (9, 0), (9, 0), (9, 0), (9, 0), (9, 0), (9, 0)], [(0, 3), (0, 0), (0, w)], σ)) rfl rfl ?_
  refine TT.call (cd := cd87) rfl rfl rfl (by decide) rfl (t_is X w 0 3 σ) (fun r1 σ1 hq => ?_)
  rw [hq.1, hq.2]
  refine TT.steps (cd := cd87) 1 (c' := ((if decide (¬ ((if 0 ≤ w ∧ w ≤ 3 then 1 else 0) : Int) = 0) = true then 7 else 5), [(2, 295), (0, w), (9, 0), (9, 0), (9, 0), (9, 0), (9, 0), (9, 0), (9, 0)], [], σ)) rfl rfl ?_
  refine TT.br (p := ¬ ((if 0 ≤ w ∧ w ≤ 3 then 1 else 0) : Int) = 0) (fun h2 => ?_) (fun h2 => absurd (show ¬ ((if 0 ≤ w ∧ w ≤ 3 then 1 else 0) : Int) = 0 by (rw [if_pos (by first | assumption | omega)]; decide)) h2)
  refine TT.steps (cd := cd87) 3 (c' := (10, [(2, 295), (0, w), (9, 0), (9, 0), (9, 0), (9, 0), (9, 0), (9, 0), (9, 0)], [(0, 0), (0, 1), (2, 295)], σ)) rfl rfl ?_
  refine TT.call (cd := cd87) rfl rfl rfl (by decide) rfl (t_copies X 1 0 (by omega) (by omega) σ) (fun r3 σ3 hq => ?_)
  rw [hq.1, hq.2]
  refine TT.steps (cd := cd87) 10 (c' := (21, [(2, 295), (0, w), (0, 0), (0, -1), (0, 0), (0, 0), (0, 0), (9, 0), (9, 0)], [], (cpN σ 1 0 10))) rfl rfl ?_
  refine l_settles X _ w np nt L (cpN σ 1 0 10) ((cpN_fr _ _ _ _ 295 (13) (by decide)).trans hb) hb2 ((cpN_fr _ _ _ _ 307 (b) (by decide)).trans hnp) hnp2 ((cpN_fr _ _ _ _ 300 (b) (by decide)).trans hnt) hnt2 (fun t ht => ⟨(show ∀ j, (cpN σ 1 0 10) 304 j = σ 304 j from fun j => (cpN_fr _ _ _ _ 304 (j) (by decide))) _ |>.trans (hL t ht).1, (hL t ht).2⟩) (9, 0) (9, 0) 30 0 (-1) 0 0 0 (cpN σ 1 0 10) (by omega) (fun _ _ _ => rfl) (fun _ _ => rfl) ?_
  refine TT.steps (cd := cd87) 4 (c' := (49, [(2, 295), (0, w), (0, (((seF b np nt L 30 (0, -1, 0, 0, 0, (cpN σ 1 0 10))).1 : Nat) : Int)), (0, (seF b np nt L 30 (0, -1, 0, 0, 0, (cpN σ 1 0 10))).2.1), (0, (seF b np nt L 30 (0, -1, 0, 0, 0, (cpN σ 1 0 10))).2.2.1), (0, (seF b np nt L 30 (0, -1, 0, 0, 0, (cpN σ 1 0 10))).2.2.2.1), (0, (seF b np nt L 30 (0, -1, 0, 0, 0, (cpN σ 1 0 10))).2.2.2.2.1), (0, 0), (0, 0)], [], ((seF b np nt L 30 (0, -1, 0, 0, 0, (cpN σ 1 0 10))).2.2.2.2.2))) rfl rfl ?_
  refine l_settles2 X _ w _ _ _ _ _ np ((seF b np nt L 30 (0, -1, 0, 0, 0, (cpN σ 1 0 10))).2.2.2.2.2) (((show ((seF b np nt L 30 (0, -1, 0, 0, 0, (cpN σ 1 0 10))).2.2.2.2.2) 295 (13) = (cpN σ 1 0 10) 295 (13) from seF_M _ _ _ _ (13) (by decide) _ _).trans (cpN_fr _ _ _ _ 295 (13) (by decide))).trans hb) hb2 (((show ((seF b np nt L 30 (0, -1, 0, 0, 0, (cpN σ 1 0 10))).2.2.2.2.2) 307 (b) = (cpN σ 1 0 10) 307 (b) from seF_fr _ _ _ _ 307 (b) (by decide) _ _).trans (cpN_fr _ _ _ _ 307 (b) (by decide))).trans hnp) hnp2 (fun x => ?_) np 0 (by omega)
  refine TT.steps (cd := cd87) 2 (c' := ((if decide (¬ w = 0) = true then 83 else 77), [(2, 295), (0, w), (0, (((seF b np nt L 30 (0, -1, 0, 0, 0, (cpN σ 1 0 10))).1 : Nat) : Int)), (0, (seF b np nt L 30 (0, -1, 0, 0, 0, (cpN σ 1 0 10))).2.1), (0, (seF b np nt L 30 (0, -1, 0, 0, 0, (cpN σ 1 0 10))).2.2.1), (0, (seF b np nt L 30 (0, -1, 0, 0, 0, (cpN σ 1 0 10))).2.2.2.1), (0, (seF b np nt L 30 (0, -1, 0, 0, 0, (cpN σ 1 0 10))).2.2.2.2.1), (0, (sumA (fun p => if (seF b np nt L 30 (0, -1, 0, 0, 0, (cpN σ 1 0 10))).2.2.2.2.2 320 (10 + p) = (seF b np nt L 30 (0, -1, 0, 0, 0, (cpN σ 1 0 10))).2.2.2.2.2 320 p then 0 else 1) np)), x], [], ((seF b np nt L 30 (0, -1, 0, 0, 0, (cpN σ 1 0 10))).2.2.2.2.2))) rfl rfl ?_
  refine TT.br (p := ¬ w = 0) (fun h4 => ?_) (fun h4 => ?_)
  · refine TT.steps (cd := cd87) 3 (c' := ((if decide (¬ w = 1) = true then 88 else 86), [(2, 295), (0, w), (0, (((seF b np nt L 30 (0, -1, 0, 0, 0, (cpN σ 1 0 10))).1 : Nat) : Int)), (0, (seF b np nt L 30 (0, -1, 0, 0, 0, (cpN σ 1 0 10))).2.1), (0, (seF b np nt L 30 (0, -1, 0, 0, 0, (cpN σ 1 0 10))).2.2.1), (0, (seF b np nt L 30 (0, -1, 0, 0, 0, (cpN σ 1 0 10))).2.2.2.1), (0, (seF b np nt L 30 (0, -1, 0, 0, 0, (cpN σ 1 0 10))).2.2.2.2.1), (0, (sumA (fun p => if (seF b np nt L 30 (0, -1, 0, 0, 0, (cpN σ 1 0 10))).2.2.2.2.2 320 (10 + p) = (seF b np nt L 30 (0, -1, 0, 0, 0, (cpN σ 1 0 10))).2.2.2.2.2 320 p then 0 else 1) np)), x], [], ((seF b np nt L 30 (0, -1, 0, 0, 0, (cpN σ 1 0 10))).2.2.2.2.2))) rfl rfl ?_
    refine TT.br (p := ¬ w = 1) (fun h5 => ?_) (fun h5 => ?_)
    · refine TT.steps (cd := cd87) 3 (c' := ((if decide (¬ w = 2) = true then 93 else 91), [(2, 295), (0, w), (0, (((seF b np nt L 30 (0, -1, 0, 0, 0, (cpN σ 1 0 10))).1 : Nat) : Int)), (0, (seF b np nt L 30 (0, -1, 0, 0, 0, (cpN σ 1 0 10))).2.1), (0, (seF b np nt L 30 (0, -1, 0, 0, 0, (cpN σ 1 0 10))).2.2.1), (0, (seF b np nt L 30 (0, -1, 0, 0, 0, (cpN σ 1 0 10))).2.2.2.1), (0, (seF b np nt L 30 (0, -1, 0, 0, 0, (cpN σ 1 0 10))).2.2.2.2.1), (0, (sumA (fun p => if (seF b np nt L 30 (0, -1, 0, 0, 0, (cpN σ 1 0 10))).2.2.2.2.2 320 (10 + p) = (seF b np nt L 30 (0, -1, 0, 0, 0, (cpN σ 1 0 10))).2.2.2.2.2 320 p then 0 else 1) np)), x], [], ((seF b np nt L 30 (0, -1, 0, 0, 0, (cpN σ 1 0 10))).2.2.2.2.2))) rfl rfl ?_
      refine TT.br (p := ¬ w = 2) (fun h6 => ?_) (fun h6 => ?_)
      · refine TT.steps (cd := cd87) 1 (c' := (94, [(2, 295), (0, w), (0, (((seF b np nt L 30 (0, -1, 0, 0, 0, (cpN σ 1 0 10))).1 : Nat) : Int)), (0, (seF b np nt L 30 (0, -1, 0, 0, 0, (cpN σ 1 0 10))).2.1), (0, (seF b np nt L 30 (0, -1, 0, 0, 0, (cpN σ 1 0 10))).2.2.1), (0, (seF b np nt L 30 (0, -1, 0, 0, 0, (cpN σ 1 0 10))).2.2.2.1), (0, (seF b np nt L 30 (0, -1, 0, 0, 0, (cpN σ 1 0 10))).2.2.2.2.1), (0, (sumA (fun p => if (seF b np nt L 30 (0, -1, 0, 0, 0, (cpN σ 1 0 10))).2.2.2.2.2 320 (10 + p) = (seF b np nt L 30 (0, -1, 0, 0, 0, (cpN σ 1 0 10))).2.2.2.2.2 320 p then 0 else 1) np)), x], [(0, (seF b np nt L 30 (0, -1, 0, 0, 0, (cpN σ 1 0 10))).2.2.1)], ((seF b np nt L 30 (0, -1, 0, 0, 0, (cpN σ 1 0 10))).2.2.2.2.2))) rfl rfl ?_
        exact TT.ret (cd := cd87) rfl rfl rfl rfl (⟨by first | (rw [if_pos (by omega)]; done) | (rw [if_neg (by omega)]; done) | (rw [if_pos (by omega), if_pos (by omega)]; done) | (rw [if_pos (by omega), if_neg (by omega)]; done) | (rw [if_neg (by omega), if_pos (by omega)]; done) | (rw [if_neg (by omega), if_neg (by omega)]; done) | (rw [if_pos (by omega), if_pos (by omega), if_pos (by omega)]; done) | (rw [if_pos (by omega), if_pos (by omega), if_neg (by omega)]; done) | (rw [if_pos (by omega), if_neg (by omega), if_pos (by omega)]; done) | (rw [if_pos (by omega), if_neg (by omega), if_neg (by omega)]; done) | (rw [if_neg (by omega), if_pos (by omega), if_pos (by omega)]; done) | (rw [if_neg (by omega), if_pos (by omega), if_neg (by omega)]; done) | (rw [if_neg (by omega), if_neg (by omega), if_pos (by omega)]; done) | (rw [if_neg (by omega), if_neg (by omega), if_neg (by omega)]; done), rfl⟩)
      · refine TT.steps (cd := cd87) 2 (c' := (94, [(2, 295), (0, w), (0, (((seF b np nt L 30 (0, -1, 0, 0, 0, (cpN σ 1 0 10))).1 : Nat) : Int)), (0, (seF b np nt L 30 (0, -1, 0, 0, 0, (cpN σ 1 0 10))).2.1), (0, (seF b np nt L 30 (0, -1, 0, 0, 0, (cpN σ 1 0 10))).2.2.1), (0, (seF b np nt L 30 (0, -1, 0, 0, 0, (cpN σ 1 0 10))).2.2.2.1), (0, (seF b np nt L 30 (0, -1, 0, 0, 0, (cpN σ 1 0 10))).2.2.2.2.1), (0, (sumA (fun p => if (seF b np nt L 30 (0, -1, 0, 0, 0, (cpN σ 1 0 10))).2.2.2.2.2 320 (10 + p) = (seF b np nt L 30 (0, -1, 0, 0, 0, (cpN σ 1 0 10))).2.2.2.2.2 320 p then 0 else 1) np)), x], [(0, (sumA (fun p => if (seF b np nt L 30 (0, -1, 0, 0, 0, (cpN σ 1 0 10))).2.2.2.2.2 320 (10 + p) = (seF b np nt L 30 (0, -1, 0, 0, 0, (cpN σ 1 0 10))).2.2.2.2.2 320 p then 0 else 1) np))], ((seF b np nt L 30 (0, -1, 0, 0, 0, (cpN σ 1 0 10))).2.2.2.2.2))) rfl rfl ?_
        exact TT.ret (cd := cd87) rfl rfl rfl rfl (⟨by first | (rw [if_pos (by omega)]; done) | (rw [if_neg (by omega)]; done) | (rw [if_pos (by omega), if_pos (by omega)]; done) | (rw [if_pos (by omega), if_neg (by omega)]; done) | (rw [if_neg (by omega), if_pos (by omega)]; done) | (rw [if_neg (by omega), if_neg (by omega)]; done) | (rw [if_pos (by omega), if_pos (by omega), if_pos (by omega)]; done) | (rw [if_pos (by omega), if_pos (by omega), if_neg (by omega)]; done) | (rw [if_pos (by omega), if_neg (by omega), if_pos (by omega)]; done) | (rw [if_pos (by omega), if_neg (by omega), if_neg (by omega)]; done) | (rw [if_neg (by omega), if_pos (by omega), if_pos (by omega)]; done) | (rw [if_neg (by omega), if_pos (by omega), if_neg (by omega)]; done) | (rw [if_neg (by omega), if_neg (by omega), if_pos (by omega)]; done) | (rw [if_neg (by omega), if_neg (by omega), if_neg (by omega)]; done), rfl⟩)
    · refine TT.steps (cd := cd87) 2 (c' := (94, [(2, 295), (0, w), (0, (((seF b np nt L 30 (0, -1, 0, 0, 0, (cpN σ 1 0 10))).1 : Nat) : Int)), (0, (seF b np nt L 30 (0, -1, 0, 0, 0, (cpN σ 1 0 10))).2.1), (0, (seF b np nt L 30 (0, -1, 0, 0, 0, (cpN σ 1 0 10))).2.2.1), (0, (seF b np nt L 30 (0, -1, 0, 0, 0, (cpN σ 1 0 10))).2.2.2.1), (0, (seF b np nt L 30 (0, -1, 0, 0, 0, (cpN σ 1 0 10))).2.2.2.2.1), (0, (sumA (fun p => if (seF b np nt L 30 (0, -1, 0, 0, 0, (cpN σ 1 0 10))).2.2.2.2.2 320 (10 + p) = (seF b np nt L 30 (0, -1, 0, 0, 0, (cpN σ 1 0 10))).2.2.2.2.2 320 p then 0 else 1) np)), x], [(0, (seF b np nt L 30 (0, -1, 0, 0, 0, (cpN σ 1 0 10))).2.2.2.1)], ((seF b np nt L 30 (0, -1, 0, 0, 0, (cpN σ 1 0 10))).2.2.2.2.2))) rfl rfl ?_
      exact TT.ret (cd := cd87) rfl rfl rfl rfl (⟨by first | (rw [if_pos (by omega)]; done) | (rw [if_neg (by omega)]; done) | (rw [if_pos (by omega), if_pos (by omega)]; done) | (rw [if_pos (by omega), if_neg (by omega)]; done) | (rw [if_neg (by omega), if_pos (by omega)]; done) | (rw [if_neg (by omega), if_neg (by omega)]; done) | (rw [if_pos (by omega), if_pos (by omega), if_pos (by omega)]; done) | (rw [if_pos (by omega), if_pos (by omega), if_neg (by omega)]; done) | (rw [if_pos (by omega), if_neg (by omega), if_pos (by omega)]; done) | (rw [if_pos (by omega), if_neg (by omega), if_neg (by omega)]; done) | (rw [if_neg (by omega), if_pos (by omega), if_pos (by omega)]; done) | (rw [if_neg (by omega), if_pos (by omega), if_neg (by omega)]; done) | (rw [if_neg (by omega), if_neg (by omega), if_pos (by omega)]; done) | (rw [if_neg (by omega), if_neg (by omega), if_neg (by omega)]; done), rfl⟩)
  · refine TT.steps (cd := cd87) 2 (c' := ((if decide ((seF b np nt L 30 (0, -1, 0, 0, 0, (cpN σ 1 0 10))).2.2.2.2.1 = 0) = true then 81 else 79), [(2, 295), (0, w), (0, (((seF b np nt L 30 (0, -1, 0, 0, 0, (cpN σ 1 0 10))).1 : Nat) : Int)), (0, (seF b np nt L 30 (0, -1, 0, 0, 0, (cpN σ 1 0 10))).2.1), (0, (seF b np nt L 30 (0, -1, 0, 0, 0, (cpN σ 1 0 10))).2.2.1), (0, (seF b np nt L 30 (0, -1, 0, 0, 0, (cpN σ 1 0 10))).2.2.2.1), (0, (seF b np nt L 30 (0, -1, 0, 0, 0, (cpN σ 1 0 10))).2.2.2.2.1), (0, (sumA (fun p => if (seF b np nt L 30 (0, -1, 0, 0, 0, (cpN σ 1 0 10))).2.2.2.2.2 320 (10 + p) = (seF b np nt L 30 (0, -1, 0, 0, 0, (cpN σ 1 0 10))).2.2.2.2.2 320 p then 0 else 1) np)), x], [], ((seF b np nt L 30 (0, -1, 0, 0, 0, (cpN σ 1 0 10))).2.2.2.2.2))) rfl rfl ?_
    refine TT.br (p := (seF b np nt L 30 (0, -1, 0, 0, 0, (cpN σ 1 0 10))).2.2.2.2.1 = 0) (fun h7 => ?_) (fun h7 => ?_)
    · refine TT.steps (cd := cd87) 2 (c' := (94, [(2, 295), (0, w), (0, (((seF b np nt L 30 (0, -1, 0, 0, 0, (cpN σ 1 0 10))).1 : Nat) : Int)), (0, (seF b np nt L 30 (0, -1, 0, 0, 0, (cpN σ 1 0 10))).2.1), (0, (seF b np nt L 30 (0, -1, 0, 0, 0, (cpN σ 1 0 10))).2.2.1), (0, (seF b np nt L 30 (0, -1, 0, 0, 0, (cpN σ 1 0 10))).2.2.2.1), (0, (seF b np nt L 30 (0, -1, 0, 0, 0, (cpN σ 1 0 10))).2.2.2.2.1), (0, (sumA (fun p => if (seF b np nt L 30 (0, -1, 0, 0, 0, (cpN σ 1 0 10))).2.2.2.2.2 320 (10 + p) = (seF b np nt L 30 (0, -1, 0, 0, 0, (cpN σ 1 0 10))).2.2.2.2.2 320 p then 0 else 1) np)), x], [(0, 31)], ((seF b np nt L 30 (0, -1, 0, 0, 0, (cpN σ 1 0 10))).2.2.2.2.2))) rfl rfl ?_
      exact TT.ret (cd := cd87) rfl rfl rfl rfl (⟨by first | (rw [if_pos (by omega)]; done) | (rw [if_neg (by omega)]; done) | (rw [if_pos (by omega), if_pos (by omega)]; done) | (rw [if_pos (by omega), if_neg (by omega)]; done) | (rw [if_neg (by omega), if_pos (by omega)]; done) | (rw [if_neg (by omega), if_neg (by omega)]; done) | (rw [if_pos (by omega), if_pos (by omega), if_pos (by omega)]; done) | (rw [if_pos (by omega), if_pos (by omega), if_neg (by omega)]; done) | (rw [if_pos (by omega), if_neg (by omega), if_pos (by omega)]; done) | (rw [if_pos (by omega), if_neg (by omega), if_neg (by omega)]; done) | (rw [if_neg (by omega), if_pos (by omega), if_pos (by omega)]; done) | (rw [if_neg (by omega), if_pos (by omega), if_neg (by omega)]; done) | (rw [if_neg (by omega), if_neg (by omega), if_pos (by omega)]; done) | (rw [if_neg (by omega), if_neg (by omega), if_neg (by omega)]; done), rfl⟩)
    · refine TT.steps (cd := cd87) 2 (c' := (94, [(2, 295), (0, w), (0, (((seF b np nt L 30 (0, -1, 0, 0, 0, (cpN σ 1 0 10))).1 : Nat) : Int)), (0, (seF b np nt L 30 (0, -1, 0, 0, 0, (cpN σ 1 0 10))).2.1), (0, (seF b np nt L 30 (0, -1, 0, 0, 0, (cpN σ 1 0 10))).2.2.1), (0, (seF b np nt L 30 (0, -1, 0, 0, 0, (cpN σ 1 0 10))).2.2.2.1), (0, (seF b np nt L 30 (0, -1, 0, 0, 0, (cpN σ 1 0 10))).2.2.2.2.1), (0, (sumA (fun p => if (seF b np nt L 30 (0, -1, 0, 0, 0, (cpN σ 1 0 10))).2.2.2.2.2 320 (10 + p) = (seF b np nt L 30 (0, -1, 0, 0, 0, (cpN σ 1 0 10))).2.2.2.2.2 320 p then 0 else 1) np)), x], [(0, (((seF b np nt L 30 (0, -1, 0, 0, 0, (cpN σ 1 0 10))).1 : Nat) : Int))], ((seF b np nt L 30 (0, -1, 0, 0, 0, (cpN σ 1 0 10))).2.2.2.2.2))) rfl rfl ?_
      exact TT.ret (cd := cd87) rfl rfl rfl rfl (⟨by first | (rw [if_pos (by omega)]; done) | (rw [if_neg (by omega)]; done) | (rw [if_pos (by omega), if_pos (by omega)]; done) | (rw [if_pos (by omega), if_neg (by omega)]; done) | (rw [if_neg (by omega), if_pos (by omega)]; done) | (rw [if_neg (by omega), if_neg (by omega)]; done) | (rw [if_pos (by omega), if_pos (by omega), if_pos (by omega)]; done) | (rw [if_pos (by omega), if_pos (by omega), if_neg (by omega)]; done) | (rw [if_pos (by omega), if_neg (by omega), if_pos (by omega)]; done) | (rw [if_pos (by omega), if_neg (by omega), if_neg (by omega)]; done) | (rw [if_neg (by omega), if_pos (by omega), if_pos (by omega)]; done) | (rw [if_neg (by omega), if_pos (by omega), if_neg (by omega)]; done) | (rw [if_neg (by omega), if_neg (by omega), if_pos (by omega)]; done) | (rw [if_neg (by omega), if_neg (by omega), if_neg (by omega)]; done), rfl⟩)
theorem t_settles0 (X : AX) (w : Int) (np nt : Nat) (L : Nat → Nat) (σ : AH) {b : Nat} (hb : σ 295 13 = (b : Int)) (hb2 : b < 2) (hnp : σ 307 b = (np : Int)) (hnp2 : np ≤ 10) (hnt : σ 300 b = (nt : Int)) (hnt2 : nt ≤ 6) (hL : ∀ t, t < nt → σ 304 (6 * b + t) = (L t : Int) ∧ 2 ≤ L t ∧ L t ≤ 8) (hw : ¬ (0 ≤ w ∧ w ≤ 3))  : TT X 87 (0, [(2, 295), (0, w), (9, 0), (9, 0), (9, 0), (9, 0), (9, 0), (9, 0), (9, 0)], [], σ) (fun r σ' => r = some (0, -1) ∧ σ' = σ) := by
  refine TT.steps (cd := cd87) 3 (c' := (3, [(2, 295), (0, w), (9, 0), (9, 0), (9, 0), (9, 0), (9, 0), (9, 0), (9, 0)], [(0, 3), (0, 0), (0, w)], σ)) rfl rfl ?_
  refine TT.call (cd := cd87) rfl rfl rfl (by decide) rfl (t_is X w 0 3 σ) (fun r1 σ1 hq => ?_)
  rw [hq.1, hq.2]
  refine TT.steps (cd := cd87) 1 (c' := ((if decide (¬ ((if 0 ≤ w ∧ w ≤ 3 then 1 else 0) : Int) = 0) = true then 7 else 5), [(2, 295), (0, w), (9, 0), (9, 0), (9, 0), (9, 0), (9, 0), (9, 0), (9, 0)], [], σ)) rfl rfl ?_
  refine TT.br (p := ¬ ((if 0 ≤ w ∧ w ≤ 3 then 1 else 0) : Int) = 0) (fun h2 => ?_) (fun h2 => ?_)
  · replace h2 := ite_t h2
    exfalso
    omega
  · replace h2 := ite_f (Decidable.not_not.mp h2)
    refine TT.steps (cd := cd87) 1 (c' := (6, [(2, 295), (0, w), (9, 0), (9, 0), (9, 0), (9, 0), (9, 0), (9, 0), (9, 0)], [(0, -1)], σ)) rfl rfl ?_
    exact TT.ret (cd := cd87) rfl rfl rfl rfl (⟨rfl, rfl⟩)
