/-! Words and numbers of the class. -/
theorem ul_word (X : AX) (Q : Option AV → AH → Prop) (s : Nat) (f : Nat → Int) (N : Nat) (σ : AH) (hN : N ≤ 1600) (ht : σ 1 1 = (N : Int)) (hf : ∀ j, j < N → σ 2 j = f j) (kk : ∀ n, s + n ≤ N → (∀ i, i < n → mLet (f (s + i))) → (s + n < N → ¬ mLet (f (s + n))) → TT X 175 (38, [(2, 4), (2, 1), (0, ((s : Nat) : Int)), (0, ((s + n : Nat) : Int)), (0, (((e5 (lgF f s) (min n 6)) : Nat) : Int)), (9, 0)], [], σ) Q)  : ∀ (d n : Nat), n + d = N - s → (s ≤ N ∧ ∀ i, i < n → mLet (f (s + i))) → TT X 175 (4, [(2, 4), (2, 1), (0, ((s : Nat) : Int)), (0, ((s + n : Nat) : Int)), (0, (((e5 (lgF f s) (min n 6)) : Nat) : Int)), (9, 0)], [], σ) Q := by
  intro d
  induction d with
  | zero =>
    intro n hn hI
    refine TT.steps (cd := cd175) 3 (c' := (7, [(2, 4), (2, 1), (0, ((s : Nat) : Int)), (0, ((s + n : Nat) : Int)), (0, (((e5 (lgF f s) (min n 6)) : Nat) : Int)), (9, 0)], [(0, (σ 1 1)), (0, ((s + n : Nat) : Int))], σ)) rfl rfl ?_
    refine TT.top0 (z := ((N : Nat) : Int)) ht ?_
    refine TT.steps (cd := cd175) 1 (c' := ((if decide (((N : Nat) : Int) ≤ ((s + n : Nat) : Int)) = true then 38 else 8), [(2, 4), (2, 1), (0, ((s : Nat) : Int)), (0, ((s + n : Nat) : Int)), (0, (((e5 (lgF f s) (min n 6)) : Nat) : Int)), (9, 0)], [], σ)) rfl rfl ?_
    refine TT.br (p := ((N : Nat) : Int) ≤ ((s + n : Nat) : Int)) (fun h1 => ?_) (fun h1 => absurd (show ((N : Nat) : Int) ≤ ((s + n : Nat) : Int) by omega) h1)
    exact kk n (by omega) hI.2 (fun h0 => by first | omega | assumption)
  | succ d ih =>
    intro n hn hI
    refine TT.steps (cd := cd175) 3 (c' := (7, [(2, 4), (2, 1), (0, ((s : Nat) : Int)), (0, ((s + n : Nat) : Int)), (0, (((e5 (lgF f s) (min n 6)) : Nat) : Int)), (9, 0)], [(0, (σ 1 1)), (0, ((s + n : Nat) : Int))], σ)) rfl rfl ?_
    refine TT.top0 (z := ((N : Nat) : Int)) ht ?_
    refine TT.steps (cd := cd175) 1 (c' := ((if decide (((N : Nat) : Int) ≤ ((s + n : Nat) : Int)) = true then 38 else 8), [(2, 4), (2, 1), (0, ((s : Nat) : Int)), (0, ((s + n : Nat) : Int)), (0, (((e5 (lgF f s) (min n 6)) : Nat) : Int)), (9, 0)], [], σ)) rfl rfl ?_
    refine TT.br (p := ((N : Nat) : Int) ≤ ((s + n : Nat) : Int)) (fun h1 => absurd h1 (show ¬ (((N : Nat) : Int) ≤ ((s + n : Nat) : Int)) by omega)) (fun h1 => ?_)
    refine TT.steps (cd := cd175) 3 (c' := (11, [(2, 4), (2, 1), (0, ((s : Nat) : Int)), (0, ((s + n : Nat) : Int)), (0, (((e5 (lgF f s) (min n 6)) : Nat) : Int)), (9, 0)], [(0, ((s + n : Nat) : Int)), (2, 2)], σ)) rfl rfl ?_
    refine TT.aldN (cd := cd175) (2) (s + n) rfl rfl rfl rfl (show s + n < 1600 by omega) ?_
    refine TT.top0 (z := (f (s + n))) (hf _ (by omega)) ?_
    refine TT.call (cd := cd175) rfl rfl rfl (by decide) rfl (u_isLetter X (f (s + n)) σ) (fun r2 σ2 hq => ?_)
    rw [hq.1, hq.2]
    refine TT.steps (cd := cd175) 1 (c' := ((if decide (((if mLet (f (s + n)) then 1 else 0) : Int) = 0) = true then 38 else 14), [(2, 4), (2, 1), (0, ((s : Nat) : Int)), (0, ((s + n : Nat) : Int)), (0, (((e5 (lgF f s) (min n 6)) : Nat) : Int)), (9, 0)], [], σ)) rfl rfl ?_
    refine TT.br (p := ((if mLet (f (s + n)) then 1 else 0) : Int) = 0) (fun h3 => ?_) (fun h3 => ?_)
    · replace h3 := ite_f h3
      exact kk n (by omega) hI.2 (fun h0 => by first | omega | assumption)
    · replace h3 := ite_t h3
      refine TT.steps (cd := cd175) 3 (c' := (17, [(2, 4), (2, 1), (0, ((s : Nat) : Int)), (0, ((s + n : Nat) : Int)), (0, (((e5 (lgF f s) (min n 6)) : Nat) : Int)), (9, 0)], [(0, (aSub ((s + n : Nat) : Int) ((s : Nat) : Int)))], σ)) rfl rfl ?_
      refine TT.top0 (z := ((n : Nat) : Int)) ((aSub_n (a := s + n) (b := s) (by omega) (by omega)).trans (by rw [Nat.add_sub_cancel_left])) ?_
      refine TT.steps (cd := cd175) 2 (c' := ((if decide (6 ≤ ((n : Nat) : Int)) = true then 36 else 19), [(2, 4), (2, 1), (0, ((s : Nat) : Int)), (0, ((s + n : Nat) : Int)), (0, (((e5 (lgF f s) (min n 6)) : Nat) : Int)), (9, 0)], [], σ)) rfl rfl ?_
      refine TT.br (p := 6 ≤ ((n : Nat) : Int)) (fun h4 => ?_) (fun h4 => ?_)
      · refine TT.inc (cd := cd175) (((s + n) + 1 : Nat) : Int) rfl rfl rfl rfl (fun h => absurd h.2 (show ¬ (0 = 1) by decide)) (aAdd_n (a := s + n) (b := 1) (by omega)) (ls' := [(2, 4), (2, 1), (0, ((s : Nat) : Int)), (0, (((s + n) + 1 : Nat) : Int)), (0, (((e5 (lgF f s) (min n 6)) : Nat) : Int)), (9, 0)]) rfl ?_
        refine TT.steps (cd := cd175) 1 (c' := (4, [(2, 4), (2, 1), (0, ((s : Nat) : Int)), (0, (((s + n) + 1 : Nat) : Int)), (0, (((e5 (lgF f s) (min n 6)) : Nat) : Int)), (9, 0)], [], σ)) rfl rfl ?_
        have e3 : (((s + n) + 1 : Nat) : Int) = ((s + (n + 1) : Nat) : Int) := by omega
        rw [e3]
        clear e3
        have e4 : (((e5 (lgF f s) (min n 6)) : Nat) : Int) = (((e5 (lgF f s) (min (n + 1) 6)) : Nat) : Int) := by first | (rw [Nat.min_eq_left (by omega), Nat.min_eq_left (by omega)]; exact nm_s (by omega) (lgb hI.2) (by assumption) rfl) | (rw [Nat.min_eq_right (by omega), Nat.min_eq_right (by omega)])
        rw [e4]
        clear e4
        exact ih (n + 1) (by omega) (⟨hI.1, fun i hi => by by_cases e : i = n; (subst e; assumption); exact hI.2 i (by omega)⟩)
      · refine TT.steps (cd := cd175) 4 (c' := (23, [(2, 4), (2, 1), (0, ((s : Nat) : Int)), (0, ((s + n : Nat) : Int)), (0, (((e5 (lgF f s) (min n 6)) : Nat) : Int)), (9, 0)], [(0, ((s + n : Nat) : Int)), (2, 2), (0, (((e5 (lgF f s) (min n 6)) : Nat) : Int))], σ)) rfl rfl ?_
        refine TT.aldN (cd := cd175) (2) (s + n) rfl rfl rfl rfl (show s + n < 1600 by omega) ?_
        refine TT.top0 (z := (f (s + n))) (hf _ (by omega)) ?_
        refine TT.steps (cd := cd175) 2 (c' := (26, [(2, 4), (2, 1), (0, ((s : Nat) : Int)), (0, ((s + n : Nat) : Int)), (0, (((e5 (lgF f s) (min n 6)) : Nat) : Int)), (9, 0)], [(0, (aSub (f (s + n)) 97)), (0, (((e5 (lgF f s) (min n 6)) : Nat) : Int))], σ)) rfl rfl ?_
        refine TT.top0 (z := (aSub (f (s + n)) 97)) rfl ?_
        refine TT.steps (cd := cd175) 2 (c' := (28, [(2, 4), (2, 1), (0, ((s : Nat) : Int)), (0, ((s + n : Nat) : Int)), (0, (((e5 (lgF f s) (min n 6)) : Nat) : Int)), (9, 0)], [(0, (aAdd (aSub (f (s + n)) 97) 1)), (0, (((e5 (lgF f s) (min n 6)) : Nat) : Int))], σ)) rfl rfl ?_
        refine TT.top0 (z := (aAdd (aSub (f (s + n)) 97) 1)) rfl ?_
        refine TT.steps (cd := cd175) 4 (c' := (32, [(2, 4), (2, 1), (0, ((s : Nat) : Int)), (0, ((s + n : Nat) : Int)), (0, (((e5 (lgF f s) (min n 6)) : Nat) : Int)), (9, 0)], [(0, (aSub ((s + n : Nat) : Int) ((s : Nat) : Int))), (0, 5), (0, (aAdd (aSub (f (s + n)) 97) 1)), (0, (((e5 (lgF f s) (min n 6)) : Nat) : Int))], σ)) rfl rfl ?_
        refine TT.top0 (z := ((n : Nat) : Int)) ((aSub_n (a := s + n) (b := s) (by omega) (by omega)).trans (by rw [Nat.add_sub_cancel_left])) ?_
        refine TT.steps (cd := cd175) 1 (c' := (33, [(2, 4), (2, 1), (0, ((s : Nat) : Int)), (0, ((s + n : Nat) : Int)), (0, (((e5 (lgF f s) (min n 6)) : Nat) : Int)), (9, 0)], [(0, (aMul 5 ((n : Nat) : Int))), (0, (aAdd (aSub (f (s + n)) 97) 1)), (0, (((e5 (lgF f s) (min n 6)) : Nat) : Int))], σ)) rfl rfl ?_
        refine TT.top0 (z := ((5 * n : Nat) : Int)) (aMul_n (a := 5) (b := n) (by omega)) ?_
        refine TT.steps (cd := cd175) 3 (c' := (36, [(2, 4), (2, 1), (0, ((s : Nat) : Int)), (0, ((s + n : Nat) : Int)), (0, (aOr (((e5 (lgF f s) (min n 6)) : Nat) : Int) (aShl (aAdd (aSub (f (s + n)) 97) 1) ((5 * n : Nat) : Int)))), (9, 0)], [], σ)) rfl rfl ?_
        refine TT.inc (cd := cd175) (((s + n) + 1 : Nat) : Int) rfl rfl rfl rfl (fun h => absurd h.2 (show ¬ (0 = 1) by decide)) (aAdd_n (a := s + n) (b := 1) (by omega)) (ls' := [(2, 4), (2, 1), (0, ((s : Nat) : Int)), (0, (((s + n) + 1 : Nat) : Int)), (0, (aOr (((e5 (lgF f s) (min n 6)) : Nat) : Int) (aShl (aAdd (aSub (f (s + n)) 97) 1) ((5 * n : Nat) : Int)))), (9, 0)]) rfl ?_
        refine TT.steps (cd := cd175) 1 (c' := (4, [(2, 4), (2, 1), (0, ((s : Nat) : Int)), (0, (((s + n) + 1 : Nat) : Int)), (0, (aOr (((e5 (lgF f s) (min n 6)) : Nat) : Int) (aShl (aAdd (aSub (f (s + n)) 97) 1) ((5 * n : Nat) : Int)))), (9, 0)], [], σ)) rfl rfl ?_
        have e3 : (((s + n) + 1 : Nat) : Int) = ((s + (n + 1) : Nat) : Int) := by omega
        rw [e3]
        clear e3
        have e4 : (aOr (((e5 (lgF f s) (min n 6)) : Nat) : Int) (aShl (aAdd (aSub (f (s + n)) 97) 1) ((5 * n : Nat) : Int))) = (((e5 (lgF f s) (min (n + 1) 6)) : Nat) : Int) := by first | (rw [Nat.min_eq_left (by omega), Nat.min_eq_left (by omega)]; exact nm_s (by omega) (lgb hI.2) (by assumption) rfl) | (rw [Nat.min_eq_right (by omega), Nat.min_eq_right (by omega)])
        rw [e4]
        clear e4
        exact ih (n + 1) (by omega) (⟨hI.1, fun i hi => by by_cases e : i = n; (subst e; assumption); exact hI.2 i (by omega)⟩)
theorem v_addWord (X : AX) (s : Nat) (f : Nat → Int) (N : Nat) (σ : AH) (hN : N ≤ 1600) (ht : σ 1 1 = (N : Int)) (hf : ∀ j, j < N → σ 2 j = f j) (c : Nat) (hc : c ≤ 1600) (h43 : σ 4 3 = (c : Int)) (hs : s < N) (hlet : mLet (f s)) (hap : ¬ (0 < s ∧ An (f (s - 1))))  : TT X 175 (0, [(2, 4), (2, 1), (0, ((s : Nat) : Int)), (9, 0), (9, 0), (9, 0)], [], σ) (fun r σ' => AP f N σ σ' c s r) := by
  refine TT.steps (cd := cd175) 4 (c' := (4, [(2, 4), (2, 1), (0, ((s : Nat) : Int)), (0, ((s : Nat) : Int)), (0, 0), (9, 0)], [], σ)) rfl rfl ?_
  refine ul_word X _ s f N σ hN ht hf (fun n hn0 hn2 hn3 => ?_) (N - s) 0 (by omega) ⟨by omega, fun i hi => by omega⟩
  have hn1 : 1 ≤ n := by
    by_cases e : n = 0
    · subst e; exact absurd hlet (hn3 (by omega))
    · omega
  refine TT.steps (cd := cd175) 5 (c' := (43, [(2, 4), (2, 1), (0, ((s : Nat) : Int)), (0, ((s + n : Nat) : Int)), (0, (((e5 (lgF f s) (min n 6)) : Nat) : Int)), (9, 0)], [(0, (aSub ((s + n : Nat) : Int) ((s : Nat) : Int))), (0, ((s : Nat) : Int)), (2, 1)], σ)) rfl rfl ?_
  refine TT.top0 (z := ((n : Nat) : Int)) ((aSub_n (a := s + n) (b := s) (by omega) (by omega)).trans (by rw [Nat.add_sub_cancel_left])) ?_
  have hw : WRD f N s n := ⟨hn1, hn0, hn2, hn3⟩
  refine TT.own (cd := cd175) (a := ([(2, 1), (0, ((s : Nat) : Int)), (0, ((n : Nat) : Int))], [])) (r := (some (0, ownN f s n), σ)) rfl rfl rfl rfl rfl ?_ ?_
  · show (if _ then _ else _) = _
    rw [if_pos ⟨rfl, rfl, rfl, rfl, by omega, by omega, by show ((s : Nat) : Int) + ((n : Nat) : Int) ≤ 1600; omega⟩]
    refine congrArg (fun x : Int => some (some ((0 : Nat), x), σ)) (ownI_c (fun k hk => ?_) ownWs 1)
    show σ 2 _ = _
    rw [Int.toNat_natCast]
    exact hf _ (by rw [Int.toNat_natCast] at hk; omega)
  refine TT.steps (cd := cd175) 1 (c' := (45, [(2, 4), (2, 1), (0, ((s : Nat) : Int)), (0, ((s + n : Nat) : Int)), (0, (((e5 (lgF f s) (min n 6)) : Nat) : Int)), (0, (ownN f s n))], [], σ)) rfl rfl ?_
  by_cases ho : ownN f s n = -1
  · refine TT.steps (cd := cd175) 3 (c' := ((if decide (¬ (ownN f s n) = (-1)) = true then 59 else 48), [(2, 4), (2, 1), (0, ((s : Nat) : Int)), (0, ((s + n : Nat) : Int)), (0, (((e5 (lgF f s) (min n 6)) : Nat) : Int)), (0, (ownN f s n))], [], σ)) rfl rfl ?_
    refine TT.br (p := ¬ (ownN f s n) = (-1)) (fun h1 => absurd h1 (show ¬ (¬ (ownN f s n) = (-1)) by exact fun hh => hh ho)) (fun h1 => ?_)
    refine TT.steps (cd := cd175) 3 (c' := (51, [(2, 4), (2, 1), (0, ((s : Nat) : Int)), (0, ((s + n : Nat) : Int)), (0, (((e5 (lgF f s) (min n 6)) : Nat) : Int)), (0, (ownN f s n))], [(0, (aSub ((s + n : Nat) : Int) ((s : Nat) : Int)))], σ)) rfl rfl ?_
    refine TT.top0 (z := ((n : Nat) : Int)) ((aSub_n (a := s + n) (b := s) (by omega) (by omega)).trans (by rw [Nat.add_sub_cancel_left])) ?_
    refine TT.steps (cd := cd175) 2 (c' := ((if decide (((n : Nat) : Int) ≤ 6) = true then 59 else 53), [(2, 4), (2, 1), (0, ((s : Nat) : Int)), (0, ((s + n : Nat) : Int)), (0, (((e5 (lgF f s) (min n 6)) : Nat) : Int)), (0, (ownN f s n))], [], σ)) rfl rfl ?_
    refine TT.br (p := ((n : Nat) : Int) ≤ 6) (fun h2 => ?_) (fun h2 => ?_)
    · refine TT.steps (cd := cd175) 4 (c' := ((if decide (¬ (ownN f s n) = (-1)) = true then 65 else 63), [(2, 4), (2, 1), (0, ((s : Nat) : Int)), (0, ((s + n : Nat) : Int)), (0, (((e5 (lgF f s) (min n 6)) : Nat) : Int)), (0, (ownN f s n))], [(2, 4)], σ)) rfl rfl ?_
      refine TT.br (p := ¬ (ownN f s n) = (-1)) (fun h3 => absurd h3 (show ¬ (¬ (ownN f s n) = (-1)) by exact fun hh => hh ho)) (fun h3 => ?_)
      refine TT.steps (cd := cd175) 5 (c' := (69, [(2, 4), (2, 1), (0, ((s : Nat) : Int)), (0, ((s + n : Nat) : Int)), (0, (((e5 (lgF f s) (min n 6)) : Nat) : Int)), (0, (ownN f s n))], [(0, (((e5 (lgF f s) (min n 6)) : Nat) : Int)), (0, ((s + n : Nat) : Int)), (0, ((s : Nat) : Int)), (0, 14), (2, 4)], σ)) rfl rfl ?_
      refine TT.call (cd := cd175) rfl rfl rfl (by decide) rfl (u_addWhole X 14 (((e5 (lgF f s) (min n 6)) : Nat) : Int) s (s + n) σ c hc h43) (fun r4 σ4 hq => ?_)
      rw [hq.1, hq.2]
      refine TT.ret (cd := cd175) rfl rfl rfl rfl ?_
      refine Or.inl ⟨14, _, s + n, Or.inr (Or.inr (Or.inr (Or.inr (Or.inl ⟨hap, n, hw, Or.inr (Or.inl ⟨ho, by omega, rfl, rfl, rfl⟩)⟩)))), by decide, by omega, hn0, rfl, ?_, Or.inr ⟨up2_hit _ _ _ _, wrd_last hw⟩⟩
      intro K j hK
      rw [up2_nq _ hK, Nat.min_eq_left (by omega)]
    · refine TT.steps (cd := cd175) 4 (c' := (57, [(2, 4), (2, 1), (0, ((s : Nat) : Int)), (0, ((s + n : Nat) : Int)), (0, (((e5 (lgF f s) (min n 6)) : Nat) : Int)), (0, (ownN f s n))], [(0, 6), (0, ((s : Nat) : Int)), (2, 1), (2, 4)], σ)) rfl rfl ?_
      refine TT.call (cd := cd175) rfl rfl rfl (by decide) rfl (u_addBad X 6 s f N σ hN ht hf c hc h43) (fun r5 σ5 hq => ?_)
      rw [hq.1, hq.2]
      refine TT.ret (cd := cd175) rfl rfl rfl rfl ?_
      exact Or.inr ⟨6, 0, Or.inr (Or.inr (Or.inr (Or.inr (Or.inl ⟨hap, n, hw, Or.inr (Or.inr ⟨ho, by omega, rfl, rfl⟩)⟩)))), rfl, rfl⟩
  · refine TT.steps (cd := cd175) 3 (c' := ((if decide (¬ (ownN f s n) = (-1)) = true then 59 else 48), [(2, 4), (2, 1), (0, ((s : Nat) : Int)), (0, ((s + n : Nat) : Int)), (0, (((e5 (lgF f s) (min n 6)) : Nat) : Int)), (0, (ownN f s n))], [], σ)) rfl rfl ?_
    refine TT.br (p := ¬ (ownN f s n) = (-1)) (fun h6 => ?_) (fun h6 => absurd (show ¬ (ownN f s n) = (-1) by exact ho) h6)
    refine TT.steps (cd := cd175) 4 (c' := ((if decide (¬ (ownN f s n) = (-1)) = true then 65 else 63), [(2, 4), (2, 1), (0, ((s : Nat) : Int)), (0, ((s + n : Nat) : Int)), (0, (((e5 (lgF f s) (min n 6)) : Nat) : Int)), (0, (ownN f s n))], [(2, 4)], σ)) rfl rfl ?_
    refine TT.br (p := ¬ (ownN f s n) = (-1)) (fun h7 => ?_) (fun h7 => absurd (show ¬ (ownN f s n) = (-1) by exact ho) h7)
    refine TT.steps (cd := cd175) 4 (c' := (69, [(2, 4), (2, 1), (0, ((s : Nat) : Int)), (0, ((s + n : Nat) : Int)), (0, (((e5 (lgF f s) (min n 6)) : Nat) : Int)), (0, (ownN f s n))], [(0, (((e5 (lgF f s) (min n 6)) : Nat) : Int)), (0, ((s + n : Nat) : Int)), (0, ((s : Nat) : Int)), (0, (ownN f s n)), (2, 4)], σ)) rfl rfl ?_
    refine TT.call (cd := cd175) rfl rfl rfl (by decide) rfl (u_addWhole X (ownN f s n) (((e5 (lgF f s) (min n 6)) : Nat) : Int) s (s + n) σ c hc h43) (fun r8 σ8 hq => ?_)
    rw [hq.1, hq.2]
    have hk := own_k hw.2.2.1
    refine TT.ret (cd := cd175) rfl rfl rfl rfl ?_
    have hk2 : 1 ≤ ownN f s n ∧ ownN f s n ≤ 13 := by rcases hk with g | g; exact absurd g.1 ho; exact ⟨g.1, g.2.1⟩
    refine Or.inl ⟨ownN f s n, _, s + n, Or.inr (Or.inr (Or.inr (Or.inr (Or.inl ⟨hap, n, hw, Or.inl ⟨hk2.1, hk2.2, rfl, rfl⟩⟩)))), by omega, by omega, hn0, rfl, fun K j hK => up2_nq _ hK, Or.inr ⟨up2_hit _ _ _ _, wrd_last hw⟩⟩
theorem ul_num (X : AX) (Q : Option AV → AH → Prop) (s : Nat) (f : Nat → Int) (N : Nat) (σ : AH) (hN : N ≤ 1600) (ht : σ 1 1 = (N : Int)) (hf : ∀ j, j < N → σ 2 j = f j) (kk : ∀ n, s + n ≤ N → n ≤ 4 → (∀ i, i < n → mDig (f (s + i))) → (s + n < N → ¬ mDig (f (s + n))) → TT X 176 (38, [(2, 4), (2, 1), (0, ((s : Nat) : Int)), (0, ((s + n : Nat) : Int)), (0, (((nuF f s n) : Nat) : Int))], [], σ) Q) (kb : s + 5 ≤ N → (∀ i, i < 5 → mDig (f (s + i))) → TT X 176 (19, [(2, 4), (2, 1), (0, ((s : Nat) : Int)), (0, ((s + 4 : Nat) : Int)), (0, (((nuF f s 4) : Nat) : Int))], [], σ) Q)  : ∀ (d n : Nat), n + d = N - s → (s ≤ N ∧ n ≤ 4 ∧ ∀ i, i < n → mDig (f (s + i))) → TT X 176 (4, [(2, 4), (2, 1), (0, ((s : Nat) : Int)), (0, ((s + n : Nat) : Int)), (0, (((nuF f s n) : Nat) : Int))], [], σ) Q := by
  intro d
  induction d with
  | zero =>
    intro n hn hI
    refine TT.steps (cd := cd176) 3 (c' := (7, [(2, 4), (2, 1), (0, ((s : Nat) : Int)), (0, ((s + n : Nat) : Int)), (0, (((nuF f s n) : Nat) : Int))], [(0, (σ 1 1)), (0, ((s + n : Nat) : Int))], σ)) rfl rfl ?_
    refine TT.top0 (z := ((N : Nat) : Int)) ht ?_
    refine TT.steps (cd := cd176) 1 (c' := ((if decide (((N : Nat) : Int) ≤ ((s + n : Nat) : Int)) = true then 38 else 8), [(2, 4), (2, 1), (0, ((s : Nat) : Int)), (0, ((s + n : Nat) : Int)), (0, (((nuF f s n) : Nat) : Int))], [], σ)) rfl rfl ?_
    refine TT.br (p := ((N : Nat) : Int) ≤ ((s + n : Nat) : Int)) (fun h1 => ?_) (fun h1 => absurd (show ((N : Nat) : Int) ≤ ((s + n : Nat) : Int) by omega) h1)
    exact kk n (by omega) hI.2.1 hI.2.2 (fun h0 => by first | omega | assumption)
  | succ d ih =>
    intro n hn hI
    refine TT.steps (cd := cd176) 3 (c' := (7, [(2, 4), (2, 1), (0, ((s : Nat) : Int)), (0, ((s + n : Nat) : Int)), (0, (((nuF f s n) : Nat) : Int))], [(0, (σ 1 1)), (0, ((s + n : Nat) : Int))], σ)) rfl rfl ?_
    refine TT.top0 (z := ((N : Nat) : Int)) ht ?_
    refine TT.steps (cd := cd176) 1 (c' := ((if decide (((N : Nat) : Int) ≤ ((s + n : Nat) : Int)) = true then 38 else 8), [(2, 4), (2, 1), (0, ((s : Nat) : Int)), (0, ((s + n : Nat) : Int)), (0, (((nuF f s n) : Nat) : Int))], [], σ)) rfl rfl ?_
    refine TT.br (p := ((N : Nat) : Int) ≤ ((s + n : Nat) : Int)) (fun h1 => absurd h1 (show ¬ (((N : Nat) : Int) ≤ ((s + n : Nat) : Int)) by omega)) (fun h1 => ?_)
    refine TT.steps (cd := cd176) 3 (c' := (11, [(2, 4), (2, 1), (0, ((s : Nat) : Int)), (0, ((s + n : Nat) : Int)), (0, (((nuF f s n) : Nat) : Int))], [(0, ((s + n : Nat) : Int)), (2, 2)], σ)) rfl rfl ?_
    refine TT.aldN (cd := cd176) (2) (s + n) rfl rfl rfl rfl (show s + n < 1600 by omega) ?_
    refine TT.top0 (z := (f (s + n))) (hf _ (by omega)) ?_
    refine TT.call (cd := cd176) rfl rfl rfl (by decide) rfl (u_isDigit X (f (s + n)) σ) (fun r2 σ2 hq => ?_)
    rw [hq.1, hq.2]
    refine TT.steps (cd := cd176) 1 (c' := ((if decide (((if mDig (f (s + n)) then 1 else 0) : Int) = 0) = true then 38 else 14), [(2, 4), (2, 1), (0, ((s : Nat) : Int)), (0, ((s + n : Nat) : Int)), (0, (((nuF f s n) : Nat) : Int))], [], σ)) rfl rfl ?_
    refine TT.br (p := ((if mDig (f (s + n)) then 1 else 0) : Int) = 0) (fun h3 => ?_) (fun h3 => ?_)
    · replace h3 := ite_f h3
      exact kk n (by omega) hI.2.1 hI.2.2 (fun h0 => by first | omega | assumption)
    · replace h3 := ite_t h3
      refine TT.steps (cd := cd176) 3 (c' := (17, [(2, 4), (2, 1), (0, ((s : Nat) : Int)), (0, ((s + n : Nat) : Int)), (0, (((nuF f s n) : Nat) : Int))], [(0, (aSub ((s + n : Nat) : Int) ((s : Nat) : Int)))], σ)) rfl rfl ?_
      refine TT.top0 (z := ((n : Nat) : Int)) ((aSub_n (a := s + n) (b := s) (by omega) (by omega)).trans (by rw [Nat.add_sub_cancel_left])) ?_
      refine TT.steps (cd := cd176) 2 (c' := ((if decide (¬ ((n : Nat) : Int) = 4) = true then 25 else 19), [(2, 4), (2, 1), (0, ((s : Nat) : Int)), (0, ((s + n : Nat) : Int)), (0, (((nuF f s n) : Nat) : Int))], [], σ)) rfl rfl ?_
      refine TT.br (p := ¬ ((n : Nat) : Int) = 4) (fun h4 => ?_) (fun h4 => ?_)
      · refine TT.steps (cd := cd176) 3 (c' := (28, [(2, 4), (2, 1), (0, ((s : Nat) : Int)), (0, ((s + n : Nat) : Int)), (0, (((nuF f s n) : Nat) : Int))], [(0, (aMul (((nuF f s n) : Nat) : Int) 10))], σ)) rfl rfl ?_
        refine TT.top0 (z := (aMul ((nuF f s n : Nat) : Int) 10)) rfl ?_
        refine TT.steps (cd := cd176) 3 (c' := (31, [(2, 4), (2, 1), (0, ((s : Nat) : Int)), (0, ((s + n : Nat) : Int)), (0, (((nuF f s n) : Nat) : Int))], [(0, ((s + n : Nat) : Int)), (2, 2), (0, (aMul ((nuF f s n : Nat) : Int) 10))], σ)) rfl rfl ?_
        refine TT.aldN (cd := cd176) (2) (s + n) rfl rfl rfl rfl (show s + n < 1600 by omega) ?_
        refine TT.top0 (z := (f (s + n))) (hf _ (by omega)) ?_
        refine TT.steps (cd := cd176) 1 (c' := (33, [(2, 4), (2, 1), (0, ((s : Nat) : Int)), (0, ((s + n : Nat) : Int)), (0, (((nuF f s n) : Nat) : Int))], [(0, (aAdd (aMul ((nuF f s n : Nat) : Int) 10) (f (s + n))))], σ)) rfl rfl ?_
        refine TT.top0 (z := (aAdd (aMul ((nuF f s n : Nat) : Int) 10) (f (s + n)))) rfl ?_
        refine TT.steps (cd := cd176) 2 (c' := (35, [(2, 4), (2, 1), (0, ((s : Nat) : Int)), (0, ((s + n : Nat) : Int)), (0, (((nuF f s n) : Nat) : Int))], [(0, (aSub (aAdd (aMul ((nuF f s n : Nat) : Int) 10) (f (s + n))) 48))], σ)) rfl rfl ?_
        refine TT.top0 (z := (aSub (aAdd (aMul ((nuF f s n : Nat) : Int) 10) (f (s + n))) 48)) rfl ?_
        refine TT.steps (cd := cd176) 1 (c' := (36, [(2, 4), (2, 1), (0, ((s : Nat) : Int)), (0, ((s + n : Nat) : Int)), (0, (aSub (aAdd (aMul ((nuF f s n : Nat) : Int) 10) (f (s + n))) 48))], [], σ)) rfl rfl ?_
        refine TT.inc (cd := cd176) (((s + n) + 1 : Nat) : Int) rfl rfl rfl rfl (fun h => absurd h.2 (show ¬ (0 = 1) by decide)) (aAdd_n (a := s + n) (b := 1) (by omega)) (ls' := [(2, 4), (2, 1), (0, ((s : Nat) : Int)), (0, (((s + n) + 1 : Nat) : Int)), (0, (aSub (aAdd (aMul ((nuF f s n : Nat) : Int) 10) (f (s + n))) 48))]) rfl ?_
        refine TT.steps (cd := cd176) 1 (c' := (4, [(2, 4), (2, 1), (0, ((s : Nat) : Int)), (0, (((s + n) + 1 : Nat) : Int)), (0, (aSub (aAdd (aMul ((nuF f s n : Nat) : Int) 10) (f (s + n))) 48))], [], σ)) rfl rfl ?_
        have e3 : (((s + n) + 1 : Nat) : Int) = ((s + (n + 1) : Nat) : Int) := by omega
        rw [e3]
        clear e3
        have e4 : (aSub (aAdd (aMul ((nuF f s n : Nat) : Int) 10) (f (s + n))) 48) = (((nuF f s (n + 1)) : Nat) : Int) := by exact (nu_s (by omega) hI.2.2 (by assumption)).1
        rw [e4]
        clear e4
        exact ih (n + 1) (by omega) (⟨hI.1, by omega, fun i hi => by by_cases e : i = n; (subst e; assumption); exact hI.2.2 i (by omega)⟩)
      · have hn4 : n = 4 := by omega
        subst hn4
        exact kb (by omega) (fun i hi => by by_cases e : i = 4; (subst e; assumption); exact hI.2.2 i (by omega))
theorem v_addNumber (X : AX) (s : Nat) (f : Nat → Int) (N : Nat) (σ : AH) (hN : N ≤ 1600) (ht : σ 1 1 = (N : Int)) (hf : ∀ j, j < N → σ 2 j = f j) (c : Nat) (hc : c ≤ 1600) (h43 : σ 4 3 = (c : Int)) (hs : s < N) (hdig : mDig (f s)) (hap : ¬ (0 < s ∧ An (f (s - 1))))  : TT X 176 (0, [(2, 4), (2, 1), (0, ((s : Nat) : Int)), (9, 0), (9, 0)], [], σ) (fun r σ' => AP f N σ σ' c s r) := by
  refine TT.steps (cd := cd176) 4 (c' := (4, [(2, 4), (2, 1), (0, ((s : Nat) : Int)), (0, ((s : Nat) : Int)), (0, 0)], [], σ)) rfl rfl ?_
  refine ul_num X _ s f N σ hN ht hf (fun n hn0 hn4 hn2 hn3 => ?_) (fun hb0 hb2 => ?_) (N - s) 0 (by omega) ⟨by omega, by omega, fun i hi => by omega⟩
  · have hn1 : 1 ≤ n := by
      by_cases e : n = 0
      · subst e; exact absurd hdig (hn3 (by omega))
      · omega
    refine TT.steps (cd := cd176) 5 (c' := (43, [(2, 4), (2, 1), (0, ((s : Nat) : Int)), (0, ((s + n : Nat) : Int)), (0, (((nuF f s n) : Nat) : Int))], [(0, (((nuF f s n) : Nat) : Int)), (0, ((s + n : Nat) : Int)), (0, ((s : Nat) : Int)), (0, 15), (2, 4)], σ)) rfl rfl ?_
    refine TT.call (cd := cd176) rfl rfl rfl (by decide) rfl (u_addWhole X 15 (((nuF f s n) : Nat) : Int) s (s + n) σ c hc h43) (fun r1 σ1 hq => ?_)
    rw [hq.1, hq.2]
    refine TT.ret (cd := cd176) rfl rfl rfl rfl ?_
    have hla := hn2 (n - 1) (by omega)
    rw [show s + (n - 1) = s + n - 1 by omega] at hla
    exact Or.inl ⟨15, _, s + n, Or.inr (Or.inr (Or.inr (Or.inr (Or.inr ⟨hap, n, hn1, hn0, hn2, Or.inl ⟨hn4, hn3, rfl, rfl, rfl⟩⟩)))), by decide, by omega, hn0, rfl, fun K j hK => up2_nq _ hK, Or.inr ⟨up2_hit _ _ _ _, Or.inr hla⟩⟩
  · refine TT.steps (cd := cd176) 4 (c' := (23, [(2, 4), (2, 1), (0, ((s : Nat) : Int)), (0, ((s + 4 : Nat) : Int)), (0, (((nuF f s 4) : Nat) : Int))], [(0, 4), (0, ((s : Nat) : Int)), (2, 1), (2, 4)], σ)) rfl rfl ?_
    refine TT.call (cd := cd176) rfl rfl rfl (by decide) rfl (u_addBad X 4 s f N σ hN ht hf c hc h43) (fun r2 σ2 hq => ?_)
    rw [hq.1, hq.2]
    refine TT.ret (cd := cd176) rfl rfl rfl rfl ?_
    exact Or.inr ⟨4, 0, Or.inr (Or.inr (Or.inr (Or.inr (Or.inr ⟨hap, 5, by omega, hb0, hb2, Or.inr ⟨rfl, rfl, rfl⟩⟩)))), rfl, rfl⟩
theorem v_addAt (X : AX) (s : Nat) (f : Nat → Int) (N : Nat) (σ : AH) (hN : N ≤ 1600) (ht : σ 1 1 = (N : Int)) (hf : ∀ j, j < N → σ 2 j = f j) (c : Nat) (hc : c ≤ 1600) (h43 : σ 4 3 = (c : Int)) (e0 : Int) (h44 : σ 4 4 = e0) (hs : s < N) (hbl : ¬ Bl (f s)) (hed : (s : Int) = e0 ↔ (0 < s ∧ An (f (s - 1))))  : TT X 173 (0, [(2, 4), (2, 1), (0, ((s : Nat) : Int)), (9, 0), (9, 0)], [], σ) (fun r σ' => AP f N σ σ' c s r) := by
  refine TT.steps (cd := cd173) 3 (c' := (3, [(2, 4), (2, 1), (0, ((s : Nat) : Int)), (9, 0), (9, 0)], [(0, ((s : Nat) : Int)), (2, 2)], σ)) rfl rfl ?_
  refine TT.aldN (cd := cd173) (2) (s) rfl rfl rfl rfl (show s < 1600 by omega) ?_
  refine TT.top0 (z := (f s)) (hf s hs) ?_
  refine TT.steps (cd := cd173) 4 (c' := ((if decide ((f s) = 10) = true then 11 else 8), [(2, 4), (2, 1), (0, ((s : Nat) : Int)), (0, (f s)), (9, 0)], [], σ)) rfl rfl ?_
  refine TT.br (p := (f s) = 10) (fun h1 => ?_) (fun h1 => ?_)
  · exact absurd (by first | exact Or.inl (by assumption) | exact Or.inr (by assumption) | exact Or.inl (Decidable.not_not.mp (by assumption))) hbl
  · refine TT.steps (cd := cd173) 3 (c' := ((if decide (¬ (f s) = 32) = true then 15 else 11), [(2, 4), (2, 1), (0, ((s : Nat) : Int)), (0, (f s)), (9, 0)], [], σ)) rfl rfl ?_
    refine TT.br (p := ¬ (f s) = 32) (fun h2 => ?_) (fun h2 => ?_)
    · refine TT.steps (cd := cd173) 3 (c' := ((if decide (¬ (f s) = 59) = true then 27 else 18), [(2, 4), (2, 1), (0, ((s : Nat) : Int)), (0, (f s)), (9, 0)], [], σ)) rfl rfl ?_
      refine TT.br (p := ¬ (f s) = 59) (fun h3 => ?_) (fun h3 => ?_)
      · refine TT.steps (cd := cd173) 3 (c' := (30, [(2, 4), (2, 1), (0, ((s : Nat) : Int)), (0, (f s)), (9, 0)], [(0, (σ 4 4)), (0, ((s : Nat) : Int))], σ)) rfl rfl ?_
        refine TT.top0 (z := e0) h44 ?_
        refine TT.steps (cd := cd173) 1 (c' := ((if decide (((s : Nat) : Int) = e0) = true then 33 else 31), [(2, 4), (2, 1), (0, ((s : Nat) : Int)), (0, (f s)), (9, 0)], [], σ)) rfl rfl ?_
        refine TT.br (p := ((s : Nat) : Int) = e0) (fun h4 => ?_) (fun h4 => ?_)
        · refine TT.steps (cd := cd173) 10 (c' := (59, [(2, 4), (2, 1), (0, ((s : Nat) : Int)), (0, (f s)), (0, 0)], [(0, 0), (0, ((s : Nat) : Int)), (2, 1), (2, 4)], σ)) rfl rfl ?_
          refine TT.call (cd := cd173) rfl rfl rfl (by decide) rfl (u_addBad X 0 s f N σ hN ht hf c hc h43) (fun r5 σ5 hq => ?_)
          rw [hq.1, hq.2]
          refine TT.ret (cd := cd173) rfl rfl rfl rfl ?_
          refine Or.inr ⟨0, 0, ?_, rfl, rfl⟩
          by_cases han : An (f s)
          · have hee : (s : Int) = e0 := by first | assumption | (exfalso; rcases han with g | g <;> exact absurd g (by assumption))
            exact Or.inr (Or.inr (Or.inr (Or.inl ⟨hs, rfl, rfl, han, hed.mp hee⟩)))
          · exact Or.inr (Or.inr (Or.inl ⟨hs, rfl, rfl, by assumption, fun g => han (Or.inl g), fun g => han (Or.inr g)⟩))
        · refine TT.steps (cd := cd173) 6 (c' := (38, [(2, 4), (2, 1), (0, ((s : Nat) : Int)), (0, (f s)), (0, 1)], [(0, (f s))], σ)) rfl rfl ?_
          refine TT.call (cd := cd173) rfl rfl rfl (by decide) rfl (u_isLetter X (f s) σ) (fun r6 σ6 hq => ?_)
          rw [hq.1, hq.2]
          refine TT.steps (cd := cd173) 1 (c' := ((if decide (((if mLet (f s) then 1 else 0) : Int) = 0) = true then 45 else 40), [(2, 4), (2, 1), (0, ((s : Nat) : Int)), (0, (f s)), (0, 1)], [], σ)) rfl rfl ?_
          refine TT.br (p := ((if mLet (f s) then 1 else 0) : Int) = 0) (fun h7 => ?_) (fun h7 => ?_)
          · replace h7 := ite_f h7
            refine TT.steps (cd := cd173) 3 (c' := (48, [(2, 4), (2, 1), (0, ((s : Nat) : Int)), (0, (f s)), (0, 1)], [(0, (f s))], σ)) rfl rfl ?_
            refine TT.call (cd := cd173) rfl rfl rfl (by decide) rfl (u_isDigit X (f s) σ) (fun r8 σ8 hq => ?_)
            rw [hq.1, hq.2]
            refine TT.steps (cd := cd173) 1 (c' := ((if decide (((if mDig (f s) then 1 else 0) : Int) = 0) = true then 55 else 50), [(2, 4), (2, 1), (0, ((s : Nat) : Int)), (0, (f s)), (0, 1)], [], σ)) rfl rfl ?_
            refine TT.br (p := ((if mDig (f s) then 1 else 0) : Int) = 0) (fun h9 => ?_) (fun h9 => ?_)
            · replace h9 := ite_f h9
              refine TT.steps (cd := cd173) 4 (c' := (59, [(2, 4), (2, 1), (0, ((s : Nat) : Int)), (0, (f s)), (0, 1)], [(0, 0), (0, ((s : Nat) : Int)), (2, 1), (2, 4)], σ)) rfl rfl ?_
              refine TT.call (cd := cd173) rfl rfl rfl (by decide) rfl (u_addBad X 0 s f N σ hN ht hf c hc h43) (fun r10 σ10 hq => ?_)
              rw [hq.1, hq.2]
              refine TT.ret (cd := cd173) rfl rfl rfl rfl ?_
              refine Or.inr ⟨0, 0, ?_, rfl, rfl⟩
              by_cases han : An (f s)
              · have hee : (s : Int) = e0 := by first | assumption | (exfalso; rcases han with g | g <;> exact absurd g (by assumption))
                exact Or.inr (Or.inr (Or.inr (Or.inl ⟨hs, rfl, rfl, han, hed.mp hee⟩)))
              · exact Or.inr (Or.inr (Or.inl ⟨hs, rfl, rfl, by assumption, fun g => han (Or.inl g), fun g => han (Or.inr g)⟩))
            · replace h9 := ite_t h9
              refine TT.steps (cd := cd173) 3 (c' := (53, [(2, 4), (2, 1), (0, ((s : Nat) : Int)), (0, (f s)), (0, 1)], [(0, ((s : Nat) : Int)), (2, 1), (2, 4)], σ)) rfl rfl ?_
              have hap : ¬ (0 < s ∧ An (f (s - 1))) := fun hh => absurd (hed.mpr hh) (by assumption)
              refine TT.call (cd := cd173) rfl rfl rfl (by decide) rfl (v_addNumber X s f N σ hN ht hf c hc h43 hs (by assumption) hap) (fun r9 σ9 hq9 => ?_)
              have hr : ∃ p : Nat, r9 = some (0, (p : Int)) := by rcases hq9 with ⟨-, -, p, -, -, -, -, e, -⟩ | ⟨-, -, -, e, -⟩; exact ⟨p, e⟩; exact ⟨N, e⟩
              obtain ⟨p9, rfl⟩ := hr
              exact TT.ret (cd := cd173) rfl rfl rfl rfl hq9
          · replace h7 := ite_t h7
            refine TT.steps (cd := cd173) 3 (c' := (43, [(2, 4), (2, 1), (0, ((s : Nat) : Int)), (0, (f s)), (0, 1)], [(0, ((s : Nat) : Int)), (2, 1), (2, 4)], σ)) rfl rfl ?_
            have hap : ¬ (0 < s ∧ An (f (s - 1))) := fun hh => absurd (hed.mpr hh) (by assumption)
            refine TT.call (cd := cd173) rfl rfl rfl (by decide) rfl (v_addWord X s f N σ hN ht hf c hc h43 hs (by assumption) hap) (fun r9 σ9 hq9 => ?_)
            have hr : ∃ p : Nat, r9 = some (0, (p : Int)) := by rcases hq9 with ⟨-, -, p, -, -, -, -, e, -⟩ | ⟨-, -, -, e, -⟩; exact ⟨p, e⟩; exact ⟨N, e⟩
            obtain ⟨p9, rfl⟩ := hr
            exact TT.ret (cd := cd173) rfl rfl rfl rfl hq9
      · refine TT.steps (cd := cd173) 4 (c' := (22, [(2, 4), (2, 1), (0, ((s : Nat) : Int)), (0, (f s)), (9, 0)], [(0, 0), (0, ((s : Nat) : Int)), (0, 16), (2, 4)], σ)) rfl rfl ?_
        refine TT.call (cd := cd173) rfl rfl rfl (by decide) rfl (u_add X 16 0 s c hc σ h43) (fun r11 σ11 hq => ?_)
        rw [hq.1, hq.2]
        refine TT.steps (cd := cd173) 3 (c' := (26, [(2, 4), (2, 1), (0, ((s : Nat) : Int)), (0, (f s)), (9, 0)], [(0, (aAdd ((s : Nat) : Int) 1))], (cAdd σ c 16 s 0))) rfl rfl ?_
        refine TT.top0 (z := ((s + 1 : Nat) : Int)) (aAdd_n (a := s) (b := 1) (by omega)) ?_
        refine TT.ret (cd := cd173) rfl rfl rfl rfl ?_
        have h59 : f s = 59 := by first | assumption | exact Decidable.not_not.mp (by assumption)
        exact Or.inl ⟨16, 0, s + 1, Or.inr (Or.inl ⟨hs, rfl, h59, rfl⟩), by decide, by omega, by omega, rfl, fun K j hK => rfl, Or.inl ⟨cAdd_fr _ _ _ _ _ _ _ (by omega), rfl, by rw [h59]; decide⟩⟩
    · exact absurd (by first | exact Or.inl (by assumption) | exact Or.inr (by assumption) | exact Or.inl (Decidable.not_not.mp (by assumption))) hbl
