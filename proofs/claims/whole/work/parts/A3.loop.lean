/-! The law's loop. -/
theorem TT.sld {X : AX} {m k : Nat} {cd : List Ent} {ls st : List AV} {σ : AH} {Q : Option AV → AH → Prop} {e : Ent} {x : Int} (j : Nat) (hcd : cod m = cd) (he : cd[k]? = some e) (hi : e.2.1 = .iaload) (hl : j < X.1) (kk : TT X m (k + 1, ls, (0, X.2 j) :: st, σ) Q) : TT X m (k, ls, (0, (j : Int)) :: (3, x) :: st, σ) Q := by
  refine TT.step hcd ?_ kk
  unfold nx1
  rw [he]
  obtain ⟨pc, ins, len, u, v, w, ts⟩ := e
  dsimp only at hi
  subst hi
  show sAld X 20 0 k ls ((0, (j : Int)) :: (3, x) :: st) σ = _
  unfold sAld
  dsimp only
  rw [if_pos rfl, if_neg (by decide), if_pos ⟨rfl, rfl, by omega, by omega⟩, Int.toNat_natCast]
set_option maxRecDepth 100000 in
set_option maxHeartbeats 40000000 in
theorem law_loop (X : AX) (hX : ∀ j, -2147483648 ≤ X.2 j ∧ X.2 j < 2147483648) (hN : X.1 ≤ 3072) : ∀ (d i : Nat), X.1 ≤ i + 6 * d → ∀ (σ : AH), i ≤ 6000 → INV σ → TT X 112 (10, [(3, 0), (2, 0), (2, 295), (0, ((i : Nat) : Int))], [], σ) (fun r σ' => r = some (0, 1)) := by
  intro d
  induction d with
  | zero =>
    intro i hd σ hi6 hI
    refine TT.steps (cd := cd112) 2 (c' := (12, [(3, 0), (2, 0), (2, 295), (0, ((i : Nat) : Int))], [(3, 0), (0, ((i : Nat) : Int))], σ)) rfl rfl ?_
    refine TT.steps (cd := cd112) 1 (c' := (13, [(3, 0), (2, 0), (2, 295), (0, ((i : Nat) : Int))], [(0, ((X.1 : Nat) : Int)), (0, ((i : Nat) : Int))], σ)) rfl rfl ?_
    refine TT.steps (cd := cd112) 2 (c' := (15, [(3, 0), (2, 0), (2, 295), (0, ((i : Nat) : Int))], [(0, (aSub ((X.1 : Nat) : Int) 6)), (0, ((i : Nat) : Int))], σ)) rfl rfl ?_
    refine TT.top0 (z := ((X.1 : Int) - 6)) (aSub_of (by omega) (by omega)) ?_
    refine TT.steps (cd := cd112) 1 (c' := ((if decide (((X.1 : Int) - 6) < ((i : Nat) : Int)) = true then 908 else 16), [(3, 0), (2, 0), (2, 295), (0, ((i : Nat) : Int))], [], σ)) rfl rfl ?_
    refine TT.br (p := ((X.1 : Int) - 6) < ((i : Nat) : Int)) (fun h1 => ?_) (fun h1 => absurd (show ((X.1 : Int) - 6) < ((i : Nat) : Int) by omega) h1)
    refine TT.steps (cd := cd112) 1 (c' := (909, [(3, 0), (2, 0), (2, 295), (0, ((i : Nat) : Int))], [(0, 1)], σ)) rfl rfl ?_
    exact TT.ret (cd := cd112) rfl rfl rfl rfl (rfl)
  | succ d ih =>
    intro i hd σ hi6 hI
    by_cases hx : i + 6 ≤ X.1
    · refine TT.steps (cd := cd112) 2 (c' := (12, [(3, 0), (2, 0), (2, 295), (0, ((i : Nat) : Int))], [(3, 0), (0, ((i : Nat) : Int))], σ)) rfl rfl ?_
      refine TT.steps (cd := cd112) 1 (c' := (13, [(3, 0), (2, 0), (2, 295), (0, ((i : Nat) : Int))], [(0, ((X.1 : Nat) : Int)), (0, ((i : Nat) : Int))], σ)) rfl rfl ?_
      refine TT.steps (cd := cd112) 2 (c' := (15, [(3, 0), (2, 0), (2, 295), (0, ((i : Nat) : Int))], [(0, (aSub ((X.1 : Nat) : Int) 6)), (0, ((i : Nat) : Int))], σ)) rfl rfl ?_
      refine TT.top0 (z := ((X.1 : Int) - 6)) (aSub_of (by omega) (by omega)) ?_
      refine TT.steps (cd := cd112) 1 (c' := ((if decide (((X.1 : Int) - 6) < ((i : Nat) : Int)) = true then 908 else 16), [(3, 0), (2, 0), (2, 295), (0, ((i : Nat) : Int))], [], σ)) rfl rfl ?_
      refine TT.br (p := ((X.1 : Int) - 6) < ((i : Nat) : Int)) (fun h1 => absurd h1 (show ¬ (((X.1 : Int) - 6) < ((i : Nat) : Int)) by omega)) (fun h1 => ?_)
      refine TT.steps (cd := cd112) 2 (c' := (18, [(3, 0), (2, 0), (2, 295), (0, ((i : Nat) : Int))], [(0, ((i : Nat) : Int)), (3, 0)], σ)) rfl rfl ?_
      refine TT.sld (cd := cd112) (i) rfl rfl rfl (by omega) ?_
      refine TT.steps (cd := cd112) 3 (c' := ((swOf [(0, 22), (1, 79), (2, 96), (3, 103), (4, 120), (5, 137), (6, 174), (7, 201), (8, 228), (9, 255), (10, 290), (11, 317), (12, 344), (13, 351), (14, 368), (15, 375), (16, 392), (17, 429), (18, 456), (19, 473), (20, 500), (21, 517), (22, 534), (23, 551), (24, 568), (25, 595), (26, 612), (27, 649), (28, 666), (29, 713), (30, 740), (31, 767), (32, 804), (33, 821), (34, 858), (35, 865), (36, 882), (37, 889)] 906 (aAnd (X.2 i) 63)), [(3, 0), (2, 0), (2, 295), (0, ((i : Nat) : Int))], [], σ)) rfl rfl ?_
      refine TT.swc (fun h2 => ?_) (fun h2 => ?_)
      · refine TT.steps (cd := cd112) 5 (c' := (27, [(3, 0), (2, 0), (2, 295), (0, ((i : Nat) : Int))], [(0, (aAdd ((i : Nat) : Int) 1)), (3, 0), (2, 0)], σ)) rfl rfl ?_
        refine TT.top0 (z := ((i + 1 : Nat) : Int)) (aAdd_n (a := i) (b := 1) (by omega)) ?_
        refine TT.sld (cd := cd112) (i + 1) rfl rfl rfl (by omega) ?_
        refine TT.steps (cd := cd112) 4 (c' := (32, [(3, 0), (2, 0), (2, 295), (0, ((i : Nat) : Int))], [(0, (aAdd ((i : Nat) : Int) 2)), (3, 0), (0, (X.2 (i + 1))), (2, 0)], σ)) rfl rfl ?_
        refine TT.top0 (z := ((i + 2 : Nat) : Int)) (aAdd_n (a := i) (b := 2) (by omega)) ?_
        refine TT.sld (cd := cd112) (i + 2) rfl rfl rfl (by omega) ?_
        refine TT.steps (cd := cd112) 4 (c' := (37, [(3, 0), (2, 0), (2, 295), (0, ((i : Nat) : Int))], [(0, (aAdd ((i : Nat) : Int) 3)), (3, 0), (0, (X.2 (i + 2))), (0, (X.2 (i + 1))), (2, 0)], σ)) rfl rfl ?_
        refine TT.top0 (z := ((i + 3 : Nat) : Int)) (aAdd_n (a := i) (b := 3) (by omega)) ?_
        refine TT.sld (cd := cd112) (i + 3) rfl rfl rfl (by omega) ?_
        refine TT.steps (cd := cd112) 4 (c' := (42, [(3, 0), (2, 0), (2, 295), (0, ((i : Nat) : Int))], [(0, (aAdd ((i : Nat) : Int) 4)), (3, 0), (0, (X.2 (i + 3))), (0, (X.2 (i + 2))), (0, (X.2 (i + 1))), (2, 0)], σ)) rfl rfl ?_
        refine TT.top0 (z := ((i + 4 : Nat) : Int)) (aAdd_n (a := i) (b := 4) (by omega)) ?_
        refine TT.sld (cd := cd112) (i + 4) rfl rfl rfl (by omega) ?_
        refine TT.steps (cd := cd112) 4 (c' := (47, [(3, 0), (2, 0), (2, 295), (0, ((i : Nat) : Int))], [(0, (aAdd ((i : Nat) : Int) 5)), (3, 0), (0, (X.2 (i + 4))), (0, (X.2 (i + 3))), (0, (X.2 (i + 2))), (0, (X.2 (i + 1))), (2, 0)], σ)) rfl rfl ?_
        refine TT.top0 (z := ((i + 5 : Nat) : Int)) (aAdd_n (a := i) (b := 5) (by omega)) ?_
        refine TT.sld (cd := cd112) (i + 5) rfl rfl rfl (by omega) ?_
        refine TT.call (cd := cd112) rfl rfl rfl (by decide) rfl (PP_feed X hI (X.2 (i + 1)) (X.2 (i + 2)) (X.2 (i + 3)) (X.2 (i + 4)) (X.2 (i + 5))) (fun r3 σ3 hq => ?_)
        obtain ⟨r2_3, σz3, ⟨⟨z3, hz1, hz2⟩, hI3⟩, dt3⟩ := TT.ex hq
        subst hz1
        subst hz2
        refine TT.steps (cd := cd112) 5 (c' := (54, [(3, 0), (2, 0), (2, 295), (0, ((i : Nat) : Int))], [(0, (aAdd ((i : Nat) : Int) 1)), (3, 0), (2, 295), (0, z3)], σ3)) rfl rfl ?_
        refine TT.top0 (z := ((i + 1 : Nat) : Int)) (aAdd_n (a := i) (b := 1) (by omega)) ?_
        refine TT.sld (cd := cd112) (i + 1) rfl rfl rfl (by omega) ?_
        refine TT.steps (cd := cd112) 4 (c' := (59, [(3, 0), (2, 0), (2, 295), (0, ((i : Nat) : Int))], [(0, (aAdd ((i : Nat) : Int) 2)), (3, 0), (0, (X.2 (i + 1))), (2, 295), (0, z3)], σ3)) rfl rfl ?_
        refine TT.top0 (z := ((i + 2 : Nat) : Int)) (aAdd_n (a := i) (b := 2) (by omega)) ?_
        refine TT.sld (cd := cd112) (i + 2) rfl rfl rfl (by omega) ?_
        refine TT.steps (cd := cd112) 4 (c' := (64, [(3, 0), (2, 0), (2, 295), (0, ((i : Nat) : Int))], [(0, (aAdd ((i : Nat) : Int) 3)), (3, 0), (0, (X.2 (i + 2))), (0, (X.2 (i + 1))), (2, 295), (0, z3)], σ3)) rfl rfl ?_
        refine TT.top0 (z := ((i + 3 : Nat) : Int)) (aAdd_n (a := i) (b := 3) (by omega)) ?_
        refine TT.sld (cd := cd112) (i + 3) rfl rfl rfl (by omega) ?_
        refine TT.steps (cd := cd112) 4 (c' := (69, [(3, 0), (2, 0), (2, 295), (0, ((i : Nat) : Int))], [(0, (aAdd ((i : Nat) : Int) 4)), (3, 0), (0, (X.2 (i + 3))), (0, (X.2 (i + 2))), (0, (X.2 (i + 1))), (2, 295), (0, z3)], σ3)) rfl rfl ?_
        refine TT.top0 (z := ((i + 4 : Nat) : Int)) (aAdd_n (a := i) (b := 4) (by omega)) ?_
        refine TT.sld (cd := cd112) (i + 4) rfl rfl rfl (by omega) ?_
        refine TT.steps (cd := cd112) 4 (c' := (74, [(3, 0), (2, 0), (2, 295), (0, ((i : Nat) : Int))], [(0, (aAdd ((i : Nat) : Int) 5)), (3, 0), (0, (X.2 (i + 4))), (0, (X.2 (i + 3))), (0, (X.2 (i + 2))), (0, (X.2 (i + 1))), (2, 295), (0, z3)], σ3)) rfl rfl ?_
        refine TT.top0 (z := ((i + 5 : Nat) : Int)) (aAdd_n (a := i) (b := 5) (by omega)) ?_
        refine TT.sld (cd := cd112) (i + 5) rfl rfl rfl (by omega) ?_
        refine TT.call (cd := cd112) rfl rfl rfl (by decide) rfl (dt3) (fun r4 σ4 hq => ?_)
        rw [hq.1, hq.2]
        refine TT.steps (cd := cd112) 1 (c' := ((if decide (z3 = z3) = true then 906 else 77), [(3, 0), (2, 0), (2, 295), (0, ((i : Nat) : Int))], [], σz3)) rfl rfl ?_
        refine TT.br (p := z3 = z3) (fun h5 => ?_) (fun h5 => absurd (show z3 = z3 by rfl) h5)
        refine TT.inc (cd := cd112) ((i + 6 : Nat) : Int) rfl rfl rfl rfl (fun h => absurd h.2 (show ¬ (2 = 1) by decide)) (aAdd_n (a := i) (b := 6) (by omega)) (ls' := [(3, 0), (2, 0), (2, 295), (0, ((i + 6 : Nat) : Int))]) rfl ?_
        refine TT.steps (cd := cd112) 1 (c' := (10, [(3, 0), (2, 0), (2, 295), (0, ((i + 6 : Nat) : Int))], [], σz3)) rfl rfl ?_
        exact ih (i + 6) (by omega) _ (by omega) hI3
      refine TT.swc (fun h6 => ?_) (fun h6 => ?_)
      · refine TT.steps (cd := cd112) 5 (c' := (84, [(3, 0), (2, 0), (2, 295), (0, ((i : Nat) : Int))], [(0, (aAdd ((i : Nat) : Int) 1)), (3, 0), (2, 0)], σ)) rfl rfl ?_
        refine TT.top0 (z := ((i + 1 : Nat) : Int)) (aAdd_n (a := i) (b := 1) (by omega)) ?_
        refine TT.sld (cd := cd112) (i + 1) rfl rfl rfl (by omega) ?_
        refine TT.call (cd := cd112) rfl rfl rfl (by decide) rfl (PP_end X hI (X.2 (i + 1))) (fun r7 σ7 hq => ?_)
        obtain ⟨r2_7, σz7, ⟨⟨z7, hz1, hz2⟩, hI7⟩, dt7⟩ := TT.ex hq
        subst hz1
        subst hz2
        refine TT.steps (cd := cd112) 5 (c' := (91, [(3, 0), (2, 0), (2, 295), (0, ((i : Nat) : Int))], [(0, (aAdd ((i : Nat) : Int) 1)), (3, 0), (2, 295), (0, z7)], σ7)) rfl rfl ?_
        refine TT.top0 (z := ((i + 1 : Nat) : Int)) (aAdd_n (a := i) (b := 1) (by omega)) ?_
        refine TT.sld (cd := cd112) (i + 1) rfl rfl rfl (by omega) ?_
        refine TT.call (cd := cd112) rfl rfl rfl (by decide) rfl (dt7) (fun r8 σ8 hq => ?_)
        rw [hq.1, hq.2]
        refine TT.steps (cd := cd112) 1 (c' := ((if decide (z7 = z7) = true then 906 else 94), [(3, 0), (2, 0), (2, 295), (0, ((i : Nat) : Int))], [], σz7)) rfl rfl ?_
        refine TT.br (p := z7 = z7) (fun h9 => ?_) (fun h9 => absurd (show z7 = z7 by rfl) h9)
        refine TT.inc (cd := cd112) ((i + 6 : Nat) : Int) rfl rfl rfl rfl (fun h => absurd h.2 (show ¬ (2 = 1) by decide)) (aAdd_n (a := i) (b := 6) (by omega)) (ls' := [(3, 0), (2, 0), (2, 295), (0, ((i + 6 : Nat) : Int))]) rfl ?_
        refine TT.steps (cd := cd112) 1 (c' := (10, [(3, 0), (2, 0), (2, 295), (0, ((i + 6 : Nat) : Int))], [], σz7)) rfl rfl ?_
        exact ih (i + 6) (by omega) _ (by omega) hI7
      refine TT.swc (fun h10 => ?_) (fun h10 => ?_)
      · refine TT.steps (cd := cd112) 1 (c' := (97, [(3, 0), (2, 0), (2, 295), (0, ((i : Nat) : Int))], [(2, 0)], σ)) rfl rfl ?_
        refine TT.call (cd := cd112) rfl rfl rfl (by decide) rfl (PP_line X hI ) (fun r11 σ11 hq => ?_)
        obtain ⟨r2_11, σz11, ⟨⟨z11, hz1, hz2⟩, hI11⟩, dt11⟩ := TT.ex hq
        subst hz1
        subst hz2
        refine TT.steps (cd := cd112) 1 (c' := (99, [(3, 0), (2, 0), (2, 295), (0, ((i : Nat) : Int))], [(2, 295), (0, z11)], σ11)) rfl rfl ?_
        refine TT.call (cd := cd112) rfl rfl rfl (by decide) rfl (dt11) (fun r12 σ12 hq => ?_)
        rw [hq.1, hq.2]
        refine TT.steps (cd := cd112) 1 (c' := ((if decide (z11 = z11) = true then 906 else 101), [(3, 0), (2, 0), (2, 295), (0, ((i : Nat) : Int))], [], σz11)) rfl rfl ?_
        refine TT.br (p := z11 = z11) (fun h13 => ?_) (fun h13 => absurd (show z11 = z11 by rfl) h13)
        refine TT.inc (cd := cd112) ((i + 6 : Nat) : Int) rfl rfl rfl rfl (fun h => absurd h.2 (show ¬ (2 = 1) by decide)) (aAdd_n (a := i) (b := 6) (by omega)) (ls' := [(3, 0), (2, 0), (2, 295), (0, ((i + 6 : Nat) : Int))]) rfl ?_
        refine TT.steps (cd := cd112) 1 (c' := (10, [(3, 0), (2, 0), (2, 295), (0, ((i + 6 : Nat) : Int))], [], σz11)) rfl rfl ?_
        exact ih (i + 6) (by omega) _ (by omega) hI11
      refine TT.swc (fun h14 => ?_) (fun h14 => ?_)
      · refine TT.steps (cd := cd112) 5 (c' := (108, [(3, 0), (2, 0), (2, 295), (0, ((i : Nat) : Int))], [(0, (aAdd ((i : Nat) : Int) 1)), (3, 0), (2, 0)], σ)) rfl rfl ?_
        refine TT.top0 (z := ((i + 1 : Nat) : Int)) (aAdd_n (a := i) (b := 1) (by omega)) ?_
        refine TT.sld (cd := cd112) (i + 1) rfl rfl rfl (by omega) ?_
        refine TT.call (cd := cd112) rfl rfl rfl (by decide) rfl (PP_fault X hI (X.2 (i + 1))) (fun r15 σ15 hq => ?_)
        obtain ⟨r2_15, σz15, ⟨⟨z15, hz1, hz2⟩, hI15⟩, dt15⟩ := TT.ex hq
        subst hz1
        subst hz2
        refine TT.steps (cd := cd112) 5 (c' := (115, [(3, 0), (2, 0), (2, 295), (0, ((i : Nat) : Int))], [(0, (aAdd ((i : Nat) : Int) 1)), (3, 0), (2, 295), (0, z15)], σ15)) rfl rfl ?_
        refine TT.top0 (z := ((i + 1 : Nat) : Int)) (aAdd_n (a := i) (b := 1) (by omega)) ?_
        refine TT.sld (cd := cd112) (i + 1) rfl rfl rfl (by omega) ?_
        refine TT.call (cd := cd112) rfl rfl rfl (by decide) rfl (dt15) (fun r16 σ16 hq => ?_)
        rw [hq.1, hq.2]
        refine TT.steps (cd := cd112) 1 (c' := ((if decide (z15 = z15) = true then 906 else 118), [(3, 0), (2, 0), (2, 295), (0, ((i : Nat) : Int))], [], σz15)) rfl rfl ?_
        refine TT.br (p := z15 = z15) (fun h17 => ?_) (fun h17 => absurd (show z15 = z15 by rfl) h17)
        refine TT.inc (cd := cd112) ((i + 6 : Nat) : Int) rfl rfl rfl rfl (fun h => absurd h.2 (show ¬ (2 = 1) by decide)) (aAdd_n (a := i) (b := 6) (by omega)) (ls' := [(3, 0), (2, 0), (2, 295), (0, ((i + 6 : Nat) : Int))]) rfl ?_
        refine TT.steps (cd := cd112) 1 (c' := (10, [(3, 0), (2, 0), (2, 295), (0, ((i + 6 : Nat) : Int))], [], σz15)) rfl rfl ?_
        exact ih (i + 6) (by omega) _ (by omega) hI15
      refine TT.swc (fun h18 => ?_) (fun h18 => ?_)
      · refine TT.steps (cd := cd112) 5 (c' := (125, [(3, 0), (2, 0), (2, 295), (0, ((i : Nat) : Int))], [(0, (aAdd ((i : Nat) : Int) 1)), (3, 0), (2, 0)], σ)) rfl rfl ?_
        refine TT.top0 (z := ((i + 1 : Nat) : Int)) (aAdd_n (a := i) (b := 1) (by omega)) ?_
        refine TT.sld (cd := cd112) (i + 1) rfl rfl rfl (by omega) ?_
        refine TT.call (cd := cd112) rfl rfl rfl (by decide) rfl (PP_has X hI (X.2 (i + 1))) (fun r19 σ19 hq => ?_)
        obtain ⟨r2_19, σz19, ⟨⟨z19, hz1, hz2⟩, hI19⟩, dt19⟩ := TT.ex hq
        subst hz1
        subst hz2
        refine TT.steps (cd := cd112) 5 (c' := (132, [(3, 0), (2, 0), (2, 295), (0, ((i : Nat) : Int))], [(0, (aAdd ((i : Nat) : Int) 1)), (3, 0), (2, 295), (0, z19)], σ19)) rfl rfl ?_
        refine TT.top0 (z := ((i + 1 : Nat) : Int)) (aAdd_n (a := i) (b := 1) (by omega)) ?_
        refine TT.sld (cd := cd112) (i + 1) rfl rfl rfl (by omega) ?_
        refine TT.call (cd := cd112) rfl rfl rfl (by decide) rfl (dt19) (fun r20 σ20 hq => ?_)
        rw [hq.1, hq.2]
        refine TT.steps (cd := cd112) 1 (c' := ((if decide (z19 = z19) = true then 906 else 135), [(3, 0), (2, 0), (2, 295), (0, ((i : Nat) : Int))], [], σz19)) rfl rfl ?_
        refine TT.br (p := z19 = z19) (fun h21 => ?_) (fun h21 => absurd (show z19 = z19 by rfl) h21)
        refine TT.inc (cd := cd112) ((i + 6 : Nat) : Int) rfl rfl rfl rfl (fun h => absurd h.2 (show ¬ (2 = 1) by decide)) (aAdd_n (a := i) (b := 6) (by omega)) (ls' := [(3, 0), (2, 0), (2, 295), (0, ((i + 6 : Nat) : Int))]) rfl ?_
        refine TT.steps (cd := cd112) 1 (c' := (10, [(3, 0), (2, 0), (2, 295), (0, ((i + 6 : Nat) : Int))], [], σz19)) rfl rfl ?_
        exact ih (i + 6) (by omega) _ (by omega) hI19
      refine TT.swc (fun h22 => ?_) (fun h22 => ?_)
      · refine TT.steps (cd := cd112) 5 (c' := (142, [(3, 0), (2, 0), (2, 295), (0, ((i : Nat) : Int))], [(0, (aAdd ((i : Nat) : Int) 1)), (3, 0), (2, 0)], σ)) rfl rfl ?_
        refine TT.top0 (z := ((i + 1 : Nat) : Int)) (aAdd_n (a := i) (b := 1) (by omega)) ?_
        refine TT.sld (cd := cd112) (i + 1) rfl rfl rfl (by omega) ?_
        refine TT.steps (cd := cd112) 4 (c' := (147, [(3, 0), (2, 0), (2, 295), (0, ((i : Nat) : Int))], [(0, (aAdd ((i : Nat) : Int) 2)), (3, 0), (0, (X.2 (i + 1))), (2, 0)], σ)) rfl rfl ?_
        refine TT.top0 (z := ((i + 2 : Nat) : Int)) (aAdd_n (a := i) (b := 2) (by omega)) ?_
        refine TT.sld (cd := cd112) (i + 2) rfl rfl rfl (by omega) ?_
        refine TT.steps (cd := cd112) 4 (c' := (152, [(3, 0), (2, 0), (2, 295), (0, ((i : Nat) : Int))], [(0, (aAdd ((i : Nat) : Int) 3)), (3, 0), (0, (X.2 (i + 2))), (0, (X.2 (i + 1))), (2, 0)], σ)) rfl rfl ?_
        refine TT.top0 (z := ((i + 3 : Nat) : Int)) (aAdd_n (a := i) (b := 3) (by omega)) ?_
        refine TT.sld (cd := cd112) (i + 3) rfl rfl rfl (by omega) ?_
        refine TT.call (cd := cd112) rfl rfl rfl (by decide) rfl (PP_letter X hI (X.2 (i + 1)) (X.2 (i + 2)) (X.2 (i + 3))) (fun r23 σ23 hq => ?_)
        obtain ⟨r2_23, σz23, ⟨⟨z23, hz1, hz2⟩, hI23⟩, dt23⟩ := TT.ex hq
        subst hz1
        subst hz2
        refine TT.steps (cd := cd112) 5 (c' := (159, [(3, 0), (2, 0), (2, 295), (0, ((i : Nat) : Int))], [(0, (aAdd ((i : Nat) : Int) 1)), (3, 0), (2, 295), (0, z23)], σ23)) rfl rfl ?_
        refine TT.top0 (z := ((i + 1 : Nat) : Int)) (aAdd_n (a := i) (b := 1) (by omega)) ?_
        refine TT.sld (cd := cd112) (i + 1) rfl rfl rfl (by omega) ?_
        refine TT.steps (cd := cd112) 4 (c' := (164, [(3, 0), (2, 0), (2, 295), (0, ((i : Nat) : Int))], [(0, (aAdd ((i : Nat) : Int) 2)), (3, 0), (0, (X.2 (i + 1))), (2, 295), (0, z23)], σ23)) rfl rfl ?_
        refine TT.top0 (z := ((i + 2 : Nat) : Int)) (aAdd_n (a := i) (b := 2) (by omega)) ?_
        refine TT.sld (cd := cd112) (i + 2) rfl rfl rfl (by omega) ?_
        refine TT.steps (cd := cd112) 4 (c' := (169, [(3, 0), (2, 0), (2, 295), (0, ((i : Nat) : Int))], [(0, (aAdd ((i : Nat) : Int) 3)), (3, 0), (0, (X.2 (i + 2))), (0, (X.2 (i + 1))), (2, 295), (0, z23)], σ23)) rfl rfl ?_
        refine TT.top0 (z := ((i + 3 : Nat) : Int)) (aAdd_n (a := i) (b := 3) (by omega)) ?_
        refine TT.sld (cd := cd112) (i + 3) rfl rfl rfl (by omega) ?_
        refine TT.call (cd := cd112) rfl rfl rfl (by decide) rfl (dt23) (fun r24 σ24 hq => ?_)
        rw [hq.1, hq.2]
        refine TT.steps (cd := cd112) 1 (c' := ((if decide (z23 = z23) = true then 906 else 172), [(3, 0), (2, 0), (2, 295), (0, ((i : Nat) : Int))], [], σz23)) rfl rfl ?_
        refine TT.br (p := z23 = z23) (fun h25 => ?_) (fun h25 => absurd (show z23 = z23 by rfl) h25)
        refine TT.inc (cd := cd112) ((i + 6 : Nat) : Int) rfl rfl rfl rfl (fun h => absurd h.2 (show ¬ (2 = 1) by decide)) (aAdd_n (a := i) (b := 6) (by omega)) (ls' := [(3, 0), (2, 0), (2, 295), (0, ((i + 6 : Nat) : Int))]) rfl ?_
        refine TT.steps (cd := cd112) 1 (c' := (10, [(3, 0), (2, 0), (2, 295), (0, ((i + 6 : Nat) : Int))], [], σz23)) rfl rfl ?_
        exact ih (i + 6) (by omega) _ (by omega) hI23
      refine TT.swc (fun h26 => ?_) (fun h26 => ?_)
      · refine TT.steps (cd := cd112) 5 (c' := (179, [(3, 0), (2, 0), (2, 295), (0, ((i : Nat) : Int))], [(0, (aAdd ((i : Nat) : Int) 1)), (3, 0), (2, 0)], σ)) rfl rfl ?_
        refine TT.top0 (z := ((i + 1 : Nat) : Int)) (aAdd_n (a := i) (b := 1) (by omega)) ?_
        refine TT.sld (cd := cd112) (i + 1) rfl rfl rfl (by omega) ?_
        refine TT.steps (cd := cd112) 4 (c' := (184, [(3, 0), (2, 0), (2, 295), (0, ((i : Nat) : Int))], [(0, (aAdd ((i : Nat) : Int) 2)), (3, 0), (0, (X.2 (i + 1))), (2, 0)], σ)) rfl rfl ?_
        refine TT.top0 (z := ((i + 2 : Nat) : Int)) (aAdd_n (a := i) (b := 2) (by omega)) ?_
        refine TT.sld (cd := cd112) (i + 2) rfl rfl rfl (by omega) ?_
        refine TT.call (cd := cd112) rfl rfl rfl (by decide) rfl (PP_station X hI (X.2 (i + 1)) (X.2 (i + 2))) (fun r27 σ27 hq => ?_)
        obtain ⟨r2_27, σz27, ⟨⟨z27, hz1, hz2⟩, hI27⟩, dt27⟩ := TT.ex hq
        subst hz1
        subst hz2
        refine TT.steps (cd := cd112) 5 (c' := (191, [(3, 0), (2, 0), (2, 295), (0, ((i : Nat) : Int))], [(0, (aAdd ((i : Nat) : Int) 1)), (3, 0), (2, 295), (0, z27)], σ27)) rfl rfl ?_
        refine TT.top0 (z := ((i + 1 : Nat) : Int)) (aAdd_n (a := i) (b := 1) (by omega)) ?_
        refine TT.sld (cd := cd112) (i + 1) rfl rfl rfl (by omega) ?_
        refine TT.steps (cd := cd112) 4 (c' := (196, [(3, 0), (2, 0), (2, 295), (0, ((i : Nat) : Int))], [(0, (aAdd ((i : Nat) : Int) 2)), (3, 0), (0, (X.2 (i + 1))), (2, 295), (0, z27)], σ27)) rfl rfl ?_
        refine TT.top0 (z := ((i + 2 : Nat) : Int)) (aAdd_n (a := i) (b := 2) (by omega)) ?_
        refine TT.sld (cd := cd112) (i + 2) rfl rfl rfl (by omega) ?_
        refine TT.call (cd := cd112) rfl rfl rfl (by decide) rfl (dt27) (fun r28 σ28 hq => ?_)
        rw [hq.1, hq.2]
        refine TT.steps (cd := cd112) 1 (c' := ((if decide (z27 = z27) = true then 906 else 199), [(3, 0), (2, 0), (2, 295), (0, ((i : Nat) : Int))], [], σz27)) rfl rfl ?_
        refine TT.br (p := z27 = z27) (fun h29 => ?_) (fun h29 => absurd (show z27 = z27 by rfl) h29)
        refine TT.inc (cd := cd112) ((i + 6 : Nat) : Int) rfl rfl rfl rfl (fun h => absurd h.2 (show ¬ (2 = 1) by decide)) (aAdd_n (a := i) (b := 6) (by omega)) (ls' := [(3, 0), (2, 0), (2, 295), (0, ((i + 6 : Nat) : Int))]) rfl ?_
        refine TT.steps (cd := cd112) 1 (c' := (10, [(3, 0), (2, 0), (2, 295), (0, ((i + 6 : Nat) : Int))], [], σz27)) rfl rfl ?_
        exact ih (i + 6) (by omega) _ (by omega) hI27
      refine TT.swc (fun h30 => ?_) (fun h30 => ?_)
      · refine TT.steps (cd := cd112) 5 (c' := (206, [(3, 0), (2, 0), (2, 295), (0, ((i : Nat) : Int))], [(0, (aAdd ((i : Nat) : Int) 1)), (3, 0), (2, 0)], σ)) rfl rfl ?_
        refine TT.top0 (z := ((i + 1 : Nat) : Int)) (aAdd_n (a := i) (b := 1) (by omega)) ?_
        refine TT.sld (cd := cd112) (i + 1) rfl rfl rfl (by omega) ?_
        refine TT.steps (cd := cd112) 4 (c' := (211, [(3, 0), (2, 0), (2, 295), (0, ((i : Nat) : Int))], [(0, (aAdd ((i : Nat) : Int) 2)), (3, 0), (0, (X.2 (i + 1))), (2, 0)], σ)) rfl rfl ?_
        refine TT.top0 (z := ((i + 2 : Nat) : Int)) (aAdd_n (a := i) (b := 2) (by omega)) ?_
        refine TT.sld (cd := cd112) (i + 2) rfl rfl rfl (by omega) ?_
        refine TT.call (cd := cd112) rfl rfl rfl (by decide) rfl (PP_train X hI (X.2 (i + 1)) (X.2 (i + 2)) (hX _).2) (fun r31 σ31 hq => ?_)
        obtain ⟨r2_31, σz31, ⟨⟨z31, hz1, hz2⟩, hI31⟩, dt31⟩ := TT.ex hq
        subst hz1
        subst hz2
        refine TT.steps (cd := cd112) 5 (c' := (218, [(3, 0), (2, 0), (2, 295), (0, ((i : Nat) : Int))], [(0, (aAdd ((i : Nat) : Int) 1)), (3, 0), (2, 295), (0, z31)], σ31)) rfl rfl ?_
        refine TT.top0 (z := ((i + 1 : Nat) : Int)) (aAdd_n (a := i) (b := 1) (by omega)) ?_
        refine TT.sld (cd := cd112) (i + 1) rfl rfl rfl (by omega) ?_
        refine TT.steps (cd := cd112) 4 (c' := (223, [(3, 0), (2, 0), (2, 295), (0, ((i : Nat) : Int))], [(0, (aAdd ((i : Nat) : Int) 2)), (3, 0), (0, (X.2 (i + 1))), (2, 295), (0, z31)], σ31)) rfl rfl ?_
        refine TT.top0 (z := ((i + 2 : Nat) : Int)) (aAdd_n (a := i) (b := 2) (by omega)) ?_
        refine TT.sld (cd := cd112) (i + 2) rfl rfl rfl (by omega) ?_
        refine TT.call (cd := cd112) rfl rfl rfl (by decide) rfl (dt31) (fun r32 σ32 hq => ?_)
        rw [hq.1, hq.2]
        refine TT.steps (cd := cd112) 1 (c' := ((if decide (z31 = z31) = true then 906 else 226), [(3, 0), (2, 0), (2, 295), (0, ((i : Nat) : Int))], [], σz31)) rfl rfl ?_
        refine TT.br (p := z31 = z31) (fun h33 => ?_) (fun h33 => absurd (show z31 = z31 by rfl) h33)
        refine TT.inc (cd := cd112) ((i + 6 : Nat) : Int) rfl rfl rfl rfl (fun h => absurd h.2 (show ¬ (2 = 1) by decide)) (aAdd_n (a := i) (b := 6) (by omega)) (ls' := [(3, 0), (2, 0), (2, 295), (0, ((i + 6 : Nat) : Int))]) rfl ?_
        refine TT.steps (cd := cd112) 1 (c' := (10, [(3, 0), (2, 0), (2, 295), (0, ((i + 6 : Nat) : Int))], [], σz31)) rfl rfl ?_
        exact ih (i + 6) (by omega) _ (by omega) hI31
      refine TT.swc (fun h34 => ?_) (fun h34 => ?_)
      · refine TT.steps (cd := cd112) 5 (c' := (233, [(3, 0), (2, 0), (2, 295), (0, ((i : Nat) : Int))], [(0, (aAdd ((i : Nat) : Int) 1)), (3, 0), (2, 0)], σ)) rfl rfl ?_
        refine TT.top0 (z := ((i + 1 : Nat) : Int)) (aAdd_n (a := i) (b := 1) (by omega)) ?_
        refine TT.sld (cd := cd112) (i + 1) rfl rfl rfl (by omega) ?_
        refine TT.steps (cd := cd112) 4 (c' := (238, [(3, 0), (2, 0), (2, 295), (0, ((i : Nat) : Int))], [(0, (aAdd ((i : Nat) : Int) 2)), (3, 0), (0, (X.2 (i + 1))), (2, 0)], σ)) rfl rfl ?_
        refine TT.top0 (z := ((i + 2 : Nat) : Int)) (aAdd_n (a := i) (b := 2) (by omega)) ?_
        refine TT.sld (cd := cd112) (i + 2) rfl rfl rfl (by omega) ?_
        refine TT.call (cd := cd112) rfl rfl rfl (by decide) rfl (PP_person X hI (X.2 (i + 1)) (X.2 (i + 2))) (fun r35 σ35 hq => ?_)
        obtain ⟨r2_35, σz35, ⟨⟨z35, hz1, hz2⟩, hI35⟩, dt35⟩ := TT.ex hq
        subst hz1
        subst hz2
        refine TT.steps (cd := cd112) 5 (c' := (245, [(3, 0), (2, 0), (2, 295), (0, ((i : Nat) : Int))], [(0, (aAdd ((i : Nat) : Int) 1)), (3, 0), (2, 295), (0, z35)], σ35)) rfl rfl ?_
        refine TT.top0 (z := ((i + 1 : Nat) : Int)) (aAdd_n (a := i) (b := 1) (by omega)) ?_
        refine TT.sld (cd := cd112) (i + 1) rfl rfl rfl (by omega) ?_
        refine TT.steps (cd := cd112) 4 (c' := (250, [(3, 0), (2, 0), (2, 295), (0, ((i : Nat) : Int))], [(0, (aAdd ((i : Nat) : Int) 2)), (3, 0), (0, (X.2 (i + 1))), (2, 295), (0, z35)], σ35)) rfl rfl ?_
        refine TT.top0 (z := ((i + 2 : Nat) : Int)) (aAdd_n (a := i) (b := 2) (by omega)) ?_
        refine TT.sld (cd := cd112) (i + 2) rfl rfl rfl (by omega) ?_
        refine TT.call (cd := cd112) rfl rfl rfl (by decide) rfl (dt35) (fun r36 σ36 hq => ?_)
        rw [hq.1, hq.2]
        refine TT.steps (cd := cd112) 1 (c' := ((if decide (z35 = z35) = true then 906 else 253), [(3, 0), (2, 0), (2, 295), (0, ((i : Nat) : Int))], [], σz35)) rfl rfl ?_
        refine TT.br (p := z35 = z35) (fun h37 => ?_) (fun h37 => absurd (show z35 = z35 by rfl) h37)
        refine TT.inc (cd := cd112) ((i + 6 : Nat) : Int) rfl rfl rfl rfl (fun h => absurd h.2 (show ¬ (2 = 1) by decide)) (aAdd_n (a := i) (b := 6) (by omega)) (ls' := [(3, 0), (2, 0), (2, 295), (0, ((i + 6 : Nat) : Int))]) rfl ?_
        refine TT.steps (cd := cd112) 1 (c' := (10, [(3, 0), (2, 0), (2, 295), (0, ((i + 6 : Nat) : Int))], [], σz35)) rfl rfl ?_
        exact ih (i + 6) (by omega) _ (by omega) hI35
      refine TT.swc (fun h38 => ?_) (fun h38 => ?_)
      · by_cases hz : X.2 (i + 2) = 0
        · refine TT.steps (cd := cd112) 5 (c' := (260, [(3, 0), (2, 0), (2, 295), (0, ((i : Nat) : Int))], [(0, (aAdd ((i : Nat) : Int) 1)), (3, 0), (2, 0)], σ)) rfl rfl ?_
          refine TT.top0 (z := ((i + 1 : Nat) : Int)) (aAdd_n (a := i) (b := 1) (by omega)) ?_
          refine TT.sld (cd := cd112) (i + 1) rfl rfl rfl (by omega) ?_
          refine TT.steps (cd := cd112) 4 (c' := (265, [(3, 0), (2, 0), (2, 295), (0, ((i : Nat) : Int))], [(0, (aAdd ((i : Nat) : Int) 2)), (3, 0), (0, (X.2 (i + 1))), (2, 0)], σ)) rfl rfl ?_
          refine TT.top0 (z := ((i + 2 : Nat) : Int)) (aAdd_n (a := i) (b := 2) (by omega)) ?_
          refine TT.sld (cd := cd112) (i + 2) rfl rfl rfl (by omega) ?_
          refine TT.steps (cd := cd112) 1 (c' := ((if decide ((X.2 (i + 2)) = 0) = true then 269 else 267), [(3, 0), (2, 0), (2, 295), (0, ((i : Nat) : Int))], [(0, (X.2 (i + 1))), (2, 0)], σ)) rfl rfl ?_
          refine TT.br (p := (X.2 (i + 2)) = 0) (fun h39 => ?_) (fun h39 => absurd (show (X.2 (i + 2)) = 0 by exact hz) h39)
          refine TT.steps (cd := cd112) 1 (c' := (270, [(3, 0), (2, 0), (2, 295), (0, ((i : Nat) : Int))], [(0, 0), (0, (X.2 (i + 1))), (2, 0)], σ)) rfl rfl ?_
          refine TT.call (cd := cd112) rfl rfl rfl (by decide) rfl (PP_hire X hI (X.2 (i + 1)) 0 (by first | exact Or.inl rfl | exact Or.inr rfl)) (fun r40 σ40 hq => ?_)
          obtain ⟨r2_40, σz40, ⟨⟨z40, hz1, hz2⟩, hI40⟩, dt40⟩ := TT.ex hq
          subst hz1
          subst hz2
          refine TT.steps (cd := cd112) 5 (c' := (276, [(3, 0), (2, 0), (2, 295), (0, ((i : Nat) : Int))], [(0, (aAdd ((i : Nat) : Int) 1)), (3, 0), (2, 295), (0, z40)], σ40)) rfl rfl ?_
          refine TT.top0 (z := ((i + 1 : Nat) : Int)) (aAdd_n (a := i) (b := 1) (by omega)) ?_
          refine TT.sld (cd := cd112) (i + 1) rfl rfl rfl (by omega) ?_
          refine TT.steps (cd := cd112) 4 (c' := (281, [(3, 0), (2, 0), (2, 295), (0, ((i : Nat) : Int))], [(0, (aAdd ((i : Nat) : Int) 2)), (3, 0), (0, (X.2 (i + 1))), (2, 295), (0, z40)], σ40)) rfl rfl ?_
          refine TT.top0 (z := ((i + 2 : Nat) : Int)) (aAdd_n (a := i) (b := 2) (by omega)) ?_
          refine TT.sld (cd := cd112) (i + 2) rfl rfl rfl (by omega) ?_
          refine TT.steps (cd := cd112) 1 (c' := ((if decide ((X.2 (i + 2)) = 0) = true then 285 else 283), [(3, 0), (2, 0), (2, 295), (0, ((i : Nat) : Int))], [(0, (X.2 (i + 1))), (2, 295), (0, z40)], σ40)) rfl rfl ?_
          refine TT.br (p := (X.2 (i + 2)) = 0) (fun h41 => ?_) (fun h41 => absurd (show (X.2 (i + 2)) = 0 by exact hz) h41)
          refine TT.steps (cd := cd112) 1 (c' := (286, [(3, 0), (2, 0), (2, 295), (0, ((i : Nat) : Int))], [(0, 0), (0, (X.2 (i + 1))), (2, 295), (0, z40)], σ40)) rfl rfl ?_
          refine TT.call (cd := cd112) rfl rfl rfl (by decide) rfl (dt40) (fun r42 σ42 hq => ?_)
          rw [hq.1, hq.2]
          refine TT.steps (cd := cd112) 1 (c' := ((if decide (z40 = z40) = true then 906 else 288), [(3, 0), (2, 0), (2, 295), (0, ((i : Nat) : Int))], [], σz40)) rfl rfl ?_
          refine TT.br (p := z40 = z40) (fun h43 => ?_) (fun h43 => absurd (show z40 = z40 by rfl) h43)
          refine TT.inc (cd := cd112) ((i + 6 : Nat) : Int) rfl rfl rfl rfl (fun h => absurd h.2 (show ¬ (2 = 1) by decide)) (aAdd_n (a := i) (b := 6) (by omega)) (ls' := [(3, 0), (2, 0), (2, 295), (0, ((i + 6 : Nat) : Int))]) rfl ?_
          refine TT.steps (cd := cd112) 1 (c' := (10, [(3, 0), (2, 0), (2, 295), (0, ((i + 6 : Nat) : Int))], [], σz40)) rfl rfl ?_
          exact ih (i + 6) (by omega) _ (by omega) hI40
        · refine TT.steps (cd := cd112) 5 (c' := (260, [(3, 0), (2, 0), (2, 295), (0, ((i : Nat) : Int))], [(0, (aAdd ((i : Nat) : Int) 1)), (3, 0), (2, 0)], σ)) rfl rfl ?_
          refine TT.top0 (z := ((i + 1 : Nat) : Int)) (aAdd_n (a := i) (b := 1) (by omega)) ?_
          refine TT.sld (cd := cd112) (i + 1) rfl rfl rfl (by omega) ?_
          refine TT.steps (cd := cd112) 4 (c' := (265, [(3, 0), (2, 0), (2, 295), (0, ((i : Nat) : Int))], [(0, (aAdd ((i : Nat) : Int) 2)), (3, 0), (0, (X.2 (i + 1))), (2, 0)], σ)) rfl rfl ?_
          refine TT.top0 (z := ((i + 2 : Nat) : Int)) (aAdd_n (a := i) (b := 2) (by omega)) ?_
          refine TT.sld (cd := cd112) (i + 2) rfl rfl rfl (by omega) ?_
          refine TT.steps (cd := cd112) 1 (c' := ((if decide ((X.2 (i + 2)) = 0) = true then 269 else 267), [(3, 0), (2, 0), (2, 295), (0, ((i : Nat) : Int))], [(0, (X.2 (i + 1))), (2, 0)], σ)) rfl rfl ?_
          refine TT.br (p := (X.2 (i + 2)) = 0) (fun h44 => absurd h44 (show ¬ ((X.2 (i + 2)) = 0) by exact hz)) (fun h44 => ?_)
          refine TT.steps (cd := cd112) 2 (c' := (270, [(3, 0), (2, 0), (2, 295), (0, ((i : Nat) : Int))], [(0, 1), (0, (X.2 (i + 1))), (2, 0)], σ)) rfl rfl ?_
          refine TT.call (cd := cd112) rfl rfl rfl (by decide) rfl (PP_hire X hI (X.2 (i + 1)) 1 (by first | exact Or.inl rfl | exact Or.inr rfl)) (fun r45 σ45 hq => ?_)
          obtain ⟨r2_45, σz45, ⟨⟨z45, hz1, hz2⟩, hI45⟩, dt45⟩ := TT.ex hq
          subst hz1
          subst hz2
          refine TT.steps (cd := cd112) 5 (c' := (276, [(3, 0), (2, 0), (2, 295), (0, ((i : Nat) : Int))], [(0, (aAdd ((i : Nat) : Int) 1)), (3, 0), (2, 295), (0, z45)], σ45)) rfl rfl ?_
          refine TT.top0 (z := ((i + 1 : Nat) : Int)) (aAdd_n (a := i) (b := 1) (by omega)) ?_
          refine TT.sld (cd := cd112) (i + 1) rfl rfl rfl (by omega) ?_
          refine TT.steps (cd := cd112) 4 (c' := (281, [(3, 0), (2, 0), (2, 295), (0, ((i : Nat) : Int))], [(0, (aAdd ((i : Nat) : Int) 2)), (3, 0), (0, (X.2 (i + 1))), (2, 295), (0, z45)], σ45)) rfl rfl ?_
          refine TT.top0 (z := ((i + 2 : Nat) : Int)) (aAdd_n (a := i) (b := 2) (by omega)) ?_
          refine TT.sld (cd := cd112) (i + 2) rfl rfl rfl (by omega) ?_
          refine TT.steps (cd := cd112) 1 (c' := ((if decide ((X.2 (i + 2)) = 0) = true then 285 else 283), [(3, 0), (2, 0), (2, 295), (0, ((i : Nat) : Int))], [(0, (X.2 (i + 1))), (2, 295), (0, z45)], σ45)) rfl rfl ?_
          refine TT.br (p := (X.2 (i + 2)) = 0) (fun h46 => absurd h46 (show ¬ ((X.2 (i + 2)) = 0) by exact hz)) (fun h46 => ?_)
          refine TT.steps (cd := cd112) 2 (c' := (286, [(3, 0), (2, 0), (2, 295), (0, ((i : Nat) : Int))], [(0, 1), (0, (X.2 (i + 1))), (2, 295), (0, z45)], σ45)) rfl rfl ?_
          refine TT.call (cd := cd112) rfl rfl rfl (by decide) rfl (dt45) (fun r47 σ47 hq => ?_)
          rw [hq.1, hq.2]
          refine TT.steps (cd := cd112) 1 (c' := ((if decide (z45 = z45) = true then 906 else 288), [(3, 0), (2, 0), (2, 295), (0, ((i : Nat) : Int))], [], σz45)) rfl rfl ?_
          refine TT.br (p := z45 = z45) (fun h48 => ?_) (fun h48 => absurd (show z45 = z45 by rfl) h48)
          refine TT.inc (cd := cd112) ((i + 6 : Nat) : Int) rfl rfl rfl rfl (fun h => absurd h.2 (show ¬ (2 = 1) by decide)) (aAdd_n (a := i) (b := 6) (by omega)) (ls' := [(3, 0), (2, 0), (2, 295), (0, ((i + 6 : Nat) : Int))]) rfl ?_
          refine TT.steps (cd := cd112) 1 (c' := (10, [(3, 0), (2, 0), (2, 295), (0, ((i + 6 : Nat) : Int))], [], σz45)) rfl rfl ?_
          exact ih (i + 6) (by omega) _ (by omega) hI45
      refine TT.swc (fun h49 => ?_) (fun h49 => ?_)
      · refine TT.steps (cd := cd112) 5 (c' := (295, [(3, 0), (2, 0), (2, 295), (0, ((i : Nat) : Int))], [(0, (aAdd ((i : Nat) : Int) 1)), (3, 0), (2, 0)], σ)) rfl rfl ?_
        refine TT.top0 (z := ((i + 1 : Nat) : Int)) (aAdd_n (a := i) (b := 1) (by omega)) ?_
        refine TT.sld (cd := cd112) (i + 1) rfl rfl rfl (by omega) ?_
        refine TT.steps (cd := cd112) 4 (c' := (300, [(3, 0), (2, 0), (2, 295), (0, ((i : Nat) : Int))], [(0, (aAdd ((i : Nat) : Int) 2)), (3, 0), (0, (X.2 (i + 1))), (2, 0)], σ)) rfl rfl ?_
        refine TT.top0 (z := ((i + 2 : Nat) : Int)) (aAdd_n (a := i) (b := 2) (by omega)) ?_
        refine TT.sld (cd := cd112) (i + 2) rfl rfl rfl (by omega) ?_
        refine TT.call (cd := cd112) rfl rfl rfl (by decide) rfl (PP_wish X hI (X.2 (i + 1)) (X.2 (i + 2))) (fun r50 σ50 hq => ?_)
        obtain ⟨r2_50, σz50, ⟨⟨z50, hz1, hz2⟩, hI50⟩, dt50⟩ := TT.ex hq
        subst hz1
        subst hz2
        refine TT.steps (cd := cd112) 5 (c' := (307, [(3, 0), (2, 0), (2, 295), (0, ((i : Nat) : Int))], [(0, (aAdd ((i : Nat) : Int) 1)), (3, 0), (2, 295), (0, z50)], σ50)) rfl rfl ?_
        refine TT.top0 (z := ((i + 1 : Nat) : Int)) (aAdd_n (a := i) (b := 1) (by omega)) ?_
        refine TT.sld (cd := cd112) (i + 1) rfl rfl rfl (by omega) ?_
        refine TT.steps (cd := cd112) 4 (c' := (312, [(3, 0), (2, 0), (2, 295), (0, ((i : Nat) : Int))], [(0, (aAdd ((i : Nat) : Int) 2)), (3, 0), (0, (X.2 (i + 1))), (2, 295), (0, z50)], σ50)) rfl rfl ?_
        refine TT.top0 (z := ((i + 2 : Nat) : Int)) (aAdd_n (a := i) (b := 2) (by omega)) ?_
        refine TT.sld (cd := cd112) (i + 2) rfl rfl rfl (by omega) ?_
        refine TT.call (cd := cd112) rfl rfl rfl (by decide) rfl (dt50) (fun r51 σ51 hq => ?_)
        rw [hq.1, hq.2]
        refine TT.steps (cd := cd112) 1 (c' := ((if decide (z50 = z50) = true then 906 else 315), [(3, 0), (2, 0), (2, 295), (0, ((i : Nat) : Int))], [], σz50)) rfl rfl ?_
        refine TT.br (p := z50 = z50) (fun h52 => ?_) (fun h52 => absurd (show z50 = z50 by rfl) h52)
        refine TT.inc (cd := cd112) ((i + 6 : Nat) : Int) rfl rfl rfl rfl (fun h => absurd h.2 (show ¬ (2 = 1) by decide)) (aAdd_n (a := i) (b := 6) (by omega)) (ls' := [(3, 0), (2, 0), (2, 295), (0, ((i + 6 : Nat) : Int))]) rfl ?_
        refine TT.steps (cd := cd112) 1 (c' := (10, [(3, 0), (2, 0), (2, 295), (0, ((i + 6 : Nat) : Int))], [], σz50)) rfl rfl ?_
        exact ih (i + 6) (by omega) _ (by omega) hI50
      refine TT.swc (fun h53 => ?_) (fun h53 => ?_)
      · refine TT.steps (cd := cd112) 5 (c' := (322, [(3, 0), (2, 0), (2, 295), (0, ((i : Nat) : Int))], [(0, (aAdd ((i : Nat) : Int) 1)), (3, 0), (2, 0)], σ)) rfl rfl ?_
        refine TT.top0 (z := ((i + 1 : Nat) : Int)) (aAdd_n (a := i) (b := 1) (by omega)) ?_
        refine TT.sld (cd := cd112) (i + 1) rfl rfl rfl (by omega) ?_
        refine TT.steps (cd := cd112) 4 (c' := (327, [(3, 0), (2, 0), (2, 295), (0, ((i : Nat) : Int))], [(0, (aAdd ((i : Nat) : Int) 2)), (3, 0), (0, (X.2 (i + 1))), (2, 0)], σ)) rfl rfl ?_
        refine TT.top0 (z := ((i + 2 : Nat) : Int)) (aAdd_n (a := i) (b := 2) (by omega)) ?_
        refine TT.sld (cd := cd112) (i + 2) rfl rfl rfl (by omega) ?_
        refine TT.call (cd := cd112) rfl rfl rfl (by decide) rfl (PP_move X hI (X.2 (i + 1)) (X.2 (i + 2))) (fun r54 σ54 hq => ?_)
        obtain ⟨r2_54, σz54, ⟨⟨z54, hz1, hz2⟩, hI54⟩, dt54⟩ := TT.ex hq
        subst hz1
        subst hz2
        refine TT.steps (cd := cd112) 5 (c' := (334, [(3, 0), (2, 0), (2, 295), (0, ((i : Nat) : Int))], [(0, (aAdd ((i : Nat) : Int) 1)), (3, 0), (2, 295), (0, z54)], σ54)) rfl rfl ?_
        refine TT.top0 (z := ((i + 1 : Nat) : Int)) (aAdd_n (a := i) (b := 1) (by omega)) ?_
        refine TT.sld (cd := cd112) (i + 1) rfl rfl rfl (by omega) ?_
        refine TT.steps (cd := cd112) 4 (c' := (339, [(3, 0), (2, 0), (2, 295), (0, ((i : Nat) : Int))], [(0, (aAdd ((i : Nat) : Int) 2)), (3, 0), (0, (X.2 (i + 1))), (2, 295), (0, z54)], σ54)) rfl rfl ?_
        refine TT.top0 (z := ((i + 2 : Nat) : Int)) (aAdd_n (a := i) (b := 2) (by omega)) ?_
        refine TT.sld (cd := cd112) (i + 2) rfl rfl rfl (by omega) ?_
        refine TT.call (cd := cd112) rfl rfl rfl (by decide) rfl (dt54) (fun r55 σ55 hq => ?_)
        rw [hq.1, hq.2]
        refine TT.steps (cd := cd112) 1 (c' := ((if decide (z54 = z54) = true then 906 else 342), [(3, 0), (2, 0), (2, 295), (0, ((i : Nat) : Int))], [], σz54)) rfl rfl ?_
        refine TT.br (p := z54 = z54) (fun h56 => ?_) (fun h56 => absurd (show z54 = z54 by rfl) h56)
        refine TT.inc (cd := cd112) ((i + 6 : Nat) : Int) rfl rfl rfl rfl (fun h => absurd h.2 (show ¬ (2 = 1) by decide)) (aAdd_n (a := i) (b := 6) (by omega)) (ls' := [(3, 0), (2, 0), (2, 295), (0, ((i + 6 : Nat) : Int))]) rfl ?_
        refine TT.steps (cd := cd112) 1 (c' := (10, [(3, 0), (2, 0), (2, 295), (0, ((i + 6 : Nat) : Int))], [], σz54)) rfl rfl ?_
        exact ih (i + 6) (by omega) _ (by omega) hI54
      refine TT.swc (fun h57 => ?_) (fun h57 => ?_)
      · refine TT.steps (cd := cd112) 1 (c' := (345, [(3, 0), (2, 0), (2, 295), (0, ((i : Nat) : Int))], [(2, 0)], σ)) rfl rfl ?_
        refine TT.call (cd := cd112) rfl rfl rfl (by decide) rfl (PP_day X hI ) (fun r58 σ58 hq => ?_)
        obtain ⟨r2_58, σz58, ⟨⟨z58, hz1, hz2⟩, hI58⟩, dt58⟩ := TT.ex hq
        subst hz1
        subst hz2
        refine TT.steps (cd := cd112) 1 (c' := (347, [(3, 0), (2, 0), (2, 295), (0, ((i : Nat) : Int))], [(2, 295), (0, z58)], σ58)) rfl rfl ?_
        refine TT.call (cd := cd112) rfl rfl rfl (by decide) rfl (dt58) (fun r59 σ59 hq => ?_)
        rw [hq.1, hq.2]
        refine TT.steps (cd := cd112) 1 (c' := ((if decide (z58 = z58) = true then 906 else 349), [(3, 0), (2, 0), (2, 295), (0, ((i : Nat) : Int))], [], σz58)) rfl rfl ?_
        refine TT.br (p := z58 = z58) (fun h60 => ?_) (fun h60 => absurd (show z58 = z58 by rfl) h60)
        refine TT.inc (cd := cd112) ((i + 6 : Nat) : Int) rfl rfl rfl rfl (fun h => absurd h.2 (show ¬ (2 = 1) by decide)) (aAdd_n (a := i) (b := 6) (by omega)) (ls' := [(3, 0), (2, 0), (2, 295), (0, ((i + 6 : Nat) : Int))]) rfl ?_
        refine TT.steps (cd := cd112) 1 (c' := (10, [(3, 0), (2, 0), (2, 295), (0, ((i + 6 : Nat) : Int))], [], σz58)) rfl rfl ?_
        exact ih (i + 6) (by omega) _ (by omega) hI58
      refine TT.swc (fun h61 => ?_) (fun h61 => ?_)
      · refine TT.steps (cd := cd112) 5 (c' := (356, [(3, 0), (2, 0), (2, 295), (0, ((i : Nat) : Int))], [(0, (aAdd ((i : Nat) : Int) 1)), (3, 0), (2, 0)], σ)) rfl rfl ?_
        refine TT.top0 (z := ((i + 1 : Nat) : Int)) (aAdd_n (a := i) (b := 1) (by omega)) ?_
        refine TT.sld (cd := cd112) (i + 1) rfl rfl rfl (by omega) ?_
        refine TT.call (cd := cd112) rfl rfl rfl (by decide) rfl (PP_years X hI (X.2 (i + 1))) (fun r62 σ62 hq => ?_)
        obtain ⟨r2_62, σz62, ⟨⟨z62, hz1, hz2⟩, hI62⟩, dt62⟩ := TT.ex hq
        subst hz1
        subst hz2
        refine TT.steps (cd := cd112) 5 (c' := (363, [(3, 0), (2, 0), (2, 295), (0, ((i : Nat) : Int))], [(0, (aAdd ((i : Nat) : Int) 1)), (3, 0), (2, 295), (0, z62)], σ62)) rfl rfl ?_
        refine TT.top0 (z := ((i + 1 : Nat) : Int)) (aAdd_n (a := i) (b := 1) (by omega)) ?_
        refine TT.sld (cd := cd112) (i + 1) rfl rfl rfl (by omega) ?_
        refine TT.call (cd := cd112) rfl rfl rfl (by decide) rfl (dt62) (fun r63 σ63 hq => ?_)
        rw [hq.1, hq.2]
        refine TT.steps (cd := cd112) 1 (c' := ((if decide (z62 = z62) = true then 906 else 366), [(3, 0), (2, 0), (2, 295), (0, ((i : Nat) : Int))], [], σz62)) rfl rfl ?_
        refine TT.br (p := z62 = z62) (fun h64 => ?_) (fun h64 => absurd (show z62 = z62 by rfl) h64)
        refine TT.inc (cd := cd112) ((i + 6 : Nat) : Int) rfl rfl rfl rfl (fun h => absurd h.2 (show ¬ (2 = 1) by decide)) (aAdd_n (a := i) (b := 6) (by omega)) (ls' := [(3, 0), (2, 0), (2, 295), (0, ((i + 6 : Nat) : Int))]) rfl ?_
        refine TT.steps (cd := cd112) 1 (c' := (10, [(3, 0), (2, 0), (2, 295), (0, ((i + 6 : Nat) : Int))], [], σz62)) rfl rfl ?_
        exact ih (i + 6) (by omega) _ (by omega) hI62
      refine TT.swc (fun h65 => ?_) (fun h65 => ?_)
      · refine TT.steps (cd := cd112) 1 (c' := (369, [(3, 0), (2, 0), (2, 295), (0, ((i : Nat) : Int))], [(2, 0)], σ)) rfl rfl ?_
        refine TT.call (cd := cd112) rfl rfl rfl (by decide) rfl (PP_undo X hI ) (fun r66 σ66 hq => ?_)
        obtain ⟨r2_66, σz66, ⟨⟨z66, hz1, hz2⟩, hI66⟩, dt66⟩ := TT.ex hq
        subst hz1
        subst hz2
        refine TT.steps (cd := cd112) 1 (c' := (371, [(3, 0), (2, 0), (2, 295), (0, ((i : Nat) : Int))], [(2, 295), (0, z66)], σ66)) rfl rfl ?_
        refine TT.call (cd := cd112) rfl rfl rfl (by decide) rfl (dt66) (fun r67 σ67 hq => ?_)
        rw [hq.1, hq.2]
        refine TT.steps (cd := cd112) 1 (c' := ((if decide (z66 = z66) = true then 906 else 373), [(3, 0), (2, 0), (2, 295), (0, ((i : Nat) : Int))], [], σz66)) rfl rfl ?_
        refine TT.br (p := z66 = z66) (fun h68 => ?_) (fun h68 => absurd (show z66 = z66 by rfl) h68)
        refine TT.inc (cd := cd112) ((i + 6 : Nat) : Int) rfl rfl rfl rfl (fun h => absurd h.2 (show ¬ (2 = 1) by decide)) (aAdd_n (a := i) (b := 6) (by omega)) (ls' := [(3, 0), (2, 0), (2, 295), (0, ((i + 6 : Nat) : Int))]) rfl ?_
        refine TT.steps (cd := cd112) 1 (c' := (10, [(3, 0), (2, 0), (2, 295), (0, ((i + 6 : Nat) : Int))], [], σz66)) rfl rfl ?_
        exact ih (i + 6) (by omega) _ (by omega) hI66
      refine TT.swc (fun h69 => ?_) (fun h69 => ?_)
      · refine TT.steps (cd := cd112) 5 (c' := (380, [(3, 0), (2, 0), (2, 295), (0, ((i : Nat) : Int))], [(0, (aAdd ((i : Nat) : Int) 1)), (3, 0), (2, 0)], σ)) rfl rfl ?_
        refine TT.top0 (z := ((i + 1 : Nat) : Int)) (aAdd_n (a := i) (b := 1) (by omega)) ?_
        refine TT.sld (cd := cd112) (i + 1) rfl rfl rfl (by omega) ?_
        refine TT.call (cd := cd112) rfl rfl rfl (by decide) rfl (PP_seed X hI (X.2 (i + 1)) (hX _).2) (fun r70 σ70 hq => ?_)
        obtain ⟨r2_70, σz70, ⟨⟨z70, hz1, hz2⟩, hI70⟩, dt70⟩ := TT.ex hq
        subst hz1
        subst hz2
        refine TT.steps (cd := cd112) 5 (c' := (387, [(3, 0), (2, 0), (2, 295), (0, ((i : Nat) : Int))], [(0, (aAdd ((i : Nat) : Int) 1)), (3, 0), (2, 295), (0, z70)], σ70)) rfl rfl ?_
        refine TT.top0 (z := ((i + 1 : Nat) : Int)) (aAdd_n (a := i) (b := 1) (by omega)) ?_
        refine TT.sld (cd := cd112) (i + 1) rfl rfl rfl (by omega) ?_
        refine TT.call (cd := cd112) rfl rfl rfl (by decide) rfl (dt70) (fun r71 σ71 hq => ?_)
        rw [hq.1, hq.2]
        refine TT.steps (cd := cd112) 1 (c' := ((if decide (z70 = z70) = true then 906 else 390), [(3, 0), (2, 0), (2, 295), (0, ((i : Nat) : Int))], [], σz70)) rfl rfl ?_
        refine TT.br (p := z70 = z70) (fun h72 => ?_) (fun h72 => absurd (show z70 = z70 by rfl) h72)
        refine TT.inc (cd := cd112) ((i + 6 : Nat) : Int) rfl rfl rfl rfl (fun h => absurd h.2 (show ¬ (2 = 1) by decide)) (aAdd_n (a := i) (b := 6) (by omega)) (ls' := [(3, 0), (2, 0), (2, 295), (0, ((i + 6 : Nat) : Int))]) rfl ?_
        refine TT.steps (cd := cd112) 1 (c' := (10, [(3, 0), (2, 0), (2, 295), (0, ((i + 6 : Nat) : Int))], [], σz70)) rfl rfl ?_
        exact ih (i + 6) (by omega) _ (by omega) hI70
      refine TT.swc (fun h73 => ?_) (fun h73 => ?_)
      · refine TT.steps (cd := cd112) 5 (c' := (397, [(3, 0), (2, 0), (2, 295), (0, ((i : Nat) : Int))], [(0, (aAdd ((i : Nat) : Int) 1)), (3, 0), (2, 0)], σ)) rfl rfl ?_
        refine TT.top0 (z := ((i + 1 : Nat) : Int)) (aAdd_n (a := i) (b := 1) (by omega)) ?_
        refine TT.sld (cd := cd112) (i + 1) rfl rfl rfl (by omega) ?_
        refine TT.steps (cd := cd112) 4 (c' := (402, [(3, 0), (2, 0), (2, 295), (0, ((i : Nat) : Int))], [(0, (aAdd ((i : Nat) : Int) 2)), (3, 0), (0, (X.2 (i + 1))), (2, 0)], σ)) rfl rfl ?_
        refine TT.top0 (z := ((i + 2 : Nat) : Int)) (aAdd_n (a := i) (b := 2) (by omega)) ?_
        refine TT.sld (cd := cd112) (i + 2) rfl rfl rfl (by omega) ?_
        refine TT.steps (cd := cd112) 4 (c' := (407, [(3, 0), (2, 0), (2, 295), (0, ((i : Nat) : Int))], [(0, (aAdd ((i : Nat) : Int) 3)), (3, 0), (0, (X.2 (i + 2))), (0, (X.2 (i + 1))), (2, 0)], σ)) rfl rfl ?_
        refine TT.top0 (z := ((i + 3 : Nat) : Int)) (aAdd_n (a := i) (b := 3) (by omega)) ?_
        refine TT.sld (cd := cd112) (i + 3) rfl rfl rfl (by omega) ?_
        refine TT.call (cd := cd112) rfl rfl rfl (by decide) rfl (PP_stops X hI (X.2 (i + 1)) (X.2 (i + 2)) (X.2 (i + 3))) (fun r74 σ74 hq => ?_)
        obtain ⟨r2_74, σz74, ⟨⟨z74, hz1, hz2⟩, hI74⟩, dt74⟩ := TT.ex hq
        subst hz1
        subst hz2
        refine TT.steps (cd := cd112) 5 (c' := (414, [(3, 0), (2, 0), (2, 295), (0, ((i : Nat) : Int))], [(0, (aAdd ((i : Nat) : Int) 1)), (3, 0), (2, 295), (0, z74)], σ74)) rfl rfl ?_
        refine TT.top0 (z := ((i + 1 : Nat) : Int)) (aAdd_n (a := i) (b := 1) (by omega)) ?_
        refine TT.sld (cd := cd112) (i + 1) rfl rfl rfl (by omega) ?_
        refine TT.steps (cd := cd112) 4 (c' := (419, [(3, 0), (2, 0), (2, 295), (0, ((i : Nat) : Int))], [(0, (aAdd ((i : Nat) : Int) 2)), (3, 0), (0, (X.2 (i + 1))), (2, 295), (0, z74)], σ74)) rfl rfl ?_
        refine TT.top0 (z := ((i + 2 : Nat) : Int)) (aAdd_n (a := i) (b := 2) (by omega)) ?_
        refine TT.sld (cd := cd112) (i + 2) rfl rfl rfl (by omega) ?_
        refine TT.steps (cd := cd112) 4 (c' := (424, [(3, 0), (2, 0), (2, 295), (0, ((i : Nat) : Int))], [(0, (aAdd ((i : Nat) : Int) 3)), (3, 0), (0, (X.2 (i + 2))), (0, (X.2 (i + 1))), (2, 295), (0, z74)], σ74)) rfl rfl ?_
        refine TT.top0 (z := ((i + 3 : Nat) : Int)) (aAdd_n (a := i) (b := 3) (by omega)) ?_
        refine TT.sld (cd := cd112) (i + 3) rfl rfl rfl (by omega) ?_
        refine TT.call (cd := cd112) rfl rfl rfl (by decide) rfl (dt74) (fun r75 σ75 hq => ?_)
        rw [hq.1, hq.2]
        refine TT.steps (cd := cd112) 1 (c' := ((if decide (z74 = z74) = true then 906 else 427), [(3, 0), (2, 0), (2, 295), (0, ((i : Nat) : Int))], [], σz74)) rfl rfl ?_
        refine TT.br (p := z74 = z74) (fun h76 => ?_) (fun h76 => absurd (show z74 = z74 by rfl) h76)
        refine TT.inc (cd := cd112) ((i + 6 : Nat) : Int) rfl rfl rfl rfl (fun h => absurd h.2 (show ¬ (2 = 1) by decide)) (aAdd_n (a := i) (b := 6) (by omega)) (ls' := [(3, 0), (2, 0), (2, 295), (0, ((i + 6 : Nat) : Int))]) rfl ?_
        refine TT.steps (cd := cd112) 1 (c' := (10, [(3, 0), (2, 0), (2, 295), (0, ((i + 6 : Nat) : Int))], [], σz74)) rfl rfl ?_
        exact ih (i + 6) (by omega) _ (by omega) hI74
      refine TT.swc (fun h77 => ?_) (fun h77 => ?_)
      · refine TT.steps (cd := cd112) 5 (c' := (434, [(3, 0), (2, 0), (2, 295), (0, ((i : Nat) : Int))], [(0, (aAdd ((i : Nat) : Int) 1)), (3, 0), (2, 0)], σ)) rfl rfl ?_
        refine TT.top0 (z := ((i + 1 : Nat) : Int)) (aAdd_n (a := i) (b := 1) (by omega)) ?_
        refine TT.sld (cd := cd112) (i + 1) rfl rfl rfl (by omega) ?_
        refine TT.steps (cd := cd112) 4 (c' := (439, [(3, 0), (2, 0), (2, 295), (0, ((i : Nat) : Int))], [(0, (aAdd ((i : Nat) : Int) 2)), (3, 0), (0, (X.2 (i + 1))), (2, 0)], σ)) rfl rfl ?_
        refine TT.top0 (z := ((i + 2 : Nat) : Int)) (aAdd_n (a := i) (b := 2) (by omega)) ?_
        refine TT.sld (cd := cd112) (i + 2) rfl rfl rfl (by omega) ?_
        refine TT.call (cd := cd112) rfl rfl rfl (by decide) rfl (PP_fares X hI (X.2 (i + 1)) (X.2 (i + 2))) (fun r78 σ78 hq => ?_)
        obtain ⟨r2_78, σz78, ⟨⟨z78, hz1, hz2⟩, hI78⟩, dt78⟩ := TT.ex hq
        subst hz1
        subst hz2
        refine TT.steps (cd := cd112) 5 (c' := (446, [(3, 0), (2, 0), (2, 295), (0, ((i : Nat) : Int))], [(0, (aAdd ((i : Nat) : Int) 1)), (3, 0), (2, 295), (0, z78)], σ78)) rfl rfl ?_
        refine TT.top0 (z := ((i + 1 : Nat) : Int)) (aAdd_n (a := i) (b := 1) (by omega)) ?_
        refine TT.sld (cd := cd112) (i + 1) rfl rfl rfl (by omega) ?_
        refine TT.steps (cd := cd112) 4 (c' := (451, [(3, 0), (2, 0), (2, 295), (0, ((i : Nat) : Int))], [(0, (aAdd ((i : Nat) : Int) 2)), (3, 0), (0, (X.2 (i + 1))), (2, 295), (0, z78)], σ78)) rfl rfl ?_
        refine TT.top0 (z := ((i + 2 : Nat) : Int)) (aAdd_n (a := i) (b := 2) (by omega)) ?_
        refine TT.sld (cd := cd112) (i + 2) rfl rfl rfl (by omega) ?_
        refine TT.call (cd := cd112) rfl rfl rfl (by decide) rfl (dt78) (fun r79 σ79 hq => ?_)
        rw [hq.1, hq.2]
        refine TT.steps (cd := cd112) 1 (c' := ((if decide (z78 = z78) = true then 906 else 454), [(3, 0), (2, 0), (2, 295), (0, ((i : Nat) : Int))], [], σz78)) rfl rfl ?_
        refine TT.br (p := z78 = z78) (fun h80 => ?_) (fun h80 => absurd (show z78 = z78 by rfl) h80)
        refine TT.inc (cd := cd112) ((i + 6 : Nat) : Int) rfl rfl rfl rfl (fun h => absurd h.2 (show ¬ (2 = 1) by decide)) (aAdd_n (a := i) (b := 6) (by omega)) (ls' := [(3, 0), (2, 0), (2, 295), (0, ((i + 6 : Nat) : Int))]) rfl ?_
        refine TT.steps (cd := cd112) 1 (c' := (10, [(3, 0), (2, 0), (2, 295), (0, ((i + 6 : Nat) : Int))], [], σz78)) rfl rfl ?_
        exact ih (i + 6) (by omega) _ (by omega) hI78
      refine TT.swc (fun h81 => ?_) (fun h81 => ?_)
      · refine TT.steps (cd := cd112) 5 (c' := (461, [(3, 0), (2, 0), (2, 295), (0, ((i : Nat) : Int))], [(0, (aAdd ((i : Nat) : Int) 1)), (3, 0), (2, 0)], σ)) rfl rfl ?_
        refine TT.top0 (z := ((i + 1 : Nat) : Int)) (aAdd_n (a := i) (b := 1) (by omega)) ?_
        refine TT.sld (cd := cd112) (i + 1) rfl rfl rfl (by omega) ?_
        refine TT.call (cd := cd112) rfl rfl rfl (by decide) rfl (PP_whole X hI (X.2 (i + 1))) (fun r82 σ82 hq => ?_)
        obtain ⟨r2_82, σz82, ⟨⟨z82, hz1, hz2⟩, hI82⟩, dt82⟩ := TT.ex hq
        subst hz1
        subst hz2
        refine TT.steps (cd := cd112) 5 (c' := (468, [(3, 0), (2, 0), (2, 295), (0, ((i : Nat) : Int))], [(0, (aAdd ((i : Nat) : Int) 1)), (3, 0), (2, 295), (0, z82)], σ82)) rfl rfl ?_
        refine TT.top0 (z := ((i + 1 : Nat) : Int)) (aAdd_n (a := i) (b := 1) (by omega)) ?_
        refine TT.sld (cd := cd112) (i + 1) rfl rfl rfl (by omega) ?_
        refine TT.call (cd := cd112) rfl rfl rfl (by decide) rfl (dt82) (fun r83 σ83 hq => ?_)
        rw [hq.1, hq.2]
        refine TT.steps (cd := cd112) 1 (c' := ((if decide (z82 = z82) = true then 906 else 471), [(3, 0), (2, 0), (2, 295), (0, ((i : Nat) : Int))], [], σz82)) rfl rfl ?_
        refine TT.br (p := z82 = z82) (fun h84 => ?_) (fun h84 => absurd (show z82 = z82 by rfl) h84)
        refine TT.inc (cd := cd112) ((i + 6 : Nat) : Int) rfl rfl rfl rfl (fun h => absurd h.2 (show ¬ (2 = 1) by decide)) (aAdd_n (a := i) (b := 6) (by omega)) (ls' := [(3, 0), (2, 0), (2, 295), (0, ((i + 6 : Nat) : Int))]) rfl ?_
        refine TT.steps (cd := cd112) 1 (c' := (10, [(3, 0), (2, 0), (2, 295), (0, ((i + 6 : Nat) : Int))], [], σz82)) rfl rfl ?_
        exact ih (i + 6) (by omega) _ (by omega) hI82
      refine TT.swc (fun h85 => ?_) (fun h85 => ?_)
      · refine TT.steps (cd := cd112) 5 (c' := (478, [(3, 0), (2, 0), (2, 295), (0, ((i : Nat) : Int))], [(0, (aAdd ((i : Nat) : Int) 1)), (3, 0), (2, 0)], σ)) rfl rfl ?_
        refine TT.top0 (z := ((i + 1 : Nat) : Int)) (aAdd_n (a := i) (b := 1) (by omega)) ?_
        refine TT.sld (cd := cd112) (i + 1) rfl rfl rfl (by omega) ?_
        refine TT.steps (cd := cd112) 4 (c' := (483, [(3, 0), (2, 0), (2, 295), (0, ((i : Nat) : Int))], [(0, (aAdd ((i : Nat) : Int) 2)), (3, 0), (0, (X.2 (i + 1))), (2, 0)], σ)) rfl rfl ?_
        refine TT.top0 (z := ((i + 2 : Nat) : Int)) (aAdd_n (a := i) (b := 2) (by omega)) ?_
        refine TT.sld (cd := cd112) (i + 2) rfl rfl rfl (by omega) ?_
        refine TT.call (cd := cd112) rfl rfl rfl (by decide) rfl (PP_least X hI (X.2 (i + 1)) (X.2 (i + 2))) (fun r86 σ86 hq => ?_)
        obtain ⟨r2_86, σz86, ⟨⟨z86, hz1, hz2⟩, hI86⟩, dt86⟩ := TT.ex hq
        subst hz1
        subst hz2
        refine TT.steps (cd := cd112) 5 (c' := (490, [(3, 0), (2, 0), (2, 295), (0, ((i : Nat) : Int))], [(0, (aAdd ((i : Nat) : Int) 1)), (3, 0), (2, 295), (0, z86)], σ86)) rfl rfl ?_
        refine TT.top0 (z := ((i + 1 : Nat) : Int)) (aAdd_n (a := i) (b := 1) (by omega)) ?_
        refine TT.sld (cd := cd112) (i + 1) rfl rfl rfl (by omega) ?_
        refine TT.steps (cd := cd112) 4 (c' := (495, [(3, 0), (2, 0), (2, 295), (0, ((i : Nat) : Int))], [(0, (aAdd ((i : Nat) : Int) 2)), (3, 0), (0, (X.2 (i + 1))), (2, 295), (0, z86)], σ86)) rfl rfl ?_
        refine TT.top0 (z := ((i + 2 : Nat) : Int)) (aAdd_n (a := i) (b := 2) (by omega)) ?_
        refine TT.sld (cd := cd112) (i + 2) rfl rfl rfl (by omega) ?_
        refine TT.call (cd := cd112) rfl rfl rfl (by decide) rfl (dt86) (fun r87 σ87 hq => ?_)
        rw [hq.1, hq.2]
        refine TT.steps (cd := cd112) 1 (c' := ((if decide (z86 = z86) = true then 906 else 498), [(3, 0), (2, 0), (2, 295), (0, ((i : Nat) : Int))], [], σz86)) rfl rfl ?_
        refine TT.br (p := z86 = z86) (fun h88 => ?_) (fun h88 => absurd (show z86 = z86 by rfl) h88)
        refine TT.inc (cd := cd112) ((i + 6 : Nat) : Int) rfl rfl rfl rfl (fun h => absurd h.2 (show ¬ (2 = 1) by decide)) (aAdd_n (a := i) (b := 6) (by omega)) (ls' := [(3, 0), (2, 0), (2, 295), (0, ((i + 6 : Nat) : Int))]) rfl ?_
        refine TT.steps (cd := cd112) 1 (c' := (10, [(3, 0), (2, 0), (2, 295), (0, ((i + 6 : Nat) : Int))], [], σz86)) rfl rfl ?_
        exact ih (i + 6) (by omega) _ (by omega) hI86
      refine TT.swc (fun h89 => ?_) (fun h89 => ?_)
      · refine TT.steps (cd := cd112) 5 (c' := (505, [(3, 0), (2, 0), (2, 295), (0, ((i : Nat) : Int))], [(0, (aAdd ((i : Nat) : Int) 1)), (3, 0), (2, 0)], σ)) rfl rfl ?_
        refine TT.top0 (z := ((i + 1 : Nat) : Int)) (aAdd_n (a := i) (b := 1) (by omega)) ?_
        refine TT.sld (cd := cd112) (i + 1) rfl rfl rfl (by omega) ?_
        refine TT.call (cd := cd112) rfl rfl rfl (by decide) rfl (PP_most X hI (X.2 (i + 1))) (fun r90 σ90 hq => ?_)
        obtain ⟨r2_90, σz90, ⟨⟨z90, hz1, hz2⟩, hI90⟩, dt90⟩ := TT.ex hq
        subst hz1
        subst hz2
        refine TT.steps (cd := cd112) 5 (c' := (512, [(3, 0), (2, 0), (2, 295), (0, ((i : Nat) : Int))], [(0, (aAdd ((i : Nat) : Int) 1)), (3, 0), (2, 295), (0, z90)], σ90)) rfl rfl ?_
        refine TT.top0 (z := ((i + 1 : Nat) : Int)) (aAdd_n (a := i) (b := 1) (by omega)) ?_
        refine TT.sld (cd := cd112) (i + 1) rfl rfl rfl (by omega) ?_
        refine TT.call (cd := cd112) rfl rfl rfl (by decide) rfl (dt90) (fun r91 σ91 hq => ?_)
        rw [hq.1, hq.2]
        refine TT.steps (cd := cd112) 1 (c' := ((if decide (z90 = z90) = true then 906 else 515), [(3, 0), (2, 0), (2, 295), (0, ((i : Nat) : Int))], [], σz90)) rfl rfl ?_
        refine TT.br (p := z90 = z90) (fun h92 => ?_) (fun h92 => absurd (show z90 = z90 by rfl) h92)
        refine TT.inc (cd := cd112) ((i + 6 : Nat) : Int) rfl rfl rfl rfl (fun h => absurd h.2 (show ¬ (2 = 1) by decide)) (aAdd_n (a := i) (b := 6) (by omega)) (ls' := [(3, 0), (2, 0), (2, 295), (0, ((i + 6 : Nat) : Int))]) rfl ?_
        refine TT.steps (cd := cd112) 1 (c' := (10, [(3, 0), (2, 0), (2, 295), (0, ((i + 6 : Nat) : Int))], [], σz90)) rfl rfl ?_
        exact ih (i + 6) (by omega) _ (by omega) hI90
      refine TT.swc (fun h93 => ?_) (fun h93 => ?_)
      · refine TT.steps (cd := cd112) 5 (c' := (522, [(3, 0), (2, 0), (2, 295), (0, ((i : Nat) : Int))], [(0, (aAdd ((i : Nat) : Int) 1)), (3, 0), (2, 0)], σ)) rfl rfl ?_
        refine TT.top0 (z := ((i + 1 : Nat) : Int)) (aAdd_n (a := i) (b := 1) (by omega)) ?_
        refine TT.sld (cd := cd112) (i + 1) rfl rfl rfl (by omega) ?_
        refine TT.call (cd := cd112) rfl rfl rfl (by decide) rfl (PP_places X hI (X.2 (i + 1))) (fun r94 σ94 hq => ?_)
        obtain ⟨r2_94, σz94, ⟨⟨z94, hz1, hz2⟩, hI94⟩, dt94⟩ := TT.ex hq
        subst hz1
        subst hz2
        refine TT.steps (cd := cd112) 5 (c' := (529, [(3, 0), (2, 0), (2, 295), (0, ((i : Nat) : Int))], [(0, (aAdd ((i : Nat) : Int) 1)), (3, 0), (2, 295), (0, z94)], σ94)) rfl rfl ?_
        refine TT.top0 (z := ((i + 1 : Nat) : Int)) (aAdd_n (a := i) (b := 1) (by omega)) ?_
        refine TT.sld (cd := cd112) (i + 1) rfl rfl rfl (by omega) ?_
        refine TT.call (cd := cd112) rfl rfl rfl (by decide) rfl (dt94) (fun r95 σ95 hq => ?_)
        rw [hq.1, hq.2]
        refine TT.steps (cd := cd112) 1 (c' := ((if decide (z94 = z94) = true then 906 else 532), [(3, 0), (2, 0), (2, 295), (0, ((i : Nat) : Int))], [], σz94)) rfl rfl ?_
        refine TT.br (p := z94 = z94) (fun h96 => ?_) (fun h96 => absurd (show z94 = z94 by rfl) h96)
        refine TT.inc (cd := cd112) ((i + 6 : Nat) : Int) rfl rfl rfl rfl (fun h => absurd h.2 (show ¬ (2 = 1) by decide)) (aAdd_n (a := i) (b := 6) (by omega)) (ls' := [(3, 0), (2, 0), (2, 295), (0, ((i + 6 : Nat) : Int))]) rfl ?_
        refine TT.steps (cd := cd112) 1 (c' := (10, [(3, 0), (2, 0), (2, 295), (0, ((i + 6 : Nat) : Int))], [], σz94)) rfl rfl ?_
        exact ih (i + 6) (by omega) _ (by omega) hI94
      refine TT.swc (fun h97 => ?_) (fun h97 => ?_)
      · refine TT.steps (cd := cd112) 5 (c' := (539, [(3, 0), (2, 0), (2, 295), (0, ((i : Nat) : Int))], [(0, (aAdd ((i : Nat) : Int) 1)), (3, 0), (2, 0)], σ)) rfl rfl ?_
        refine TT.top0 (z := ((i + 1 : Nat) : Int)) (aAdd_n (a := i) (b := 1) (by omega)) ?_
        refine TT.sld (cd := cd112) (i + 1) rfl rfl rfl (by omega) ?_
        refine TT.call (cd := cd112) rfl rfl rfl (by decide) rfl (PP_hiring X hI (X.2 (i + 1)) (hX _)) (fun r98 σ98 hq => ?_)
        obtain ⟨r2_98, σz98, ⟨⟨z98, hz1, hz2⟩, hI98⟩, dt98⟩ := TT.ex hq
        subst hz1
        subst hz2
        refine TT.steps (cd := cd112) 5 (c' := (546, [(3, 0), (2, 0), (2, 295), (0, ((i : Nat) : Int))], [(0, (aAdd ((i : Nat) : Int) 1)), (3, 0), (2, 295), (0, z98)], σ98)) rfl rfl ?_
        refine TT.top0 (z := ((i + 1 : Nat) : Int)) (aAdd_n (a := i) (b := 1) (by omega)) ?_
        refine TT.sld (cd := cd112) (i + 1) rfl rfl rfl (by omega) ?_
        refine TT.call (cd := cd112) rfl rfl rfl (by decide) rfl (dt98) (fun r99 σ99 hq => ?_)
        rw [hq.1, hq.2]
        refine TT.steps (cd := cd112) 1 (c' := ((if decide (z98 = z98) = true then 906 else 549), [(3, 0), (2, 0), (2, 295), (0, ((i : Nat) : Int))], [], σz98)) rfl rfl ?_
        refine TT.br (p := z98 = z98) (fun h100 => ?_) (fun h100 => absurd (show z98 = z98 by rfl) h100)
        refine TT.inc (cd := cd112) ((i + 6 : Nat) : Int) rfl rfl rfl rfl (fun h => absurd h.2 (show ¬ (2 = 1) by decide)) (aAdd_n (a := i) (b := 6) (by omega)) (ls' := [(3, 0), (2, 0), (2, 295), (0, ((i + 6 : Nat) : Int))]) rfl ?_
        refine TT.steps (cd := cd112) 1 (c' := (10, [(3, 0), (2, 0), (2, 295), (0, ((i + 6 : Nat) : Int))], [], σz98)) rfl rfl ?_
        exact ih (i + 6) (by omega) _ (by omega) hI98
      refine TT.swc (fun h101 => ?_) (fun h101 => ?_)
      · refine TT.steps (cd := cd112) 5 (c' := (556, [(3, 0), (2, 0), (2, 295), (0, ((i : Nat) : Int))], [(0, (aAdd ((i : Nat) : Int) 1)), (3, 0), (2, 0)], σ)) rfl rfl ?_
        refine TT.top0 (z := ((i + 1 : Nat) : Int)) (aAdd_n (a := i) (b := 1) (by omega)) ?_
        refine TT.sld (cd := cd112) (i + 1) rfl rfl rfl (by omega) ?_
        refine TT.call (cd := cd112) rfl rfl rfl (by decide) rfl (PP_worth X hI (X.2 (i + 1))) (fun r102 σ102 hq => ?_)
        obtain ⟨r2_102, σz102, ⟨⟨z102, hz1, hz2⟩, hI102⟩, dt102⟩ := TT.ex hq
        subst hz1
        subst hz2
        refine TT.steps (cd := cd112) 5 (c' := (563, [(3, 0), (2, 0), (2, 295), (0, ((i : Nat) : Int))], [(0, (aAdd ((i : Nat) : Int) 1)), (3, 0), (2, 295), (0, z102)], σ102)) rfl rfl ?_
        refine TT.top0 (z := ((i + 1 : Nat) : Int)) (aAdd_n (a := i) (b := 1) (by omega)) ?_
        refine TT.sld (cd := cd112) (i + 1) rfl rfl rfl (by omega) ?_
        refine TT.call (cd := cd112) rfl rfl rfl (by decide) rfl (dt102) (fun r103 σ103 hq => ?_)
        rw [hq.1, hq.2]
        refine TT.steps (cd := cd112) 1 (c' := ((if decide (z102 = z102) = true then 906 else 566), [(3, 0), (2, 0), (2, 295), (0, ((i : Nat) : Int))], [], σz102)) rfl rfl ?_
        refine TT.br (p := z102 = z102) (fun h104 => ?_) (fun h104 => absurd (show z102 = z102 by rfl) h104)
        refine TT.inc (cd := cd112) ((i + 6 : Nat) : Int) rfl rfl rfl rfl (fun h => absurd h.2 (show ¬ (2 = 1) by decide)) (aAdd_n (a := i) (b := 6) (by omega)) (ls' := [(3, 0), (2, 0), (2, 295), (0, ((i + 6 : Nat) : Int))]) rfl ?_
        refine TT.steps (cd := cd112) 1 (c' := (10, [(3, 0), (2, 0), (2, 295), (0, ((i + 6 : Nat) : Int))], [], σz102)) rfl rfl ?_
        exact ih (i + 6) (by omega) _ (by omega) hI102
      refine TT.swc (fun h105 => ?_) (fun h105 => ?_)
      · refine TT.steps (cd := cd112) 5 (c' := (573, [(3, 0), (2, 0), (2, 295), (0, ((i : Nat) : Int))], [(0, (aAdd ((i : Nat) : Int) 1)), (3, 0), (2, 0)], σ)) rfl rfl ?_
        refine TT.top0 (z := ((i + 1 : Nat) : Int)) (aAdd_n (a := i) (b := 1) (by omega)) ?_
        refine TT.sld (cd := cd112) (i + 1) rfl rfl rfl (by omega) ?_
        refine TT.steps (cd := cd112) 4 (c' := (578, [(3, 0), (2, 0), (2, 295), (0, ((i : Nat) : Int))], [(0, (aAdd ((i : Nat) : Int) 2)), (3, 0), (0, (X.2 (i + 1))), (2, 0)], σ)) rfl rfl ?_
        refine TT.top0 (z := ((i + 2 : Nat) : Int)) (aAdd_n (a := i) (b := 2) (by omega)) ?_
        refine TT.sld (cd := cd112) (i + 2) rfl rfl rfl (by omega) ?_
        refine TT.call (cd := cd112) rfl rfl rfl (by decide) rfl (PP_bear X hI (X.2 (i + 1)) (X.2 (i + 2))) (fun r106 σ106 hq => ?_)
        obtain ⟨r2_106, σz106, ⟨⟨z106, hz1, hz2⟩, hI106⟩, dt106⟩ := TT.ex hq
        subst hz1
        subst hz2
        refine TT.steps (cd := cd112) 5 (c' := (585, [(3, 0), (2, 0), (2, 295), (0, ((i : Nat) : Int))], [(0, (aAdd ((i : Nat) : Int) 1)), (3, 0), (2, 295), (0, z106)], σ106)) rfl rfl ?_
        refine TT.top0 (z := ((i + 1 : Nat) : Int)) (aAdd_n (a := i) (b := 1) (by omega)) ?_
        refine TT.sld (cd := cd112) (i + 1) rfl rfl rfl (by omega) ?_
        refine TT.steps (cd := cd112) 4 (c' := (590, [(3, 0), (2, 0), (2, 295), (0, ((i : Nat) : Int))], [(0, (aAdd ((i : Nat) : Int) 2)), (3, 0), (0, (X.2 (i + 1))), (2, 295), (0, z106)], σ106)) rfl rfl ?_
        refine TT.top0 (z := ((i + 2 : Nat) : Int)) (aAdd_n (a := i) (b := 2) (by omega)) ?_
        refine TT.sld (cd := cd112) (i + 2) rfl rfl rfl (by omega) ?_
        refine TT.call (cd := cd112) rfl rfl rfl (by decide) rfl (dt106) (fun r107 σ107 hq => ?_)
        rw [hq.1, hq.2]
        refine TT.steps (cd := cd112) 1 (c' := ((if decide (z106 = z106) = true then 906 else 593), [(3, 0), (2, 0), (2, 295), (0, ((i : Nat) : Int))], [], σz106)) rfl rfl ?_
        refine TT.br (p := z106 = z106) (fun h108 => ?_) (fun h108 => absurd (show z106 = z106 by rfl) h108)
        refine TT.inc (cd := cd112) ((i + 6 : Nat) : Int) rfl rfl rfl rfl (fun h => absurd h.2 (show ¬ (2 = 1) by decide)) (aAdd_n (a := i) (b := 6) (by omega)) (ls' := [(3, 0), (2, 0), (2, 295), (0, ((i + 6 : Nat) : Int))]) rfl ?_
        refine TT.steps (cd := cd112) 1 (c' := (10, [(3, 0), (2, 0), (2, 295), (0, ((i + 6 : Nat) : Int))], [], σz106)) rfl rfl ?_
        exact ih (i + 6) (by omega) _ (by omega) hI106
      refine TT.swc (fun h109 => ?_) (fun h109 => ?_)
      · refine TT.steps (cd := cd112) 5 (c' := (600, [(3, 0), (2, 0), (2, 295), (0, ((i : Nat) : Int))], [(0, (aAdd ((i : Nat) : Int) 1)), (3, 0), (2, 0)], σ)) rfl rfl ?_
        refine TT.top0 (z := ((i + 1 : Nat) : Int)) (aAdd_n (a := i) (b := 1) (by omega)) ?_
        refine TT.sld (cd := cd112) (i + 1) rfl rfl rfl (by omega) ?_
        refine TT.call (cd := cd112) rfl rfl rfl (by decide) rfl (PP_stay X hI (X.2 (i + 1))) (fun r110 σ110 hq => ?_)
        obtain ⟨r2_110, σz110, ⟨⟨z110, hz1, hz2⟩, hI110⟩, dt110⟩ := TT.ex hq
        subst hz1
        subst hz2
        refine TT.steps (cd := cd112) 5 (c' := (607, [(3, 0), (2, 0), (2, 295), (0, ((i : Nat) : Int))], [(0, (aAdd ((i : Nat) : Int) 1)), (3, 0), (2, 295), (0, z110)], σ110)) rfl rfl ?_
        refine TT.top0 (z := ((i + 1 : Nat) : Int)) (aAdd_n (a := i) (b := 1) (by omega)) ?_
        refine TT.sld (cd := cd112) (i + 1) rfl rfl rfl (by omega) ?_
        refine TT.call (cd := cd112) rfl rfl rfl (by decide) rfl (dt110) (fun r111 σ111 hq => ?_)
        rw [hq.1, hq.2]
        refine TT.steps (cd := cd112) 1 (c' := ((if decide (z110 = z110) = true then 906 else 610), [(3, 0), (2, 0), (2, 295), (0, ((i : Nat) : Int))], [], σz110)) rfl rfl ?_
        refine TT.br (p := z110 = z110) (fun h112 => ?_) (fun h112 => absurd (show z110 = z110 by rfl) h112)
        refine TT.inc (cd := cd112) ((i + 6 : Nat) : Int) rfl rfl rfl rfl (fun h => absurd h.2 (show ¬ (2 = 1) by decide)) (aAdd_n (a := i) (b := 6) (by omega)) (ls' := [(3, 0), (2, 0), (2, 295), (0, ((i + 6 : Nat) : Int))]) rfl ?_
        refine TT.steps (cd := cd112) 1 (c' := (10, [(3, 0), (2, 0), (2, 295), (0, ((i + 6 : Nat) : Int))], [], σz110)) rfl rfl ?_
        exact ih (i + 6) (by omega) _ (by omega) hI110
      refine TT.swc (fun h113 => ?_) (fun h113 => ?_)
      · refine TT.steps (cd := cd112) 5 (c' := (617, [(3, 0), (2, 0), (2, 295), (0, ((i : Nat) : Int))], [(0, (aAdd ((i : Nat) : Int) 1)), (3, 0), (2, 0)], σ)) rfl rfl ?_
        refine TT.top0 (z := ((i + 1 : Nat) : Int)) (aAdd_n (a := i) (b := 1) (by omega)) ?_
        refine TT.sld (cd := cd112) (i + 1) rfl rfl rfl (by omega) ?_
        refine TT.steps (cd := cd112) 4 (c' := (622, [(3, 0), (2, 0), (2, 295), (0, ((i : Nat) : Int))], [(0, (aAdd ((i : Nat) : Int) 2)), (3, 0), (0, (X.2 (i + 1))), (2, 0)], σ)) rfl rfl ?_
        refine TT.top0 (z := ((i + 2 : Nat) : Int)) (aAdd_n (a := i) (b := 2) (by omega)) ?_
        refine TT.sld (cd := cd112) (i + 2) rfl rfl rfl (by omega) ?_
        refine TT.steps (cd := cd112) 4 (c' := (627, [(3, 0), (2, 0), (2, 295), (0, ((i : Nat) : Int))], [(0, (aAdd ((i : Nat) : Int) 3)), (3, 0), (0, (X.2 (i + 2))), (0, (X.2 (i + 1))), (2, 0)], σ)) rfl rfl ?_
        refine TT.top0 (z := ((i + 3 : Nat) : Int)) (aAdd_n (a := i) (b := 3) (by omega)) ?_
        refine TT.sld (cd := cd112) (i + 3) rfl rfl rfl (by omega) ?_
        refine TT.call (cd := cd112) rfl rfl rfl (by decide) rfl (PP_seen X hI (X.2 (i + 1)) (X.2 (i + 2)) (X.2 (i + 3))) (fun r114 σ114 hq => ?_)
        obtain ⟨r2_114, σz114, ⟨⟨z114, hz1, hz2⟩, hI114⟩, dt114⟩ := TT.ex hq
        subst hz1
        subst hz2
        refine TT.steps (cd := cd112) 5 (c' := (634, [(3, 0), (2, 0), (2, 295), (0, ((i : Nat) : Int))], [(0, (aAdd ((i : Nat) : Int) 1)), (3, 0), (2, 295), (0, z114)], σ114)) rfl rfl ?_
        refine TT.top0 (z := ((i + 1 : Nat) : Int)) (aAdd_n (a := i) (b := 1) (by omega)) ?_
        refine TT.sld (cd := cd112) (i + 1) rfl rfl rfl (by omega) ?_
        refine TT.steps (cd := cd112) 4 (c' := (639, [(3, 0), (2, 0), (2, 295), (0, ((i : Nat) : Int))], [(0, (aAdd ((i : Nat) : Int) 2)), (3, 0), (0, (X.2 (i + 1))), (2, 295), (0, z114)], σ114)) rfl rfl ?_
        refine TT.top0 (z := ((i + 2 : Nat) : Int)) (aAdd_n (a := i) (b := 2) (by omega)) ?_
        refine TT.sld (cd := cd112) (i + 2) rfl rfl rfl (by omega) ?_
        refine TT.steps (cd := cd112) 4 (c' := (644, [(3, 0), (2, 0), (2, 295), (0, ((i : Nat) : Int))], [(0, (aAdd ((i : Nat) : Int) 3)), (3, 0), (0, (X.2 (i + 2))), (0, (X.2 (i + 1))), (2, 295), (0, z114)], σ114)) rfl rfl ?_
        refine TT.top0 (z := ((i + 3 : Nat) : Int)) (aAdd_n (a := i) (b := 3) (by omega)) ?_
        refine TT.sld (cd := cd112) (i + 3) rfl rfl rfl (by omega) ?_
        refine TT.call (cd := cd112) rfl rfl rfl (by decide) rfl (dt114) (fun r115 σ115 hq => ?_)
        rw [hq.1, hq.2]
        refine TT.steps (cd := cd112) 1 (c' := ((if decide (z114 = z114) = true then 906 else 647), [(3, 0), (2, 0), (2, 295), (0, ((i : Nat) : Int))], [], σz114)) rfl rfl ?_
        refine TT.br (p := z114 = z114) (fun h116 => ?_) (fun h116 => absurd (show z114 = z114 by rfl) h116)
        refine TT.inc (cd := cd112) ((i + 6 : Nat) : Int) rfl rfl rfl rfl (fun h => absurd h.2 (show ¬ (2 = 1) by decide)) (aAdd_n (a := i) (b := 6) (by omega)) (ls' := [(3, 0), (2, 0), (2, 295), (0, ((i + 6 : Nat) : Int))]) rfl ?_
        refine TT.steps (cd := cd112) 1 (c' := (10, [(3, 0), (2, 0), (2, 295), (0, ((i + 6 : Nat) : Int))], [], σz114)) rfl rfl ?_
        exact ih (i + 6) (by omega) _ (by omega) hI114
      refine TT.swc (fun h117 => ?_) (fun h117 => ?_)
      · refine TT.steps (cd := cd112) 5 (c' := (654, [(3, 0), (2, 0), (2, 295), (0, ((i : Nat) : Int))], [(0, (aAdd ((i : Nat) : Int) 1)), (3, 0), (2, 0)], σ)) rfl rfl ?_
        refine TT.top0 (z := ((i + 1 : Nat) : Int)) (aAdd_n (a := i) (b := 1) (by omega)) ?_
        refine TT.sld (cd := cd112) (i + 1) rfl rfl rfl (by omega) ?_
        refine TT.call (cd := cd112) rfl rfl rfl (by decide) rfl (PP_dead X hI (X.2 (i + 1))) (fun r118 σ118 hq => ?_)
        obtain ⟨r2_118, σz118, ⟨⟨z118, hz1, hz2⟩, hI118⟩, dt118⟩ := TT.ex hq
        subst hz1
        subst hz2
        refine TT.steps (cd := cd112) 5 (c' := (661, [(3, 0), (2, 0), (2, 295), (0, ((i : Nat) : Int))], [(0, (aAdd ((i : Nat) : Int) 1)), (3, 0), (2, 295), (0, z118)], σ118)) rfl rfl ?_
        refine TT.top0 (z := ((i + 1 : Nat) : Int)) (aAdd_n (a := i) (b := 1) (by omega)) ?_
        refine TT.sld (cd := cd112) (i + 1) rfl rfl rfl (by omega) ?_
        refine TT.call (cd := cd112) rfl rfl rfl (by decide) rfl (dt118) (fun r119 σ119 hq => ?_)
        rw [hq.1, hq.2]
        refine TT.steps (cd := cd112) 1 (c' := ((if decide (z118 = z118) = true then 906 else 664), [(3, 0), (2, 0), (2, 295), (0, ((i : Nat) : Int))], [], σz118)) rfl rfl ?_
        refine TT.br (p := z118 = z118) (fun h120 => ?_) (fun h120 => absurd (show z118 = z118 by rfl) h120)
        refine TT.inc (cd := cd112) ((i + 6 : Nat) : Int) rfl rfl rfl rfl (fun h => absurd h.2 (show ¬ (2 = 1) by decide)) (aAdd_n (a := i) (b := 6) (by omega)) (ls' := [(3, 0), (2, 0), (2, 295), (0, ((i + 6 : Nat) : Int))]) rfl ?_
        refine TT.steps (cd := cd112) 1 (c' := (10, [(3, 0), (2, 0), (2, 295), (0, ((i + 6 : Nat) : Int))], [], σz118)) rfl rfl ?_
        exact ih (i + 6) (by omega) _ (by omega) hI118
      refine TT.swc (fun h121 => ?_) (fun h121 => ?_)
      · refine TT.steps (cd := cd112) 5 (c' := (671, [(3, 0), (2, 0), (2, 295), (0, ((i : Nat) : Int))], [(0, (aAdd ((i : Nat) : Int) 1)), (3, 0), (2, 0)], σ)) rfl rfl ?_
        refine TT.top0 (z := ((i + 1 : Nat) : Int)) (aAdd_n (a := i) (b := 1) (by omega)) ?_
        refine TT.sld (cd := cd112) (i + 1) rfl rfl rfl (by omega) ?_
        refine TT.steps (cd := cd112) 4 (c' := (676, [(3, 0), (2, 0), (2, 295), (0, ((i : Nat) : Int))], [(0, (aAdd ((i : Nat) : Int) 2)), (3, 0), (0, (X.2 (i + 1))), (2, 0)], σ)) rfl rfl ?_
        refine TT.top0 (z := ((i + 2 : Nat) : Int)) (aAdd_n (a := i) (b := 2) (by omega)) ?_
        refine TT.sld (cd := cd112) (i + 2) rfl rfl rfl (by omega) ?_
        refine TT.steps (cd := cd112) 4 (c' := (681, [(3, 0), (2, 0), (2, 295), (0, ((i : Nat) : Int))], [(0, (aAdd ((i : Nat) : Int) 3)), (3, 0), (0, (X.2 (i + 2))), (0, (X.2 (i + 1))), (2, 0)], σ)) rfl rfl ?_
        refine TT.top0 (z := ((i + 3 : Nat) : Int)) (aAdd_n (a := i) (b := 3) (by omega)) ?_
        refine TT.sld (cd := cd112) (i + 3) rfl rfl rfl (by omega) ?_
        refine TT.steps (cd := cd112) 4 (c' := (686, [(3, 0), (2, 0), (2, 295), (0, ((i : Nat) : Int))], [(0, (aAdd ((i : Nat) : Int) 4)), (3, 0), (0, (X.2 (i + 3))), (0, (X.2 (i + 2))), (0, (X.2 (i + 1))), (2, 0)], σ)) rfl rfl ?_
        refine TT.top0 (z := ((i + 4 : Nat) : Int)) (aAdd_n (a := i) (b := 4) (by omega)) ?_
        refine TT.sld (cd := cd112) (i + 4) rfl rfl rfl (by omega) ?_
        refine TT.call (cd := cd112) rfl rfl rfl (by decide) rfl (PP_runs X hI (X.2 (i + 1)) (X.2 (i + 2)) (X.2 (i + 3)) (X.2 (i + 4))) (fun r122 σ122 hq => ?_)
        obtain ⟨r2_122, σz122, ⟨⟨z122, hz1, hz2⟩, hI122⟩, dt122⟩ := TT.ex hq
        subst hz1
        subst hz2
        refine TT.steps (cd := cd112) 5 (c' := (693, [(3, 0), (2, 0), (2, 295), (0, ((i : Nat) : Int))], [(0, (aAdd ((i : Nat) : Int) 1)), (3, 0), (2, 295), (0, z122)], σ122)) rfl rfl ?_
        refine TT.top0 (z := ((i + 1 : Nat) : Int)) (aAdd_n (a := i) (b := 1) (by omega)) ?_
        refine TT.sld (cd := cd112) (i + 1) rfl rfl rfl (by omega) ?_
        refine TT.steps (cd := cd112) 4 (c' := (698, [(3, 0), (2, 0), (2, 295), (0, ((i : Nat) : Int))], [(0, (aAdd ((i : Nat) : Int) 2)), (3, 0), (0, (X.2 (i + 1))), (2, 295), (0, z122)], σ122)) rfl rfl ?_
        refine TT.top0 (z := ((i + 2 : Nat) : Int)) (aAdd_n (a := i) (b := 2) (by omega)) ?_
        refine TT.sld (cd := cd112) (i + 2) rfl rfl rfl (by omega) ?_
        refine TT.steps (cd := cd112) 4 (c' := (703, [(3, 0), (2, 0), (2, 295), (0, ((i : Nat) : Int))], [(0, (aAdd ((i : Nat) : Int) 3)), (3, 0), (0, (X.2 (i + 2))), (0, (X.2 (i + 1))), (2, 295), (0, z122)], σ122)) rfl rfl ?_
        refine TT.top0 (z := ((i + 3 : Nat) : Int)) (aAdd_n (a := i) (b := 3) (by omega)) ?_
        refine TT.sld (cd := cd112) (i + 3) rfl rfl rfl (by omega) ?_
        refine TT.steps (cd := cd112) 4 (c' := (708, [(3, 0), (2, 0), (2, 295), (0, ((i : Nat) : Int))], [(0, (aAdd ((i : Nat) : Int) 4)), (3, 0), (0, (X.2 (i + 3))), (0, (X.2 (i + 2))), (0, (X.2 (i + 1))), (2, 295), (0, z122)], σ122)) rfl rfl ?_
        refine TT.top0 (z := ((i + 4 : Nat) : Int)) (aAdd_n (a := i) (b := 4) (by omega)) ?_
        refine TT.sld (cd := cd112) (i + 4) rfl rfl rfl (by omega) ?_
        refine TT.call (cd := cd112) rfl rfl rfl (by decide) rfl (dt122) (fun r123 σ123 hq => ?_)
        rw [hq.1, hq.2]
        refine TT.steps (cd := cd112) 1 (c' := ((if decide (z122 = z122) = true then 906 else 711), [(3, 0), (2, 0), (2, 295), (0, ((i : Nat) : Int))], [], σz122)) rfl rfl ?_
        refine TT.br (p := z122 = z122) (fun h124 => ?_) (fun h124 => absurd (show z122 = z122 by rfl) h124)
        refine TT.inc (cd := cd112) ((i + 6 : Nat) : Int) rfl rfl rfl rfl (fun h => absurd h.2 (show ¬ (2 = 1) by decide)) (aAdd_n (a := i) (b := 6) (by omega)) (ls' := [(3, 0), (2, 0), (2, 295), (0, ((i + 6 : Nat) : Int))]) rfl ?_
        refine TT.steps (cd := cd112) 1 (c' := (10, [(3, 0), (2, 0), (2, 295), (0, ((i + 6 : Nat) : Int))], [], σz122)) rfl rfl ?_
        exact ih (i + 6) (by omega) _ (by omega) hI122
      refine TT.swc (fun h125 => ?_) (fun h125 => ?_)
      · refine TT.steps (cd := cd112) 5 (c' := (718, [(3, 0), (2, 0), (2, 295), (0, ((i : Nat) : Int))], [(0, (aAdd ((i : Nat) : Int) 1)), (3, 0), (2, 0)], σ)) rfl rfl ?_
        refine TT.top0 (z := ((i + 1 : Nat) : Int)) (aAdd_n (a := i) (b := 1) (by omega)) ?_
        refine TT.sld (cd := cd112) (i + 1) rfl rfl rfl (by omega) ?_
        refine TT.steps (cd := cd112) 4 (c' := (723, [(3, 0), (2, 0), (2, 295), (0, ((i : Nat) : Int))], [(0, (aAdd ((i : Nat) : Int) 2)), (3, 0), (0, (X.2 (i + 1))), (2, 0)], σ)) rfl rfl ?_
        refine TT.top0 (z := ((i + 2 : Nat) : Int)) (aAdd_n (a := i) (b := 2) (by omega)) ?_
        refine TT.sld (cd := cd112) (i + 2) rfl rfl rfl (by omega) ?_
        refine TT.call (cd := cd112) rfl rfl rfl (by decide) rfl (PP_because X hI (X.2 (i + 1)) (X.2 (i + 2))) (fun r126 σ126 hq => ?_)
        obtain ⟨r2_126, σz126, ⟨⟨z126, hz1, hz2⟩, hI126⟩, dt126⟩ := TT.ex hq
        subst hz1
        subst hz2
        refine TT.steps (cd := cd112) 5 (c' := (730, [(3, 0), (2, 0), (2, 295), (0, ((i : Nat) : Int))], [(0, (aAdd ((i : Nat) : Int) 1)), (3, 0), (2, 295), (0, z126)], σ126)) rfl rfl ?_
        refine TT.top0 (z := ((i + 1 : Nat) : Int)) (aAdd_n (a := i) (b := 1) (by omega)) ?_
        refine TT.sld (cd := cd112) (i + 1) rfl rfl rfl (by omega) ?_
        refine TT.steps (cd := cd112) 4 (c' := (735, [(3, 0), (2, 0), (2, 295), (0, ((i : Nat) : Int))], [(0, (aAdd ((i : Nat) : Int) 2)), (3, 0), (0, (X.2 (i + 1))), (2, 295), (0, z126)], σ126)) rfl rfl ?_
        refine TT.top0 (z := ((i + 2 : Nat) : Int)) (aAdd_n (a := i) (b := 2) (by omega)) ?_
        refine TT.sld (cd := cd112) (i + 2) rfl rfl rfl (by omega) ?_
        refine TT.call (cd := cd112) rfl rfl rfl (by decide) rfl (dt126) (fun r127 σ127 hq => ?_)
        rw [hq.1, hq.2]
        refine TT.steps (cd := cd112) 1 (c' := ((if decide (z126 = z126) = true then 906 else 738), [(3, 0), (2, 0), (2, 295), (0, ((i : Nat) : Int))], [], σz126)) rfl rfl ?_
        refine TT.br (p := z126 = z126) (fun h128 => ?_) (fun h128 => absurd (show z126 = z126 by rfl) h128)
        refine TT.inc (cd := cd112) ((i + 6 : Nat) : Int) rfl rfl rfl rfl (fun h => absurd h.2 (show ¬ (2 = 1) by decide)) (aAdd_n (a := i) (b := 6) (by omega)) (ls' := [(3, 0), (2, 0), (2, 295), (0, ((i + 6 : Nat) : Int))]) rfl ?_
        refine TT.steps (cd := cd112) 1 (c' := (10, [(3, 0), (2, 0), (2, 295), (0, ((i + 6 : Nat) : Int))], [], σz126)) rfl rfl ?_
        exact ih (i + 6) (by omega) _ (by omega) hI126
      refine TT.swc (fun h129 => ?_) (fun h129 => ?_)
      · refine TT.steps (cd := cd112) 5 (c' := (745, [(3, 0), (2, 0), (2, 295), (0, ((i : Nat) : Int))], [(0, (aAdd ((i : Nat) : Int) 1)), (3, 0), (2, 0)], σ)) rfl rfl ?_
        refine TT.top0 (z := ((i + 1 : Nat) : Int)) (aAdd_n (a := i) (b := 1) (by omega)) ?_
        refine TT.sld (cd := cd112) (i + 1) rfl rfl rfl (by omega) ?_
        refine TT.steps (cd := cd112) 4 (c' := (750, [(3, 0), (2, 0), (2, 295), (0, ((i : Nat) : Int))], [(0, (aAdd ((i : Nat) : Int) 2)), (3, 0), (0, (X.2 (i + 1))), (2, 0)], σ)) rfl rfl ?_
        refine TT.top0 (z := ((i + 2 : Nat) : Int)) (aAdd_n (a := i) (b := 2) (by omega)) ?_
        refine TT.sld (cd := cd112) (i + 2) rfl rfl rfl (by omega) ?_
        refine TT.call (cd := cd112) rfl rfl rfl (by decide) rfl (PP_left X hI (X.2 (i + 1)) (X.2 (i + 2))) (fun r130 σ130 hq => ?_)
        obtain ⟨r2_130, σz130, ⟨⟨z130, hz1, hz2⟩, hI130⟩, dt130⟩ := TT.ex hq
        subst hz1
        subst hz2
        refine TT.steps (cd := cd112) 5 (c' := (757, [(3, 0), (2, 0), (2, 295), (0, ((i : Nat) : Int))], [(0, (aAdd ((i : Nat) : Int) 1)), (3, 0), (2, 295), (0, z130)], σ130)) rfl rfl ?_
        refine TT.top0 (z := ((i + 1 : Nat) : Int)) (aAdd_n (a := i) (b := 1) (by omega)) ?_
        refine TT.sld (cd := cd112) (i + 1) rfl rfl rfl (by omega) ?_
        refine TT.steps (cd := cd112) 4 (c' := (762, [(3, 0), (2, 0), (2, 295), (0, ((i : Nat) : Int))], [(0, (aAdd ((i : Nat) : Int) 2)), (3, 0), (0, (X.2 (i + 1))), (2, 295), (0, z130)], σ130)) rfl rfl ?_
        refine TT.top0 (z := ((i + 2 : Nat) : Int)) (aAdd_n (a := i) (b := 2) (by omega)) ?_
        refine TT.sld (cd := cd112) (i + 2) rfl rfl rfl (by omega) ?_
        refine TT.call (cd := cd112) rfl rfl rfl (by decide) rfl (dt130) (fun r131 σ131 hq => ?_)
        rw [hq.1, hq.2]
        refine TT.steps (cd := cd112) 1 (c' := ((if decide (z130 = z130) = true then 906 else 765), [(3, 0), (2, 0), (2, 295), (0, ((i : Nat) : Int))], [], σz130)) rfl rfl ?_
        refine TT.br (p := z130 = z130) (fun h132 => ?_) (fun h132 => absurd (show z130 = z130 by rfl) h132)
        refine TT.inc (cd := cd112) ((i + 6 : Nat) : Int) rfl rfl rfl rfl (fun h => absurd h.2 (show ¬ (2 = 1) by decide)) (aAdd_n (a := i) (b := 6) (by omega)) (ls' := [(3, 0), (2, 0), (2, 295), (0, ((i + 6 : Nat) : Int))]) rfl ?_
        refine TT.steps (cd := cd112) 1 (c' := (10, [(3, 0), (2, 0), (2, 295), (0, ((i + 6 : Nat) : Int))], [], σz130)) rfl rfl ?_
        exact ih (i + 6) (by omega) _ (by omega) hI130
      refine TT.swc (fun h133 => ?_) (fun h133 => ?_)
      · refine TT.steps (cd := cd112) 5 (c' := (772, [(3, 0), (2, 0), (2, 295), (0, ((i : Nat) : Int))], [(0, (aAdd ((i : Nat) : Int) 1)), (3, 0), (2, 0)], σ)) rfl rfl ?_
        refine TT.top0 (z := ((i + 1 : Nat) : Int)) (aAdd_n (a := i) (b := 1) (by omega)) ?_
        refine TT.sld (cd := cd112) (i + 1) rfl rfl rfl (by omega) ?_
        refine TT.steps (cd := cd112) 4 (c' := (777, [(3, 0), (2, 0), (2, 295), (0, ((i : Nat) : Int))], [(0, (aAdd ((i : Nat) : Int) 2)), (3, 0), (0, (X.2 (i + 1))), (2, 0)], σ)) rfl rfl ?_
        refine TT.top0 (z := ((i + 2 : Nat) : Int)) (aAdd_n (a := i) (b := 2) (by omega)) ?_
        refine TT.sld (cd := cd112) (i + 2) rfl rfl rfl (by omega) ?_
        refine TT.steps (cd := cd112) 4 (c' := (782, [(3, 0), (2, 0), (2, 295), (0, ((i : Nat) : Int))], [(0, (aAdd ((i : Nat) : Int) 3)), (3, 0), (0, (X.2 (i + 2))), (0, (X.2 (i + 1))), (2, 0)], σ)) rfl rfl ?_
        refine TT.top0 (z := ((i + 3 : Nat) : Int)) (aAdd_n (a := i) (b := 3) (by omega)) ?_
        refine TT.sld (cd := cd112) (i + 3) rfl rfl rfl (by omega) ?_
        refine TT.call (cd := cd112) rfl rfl rfl (by decide) rfl (PP_child X hI (X.2 (i + 1)) (X.2 (i + 2)) (X.2 (i + 3))) (fun r134 σ134 hq => ?_)
        obtain ⟨r2_134, σz134, ⟨⟨z134, hz1, hz2⟩, hI134⟩, dt134⟩ := TT.ex hq
        subst hz1
        subst hz2
        refine TT.steps (cd := cd112) 5 (c' := (789, [(3, 0), (2, 0), (2, 295), (0, ((i : Nat) : Int))], [(0, (aAdd ((i : Nat) : Int) 1)), (3, 0), (2, 295), (0, z134)], σ134)) rfl rfl ?_
        refine TT.top0 (z := ((i + 1 : Nat) : Int)) (aAdd_n (a := i) (b := 1) (by omega)) ?_
        refine TT.sld (cd := cd112) (i + 1) rfl rfl rfl (by omega) ?_
        refine TT.steps (cd := cd112) 4 (c' := (794, [(3, 0), (2, 0), (2, 295), (0, ((i : Nat) : Int))], [(0, (aAdd ((i : Nat) : Int) 2)), (3, 0), (0, (X.2 (i + 1))), (2, 295), (0, z134)], σ134)) rfl rfl ?_
        refine TT.top0 (z := ((i + 2 : Nat) : Int)) (aAdd_n (a := i) (b := 2) (by omega)) ?_
        refine TT.sld (cd := cd112) (i + 2) rfl rfl rfl (by omega) ?_
        refine TT.steps (cd := cd112) 4 (c' := (799, [(3, 0), (2, 0), (2, 295), (0, ((i : Nat) : Int))], [(0, (aAdd ((i : Nat) : Int) 3)), (3, 0), (0, (X.2 (i + 2))), (0, (X.2 (i + 1))), (2, 295), (0, z134)], σ134)) rfl rfl ?_
        refine TT.top0 (z := ((i + 3 : Nat) : Int)) (aAdd_n (a := i) (b := 3) (by omega)) ?_
        refine TT.sld (cd := cd112) (i + 3) rfl rfl rfl (by omega) ?_
        refine TT.call (cd := cd112) rfl rfl rfl (by decide) rfl (dt134) (fun r135 σ135 hq => ?_)
        rw [hq.1, hq.2]
        refine TT.steps (cd := cd112) 1 (c' := ((if decide (z134 = z134) = true then 906 else 802), [(3, 0), (2, 0), (2, 295), (0, ((i : Nat) : Int))], [], σz134)) rfl rfl ?_
        refine TT.br (p := z134 = z134) (fun h136 => ?_) (fun h136 => absurd (show z134 = z134 by rfl) h136)
        refine TT.inc (cd := cd112) ((i + 6 : Nat) : Int) rfl rfl rfl rfl (fun h => absurd h.2 (show ¬ (2 = 1) by decide)) (aAdd_n (a := i) (b := 6) (by omega)) (ls' := [(3, 0), (2, 0), (2, 295), (0, ((i + 6 : Nat) : Int))]) rfl ?_
        refine TT.steps (cd := cd112) 1 (c' := (10, [(3, 0), (2, 0), (2, 295), (0, ((i + 6 : Nat) : Int))], [], σz134)) rfl rfl ?_
        exact ih (i + 6) (by omega) _ (by omega) hI134
      refine TT.swc (fun h137 => ?_) (fun h137 => ?_)
      · refine TT.steps (cd := cd112) 5 (c' := (809, [(3, 0), (2, 0), (2, 295), (0, ((i : Nat) : Int))], [(0, (aAdd ((i : Nat) : Int) 1)), (3, 0), (2, 0)], σ)) rfl rfl ?_
        refine TT.top0 (z := ((i + 1 : Nat) : Int)) (aAdd_n (a := i) (b := 1) (by omega)) ?_
        refine TT.sld (cd := cd112) (i + 1) rfl rfl rfl (by omega) ?_
        refine TT.call (cd := cd112) rfl rfl rfl (by decide) rfl (PP_settles X hI (X.2 (i + 1))) (fun r138 σ138 hq => ?_)
        obtain ⟨r2_138, σz138, ⟨⟨z138, hz1, hz2⟩, hI138⟩, dt138⟩ := TT.ex hq
        subst hz1
        subst hz2
        refine TT.steps (cd := cd112) 5 (c' := (816, [(3, 0), (2, 0), (2, 295), (0, ((i : Nat) : Int))], [(0, (aAdd ((i : Nat) : Int) 1)), (3, 0), (2, 295), (0, z138)], σ138)) rfl rfl ?_
        refine TT.top0 (z := ((i + 1 : Nat) : Int)) (aAdd_n (a := i) (b := 1) (by omega)) ?_
        refine TT.sld (cd := cd112) (i + 1) rfl rfl rfl (by omega) ?_
        refine TT.call (cd := cd112) rfl rfl rfl (by decide) rfl (dt138) (fun r139 σ139 hq => ?_)
        rw [hq.1, hq.2]
        refine TT.steps (cd := cd112) 1 (c' := ((if decide (z138 = z138) = true then 906 else 819), [(3, 0), (2, 0), (2, 295), (0, ((i : Nat) : Int))], [], σz138)) rfl rfl ?_
        refine TT.br (p := z138 = z138) (fun h140 => ?_) (fun h140 => absurd (show z138 = z138 by rfl) h140)
        refine TT.inc (cd := cd112) ((i + 6 : Nat) : Int) rfl rfl rfl rfl (fun h => absurd h.2 (show ¬ (2 = 1) by decide)) (aAdd_n (a := i) (b := 6) (by omega)) (ls' := [(3, 0), (2, 0), (2, 295), (0, ((i + 6 : Nat) : Int))]) rfl ?_
        refine TT.steps (cd := cd112) 1 (c' := (10, [(3, 0), (2, 0), (2, 295), (0, ((i + 6 : Nat) : Int))], [], σz138)) rfl rfl ?_
        exact ih (i + 6) (by omega) _ (by omega) hI138
      refine TT.swc (fun h141 => ?_) (fun h141 => ?_)
      · refine TT.steps (cd := cd112) 5 (c' := (826, [(3, 0), (2, 0), (2, 295), (0, ((i : Nat) : Int))], [(0, (aAdd ((i : Nat) : Int) 1)), (3, 0), (2, 0)], σ)) rfl rfl ?_
        refine TT.top0 (z := ((i + 1 : Nat) : Int)) (aAdd_n (a := i) (b := 1) (by omega)) ?_
        refine TT.sld (cd := cd112) (i + 1) rfl rfl rfl (by omega) ?_
        refine TT.steps (cd := cd112) 4 (c' := (831, [(3, 0), (2, 0), (2, 295), (0, ((i : Nat) : Int))], [(0, (aAdd ((i : Nat) : Int) 2)), (3, 0), (0, (X.2 (i + 1))), (2, 0)], σ)) rfl rfl ?_
        refine TT.top0 (z := ((i + 2 : Nat) : Int)) (aAdd_n (a := i) (b := 2) (by omega)) ?_
        refine TT.sld (cd := cd112) (i + 2) rfl rfl rfl (by omega) ?_
        refine TT.steps (cd := cd112) 4 (c' := (836, [(3, 0), (2, 0), (2, 295), (0, ((i : Nat) : Int))], [(0, (aAdd ((i : Nat) : Int) 3)), (3, 0), (0, (X.2 (i + 2))), (0, (X.2 (i + 1))), (2, 0)], σ)) rfl rfl ?_
        refine TT.top0 (z := ((i + 3 : Nat) : Int)) (aAdd_n (a := i) (b := 3) (by omega)) ?_
        refine TT.sld (cd := cd112) (i + 3) rfl rfl rfl (by omega) ?_
        refine TT.call (cd := cd112) rfl rfl rfl (by decide) rfl (PP_both X hI (X.2 (i + 1)) (X.2 (i + 2)) (X.2 (i + 3))) (fun r142 σ142 hq => ?_)
        obtain ⟨r2_142, σz142, ⟨⟨z142, hz1, hz2⟩, hI142⟩, dt142⟩ := TT.ex hq
        subst hz1
        subst hz2
        refine TT.steps (cd := cd112) 5 (c' := (843, [(3, 0), (2, 0), (2, 295), (0, ((i : Nat) : Int))], [(0, (aAdd ((i : Nat) : Int) 1)), (3, 0), (2, 295), (0, z142)], σ142)) rfl rfl ?_
        refine TT.top0 (z := ((i + 1 : Nat) : Int)) (aAdd_n (a := i) (b := 1) (by omega)) ?_
        refine TT.sld (cd := cd112) (i + 1) rfl rfl rfl (by omega) ?_
        refine TT.steps (cd := cd112) 4 (c' := (848, [(3, 0), (2, 0), (2, 295), (0, ((i : Nat) : Int))], [(0, (aAdd ((i : Nat) : Int) 2)), (3, 0), (0, (X.2 (i + 1))), (2, 295), (0, z142)], σ142)) rfl rfl ?_
        refine TT.top0 (z := ((i + 2 : Nat) : Int)) (aAdd_n (a := i) (b := 2) (by omega)) ?_
        refine TT.sld (cd := cd112) (i + 2) rfl rfl rfl (by omega) ?_
        refine TT.steps (cd := cd112) 4 (c' := (853, [(3, 0), (2, 0), (2, 295), (0, ((i : Nat) : Int))], [(0, (aAdd ((i : Nat) : Int) 3)), (3, 0), (0, (X.2 (i + 2))), (0, (X.2 (i + 1))), (2, 295), (0, z142)], σ142)) rfl rfl ?_
        refine TT.top0 (z := ((i + 3 : Nat) : Int)) (aAdd_n (a := i) (b := 3) (by omega)) ?_
        refine TT.sld (cd := cd112) (i + 3) rfl rfl rfl (by omega) ?_
        refine TT.call (cd := cd112) rfl rfl rfl (by decide) rfl (dt142) (fun r143 σ143 hq => ?_)
        rw [hq.1, hq.2]
        refine TT.steps (cd := cd112) 1 (c' := ((if decide (z142 = z142) = true then 906 else 856), [(3, 0), (2, 0), (2, 295), (0, ((i : Nat) : Int))], [], σz142)) rfl rfl ?_
        refine TT.br (p := z142 = z142) (fun h144 => ?_) (fun h144 => absurd (show z142 = z142 by rfl) h144)
        refine TT.inc (cd := cd112) ((i + 6 : Nat) : Int) rfl rfl rfl rfl (fun h => absurd h.2 (show ¬ (2 = 1) by decide)) (aAdd_n (a := i) (b := 6) (by omega)) (ls' := [(3, 0), (2, 0), (2, 295), (0, ((i + 6 : Nat) : Int))]) rfl ?_
        refine TT.steps (cd := cd112) 1 (c' := (10, [(3, 0), (2, 0), (2, 295), (0, ((i + 6 : Nat) : Int))], [], σz142)) rfl rfl ?_
        exact ih (i + 6) (by omega) _ (by omega) hI142
      refine TT.swc (fun h145 => ?_) (fun h145 => ?_)
      · refine TT.steps (cd := cd112) 1 (c' := (859, [(3, 0), (2, 0), (2, 295), (0, ((i : Nat) : Int))], [(2, 0)], σ)) rfl rfl ?_
        refine TT.call (cd := cd112) rfl rfl rfl (by decide) rfl (PP_image X hI ) (fun r146 σ146 hq => ?_)
        obtain ⟨r2_146, σz146, ⟨⟨z146, hz1, hz2⟩, hI146⟩, dt146⟩ := TT.ex hq
        subst hz1
        subst hz2
        refine TT.steps (cd := cd112) 1 (c' := (861, [(3, 0), (2, 0), (2, 295), (0, ((i : Nat) : Int))], [(2, 295), (0, z146)], σ146)) rfl rfl ?_
        refine TT.call (cd := cd112) rfl rfl rfl (by decide) rfl (dt146) (fun r147 σ147 hq => ?_)
        rw [hq.1, hq.2]
        refine TT.steps (cd := cd112) 1 (c' := ((if decide (z146 = z146) = true then 906 else 863), [(3, 0), (2, 0), (2, 295), (0, ((i : Nat) : Int))], [], σz146)) rfl rfl ?_
        refine TT.br (p := z146 = z146) (fun h148 => ?_) (fun h148 => absurd (show z146 = z146 by rfl) h148)
        refine TT.inc (cd := cd112) ((i + 6 : Nat) : Int) rfl rfl rfl rfl (fun h => absurd h.2 (show ¬ (2 = 1) by decide)) (aAdd_n (a := i) (b := 6) (by omega)) (ls' := [(3, 0), (2, 0), (2, 295), (0, ((i + 6 : Nat) : Int))]) rfl ?_
        refine TT.steps (cd := cd112) 1 (c' := (10, [(3, 0), (2, 0), (2, 295), (0, ((i + 6 : Nat) : Int))], [], σz146)) rfl rfl ?_
        exact ih (i + 6) (by omega) _ (by omega) hI146
      refine TT.swc (fun h149 => ?_) (fun h149 => ?_)
      · refine TT.steps (cd := cd112) 5 (c' := (870, [(3, 0), (2, 0), (2, 295), (0, ((i : Nat) : Int))], [(0, (aAdd ((i : Nat) : Int) 1)), (3, 0), (2, 0)], σ)) rfl rfl ?_
        refine TT.top0 (z := ((i + 1 : Nat) : Int)) (aAdd_n (a := i) (b := 1) (by omega)) ?_
        refine TT.sld (cd := cd112) (i + 1) rfl rfl rfl (by omega) ?_
        refine TT.call (cd := cd112) rfl rfl rfl (by decide) rfl (PP_octet X hI (X.2 (i + 1))) (fun r150 σ150 hq => ?_)
        obtain ⟨r2_150, σz150, ⟨⟨z150, hz1, hz2⟩, hI150⟩, dt150⟩ := TT.ex hq
        subst hz1
        subst hz2
        refine TT.steps (cd := cd112) 5 (c' := (877, [(3, 0), (2, 0), (2, 295), (0, ((i : Nat) : Int))], [(0, (aAdd ((i : Nat) : Int) 1)), (3, 0), (2, 295), (0, z150)], σ150)) rfl rfl ?_
        refine TT.top0 (z := ((i + 1 : Nat) : Int)) (aAdd_n (a := i) (b := 1) (by omega)) ?_
        refine TT.sld (cd := cd112) (i + 1) rfl rfl rfl (by omega) ?_
        refine TT.call (cd := cd112) rfl rfl rfl (by decide) rfl (dt150) (fun r151 σ151 hq => ?_)
        rw [hq.1, hq.2]
        refine TT.steps (cd := cd112) 1 (c' := ((if decide (z150 = z150) = true then 906 else 880), [(3, 0), (2, 0), (2, 295), (0, ((i : Nat) : Int))], [], σz150)) rfl rfl ?_
        refine TT.br (p := z150 = z150) (fun h152 => ?_) (fun h152 => absurd (show z150 = z150 by rfl) h152)
        refine TT.inc (cd := cd112) ((i + 6 : Nat) : Int) rfl rfl rfl rfl (fun h => absurd h.2 (show ¬ (2 = 1) by decide)) (aAdd_n (a := i) (b := 6) (by omega)) (ls' := [(3, 0), (2, 0), (2, 295), (0, ((i + 6 : Nat) : Int))]) rfl ?_
        refine TT.steps (cd := cd112) 1 (c' := (10, [(3, 0), (2, 0), (2, 295), (0, ((i + 6 : Nat) : Int))], [], σz150)) rfl rfl ?_
        exact ih (i + 6) (by omega) _ (by omega) hI150
      refine TT.swc (fun h153 => ?_) (fun h153 => ?_)
      · refine TT.steps (cd := cd112) 1 (c' := (883, [(3, 0), (2, 0), (2, 295), (0, ((i : Nat) : Int))], [(2, 0)], σ)) rfl rfl ?_
        refine TT.call (cd := cd112) rfl rfl rfl (by decide) rfl (PP_on X hI ) (fun r154 σ154 hq => ?_)
        obtain ⟨r2_154, σz154, ⟨⟨z154, hz1, hz2⟩, hI154⟩, dt154⟩ := TT.ex hq
        subst hz1
        subst hz2
        refine TT.steps (cd := cd112) 1 (c' := (885, [(3, 0), (2, 0), (2, 295), (0, ((i : Nat) : Int))], [(2, 295), (0, z154)], σ154)) rfl rfl ?_
        refine TT.call (cd := cd112) rfl rfl rfl (by decide) rfl (dt154) (fun r155 σ155 hq => ?_)
        rw [hq.1, hq.2]
        refine TT.steps (cd := cd112) 1 (c' := ((if decide (z154 = z154) = true then 906 else 887), [(3, 0), (2, 0), (2, 295), (0, ((i : Nat) : Int))], [], σz154)) rfl rfl ?_
        refine TT.br (p := z154 = z154) (fun h156 => ?_) (fun h156 => absurd (show z154 = z154 by rfl) h156)
        refine TT.inc (cd := cd112) ((i + 6 : Nat) : Int) rfl rfl rfl rfl (fun h => absurd h.2 (show ¬ (2 = 1) by decide)) (aAdd_n (a := i) (b := 6) (by omega)) (ls' := [(3, 0), (2, 0), (2, 295), (0, ((i + 6 : Nat) : Int))]) rfl ?_
        refine TT.steps (cd := cd112) 1 (c' := (10, [(3, 0), (2, 0), (2, 295), (0, ((i + 6 : Nat) : Int))], [], σz154)) rfl rfl ?_
        exact ih (i + 6) (by omega) _ (by omega) hI154
      refine TT.swc (fun h157 => ?_) (fun h157 => ?_)
      · refine TT.steps (cd := cd112) 5 (c' := (894, [(3, 0), (2, 0), (2, 295), (0, ((i : Nat) : Int))], [(0, (aAdd ((i : Nat) : Int) 1)), (3, 0), (2, 0)], σ)) rfl rfl ?_
        refine TT.top0 (z := ((i + 1 : Nat) : Int)) (aAdd_n (a := i) (b := 1) (by omega)) ?_
        refine TT.sld (cd := cd112) (i + 1) rfl rfl rfl (by omega) ?_
        refine TT.call (cd := cd112) rfl rfl rfl (by decide) rfl (PP_status X hI (X.2 (i + 1))) (fun r158 σ158 hq => ?_)
        obtain ⟨r2_158, σz158, ⟨⟨z158, hz1, hz2⟩, hI158⟩, dt158⟩ := TT.ex hq
        subst hz1
        subst hz2
        refine TT.steps (cd := cd112) 5 (c' := (901, [(3, 0), (2, 0), (2, 295), (0, ((i : Nat) : Int))], [(0, (aAdd ((i : Nat) : Int) 1)), (3, 0), (2, 295), (0, z158)], σ158)) rfl rfl ?_
        refine TT.top0 (z := ((i + 1 : Nat) : Int)) (aAdd_n (a := i) (b := 1) (by omega)) ?_
        refine TT.sld (cd := cd112) (i + 1) rfl rfl rfl (by omega) ?_
        refine TT.call (cd := cd112) rfl rfl rfl (by decide) rfl (dt158) (fun r159 σ159 hq => ?_)
        rw [hq.1, hq.2]
        refine TT.steps (cd := cd112) 1 (c' := ((if decide (z158 = z158) = true then 906 else 904), [(3, 0), (2, 0), (2, 295), (0, ((i : Nat) : Int))], [], σz158)) rfl rfl ?_
        refine TT.br (p := z158 = z158) (fun h160 => ?_) (fun h160 => absurd (show z158 = z158 by rfl) h160)
        refine TT.inc (cd := cd112) ((i + 6 : Nat) : Int) rfl rfl rfl rfl (fun h => absurd h.2 (show ¬ (2 = 1) by decide)) (aAdd_n (a := i) (b := 6) (by omega)) (ls' := [(3, 0), (2, 0), (2, 295), (0, ((i + 6 : Nat) : Int))]) rfl ?_
        refine TT.steps (cd := cd112) 1 (c' := (10, [(3, 0), (2, 0), (2, 295), (0, ((i + 6 : Nat) : Int))], [], σz158)) rfl rfl ?_
        exact ih (i + 6) (by omega) _ (by omega) hI158
      show TT X 112 (906, [(3, 0), (2, 0), (2, 295), (0, ((i : Nat) : Int))], [], σ) _
      refine TT.inc (cd := cd112) ((i + 6 : Nat) : Int) rfl rfl rfl rfl (fun h => absurd h.2 (show ¬ (2 = 1) by decide)) (aAdd_n (a := i) (b := 6) (by omega)) (ls' := [(3, 0), (2, 0), (2, 295), (0, ((i + 6 : Nat) : Int))]) rfl ?_
      refine TT.steps (cd := cd112) 1 (c' := (10, [(3, 0), (2, 0), (2, 295), (0, ((i + 6 : Nat) : Int))], [], σ)) rfl rfl ?_
      exact ih (i + 6) (by omega) _ (by omega) hI
    · refine TT.steps (cd := cd112) 2 (c' := (12, [(3, 0), (2, 0), (2, 295), (0, ((i : Nat) : Int))], [(3, 0), (0, ((i : Nat) : Int))], σ)) rfl rfl ?_
      refine TT.steps (cd := cd112) 1 (c' := (13, [(3, 0), (2, 0), (2, 295), (0, ((i : Nat) : Int))], [(0, ((X.1 : Nat) : Int)), (0, ((i : Nat) : Int))], σ)) rfl rfl ?_
      refine TT.steps (cd := cd112) 2 (c' := (15, [(3, 0), (2, 0), (2, 295), (0, ((i : Nat) : Int))], [(0, (aSub ((X.1 : Nat) : Int) 6)), (0, ((i : Nat) : Int))], σ)) rfl rfl ?_
      refine TT.top0 (z := ((X.1 : Int) - 6)) (aSub_of (by omega) (by omega)) ?_
      refine TT.steps (cd := cd112) 1 (c' := ((if decide (((X.1 : Int) - 6) < ((i : Nat) : Int)) = true then 908 else 16), [(3, 0), (2, 0), (2, 295), (0, ((i : Nat) : Int))], [], σ)) rfl rfl ?_
      refine TT.br (p := ((X.1 : Int) - 6) < ((i : Nat) : Int)) (fun h1 => ?_) (fun h1 => absurd (show ((X.1 : Int) - 6) < ((i : Nat) : Int) by omega) h1)
      refine TT.steps (cd := cd112) 1 (c' := (909, [(3, 0), (2, 0), (2, 295), (0, ((i : Nat) : Int))], [(0, 1)], σ)) rfl rfl ?_
      exact TT.ret (cd := cd112) rfl rfl rfl rfl (rfl)
