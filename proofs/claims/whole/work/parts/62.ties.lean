/-! Births and wishes as bits. -/
abbrev kLa (σ : AH) (l q t lt np j : Nat) : Int := ((bs (fun p => anyN (fun i => decide (j ≤ i ∧ σ (l + 9 + t) i = σ (q + 5) p)) lt) np : Nat) : Int)
abbrev kBB (σ : AH) (q np : Nat) (s u : Int) : Int := ((bs (fun p => decide ((σ (q + 2) p = s ∧ σ (q + 3) p = u) ∨ (σ (q + 2) p = u ∧ σ (q + 3) p = s))) np : Nat) : Int)
/-- the rows of a train, from its n-th call on -/
def LTP (σ τ : AH) (l q t lt np n : Nat) : Prop := (∀ K j, ¬ (K = 203 + t) → ¬ (K = 210 + t) → τ K j = σ K j) ∧ (∀ j, n ≤ j → j < lt → τ (210 + t) j = kLa σ l q t lt np (j + 1)) ∧ (∀ j, n ≤ j + 1 → j + 1 < lt → τ (203 + t) (j + 1) = kBB σ q np (σ (l + 9 + t) j) (σ (l + 9 + t) (j + 1)))
theorem LTP_s {σ τ : AH} {l q t lt np n : Nat} (h : LTP σ τ l q t lt np (n + 1)) (hn : n < lt) {x y : Int} (hx : x = kLa σ l q t lt np (n + 1)) (hy : ∀ j, n = j + 1 → y = kBB σ q np (σ (l + 9 + t) j) (σ (l + 9 + t) (j + 1))) : LTP σ (up2 (up2 τ (210 + t) n x) (203 + t) n y) l q t lt np n := by
  obtain ⟨h1, h2, h3⟩ := h
  refine ⟨fun K j a c => ?_, fun j a c => ?_, fun j a c => ?_⟩
  · rw [up2_nq _ (by omega), up2_nq _ (by omega)]; exact h1 K j a c
  · rw [up2_nq _ (by omega)]
    by_cases e : j = n
    · subst e; rw [up2_hit, hx]
    · rw [up2_nq _ (by omega)]; exact h2 j (by omega) c
  · by_cases e : j + 1 = n
    · rw [e, up2_hit, hy j e.symm, e]
    · rw [up2_nq _ (by omega), up2_nq _ (by omega)]; exact h3 j (by omega) c
theorem kLa_s (σ : AH) (l q t lt np n s : Nat) (hn : n < lt) (hnp : np ≤ 10) (hs : σ (l + 9 + t) n = (s : Int)) : aOr (kLa σ l q t lt np (n + 1)) ((bs (fun p => decide (σ (q + 5) p = (s : Int))) np : Nat) : Int) = kLa σ l q t lt np n := by
  unfold kLa
  rw [bs_or _ _ (by omega)]
  refine congrArg (fun x : Nat => (x : Int)) (bs_c ?_)
  intro p hp
  rw [Bool.eq_iff_iff, Bool.or_eq_true, anyN_iff, anyN_iff]
  simp only [decide_eq_true_eq]
  constructor
  · rintro (⟨i, h1, h2, h3⟩ | h)
    · exact ⟨i, h1, by omega, h3⟩
    · exact ⟨n, hn, by omega, by rw [hs, h]⟩
  · rintro ⟨i, h1, h2, h3⟩
    by_cases e : i = n
    · subst e; right; rw [← h3, hs]
    · exact Or.inl ⟨i, h1, by omega, h3⟩
theorem kLa_0 (σ : AH) (l q t lt np : Nat) : (0 : Int) = kLa σ l q t lt np lt := by
  unfold kLa
  rw [bs_c (g := fun _ => false) (n := np), bs_zero]
  · rfl
  · intro p _
    apply anyN_f
    intro i hi
    exact decide_eq_false (by omega)
theorem kBB_c {σ τ : AH} {q np : Nat} {s u : Int} (h : ∀ K j, K = q + 2 ∨ K = q + 3 → τ K j = σ K j) : kBB τ q np s u = kBB σ q np s u := by
  unfold kBB
  simp only [h (q + 2) _ (Or.inl rfl), h (q + 3) _ (Or.inr rfl)]
/-- births and wishes, the first n stations; then wishes of the first n people; then the first n trains -/
def LN1 (σ τ : AH) (q np n : Nat) : Prop := (∀ K j, ¬ K = 200 → ¬ K = 201 → τ K j = σ K j) ∧ (∀ s : Nat, s < n → τ 200 s = ((bs (fun p => decide (σ (q + 2) p = (s : Int) ∧ σ (q + 3) p = -1)) np : Nat) : Int) ∧ τ 201 s = 0)
def LN2 (σ τ : AH) (q np n : Nat) : Prop := (∀ K j, ¬ K = 200 → ¬ K = 201 → τ K j = σ K j) ∧ (∀ s : Nat, s < 14 → τ 200 s = ((bs (fun p => decide (σ (q + 2) p = (s : Int) ∧ σ (q + 3) p = -1)) np : Nat) : Int) ∧ τ 201 s = ((bs (fun p => decide (σ (q + 5) p = (s : Int))) n : Nat) : Int))
def LN3 (σ τ : AH) (l q np : Nat) (L : Nat → Nat) (n : Nat) : Prop := (∀ K j, (K < 200 ∨ 215 < K ∨ K = 202 ∨ K = 209) → τ K j = σ K j) ∧ (∀ s : Nat, s < 14 → τ 200 s = ((bs (fun p => decide (σ (q + 2) p = (s : Int) ∧ σ (q + 3) p = -1)) np : Nat) : Int) ∧ τ 201 s = ((bs (fun p => decide (σ (q + 5) p = (s : Int))) np : Nat) : Int)) ∧ (∀ t, t < n → (∀ j, j < L t → τ (210 + t) j = kLa σ l q t (L t) np (j + 1)) ∧ (∀ j, j + 1 < L t → τ (203 + t) (j + 1) = kBB σ q np (σ (l + 9 + t) j) (σ (l + 9 + t) (j + 1))))
theorem LN1_s {σ τ : AH} {q np n : Nat} (h : LN1 σ τ q np n) {x : Int} (hx : x = ((bs (fun p => decide (σ (q + 2) p = (n : Int) ∧ σ (q + 3) p = -1)) np : Nat) : Int)) : LN1 σ (up2 (up2 τ 200 n x) 201 n 0) q np (n + 1) := by
  refine ⟨fun K j a c => ?_, fun s hs => ?_⟩
  · rw [up2_nq _ (by omega), up2_nq _ (by omega)]; exact h.1 K j a c
  · by_cases e : s = n
    · subst e; rw [up2_nq _ (by omega), up2_hit, up2_hit]; exact ⟨hx, rfl⟩
    · rw [up2_nq _ (by omega), up2_nq _ (by omega), up2_nq _ (by omega), up2_nq _ (by omega)]; exact h.2 s (by omega)
theorem LN12 {σ τ : AH} {q np : Nat} (h : LN1 σ τ q np 14) : LN2 σ τ q np 0 := ⟨h.1, fun s hs => ⟨(h.2 s hs).1, by rw [(h.2 s hs).2]; rfl⟩⟩
theorem LN2_s {σ τ : AH} {q np n s0 : Nat} (h : LN2 σ τ q np n) (hn : n ≤ 29) (hs0 : s0 < 14) (hs : σ (q + 5) n = (s0 : Int)) : LN2 σ (up2 τ 201 s0 (aOr ((bs (fun p => decide (σ (q + 5) p = (s0 : Int))) n : Nat) : Int) (aShl 1 ((n : Nat) : Int)))) q np (n + 1) := by
  refine ⟨fun K j a c => ?_, fun s hs1 => ⟨?_, ?_⟩⟩
  · rw [up2_nq _ (by omega)]; exact h.1 K j a c
  · rw [up2_nq _ (by omega)]; exact (h.2 s hs1).1
  · by_cases e : s = s0
    · subst e; rw [up2_hit]; exact bs_t (decide_eq_true hs) hn
    · rw [up2_nq _ (by omega), (h.2 s hs1).2]; exact bs_f (decide_eq_false (by omega))
theorem LN23 {σ τ : AH} {l q np : Nat} {L : Nat → Nat} (h : LN2 σ τ q np np) : LN3 σ τ l q np L 0 := ⟨fun K j hK => h.1 K j (by omega) (by omega), h.2, fun t ht => by omega⟩
theorem LN3_s {σ τ υ : AH} {l q np n : Nat} {L : Nat → Nat} (hl : l = 8 ∨ l = 170) (hq : q = 36 ∨ q = 42) (hn : n < 6) (h : LN3 σ τ l q np L n) (h2 : LTP τ υ l q n (L n) np 0) : LN3 σ υ l q np L (n + 1) := by
  have f1 : ∀ K j, K < 198 → τ K j = σ K j := fun K j hK => h.1 K j (by omega)
  refine ⟨fun K j hK => ?_, fun s hs => ?_, fun t ht => ?_⟩
  · rw [h2.1 K j (by omega) (by omega)]; exact h.1 K j hK
  · rw [h2.1 200 s (by omega) (by omega), h2.1 201 s (by omega) (by omega)]; exact h.2.1 s hs
  · by_cases e : t = n
    · subst e
      refine ⟨fun j hj => ?_, fun j hj => ?_⟩
      · rw [h2.2.1 j (by omega) hj]
        unfold kLa
        simp only [f1 (l + 9 + t) _ (by omega), f1 (q + 5) _ (by omega)]
      · rw [h2.2.2 j (by omega) hj]
        unfold kBB
        simp only [f1 (l + 9 + t) _ (by omega), f1 (q + 2) _ (by omega), f1 (q + 3) _ (by omega)]
    · refine ⟨fun j hj => ?_, fun j hj => ?_⟩
      · rw [h2.1 _ _ (by omega) (by omega)]; exact (h.2.2 t (by omega)).1 j hj
      · rw [h2.1 _ _ (by omega) (by omega)]; exact (h.2.2 t (by omega)).2 j hj
theorem vl_lt_8_36 (X : AX) (t lt np : Nat) (σ : AH) (hc : σ 36 0 = (np : Int)) (hnp2 : np ≤ 10) (ht : t < 6) (hlt2 : lt ≤ 8) (hCa : ∀ k, k < lt → ∃ s : Nat, s < 14 ∧ σ (17 + t) k = (s : Int)) (hW : ∀ s : Nat, s < 14 → σ 201 s = ((bs (fun p => decide (σ 41 p = (s : Int))) np : Nat) : Int)) : ∀ n, n ≤ lt → ∀ τ : AH, LTP σ τ 8 36 t lt np n → TT X 170 (9, [(2, 199), (2, 8), (2, 36), (0, ((t : Nat) : Int)), (0, kLa σ 8 36 t lt np n), (0, (n : Int) - 1)], [], τ) (fun r υ => r = none ∧ LTP σ υ 8 36 t lt np 0) := by
  intro n
  induction n with
  | zero =>
    intro hn τ hP
    rw [show ((0 : Nat) : Int) - 1 = -1 from rfl]
    refine TT.steps (cd := cd170) 2 (c' := (58, [(2, 199), (2, 8), (2, 36), (0, ((t : Nat) : Int)), (0, (kLa σ 8 36 t lt np 0)), (0, -1)], [], τ)) rfl rfl ?_
    exact TT.ret (cd := cd170) rfl rfl rfl rfl (⟨rfl, hP⟩)
  | succ n ih =>
    intro hn τ hP
    rw [show ((n + 1 : Nat) : Int) - 1 = ((n : Nat) : Int) by omega]
    obtain ⟨s, hs2, hs⟩ := hCa n (by omega)
    have e4 : aAdd ((n : Nat) : Int) (-1) = (n : Int) - 1 := by rw [aAdd_of (by omega) (by omega)]; omega
    have eO := kLa_s σ 8 36 t lt np n s (by omega) (by omega) hs
    have hP2 := hP.1
    by_cases hn0 : n = 0
    · refine TT.steps (cd := cd170) 2 (c' := ((if decide (((n : Nat) : Int) < 0) = true then 58 else 11), [(2, 199), (2, 8), (2, 36), (0, ((t : Nat) : Int)), (0, (kLa σ 8 36 t lt np (n + 1))), (0, ((n : Nat) : Int))], [], τ)) rfl rfl ?_
      refine TT.br (p := ((n : Nat) : Int) < 0) (fun h1 => absurd h1 (show ¬ (((n : Nat) : Int) < 0) by omega)) (fun h1 => ?_)
      refine TT.steps (cd := cd170) 3 (c' := (14, [(2, 199), (2, 8), (2, 36), (0, ((t : Nat) : Int)), (0, (kLa σ 8 36 t lt np (n + 1))), (0, ((n : Nat) : Int))], [(0, ((t : Nat) : Int)), (2, 209)], τ)) rfl rfl ?_
      refine TT.aaldN (cd := cd170) 209 (t) (210 + t) rfl rfl rfl (Or.inr rfl) (show t < 6 by omega) (fxg_209 t (by omega)) ?_
      refine TT.steps (cd := cd170) 2 (c' := (17, [(2, 199), (2, 8), (2, 36), (0, ((t : Nat) : Int)), (0, (kLa σ 8 36 t lt np (n + 1))), (0, ((n : Nat) : Int))], [(0, (kLa σ 8 36 t lt np (n + 1))), (0, ((n : Nat) : Int)), (2, ((210 + t : Nat) : Int))], τ)) rfl rfl ?_
      refine TT.astN (cd := cd170) (210 + t) (n) rfl rfl rfl (kdg_209 t (by omega)).1 (show n < ln (210 + t) by rw [(kdg_209 t (by omega)).2]; omega) ?_
      refine TT.steps (cd := cd170) 6 (c' := (24, [(2, 199), (2, 8), (2, 36), (0, ((t : Nat) : Int)), (0, (kLa σ 8 36 t lt np (n + 1))), (0, ((n : Nat) : Int))], [(0, ((t : Nat) : Int)), (2, 16), (2, 201), (0, (kLa σ 8 36 t lt np (n + 1)))], (up2 τ (210 + t) n (kLa σ 8 36 t lt np (n + 1))))) rfl rfl ?_
      refine TT.aaldN (cd := cd170) 16 (t) (17 + t) rfl rfl rfl (Or.inr rfl) (show t < 6 by omega) (fxg_16 t (by omega)) ?_
      refine TT.steps (cd := cd170) 1 (c' := (26, [(2, 199), (2, 8), (2, 36), (0, ((t : Nat) : Int)), (0, (kLa σ 8 36 t lt np (n + 1))), (0, ((n : Nat) : Int))], [(0, ((n : Nat) : Int)), (2, ((17 + t : Nat) : Int)), (2, 201), (0, (kLa σ 8 36 t lt np (n + 1)))], (up2 τ (210 + t) n (kLa σ 8 36 t lt np (n + 1))))) rfl rfl ?_
      refine TT.aldN (cd := cd170) (17 + t) (n) rfl rfl rfl (kdg_16 t (by omega)).1 (show n < ln (17 + t) by rw [(kdg_16 t (by omega)).2]; omega) ?_
      refine TT.top0 (z := ((s : Nat) : Int)) ((up2_far (k := 210 + t) (k' := 17 + t) _ _ _ _ (by omega)).trans ((hP2 _ _ (by omega) (by omega)).trans hs)) ?_
      refine TT.aldN (cd := cd170) (201) (s) rfl rfl rfl rfl (show s < 14 by omega) ?_
      refine TT.top0 (z := ((bs (fun p => decide (σ 41 p = (s : Int))) np : Nat) : Int)) ((up2_far (k := 210 + t) (k' := 201) _ _ _ _ (by omega)).trans ((hP2 _ _ (by omega) (by omega)).trans (hW s hs2))) ?_
      refine TT.steps (cd := cd170) 1 (c' := (29, [(2, 199), (2, 8), (2, 36), (0, ((t : Nat) : Int)), (0, (kLa σ 8 36 t lt np (n + 1))), (0, ((n : Nat) : Int))], [(0, (aOr (kLa σ 8 36 t lt np (n + 1)) ((bs (fun p => decide (σ 41 p = (s : Int))) np : Nat) : Int)))], (up2 τ (210 + t) n (kLa σ 8 36 t lt np (n + 1))))) rfl rfl ?_
      refine TT.top0 (z := (kLa σ 8 36 t lt np n)) eO ?_
      refine TT.steps (cd := cd170) 4 (c' := (33, [(2, 199), (2, 8), (2, 36), (0, ((t : Nat) : Int)), (0, (kLa σ 8 36 t lt np n)), (0, ((n : Nat) : Int))], [(0, ((t : Nat) : Int)), (2, 202)], (up2 τ (210 + t) n (kLa σ 8 36 t lt np (n + 1))))) rfl rfl ?_
      refine TT.aaldN (cd := cd170) 202 (t) (203 + t) rfl rfl rfl (Or.inr rfl) (show t < 6 by omega) (fxg_202 t (by omega)) ?_
      refine TT.steps (cd := cd170) 3 (c' := ((if decide (¬ ((n : Nat) : Int) = 0) = true then 39 else 37), [(2, 199), (2, 8), (2, 36), (0, ((t : Nat) : Int)), (0, (kLa σ 8 36 t lt np n)), (0, ((n : Nat) : Int))], [(0, ((n : Nat) : Int)), (2, ((203 + t : Nat) : Int))], (up2 τ (210 + t) n (kLa σ 8 36 t lt np (n + 1))))) rfl rfl ?_
      refine TT.br (p := ¬ ((n : Nat) : Int) = 0) (fun h2 => absurd h2 (show ¬ (¬ ((n : Nat) : Int) = 0) by omega)) (fun h2 => ?_)
      refine TT.steps (cd := cd170) 2 (c' := (55, [(2, 199), (2, 8), (2, 36), (0, ((t : Nat) : Int)), (0, (kLa σ 8 36 t lt np n)), (0, ((n : Nat) : Int))], [(0, 0), (0, ((n : Nat) : Int)), (2, ((203 + t : Nat) : Int))], (up2 τ (210 + t) n (kLa σ 8 36 t lt np (n + 1))))) rfl rfl ?_
      refine TT.astN (cd := cd170) (203 + t) (n) rfl rfl rfl (kdg_202 t (by omega)).1 (show n < ln (203 + t) by rw [(kdg_202 t (by omega)).2]; omega) ?_
      refine TT.inc (cd := cd170) (aAdd ((n : Nat) : Int) (-1)) rfl rfl rfl rfl (fun h => absurd h.2 (show ¬ (0 = 1) by decide)) rfl (ls' := [(2, 199), (2, 8), (2, 36), (0, ((t : Nat) : Int)), (0, (kLa σ 8 36 t lt np n)), (0, (aAdd ((n : Nat) : Int) (-1)))]) rfl ?_
      refine TT.steps (cd := cd170) 1 (c' := (9, [(2, 199), (2, 8), (2, 36), (0, ((t : Nat) : Int)), (0, (kLa σ 8 36 t lt np n)), (0, (aAdd ((n : Nat) : Int) (-1)))], [], (up2 (up2 τ (210 + t) n (kLa σ 8 36 t lt np (n + 1))) (203 + t) n 0))) rfl rfl ?_
      rw [e4]
      refine ih (by omega) _ (LTP_s hP (by omega) rfl ?_)
      intro j hj; omega
    · obtain ⟨s0, hs02, hs0⟩ := hCa (n - 1) (by omega)
      refine TT.steps (cd := cd170) 2 (c' := ((if decide (((n : Nat) : Int) < 0) = true then 58 else 11), [(2, 199), (2, 8), (2, 36), (0, ((t : Nat) : Int)), (0, (kLa σ 8 36 t lt np (n + 1))), (0, ((n : Nat) : Int))], [], τ)) rfl rfl ?_
      refine TT.br (p := ((n : Nat) : Int) < 0) (fun h1 => absurd h1 (show ¬ (((n : Nat) : Int) < 0) by omega)) (fun h1 => ?_)
      refine TT.steps (cd := cd170) 3 (c' := (14, [(2, 199), (2, 8), (2, 36), (0, ((t : Nat) : Int)), (0, (kLa σ 8 36 t lt np (n + 1))), (0, ((n : Nat) : Int))], [(0, ((t : Nat) : Int)), (2, 209)], τ)) rfl rfl ?_
      refine TT.aaldN (cd := cd170) 209 (t) (210 + t) rfl rfl rfl (Or.inr rfl) (show t < 6 by omega) (fxg_209 t (by omega)) ?_
      refine TT.steps (cd := cd170) 2 (c' := (17, [(2, 199), (2, 8), (2, 36), (0, ((t : Nat) : Int)), (0, (kLa σ 8 36 t lt np (n + 1))), (0, ((n : Nat) : Int))], [(0, (kLa σ 8 36 t lt np (n + 1))), (0, ((n : Nat) : Int)), (2, ((210 + t : Nat) : Int))], τ)) rfl rfl ?_
      refine TT.astN (cd := cd170) (210 + t) (n) rfl rfl rfl (kdg_209 t (by omega)).1 (show n < ln (210 + t) by rw [(kdg_209 t (by omega)).2]; omega) ?_
      refine TT.steps (cd := cd170) 6 (c' := (24, [(2, 199), (2, 8), (2, 36), (0, ((t : Nat) : Int)), (0, (kLa σ 8 36 t lt np (n + 1))), (0, ((n : Nat) : Int))], [(0, ((t : Nat) : Int)), (2, 16), (2, 201), (0, (kLa σ 8 36 t lt np (n + 1)))], (up2 τ (210 + t) n (kLa σ 8 36 t lt np (n + 1))))) rfl rfl ?_
      refine TT.aaldN (cd := cd170) 16 (t) (17 + t) rfl rfl rfl (Or.inr rfl) (show t < 6 by omega) (fxg_16 t (by omega)) ?_
      refine TT.steps (cd := cd170) 1 (c' := (26, [(2, 199), (2, 8), (2, 36), (0, ((t : Nat) : Int)), (0, (kLa σ 8 36 t lt np (n + 1))), (0, ((n : Nat) : Int))], [(0, ((n : Nat) : Int)), (2, ((17 + t : Nat) : Int)), (2, 201), (0, (kLa σ 8 36 t lt np (n + 1)))], (up2 τ (210 + t) n (kLa σ 8 36 t lt np (n + 1))))) rfl rfl ?_
      refine TT.aldN (cd := cd170) (17 + t) (n) rfl rfl rfl (kdg_16 t (by omega)).1 (show n < ln (17 + t) by rw [(kdg_16 t (by omega)).2]; omega) ?_
      refine TT.top0 (z := ((s : Nat) : Int)) ((up2_far (k := 210 + t) (k' := 17 + t) _ _ _ _ (by omega)).trans ((hP2 _ _ (by omega) (by omega)).trans hs)) ?_
      refine TT.aldN (cd := cd170) (201) (s) rfl rfl rfl rfl (show s < 14 by omega) ?_
      refine TT.top0 (z := ((bs (fun p => decide (σ 41 p = (s : Int))) np : Nat) : Int)) ((up2_far (k := 210 + t) (k' := 201) _ _ _ _ (by omega)).trans ((hP2 _ _ (by omega) (by omega)).trans (hW s hs2))) ?_
      refine TT.steps (cd := cd170) 1 (c' := (29, [(2, 199), (2, 8), (2, 36), (0, ((t : Nat) : Int)), (0, (kLa σ 8 36 t lt np (n + 1))), (0, ((n : Nat) : Int))], [(0, (aOr (kLa σ 8 36 t lt np (n + 1)) ((bs (fun p => decide (σ 41 p = (s : Int))) np : Nat) : Int)))], (up2 τ (210 + t) n (kLa σ 8 36 t lt np (n + 1))))) rfl rfl ?_
      refine TT.top0 (z := (kLa σ 8 36 t lt np n)) eO ?_
      refine TT.steps (cd := cd170) 4 (c' := (33, [(2, 199), (2, 8), (2, 36), (0, ((t : Nat) : Int)), (0, (kLa σ 8 36 t lt np n)), (0, ((n : Nat) : Int))], [(0, ((t : Nat) : Int)), (2, 202)], (up2 τ (210 + t) n (kLa σ 8 36 t lt np (n + 1))))) rfl rfl ?_
      refine TT.aaldN (cd := cd170) 202 (t) (203 + t) rfl rfl rfl (Or.inr rfl) (show t < 6 by omega) (fxg_202 t (by omega)) ?_
      refine TT.steps (cd := cd170) 3 (c' := ((if decide (¬ ((n : Nat) : Int) = 0) = true then 39 else 37), [(2, 199), (2, 8), (2, 36), (0, ((t : Nat) : Int)), (0, (kLa σ 8 36 t lt np n)), (0, ((n : Nat) : Int))], [(0, ((n : Nat) : Int)), (2, ((203 + t : Nat) : Int))], (up2 τ (210 + t) n (kLa σ 8 36 t lt np (n + 1))))) rfl rfl ?_
      refine TT.br (p := ¬ ((n : Nat) : Int) = 0) (fun h2 => ?_) (fun h2 => absurd (show ¬ ((n : Nat) : Int) = 0 by omega) h2)
      refine TT.steps (cd := cd170) 4 (c' := (43, [(2, 199), (2, 8), (2, 36), (0, ((t : Nat) : Int)), (0, (kLa σ 8 36 t lt np n)), (0, ((n : Nat) : Int))], [(0, ((t : Nat) : Int)), (2, 16), (2, 36), (0, ((n : Nat) : Int)), (2, ((203 + t : Nat) : Int))], (up2 τ (210 + t) n (kLa σ 8 36 t lt np (n + 1))))) rfl rfl ?_
      refine TT.aaldN (cd := cd170) 16 (t) (17 + t) rfl rfl rfl (Or.inr rfl) (show t < 6 by omega) (fxg_16 t (by omega)) ?_
      refine TT.steps (cd := cd170) 3 (c' := (47, [(2, 199), (2, 8), (2, 36), (0, ((t : Nat) : Int)), (0, (kLa σ 8 36 t lt np n)), (0, ((n : Nat) : Int))], [(0, (aSub ((n : Nat) : Int) 1)), (2, ((17 + t : Nat) : Int)), (2, 36), (0, ((n : Nat) : Int)), (2, ((203 + t : Nat) : Int))], (up2 τ (210 + t) n (kLa σ 8 36 t lt np (n + 1))))) rfl rfl ?_
      refine TT.top0 (z := ((n - 1 : Nat) : Int)) (aSub_n (a := n) (b := 1) (by omega) (by omega)) ?_
      refine TT.aldN (cd := cd170) (17 + t) (n - 1) rfl rfl rfl (kdg_16 t (by omega)).1 (show n - 1 < ln (17 + t) by rw [(kdg_16 t (by omega)).2]; omega) ?_
      refine TT.top0 (z := ((s0 : Nat) : Int)) ((up2_far (k := 210 + t) (k' := 17 + t) _ _ _ _ (by omega)).trans ((hP2 _ _ (by omega) (by omega)).trans hs0)) ?_
      refine TT.steps (cd := cd170) 3 (c' := (51, [(2, 199), (2, 8), (2, 36), (0, ((t : Nat) : Int)), (0, (kLa σ 8 36 t lt np n)), (0, ((n : Nat) : Int))], [(0, ((t : Nat) : Int)), (2, 16), (0, ((s0 : Nat) : Int)), (2, 36), (0, ((n : Nat) : Int)), (2, ((203 + t : Nat) : Int))], (up2 τ (210 + t) n (kLa σ 8 36 t lt np (n + 1))))) rfl rfl ?_
      refine TT.aaldN (cd := cd170) 16 (t) (17 + t) rfl rfl rfl (Or.inr rfl) (show t < 6 by omega) (fxg_16 t (by omega)) ?_
      refine TT.steps (cd := cd170) 1 (c' := (53, [(2, 199), (2, 8), (2, 36), (0, ((t : Nat) : Int)), (0, (kLa σ 8 36 t lt np n)), (0, ((n : Nat) : Int))], [(0, ((n : Nat) : Int)), (2, ((17 + t : Nat) : Int)), (0, ((s0 : Nat) : Int)), (2, 36), (0, ((n : Nat) : Int)), (2, ((203 + t : Nat) : Int))], (up2 τ (210 + t) n (kLa σ 8 36 t lt np (n + 1))))) rfl rfl ?_
      refine TT.aldN (cd := cd170) (17 + t) (n) rfl rfl rfl (kdg_16 t (by omega)).1 (show n < ln (17 + t) by rw [(kdg_16 t (by omega)).2]; omega) ?_
      refine TT.top0 (z := ((s : Nat) : Int)) ((up2_far (k := 210 + t) (k' := 17 + t) _ _ _ _ (by omega)).trans ((hP2 _ _ (by omega) (by omega)).trans hs)) ?_
      refine TT.call (cd := cd170) rfl rfl rfl (by decide) rfl (u_bornBetweenN X ((s0 : Nat) : Int) ((s : Nat) : Int) np (up2 τ (210 + t) n (kLa σ 8 36 t lt np (n + 1))) ((up2_far (k := 210 + t) (k' := 36) _ _ _ _ (by omega)).trans ((hP2 _ _ (by omega) (by omega)).trans hc)) hnp2) (fun r3 σ3 hq => ?_)
      rw [hq.1, hq.2]
      rw [show ((bs (fun p => decide (((up2 τ (210 + t) n (kLa σ 8 36 t lt np (n + 1))) 38 p = ((s0 : Nat) : Int) ∧ (up2 τ (210 + t) n (kLa σ 8 36 t lt np (n + 1))) 39 p = ((s : Nat) : Int)) ∨ ((up2 τ (210 + t) n (kLa σ 8 36 t lt np (n + 1))) 38 p = ((s : Nat) : Int) ∧ (up2 τ (210 + t) n (kLa σ 8 36 t lt np (n + 1))) 39 p = ((s0 : Nat) : Int)))) np : Nat) : Int) = kBB τ 36 np ((s0 : Nat) : Int) ((s : Nat) : Int) from kBB_c (fun K j hK => up2_nq _ (by omega))]
      refine TT.astN (cd := cd170) (203 + t) (n) rfl rfl rfl (kdg_202 t (by omega)).1 (show n < ln (203 + t) by rw [(kdg_202 t (by omega)).2]; omega) ?_
      refine TT.inc (cd := cd170) (aAdd ((n : Nat) : Int) (-1)) rfl rfl rfl rfl (fun h => absurd h.2 (show ¬ (0 = 1) by decide)) rfl (ls' := [(2, 199), (2, 8), (2, 36), (0, ((t : Nat) : Int)), (0, (kLa σ 8 36 t lt np n)), (0, (aAdd ((n : Nat) : Int) (-1)))]) rfl ?_
      refine TT.steps (cd := cd170) 1 (c' := (9, [(2, 199), (2, 8), (2, 36), (0, ((t : Nat) : Int)), (0, (kLa σ 8 36 t lt np n)), (0, (aAdd ((n : Nat) : Int) (-1)))], [], (up2 (up2 τ (210 + t) n (kLa σ 8 36 t lt np (n + 1))) (203 + t) n (kBB τ 36 np ((s0 : Nat) : Int) ((s : Nat) : Int))))) rfl rfl ?_
      rw [e4]
      refine ih (by omega) _ (LTP_s hP (by omega) rfl ?_)
      intro j hj
      have hj2 : n - 1 = j := by omega
      rw [hj2] at hs0
      rw [hs0, ← hj, hs]
      exact kBB_c (fun K j hK => hP2 K j (by omega) (by omega))
theorem v_learnTrain_8_36 (X : AX) (t lt np : Nat) (σ : AH) (hc : σ 36 0 = (np : Int)) (hnp2 : np ≤ 10) (ht : t < 6) (hlt2 : lt ≤ 8) (hCa : ∀ k, k < lt → ∃ s : Nat, s < 14 ∧ σ (17 + t) k = (s : Int)) (hW : ∀ s : Nat, s < 14 → σ 201 s = ((bs (fun p => decide (σ 41 p = (s : Int))) np : Nat) : Int)) (hlt : σ 15 t = (lt : Int))  : TT X 170 (0, [(2, 199), (2, 8), (2, 36), (0, ((t : Nat) : Int)), (9, 0), (9, 0)], [], σ) (fun r σ' => r = none ∧ LTP σ σ' 8 36 t lt np 0) := by
  refine TT.steps (cd := cd170) 5 (c' := (5, [(2, 199), (2, 8), (2, 36), (0, ((t : Nat) : Int)), (0, 0), (9, 0)], [(0, ((t : Nat) : Int)), (2, 15)], σ)) rfl rfl ?_
  refine TT.aldN (cd := cd170) (15) (t) rfl rfl rfl rfl (show t < 6 by omega) ?_
  refine TT.top0 (z := ((lt : Nat) : Int)) hlt ?_
  refine TT.steps (cd := cd170) 2 (c' := (8, [(2, 199), (2, 8), (2, 36), (0, ((t : Nat) : Int)), (0, 0), (9, 0)], [(0, (aSub ((lt : Nat) : Int) 1))], σ)) rfl rfl ?_
  refine TT.top0 (z := ((lt : Int) - 1)) (aSub_of (by omega) (by omega)) ?_
  refine TT.steps (cd := cd170) 1 (c' := (9, [(2, 199), (2, 8), (2, 36), (0, ((t : Nat) : Int)), (0, 0), (0, ((lt : Int) - 1))], [], σ)) rfl rfl ?_
  refine TT.ls0 (ls' := [(2, 199), (2, 8), (2, 36), (0, ((t : Nat) : Int)), (0, kLa σ 8 36 t lt np lt), (0, (lt : Int) - 1)]) (by rw [← kLa_0]) ?_
  exact vl_lt_8_36 X t lt np σ hc hnp2 ht hlt2 hCa hW lt (Nat.le_refl _) σ ⟨fun _ _ _ _ => rfl, fun j h1 h2 => by omega, fun j h1 h2 => by omega⟩
theorem vl_lt_8_42 (X : AX) (t lt np : Nat) (σ : AH) (hc : σ 42 0 = (np : Int)) (hnp2 : np ≤ 10) (ht : t < 6) (hlt2 : lt ≤ 8) (hCa : ∀ k, k < lt → ∃ s : Nat, s < 14 ∧ σ (17 + t) k = (s : Int)) (hW : ∀ s : Nat, s < 14 → σ 201 s = ((bs (fun p => decide (σ 47 p = (s : Int))) np : Nat) : Int)) : ∀ n, n ≤ lt → ∀ τ : AH, LTP σ τ 8 42 t lt np n → TT X 170 (9, [(2, 199), (2, 8), (2, 42), (0, ((t : Nat) : Int)), (0, kLa σ 8 42 t lt np n), (0, (n : Int) - 1)], [], τ) (fun r υ => r = none ∧ LTP σ υ 8 42 t lt np 0) := by
  intro n
  induction n with
  | zero =>
    intro hn τ hP
    rw [show ((0 : Nat) : Int) - 1 = -1 from rfl]
    refine TT.steps (cd := cd170) 2 (c' := (58, [(2, 199), (2, 8), (2, 42), (0, ((t : Nat) : Int)), (0, (kLa σ 8 42 t lt np 0)), (0, -1)], [], τ)) rfl rfl ?_
    exact TT.ret (cd := cd170) rfl rfl rfl rfl (⟨rfl, hP⟩)
  | succ n ih =>
    intro hn τ hP
    rw [show ((n + 1 : Nat) : Int) - 1 = ((n : Nat) : Int) by omega]
    obtain ⟨s, hs2, hs⟩ := hCa n (by omega)
    have e4 : aAdd ((n : Nat) : Int) (-1) = (n : Int) - 1 := by rw [aAdd_of (by omega) (by omega)]; omega
    have eO := kLa_s σ 8 42 t lt np n s (by omega) (by omega) hs
    have hP2 := hP.1
    by_cases hn0 : n = 0
    · refine TT.steps (cd := cd170) 2 (c' := ((if decide (((n : Nat) : Int) < 0) = true then 58 else 11), [(2, 199), (2, 8), (2, 42), (0, ((t : Nat) : Int)), (0, (kLa σ 8 42 t lt np (n + 1))), (0, ((n : Nat) : Int))], [], τ)) rfl rfl ?_
      refine TT.br (p := ((n : Nat) : Int) < 0) (fun h1 => absurd h1 (show ¬ (((n : Nat) : Int) < 0) by omega)) (fun h1 => ?_)
      refine TT.steps (cd := cd170) 3 (c' := (14, [(2, 199), (2, 8), (2, 42), (0, ((t : Nat) : Int)), (0, (kLa σ 8 42 t lt np (n + 1))), (0, ((n : Nat) : Int))], [(0, ((t : Nat) : Int)), (2, 209)], τ)) rfl rfl ?_
      refine TT.aaldN (cd := cd170) 209 (t) (210 + t) rfl rfl rfl (Or.inr rfl) (show t < 6 by omega) (fxg_209 t (by omega)) ?_
      refine TT.steps (cd := cd170) 2 (c' := (17, [(2, 199), (2, 8), (2, 42), (0, ((t : Nat) : Int)), (0, (kLa σ 8 42 t lt np (n + 1))), (0, ((n : Nat) : Int))], [(0, (kLa σ 8 42 t lt np (n + 1))), (0, ((n : Nat) : Int)), (2, ((210 + t : Nat) : Int))], τ)) rfl rfl ?_
      refine TT.astN (cd := cd170) (210 + t) (n) rfl rfl rfl (kdg_209 t (by omega)).1 (show n < ln (210 + t) by rw [(kdg_209 t (by omega)).2]; omega) ?_
      refine TT.steps (cd := cd170) 6 (c' := (24, [(2, 199), (2, 8), (2, 42), (0, ((t : Nat) : Int)), (0, (kLa σ 8 42 t lt np (n + 1))), (0, ((n : Nat) : Int))], [(0, ((t : Nat) : Int)), (2, 16), (2, 201), (0, (kLa σ 8 42 t lt np (n + 1)))], (up2 τ (210 + t) n (kLa σ 8 42 t lt np (n + 1))))) rfl rfl ?_
      refine TT.aaldN (cd := cd170) 16 (t) (17 + t) rfl rfl rfl (Or.inr rfl) (show t < 6 by omega) (fxg_16 t (by omega)) ?_
      refine TT.steps (cd := cd170) 1 (c' := (26, [(2, 199), (2, 8), (2, 42), (0, ((t : Nat) : Int)), (0, (kLa σ 8 42 t lt np (n + 1))), (0, ((n : Nat) : Int))], [(0, ((n : Nat) : Int)), (2, ((17 + t : Nat) : Int)), (2, 201), (0, (kLa σ 8 42 t lt np (n + 1)))], (up2 τ (210 + t) n (kLa σ 8 42 t lt np (n + 1))))) rfl rfl ?_
      refine TT.aldN (cd := cd170) (17 + t) (n) rfl rfl rfl (kdg_16 t (by omega)).1 (show n < ln (17 + t) by rw [(kdg_16 t (by omega)).2]; omega) ?_
      refine TT.top0 (z := ((s : Nat) : Int)) ((up2_far (k := 210 + t) (k' := 17 + t) _ _ _ _ (by omega)).trans ((hP2 _ _ (by omega) (by omega)).trans hs)) ?_
      refine TT.aldN (cd := cd170) (201) (s) rfl rfl rfl rfl (show s < 14 by omega) ?_
      refine TT.top0 (z := ((bs (fun p => decide (σ 47 p = (s : Int))) np : Nat) : Int)) ((up2_far (k := 210 + t) (k' := 201) _ _ _ _ (by omega)).trans ((hP2 _ _ (by omega) (by omega)).trans (hW s hs2))) ?_
      refine TT.steps (cd := cd170) 1 (c' := (29, [(2, 199), (2, 8), (2, 42), (0, ((t : Nat) : Int)), (0, (kLa σ 8 42 t lt np (n + 1))), (0, ((n : Nat) : Int))], [(0, (aOr (kLa σ 8 42 t lt np (n + 1)) ((bs (fun p => decide (σ 47 p = (s : Int))) np : Nat) : Int)))], (up2 τ (210 + t) n (kLa σ 8 42 t lt np (n + 1))))) rfl rfl ?_
      refine TT.top0 (z := (kLa σ 8 42 t lt np n)) eO ?_
      refine TT.steps (cd := cd170) 4 (c' := (33, [(2, 199), (2, 8), (2, 42), (0, ((t : Nat) : Int)), (0, (kLa σ 8 42 t lt np n)), (0, ((n : Nat) : Int))], [(0, ((t : Nat) : Int)), (2, 202)], (up2 τ (210 + t) n (kLa σ 8 42 t lt np (n + 1))))) rfl rfl ?_
      refine TT.aaldN (cd := cd170) 202 (t) (203 + t) rfl rfl rfl (Or.inr rfl) (show t < 6 by omega) (fxg_202 t (by omega)) ?_
      refine TT.steps (cd := cd170) 3 (c' := ((if decide (¬ ((n : Nat) : Int) = 0) = true then 39 else 37), [(2, 199), (2, 8), (2, 42), (0, ((t : Nat) : Int)), (0, (kLa σ 8 42 t lt np n)), (0, ((n : Nat) : Int))], [(0, ((n : Nat) : Int)), (2, ((203 + t : Nat) : Int))], (up2 τ (210 + t) n (kLa σ 8 42 t lt np (n + 1))))) rfl rfl ?_
      refine TT.br (p := ¬ ((n : Nat) : Int) = 0) (fun h2 => absurd h2 (show ¬ (¬ ((n : Nat) : Int) = 0) by omega)) (fun h2 => ?_)
      refine TT.steps (cd := cd170) 2 (c' := (55, [(2, 199), (2, 8), (2, 42), (0, ((t : Nat) : Int)), (0, (kLa σ 8 42 t lt np n)), (0, ((n : Nat) : Int))], [(0, 0), (0, ((n : Nat) : Int)), (2, ((203 + t : Nat) : Int))], (up2 τ (210 + t) n (kLa σ 8 42 t lt np (n + 1))))) rfl rfl ?_
      refine TT.astN (cd := cd170) (203 + t) (n) rfl rfl rfl (kdg_202 t (by omega)).1 (show n < ln (203 + t) by rw [(kdg_202 t (by omega)).2]; omega) ?_
      refine TT.inc (cd := cd170) (aAdd ((n : Nat) : Int) (-1)) rfl rfl rfl rfl (fun h => absurd h.2 (show ¬ (0 = 1) by decide)) rfl (ls' := [(2, 199), (2, 8), (2, 42), (0, ((t : Nat) : Int)), (0, (kLa σ 8 42 t lt np n)), (0, (aAdd ((n : Nat) : Int) (-1)))]) rfl ?_
      refine TT.steps (cd := cd170) 1 (c' := (9, [(2, 199), (2, 8), (2, 42), (0, ((t : Nat) : Int)), (0, (kLa σ 8 42 t lt np n)), (0, (aAdd ((n : Nat) : Int) (-1)))], [], (up2 (up2 τ (210 + t) n (kLa σ 8 42 t lt np (n + 1))) (203 + t) n 0))) rfl rfl ?_
      rw [e4]
      refine ih (by omega) _ (LTP_s hP (by omega) rfl ?_)
      intro j hj; omega
    · obtain ⟨s0, hs02, hs0⟩ := hCa (n - 1) (by omega)
      refine TT.steps (cd := cd170) 2 (c' := ((if decide (((n : Nat) : Int) < 0) = true then 58 else 11), [(2, 199), (2, 8), (2, 42), (0, ((t : Nat) : Int)), (0, (kLa σ 8 42 t lt np (n + 1))), (0, ((n : Nat) : Int))], [], τ)) rfl rfl ?_
      refine TT.br (p := ((n : Nat) : Int) < 0) (fun h1 => absurd h1 (show ¬ (((n : Nat) : Int) < 0) by omega)) (fun h1 => ?_)
      refine TT.steps (cd := cd170) 3 (c' := (14, [(2, 199), (2, 8), (2, 42), (0, ((t : Nat) : Int)), (0, (kLa σ 8 42 t lt np (n + 1))), (0, ((n : Nat) : Int))], [(0, ((t : Nat) : Int)), (2, 209)], τ)) rfl rfl ?_
      refine TT.aaldN (cd := cd170) 209 (t) (210 + t) rfl rfl rfl (Or.inr rfl) (show t < 6 by omega) (fxg_209 t (by omega)) ?_
      refine TT.steps (cd := cd170) 2 (c' := (17, [(2, 199), (2, 8), (2, 42), (0, ((t : Nat) : Int)), (0, (kLa σ 8 42 t lt np (n + 1))), (0, ((n : Nat) : Int))], [(0, (kLa σ 8 42 t lt np (n + 1))), (0, ((n : Nat) : Int)), (2, ((210 + t : Nat) : Int))], τ)) rfl rfl ?_
      refine TT.astN (cd := cd170) (210 + t) (n) rfl rfl rfl (kdg_209 t (by omega)).1 (show n < ln (210 + t) by rw [(kdg_209 t (by omega)).2]; omega) ?_
      refine TT.steps (cd := cd170) 6 (c' := (24, [(2, 199), (2, 8), (2, 42), (0, ((t : Nat) : Int)), (0, (kLa σ 8 42 t lt np (n + 1))), (0, ((n : Nat) : Int))], [(0, ((t : Nat) : Int)), (2, 16), (2, 201), (0, (kLa σ 8 42 t lt np (n + 1)))], (up2 τ (210 + t) n (kLa σ 8 42 t lt np (n + 1))))) rfl rfl ?_
      refine TT.aaldN (cd := cd170) 16 (t) (17 + t) rfl rfl rfl (Or.inr rfl) (show t < 6 by omega) (fxg_16 t (by omega)) ?_
      refine TT.steps (cd := cd170) 1 (c' := (26, [(2, 199), (2, 8), (2, 42), (0, ((t : Nat) : Int)), (0, (kLa σ 8 42 t lt np (n + 1))), (0, ((n : Nat) : Int))], [(0, ((n : Nat) : Int)), (2, ((17 + t : Nat) : Int)), (2, 201), (0, (kLa σ 8 42 t lt np (n + 1)))], (up2 τ (210 + t) n (kLa σ 8 42 t lt np (n + 1))))) rfl rfl ?_
      refine TT.aldN (cd := cd170) (17 + t) (n) rfl rfl rfl (kdg_16 t (by omega)).1 (show n < ln (17 + t) by rw [(kdg_16 t (by omega)).2]; omega) ?_
      refine TT.top0 (z := ((s : Nat) : Int)) ((up2_far (k := 210 + t) (k' := 17 + t) _ _ _ _ (by omega)).trans ((hP2 _ _ (by omega) (by omega)).trans hs)) ?_
      refine TT.aldN (cd := cd170) (201) (s) rfl rfl rfl rfl (show s < 14 by omega) ?_
      refine TT.top0 (z := ((bs (fun p => decide (σ 47 p = (s : Int))) np : Nat) : Int)) ((up2_far (k := 210 + t) (k' := 201) _ _ _ _ (by omega)).trans ((hP2 _ _ (by omega) (by omega)).trans (hW s hs2))) ?_
      refine TT.steps (cd := cd170) 1 (c' := (29, [(2, 199), (2, 8), (2, 42), (0, ((t : Nat) : Int)), (0, (kLa σ 8 42 t lt np (n + 1))), (0, ((n : Nat) : Int))], [(0, (aOr (kLa σ 8 42 t lt np (n + 1)) ((bs (fun p => decide (σ 47 p = (s : Int))) np : Nat) : Int)))], (up2 τ (210 + t) n (kLa σ 8 42 t lt np (n + 1))))) rfl rfl ?_
      refine TT.top0 (z := (kLa σ 8 42 t lt np n)) eO ?_
      refine TT.steps (cd := cd170) 4 (c' := (33, [(2, 199), (2, 8), (2, 42), (0, ((t : Nat) : Int)), (0, (kLa σ 8 42 t lt np n)), (0, ((n : Nat) : Int))], [(0, ((t : Nat) : Int)), (2, 202)], (up2 τ (210 + t) n (kLa σ 8 42 t lt np (n + 1))))) rfl rfl ?_
      refine TT.aaldN (cd := cd170) 202 (t) (203 + t) rfl rfl rfl (Or.inr rfl) (show t < 6 by omega) (fxg_202 t (by omega)) ?_
      refine TT.steps (cd := cd170) 3 (c' := ((if decide (¬ ((n : Nat) : Int) = 0) = true then 39 else 37), [(2, 199), (2, 8), (2, 42), (0, ((t : Nat) : Int)), (0, (kLa σ 8 42 t lt np n)), (0, ((n : Nat) : Int))], [(0, ((n : Nat) : Int)), (2, ((203 + t : Nat) : Int))], (up2 τ (210 + t) n (kLa σ 8 42 t lt np (n + 1))))) rfl rfl ?_
      refine TT.br (p := ¬ ((n : Nat) : Int) = 0) (fun h2 => ?_) (fun h2 => absurd (show ¬ ((n : Nat) : Int) = 0 by omega) h2)
      refine TT.steps (cd := cd170) 4 (c' := (43, [(2, 199), (2, 8), (2, 42), (0, ((t : Nat) : Int)), (0, (kLa σ 8 42 t lt np n)), (0, ((n : Nat) : Int))], [(0, ((t : Nat) : Int)), (2, 16), (2, 42), (0, ((n : Nat) : Int)), (2, ((203 + t : Nat) : Int))], (up2 τ (210 + t) n (kLa σ 8 42 t lt np (n + 1))))) rfl rfl ?_
      refine TT.aaldN (cd := cd170) 16 (t) (17 + t) rfl rfl rfl (Or.inr rfl) (show t < 6 by omega) (fxg_16 t (by omega)) ?_
      refine TT.steps (cd := cd170) 3 (c' := (47, [(2, 199), (2, 8), (2, 42), (0, ((t : Nat) : Int)), (0, (kLa σ 8 42 t lt np n)), (0, ((n : Nat) : Int))], [(0, (aSub ((n : Nat) : Int) 1)), (2, ((17 + t : Nat) : Int)), (2, 42), (0, ((n : Nat) : Int)), (2, ((203 + t : Nat) : Int))], (up2 τ (210 + t) n (kLa σ 8 42 t lt np (n + 1))))) rfl rfl ?_
      refine TT.top0 (z := ((n - 1 : Nat) : Int)) (aSub_n (a := n) (b := 1) (by omega) (by omega)) ?_
      refine TT.aldN (cd := cd170) (17 + t) (n - 1) rfl rfl rfl (kdg_16 t (by omega)).1 (show n - 1 < ln (17 + t) by rw [(kdg_16 t (by omega)).2]; omega) ?_
      refine TT.top0 (z := ((s0 : Nat) : Int)) ((up2_far (k := 210 + t) (k' := 17 + t) _ _ _ _ (by omega)).trans ((hP2 _ _ (by omega) (by omega)).trans hs0)) ?_
      refine TT.steps (cd := cd170) 3 (c' := (51, [(2, 199), (2, 8), (2, 42), (0, ((t : Nat) : Int)), (0, (kLa σ 8 42 t lt np n)), (0, ((n : Nat) : Int))], [(0, ((t : Nat) : Int)), (2, 16), (0, ((s0 : Nat) : Int)), (2, 42), (0, ((n : Nat) : Int)), (2, ((203 + t : Nat) : Int))], (up2 τ (210 + t) n (kLa σ 8 42 t lt np (n + 1))))) rfl rfl ?_
      refine TT.aaldN (cd := cd170) 16 (t) (17 + t) rfl rfl rfl (Or.inr rfl) (show t < 6 by omega) (fxg_16 t (by omega)) ?_
      refine TT.steps (cd := cd170) 1 (c' := (53, [(2, 199), (2, 8), (2, 42), (0, ((t : Nat) : Int)), (0, (kLa σ 8 42 t lt np n)), (0, ((n : Nat) : Int))], [(0, ((n : Nat) : Int)), (2, ((17 + t : Nat) : Int)), (0, ((s0 : Nat) : Int)), (2, 42), (0, ((n : Nat) : Int)), (2, ((203 + t : Nat) : Int))], (up2 τ (210 + t) n (kLa σ 8 42 t lt np (n + 1))))) rfl rfl ?_
      refine TT.aldN (cd := cd170) (17 + t) (n) rfl rfl rfl (kdg_16 t (by omega)).1 (show n < ln (17 + t) by rw [(kdg_16 t (by omega)).2]; omega) ?_
      refine TT.top0 (z := ((s : Nat) : Int)) ((up2_far (k := 210 + t) (k' := 17 + t) _ _ _ _ (by omega)).trans ((hP2 _ _ (by omega) (by omega)).trans hs)) ?_
      refine TT.call (cd := cd170) rfl rfl rfl (by decide) rfl (u_bornBetweenS X ((s0 : Nat) : Int) ((s : Nat) : Int) np (up2 τ (210 + t) n (kLa σ 8 42 t lt np (n + 1))) ((up2_far (k := 210 + t) (k' := 42) _ _ _ _ (by omega)).trans ((hP2 _ _ (by omega) (by omega)).trans hc)) hnp2) (fun r3 σ3 hq => ?_)
      rw [hq.1, hq.2]
      rw [show ((bs (fun p => decide (((up2 τ (210 + t) n (kLa σ 8 42 t lt np (n + 1))) 44 p = ((s0 : Nat) : Int) ∧ (up2 τ (210 + t) n (kLa σ 8 42 t lt np (n + 1))) 45 p = ((s : Nat) : Int)) ∨ ((up2 τ (210 + t) n (kLa σ 8 42 t lt np (n + 1))) 44 p = ((s : Nat) : Int) ∧ (up2 τ (210 + t) n (kLa σ 8 42 t lt np (n + 1))) 45 p = ((s0 : Nat) : Int)))) np : Nat) : Int) = kBB τ 42 np ((s0 : Nat) : Int) ((s : Nat) : Int) from kBB_c (fun K j hK => up2_nq _ (by omega))]
      refine TT.astN (cd := cd170) (203 + t) (n) rfl rfl rfl (kdg_202 t (by omega)).1 (show n < ln (203 + t) by rw [(kdg_202 t (by omega)).2]; omega) ?_
      refine TT.inc (cd := cd170) (aAdd ((n : Nat) : Int) (-1)) rfl rfl rfl rfl (fun h => absurd h.2 (show ¬ (0 = 1) by decide)) rfl (ls' := [(2, 199), (2, 8), (2, 42), (0, ((t : Nat) : Int)), (0, (kLa σ 8 42 t lt np n)), (0, (aAdd ((n : Nat) : Int) (-1)))]) rfl ?_
      refine TT.steps (cd := cd170) 1 (c' := (9, [(2, 199), (2, 8), (2, 42), (0, ((t : Nat) : Int)), (0, (kLa σ 8 42 t lt np n)), (0, (aAdd ((n : Nat) : Int) (-1)))], [], (up2 (up2 τ (210 + t) n (kLa σ 8 42 t lt np (n + 1))) (203 + t) n (kBB τ 42 np ((s0 : Nat) : Int) ((s : Nat) : Int))))) rfl rfl ?_
      rw [e4]
      refine ih (by omega) _ (LTP_s hP (by omega) rfl ?_)
      intro j hj
      have hj2 : n - 1 = j := by omega
      rw [hj2] at hs0
      rw [hs0, ← hj, hs]
      exact kBB_c (fun K j hK => hP2 K j (by omega) (by omega))
theorem v_learnTrain_8_42 (X : AX) (t lt np : Nat) (σ : AH) (hc : σ 42 0 = (np : Int)) (hnp2 : np ≤ 10) (ht : t < 6) (hlt2 : lt ≤ 8) (hCa : ∀ k, k < lt → ∃ s : Nat, s < 14 ∧ σ (17 + t) k = (s : Int)) (hW : ∀ s : Nat, s < 14 → σ 201 s = ((bs (fun p => decide (σ 47 p = (s : Int))) np : Nat) : Int)) (hlt : σ 15 t = (lt : Int))  : TT X 170 (0, [(2, 199), (2, 8), (2, 42), (0, ((t : Nat) : Int)), (9, 0), (9, 0)], [], σ) (fun r σ' => r = none ∧ LTP σ σ' 8 42 t lt np 0) := by
  refine TT.steps (cd := cd170) 5 (c' := (5, [(2, 199), (2, 8), (2, 42), (0, ((t : Nat) : Int)), (0, 0), (9, 0)], [(0, ((t : Nat) : Int)), (2, 15)], σ)) rfl rfl ?_
  refine TT.aldN (cd := cd170) (15) (t) rfl rfl rfl rfl (show t < 6 by omega) ?_
  refine TT.top0 (z := ((lt : Nat) : Int)) hlt ?_
  refine TT.steps (cd := cd170) 2 (c' := (8, [(2, 199), (2, 8), (2, 42), (0, ((t : Nat) : Int)), (0, 0), (9, 0)], [(0, (aSub ((lt : Nat) : Int) 1))], σ)) rfl rfl ?_
  refine TT.top0 (z := ((lt : Int) - 1)) (aSub_of (by omega) (by omega)) ?_
  refine TT.steps (cd := cd170) 1 (c' := (9, [(2, 199), (2, 8), (2, 42), (0, ((t : Nat) : Int)), (0, 0), (0, ((lt : Int) - 1))], [], σ)) rfl rfl ?_
  refine TT.ls0 (ls' := [(2, 199), (2, 8), (2, 42), (0, ((t : Nat) : Int)), (0, kLa σ 8 42 t lt np lt), (0, (lt : Int) - 1)]) (by rw [← kLa_0]) ?_
  exact vl_lt_8_42 X t lt np σ hc hnp2 ht hlt2 hCa hW lt (Nat.le_refl _) σ ⟨fun _ _ _ _ => rfl, fun j h1 h2 => by omega, fun j h1 h2 => by omega⟩
theorem vl_lt_170_36 (X : AX) (t lt np : Nat) (σ : AH) (hc : σ 36 0 = (np : Int)) (hnp2 : np ≤ 10) (ht : t < 6) (hlt2 : lt ≤ 8) (hCa : ∀ k, k < lt → ∃ s : Nat, s < 14 ∧ σ (179 + t) k = (s : Int)) (hW : ∀ s : Nat, s < 14 → σ 201 s = ((bs (fun p => decide (σ 41 p = (s : Int))) np : Nat) : Int)) : ∀ n, n ≤ lt → ∀ τ : AH, LTP σ τ 170 36 t lt np n → TT X 170 (9, [(2, 199), (2, 170), (2, 36), (0, ((t : Nat) : Int)), (0, kLa σ 170 36 t lt np n), (0, (n : Int) - 1)], [], τ) (fun r υ => r = none ∧ LTP σ υ 170 36 t lt np 0) := by
  intro n
  induction n with
  | zero =>
    intro hn τ hP
    rw [show ((0 : Nat) : Int) - 1 = -1 from rfl]
    refine TT.steps (cd := cd170) 2 (c' := (58, [(2, 199), (2, 170), (2, 36), (0, ((t : Nat) : Int)), (0, (kLa σ 170 36 t lt np 0)), (0, -1)], [], τ)) rfl rfl ?_
    exact TT.ret (cd := cd170) rfl rfl rfl rfl (⟨rfl, hP⟩)
  | succ n ih =>
    intro hn τ hP
    rw [show ((n + 1 : Nat) : Int) - 1 = ((n : Nat) : Int) by omega]
    obtain ⟨s, hs2, hs⟩ := hCa n (by omega)
    have e4 : aAdd ((n : Nat) : Int) (-1) = (n : Int) - 1 := by rw [aAdd_of (by omega) (by omega)]; omega
    have eO := kLa_s σ 170 36 t lt np n s (by omega) (by omega) hs
    have hP2 := hP.1
    by_cases hn0 : n = 0
    · refine TT.steps (cd := cd170) 2 (c' := ((if decide (((n : Nat) : Int) < 0) = true then 58 else 11), [(2, 199), (2, 170), (2, 36), (0, ((t : Nat) : Int)), (0, (kLa σ 170 36 t lt np (n + 1))), (0, ((n : Nat) : Int))], [], τ)) rfl rfl ?_
      refine TT.br (p := ((n : Nat) : Int) < 0) (fun h1 => absurd h1 (show ¬ (((n : Nat) : Int) < 0) by omega)) (fun h1 => ?_)
      refine TT.steps (cd := cd170) 3 (c' := (14, [(2, 199), (2, 170), (2, 36), (0, ((t : Nat) : Int)), (0, (kLa σ 170 36 t lt np (n + 1))), (0, ((n : Nat) : Int))], [(0, ((t : Nat) : Int)), (2, 209)], τ)) rfl rfl ?_
      refine TT.aaldN (cd := cd170) 209 (t) (210 + t) rfl rfl rfl (Or.inr rfl) (show t < 6 by omega) (fxg_209 t (by omega)) ?_
      refine TT.steps (cd := cd170) 2 (c' := (17, [(2, 199), (2, 170), (2, 36), (0, ((t : Nat) : Int)), (0, (kLa σ 170 36 t lt np (n + 1))), (0, ((n : Nat) : Int))], [(0, (kLa σ 170 36 t lt np (n + 1))), (0, ((n : Nat) : Int)), (2, ((210 + t : Nat) : Int))], τ)) rfl rfl ?_
      refine TT.astN (cd := cd170) (210 + t) (n) rfl rfl rfl (kdg_209 t (by omega)).1 (show n < ln (210 + t) by rw [(kdg_209 t (by omega)).2]; omega) ?_
      refine TT.steps (cd := cd170) 6 (c' := (24, [(2, 199), (2, 170), (2, 36), (0, ((t : Nat) : Int)), (0, (kLa σ 170 36 t lt np (n + 1))), (0, ((n : Nat) : Int))], [(0, ((t : Nat) : Int)), (2, 178), (2, 201), (0, (kLa σ 170 36 t lt np (n + 1)))], (up2 τ (210 + t) n (kLa σ 170 36 t lt np (n + 1))))) rfl rfl ?_
      refine TT.aaldN (cd := cd170) 178 (t) (179 + t) rfl rfl rfl (Or.inr rfl) (show t < 6 by omega) (fxg_178 t (by omega)) ?_
      refine TT.steps (cd := cd170) 1 (c' := (26, [(2, 199), (2, 170), (2, 36), (0, ((t : Nat) : Int)), (0, (kLa σ 170 36 t lt np (n + 1))), (0, ((n : Nat) : Int))], [(0, ((n : Nat) : Int)), (2, ((179 + t : Nat) : Int)), (2, 201), (0, (kLa σ 170 36 t lt np (n + 1)))], (up2 τ (210 + t) n (kLa σ 170 36 t lt np (n + 1))))) rfl rfl ?_
      refine TT.aldN (cd := cd170) (179 + t) (n) rfl rfl rfl (kdg_178 t (by omega)).1 (show n < ln (179 + t) by rw [(kdg_178 t (by omega)).2]; omega) ?_
      refine TT.top0 (z := ((s : Nat) : Int)) ((up2_far (k := 210 + t) (k' := 179 + t) _ _ _ _ (by omega)).trans ((hP2 _ _ (by omega) (by omega)).trans hs)) ?_
      refine TT.aldN (cd := cd170) (201) (s) rfl rfl rfl rfl (show s < 14 by omega) ?_
      refine TT.top0 (z := ((bs (fun p => decide (σ 41 p = (s : Int))) np : Nat) : Int)) ((up2_far (k := 210 + t) (k' := 201) _ _ _ _ (by omega)).trans ((hP2 _ _ (by omega) (by omega)).trans (hW s hs2))) ?_
      refine TT.steps (cd := cd170) 1 (c' := (29, [(2, 199), (2, 170), (2, 36), (0, ((t : Nat) : Int)), (0, (kLa σ 170 36 t lt np (n + 1))), (0, ((n : Nat) : Int))], [(0, (aOr (kLa σ 170 36 t lt np (n + 1)) ((bs (fun p => decide (σ 41 p = (s : Int))) np : Nat) : Int)))], (up2 τ (210 + t) n (kLa σ 170 36 t lt np (n + 1))))) rfl rfl ?_
      refine TT.top0 (z := (kLa σ 170 36 t lt np n)) eO ?_
      refine TT.steps (cd := cd170) 4 (c' := (33, [(2, 199), (2, 170), (2, 36), (0, ((t : Nat) : Int)), (0, (kLa σ 170 36 t lt np n)), (0, ((n : Nat) : Int))], [(0, ((t : Nat) : Int)), (2, 202)], (up2 τ (210 + t) n (kLa σ 170 36 t lt np (n + 1))))) rfl rfl ?_
      refine TT.aaldN (cd := cd170) 202 (t) (203 + t) rfl rfl rfl (Or.inr rfl) (show t < 6 by omega) (fxg_202 t (by omega)) ?_
      refine TT.steps (cd := cd170) 3 (c' := ((if decide (¬ ((n : Nat) : Int) = 0) = true then 39 else 37), [(2, 199), (2, 170), (2, 36), (0, ((t : Nat) : Int)), (0, (kLa σ 170 36 t lt np n)), (0, ((n : Nat) : Int))], [(0, ((n : Nat) : Int)), (2, ((203 + t : Nat) : Int))], (up2 τ (210 + t) n (kLa σ 170 36 t lt np (n + 1))))) rfl rfl ?_
      refine TT.br (p := ¬ ((n : Nat) : Int) = 0) (fun h2 => absurd h2 (show ¬ (¬ ((n : Nat) : Int) = 0) by omega)) (fun h2 => ?_)
      refine TT.steps (cd := cd170) 2 (c' := (55, [(2, 199), (2, 170), (2, 36), (0, ((t : Nat) : Int)), (0, (kLa σ 170 36 t lt np n)), (0, ((n : Nat) : Int))], [(0, 0), (0, ((n : Nat) : Int)), (2, ((203 + t : Nat) : Int))], (up2 τ (210 + t) n (kLa σ 170 36 t lt np (n + 1))))) rfl rfl ?_
      refine TT.astN (cd := cd170) (203 + t) (n) rfl rfl rfl (kdg_202 t (by omega)).1 (show n < ln (203 + t) by rw [(kdg_202 t (by omega)).2]; omega) ?_
      refine TT.inc (cd := cd170) (aAdd ((n : Nat) : Int) (-1)) rfl rfl rfl rfl (fun h => absurd h.2 (show ¬ (0 = 1) by decide)) rfl (ls' := [(2, 199), (2, 170), (2, 36), (0, ((t : Nat) : Int)), (0, (kLa σ 170 36 t lt np n)), (0, (aAdd ((n : Nat) : Int) (-1)))]) rfl ?_
      refine TT.steps (cd := cd170) 1 (c' := (9, [(2, 199), (2, 170), (2, 36), (0, ((t : Nat) : Int)), (0, (kLa σ 170 36 t lt np n)), (0, (aAdd ((n : Nat) : Int) (-1)))], [], (up2 (up2 τ (210 + t) n (kLa σ 170 36 t lt np (n + 1))) (203 + t) n 0))) rfl rfl ?_
      rw [e4]
      refine ih (by omega) _ (LTP_s hP (by omega) rfl ?_)
      intro j hj; omega
    · obtain ⟨s0, hs02, hs0⟩ := hCa (n - 1) (by omega)
      refine TT.steps (cd := cd170) 2 (c' := ((if decide (((n : Nat) : Int) < 0) = true then 58 else 11), [(2, 199), (2, 170), (2, 36), (0, ((t : Nat) : Int)), (0, (kLa σ 170 36 t lt np (n + 1))), (0, ((n : Nat) : Int))], [], τ)) rfl rfl ?_
      refine TT.br (p := ((n : Nat) : Int) < 0) (fun h1 => absurd h1 (show ¬ (((n : Nat) : Int) < 0) by omega)) (fun h1 => ?_)
      refine TT.steps (cd := cd170) 3 (c' := (14, [(2, 199), (2, 170), (2, 36), (0, ((t : Nat) : Int)), (0, (kLa σ 170 36 t lt np (n + 1))), (0, ((n : Nat) : Int))], [(0, ((t : Nat) : Int)), (2, 209)], τ)) rfl rfl ?_
      refine TT.aaldN (cd := cd170) 209 (t) (210 + t) rfl rfl rfl (Or.inr rfl) (show t < 6 by omega) (fxg_209 t (by omega)) ?_
      refine TT.steps (cd := cd170) 2 (c' := (17, [(2, 199), (2, 170), (2, 36), (0, ((t : Nat) : Int)), (0, (kLa σ 170 36 t lt np (n + 1))), (0, ((n : Nat) : Int))], [(0, (kLa σ 170 36 t lt np (n + 1))), (0, ((n : Nat) : Int)), (2, ((210 + t : Nat) : Int))], τ)) rfl rfl ?_
      refine TT.astN (cd := cd170) (210 + t) (n) rfl rfl rfl (kdg_209 t (by omega)).1 (show n < ln (210 + t) by rw [(kdg_209 t (by omega)).2]; omega) ?_
      refine TT.steps (cd := cd170) 6 (c' := (24, [(2, 199), (2, 170), (2, 36), (0, ((t : Nat) : Int)), (0, (kLa σ 170 36 t lt np (n + 1))), (0, ((n : Nat) : Int))], [(0, ((t : Nat) : Int)), (2, 178), (2, 201), (0, (kLa σ 170 36 t lt np (n + 1)))], (up2 τ (210 + t) n (kLa σ 170 36 t lt np (n + 1))))) rfl rfl ?_
      refine TT.aaldN (cd := cd170) 178 (t) (179 + t) rfl rfl rfl (Or.inr rfl) (show t < 6 by omega) (fxg_178 t (by omega)) ?_
      refine TT.steps (cd := cd170) 1 (c' := (26, [(2, 199), (2, 170), (2, 36), (0, ((t : Nat) : Int)), (0, (kLa σ 170 36 t lt np (n + 1))), (0, ((n : Nat) : Int))], [(0, ((n : Nat) : Int)), (2, ((179 + t : Nat) : Int)), (2, 201), (0, (kLa σ 170 36 t lt np (n + 1)))], (up2 τ (210 + t) n (kLa σ 170 36 t lt np (n + 1))))) rfl rfl ?_
      refine TT.aldN (cd := cd170) (179 + t) (n) rfl rfl rfl (kdg_178 t (by omega)).1 (show n < ln (179 + t) by rw [(kdg_178 t (by omega)).2]; omega) ?_
      refine TT.top0 (z := ((s : Nat) : Int)) ((up2_far (k := 210 + t) (k' := 179 + t) _ _ _ _ (by omega)).trans ((hP2 _ _ (by omega) (by omega)).trans hs)) ?_
      refine TT.aldN (cd := cd170) (201) (s) rfl rfl rfl rfl (show s < 14 by omega) ?_
      refine TT.top0 (z := ((bs (fun p => decide (σ 41 p = (s : Int))) np : Nat) : Int)) ((up2_far (k := 210 + t) (k' := 201) _ _ _ _ (by omega)).trans ((hP2 _ _ (by omega) (by omega)).trans (hW s hs2))) ?_
      refine TT.steps (cd := cd170) 1 (c' := (29, [(2, 199), (2, 170), (2, 36), (0, ((t : Nat) : Int)), (0, (kLa σ 170 36 t lt np (n + 1))), (0, ((n : Nat) : Int))], [(0, (aOr (kLa σ 170 36 t lt np (n + 1)) ((bs (fun p => decide (σ 41 p = (s : Int))) np : Nat) : Int)))], (up2 τ (210 + t) n (kLa σ 170 36 t lt np (n + 1))))) rfl rfl ?_
      refine TT.top0 (z := (kLa σ 170 36 t lt np n)) eO ?_
      refine TT.steps (cd := cd170) 4 (c' := (33, [(2, 199), (2, 170), (2, 36), (0, ((t : Nat) : Int)), (0, (kLa σ 170 36 t lt np n)), (0, ((n : Nat) : Int))], [(0, ((t : Nat) : Int)), (2, 202)], (up2 τ (210 + t) n (kLa σ 170 36 t lt np (n + 1))))) rfl rfl ?_
      refine TT.aaldN (cd := cd170) 202 (t) (203 + t) rfl rfl rfl (Or.inr rfl) (show t < 6 by omega) (fxg_202 t (by omega)) ?_
      refine TT.steps (cd := cd170) 3 (c' := ((if decide (¬ ((n : Nat) : Int) = 0) = true then 39 else 37), [(2, 199), (2, 170), (2, 36), (0, ((t : Nat) : Int)), (0, (kLa σ 170 36 t lt np n)), (0, ((n : Nat) : Int))], [(0, ((n : Nat) : Int)), (2, ((203 + t : Nat) : Int))], (up2 τ (210 + t) n (kLa σ 170 36 t lt np (n + 1))))) rfl rfl ?_
      refine TT.br (p := ¬ ((n : Nat) : Int) = 0) (fun h2 => ?_) (fun h2 => absurd (show ¬ ((n : Nat) : Int) = 0 by omega) h2)
      refine TT.steps (cd := cd170) 4 (c' := (43, [(2, 199), (2, 170), (2, 36), (0, ((t : Nat) : Int)), (0, (kLa σ 170 36 t lt np n)), (0, ((n : Nat) : Int))], [(0, ((t : Nat) : Int)), (2, 178), (2, 36), (0, ((n : Nat) : Int)), (2, ((203 + t : Nat) : Int))], (up2 τ (210 + t) n (kLa σ 170 36 t lt np (n + 1))))) rfl rfl ?_
      refine TT.aaldN (cd := cd170) 178 (t) (179 + t) rfl rfl rfl (Or.inr rfl) (show t < 6 by omega) (fxg_178 t (by omega)) ?_
      refine TT.steps (cd := cd170) 3 (c' := (47, [(2, 199), (2, 170), (2, 36), (0, ((t : Nat) : Int)), (0, (kLa σ 170 36 t lt np n)), (0, ((n : Nat) : Int))], [(0, (aSub ((n : Nat) : Int) 1)), (2, ((179 + t : Nat) : Int)), (2, 36), (0, ((n : Nat) : Int)), (2, ((203 + t : Nat) : Int))], (up2 τ (210 + t) n (kLa σ 170 36 t lt np (n + 1))))) rfl rfl ?_
      refine TT.top0 (z := ((n - 1 : Nat) : Int)) (aSub_n (a := n) (b := 1) (by omega) (by omega)) ?_
      refine TT.aldN (cd := cd170) (179 + t) (n - 1) rfl rfl rfl (kdg_178 t (by omega)).1 (show n - 1 < ln (179 + t) by rw [(kdg_178 t (by omega)).2]; omega) ?_
      refine TT.top0 (z := ((s0 : Nat) : Int)) ((up2_far (k := 210 + t) (k' := 179 + t) _ _ _ _ (by omega)).trans ((hP2 _ _ (by omega) (by omega)).trans hs0)) ?_
      refine TT.steps (cd := cd170) 3 (c' := (51, [(2, 199), (2, 170), (2, 36), (0, ((t : Nat) : Int)), (0, (kLa σ 170 36 t lt np n)), (0, ((n : Nat) : Int))], [(0, ((t : Nat) : Int)), (2, 178), (0, ((s0 : Nat) : Int)), (2, 36), (0, ((n : Nat) : Int)), (2, ((203 + t : Nat) : Int))], (up2 τ (210 + t) n (kLa σ 170 36 t lt np (n + 1))))) rfl rfl ?_
      refine TT.aaldN (cd := cd170) 178 (t) (179 + t) rfl rfl rfl (Or.inr rfl) (show t < 6 by omega) (fxg_178 t (by omega)) ?_
      refine TT.steps (cd := cd170) 1 (c' := (53, [(2, 199), (2, 170), (2, 36), (0, ((t : Nat) : Int)), (0, (kLa σ 170 36 t lt np n)), (0, ((n : Nat) : Int))], [(0, ((n : Nat) : Int)), (2, ((179 + t : Nat) : Int)), (0, ((s0 : Nat) : Int)), (2, 36), (0, ((n : Nat) : Int)), (2, ((203 + t : Nat) : Int))], (up2 τ (210 + t) n (kLa σ 170 36 t lt np (n + 1))))) rfl rfl ?_
      refine TT.aldN (cd := cd170) (179 + t) (n) rfl rfl rfl (kdg_178 t (by omega)).1 (show n < ln (179 + t) by rw [(kdg_178 t (by omega)).2]; omega) ?_
      refine TT.top0 (z := ((s : Nat) : Int)) ((up2_far (k := 210 + t) (k' := 179 + t) _ _ _ _ (by omega)).trans ((hP2 _ _ (by omega) (by omega)).trans hs)) ?_
      refine TT.call (cd := cd170) rfl rfl rfl (by decide) rfl (u_bornBetweenN X ((s0 : Nat) : Int) ((s : Nat) : Int) np (up2 τ (210 + t) n (kLa σ 170 36 t lt np (n + 1))) ((up2_far (k := 210 + t) (k' := 36) _ _ _ _ (by omega)).trans ((hP2 _ _ (by omega) (by omega)).trans hc)) hnp2) (fun r3 σ3 hq => ?_)
      rw [hq.1, hq.2]
      rw [show ((bs (fun p => decide (((up2 τ (210 + t) n (kLa σ 170 36 t lt np (n + 1))) 38 p = ((s0 : Nat) : Int) ∧ (up2 τ (210 + t) n (kLa σ 170 36 t lt np (n + 1))) 39 p = ((s : Nat) : Int)) ∨ ((up2 τ (210 + t) n (kLa σ 170 36 t lt np (n + 1))) 38 p = ((s : Nat) : Int) ∧ (up2 τ (210 + t) n (kLa σ 170 36 t lt np (n + 1))) 39 p = ((s0 : Nat) : Int)))) np : Nat) : Int) = kBB τ 36 np ((s0 : Nat) : Int) ((s : Nat) : Int) from kBB_c (fun K j hK => up2_nq _ (by omega))]
      refine TT.astN (cd := cd170) (203 + t) (n) rfl rfl rfl (kdg_202 t (by omega)).1 (show n < ln (203 + t) by rw [(kdg_202 t (by omega)).2]; omega) ?_
      refine TT.inc (cd := cd170) (aAdd ((n : Nat) : Int) (-1)) rfl rfl rfl rfl (fun h => absurd h.2 (show ¬ (0 = 1) by decide)) rfl (ls' := [(2, 199), (2, 170), (2, 36), (0, ((t : Nat) : Int)), (0, (kLa σ 170 36 t lt np n)), (0, (aAdd ((n : Nat) : Int) (-1)))]) rfl ?_
      refine TT.steps (cd := cd170) 1 (c' := (9, [(2, 199), (2, 170), (2, 36), (0, ((t : Nat) : Int)), (0, (kLa σ 170 36 t lt np n)), (0, (aAdd ((n : Nat) : Int) (-1)))], [], (up2 (up2 τ (210 + t) n (kLa σ 170 36 t lt np (n + 1))) (203 + t) n (kBB τ 36 np ((s0 : Nat) : Int) ((s : Nat) : Int))))) rfl rfl ?_
      rw [e4]
      refine ih (by omega) _ (LTP_s hP (by omega) rfl ?_)
      intro j hj
      have hj2 : n - 1 = j := by omega
      rw [hj2] at hs0
      rw [hs0, ← hj, hs]
      exact kBB_c (fun K j hK => hP2 K j (by omega) (by omega))
theorem v_learnTrain_170_36 (X : AX) (t lt np : Nat) (σ : AH) (hc : σ 36 0 = (np : Int)) (hnp2 : np ≤ 10) (ht : t < 6) (hlt2 : lt ≤ 8) (hCa : ∀ k, k < lt → ∃ s : Nat, s < 14 ∧ σ (179 + t) k = (s : Int)) (hW : ∀ s : Nat, s < 14 → σ 201 s = ((bs (fun p => decide (σ 41 p = (s : Int))) np : Nat) : Int)) (hlt : σ 177 t = (lt : Int))  : TT X 170 (0, [(2, 199), (2, 170), (2, 36), (0, ((t : Nat) : Int)), (9, 0), (9, 0)], [], σ) (fun r σ' => r = none ∧ LTP σ σ' 170 36 t lt np 0) := by
  refine TT.steps (cd := cd170) 5 (c' := (5, [(2, 199), (2, 170), (2, 36), (0, ((t : Nat) : Int)), (0, 0), (9, 0)], [(0, ((t : Nat) : Int)), (2, 177)], σ)) rfl rfl ?_
  refine TT.aldN (cd := cd170) (177) (t) rfl rfl rfl rfl (show t < 6 by omega) ?_
  refine TT.top0 (z := ((lt : Nat) : Int)) hlt ?_
  refine TT.steps (cd := cd170) 2 (c' := (8, [(2, 199), (2, 170), (2, 36), (0, ((t : Nat) : Int)), (0, 0), (9, 0)], [(0, (aSub ((lt : Nat) : Int) 1))], σ)) rfl rfl ?_
  refine TT.top0 (z := ((lt : Int) - 1)) (aSub_of (by omega) (by omega)) ?_
  refine TT.steps (cd := cd170) 1 (c' := (9, [(2, 199), (2, 170), (2, 36), (0, ((t : Nat) : Int)), (0, 0), (0, ((lt : Int) - 1))], [], σ)) rfl rfl ?_
  refine TT.ls0 (ls' := [(2, 199), (2, 170), (2, 36), (0, ((t : Nat) : Int)), (0, kLa σ 170 36 t lt np lt), (0, (lt : Int) - 1)]) (by rw [← kLa_0]) ?_
  exact vl_lt_170_36 X t lt np σ hc hnp2 ht hlt2 hCa hW lt (Nat.le_refl _) σ ⟨fun _ _ _ _ => rfl, fun j h1 h2 => by omega, fun j h1 h2 => by omega⟩
theorem vl_lt_170_42 (X : AX) (t lt np : Nat) (σ : AH) (hc : σ 42 0 = (np : Int)) (hnp2 : np ≤ 10) (ht : t < 6) (hlt2 : lt ≤ 8) (hCa : ∀ k, k < lt → ∃ s : Nat, s < 14 ∧ σ (179 + t) k = (s : Int)) (hW : ∀ s : Nat, s < 14 → σ 201 s = ((bs (fun p => decide (σ 47 p = (s : Int))) np : Nat) : Int)) : ∀ n, n ≤ lt → ∀ τ : AH, LTP σ τ 170 42 t lt np n → TT X 170 (9, [(2, 199), (2, 170), (2, 42), (0, ((t : Nat) : Int)), (0, kLa σ 170 42 t lt np n), (0, (n : Int) - 1)], [], τ) (fun r υ => r = none ∧ LTP σ υ 170 42 t lt np 0) := by
  intro n
  induction n with
  | zero =>
    intro hn τ hP
    rw [show ((0 : Nat) : Int) - 1 = -1 from rfl]
    refine TT.steps (cd := cd170) 2 (c' := (58, [(2, 199), (2, 170), (2, 42), (0, ((t : Nat) : Int)), (0, (kLa σ 170 42 t lt np 0)), (0, -1)], [], τ)) rfl rfl ?_
    exact TT.ret (cd := cd170) rfl rfl rfl rfl (⟨rfl, hP⟩)
  | succ n ih =>
    intro hn τ hP
    rw [show ((n + 1 : Nat) : Int) - 1 = ((n : Nat) : Int) by omega]
    obtain ⟨s, hs2, hs⟩ := hCa n (by omega)
    have e4 : aAdd ((n : Nat) : Int) (-1) = (n : Int) - 1 := by rw [aAdd_of (by omega) (by omega)]; omega
    have eO := kLa_s σ 170 42 t lt np n s (by omega) (by omega) hs
    have hP2 := hP.1
    by_cases hn0 : n = 0
    · refine TT.steps (cd := cd170) 2 (c' := ((if decide (((n : Nat) : Int) < 0) = true then 58 else 11), [(2, 199), (2, 170), (2, 42), (0, ((t : Nat) : Int)), (0, (kLa σ 170 42 t lt np (n + 1))), (0, ((n : Nat) : Int))], [], τ)) rfl rfl ?_
      refine TT.br (p := ((n : Nat) : Int) < 0) (fun h1 => absurd h1 (show ¬ (((n : Nat) : Int) < 0) by omega)) (fun h1 => ?_)
      refine TT.steps (cd := cd170) 3 (c' := (14, [(2, 199), (2, 170), (2, 42), (0, ((t : Nat) : Int)), (0, (kLa σ 170 42 t lt np (n + 1))), (0, ((n : Nat) : Int))], [(0, ((t : Nat) : Int)), (2, 209)], τ)) rfl rfl ?_
      refine TT.aaldN (cd := cd170) 209 (t) (210 + t) rfl rfl rfl (Or.inr rfl) (show t < 6 by omega) (fxg_209 t (by omega)) ?_
      refine TT.steps (cd := cd170) 2 (c' := (17, [(2, 199), (2, 170), (2, 42), (0, ((t : Nat) : Int)), (0, (kLa σ 170 42 t lt np (n + 1))), (0, ((n : Nat) : Int))], [(0, (kLa σ 170 42 t lt np (n + 1))), (0, ((n : Nat) : Int)), (2, ((210 + t : Nat) : Int))], τ)) rfl rfl ?_
      refine TT.astN (cd := cd170) (210 + t) (n) rfl rfl rfl (kdg_209 t (by omega)).1 (show n < ln (210 + t) by rw [(kdg_209 t (by omega)).2]; omega) ?_
      refine TT.steps (cd := cd170) 6 (c' := (24, [(2, 199), (2, 170), (2, 42), (0, ((t : Nat) : Int)), (0, (kLa σ 170 42 t lt np (n + 1))), (0, ((n : Nat) : Int))], [(0, ((t : Nat) : Int)), (2, 178), (2, 201), (0, (kLa σ 170 42 t lt np (n + 1)))], (up2 τ (210 + t) n (kLa σ 170 42 t lt np (n + 1))))) rfl rfl ?_
      refine TT.aaldN (cd := cd170) 178 (t) (179 + t) rfl rfl rfl (Or.inr rfl) (show t < 6 by omega) (fxg_178 t (by omega)) ?_
      refine TT.steps (cd := cd170) 1 (c' := (26, [(2, 199), (2, 170), (2, 42), (0, ((t : Nat) : Int)), (0, (kLa σ 170 42 t lt np (n + 1))), (0, ((n : Nat) : Int))], [(0, ((n : Nat) : Int)), (2, ((179 + t : Nat) : Int)), (2, 201), (0, (kLa σ 170 42 t lt np (n + 1)))], (up2 τ (210 + t) n (kLa σ 170 42 t lt np (n + 1))))) rfl rfl ?_
      refine TT.aldN (cd := cd170) (179 + t) (n) rfl rfl rfl (kdg_178 t (by omega)).1 (show n < ln (179 + t) by rw [(kdg_178 t (by omega)).2]; omega) ?_
      refine TT.top0 (z := ((s : Nat) : Int)) ((up2_far (k := 210 + t) (k' := 179 + t) _ _ _ _ (by omega)).trans ((hP2 _ _ (by omega) (by omega)).trans hs)) ?_
      refine TT.aldN (cd := cd170) (201) (s) rfl rfl rfl rfl (show s < 14 by omega) ?_
      refine TT.top0 (z := ((bs (fun p => decide (σ 47 p = (s : Int))) np : Nat) : Int)) ((up2_far (k := 210 + t) (k' := 201) _ _ _ _ (by omega)).trans ((hP2 _ _ (by omega) (by omega)).trans (hW s hs2))) ?_
      refine TT.steps (cd := cd170) 1 (c' := (29, [(2, 199), (2, 170), (2, 42), (0, ((t : Nat) : Int)), (0, (kLa σ 170 42 t lt np (n + 1))), (0, ((n : Nat) : Int))], [(0, (aOr (kLa σ 170 42 t lt np (n + 1)) ((bs (fun p => decide (σ 47 p = (s : Int))) np : Nat) : Int)))], (up2 τ (210 + t) n (kLa σ 170 42 t lt np (n + 1))))) rfl rfl ?_
      refine TT.top0 (z := (kLa σ 170 42 t lt np n)) eO ?_
      refine TT.steps (cd := cd170) 4 (c' := (33, [(2, 199), (2, 170), (2, 42), (0, ((t : Nat) : Int)), (0, (kLa σ 170 42 t lt np n)), (0, ((n : Nat) : Int))], [(0, ((t : Nat) : Int)), (2, 202)], (up2 τ (210 + t) n (kLa σ 170 42 t lt np (n + 1))))) rfl rfl ?_
      refine TT.aaldN (cd := cd170) 202 (t) (203 + t) rfl rfl rfl (Or.inr rfl) (show t < 6 by omega) (fxg_202 t (by omega)) ?_
      refine TT.steps (cd := cd170) 3 (c' := ((if decide (¬ ((n : Nat) : Int) = 0) = true then 39 else 37), [(2, 199), (2, 170), (2, 42), (0, ((t : Nat) : Int)), (0, (kLa σ 170 42 t lt np n)), (0, ((n : Nat) : Int))], [(0, ((n : Nat) : Int)), (2, ((203 + t : Nat) : Int))], (up2 τ (210 + t) n (kLa σ 170 42 t lt np (n + 1))))) rfl rfl ?_
      refine TT.br (p := ¬ ((n : Nat) : Int) = 0) (fun h2 => absurd h2 (show ¬ (¬ ((n : Nat) : Int) = 0) by omega)) (fun h2 => ?_)
      refine TT.steps (cd := cd170) 2 (c' := (55, [(2, 199), (2, 170), (2, 42), (0, ((t : Nat) : Int)), (0, (kLa σ 170 42 t lt np n)), (0, ((n : Nat) : Int))], [(0, 0), (0, ((n : Nat) : Int)), (2, ((203 + t : Nat) : Int))], (up2 τ (210 + t) n (kLa σ 170 42 t lt np (n + 1))))) rfl rfl ?_
      refine TT.astN (cd := cd170) (203 + t) (n) rfl rfl rfl (kdg_202 t (by omega)).1 (show n < ln (203 + t) by rw [(kdg_202 t (by omega)).2]; omega) ?_
      refine TT.inc (cd := cd170) (aAdd ((n : Nat) : Int) (-1)) rfl rfl rfl rfl (fun h => absurd h.2 (show ¬ (0 = 1) by decide)) rfl (ls' := [(2, 199), (2, 170), (2, 42), (0, ((t : Nat) : Int)), (0, (kLa σ 170 42 t lt np n)), (0, (aAdd ((n : Nat) : Int) (-1)))]) rfl ?_
      refine TT.steps (cd := cd170) 1 (c' := (9, [(2, 199), (2, 170), (2, 42), (0, ((t : Nat) : Int)), (0, (kLa σ 170 42 t lt np n)), (0, (aAdd ((n : Nat) : Int) (-1)))], [], (up2 (up2 τ (210 + t) n (kLa σ 170 42 t lt np (n + 1))) (203 + t) n 0))) rfl rfl ?_
      rw [e4]
      refine ih (by omega) _ (LTP_s hP (by omega) rfl ?_)
      intro j hj; omega
    · obtain ⟨s0, hs02, hs0⟩ := hCa (n - 1) (by omega)
      refine TT.steps (cd := cd170) 2 (c' := ((if decide (((n : Nat) : Int) < 0) = true then 58 else 11), [(2, 199), (2, 170), (2, 42), (0, ((t : Nat) : Int)), (0, (kLa σ 170 42 t lt np (n + 1))), (0, ((n : Nat) : Int))], [], τ)) rfl rfl ?_
      refine TT.br (p := ((n : Nat) : Int) < 0) (fun h1 => absurd h1 (show ¬ (((n : Nat) : Int) < 0) by omega)) (fun h1 => ?_)
      refine TT.steps (cd := cd170) 3 (c' := (14, [(2, 199), (2, 170), (2, 42), (0, ((t : Nat) : Int)), (0, (kLa σ 170 42 t lt np (n + 1))), (0, ((n : Nat) : Int))], [(0, ((t : Nat) : Int)), (2, 209)], τ)) rfl rfl ?_
      refine TT.aaldN (cd := cd170) 209 (t) (210 + t) rfl rfl rfl (Or.inr rfl) (show t < 6 by omega) (fxg_209 t (by omega)) ?_
      refine TT.steps (cd := cd170) 2 (c' := (17, [(2, 199), (2, 170), (2, 42), (0, ((t : Nat) : Int)), (0, (kLa σ 170 42 t lt np (n + 1))), (0, ((n : Nat) : Int))], [(0, (kLa σ 170 42 t lt np (n + 1))), (0, ((n : Nat) : Int)), (2, ((210 + t : Nat) : Int))], τ)) rfl rfl ?_
      refine TT.astN (cd := cd170) (210 + t) (n) rfl rfl rfl (kdg_209 t (by omega)).1 (show n < ln (210 + t) by rw [(kdg_209 t (by omega)).2]; omega) ?_
      refine TT.steps (cd := cd170) 6 (c' := (24, [(2, 199), (2, 170), (2, 42), (0, ((t : Nat) : Int)), (0, (kLa σ 170 42 t lt np (n + 1))), (0, ((n : Nat) : Int))], [(0, ((t : Nat) : Int)), (2, 178), (2, 201), (0, (kLa σ 170 42 t lt np (n + 1)))], (up2 τ (210 + t) n (kLa σ 170 42 t lt np (n + 1))))) rfl rfl ?_
      refine TT.aaldN (cd := cd170) 178 (t) (179 + t) rfl rfl rfl (Or.inr rfl) (show t < 6 by omega) (fxg_178 t (by omega)) ?_
      refine TT.steps (cd := cd170) 1 (c' := (26, [(2, 199), (2, 170), (2, 42), (0, ((t : Nat) : Int)), (0, (kLa σ 170 42 t lt np (n + 1))), (0, ((n : Nat) : Int))], [(0, ((n : Nat) : Int)), (2, ((179 + t : Nat) : Int)), (2, 201), (0, (kLa σ 170 42 t lt np (n + 1)))], (up2 τ (210 + t) n (kLa σ 170 42 t lt np (n + 1))))) rfl rfl ?_
      refine TT.aldN (cd := cd170) (179 + t) (n) rfl rfl rfl (kdg_178 t (by omega)).1 (show n < ln (179 + t) by rw [(kdg_178 t (by omega)).2]; omega) ?_
      refine TT.top0 (z := ((s : Nat) : Int)) ((up2_far (k := 210 + t) (k' := 179 + t) _ _ _ _ (by omega)).trans ((hP2 _ _ (by omega) (by omega)).trans hs)) ?_
      refine TT.aldN (cd := cd170) (201) (s) rfl rfl rfl rfl (show s < 14 by omega) ?_
      refine TT.top0 (z := ((bs (fun p => decide (σ 47 p = (s : Int))) np : Nat) : Int)) ((up2_far (k := 210 + t) (k' := 201) _ _ _ _ (by omega)).trans ((hP2 _ _ (by omega) (by omega)).trans (hW s hs2))) ?_
      refine TT.steps (cd := cd170) 1 (c' := (29, [(2, 199), (2, 170), (2, 42), (0, ((t : Nat) : Int)), (0, (kLa σ 170 42 t lt np (n + 1))), (0, ((n : Nat) : Int))], [(0, (aOr (kLa σ 170 42 t lt np (n + 1)) ((bs (fun p => decide (σ 47 p = (s : Int))) np : Nat) : Int)))], (up2 τ (210 + t) n (kLa σ 170 42 t lt np (n + 1))))) rfl rfl ?_
      refine TT.top0 (z := (kLa σ 170 42 t lt np n)) eO ?_
      refine TT.steps (cd := cd170) 4 (c' := (33, [(2, 199), (2, 170), (2, 42), (0, ((t : Nat) : Int)), (0, (kLa σ 170 42 t lt np n)), (0, ((n : Nat) : Int))], [(0, ((t : Nat) : Int)), (2, 202)], (up2 τ (210 + t) n (kLa σ 170 42 t lt np (n + 1))))) rfl rfl ?_
      refine TT.aaldN (cd := cd170) 202 (t) (203 + t) rfl rfl rfl (Or.inr rfl) (show t < 6 by omega) (fxg_202 t (by omega)) ?_
      refine TT.steps (cd := cd170) 3 (c' := ((if decide (¬ ((n : Nat) : Int) = 0) = true then 39 else 37), [(2, 199), (2, 170), (2, 42), (0, ((t : Nat) : Int)), (0, (kLa σ 170 42 t lt np n)), (0, ((n : Nat) : Int))], [(0, ((n : Nat) : Int)), (2, ((203 + t : Nat) : Int))], (up2 τ (210 + t) n (kLa σ 170 42 t lt np (n + 1))))) rfl rfl ?_
      refine TT.br (p := ¬ ((n : Nat) : Int) = 0) (fun h2 => ?_) (fun h2 => absurd (show ¬ ((n : Nat) : Int) = 0 by omega) h2)
      refine TT.steps (cd := cd170) 4 (c' := (43, [(2, 199), (2, 170), (2, 42), (0, ((t : Nat) : Int)), (0, (kLa σ 170 42 t lt np n)), (0, ((n : Nat) : Int))], [(0, ((t : Nat) : Int)), (2, 178), (2, 42), (0, ((n : Nat) : Int)), (2, ((203 + t : Nat) : Int))], (up2 τ (210 + t) n (kLa σ 170 42 t lt np (n + 1))))) rfl rfl ?_
      refine TT.aaldN (cd := cd170) 178 (t) (179 + t) rfl rfl rfl (Or.inr rfl) (show t < 6 by omega) (fxg_178 t (by omega)) ?_
      refine TT.steps (cd := cd170) 3 (c' := (47, [(2, 199), (2, 170), (2, 42), (0, ((t : Nat) : Int)), (0, (kLa σ 170 42 t lt np n)), (0, ((n : Nat) : Int))], [(0, (aSub ((n : Nat) : Int) 1)), (2, ((179 + t : Nat) : Int)), (2, 42), (0, ((n : Nat) : Int)), (2, ((203 + t : Nat) : Int))], (up2 τ (210 + t) n (kLa σ 170 42 t lt np (n + 1))))) rfl rfl ?_
      refine TT.top0 (z := ((n - 1 : Nat) : Int)) (aSub_n (a := n) (b := 1) (by omega) (by omega)) ?_
      refine TT.aldN (cd := cd170) (179 + t) (n - 1) rfl rfl rfl (kdg_178 t (by omega)).1 (show n - 1 < ln (179 + t) by rw [(kdg_178 t (by omega)).2]; omega) ?_
      refine TT.top0 (z := ((s0 : Nat) : Int)) ((up2_far (k := 210 + t) (k' := 179 + t) _ _ _ _ (by omega)).trans ((hP2 _ _ (by omega) (by omega)).trans hs0)) ?_
      refine TT.steps (cd := cd170) 3 (c' := (51, [(2, 199), (2, 170), (2, 42), (0, ((t : Nat) : Int)), (0, (kLa σ 170 42 t lt np n)), (0, ((n : Nat) : Int))], [(0, ((t : Nat) : Int)), (2, 178), (0, ((s0 : Nat) : Int)), (2, 42), (0, ((n : Nat) : Int)), (2, ((203 + t : Nat) : Int))], (up2 τ (210 + t) n (kLa σ 170 42 t lt np (n + 1))))) rfl rfl ?_
      refine TT.aaldN (cd := cd170) 178 (t) (179 + t) rfl rfl rfl (Or.inr rfl) (show t < 6 by omega) (fxg_178 t (by omega)) ?_
      refine TT.steps (cd := cd170) 1 (c' := (53, [(2, 199), (2, 170), (2, 42), (0, ((t : Nat) : Int)), (0, (kLa σ 170 42 t lt np n)), (0, ((n : Nat) : Int))], [(0, ((n : Nat) : Int)), (2, ((179 + t : Nat) : Int)), (0, ((s0 : Nat) : Int)), (2, 42), (0, ((n : Nat) : Int)), (2, ((203 + t : Nat) : Int))], (up2 τ (210 + t) n (kLa σ 170 42 t lt np (n + 1))))) rfl rfl ?_
      refine TT.aldN (cd := cd170) (179 + t) (n) rfl rfl rfl (kdg_178 t (by omega)).1 (show n < ln (179 + t) by rw [(kdg_178 t (by omega)).2]; omega) ?_
      refine TT.top0 (z := ((s : Nat) : Int)) ((up2_far (k := 210 + t) (k' := 179 + t) _ _ _ _ (by omega)).trans ((hP2 _ _ (by omega) (by omega)).trans hs)) ?_
      refine TT.call (cd := cd170) rfl rfl rfl (by decide) rfl (u_bornBetweenS X ((s0 : Nat) : Int) ((s : Nat) : Int) np (up2 τ (210 + t) n (kLa σ 170 42 t lt np (n + 1))) ((up2_far (k := 210 + t) (k' := 42) _ _ _ _ (by omega)).trans ((hP2 _ _ (by omega) (by omega)).trans hc)) hnp2) (fun r3 σ3 hq => ?_)
      rw [hq.1, hq.2]
      rw [show ((bs (fun p => decide (((up2 τ (210 + t) n (kLa σ 170 42 t lt np (n + 1))) 44 p = ((s0 : Nat) : Int) ∧ (up2 τ (210 + t) n (kLa σ 170 42 t lt np (n + 1))) 45 p = ((s : Nat) : Int)) ∨ ((up2 τ (210 + t) n (kLa σ 170 42 t lt np (n + 1))) 44 p = ((s : Nat) : Int) ∧ (up2 τ (210 + t) n (kLa σ 170 42 t lt np (n + 1))) 45 p = ((s0 : Nat) : Int)))) np : Nat) : Int) = kBB τ 42 np ((s0 : Nat) : Int) ((s : Nat) : Int) from kBB_c (fun K j hK => up2_nq _ (by omega))]
      refine TT.astN (cd := cd170) (203 + t) (n) rfl rfl rfl (kdg_202 t (by omega)).1 (show n < ln (203 + t) by rw [(kdg_202 t (by omega)).2]; omega) ?_
      refine TT.inc (cd := cd170) (aAdd ((n : Nat) : Int) (-1)) rfl rfl rfl rfl (fun h => absurd h.2 (show ¬ (0 = 1) by decide)) rfl (ls' := [(2, 199), (2, 170), (2, 42), (0, ((t : Nat) : Int)), (0, (kLa σ 170 42 t lt np n)), (0, (aAdd ((n : Nat) : Int) (-1)))]) rfl ?_
      refine TT.steps (cd := cd170) 1 (c' := (9, [(2, 199), (2, 170), (2, 42), (0, ((t : Nat) : Int)), (0, (kLa σ 170 42 t lt np n)), (0, (aAdd ((n : Nat) : Int) (-1)))], [], (up2 (up2 τ (210 + t) n (kLa σ 170 42 t lt np (n + 1))) (203 + t) n (kBB τ 42 np ((s0 : Nat) : Int) ((s : Nat) : Int))))) rfl rfl ?_
      rw [e4]
      refine ih (by omega) _ (LTP_s hP (by omega) rfl ?_)
      intro j hj
      have hj2 : n - 1 = j := by omega
      rw [hj2] at hs0
      rw [hs0, ← hj, hs]
      exact kBB_c (fun K j hK => hP2 K j (by omega) (by omega))
theorem v_learnTrain_170_42 (X : AX) (t lt np : Nat) (σ : AH) (hc : σ 42 0 = (np : Int)) (hnp2 : np ≤ 10) (ht : t < 6) (hlt2 : lt ≤ 8) (hCa : ∀ k, k < lt → ∃ s : Nat, s < 14 ∧ σ (179 + t) k = (s : Int)) (hW : ∀ s : Nat, s < 14 → σ 201 s = ((bs (fun p => decide (σ 47 p = (s : Int))) np : Nat) : Int)) (hlt : σ 177 t = (lt : Int))  : TT X 170 (0, [(2, 199), (2, 170), (2, 42), (0, ((t : Nat) : Int)), (9, 0), (9, 0)], [], σ) (fun r σ' => r = none ∧ LTP σ σ' 170 42 t lt np 0) := by
  refine TT.steps (cd := cd170) 5 (c' := (5, [(2, 199), (2, 170), (2, 42), (0, ((t : Nat) : Int)), (0, 0), (9, 0)], [(0, ((t : Nat) : Int)), (2, 177)], σ)) rfl rfl ?_
  refine TT.aldN (cd := cd170) (177) (t) rfl rfl rfl rfl (show t < 6 by omega) ?_
  refine TT.top0 (z := ((lt : Nat) : Int)) hlt ?_
  refine TT.steps (cd := cd170) 2 (c' := (8, [(2, 199), (2, 170), (2, 42), (0, ((t : Nat) : Int)), (0, 0), (9, 0)], [(0, (aSub ((lt : Nat) : Int) 1))], σ)) rfl rfl ?_
  refine TT.top0 (z := ((lt : Int) - 1)) (aSub_of (by omega) (by omega)) ?_
  refine TT.steps (cd := cd170) 1 (c' := (9, [(2, 199), (2, 170), (2, 42), (0, ((t : Nat) : Int)), (0, 0), (0, ((lt : Int) - 1))], [], σ)) rfl rfl ?_
  refine TT.ls0 (ls' := [(2, 199), (2, 170), (2, 42), (0, ((t : Nat) : Int)), (0, kLa σ 170 42 t lt np lt), (0, (lt : Int) - 1)]) (by rw [← kLa_0]) ?_
  exact vl_lt_170_42 X t lt np σ hc hnp2 ht hlt2 hCa hW lt (Nat.le_refl _) σ ⟨fun _ _ _ _ => rfl, fun j h1 h2 => by omega, fun j h1 h2 => by omega⟩
