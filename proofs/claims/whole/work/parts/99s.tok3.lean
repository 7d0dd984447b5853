/-! The class's tokens: the whole text. -/
def TKA (τ : AH) (f : Nat → Int) (N i p p' : Nat) : Prop := ∃ s : Nat, τ 6 i = (s : Int) ∧ TOK f N p (τ 5 i) s (τ 7 i) p'
def SI (σ τ : AH) (f : Nat → Int) (N a c : Nat) (P : Nat → Nat) : Prop :=
  (∀ K j, ¬ (4 ≤ K ∧ K ≤ 7) → τ K j = σ K j) ∧ (τ 4 3 = (c : Int) ∧ c ≤ P c ∧ P c ≤ a ∧ a ≤ N) ∧ P 0 = 0 ∧ (∀ i, i < c → (1 ≤ τ 5 i ∧ τ 5 i ≤ 16) ∧ TKA τ f N i (P i) (P (i + 1))) ∧ (∀ j, P c ≤ j → j < a → Bl (f j)) ∧ (τ 4 4 ≤ (P c : Int) ∧ (τ 4 4 = (P c : Int) ↔ (0 < P c ∧ An (f (P c - 1)))))
def TS (τ : AH) (f : Nat → Int) (N c : Nat) (P : Nat → Nat) : Prop := c ≤ N ∧ P 0 = 0 ∧ (∀ i, i < c → 1 ≤ τ 5 i ∧ τ 5 i ≤ 16) ∧ (τ 5 c = 0 ∨ τ 5 c = 17) ∧ (∀ i, i ≤ c → TKA τ f N i (P i) (P (i + 1)))
def SD (σ τ : AH) (f : Nat → Int) (N : Nat) : Prop := (∀ K j, ¬ (4 ≤ K ∧ K ≤ 7) → τ K j = σ K j) ∧ ∃ c P, TS τ f N c P
def DN (σ τ : AH) (f : Nat → Int) (N : Nat) : Prop := (∀ K j, ¬ (4 ≤ K ∧ K ≤ 7) → τ K j = σ K j) ∧ ∃ (c : Nat) (P : Nat → Nat), TS τ f N c P ∧ τ 4 3 = ((c + 1 : Nat) : Int) ∧ c + 1 ≤ N
theorem TKA_c {τ τ' : AH} {f : Nat → Int} {N i p p' : Nat} (h : TKA τ f N i p p') (e5 : τ' 5 i = τ 5 i) (e6 : τ' 6 i = τ 6 i) (e7 : τ' 7 i = τ 7 i) : TKA τ' f N i p p' := by
  obtain ⟨s, h1, h2⟩ := h
  exact ⟨s, by rw [e6]; exact h1, by rw [e5, e7]; exact h2⟩
theorem SI_skip {σ τ : AH} {f : Nat → Int} {N a c : Nat} {P : Nat → Nat} (h : SI σ τ f N a c P) (ha : a < N) (hb : Bl (f a)) : SI σ τ f N (a + 1) c P := by
  obtain ⟨h1, ⟨h2, h3, h4, h5⟩, h6, h7, h8, h9⟩ := h
  refine ⟨h1, ⟨h2, h3, by omega, by omega⟩, h6, h7, fun j hj hj2 => ?_, h9⟩
  by_cases e : j = a
  · subst e; exact hb
  · exact h8 j hj (by omega)
theorem SI_edge {σ τ : AH} {f : Nat → Int} {N a c : Nat} {P : Nat → Nat} (h : SI σ τ f N a c P) : (a : Int) = τ 4 4 ↔ (0 < a ∧ An (f (a - 1))) := by
  obtain ⟨h1, ⟨h2, h3, h4, h5⟩, h6, h7, h8, h9, h10⟩ := h
  by_cases e : a = P c
  · subst e
    rw [← h10]
    exact ⟨fun g => g.symm, fun g => g.symm⟩
  · constructor
    · intro g; omega
    · rintro ⟨g1, g2⟩
      have := h8 (a - 1) (by omega) (by omega)
      unfold An mLet mDig at g2
      unfold Bl at this
      omega
theorem AP_s {σ τ τ' : AH} {f : Nat → Int} {N a c : Nat} {P : Nat → Nat} {r : Option AV} (h : SI σ τ f N a c P) (ha : a < N) (hbl : ¬ Bl (f a)) (hp : AP f N τ τ' c a r) : (∃ p' : Nat, a < p' ∧ p' ≤ N ∧ r = some (0, (p' : Int)) ∧ ∃ c' P', SI σ τ' f N p' c' P') ∨ (r = some (0, (N : Int)) ∧ DN σ τ' f N) := by
  obtain ⟨h1, ⟨h2, h3, h4, h5⟩, h6, h7, h8, h9, h10⟩ := h
  have hsk : SKP f N (P c) a := ⟨h4, h5, h8, fun _ => hbl⟩
  rcases hp with ⟨k, v, p', t1, t2, t3, t4, t5, t6, t7⟩ | ⟨v, p', t1, t2, t3⟩
  · refine Or.inl ⟨p', t3, t4, t5, c + 1, (fun i => if i ≤ c then P i else p'), ?_, ⟨?_, ?_, ?_, t4⟩, ?_, fun i hi => ?_, fun j hj hj2 => ?_, ?_, ?_⟩
    · intro K j hK
      rw [t6 K j (by omega), cAdd_fr _ _ _ _ _ _ _ (by omega)]; exact h1 K j hK
    · rw [t6 _ _ (by omega)]; exact (cAdd_5 _ _ _ _ _).2.2.2
    · show c + 1 ≤ if c + 1 ≤ c then P (c + 1) else p'
      rw [if_neg (by omega)]; omega
    · show (if c + 1 ≤ c then P (c + 1) else p') ≤ p'
      rw [if_neg (by omega)]; exact Nat.le_refl _
    · show (if 0 ≤ c then P 0 else p') = 0
      rw [if_pos (by omega)]; exact h6
    · show _ ∧ TKA τ' f N i (if i ≤ c then P i else p') (if i + 1 ≤ c then P (i + 1) else p')
      rw [if_pos (show i ≤ c by omega)]
      by_cases e : i = c
      · subst e
        obtain ⟨g1, g2, g3, g4⟩ := cAdd_5 τ i k a v
        rw [if_neg (by omega), t6 5 i (by omega), g1]
        exact ⟨t2, a, by rw [t6 _ _ (by omega)]; exact g2, hsk, by rw [t6 5 i (by omega), t6 7 i (by omega), g1, g3]; exact t1⟩
      · have e5 : τ' 5 i = τ 5 i := by rw [t6 _ _ (by omega), cAdd_fr _ _ _ _ _ _ _ (by omega)]
        have e6 : τ' 6 i = τ 6 i := by rw [t6 _ _ (by omega), cAdd_fr _ _ _ _ _ _ _ (by omega)]
        have e7 : τ' 7 i = τ 7 i := by rw [t6 _ _ (by omega), cAdd_fr _ _ _ _ _ _ _ (by omega)]
        rw [if_pos (show i + 1 ≤ c by omega), e5]
        exact ⟨(h7 i (by omega)).1, TKA_c (h7 i (by omega)).2 e5 e6 e7⟩
    · have hj' : (if c + 1 ≤ c then P (c + 1) else p') ≤ j := hj
      rw [if_neg (by omega)] at hj'
      omega
    · show τ' 4 4 ≤ ((if c + 1 ≤ c then P (c + 1) else p' : Nat) : Int)
      rw [if_neg (by omega)]
      rcases t7 with ⟨g, -⟩ | ⟨g, -⟩
      · rw [g]; omega
      · rw [g]; exact Int.le_refl _
    · show τ' 4 4 = ((if c + 1 ≤ c then P (c + 1) else p' : Nat) : Int) ↔ (0 < (if c + 1 ≤ c then P (c + 1) else p') ∧ An (f ((if c + 1 ≤ c then P (c + 1) else p') - 1)))
      rw [if_neg (by omega)]
      rcases t7 with ⟨g, g2, g3⟩ | ⟨g, g2⟩
      · rw [g]
        constructor
        · intro q; omega
        · rintro ⟨-, q⟩
          rw [show p' - 1 = a by omega] at q
          exact absurd q g3
      · rw [g]
        exact ⟨fun _ => ⟨by omega, g2⟩, fun _ => rfl⟩
  · refine Or.inr ⟨t2, ?_, c, (fun i => if i ≤ c then P i else p'), ⟨by omega, ?_, fun i hi => ?_, ?_, fun i hi => ?_⟩, ?_, by omega⟩
    · intro K j hK
      rw [t3, cAdd_fr _ _ _ _ _ _ _ (by omega)]; exact h1 K j hK
    · show (if 0 ≤ c then P 0 else p') = 0
      rw [if_pos (by omega)]; exact h6
    · rw [t3, cAdd_fr _ _ _ _ _ _ _ (by omega)]; exact (h7 i hi).1
    · rw [t3, (cAdd_5 τ c 17 a v).1]; exact Or.inr rfl
    · show TKA τ' f N i (if i ≤ c then P i else p') (if i + 1 ≤ c then P (i + 1) else p')
      rw [if_pos hi]
      by_cases e : i = c
      · subst e
        obtain ⟨g1, g2, g3, g4⟩ := cAdd_5 τ i 17 a v
        rw [if_neg (by omega), t3]
        exact ⟨a, g2, hsk, by rw [g1, g3]; exact t1⟩
      · rw [if_pos (show i + 1 ≤ c by omega)]
        exact TKA_c (h7 i (by omega)).2 (by rw [t3, cAdd_fr _ _ _ _ _ _ _ (by omega)]) (by rw [t3, cAdd_fr _ _ _ _ _ _ _ (by omega)]) (by rw [t3, cAdd_fr _ _ _ _ _ _ _ (by omega)])
    · rw [t3]; exact (cAdd_5 _ _ _ _ _).2.2.2
theorem DN_end {σ τ : AH} {f : Nat → Int} {N : Nat} (c : Nat) (h : DN σ τ f N) (hc : τ 4 3 = (c : Int)) : SD σ (cAdd τ c 0 N 0) f N := by
  obtain ⟨h1, c', P, ⟨a1, a2, a3, a4, a5⟩, h3, h4⟩ := h
  have e : c = c' + 1 := by omega
  subst e
  refine ⟨fun K j hK => ?_, c', P, a1, a2, fun i hi => ?_, ?_, fun i hi => ?_⟩
  · rw [cAdd_fr _ _ _ _ _ _ _ (by omega)]; exact h1 K j hK
  · rw [cAdd_fr _ _ _ _ _ _ _ (by omega)]; exact a3 i hi
  · rw [cAdd_fr _ _ _ _ _ _ _ (by omega)]; exact a4
  · exact TKA_c (a5 i hi) (cAdd_fr _ _ _ _ _ _ _ (by omega)) (cAdd_fr _ _ _ _ _ _ _ (by omega)) (cAdd_fr _ _ _ _ _ _ _ (by omega))
theorem SI_end {σ τ : AH} {f : Nat → Int} {N c : Nat} {P : Nat → Nat} (h : SI σ τ f N N c P) : SD σ (cAdd τ c 0 N 0) f N := by
  obtain ⟨h1, ⟨h2, h3, h4, h5⟩, h6, h7, h8, h9, h10⟩ := h
  obtain ⟨g1, g2, g3, g4⟩ := cAdd_5 τ c 0 N 0
  refine ⟨fun K j hK => ?_, c, P, by omega, h6, fun i hi => ?_, Or.inl g1, fun i hi => ?_⟩
  · rw [cAdd_fr _ _ _ _ _ _ _ (by omega)]; exact h1 K j hK
  · rw [cAdd_fr _ _ _ _ _ _ _ (by omega)]; exact (h7 i hi).1
  · by_cases e : i = c
    · subst e
      exact ⟨N, g2, ⟨h4, h5, h8, fun q => absurd q (Nat.lt_irrefl N)⟩, by rw [g1]; exact Or.inl ⟨rfl, rfl⟩⟩
    · exact TKA_c (h7 i (by omega)).2 (cAdd_fr _ _ _ _ _ _ _ (by omega)) (cAdd_fr _ _ _ _ _ _ _ (by omega)) (cAdd_fr _ _ _ _ _ _ _ (by omega))
theorem aMax_n {a p : Nat} (h : a < p) : aMax ((a + 1 : Nat) : Int) (p : Int) = (p : Int) := by
  unfold aMax
  split <;> omega
theorem v_addAtB (X : AX) (s : Nat) (f : Nat → Int) (N : Nat) (σ : AH) (hN : N ≤ 1600) (ht : σ 1 1 = (N : Int)) (hf : ∀ j, j < N → σ 2 j = f j) (hs : s < N) (hbl : Bl (f s))  : TT X 173 (0, [(2, 4), (2, 1), (0, ((s : Nat) : Int)), (9, 0), (9, 0)], [], σ) (fun r σ' => r = some (0, ((s + 1 : Nat) : Int)) ∧ σ' = σ) := by
  refine TT.steps (cd := cd173) 3 (c' := (3, [(2, 4), (2, 1), (0, ((s : Nat) : Int)), (9, 0), (9, 0)], [(0, ((s : Nat) : Int)), (2, 2)], σ)) rfl rfl ?_
  refine TT.aldN (cd := cd173) (2) (s) rfl rfl rfl rfl (show s < 1600 by omega) ?_
  refine TT.top0 (z := (f s)) (hf s hs) ?_
  refine TT.steps (cd := cd173) 4 (c' := ((if decide ((f s) = 10) = true then 11 else 8), [(2, 4), (2, 1), (0, ((s : Nat) : Int)), (0, (f s)), (9, 0)], [], σ)) rfl rfl ?_
  refine TT.br (p := (f s) = 10) (fun h1 => ?_) (fun h1 => ?_)
  · refine TT.steps (cd := cd173) 3 (c' := (14, [(2, 4), (2, 1), (0, ((s : Nat) : Int)), (0, (f s)), (9, 0)], [(0, (aAdd ((s : Nat) : Int) 1))], σ)) rfl rfl ?_
    refine TT.top0 (z := ((s + 1 : Nat) : Int)) (aAdd_n (a := s) (b := 1) (by omega)) ?_
    exact TT.ret (cd := cd173) rfl rfl rfl rfl (⟨rfl, rfl⟩)
  · refine TT.steps (cd := cd173) 3 (c' := ((if decide (¬ (f s) = 32) = true then 15 else 11), [(2, 4), (2, 1), (0, ((s : Nat) : Int)), (0, (f s)), (9, 0)], [], σ)) rfl rfl ?_
    refine TT.br (p := ¬ (f s) = 32) (fun h2 => ?_) (fun h2 => ?_)
    · exfalso
      unfold Bl at hbl
      omega
    · refine TT.steps (cd := cd173) 3 (c' := (14, [(2, 4), (2, 1), (0, ((s : Nat) : Int)), (0, (f s)), (9, 0)], [(0, (aAdd ((s : Nat) : Int) 1))], σ)) rfl rfl ?_
      refine TT.top0 (z := ((s + 1 : Nat) : Int)) (aAdd_n (a := s) (b := 1) (by omega)) ?_
      exact TT.ret (cd := cd173) rfl rfl rfl rfl (⟨rfl, rfl⟩)
theorem vl_splitE (X : AX) (f : Nat → Int) (N : Nat) (σ : AH) (hN : N ≤ 1600) (ht : σ 1 1 = (N : Int)) (hf : ∀ j, j < N → σ 2 j = f j) (τ : AH) (c : Nat) (hc : c ≤ 1600) (h43 : τ 4 3 = (c : Int)) (h11 : τ 1 1 = (N : Int)) (hS : SD σ (cAdd τ c 0 N 0) f N) : TT X 171 (8, [(2, 4), (2, 1), (0, ((N : Nat) : Int))], [], τ) (fun r σ' => r = none ∧ SD σ σ' f N) := by
  refine TT.steps (cd := cd171) 3 (c' := (11, [(2, 4), (2, 1), (0, ((N : Nat) : Int))], [(0, (τ 1 1)), (0, ((N : Nat) : Int))], τ)) rfl rfl ?_
  refine TT.top0 (z := ((N : Nat) : Int)) h11 ?_
  refine TT.steps (cd := cd171) 1 (c' := ((if decide (((N : Nat) : Int) ≤ ((N : Nat) : Int)) = true then 22 else 12), [(2, 4), (2, 1), (0, ((N : Nat) : Int))], [], τ)) rfl rfl ?_
  refine TT.br (p := ((N : Nat) : Int) ≤ ((N : Nat) : Int)) (fun h1 => ?_) (fun h1 => absurd (show ((N : Nat) : Int) ≤ ((N : Nat) : Int) by omega) h1)
  refine TT.steps (cd := cd171) 4 (c' := (26, [(2, 4), (2, 1), (0, ((N : Nat) : Int))], [(0, (τ 1 1)), (0, 0), (2, 4)], τ)) rfl rfl ?_
  refine TT.top0 (z := ((N : Nat) : Int)) h11 ?_
  refine TT.steps (cd := cd171) 1 (c' := (27, [(2, 4), (2, 1), (0, ((N : Nat) : Int))], [(0, 0), (0, ((N : Nat) : Int)), (0, 0), (2, 4)], τ)) rfl rfl ?_
  refine TT.call (cd := cd171) rfl rfl rfl (by decide) rfl (u_add X 0 0 N c hc τ h43) (fun r2 σ2 hq => ?_)
  rw [hq.1, hq.2]
  exact TT.ret (cd := cd171) rfl rfl rfl rfl (⟨rfl, hS⟩)
theorem vl_split (X : AX) (f : Nat → Int) (N : Nat) (σ : AH) (hN : N ≤ 1600) (ht : σ 1 1 = (N : Int)) (hf : ∀ j, j < N → σ 2 j = f j) : ∀ (d a : Nat), N ≤ a + d → a ≤ N → ∀ (τ : AH), (∃ c P, SI σ τ f N a c P) → TT X 171 (8, [(2, 4), (2, 1), (0, ((a : Nat) : Int))], [], τ) (fun r σ' => r = none ∧ SD σ σ' f N) := by
  intro d
  induction d with
  | zero =>
    intro a hd ha τ hS
    obtain ⟨c, P, hS⟩ := hS
    have e : a = N := by omega
    subst e
    exact vl_splitE X f a σ hN ht hf τ c (by have := hS.2.1; omega) hS.2.1.1 ((hS.1 _ _ (by omega)).trans ht) (SI_end hS)
  | succ d ih =>
    intro a hd ha τ hS
    obtain ⟨c, P, hS⟩ := hS
    by_cases e : a = N
    · subst e
      exact vl_splitE X f a σ hN ht hf τ c (by have := hS.2.1; omega) hS.2.1.1 ((hS.1 _ _ (by omega)).trans ht) (SI_end hS)
    have h11 : τ 1 1 = (N : Int) := (hS.1 _ _ (by omega)).trans ht
    have hf2 : ∀ j, j < N → τ 2 j = f j := fun j hj => (hS.1 _ _ (by omega)).trans (hf j hj)
    have hcP := hS.2.1
    by_cases hbl : Bl (f a)
    · skip
      refine TT.steps (cd := cd171) 3 (c' := (11, [(2, 4), (2, 1), (0, ((a : Nat) : Int))], [(0, (τ 1 1)), (0, ((a : Nat) : Int))], τ)) rfl rfl ?_
      refine TT.top0 (z := ((N : Nat) : Int)) h11 ?_
      refine TT.steps (cd := cd171) 1 (c' := ((if decide (((N : Nat) : Int) ≤ ((a : Nat) : Int)) = true then 22 else 12), [(2, 4), (2, 1), (0, ((a : Nat) : Int))], [], τ)) rfl rfl ?_
      refine TT.br (p := ((N : Nat) : Int) ≤ ((a : Nat) : Int)) (fun h1 => absurd h1 (show ¬ (((N : Nat) : Int) ≤ ((a : Nat) : Int)) by omega)) (fun h1 => ?_)
      refine TT.steps (cd := cd171) 3 (c' := (15, [(2, 4), (2, 1), (0, ((a : Nat) : Int))], [(0, (aAdd ((a : Nat) : Int) 1))], τ)) rfl rfl ?_
      refine TT.top0 (z := ((a + 1 : Nat) : Int)) (aAdd_n (a := a) (b := 1) (by omega)) ?_
      refine TT.steps (cd := cd171) 3 (c' := (18, [(2, 4), (2, 1), (0, ((a : Nat) : Int))], [(0, ((a : Nat) : Int)), (2, 1), (2, 4), (0, ((a + 1 : Nat) : Int))], τ)) rfl rfl ?_
      refine TT.call (cd := cd171) rfl rfl rfl (by decide) rfl (v_addAtB X a f N τ hN h11 hf2 (by omega) hbl) (fun r2 σ2 hq => ?_)
      rw [hq.1, hq.2]
      refine TT.steps (cd := cd171) 1 (c' := (20, [(2, 4), (2, 1), (0, ((a : Nat) : Int))], [(0, aMax ((a + 1 : Nat) : Int) ((a + 1 : Nat) : Int))], τ)) rfl rfl ?_
      refine TT.top0 (z := ((a + 1 : Nat) : Int)) (aMax_n (by omega)) ?_
      refine TT.steps (cd := cd171) 2 (c' := (8, [(2, 4), (2, 1), (0, ((a + 1 : Nat) : Int))], [], τ)) rfl rfl ?_
      exact ih (a + 1) (by omega) (by omega) τ ⟨c, P, SI_skip hS (by omega) hbl⟩
    · skip
      refine TT.steps (cd := cd171) 3 (c' := (11, [(2, 4), (2, 1), (0, ((a : Nat) : Int))], [(0, (τ 1 1)), (0, ((a : Nat) : Int))], τ)) rfl rfl ?_
      refine TT.top0 (z := ((N : Nat) : Int)) h11 ?_
      refine TT.steps (cd := cd171) 1 (c' := ((if decide (((N : Nat) : Int) ≤ ((a : Nat) : Int)) = true then 22 else 12), [(2, 4), (2, 1), (0, ((a : Nat) : Int))], [], τ)) rfl rfl ?_
      refine TT.br (p := ((N : Nat) : Int) ≤ ((a : Nat) : Int)) (fun h1 => absurd h1 (show ¬ (((N : Nat) : Int) ≤ ((a : Nat) : Int)) by omega)) (fun h1 => ?_)
      refine TT.steps (cd := cd171) 3 (c' := (15, [(2, 4), (2, 1), (0, ((a : Nat) : Int))], [(0, (aAdd ((a : Nat) : Int) 1))], τ)) rfl rfl ?_
      refine TT.top0 (z := ((a + 1 : Nat) : Int)) (aAdd_n (a := a) (b := 1) (by omega)) ?_
      refine TT.steps (cd := cd171) 3 (c' := (18, [(2, 4), (2, 1), (0, ((a : Nat) : Int))], [(0, ((a : Nat) : Int)), (2, 1), (2, 4), (0, ((a + 1 : Nat) : Int))], τ)) rfl rfl ?_
      refine TT.call (cd := cd171) rfl rfl rfl (by decide) rfl (v_addAt X a f N τ hN h11 hf2 c (by omega) hcP.1 _ rfl (by omega) hbl (SI_edge hS)) (fun r2 σ2 hq => ?_)
      have hp9 : ∃ p9 : Nat, r2 = some (0, (p9 : Int)) ∧ a < p9 ∧ p9 ≤ N ∧ ((∃ c' P', SI σ σ2 f N p9 c' P') ∨ (p9 = N ∧ DN σ σ2 f N)) := by
        rcases AP_s hS (by omega) hbl hq with ⟨p9, g1, g2, g3, g4⟩ | ⟨g1, g2⟩
        · exact ⟨p9, g3, g1, g2, Or.inl g4⟩
        · exact ⟨N, g1, by omega, Nat.le_refl N, Or.inr ⟨rfl, g2⟩⟩
      obtain ⟨p9, hr9, hap9, hpN, hcase⟩ := hp9
      rw [hr9]
      refine TT.steps (cd := cd171) 1 (c' := (20, [(2, 4), (2, 1), (0, ((a : Nat) : Int))], [(0, aMax ((a + 1 : Nat) : Int) ((p9 : Nat) : Int))], σ2)) rfl rfl ?_
      refine TT.top0 (z := ((p9 : Nat) : Int)) (aMax_n hap9) ?_
      refine TT.steps (cd := cd171) 2 (c' := (8, [(2, 4), (2, 1), (0, ((p9 : Nat) : Int))], [], σ2)) rfl rfl ?_
      rcases hcase with g | ⟨g1, g2⟩
      · exact ih p9 (by omega) hpN _ g
      · subst g1
        obtain ⟨u1, u2, u3, u0, u4, u5⟩ := id g2
        exact vl_splitE X f p9 σ hN ht hf _ (u2 + 1) (by omega) u4 ((u1 _ _ (by omega)).trans ht) (DN_end _ g2 u4)
theorem v_split (X : AX) (f : Nat → Int) (N : Nat) (σ : AH) (hN : N ≤ 1600) (ht : σ 1 1 = (N : Int)) (hf : ∀ j, j < N → σ 2 j = f j)  : TT X 171 (0, [(2, 4), (2, 1), (9, 0)], [], σ) (fun r σ' => r = none ∧ SD σ σ' f N) := by
  refine TT.steps (cd := cd171) 8 (c' := (8, [(2, 4), (2, 1), (0, 0)], [], (up2 (up2 σ 4 3 0) 4 4 (-1)))) rfl rfl ?_
  exact vl_split X f N σ hN ht hf N 0 (by omega) (by omega) _ ⟨0, fun _ => 0, fun K j hK => by rw [up2_nq _ (by omega), up2_nq _ (by omega)], ⟨by rw [up2_nq _ (by omega), up2_hit]; rfl, Nat.le_refl _, Nat.le_refl _, by omega⟩, rfl, fun i hi => absurd hi (Nat.not_lt_zero i), fun j hj hj2 => absurd hj2 (Nat.not_lt_zero j), by rw [up2_hit]; decide, by rw [up2_hit]; constructor; (intro g; exact absurd g (by decide)); (rintro ⟨g, -⟩; exact absurd g (by decide))⟩
