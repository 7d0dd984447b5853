/-! The day's loop. -/
theorem mFst_spec (ρ : AH) (b n : Nat) : (mFst ρ b n = none ∧ ∀ t, t < n → ¬ ρ 323 t < ρ 304 (6 * b + t)) ∨ (∃ j, mFst ρ b n = some j ∧ j < n ∧ ρ 323 j < ρ 304 (6 * b + j) ∧ (∀ t, t < n → ρ 323 t < ρ 304 (6 * b + t) → ρ 324 j ≤ ρ 324 t) ∧ (∀ t, t < j → ρ 323 t < ρ 304 (6 * b + t) → ρ 324 j < ρ 324 t)) := by
  induction n with
  | zero => exact Or.inl ⟨rfl, fun t ht => by omega⟩
  | succ n ih =>
    rw [mFst]
    rcases ih with ⟨h1, h2⟩ | ⟨j, h1, h2, h3, h4, h5⟩
    · by_cases e : ρ 323 n < ρ 304 (6 * b + n)
      · rw [if_pos ⟨e, Or.inl h1⟩]
        refine Or.inr ⟨n, rfl, by omega, e, fun t ht he => ?_, fun t ht he => absurd he (h2 t ht)⟩
        by_cases e2 : t = n
        · subst e2; exact Int.le_refl _
        · exact absurd he (h2 t (by omega))
      · rw [if_neg (fun h => e h.1)]
        refine Or.inl ⟨h1, fun t ht => ?_⟩
        by_cases e2 : t = n
        · subst e2; exact e
        · exact h2 t (by omega)
    · rw [h1]
      by_cases e : ρ 323 n < ρ 304 (6 * b + n) ∧ ρ 324 n < ρ 324 j
      · rw [if_pos ⟨e.1, Or.inr (by simpa using e.2)⟩]
        refine Or.inr ⟨n, rfl, by omega, e.1, fun t ht he => ?_, fun t ht he => ?_⟩
        · by_cases e2 : t = n
          · subst e2; exact Int.le_refl _
          · have := h4 t (by omega) he; omega
        · have := h4 t (by omega) he; omega
      · rw [if_neg (fun h => by
          rcases h.2 with h6 | h6
          · cases h6
          · exact e ⟨h.1, by simpa using h6⟩)]
        refine Or.inr ⟨j, rfl, by omega, h3, fun t ht he => ?_, h5⟩
        by_cases e2 : t = n
        · subst e2; exact Int.not_lt.mp (fun h => e ⟨he, h⟩)
        · exact h4 t (by omega) he
/-- until when: the class's minute beside the reference's -/
def UN (ρ : AH) (U : Int) : Prop := (ρ 295 57 = -1 ∧ U = 9999) ∨ (ρ 295 57 = U ∧ 0 ≤ U)
theorem fd_m {n : Nat} {σ ρ : AH} {b v np nt ns : Nat} {L : Nat → Nat} {C : Nat → Nat → Nat} (hE : RE n σ ρ b v np nt ns L C) (hL : ∀ t, t < nt → ρ 304 (6 * b + t) = (L t : Int) ∧ L t ≤ 8) {U : Int} (hU : UN ρ U) {x mi : Int} (h : fdP σ nt L U 0 x mi) :
    (x = -1 ∧ ((mFst ρ b nt = none) ∨ ∃ t, mFst ρ b nt = some t ∧ ¬ (ρ 295 57 = -1 ∨ ρ 324 t ≤ ρ 295 57))) ∨ (∃ f : Nat, x = (f : Int) ∧ f < nt ∧ mFst ρ b nt = some f ∧ (ρ 295 57 = -1 ∨ ρ 324 f ≤ ρ 295 57) ∧ ρ 323 f < (L f : Int)) := by
  obtain ⟨E1, -⟩ := hE
  have hN : ∀ t, t < nt → σ 250 t = ρ 323 t ∧ σ 252 t = ρ 324 t ∧ ρ 324 t ≤ 9999 := by
    intro t ht
    obtain ⟨k, h1, h2, h3, h4, h5, h6⟩ := E1 t ht
    have := (hL t ht).2
    exact ⟨by omega, h4, by omega⟩
  rcases mFst_spec ρ b nt with ⟨m1, m2⟩ | ⟨j, m1, m2, m3, m4, m5⟩
  · rcases h with ⟨h1, h2, h3⟩ | ⟨f, h1, h2, h3, h4, h5, h6, h7, h8⟩
    · exact Or.inl ⟨h1, Or.inl m1⟩
    · exfalso
      have := m2 f h3
      rw [(hN f h3).1] at h4
      rw [(hL f h3).1] at this
      exact this h4
  · rw [(hL j m2).1] at m3
    rcases h with ⟨h1, h2, h3⟩ | ⟨f, h1, h2, h3, h4, h5, h6, h7, h8⟩
    · refine Or.inl ⟨h1, Or.inr ⟨j, m1, fun hc => ?_⟩⟩
      have g := h3 j (by omega) m2 (by rw [(hN j m2).1]; exact m3)
      rw [(hN j m2).2.1] at g
      rcases hU with ⟨u1, u2⟩ | ⟨u1, u2⟩
      · have := (hN j m2).2.2; omega
      · rcases hc with hc | hc
        · omega
        · omega
    · have hf := hN f h3
      have hj := hN j m2
      rw [hf.1] at h4
      have g1 := m4 f h3 (by rw [(hL f h3).1]; exact h4)
      have g2 := h7 j (by omega) m2 (by rw [hj.1]; exact m3)
      rw [hf.2.1, hj.2.1] at g2
      have e : f = j := by
        rcases Nat.lt_trichotomy f j with e | e | e
        · have := m5 f e (by rw [(hL f h3).1]; exact h4); omega
        · exact e
        · have := h8 j (by omega) e (by rw [hj.1]; exact m3)
          rw [hf.2.1, hj.2.1] at this
          omega
      subst e
      refine Or.inr ⟨f, h1, h3, m1, ?_, h4⟩
      rw [hf.2.1] at h6
      rcases hU with ⟨u1, u2⟩ | ⟨u1, u2⟩
      · exact Or.inl u1
      · right; omega
theorem DR_mv {σ τ ρ ρ' : AH} {l q b v np nt ns : Nat} {L : Nat → Nat} {C : Nat → Nat → Nat} (hl : l = 8 ∨ l = 170) (hq : q = 36 ∨ q = 42) (h : DR σ ρ l q b v np nt ns L C) (h1 : ∀ K j, (K < 198 ∨ (198 < K ∧ K < 218)) → τ K j = σ K j) (h2 : ∀ j, j = 11 ∨ j = 12 ∨ j = 13 ∨ j = 14 → τ 198 j = σ 198 j) (h3 : ∀ K j, (295 < K ∧ K < 323) → ρ' K j = ρ K j) (h4 : ρ' 295 45 = ρ 295 45) : DR τ ρ' l q b v np nt ns L C := by
  have hl2 : l + 22 < 198 := by omega
  have hq2 : q < 198 := by omega
  obtain ⟨⟨d1, d2, d3, d4, d5⟩, d6, hTr, hCa, hAf, hTs, hLA, hBT, ⟨hH, hK⟩⟩ := h
  refine ⟨⟨?_, ?_, ?_, ?_, ?_⟩, ?_, ?_, ?_, ?_, ?_, ?_, ?_, ⟨?_, ?_⟩⟩
  · rw [h2 _ (by omega)]; exact d1
  · rw [h2 _ (by omega)]; exact d2
  · rw [h1 _ _ (by omega)]; exact d3
  · rw [h1 _ _ (by omega)]; exact d4
  · rw [h1 _ _ (by omega), h3 _ _ (by omega)]; exact d5
  · rw [h3 _ _ (by omega)]; exact d6
  · intro t ht
    rw [h1 _ _ (by omega), h1 _ _ (by omega), h1 _ _ (by omega), h3 302 _ (by omega), h3 303 _ (by omega)]
    exact hTr t ht
  · intro t k ht hk
    have : t < 6 := by omega
    rw [h1 _ _ (by omega), h3 305 _ (by omega)]
    exact hCa t k ht hk
  · intro t k ht hk
    have : t < 6 := by omega
    rw [h1 _ _ (by omega), h3 306 _ (by omega)]
    exact hAf t k ht hk
  · intro s hs
    unfold mBA
    rw [h1 200 _ (by omega), h1 201 _ (by omega)]
    simp only [h3 318 _ (by omega), h3 319 _ (by omega), h3 321 _ (by omega)]
    exact hTs s hs
  · intro t k ht hk
    have : t < 6 := by omega
    rw [h1 _ _ (by omega)]
    simp only [h3 305 _ (by omega), h3 321 _ (by omega)]
    exact hLA t k ht hk
  · intro t k ht hk
    have : t < 6 := by omega
    unfold mBB mCall
    rw [h1 _ _ (by omega)]
    simp only [h3 305 _ (by omega), h3 318 _ (by omega), h3 319 _ (by omega)]
    exact hBT t k ht hk
  · rw [h2 _ (by omega)]
    simp only [h3 322 _ (by omega)]
    exact hH
  · rw [h2 _ (by omega), h4]
    exact hK
/-- what a day leaves as it was -/
def DF (σ τ : AH) : Prop := (∀ K j, (K < 198 ∨ (198 < K ∧ K < 218) ∨ 254 < K) → τ K j = σ K j) ∧ (∀ j, j = 11 ∨ j = 12 ∨ j = 13 ∨ j = 14 → τ 198 j = σ 198 j)
theorem DF.trans {σ τ υ : AH} (h : DF σ τ) (h2 : DF τ υ) : DF σ υ := ⟨fun K j hK => (h2.1 K j hK).trans (h.1 K j hK), fun j hj => (h2.2 j hj).trans (h.2 j hj)⟩
theorem CX.df {σ τ ρ : AH} {b v np nt t k lt s : Nat} {C : Nat → Nat → Nat} (h : CX σ τ ρ b v np nt t k lt s C) : DF σ τ := by
  obtain ⟨-, -, -, -, e1, e2⟩ := h
  exact ⟨e1, fun j hj => e2 j (by omega)⟩
theorem mLeft_0 {ρ : AH} {L : Nat → Nat} {n : Nat} (h : mLeft ρ L n = 0) : ∀ t, t < n → (L t : Int) ≤ ρ 323 t ∨ L t = 0 := by
  induction n with
  | zero => intro t ht; omega
  | succ n ih =>
    rw [mLeft] at h
    intro t ht
    by_cases e : t = n
    · subst e
      by_cases hz : L t = 0
      · exact Or.inr hz
      · left; omega
    · exact ih (by omega) t (by omega)
/-- what a day comes to -/
def DE (σ τ ρ ρ' : AH) (b v np nt ns : Nat) (L : Nat → Nat) (C : Nat → Nat → Nat) : Prop :=
  DF σ τ ∧ (∃ n, n ≤ 49 ∧ RE n τ ρ' b v np nt ns L C) ∧ (ρ 295 57 = -1 → ∀ t, t < nt → ρ' 323 t = (L t : Int))
theorem v_fD (X : AX) {l : Nat} (hl : l = 8 ∨ l = 170) (nt : Nat) (L : Nat → Nat) (u : Int) (σ : AH) (hli : σ 198 11 = (l : Int)) (hnt : σ l 2 = (nt : Int)) (hnt2 : nt ≤ 6) (hL : ∀ t, t < nt → σ (l + 7) t = (L t : Int)) : TT X k_X1_firstDue (0, [(2, 198), (0, u), (9, 0), (9, 0), (9, 0)], [], σ) (fun r σ' => (∃ x mi, r = some (0, x) ∧ fdP σ nt L u 0 x mi) ∧ σ' = σ) := by
  rcases hl with rfl | rfl
  · exact v_firstDue_8 X nt L u σ hli hnt hnt2 hL
  · exact v_firstDue_170 X nt L u σ hli hnt hnt2 hL
theorem vl_go (X : AX) {l q : Nat} (hl : l = 8 ∨ l = 170) (hq2 : q = 36 ∨ q = 42) {b v np nt ns : Nat} {L : Nat → Nat} {C : Nat → Nat → Nat} (hA hB hC U : Int) : ∀ (d n : Nat), n + d = 48 → ∀ (σ ρ : AH), DR σ ρ l q b v np nt ns L C → RE n σ ρ b v np nt ns L C → (∀ t, t < nt → ρ 304 (6 * b + t) = (L t : Int) ∧ L t ≤ 8) → UN ρ U → mLeft ρ L nt + n ≤ 48 → ∀ x mi : Int, fdP σ nt L U 0 x mi → TT X k_X1_go (17, [(2, 198), (0, hA), (0, hB), (0, hC), (0, U), (0, x), (0, ((n : Nat) : Int))], [], σ) (fun r τ => r = none ∧ DE σ τ ρ (mEvt b v np nt L (d + 1) ρ) b v np nt ns L C) := by
  intro d
  induction d with
  | zero =>
    intro n hn σ ρ hD hE hL hU hM x mi hf
    have hne : mFst ρ b nt = none := by
      rcases mFst_spec ρ b nt with ⟨m1, -⟩ | ⟨j, m1, m2, m3, -, -⟩
      · exact m1
      · exfalso
        rcases mLeft_0 (ρ := ρ) (L := L) (n := nt) (by omega) j m2 with h | h
        · rw [(hL j m2).1] at m3; omega
        · have := hE.1 j m2
          obtain ⟨k, k1, -, k3, -⟩ := this
          rw [(hL j m2).1] at m3; omega
    have hN : n = 48 := by omega
    subst hN
    have hfin : ρ 295 57 = -1 → ∀ t, t < nt → ρ 323 t = (L t : Int) := by
      intro _ t ht
      obtain ⟨k, k1, -, k3, -⟩ := hE.1 t ht
      rcases mFst_spec ρ b nt with ⟨-, m2⟩ | ⟨j, m1, -⟩
      · have := m2 t ht
        rw [(hL t ht).1] at this
        omega
      · rw [hne] at m1; cases m1
    have hEv : mEvt b v np nt L 1 ρ = ρ := by rw [mEvt, hne]
    rw [hEv]
    refine TT.steps (cd := cd116) 3 (c' := (32, [(2, 198), (0, hA), (0, hB), (0, hC), (0, U), (0, x), (0, 48)], [], σ)) rfl rfl ?_
    exact TT.ret (cd := cd116) rfl rfl rfl rfl ⟨rfl, ⟨⟨fun _ _ _ => rfl, fun _ _ => rfl⟩, ⟨_, by omega, hE⟩, hfin⟩⟩
  | succ d ih =>
    intro n hn σ ρ hD hE hL hU hM x mi hf
    rcases fd_m hE hL hU hf with ⟨rfl, hno⟩ | ⟨f, rfl, hf1, hf2, hf3, hf4⟩
    · have hEv : mEvt b v np nt L (d + 1 + 1) ρ = ρ := by
        rw [mEvt]
        rcases hno with h | ⟨t, h, h2⟩
        · rw [h]
        · rw [h]; exact if_neg h2
      have hfin : ρ 295 57 = -1 → ∀ t, t < nt → ρ 323 t = (L t : Int) := by
        intro h57 t ht
        obtain ⟨k, k1, -, k3, -⟩ := hE.1 t ht
        rcases hno with h | ⟨t', h, h2⟩
        · rcases mFst_spec ρ b nt with ⟨-, m2⟩ | ⟨j, m1, -⟩
          · have := m2 t ht
            rw [(hL t ht).1] at this
            omega
          · rw [h] at m1; cases m1
        · exact absurd (Or.inl h57) h2
      rw [hEv]
      refine TT.steps (cd := cd116) 3 (c' := ((if decide (48 ≤ ((n : Nat) : Int)) = true then 32 else 20), [(2, 198), (0, hA), (0, hB), (0, hC), (0, U), (0, -1), (0, ((n : Nat) : Int))], [], σ)) rfl rfl ?_
      refine TT.br (p := 48 ≤ ((n : Nat) : Int)) (fun h1 => absurd h1 (show ¬ (48 ≤ ((n : Nat) : Int)) by omega)) (fun h1 => ?_)
      refine TT.steps (cd := cd116) 3 (c' := (32, [(2, 198), (0, hA), (0, hB), (0, hC), (0, U), (0, -1), (0, ((n : Nat) : Int))], [], σ)) rfl rfl ?_
      exact TT.ret (cd := cd116) rfl rfl rfl rfl ⟨rfl, ⟨⟨fun _ _ _ => rfl, fun _ _ => rfl⟩, ⟨_, by omega, hE⟩, hfin⟩⟩
    · obtain ⟨k, k1, -, k3, -⟩ := hE.1 f hf1
      have hEv : mEvt b v np nt L (d + 1 + 1) ρ = mEvt b v np nt L (d + 1) (mHap ρ b v np f k (L f)) := by
        rw [mEvt, hf2]
        dsimp only
        rw [if_pos hf3, k3]
        rfl
      rw [hEv]
      have hkl : k < L f := by omega
      have hnt2 := hD.2.1.2.1
      refine TT.steps (cd := cd116) 3 (c' := ((if decide (48 ≤ ((n : Nat) : Int)) = true then 32 else 20), [(2, 198), (0, hA), (0, hB), (0, hC), (0, U), (0, ((f : Nat) : Int)), (0, ((n : Nat) : Int))], [], σ)) rfl rfl ?_
      refine TT.br (p := 48 ≤ ((n : Nat) : Int)) (fun h1 => absurd h1 (show ¬ (48 ≤ ((n : Nat) : Int)) by omega)) (fun h1 => ?_)
      refine TT.steps (cd := cd116) 3 (c' := ((if decide (((f : Nat) : Int) = (-1)) = true then 32 else 23), [(2, 198), (0, hA), (0, hB), (0, hC), (0, U), (0, ((f : Nat) : Int)), (0, ((n : Nat) : Int))], [], σ)) rfl rfl ?_
      refine TT.br (p := ((f : Nat) : Int) = (-1)) (fun h2 => absurd h2 (show ¬ (((f : Nat) : Int) = (-1)) by omega)) (fun h2 => ?_)
      refine TT.steps (cd := cd116) 2 (c' := (25, [(2, 198), (0, hA), (0, hB), (0, hC), (0, U), (0, ((f : Nat) : Int)), (0, ((n : Nat) : Int))], [(0, ((f : Nat) : Int)), (2, 198)], σ)) rfl rfl ?_
      refine TT.call (cd := cd116) rfl rfl rfl (by decide) rfl (v_come X hl hq2 hD hE hf1 k3 hkl) (fun r3 σ3 hq => ?_)
      obtain ⟨rfl, hX⟩ := hq
      have hdf := hX.df
      have hE2 := RE_step hD hE (by omega) hf1 k3 hkl hX
      have hD2 : DR σ3 (mHap ρ b v np f k (L f)) l q b v np nt ns L C := DR_mv hl hq2 hD (fun K j hK => hdf.1 K j (by omega)) hdf.2 (fun K j hK => mHap_fr _ _ _ _ _ _ _ _ _ (by omega)) (mHap_fr _ _ _ _ _ _ _ _ _ (by decide))
      refine TT.steps (cd := cd116) 2 (c' := (28, [(2, 198), (0, hA), (0, hB), (0, hC), (0, U), (0, ((f : Nat) : Int)), (0, ((n : Nat) : Int))], [(0, U), (2, 198)], σ3)) rfl rfl ?_
      refine TT.call (cd := cd116) rfl rfl rfl (by decide) rfl (v_fD X hl nt L U σ3 hD2.1.1 hD2.1.2.2.2.1 hnt2 (fun t ht => (hD2.2.2.1 t ht).1)) (fun r4 σ4 hq => ?_)
      obtain ⟨⟨x2, mi2, hr2, hf2b⟩, hs2⟩ := hq
      subst hs2
      rw [hr2]
      refine TT.steps (cd := cd116) 1 (c' := (30, [(2, 198), (0, hA), (0, hB), (0, hC), (0, U), (0, x2), (0, ((n : Nat) : Int))], [], σ4)) rfl rfl ?_
      refine TT.inc (cd := cd116) ((n + 1 : Nat) : Int) rfl rfl rfl rfl (fun h => absurd h.2 (show ¬ (0 = 1) by decide)) (aAdd_n (a := n) (b := 1) (by omega)) (ls' := [(2, 198), (0, hA), (0, hB), (0, hC), (0, U), (0, x2), (0, ((n + 1 : Nat) : Int))]) rfl ?_
      refine TT.steps (cd := cd116) 1 (c' := (17, [(2, 198), (0, hA), (0, hB), (0, hC), (0, U), (0, x2), (0, ((n + 1 : Nat) : Int))], [], σ4)) rfl rfl ?_
      refine (ih (n + 1) (by omega) σ4 _ hD2 hE2 ?_ ?_ ?_ x2 mi2 hf2b).mono (fun r τ h => ⟨h.1, hdf.trans h.2.1, h.2.2.1, ?_⟩)
      · intro t ht; rw [mHap_fr _ _ _ _ _ _ _ _ _ (by decide)]; exact hL t ht
      · unfold UN; rw [mHap_fr _ _ _ _ _ _ _ _ _ (by decide)]; exact hU
      · have := mLeft_up ρ (mHap ρ b v np f k (L f)) L f k nt (mHap_nx ρ b v np f k (L f)) k3 hkl
        rw [if_pos hf1] at this
        omega
      · have := h.2.2.2
        rw [mHap_fr _ _ _ _ _ _ _ _ _ (by decide)] at this
        exact this
