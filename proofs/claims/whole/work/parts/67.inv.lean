/-! What always holds between the class's cells and the reference's. -/
def e5 (f : Nat → Nat) : Nat → Nat
  | 0 => 0
  | n + 1 => e5 f n + f n * 32 ^ n
def e8 (f : Nat → Nat) : Nat → Nat
  | 0 => 0
  | n + 1 => e8 f n * 256 + (f n + 96)
def nT (x w : Int) : Prop := ∃ (n : Nat) (f : Nat → Nat), (1 ≤ n ∧ n ≤ 6) ∧ (∀ i, i < n → 1 ≤ f i ∧ f i ≤ 26) ∧ x = ((e5 f n : Nat) : Int) ∧ w = ((e8 f n : Nat) : Int)
def NT (σ ρ : AH) (l b np nt ns : Nat) : Prop := (∀ s, s < ns → nT (σ (l + 1) s) (ρ 298 (14 * b + s))) ∧ (∀ t, t < nt → nT (σ (l + 2) t) (ρ 301 (6 * b + t))) ∧ (∀ p, p < np → nT (σ (l + 3) p) (ρ 308 (10 * b + p)))
def IVa (σ ρ : AH) (np ns w tp u : Nat) : Prop := (σ 48 0 = (w : Int) ∧ σ 48 2 = (tp : Int) ∧ ρ 295 42 = (w : Int) ∧ ρ 295 41 = (u : Int)) ∧ (w ≤ 20 ∧ tp < 20 ∧ u < 20) ∧ (∀ k, k < w → PT σ ρ (50 + 6 * ((tp + 20 - w + k) % 20)) (2 + (u + k) % 20) np ns)
def IVt (σ ρ : AH) (tl : Nat) : Prop := σ 1 1 = (tl : Int) ∧ ρ 295 1 = (tl : Int) ∧ tl ≤ 1600 ∧ (∀ j, j < tl → σ 2 j = ρ 296 j ∧ 0 ≤ ρ 296 j ∧ ρ 296 j ≤ 255)
def IVo (σ ρ : AH) (oc : Nat) : Prop := σ 0 10 = (oc : Int) ∧ ρ 295 64 = (oc : Int) ∧ oc ≤ 63 ∧ (∀ j, j < oc → σ 294 j = ρ 338 j)
def IVm (σ ρ : AH) : Prop := (σ 0 11 = ρ 295 43 ∧ 0 ≤ ρ 295 43 ∧ ρ 295 43 < 2147483648) ∧ (σ 3 0 = ρ 295 10 ∧ σ 3 1 = ρ 295 11) ∧ (∀ j, j < 6 → σ 293 j = ρ 315 j)
/-- the hirings' days, for every reference beside which the class stands -/
def HK (σ : AH) (l b np nt ns : Nat) (L : Nat → Nat) (C : Nat → Nat → Nat) : Prop :=
  ∀ τ : AH, LT σ τ l b np nt ns L C → PT σ τ 36 0 np ns → FL τ → σ 289 4 = ((bs (fun p => decide (0 < τ 314 (10 * b + p))) np : Nat) : Int) ∧ (∀ z : Nat, z < 2 ^ np → mCanC τ b np (z : Int) → σ 290 z = ((bs (gdS (mDW τ b np nt L (z : Int)) 1) np : Nat) : Int) ∧ σ 291 z = mCoin τ b np (z : Int) ∧ σ 292 z = (if mEachC (mDW τ b np nt L (z : Int)) b nt ns L then 1 else 0))
def HKo (σ : AH) (l b np nt ns : Nat) (L : Nat → Nat) (C : Nat → Nat → Nat) : Prop := σ 289 0 = 0 ∨ (σ 289 0 = 1 ∧ HK σ l b np nt ns L C)
def IVl (σ : AH) (l : Nat) : Prop := (l = 8 ∨ l = 170) ∧ σ 0 5 = (l : Int) ∧ σ 3 3 = ((178 - l : Nat) : Int)
def IV (σ ρ : AH) (l b np nt ns : Nat) (L : Nat → Nat) (C : Nat → Nat → Nat) (w tp u tl oc : Nat) : Prop :=
  IVl σ l ∧ LT σ ρ l b np nt ns L C ∧ NT σ ρ l b np nt ns ∧ PT σ ρ 36 0 np ns ∧ FL ρ ∧ IVa σ ρ np ns w tp u ∧ IVt σ ρ tl ∧ IVo σ ρ oc ∧ IVm σ ρ ∧ HKo σ l b np nt ns L C
theorem PT_mv {σ τ ρ ρ' : AH} {q v np ns : Nat} (h : PT σ ρ q v np ns) (hn : np ≤ 10) (h1 : ∀ K j, (q ≤ K ∧ K ≤ q + 5) → τ K j = σ K j) (h2 : ρ' 316 v = ρ 316 v) (h3 : ∀ K p, (317 ≤ K ∧ K ≤ 322) → p < 10 → ρ' K (10 * v + p) = ρ K (10 * v + p)) : PT τ ρ' q v np ns := by
  obtain ⟨⟨b1, b2⟩, y, hh, c⟩ := h
  refine ⟨⟨by rw [h1 _ _ (by omega)]; exact b1, fun p hp => ?_⟩, ?_, ?_, fun p hp => ?_⟩
  · rw [h1 _ _ (by omega), h1 _ _ (by omega), h1 _ _ (by omega), h1 _ _ (by omega), h3 318 p (by omega) (by omega), h3 319 p (by omega) (by omega), h3 320 p (by omega) (by omega), h3 321 p (by omega) (by omega)]
    exact b2 p hp
  · rw [h1 _ _ (by omega), h2]; exact y
  · rw [h1 _ _ (by omega), hh]
    refine congrArg (fun x : Nat => (x : Int)) (bs_c (fun p hp => ?_))
    show decide _ = decide _
    rw [h3 322 p (by omega) (by omega)]
  · rw [h1 _ _ (by omega), h3 317 p (by omega) (by omega), h3 319 p (by omega) (by omega), h3 322 p (by omega) (by omega)]
    exact c p hp
theorem NT_mv {σ τ ρ ρ' : AH} {l b np nt ns : Nat} (h : NT σ ρ l b np nt ns) (h1 : ∀ K j, (l ≤ K ∧ K ≤ l + 22) → τ K j = σ K j) (h2 : ∀ K j, (296 < K ∧ K < 315) → ρ' K j = ρ K j) : NT τ ρ' l b np nt ns := by
  refine ⟨fun s hs => ?_, fun s hs => ?_, fun s hs => ?_⟩
  · rw [h1 _ _ (by omega), h2 _ _ (by omega)]; exact h.1 s hs
  · rw [h1 _ _ (by omega), h2 _ _ (by omega)]; exact h.2.1 s hs
  · rw [h1 _ _ (by omega), h2 _ _ (by omega)]; exact h.2.2 s hs
theorem HK_mv {σ υ : AH} {l b np nt ns : Nat} {L : Nat → Nat} {C : Nat → Nat → Nat} (hl : l = 8 ∨ l = 170) (hn : np ≤ 10) (h : HK σ l b np nt ns L C) (h1 : ∀ K j, ((l ≤ K ∧ K ≤ l + 22) ∨ (36 ≤ K ∧ K ≤ 41) ∨ (289 ≤ K ∧ K ≤ 292)) → υ K j = σ K j) : HK υ l b np nt ns L C := by
  intro τ a1 a2 a3
  have b1 : LT σ τ l b np nt ns L C := LT_mv hl a1 (fun K j hK => (h1 K j (by omega)).symm) (fun _ _ _ => rfl) rfl
  have b2 : PT σ τ 36 0 np ns := PT_mv a2 hn (fun K j hK => (h1 K j (by omega)).symm) rfl (fun _ _ _ _ => rfl)
  rw [h1 289 _ (by omega)]
  refine ⟨(h τ b1 b2 a3).1, fun z hz hc => ?_⟩
  rw [h1 290 _ (by omega), h1 291 _ (by omega), h1 292 _ (by omega)]
  exact (h τ b1 b2 a3).2 z hz hc
/-- the class's cells that every question leaves as they are -/
def QS (σ τ : AH) : Prop := ∀ K j, (K < 42 ∨ (47 < K ∧ K < 198) ∨ 254 < K) → τ K j = σ K j
/-- the reference's -/
def RS (ρ ρ' : AH) : Prop := (∀ K j, ((295 < K ∧ K < 316) ∨ 337 < K) → ρ' K j = ρ K j) ∧ (∀ j, j ≠ 46 → ρ' 295 j = ρ 295 j) ∧ (∀ j, j ≠ 1 → ρ' 316 j = ρ 316 j) ∧ (∀ K j, (316 < K ∧ K < 323) → (j < 10 ∨ 20 ≤ j) → ρ' K j = ρ K j)
theorem QS.refl (σ : AH) : QS σ σ := fun _ _ _ => rfl
theorem QS.trans {σ τ υ : AH} (h : QS σ τ) (h2 : QS τ υ) : QS σ υ := fun K j hK => (h2 K j hK).trans (h K j hK)
theorem RS.refl (ρ : AH) : RS ρ ρ := ⟨fun _ _ _ => rfl, fun _ _ => rfl, fun _ _ => rfl, fun _ _ _ _ => rfl⟩
theorem RS.trans {ρ ρ' ρ'' : AH} (h : RS ρ ρ') (h2 : RS ρ' ρ'') : RS ρ ρ'' := ⟨fun K j hK => (h2.1 K j hK).trans (h.1 K j hK), fun j hj => (h2.2.1 j hj).trans (h.2.1 j hj), fun j hj => (h2.2.2.1 j hj).trans (h.2.2.1 j hj), fun K j hK hj => (h2.2.2.2 K j hK hj).trans (h.2.2.2 K j hK hj)⟩
theorem IV_q {σ τ ρ ρ' : AH} {l b np nt ns : Nat} {L : Nat → Nat} {C : Nat → Nat → Nat} {w tp u tl oc : Nat} (h : IV σ ρ l b np nt ns L C w tp u tl oc) (h1 : QS σ τ) (h2 : RS ρ ρ') : IV τ ρ' l b np nt ns L C w tp u tl oc := by
  obtain ⟨⟨hl, i1, i2⟩, hL, hN, hP, hF, ⟨hA1, hA2, hA3⟩, ⟨t1, t2, t3, t4⟩, ⟨o1, o2, o3, o4⟩, ⟨m1, m2, m3⟩, hH⟩ := h
  have np2 := hL.2.2.1.1
  have fL : ∀ K j, (l ≤ K ∧ K ≤ l + 22) → τ K j = σ K j := fun K j hK => h1 K j (by omega)
  have fR : ∀ K j, (296 < K ∧ K < 315) → ρ' K j = ρ K j := fun K j hK => h2.1 K j (by omega)
  refine ⟨⟨hl, ?_, ?_⟩, LT_mv hl hL fL fR (h2.2.1 13 (by decide)), NT_mv hN fL fR, ?_, ?_, ⟨?_, hA2, ?_⟩, ⟨?_, ?_, t3, ?_⟩, ⟨?_, ?_, o3, ?_⟩, ⟨?_, ?_, ?_⟩, ?_⟩
  · rw [h1 _ _ (by omega)]; exact i1
  · rw [h1 _ _ (by omega)]; exact i2
  · exact PT_mv hP np2 (fun K j hK => h1 K j (by omega)) (h2.2.2.1 0 (by decide)) (fun K p hK hp => h2.2.2.2 K _ (by omega) (by omega))
  · unfold FL; rw [h2.2.1 44 (by decide), h2.2.1 45 (by decide), h2.2.1 57 (by decide)]; exact hF
  · rw [h1 48 0 (by omega), h1 48 2 (by omega), h2.2.1 42 (by decide), h2.2.1 41 (by decide)]; exact hA1
  · intro k hk
    have e1 : (tp + 20 - w + k) % 20 < 20 := Nat.mod_lt _ (by decide)
    exact PT_mv (hA3 k hk) np2 (fun K j hK => h1 K j (by omega)) (h2.2.2.1 _ (by omega)) (fun K p hK hp => h2.2.2.2 K _ (by omega) (by omega))
  · rw [h1 _ _ (by omega)]; exact t1
  · rw [h2.2.1 _ (by decide)]; exact t2
  · intro j hj; rw [h1 _ _ (by omega), h2.1 _ _ (by omega)]; exact t4 j hj
  · rw [h1 _ _ (by omega)]; exact o1
  · rw [h2.2.1 _ (by decide)]; exact o2
  · intro j hj; rw [h1 _ _ (by omega), h2.1 _ _ (by omega)]; exact o4 j hj
  · rw [h1 _ _ (by omega), h2.2.1 43 (by decide)]; exact m1
  · rw [h1 _ _ (by omega), h1 _ _ (by omega), h2.2.1 10 (by decide), h2.2.1 11 (by decide)]; exact m2
  · intro j hj; rw [h1 _ _ (by omega), h2.1 _ _ (by omega)]; exact m3 j hj
  · unfold HKo
    rw [h1 289 0 (by omega)]
    rcases hH with h0 | ⟨h0, hK⟩
    · exact Or.inl h0
    · exact Or.inr ⟨h0, HK_mv hl np2 hK (fun K j hK => h1 K j (by omega))⟩
/-- the reference's cells alone count on its side, the class's on the other -/
theorem IV_r {σ ρ ρ' : AH} {l b np nt ns : Nat} {L : Nat → Nat} {C : Nat → Nat → Nat} {w tp u tl oc : Nat} (h : IV σ ρ l b np nt ns L C w tp u tl oc) (h2 : ∀ K j, 295 ≤ K → ρ' K j = ρ K j) : IV σ ρ' l b np nt ns L C w tp u tl oc := IV_q h (QS.refl σ) ⟨fun K j hK => h2 K j (by omega), fun j _ => h2 _ j (by omega), fun j _ => h2 _ j (by omega), fun K j hK _ => h2 K j (by omega)⟩
theorem IV_l {σ τ ρ : AH} {l b np nt ns : Nat} {L : Nat → Nat} {C : Nat → Nat → Nat} {w tp u tl oc : Nat} (h : IV σ ρ l b np nt ns L C w tp u tl oc) (h1 : ∀ K j, K < 295 → τ K j = σ K j) : IV τ ρ l b np nt ns L C w tp u tl oc := by
  obtain ⟨⟨hl, i1, i2⟩, hL, hN, hP, hF, ⟨hA1, hA2, hA3⟩, ⟨t1, t2, t3, t4⟩, ⟨o1, o2, o3, o4⟩, ⟨m1, m2, m3⟩, hH⟩ := h
  have np2 := hL.2.2.1.1
  have fL : ∀ K j, (l ≤ K ∧ K ≤ l + 22) → τ K j = σ K j := fun K j hK => h1 K j (by omega)
  refine ⟨⟨hl, ?_, ?_⟩, LT_mv hl hL fL (fun _ _ _ => rfl) rfl, NT_mv hN fL (fun _ _ _ => rfl), ?_, hF, ⟨?_, hA2, ?_⟩, ⟨?_, t2, t3, ?_⟩, ⟨?_, o2, o3, ?_⟩, ⟨?_, ?_, ?_⟩, ?_⟩
  · rw [h1 _ _ (by omega)]; exact i1
  · rw [h1 _ _ (by omega)]; exact i2
  · exact PT_mv hP np2 (fun K j hK => h1 K j (by omega)) rfl (fun _ _ _ _ => rfl)
  · rw [h1 48 0 (by omega), h1 48 2 (by omega)]; exact hA1
  · intro k hk
    have e1 : (tp + 20 - w + k) % 20 < 20 := Nat.mod_lt _ (by decide)
    exact PT_mv (hA3 k hk) np2 (fun K j hK => h1 K j (by omega)) rfl (fun _ _ _ _ => rfl)
  · rw [h1 _ _ (by omega)]; exact t1
  · intro j hj; rw [h1 _ _ (by omega)]; exact t4 j hj
  · rw [h1 _ _ (by omega)]; exact o1
  · intro j hj; rw [h1 _ _ (by omega)]; exact o4 j hj
  · rw [h1 _ _ (by omega)]; exact m1
  · rw [h1 _ _ (by omega), h1 _ _ (by omega)]; exact m2
  · intro j hj; rw [h1 _ _ (by omega)]; exact m3 j hj
  · unfold HKo
    rw [h1 289 0 (by omega)]
    rcases hH with h0 | ⟨h0, hK⟩
    · exact Or.inl h0
    · exact Or.inr ⟨h0, HK_mv hl np2 hK (fun K j hK => h1 K j (by omega))⟩
