/-! Hirings: what the class learns of them. -/
theorem eK_s (σ : AH) (b t : Nat) (s : Int) (c0 : Int × Int) (n : Nat) : ((eK σ b t s c0 n).1 = 0 ↔ c0.1 = 0 ∧ ∀ k, k < n → ¬ σ 305 (8 * (6 * b + t) + k) = s) ∧ ((eK σ b t s c0 n).2 = 0 ↔ c0.2 = 0 ∧ ∀ k, k < n → ¬ (σ 305 (8 * (6 * b + t) + k) = s ∧ σ 325 (8 * t + k) = 1)) := by
  induction n with
  | zero => exact ⟨⟨fun h => ⟨h, fun k hk => by omega⟩, fun h => h.1⟩, ⟨fun h => ⟨h, fun k hk => by omega⟩, fun h => h.1⟩⟩
  | succ n ih =>
    obtain ⟨i1, i2⟩ := ih
    rw [eK]
    by_cases e : σ 305 (8 * (6 * b + t) + n) = s
    · rw [if_pos e]
      refine ⟨⟨fun h => absurd h (show ¬ ((1 : Int) = 0) by decide), fun h => absurd e (h.2 n (by omega))⟩, ?_⟩
      dsimp only
      by_cases g : (eK σ b t s c0 n).2 = 0 ∧ ¬ σ 325 (8 * t + n) = 1
      · rw [if_pos g]
        obtain ⟨g1, g2⟩ := i2.mp g.1
        refine ⟨fun _ => ⟨g1, fun k hk => ?_⟩, fun _ => rfl⟩
        by_cases e2 : k = n
        · subst e2; exact fun h => g.2 h.2
        · exact g2 k (by omega)
      · rw [if_neg g]
        refine ⟨fun h => absurd h (by decide), fun h => absurd ⟨i2.mpr ⟨h.1, fun k hk => h.2 k (by omega)⟩, fun hc => h.2 n (by omega) ⟨e, hc⟩⟩ g⟩
    · rw [if_neg e]
      constructor
      · rw [i1]
        refine ⟨fun h => ⟨h.1, fun k hk => ?_⟩, fun h => ⟨h.1, fun k hk => h.2 k (by omega)⟩⟩
        by_cases e2 : k = n
        · subst e2; exact e
        · exact h.2 k (by omega)
      · rw [i2]
        refine ⟨fun h => ⟨h.1, fun k hk => ?_⟩, fun h => ⟨h.1, fun k hk => h.2 k (by omega)⟩⟩
        by_cases e2 : k = n
        · subst e2; exact fun hc => e hc.1
        · exact h.2 k (by omega)
theorem eT_s (σ : AH) (b : Nat) (L : Nat → Nat) (s : Int) (nt : Nat) : ((eT σ b L s nt).1 = 0 ↔ ∀ t, t < nt → ∀ k, k < L t → ¬ σ 305 (8 * (6 * b + t) + k) = s) ∧ ((eT σ b L s nt).2 = 0 ↔ ∀ t, t < nt → ∀ k, k < L t → ¬ (σ 305 (8 * (6 * b + t) + k) = s ∧ σ 325 (8 * t + k) = 1)) := by
  induction nt with
  | zero => exact ⟨⟨fun _ t ht => by omega, fun _ => rfl⟩, ⟨fun _ t ht => by omega, fun _ => rfl⟩⟩
  | succ n ih =>
    obtain ⟨k1, k2⟩ := eK_s σ b n s (eT σ b L s n) (L n)
    rw [eT]
    rw [k1, k2, ih.1, ih.2]
    constructor
    · refine ⟨fun h t ht => ?_, fun h => ⟨fun t ht => h t (by omega), h n (by omega)⟩⟩
      by_cases e : t = n
      · subst e; exact h.2
      · exact h.1 t (by omega)
    · refine ⟨fun h t ht => ?_, fun h => ⟨fun t ht => h t (by omega), h n (by omega)⟩⟩
      by_cases e : t = n
      · subst e; exact h.2
      · exact h.1 t (by omega)
theorem bs_inj {f g : Nat → Bool} {n : Nat} : ((bs f n : Nat) : Int) = ((bs g n : Nat) : Int) ↔ ∀ p, p < n → f p = g p := by
  constructor
  · intro h p hp
    have e : bs f n = bs g n := by omega
    have h1 := bs_bit f n p
    have h2 := bs_bit g n p
    rw [e] at h1
    rw [h1, decide_eq_true hp, Bool.true_and, Bool.true_and] at h2
    exact h2
  · intro h
    rw [bs_c h]
theorem serves_iff {σ σ0 τ ρ : AH} {l b v np nt ns : Nat} {L : Nat → Nat} {C : Nat → Nat → Nat} (hL : LT σ ρ l b np nt ns L C) (hD : DD σ0 τ ρ b v np nt ns L C) (hU : ρ 295 57 = -1) : τ 198 16 = τ 198 17 ↔ mEachC (mDay ρ b v np nt L) b nt ns L := by
  obtain ⟨⟨n, -, hE⟩, hf, -⟩ := hD
  have hfu := hf hU
  obtain ⟨-, -, ⟨c1, c2, c3, -⟩, hTr, hCa, -⟩ := hL
  rw [hE.2.2.2.2.2.1.1, hE.2.2.2.2.2.1.2, bs_inj]
  have hcall : ∀ t k, t < nt → k < L t → mDay ρ b v np nt L 305 (8 * (6 * b + t) + k) = (C t k : Int) := fun t k ht hk => (mDay_fr _ _ _ _ _ _ _ _ (by omega)).trans (hCa t k ht hk).2.1
  have a1 : ∀ s, rCL (mDay ρ b v np nt L) C nt s = true ↔ ∃ t k, t < nt ∧ k < L t ∧ C t k = s := by
    intro s
    rw [anyN_iff]
    constructor
    · rintro ⟨t, ht, h⟩
      obtain ⟨k, hk, h2⟩ := (anyN_iff _ _).mp h
      simp only [decide_eq_true_eq] at h2
      rw [hfu t ht] at h2
      exact ⟨t, k, ht, by omega, h2.2⟩
    · rintro ⟨t, k, ht, hk, h⟩
      have := (hTr t ht).2.2.2.1
      exact ⟨t, ht, (anyN_iff _ _).mpr ⟨k, by omega, decide_eq_true ⟨by rw [hfu t ht]; omega, h⟩⟩⟩
  have a2 : ∀ s, rSV (mDay ρ b v np nt L) C nt s = true ↔ ∃ t k, t < nt ∧ k < L t ∧ C t k = s ∧ mDay ρ b v np nt L 325 (8 * t + k) = 1 := by
    intro s
    rw [anyN_iff]
    constructor
    · rintro ⟨t, ht, h⟩
      obtain ⟨k, hk, h2⟩ := (anyN_iff _ _).mp h
      simp only [decide_eq_true_eq] at h2
      rw [hfu t ht] at h2
      exact ⟨t, k, ht, by omega, h2.2⟩
    · rintro ⟨t, k, ht, hk, h⟩
      have := (hTr t ht).2.2.2.1
      exact ⟨t, ht, (anyN_iff _ _).mpr ⟨k, by omega, decide_eq_true ⟨by rw [hfu t ht]; omega, h⟩⟩⟩
  unfold mEachC
  constructor
  · intro h
    apply anyN_f
    intro s hs
    apply decide_eq_false
    rintro ⟨g1, g2⟩
    rw [(eT_s _ _ _ _ _).1] at g1
    rw [(eT_s _ _ _ _ _).2] at g2
    apply g1
    intro t ht k hk hc
    rw [hcall t k ht hk] at hc
    have hcs : C t k = s := by omega
    have h1 := (a1 s).mpr ⟨t, k, ht, hk, hcs⟩
    rw [h s (by omega)] at h1
    obtain ⟨t', k', ht', hk', e1, e2⟩ := (a2 s).mp h1
    exact g2 t' ht' k' hk' ⟨by rw [hcall t' k' ht' hk']; omega, e2⟩
  · intro h s hs
    rw [Bool.eq_iff_iff, a1, a2]
    constructor
    · rintro ⟨t, k, ht, hk, e⟩
      have hsn := (hCa t k ht hk).2.2
      apply Classical.byContradiction
      intro hc
      have : anyN (fun s => decide (¬ (eT (mDay ρ b v np nt L) b L ((s : Nat) : Int) nt).1 = 0 ∧ (eT (mDay ρ b v np nt L) b L ((s : Nat) : Int) nt).2 = 0)) ns = true := by
        refine anyN_t (p := s) (by omega) (decide_eq_true ⟨fun g => ?_, ?_⟩)
        · exact (eT_s _ _ _ _ _).1.mp g t ht k hk (by rw [hcall t k ht hk]; omega)
        · rw [(eT_s _ _ _ _ _).2]
          rintro t' ht' k' hk' ⟨e1, e2⟩
          rw [hcall t' k' ht' hk'] at e1
          exact hc ⟨t', k', ht', hk', by omega, e2⟩
      rw [h] at this
      cases this
    · rintro ⟨t, k, ht, hk, e, -⟩
      exact ⟨t, k, ht, hk, e⟩
/-- a reference beside which the class stands -/
def TI (σ ρ : AH) (l b np nt ns : Nat) (L : Nat → Nat) (C : Nat → Nat → Nat) : Prop := LT σ ρ l b np nt ns L C ∧ PT σ ρ 36 0 np ns ∧ FL ρ
abbrev hR (ρ : AH) (np z : Nat) : AH := mHW (cpN ρ 1 0 10) (z : Int) np
theorem mHW_p (ρ : AH) (z : Int) (n : Nat) : (∀ p, p < n → mHW ρ z n 322 (10 + p) = aAnd (aShr z ((p : Nat) : Int)) 1) ∧ (∀ K j, ¬ (K = 322 ∧ 10 ≤ j ∧ j < 10 + n) → mHW ρ z n K j = ρ K j) := by
  induction n with
  | zero => exact ⟨fun p hp => by omega, fun _ _ _ => rfl⟩
  | succ n ih =>
    rw [mHW]
    refine ⟨fun p hp => ?_, fun K j hK => ?_⟩
    · by_cases e : p = n
      · subst e; rw [up2_hit]
      · rw [up2_nq _ (by omega)]; exact ih.1 p (by omega)
    · rw [up2_nq _ (by omega)]; exact ih.2 K j (by omega)
theorem hR_RS (ρ : AH) {np z : Nat} (hn : np ≤ 10) : RS ρ (hR ρ np z) := by
  refine (RS_cp ρ).trans ?_
  have := (mHW_p (cpN ρ 1 0 10) (z : Int) np).2
  exact ⟨fun K j hK => this K j (by omega), fun j hj => this _ j (by omega), fun j hj => this _ j (by omega), fun K j hK hj => this K j (by omega)⟩
theorem hR_T {σ τ ρ : AH} {l b np nt ns : Nat} {L : Nat → Nat} {C : Nat → Nat → Nat} (hl : l = 8 ∨ l = 170) (h : TI σ ρ l b np nt ns L C) (hF : ∀ K j, (K < 198 ∨ 254 < K) → ¬ (289 ≤ K ∧ K ≤ 292) → τ K j = σ K j) (z : Nat) : LT τ (hR ρ np z) l b np nt ns L C ∧ PTb τ (hR ρ np z) 36 1 np ns ∧ FL (hR ρ np z) := by
  obtain ⟨h1, h2, h3⟩ := h
  have hn := h1.2.2.1.1
  have hS := hR_RS ρ (z := z) hn
  refine ⟨LT_mv hl h1 (fun K j hK => hF K j (by omega) (by omega)) (fun K j hK => hS.1 K j (by omega)) (hS.2.1 13 (by decide)), ⟨?_, fun p hp => ?_⟩, FL_q h3 hS⟩
  · rw [hF _ _ (by omega) (by omega)]; exact h2.1.1
  · have cl := (cpN_l ρ 1 0).2
    have hw := (mHW_p (cpN ρ 1 0 10) (z : Int) np).2
    have e : ∀ K, 318 ≤ K → K ≤ 321 → hR ρ np z K (10 * 1 + p) = ρ K (10 * 0 + p) := fun K a1 a2 => (hw K _ (by omega)).trans (cl K p (by omega) (by omega))
    rw [e 318 (by omega) (by omega), e 319 (by omega) (by omega), e 320 (by omega) (by omega), e 321 (by omega) (by omega), hF _ _ (by omega) (by omega), hF _ _ (by omega) (by omega), hF _ _ (by omega) (by omega), hF _ _ (by omega) (by omega)]
    exact h2.1.2 p hp
theorem hR_z (ρ : AH) {np z : Nat} (hn : np ≤ 10) (hz : z < 2 ^ np) : ((bs (zH (hR ρ np z) 1) np : Nat) : Int) = (z : Int) := by
  have hz2 : z < 2147483648 := p31 (by omega) hz
  refine congrArg (fun x : Nat => (x : Int)) ((bs_c (g := fun p => z.testBit p) (fun p hp => ?_)).trans (bs_self hz))
  show decide (mHW (cpN ρ 1 0 10) (z : Int) np 322 (10 * 1 + p) = 1) = z.testBit p
  rw [show 10 * 1 + p = 10 + p by omega, (mHW_p _ _ _).1 p hp, aBit_n hz2 (by omega)]
  cases z.testBit p <;> simp
theorem go_h (X : AX) {l : Nat} (hl : l = 8 ∨ l = 170) {σ τ ρ : AH} {b np nt ns : Nat} {L : Nat → Nat} {C : Nat → Nat → Nat} (hP : PR τ l 36 np nt L) (h : TI σ ρ l b np nt ns L C) (hF : ∀ K j, (K < 198 ∨ 254 < K) → ¬ (289 ≤ K ∧ K ≤ 292) → τ K j = σ K j) {z : Nat} (hz : z < 2 ^ np) : TT X k_X1_go (0, [(2, 198), (0, ((z : Nat) : Int)), (0, 0), (0, 0), (0, 9999), (9, 0), (9, 0)], [], τ) (fun r υ => r = none ∧ DG τ υ ∧ DD τ υ (hR ρ np z) b 1 np nt ns L C) := by
  obtain ⟨t1, t2, t3⟩ := hR_T hl h hF z
  have := v_go0 X hl (Or.inl rfl) hP t1 t2 t3
  rw [hR_z ρ h.1.2.2.1.1 hz] at this
  exact this
/-- learnt of the first n sets -/
def LHp (σ τ : AH) (l b np nt ns : Nat) (L : Nat → Nat) (C : Nat → Nat → Nat) (n : Nat) : Prop :=
  (∀ K j, (K < 198 ∨ 254 < K) → ¬ (289 ≤ K ∧ K ≤ 292) → τ K j = σ K j) ∧ (τ 289 0 = 1 ∧ ∀ ρ, TI σ ρ l b np nt ns L C → τ 289 4 = ((bs (pPr ρ b) np : Nat) : Int)) ∧ PR τ l 36 np nt L ∧ (∀ z : Nat, z < n → ∀ ρ, TI σ ρ l b np nt ns L C → mCanC ρ b np (z : Int) → τ 290 z = ((bs (gdS (mDW ρ b np nt L (z : Int)) 1) np : Nat) : Int) ∧ τ 291 z = mCoin ρ b np (z : Int) ∧ τ 292 z = (if mEachC (mDW ρ b np nt L (z : Int)) b nt ns L then 1 else 0))
theorem LH_skip {σ τ ρ0 : AH} {l b np nt ns n : Nat} {L : Nat → Nat} {C : Nat → Nat → Nat} (h : LHp σ τ l b np nt ns L C n) (h0 : TI σ ρ0 l b np nt ns L C) (hc : ¬ mCanC ρ0 b np (n : Int)) (hn : n < 2147483648) : LHp σ τ l b np nt ns L C (n + 1) := by
  obtain ⟨h1, h2, h3, h4⟩ := h
  refine ⟨h1, h2, h3, fun z hz ρ hT hcan => ?_⟩
  by_cases e : z = n
  · subst e
    exfalso
    have a1 := (can_iff hT.1 (z := (z : Int)) (by omega)).mpr hcan
    rw [← h2.2 ρ hT, h2.2 ρ0 h0] at a1
    exact hc ((can_iff h0.1 (by omega)).mp a1)
  · exact h4 z (by omega) ρ hT hcan
theorem LH_take {σ τ υ υ' : AH} {l b np nt ns n : Nat} {L : Nat → Nat} {C : Nat → Nat → Nat} (hl : l = 8 ∨ l = 170) (hnt : nt ≤ 6) (h : LHp σ τ l b np nt ns L C n) (hG : DG τ υ) {x1 x2 x3 : Int} (hυ : υ' = up2 (up2 (up2 υ 290 n x1) 291 n x2) 292 n x3) (hx : ∀ ρ, TI σ ρ l b np nt ns L C → x1 = ((bs (gdS (mDW ρ b np nt L (n : Int)) 1) np : Nat) : Int) ∧ x2 = mCoin ρ b np (n : Int) ∧ x3 = (if mEachC (mDW ρ b np nt L (n : Int)) b nt ns L then 1 else 0)) : LHp σ υ' l b np nt ns L C (n + 1) := by
  obtain ⟨h1, h2, h3, h4⟩ := h
  have f : ∀ K j, ¬ (290 ≤ K ∧ K ≤ 292) → υ' K j = υ K j := fun K j hK => by rw [hυ, up2_nq _ (by omega), up2_nq _ (by omega), up2_nq _ (by omega)]
  have f2 : ∀ K j, K = 290 ∨ K = 291 ∨ K = 292 → j ≠ n → υ' K j = τ K j := fun K j hK hj => by rw [hυ, up2_nq _ (by omega), up2_nq _ (by omega), up2_nq _ (by omega)]; exact hG.1 K j (by omega)
  refine ⟨fun K j hK h9 => ?_, ⟨?_, fun ρ hT => ?_⟩, ?_, fun z hz ρ hT hcan => ?_⟩
  · rw [f _ _ (by omega), hG.1 K j (by omega)]; exact h1 K j hK h9
  · rw [f _ _ (by omega), hG.1 _ _ (by omega)]; exact h2.1
  · rw [f _ _ (by omega), hG.1 _ _ (by omega)]; exact h2.2 ρ hT
  · exact PR_mv hl (Or.inl rfl) hnt h3 (fun K j hK => (f K j (by omega)).trans (hG.1 K j (by omega))) ⟨(f _ _ (by omega)).trans hG.2.1, (f _ _ (by omega)).trans hG.2.2⟩
  · by_cases e : z = n
    · subst e
      obtain ⟨e1, e2, e3⟩ := hx ρ hT
      refine ⟨?_, ?_, ?_⟩
      · rw [hυ, up2_nq _ (by omega), up2_nq _ (by omega), up2_hit]; exact e1
      · rw [hυ, up2_nq _ (by omega), up2_hit]; exact e2
      · rw [hυ, up2_hit]; exact e3
    · rw [f2 290 z (by omega) e, f2 291 z (by omega) e, f2 292 z (by omega) e]
      exact h4 z (by omega) ρ hT hcan
theorem u_isHiring (X : AX) (z : Int) (σ : AH)  : TT X 130 (0, [(2, 289), (0, z)], [], σ) (fun r σ' => r = some (0, if z < 1024 ∧ aAnd z (aXor (σ 289 4) (-1)) = 0 then 1 else 0) ∧ σ' = σ) := by
  refine TT.steps (cd := cd130) 3 (c' := ((if decide (1024 ≤ z) = true then 12 else 3), [(2, 289), (0, z)], [], σ)) rfl rfl ?_
  refine TT.br (p := 1024 ≤ z) (fun h1 => ?_) (fun h1 => ?_)
  · refine TT.steps (cd := cd130) 1 (c' := (13, [(2, 289), (0, z)], [(0, 0)], σ)) rfl rfl ?_
    exact TT.ret (cd := cd130) rfl rfl rfl rfl (⟨by first | rw [if_pos ⟨by omega, by omega⟩] | rw [if_neg (by omega)], rfl⟩)
  · refine TT.steps (cd := cd130) 7 (c' := ((if decide (¬ (aAnd z (aXor (σ 289 4) (-1))) = 0) = true then 12 else 10), [(2, 289), (0, z)], [], σ)) rfl rfl ?_
    refine TT.br (p := ¬ (aAnd z (aXor (σ 289 4) (-1))) = 0) (fun h2 => ?_) (fun h2 => ?_)
    · refine TT.steps (cd := cd130) 1 (c' := (13, [(2, 289), (0, z)], [(0, 0)], σ)) rfl rfl ?_
      exact TT.ret (cd := cd130) rfl rfl rfl rfl (⟨by first | rw [if_pos ⟨by omega, by omega⟩] | rw [if_neg (by omega)], rfl⟩)
    · refine TT.steps (cd := cd130) 2 (c' := (13, [(2, 289), (0, z)], [(0, 1)], σ)) rfl rfl ?_
      exact TT.ret (cd := cd130) rfl rfl rfl rfl (⟨by first | rw [if_pos ⟨by omega, by omega⟩] | rw [if_neg (by omega)], rfl⟩)
theorem vl_learn_8 (X : AX) (hl : 8 = 8 ∨ 8 = 170) {σ ρ : AH} {b np nt ns : Nat} {L : Nat → Nat} {C : Nat → Nat → Nat} (hT : TI σ ρ 8 b np nt ns L C) : ∀ (d n : Nat), n + d = (bs (pPr ρ b) np) + 1 → ∀ τ : AH, LHp σ τ 8 b np nt ns L C n → TT X 129 (17, [(2, 289), (2, 8), (2, 36), (2, 198), (0, ((n : Nat) : Int))], [], τ) (fun r υ => r = none ∧ LHp σ υ 8 b np nt ns L C ((bs (pPr ρ b) np) + 1)) := by
  have c1 := hT.1.2.2.1.1
  have c2 := hT.1.2.2.1.2.1
  have hlt := bs_le10 (pPr ρ b) c1
  have hlt2 := bs_lt (pPr ρ b) np
  intro d
  induction d with
  | zero =>
    intro n hn τ hP
    have hnn : n = (bs (pPr ρ b) np) + 1 := by omega
    subst hnn
    have h94 := hP.2.1.2 ρ hT
    refine TT.steps (cd := cd129) 3 (c' := (20, [(2, 289), (2, 8), (2, 36), (2, 198), (0, (((bs (pPr ρ b) np) + 1 : Nat) : Int))], [(0, (τ 289 4)), (0, (((bs (pPr ρ b) np) + 1 : Nat) : Int))], τ)) rfl rfl ?_
    refine TT.top0 (z := (((bs (pPr ρ b) np) : Nat) : Int)) h94 ?_
    refine TT.steps (cd := cd129) 1 (c' := ((if decide ((((bs (pPr ρ b) np) : Nat) : Int) < (((bs (pPr ρ b) np) + 1 : Nat) : Int)) = true then 52 else 21), [(2, 289), (2, 8), (2, 36), (2, 198), (0, (((bs (pPr ρ b) np) + 1 : Nat) : Int))], [], τ)) rfl rfl ?_
    refine TT.br (p := (((bs (pPr ρ b) np) : Nat) : Int) < (((bs (pPr ρ b) np) + 1 : Nat) : Int)) (fun h1 => ?_) (fun h1 => absurd (show (((bs (pPr ρ b) np) : Nat) : Int) < (((bs (pPr ρ b) np) + 1 : Nat) : Int) by omega) h1)
    exact TT.ret (cd := cd129) rfl rfl rfl rfl (⟨rfl, hP⟩)
  | succ d ih =>
    intro n hn τ hP
    have h94 := hP.2.1.2 ρ hT
    by_cases hcan : mCanC ρ b np (n : Int)
    · refine TT.steps (cd := cd129) 3 (c' := (20, [(2, 289), (2, 8), (2, 36), (2, 198), (0, ((n : Nat) : Int))], [(0, (τ 289 4)), (0, ((n : Nat) : Int))], τ)) rfl rfl ?_
      refine TT.top0 (z := (((bs (pPr ρ b) np) : Nat) : Int)) h94 ?_
      refine TT.steps (cd := cd129) 1 (c' := ((if decide ((((bs (pPr ρ b) np) : Nat) : Int) < ((n : Nat) : Int)) = true then 52 else 21), [(2, 289), (2, 8), (2, 36), (2, 198), (0, ((n : Nat) : Int))], [], τ)) rfl rfl ?_
      refine TT.br (p := (((bs (pPr ρ b) np) : Nat) : Int) < ((n : Nat) : Int)) (fun h1 => absurd h1 (show ¬ ((((bs (pPr ρ b) np) : Nat) : Int) < ((n : Nat) : Int)) by omega)) (fun h1 => ?_)
      refine TT.steps (cd := cd129) 2 (c' := (23, [(2, 289), (2, 8), (2, 36), (2, 198), (0, ((n : Nat) : Int))], [(0, ((n : Nat) : Int)), (2, 289)], τ)) rfl rfl ?_
      refine TT.call (cd := cd129) rfl rfl rfl (by decide) rfl (u_isHiring X ((n : Nat) : Int) τ) (fun r2 σ2 hq => ?_)
      rw [hq.1, hq.2, h94, if_pos ⟨by omega, (can_iff hT.1 (by omega)).mpr hcan⟩]
      refine TT.steps (cd := cd129) 6 (c' := (30, [(2, 289), (2, 8), (2, 36), (2, 198), (0, ((n : Nat) : Int))], [(0, 9999), (0, 0), (0, 0), (0, ((n : Nat) : Int)), (2, 198)], τ)) rfl rfl ?_
      refine TT.call (cd := cd129) rfl rfl rfl (by decide) rfl (TT.all (P := fun ρ' => TI σ ρ' 8 b np nt ns L C) ρ hT (fun ρ' h' => go_h X hl hP.2.2.1 h' hP.1 (z := n) (by omega))) (fun r3 σ3 hq => ?_)
      obtain ⟨hr1, hG, hDD0⟩ := id (hq ρ hT)
      rw [hr1]
      have hDD := fun ρ' h' => (hq ρ' h').2.2
      have hPR2 : PR σ3 8 36 np nt L := PR_mv hl (Or.inl rfl) c2 hP.2.2.1 (fun K j hK => hG.1 K j (by omega)) hG.2
      have hF2 : ∀ K j, (K < 198 ∨ 254 < K) → ¬ (289 ≤ K ∧ K ≤ 292) → σ3 K j = σ K j := fun K j h1 h2 => (hG.1 K j (by omega)).trans (hP.1 K j h1 h2)
      clear hq
      refine TT.steps (cd := cd129) 4 (c' := (35, [(2, 289), (2, 8), (2, 36), (2, 198), (0, ((n : Nat) : Int))], [(2, 198), (0, ((n : Nat) : Int)), (2, 290)], σ3)) rfl rfl ?_
      refine TT.call (cd := cd129) rfl rfl rfl (by decide) rfl (TT.all (P := fun ρ' => TI σ ρ' 8 b np nt ns L C) ρ hT (fun ρ' h' => v_good X hl (hDD ρ' h') (hR_T hl h' hF2 n).2.2.2.2 hPR2 (hR_T hl h' hF2 n).1 (hR_T hl h' hF2 n).2.1)) (fun r4 σ4 hq => ?_)
      have hx1 : ∀ ρ', TI σ ρ' 8 b np nt ns L C → ((bs (gdS (mDW ρ b np nt L ((n : Nat) : Int)) 1) np : Nat) : Int) = ((bs (gdS (mDW ρ' b np nt L ((n : Nat) : Int)) 1) np : Nat) : Int) := fun ρ' h' => by have e1 := (hq ρ hT).1; have e2 := (hq ρ' h').1; rw [e1] at e2; exact congrArg Prod.snd (Option.some.inj e2)
      rw [(hq ρ hT).1, (hq ρ hT).2]
      clear hq
      show TT X 129 (36, _, (0, ((bs (gdS (mDW ρ b np nt L ((n : Nat) : Int)) 1) np : Nat) : Int)) :: _, _) _
      refine TT.astN (cd := cd129) (290) (n) rfl rfl rfl rfl (show n < 1024 by omega) ?_
      refine TT.steps (cd := cd129) 5 (c' := (42, [(2, 289), (2, 8), (2, 36), (2, 198), (0, ((n : Nat) : Int))], [(0, ((n : Nat) : Int)), (2, 8), (0, ((n : Nat) : Int)), (2, 291)], (up2 σ3 290 n ((bs (gdS (mDW ρ b np nt L ((n : Nat) : Int)) 1) np : Nat) : Int)))) rfl rfl ?_
      refine TT.call (cd := cd129) rfl rfl rfl (by decide) rfl (TT.all (P := fun ρ' => TI σ ρ' 8 b np nt ns L C) ρ hT (fun ρ' h' => v_coin X hl (σ := (up2 σ3 290 n ((bs (gdS (mDW ρ b np nt L ((n : Nat) : Int)) 1) np : Nat) : Int))) (LT_mv hl h'.1 (fun K j hK => (up2_nq _ (by omega)).trans (hF2 K j (by omega) (by omega))) (fun _ _ _ => rfl) rfl) ((n : Nat) : Int))) (fun r5 σ5 hq => ?_)
      have hx2 : ∀ ρ', TI σ ρ' 8 b np nt ns L C → mCoin ρ b np ((n : Nat) : Int) = mCoin ρ' b np ((n : Nat) : Int) := fun ρ' h' => by have e1 := (hq ρ hT).1; have e2 := (hq ρ' h').1; rw [e1] at e2; exact congrArg Prod.snd (Option.some.inj e2)
      rw [(hq ρ hT).1, (hq ρ hT).2]
      clear hq
      refine TT.astN (cd := cd129) (291) (n) rfl rfl rfl rfl (show n < 1024 by omega) ?_
      refine TT.steps (cd := cd129) 4 (c' := (48, [(2, 289), (2, 8), (2, 36), (2, 198), (0, ((n : Nat) : Int))], [(2, 198), (0, ((n : Nat) : Int)), (2, 292)], (up2 (up2 σ3 290 n ((bs (gdS (mDW ρ b np nt L ((n : Nat) : Int)) 1) np : Nat) : Int)) 291 n (mCoin ρ b np ((n : Nat) : Int))))) rfl rfl ?_
      refine TT.call (cd := cd129) rfl rfl rfl (by decide) rfl (u_servesAll X (up2 (up2 σ3 290 n ((bs (gdS (mDW ρ b np nt L ((n : Nat) : Int)) 1) np : Nat) : Int)) 291 n (mCoin ρ b np ((n : Nat) : Int)))) (fun r6 σ6 hq => ?_)
      rw [hq.1, hq.2]
      clear hq
      obtain ⟨z3, hz3⟩ : ∃ z3 : Int, (if (up2 (up2 σ3 290 n ((bs (gdS (mDW ρ b np nt L ((n : Nat) : Int)) 1) np : Nat) : Int)) 291 n (mCoin ρ b np ((n : Nat) : Int))) 198 16 = (up2 (up2 σ3 290 n ((bs (gdS (mDW ρ b np nt L ((n : Nat) : Int)) 1) np : Nat) : Int)) 291 n (mCoin ρ b np ((n : Nat) : Int))) 198 17 then (1 : Int) else 0) = z3 := ⟨_, rfl⟩
      rw [hz3]
      have h31 : z3 = 0 ∨ z3 = 1 := by rw [← hz3]; split <;> simp
      have hx3 : ∀ ρ', TI σ ρ' 8 b np nt ns L C → z3 = (if mEachC (mDW ρ' b np nt L ((n : Nat) : Int)) b nt ns L then 1 else 0) := fun ρ' h' => by rw [← hz3, up2_nq _ (by omega), up2_nq _ (by omega), up2_nq _ (by omega), up2_nq _ (by omega)]; have e := serves_iff (hR_T hl h' hF2 n).1 (hDD ρ' h') (hR_T hl h' hF2 n).2.2.2.2; by_cases g : mEachC (mDW ρ' b np nt L ((n : Nat) : Int)) b nt ns L <;> simp only [e.trans (show _ ↔ mEachC (mDW ρ' b np nt L ((n : Nat) : Int)) b nt ns L from Iff.rfl), g, if_true, if_false]
      refine TT.zastN (cd := cd129) (292) (n) rfl rfl rfl rfl (show n < 1024 by omega) h31 ?_
      refine TT.inc (cd := cd129) ((n + 1 : Nat) : Int) rfl rfl rfl rfl (fun h => absurd h.2 (show ¬ (2 = 1) by decide)) (aAdd_n (a := n) (b := 1) (by omega)) (ls' := [(2, 289), (2, 8), (2, 36), (2, 198), (0, ((n + 1 : Nat) : Int))]) rfl ?_
      refine TT.steps (cd := cd129) 1 (c' := (17, [(2, 289), (2, 8), (2, 36), (2, 198), (0, ((n + 1 : Nat) : Int))], [], (up2 (up2 (up2 σ3 290 n ((bs (gdS (mDW ρ b np nt L ((n : Nat) : Int)) 1) np : Nat) : Int)) 291 n (mCoin ρ b np ((n : Nat) : Int))) 292 n z3))) rfl rfl ?_
      exact ih (n + 1) (by omega) _ (LH_take hl c2 hP hG rfl (fun ρ' h' => ⟨hx1 ρ' h', hx2 ρ' h', hx3 ρ' h'⟩))
    · refine TT.steps (cd := cd129) 3 (c' := (20, [(2, 289), (2, 8), (2, 36), (2, 198), (0, ((n : Nat) : Int))], [(0, (τ 289 4)), (0, ((n : Nat) : Int))], τ)) rfl rfl ?_
      refine TT.top0 (z := (((bs (pPr ρ b) np) : Nat) : Int)) h94 ?_
      refine TT.steps (cd := cd129) 1 (c' := ((if decide ((((bs (pPr ρ b) np) : Nat) : Int) < ((n : Nat) : Int)) = true then 52 else 21), [(2, 289), (2, 8), (2, 36), (2, 198), (0, ((n : Nat) : Int))], [], τ)) rfl rfl ?_
      refine TT.br (p := (((bs (pPr ρ b) np) : Nat) : Int) < ((n : Nat) : Int)) (fun h1 => absurd h1 (show ¬ ((((bs (pPr ρ b) np) : Nat) : Int) < ((n : Nat) : Int)) by omega)) (fun h1 => ?_)
      refine TT.steps (cd := cd129) 2 (c' := (23, [(2, 289), (2, 8), (2, 36), (2, 198), (0, ((n : Nat) : Int))], [(0, ((n : Nat) : Int)), (2, 289)], τ)) rfl rfl ?_
      refine TT.call (cd := cd129) rfl rfl rfl (by decide) rfl (u_isHiring X ((n : Nat) : Int) τ) (fun r2 σ2 hq => ?_)
      rw [hq.1, hq.2, h94, if_neg (fun hh => hcan ((can_iff hT.1 (by omega)).mp hh.2))]
      refine TT.steps (cd := cd129) 1 (c' := (50, [(2, 289), (2, 8), (2, 36), (2, 198), (0, ((n : Nat) : Int))], [], τ)) rfl rfl ?_
      refine TT.inc (cd := cd129) ((n + 1 : Nat) : Int) rfl rfl rfl rfl (fun h => absurd h.2 (show ¬ (2 = 1) by decide)) (aAdd_n (a := n) (b := 1) (by omega)) (ls' := [(2, 289), (2, 8), (2, 36), (2, 198), (0, ((n + 1 : Nat) : Int))]) rfl ?_
      refine TT.steps (cd := cd129) 1 (c' := (17, [(2, 289), (2, 8), (2, 36), (2, 198), (0, ((n + 1 : Nat) : Int))], [], τ)) rfl rfl ?_
      exact ih (n + 1) (by omega) _ (LH_skip hP hT hcan (by omega))
theorem vl_learn_170 (X : AX) (hl : 170 = 8 ∨ 170 = 170) {σ ρ : AH} {b np nt ns : Nat} {L : Nat → Nat} {C : Nat → Nat → Nat} (hT : TI σ ρ 170 b np nt ns L C) : ∀ (d n : Nat), n + d = (bs (pPr ρ b) np) + 1 → ∀ τ : AH, LHp σ τ 170 b np nt ns L C n → TT X 129 (17, [(2, 289), (2, 170), (2, 36), (2, 198), (0, ((n : Nat) : Int))], [], τ) (fun r υ => r = none ∧ LHp σ υ 170 b np nt ns L C ((bs (pPr ρ b) np) + 1)) := by
  have c1 := hT.1.2.2.1.1
  have c2 := hT.1.2.2.1.2.1
  have hlt := bs_le10 (pPr ρ b) c1
  have hlt2 := bs_lt (pPr ρ b) np
  intro d
  induction d with
  | zero =>
    intro n hn τ hP
    have hnn : n = (bs (pPr ρ b) np) + 1 := by omega
    subst hnn
    have h94 := hP.2.1.2 ρ hT
    refine TT.steps (cd := cd129) 3 (c' := (20, [(2, 289), (2, 170), (2, 36), (2, 198), (0, (((bs (pPr ρ b) np) + 1 : Nat) : Int))], [(0, (τ 289 4)), (0, (((bs (pPr ρ b) np) + 1 : Nat) : Int))], τ)) rfl rfl ?_
    refine TT.top0 (z := (((bs (pPr ρ b) np) : Nat) : Int)) h94 ?_
    refine TT.steps (cd := cd129) 1 (c' := ((if decide ((((bs (pPr ρ b) np) : Nat) : Int) < (((bs (pPr ρ b) np) + 1 : Nat) : Int)) = true then 52 else 21), [(2, 289), (2, 170), (2, 36), (2, 198), (0, (((bs (pPr ρ b) np) + 1 : Nat) : Int))], [], τ)) rfl rfl ?_
    refine TT.br (p := (((bs (pPr ρ b) np) : Nat) : Int) < (((bs (pPr ρ b) np) + 1 : Nat) : Int)) (fun h1 => ?_) (fun h1 => absurd (show (((bs (pPr ρ b) np) : Nat) : Int) < (((bs (pPr ρ b) np) + 1 : Nat) : Int) by omega) h1)
    exact TT.ret (cd := cd129) rfl rfl rfl rfl (⟨rfl, hP⟩)
  | succ d ih =>
    intro n hn τ hP
    have h94 := hP.2.1.2 ρ hT
    by_cases hcan : mCanC ρ b np (n : Int)
    · refine TT.steps (cd := cd129) 3 (c' := (20, [(2, 289), (2, 170), (2, 36), (2, 198), (0, ((n : Nat) : Int))], [(0, (τ 289 4)), (0, ((n : Nat) : Int))], τ)) rfl rfl ?_
      refine TT.top0 (z := (((bs (pPr ρ b) np) : Nat) : Int)) h94 ?_
      refine TT.steps (cd := cd129) 1 (c' := ((if decide ((((bs (pPr ρ b) np) : Nat) : Int) < ((n : Nat) : Int)) = true then 52 else 21), [(2, 289), (2, 170), (2, 36), (2, 198), (0, ((n : Nat) : Int))], [], τ)) rfl rfl ?_
      refine TT.br (p := (((bs (pPr ρ b) np) : Nat) : Int) < ((n : Nat) : Int)) (fun h1 => absurd h1 (show ¬ ((((bs (pPr ρ b) np) : Nat) : Int) < ((n : Nat) : Int)) by omega)) (fun h1 => ?_)
      refine TT.steps (cd := cd129) 2 (c' := (23, [(2, 289), (2, 170), (2, 36), (2, 198), (0, ((n : Nat) : Int))], [(0, ((n : Nat) : Int)), (2, 289)], τ)) rfl rfl ?_
      refine TT.call (cd := cd129) rfl rfl rfl (by decide) rfl (u_isHiring X ((n : Nat) : Int) τ) (fun r2 σ2 hq => ?_)
      rw [hq.1, hq.2, h94, if_pos ⟨by omega, (can_iff hT.1 (by omega)).mpr hcan⟩]
      refine TT.steps (cd := cd129) 6 (c' := (30, [(2, 289), (2, 170), (2, 36), (2, 198), (0, ((n : Nat) : Int))], [(0, 9999), (0, 0), (0, 0), (0, ((n : Nat) : Int)), (2, 198)], τ)) rfl rfl ?_
      refine TT.call (cd := cd129) rfl rfl rfl (by decide) rfl (TT.all (P := fun ρ' => TI σ ρ' 170 b np nt ns L C) ρ hT (fun ρ' h' => go_h X hl hP.2.2.1 h' hP.1 (z := n) (by omega))) (fun r3 σ3 hq => ?_)
      obtain ⟨hr1, hG, hDD0⟩ := id (hq ρ hT)
      rw [hr1]
      have hDD := fun ρ' h' => (hq ρ' h').2.2
      have hPR2 : PR σ3 170 36 np nt L := PR_mv hl (Or.inl rfl) c2 hP.2.2.1 (fun K j hK => hG.1 K j (by omega)) hG.2
      have hF2 : ∀ K j, (K < 198 ∨ 254 < K) → ¬ (289 ≤ K ∧ K ≤ 292) → σ3 K j = σ K j := fun K j h1 h2 => (hG.1 K j (by omega)).trans (hP.1 K j h1 h2)
      clear hq
      refine TT.steps (cd := cd129) 4 (c' := (35, [(2, 289), (2, 170), (2, 36), (2, 198), (0, ((n : Nat) : Int))], [(2, 198), (0, ((n : Nat) : Int)), (2, 290)], σ3)) rfl rfl ?_
      refine TT.call (cd := cd129) rfl rfl rfl (by decide) rfl (TT.all (P := fun ρ' => TI σ ρ' 170 b np nt ns L C) ρ hT (fun ρ' h' => v_good X hl (hDD ρ' h') (hR_T hl h' hF2 n).2.2.2.2 hPR2 (hR_T hl h' hF2 n).1 (hR_T hl h' hF2 n).2.1)) (fun r4 σ4 hq => ?_)
      have hx1 : ∀ ρ', TI σ ρ' 170 b np nt ns L C → ((bs (gdS (mDW ρ b np nt L ((n : Nat) : Int)) 1) np : Nat) : Int) = ((bs (gdS (mDW ρ' b np nt L ((n : Nat) : Int)) 1) np : Nat) : Int) := fun ρ' h' => by have e1 := (hq ρ hT).1; have e2 := (hq ρ' h').1; rw [e1] at e2; exact congrArg Prod.snd (Option.some.inj e2)
      rw [(hq ρ hT).1, (hq ρ hT).2]
      clear hq
      show TT X 129 (36, _, (0, ((bs (gdS (mDW ρ b np nt L ((n : Nat) : Int)) 1) np : Nat) : Int)) :: _, _) _
      refine TT.astN (cd := cd129) (290) (n) rfl rfl rfl rfl (show n < 1024 by omega) ?_
      refine TT.steps (cd := cd129) 5 (c' := (42, [(2, 289), (2, 170), (2, 36), (2, 198), (0, ((n : Nat) : Int))], [(0, ((n : Nat) : Int)), (2, 170), (0, ((n : Nat) : Int)), (2, 291)], (up2 σ3 290 n ((bs (gdS (mDW ρ b np nt L ((n : Nat) : Int)) 1) np : Nat) : Int)))) rfl rfl ?_
      refine TT.call (cd := cd129) rfl rfl rfl (by decide) rfl (TT.all (P := fun ρ' => TI σ ρ' 170 b np nt ns L C) ρ hT (fun ρ' h' => v_coin X hl (σ := (up2 σ3 290 n ((bs (gdS (mDW ρ b np nt L ((n : Nat) : Int)) 1) np : Nat) : Int))) (LT_mv hl h'.1 (fun K j hK => (up2_nq _ (by omega)).trans (hF2 K j (by omega) (by omega))) (fun _ _ _ => rfl) rfl) ((n : Nat) : Int))) (fun r5 σ5 hq => ?_)
      have hx2 : ∀ ρ', TI σ ρ' 170 b np nt ns L C → mCoin ρ b np ((n : Nat) : Int) = mCoin ρ' b np ((n : Nat) : Int) := fun ρ' h' => by have e1 := (hq ρ hT).1; have e2 := (hq ρ' h').1; rw [e1] at e2; exact congrArg Prod.snd (Option.some.inj e2)
      rw [(hq ρ hT).1, (hq ρ hT).2]
      clear hq
      refine TT.astN (cd := cd129) (291) (n) rfl rfl rfl rfl (show n < 1024 by omega) ?_
      refine TT.steps (cd := cd129) 4 (c' := (48, [(2, 289), (2, 170), (2, 36), (2, 198), (0, ((n : Nat) : Int))], [(2, 198), (0, ((n : Nat) : Int)), (2, 292)], (up2 (up2 σ3 290 n ((bs (gdS (mDW ρ b np nt L ((n : Nat) : Int)) 1) np : Nat) : Int)) 291 n (mCoin ρ b np ((n : Nat) : Int))))) rfl rfl ?_
      refine TT.call (cd := cd129) rfl rfl rfl (by decide) rfl (u_servesAll X (up2 (up2 σ3 290 n ((bs (gdS (mDW ρ b np nt L ((n : Nat) : Int)) 1) np : Nat) : Int)) 291 n (mCoin ρ b np ((n : Nat) : Int)))) (fun r6 σ6 hq => ?_)
      rw [hq.1, hq.2]
      clear hq
      obtain ⟨z3, hz3⟩ : ∃ z3 : Int, (if (up2 (up2 σ3 290 n ((bs (gdS (mDW ρ b np nt L ((n : Nat) : Int)) 1) np : Nat) : Int)) 291 n (mCoin ρ b np ((n : Nat) : Int))) 198 16 = (up2 (up2 σ3 290 n ((bs (gdS (mDW ρ b np nt L ((n : Nat) : Int)) 1) np : Nat) : Int)) 291 n (mCoin ρ b np ((n : Nat) : Int))) 198 17 then (1 : Int) else 0) = z3 := ⟨_, rfl⟩
      rw [hz3]
      have h31 : z3 = 0 ∨ z3 = 1 := by rw [← hz3]; split <;> simp
      have hx3 : ∀ ρ', TI σ ρ' 170 b np nt ns L C → z3 = (if mEachC (mDW ρ' b np nt L ((n : Nat) : Int)) b nt ns L then 1 else 0) := fun ρ' h' => by rw [← hz3, up2_nq _ (by omega), up2_nq _ (by omega), up2_nq _ (by omega), up2_nq _ (by omega)]; have e := serves_iff (hR_T hl h' hF2 n).1 (hDD ρ' h') (hR_T hl h' hF2 n).2.2.2.2; by_cases g : mEachC (mDW ρ' b np nt L ((n : Nat) : Int)) b nt ns L <;> simp only [e.trans (show _ ↔ mEachC (mDW ρ' b np nt L ((n : Nat) : Int)) b nt ns L from Iff.rfl), g, if_true, if_false]
      refine TT.zastN (cd := cd129) (292) (n) rfl rfl rfl rfl (show n < 1024 by omega) h31 ?_
      refine TT.inc (cd := cd129) ((n + 1 : Nat) : Int) rfl rfl rfl rfl (fun h => absurd h.2 (show ¬ (2 = 1) by decide)) (aAdd_n (a := n) (b := 1) (by omega)) (ls' := [(2, 289), (2, 170), (2, 36), (2, 198), (0, ((n + 1 : Nat) : Int))]) rfl ?_
      refine TT.steps (cd := cd129) 1 (c' := (17, [(2, 289), (2, 170), (2, 36), (2, 198), (0, ((n + 1 : Nat) : Int))], [], (up2 (up2 (up2 σ3 290 n ((bs (gdS (mDW ρ b np nt L ((n : Nat) : Int)) 1) np : Nat) : Int)) 291 n (mCoin ρ b np ((n : Nat) : Int))) 292 n z3))) rfl rfl ?_
      exact ih (n + 1) (by omega) _ (LH_take hl c2 hP hG rfl (fun ρ' h' => ⟨hx1 ρ' h', hx2 ρ' h', hx3 ρ' h'⟩))
    · refine TT.steps (cd := cd129) 3 (c' := (20, [(2, 289), (2, 170), (2, 36), (2, 198), (0, ((n : Nat) : Int))], [(0, (τ 289 4)), (0, ((n : Nat) : Int))], τ)) rfl rfl ?_
      refine TT.top0 (z := (((bs (pPr ρ b) np) : Nat) : Int)) h94 ?_
      refine TT.steps (cd := cd129) 1 (c' := ((if decide ((((bs (pPr ρ b) np) : Nat) : Int) < ((n : Nat) : Int)) = true then 52 else 21), [(2, 289), (2, 170), (2, 36), (2, 198), (0, ((n : Nat) : Int))], [], τ)) rfl rfl ?_
      refine TT.br (p := (((bs (pPr ρ b) np) : Nat) : Int) < ((n : Nat) : Int)) (fun h1 => absurd h1 (show ¬ ((((bs (pPr ρ b) np) : Nat) : Int) < ((n : Nat) : Int)) by omega)) (fun h1 => ?_)
      refine TT.steps (cd := cd129) 2 (c' := (23, [(2, 289), (2, 170), (2, 36), (2, 198), (0, ((n : Nat) : Int))], [(0, ((n : Nat) : Int)), (2, 289)], τ)) rfl rfl ?_
      refine TT.call (cd := cd129) rfl rfl rfl (by decide) rfl (u_isHiring X ((n : Nat) : Int) τ) (fun r2 σ2 hq => ?_)
      rw [hq.1, hq.2, h94, if_neg (fun hh => hcan ((can_iff hT.1 (by omega)).mp hh.2))]
      refine TT.steps (cd := cd129) 1 (c' := (50, [(2, 289), (2, 170), (2, 36), (2, 198), (0, ((n : Nat) : Int))], [], τ)) rfl rfl ?_
      refine TT.inc (cd := cd129) ((n + 1 : Nat) : Int) rfl rfl rfl rfl (fun h => absurd h.2 (show ¬ (2 = 1) by decide)) (aAdd_n (a := n) (b := 1) (by omega)) (ls' := [(2, 289), (2, 170), (2, 36), (2, 198), (0, ((n + 1 : Nat) : Int))]) rfl ?_
      refine TT.steps (cd := cd129) 1 (c' := (17, [(2, 289), (2, 170), (2, 36), (2, 198), (0, ((n + 1 : Nat) : Int))], [], τ)) rfl rfl ?_
      exact ih (n + 1) (by omega) _ (LH_skip hP hT hcan (by omega))
