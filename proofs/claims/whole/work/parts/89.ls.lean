/-! The reference's searches over hirings beside the class's. -/
theorem TI_rs {σ ρ ρi : AH} {l b np nt ns : Nat} {L : Nat → Nat} {C : Nat → Nat → Nat} (hl : l = 8 ∨ l = 170) (h : TI σ ρ l b np nt ns L C) (hR : RS ρ ρi) : TI σ ρi l b np nt ns L C := ⟨LT_q hl h.1 (QS.refl σ) hR, PT_mv h.2.1 h.1.2.2.1.1 (fun _ _ _ => rfl) (hR.2.2.1 0 (by decide)) (fun K p hK hp => hR.2.2.2 K _ (by omega) (by omega)), FL_q h.2.2 hR⟩
theorem mCan_rs {ρ ρi : AH} (hR : RS ρ ρi) (b np : Nat) (z : Int) : mCanC ρi b np z ↔ mCanC ρ b np z := by
  unfold mCanC
  simp only [hR.1 314 _ (by omega)]
theorem mCoin_rs {ρ ρi : AH} (hR : RS ρ ρi) (b np : Nat) (z : Int) : mCoin ρi b np z = mCoin ρ b np z := by
  unfold mCoin
  simp only [hR.1 314 _ (by omega)]
theorem mDW_RS (ρ : AH) {b np nt : Nat} {L : Nat → Nat} (hn : np ≤ 10) (z : Nat) : RS ρ (mDW ρ b np nt L (z : Int)) := (hR_RS ρ (z := z) hn).trans (RS_day _ _ _ _ _ _)
theorem coin_b {σ ρ : AH} {l b np nt ns : Nat} {L : Nat → Nat} {C : Nat → Nat → Nat} (hL : LT σ ρ l b np nt ns L C) {z : Nat} (hz : z < 2147483648) : 0 ≤ mCoin ρ b np (z : Int) ∧ mCoin ρ b np (z : Int) ≤ 990 := by
  have hn := hL.2.2.1.1
  have hPr := hL.2.2.2.2.2.2.1
  have key : ∀ n, n ≤ np → 0 ≤ sumA (fun p => aMul (aAnd (aShr (z : Int) ((p : Nat) : Int)) 1) (ρ 314 (10 * b + p))) n ∧ sumA (fun p => aMul (aAnd (aShr (z : Int) ((p : Nat) : Int)) 1) (ρ 314 (10 * b + p))) n ≤ 99 * (n : Int) := by
    intro n
    induction n with
    | zero => intro _; exact ⟨Int.le_refl _, by simp [sumA]⟩
    | succ n ih =>
      intro hn2
      obtain ⟨i1, i2⟩ := ih (by omega)
      obtain ⟨-, p1, p2⟩ := hPr n (by omega)
      rw [sumA, aBit_n hz (by omega)]
      have e : ∃ x : Int, aMul (if z.testBit n = true then 1 else 0) (ρ 314 (10 * b + n)) = x ∧ 0 ≤ x ∧ x ≤ 99 := by
        refine ⟨_, rfl, ?_⟩
        cases z.testBit n with
        | true => simp only [if_true]; rw [aMul_of (by omega) (by omega)]; omega
        | false => simp only [Bool.false_eq_true, if_false]; rw [aMul_of (by omega) (by omega)]; omega
      obtain ⟨x, e1, e2, e3⟩ := e
      rw [e1, aAdd_of (by omega) (by omega)]
      omega
  obtain ⟨k1, k2⟩ := key np (Nat.le_refl _)
  exact ⟨k1, by unfold mCoin; omega⟩
theorem gd_iff {ρ : AH} {b np nt : Nat} {L : Nat → Nat} (hF : FL ρ) (hn : np ≤ 10) {z p : Nat} (hz : z < 2147483648) (hp : p < np) : gdS (mDW ρ b np nt L (z : Int)) 1 p = true ↔ ¬ aAnd (aShr ((z : Nat) : Int) ((p : Nat) : Int)) 1 = 1 ∧ mDW ρ b np nt L (z : Int) 334 p = mDW ρ b np nt L (z : Int) 321 (10 * 1 + p) := by
  have e1 : mDW ρ b np nt L (z : Int) 295 44 = -1 := ((mDW_RS ρ (b := b) (nt := nt) (L := L) hn z).2.1 44 (by decide)).trans hF.1
  have e2 : mDW ρ b np nt L (z : Int) 322 (10 * 1 + p) = aAnd (aShr ((z : Nat) : Int) ((p : Nat) : Int)) 1 := by
    unfold mDW
    rw [mDay_fr _ _ _ _ _ _ _ _ (by omega), show 10 * 1 + p = 10 + p by omega]
    exact (mHW_p _ _ _).1 p hp
  unfold gdS
  rw [decide_eq_true_iff, e1, e2]
  constructor
  · rintro ⟨-, h2, h3⟩; exact ⟨h2, h3⟩
  · rintro ⟨h2, h3⟩; exact ⟨by omega, h2, h3⟩
/-- what is known of a set, wherever the search is -/
theorem hk_at {σ ρ ρi : AH} {l b np nt ns : Nat} {L : Nat → Nat} {C : Nat → Nat → Nat} (hl : l = 8 ∨ l = 170) (hK : HK σ l b np nt ns L C) (hT : TI σ ρ l b np nt ns L C) (hR : RS ρ ρi) {n : Nat} (hn : n < 2 ^ np) (hc : mCanC ρi b np ((n : Nat) : Int)) :
    σ 290 n = ((bs (gdS (mDW ρi b np nt L ((n : Nat) : Int)) 1) np : Nat) : Int) ∧ mCoin ρi b np ((n : Nat) : Int) = σ 291 n ∧ mCoin (mDW ρi b np nt L ((n : Nat) : Int)) b np ((n : Nat) : Int) = σ 291 n ∧ (0 ≤ σ 291 n ∧ σ 291 n ≤ 990) ∧ σ 292 n = (if mEachC (mDW ρi b np nt L ((n : Nat) : Int)) b nt ns L then 1 else 0) := by
  have hTi := TI_rs hl hT hR
  have hn10 := hT.1.2.2.1.1
  obtain ⟨-, h2⟩ := hK ρi hTi.1 hTi.2.1 hTi.2.2
  obtain ⟨e1, e2, e3⟩ := h2 n hn hc
  have hb := coin_b hTi.1 (p31 (by omega) hn)
  exact ⟨e1, e2.symm, (mCoin_rs (mDW_RS ρi hn10 n) b np _).trans e2.symm, by rw [e2]; exact hb, e3⟩
theorem need_1 {G : Nat → Bool} {np p : Nat} (hn : np ≤ 10) (hp : p < np) : aAnd ((bs G np : Nat) : Int) (aShl 1 ((p : Nat) : Int)) = aShl 1 ((p : Nat) : Int) ↔ G p = true := by
  rw [bs_shl (n := np) hp (by omega), bs_and _ _ (by omega), bs_inj]
  constructor
  · intro h
    have := h p hp
    simpa using this
  · intro h q hq
    by_cases e : q = p
    · subst e; simp [h]
    · simp [e]
theorem need_2 {G : Nat → Bool} {np p q : Nat} (hn : np ≤ 10) (hp : p < np) (hq : q < np) : aAnd ((bs G np : Nat) : Int) (aOr (aShl 1 ((p : Nat) : Int)) (aShl 1 ((q : Nat) : Int))) = aOr (aShl 1 ((p : Nat) : Int)) (aShl 1 ((q : Nat) : Int)) ↔ G p = true ∧ G q = true := by
  rw [bs_shl (n := np) hp (by omega), bs_shl (n := np) hq (by omega), bs_or _ _ (by omega), bs_and _ _ (by omega), bs_inj]
  constructor
  · intro h
    have h1 := h p hp
    have h2 := h q hq
    simp at h1 h2
    exact ⟨h1, h2⟩
  · rintro ⟨h1, h2⟩ r hr
    by_cases e : r = p
    · subst e; simp [h1]
    · by_cases e2 : r = q
      · subst e2; simp [h2]
      · simp [e, e2]
abbrev Hc (ρ : AH) (b np : Nat) : Nat → Bool := fun z => decide (mCanC ρ b np ((z : Nat) : Int))
theorem ls_main {σ ρ : AH} {l b np nt ns : Nat} {L : Nat → Nat} {C : Nat → Nat → Nat} (hl : l = 8 ∨ l = 170) (hK : HK σ l b np nt ns L C) (hT : TI σ ρ l b np nt ns L C) {p : Nat} (hp : p < np) : ∀ n, n ≤ 2 ^ np → RS ρ (mLs ρ b np nt L p n).2.2 ∧ (mLs ρ b np nt L p n).1 = chF (Hc ρ b np) (σ 290) (σ 291) (aShl 1 ((p : Nat) : Int)) n ∧ (mLs ρ b np nt L p n).2.1 = (if (mLs ρ b np nt L p n).1 = -1 then 1000000 else σ 291 ((mLs ρ b np nt L p n).1).toNat) := by
  have hn10 := hT.1.2.2.1.1
  intro n
  induction n with
  | zero => intro _; exact ⟨RS.refl _, rfl, rfl⟩
  | succ n ih =>
    intro hn
    obtain ⟨i1, i2, i3⟩ := ih (by omega)
    have hcl := chF_lt (Hc ρ b np) (σ 290) (σ 291) (aShl 1 ((p : Nat) : Int)) n
    have hz : n < 2147483648 := p31 (show np ≤ 30 by omega) (by omega)
    rw [mLs, chF, ← i2]
    generalize mLs ρ b np nt L p n = S at i1 i2 i3
    rw [← i2] at hcl
    unfold stLs
    have hcan := mCan_rs i1 b np ((n : Nat) : Int)
    by_cases hc : mCanC S.2.2 b np ((n : Nat) : Int)
    · have hH : Hc ρ b np n = true := decide_eq_true (hcan.mp hc)
      obtain ⟨k1, k2, k3, k4, -⟩ := hk_at hl hK hT i1 (by omega) hc
      have hg := gd_iff (b := b) (nt := nt) (L := L) (FL_q hT.2.2 i1) hn10 hz hp
      have hne : aAnd (σ 290 n) (aShl 1 ((p : Nat) : Int)) = aShl 1 ((p : Nat) : Int) ↔ (¬ aAnd (aShr ((n : Nat) : Int) ((p : Nat) : Int)) 1 = 1 ∧ mDW S.2.2 b np nt L ((n : Nat) : Int) 334 p = mDW S.2.2 b np nt L ((n : Nat) : Int) 321 (10 * 1 + p)) := by rw [k1, need_1 hn10 hp, hg]
      by_cases hb : aAnd (aShr ((n : Nat) : Int) ((p : Nat) : Int)) 1 = 1
      · rw [if_pos hb, if_neg (fun hh => (hne.mp hh.2.1).1 hb)]
        exact ⟨i1, rfl, i3⟩
      · rw [if_neg hb, if_pos hc, k2]
        by_cases hlt : σ 291 n < S.2.1
        · rw [if_pos hlt]
          by_cases hd : mDW S.2.2 b np nt L ((n : Nat) : Int) 334 p = mDW S.2.2 b np nt L ((n : Nat) : Int) 321 (10 * 1 + p)
          · have hx : S.1 = -1 ∨ σ 291 n < σ 291 (S.1).toNat := by
              by_cases g : S.1 = -1
              · exact Or.inl g
              · rw [if_neg g] at i3; right; omega
            rw [if_pos hd, if_pos ⟨hH, hne.mpr ⟨hb, hd⟩, hx⟩]
            refine ⟨i1.trans (mDW_RS _ hn10 n), rfl, ?_⟩
            dsimp only
            rw [k3, if_neg (by omega), Int.toNat_natCast]
          · rw [if_neg hd, if_neg (fun hh => hd (hne.mp hh.2.1).2)]
            exact ⟨i1.trans (mDW_RS _ hn10 n), rfl, i3⟩
        · rw [if_neg hlt, if_neg (fun hh => ?_)]
          · exact ⟨i1, rfl, i3⟩
          · by_cases g : S.1 = -1
            · rw [if_pos g] at i3; omega
            · rw [if_neg g] at i3
              rcases hh.2.2 with h9 | h9
              · exact g h9
              · omega
    · have hH : ¬ Hc ρ b np n = true := fun h => hc (hcan.mpr (of_decide_eq_true h))
      by_cases hb : aAnd (aShr ((n : Nat) : Int) ((p : Nat) : Int)) 1 = 1
      · rw [if_pos hb, if_neg (fun hh => hH hh.1)]; exact ⟨i1, rfl, i3⟩
      · rw [if_neg hb, if_neg hc, if_neg (fun hh => hH hh.1)]; exact ⟨i1, rfl, i3⟩
theorem bo_main {σ ρ : AH} {l b np nt ns : Nat} {L : Nat → Nat} {C : Nat → Nat → Nat} (hl : l = 8 ∨ l = 170) (hK : HK σ l b np nt ns L C) (hT : TI σ ρ l b np nt ns L C) {p q : Nat} (hp : p < np) (hq : q < np) : ∀ n, n ≤ 2 ^ np → RS ρ (mBo ρ b np nt L p q n).2.2 ∧ (mBo ρ b np nt L p q n).1 = chF (Hc ρ b np) (σ 290) (σ 291) (aOr (aShl 1 ((p : Nat) : Int)) (aShl 1 ((q : Nat) : Int))) n ∧ (mBo ρ b np nt L p q n).2.1 = (if (mBo ρ b np nt L p q n).1 = -1 then 1000000 else σ 291 ((mBo ρ b np nt L p q n).1).toNat) := by
  have hn10 := hT.1.2.2.1.1
  intro n
  induction n with
  | zero => intro _; exact ⟨RS.refl _, rfl, rfl⟩
  | succ n ih =>
    intro hn
    obtain ⟨i1, i2, i3⟩ := ih (by omega)
    have hcl := chF_lt (Hc ρ b np) (σ 290) (σ 291) (aOr (aShl 1 ((p : Nat) : Int)) (aShl 1 ((q : Nat) : Int))) n
    have hz : n < 2147483648 := p31 (show np ≤ 30 by omega) (by omega)
    rw [mBo, chF, ← i2]
    generalize mBo ρ b np nt L p q n = S at i1 i2 i3
    rw [← i2] at hcl
    unfold stBo
    have hcan := mCan_rs i1 b np ((n : Nat) : Int)
    by_cases hc : mCanC S.2.2 b np ((n : Nat) : Int)
    · have hH : Hc ρ b np n = true := decide_eq_true (hcan.mp hc)
      obtain ⟨k1, k2, k3, k4, -⟩ := hk_at hl hK hT i1 (by omega) hc
      have hg := gd_iff (b := b) (nt := nt) (L := L) (FL_q hT.2.2 i1) hn10 hz hp
      have hg2 := gd_iff (b := b) (nt := nt) (L := L) (FL_q hT.2.2 i1) hn10 hz hq
      have hne : aAnd (σ 290 n) (aOr (aShl 1 ((p : Nat) : Int)) (aShl 1 ((q : Nat) : Int))) = aOr (aShl 1 ((p : Nat) : Int)) (aShl 1 ((q : Nat) : Int)) ↔ ((¬ aAnd (aShr ((n : Nat) : Int) ((p : Nat) : Int)) 1 = 1 ∧ mDW S.2.2 b np nt L ((n : Nat) : Int) 334 p = mDW S.2.2 b np nt L ((n : Nat) : Int) 321 (10 * 1 + p)) ∧ (¬ aAnd (aShr ((n : Nat) : Int) ((q : Nat) : Int)) 1 = 1 ∧ mDW S.2.2 b np nt L ((n : Nat) : Int) 334 q = mDW S.2.2 b np nt L ((n : Nat) : Int) 321 (10 * 1 + q))) := by rw [k1, need_2 hn10 hp hq, hg, hg2]
      by_cases hb : aAnd (aShr ((n : Nat) : Int) ((p : Nat) : Int)) 1 = 1
      · rw [if_pos hb, if_neg (fun hh => (hne.mp hh.2.1).1.1 hb)]
        exact ⟨i1, rfl, i3⟩
      · by_cases hb2 : aAnd (aShr ((n : Nat) : Int) ((q : Nat) : Int)) 1 = 1
        · rw [if_neg hb, if_pos hb2, if_neg (fun hh => (hne.mp hh.2.1).2.1 hb2)]
          exact ⟨i1, rfl, i3⟩
        · rw [if_neg hb, if_neg hb2, if_pos hc, k2]
          by_cases hlt : σ 291 n < S.2.1
          · rw [if_pos hlt]
            by_cases hd : mDW S.2.2 b np nt L ((n : Nat) : Int) 334 p = mDW S.2.2 b np nt L ((n : Nat) : Int) 321 (10 * 1 + p)
            · rw [if_pos hd]
              by_cases hd2 : mDW S.2.2 b np nt L ((n : Nat) : Int) 334 q = mDW S.2.2 b np nt L ((n : Nat) : Int) 321 (10 * 1 + q)
              · have hx : S.1 = -1 ∨ σ 291 n < σ 291 (S.1).toNat := by
                  by_cases g : S.1 = -1
                  · exact Or.inl g
                  · rw [if_neg g] at i3; right; omega
                rw [if_pos hd2, if_pos ⟨hH, hne.mpr ⟨⟨hb, hd⟩, ⟨hb2, hd2⟩⟩, hx⟩]
                refine ⟨i1.trans (mDW_RS _ hn10 n), rfl, ?_⟩
                dsimp only
                rw [k3, if_neg (by omega), Int.toNat_natCast]
              · rw [if_neg hd2, if_neg (fun hh => hd2 (hne.mp hh.2.1).2.2)]
                exact ⟨i1.trans (mDW_RS _ hn10 n), rfl, i3⟩
            · rw [if_neg hd, if_neg (fun hh => hd (hne.mp hh.2.1).1.2)]
              exact ⟨i1.trans (mDW_RS _ hn10 n), rfl, i3⟩
          · rw [if_neg hlt, if_neg (fun hh => ?_)]
            · exact ⟨i1, rfl, i3⟩
            · by_cases g : S.1 = -1
              · rw [if_pos g] at i3; omega
              · rw [if_neg g] at i3
                rcases hh.2.2 with h9 | h9
                · exact g h9
                · omega
    · have hH : ¬ Hc ρ b np n = true := fun h => hc (hcan.mpr (of_decide_eq_true h))
      by_cases hb : aAnd (aShr ((n : Nat) : Int) ((p : Nat) : Int)) 1 = 1
      · rw [if_pos hb, if_neg (fun hh => hH hh.1)]; exact ⟨i1, rfl, i3⟩
      · by_cases hb2 : aAnd (aShr ((n : Nat) : Int) ((q : Nat) : Int)) 1 = 1
        · rw [if_neg hb, if_pos hb2, if_neg (fun hh => hH hh.1)]; exact ⟨i1, rfl, i3⟩
        · rw [if_neg hb, if_neg hb2, if_neg hc, if_neg (fun hh => hH hh.1)]; exact ⟨i1, rfl, i3⟩
