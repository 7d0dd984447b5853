/-! The reference's parser, sign by sign. -/
def TD (f : Nat → Int) (N c : Nat) (K : Nat → Int) (S : Nat → Nat) (V : Nat → Int) (P : Nat → Nat) : Prop := c ≤ N ∧ N ≤ 1600 ∧ (∀ i, i < c → 1 ≤ K i ∧ K i ≤ 16) ∧ (K c = 0 ∨ K c = 17) ∧ (∀ i, i ≤ c → TOK f N (P i) (K i) (S i) (V i) (P (i + 1)))
def RTk (f : Nat → Int) (N : Nat) (K : Nat → Int) (S : Nat → Nat) (V : Nat → Int) (P : Nat → Nat) (i : Nat) (ρ : AH) : Prop := ρ 295 8 = 0 ∧ ρ 295 2 = (N : Int) ∧ ρ 296 = f ∧ LX (K i) (S i) (V i) (P (i + 1)) ρ
def RFB (ρ ρ' : AH) : Prop := ∀ K j, ¬ (K = 295 ∧ ((3 ≤ j ∧ j ≤ 9) ∨ j = 12)) → ρ' K j = ρ K j
def FT (kd pl : Int) (ρ : AH) : Prop := ρ 295 8 = kd ∧ ρ 295 9 = pl
def plc (K : Nat → Int) (S : Nat → Nat) (V : Nat → Int) (i : Nat) : Int := (S i : Int) + (if K i = 17 then V i else 0)
theorem RFB_of {ρ ρ' : AH} (h : RFA ρ ρ') : RFB ρ ρ' := fun K j hK => h K j (by omega)
theorem RFB.refl (ρ : AH) : RFB ρ ρ := fun _ _ _ => rfl
theorem RFB.trans {ρ ρ' ρ'' : AH} (h : RFB ρ ρ') (h2 : RFB ρ' ρ'') : RFB ρ ρ'' := fun K j hK => (h2 K j hK).trans (h K j hK)
theorem RFB_bl (ρ : AH) (k p : Int) : RFB ρ (up2 (up2 ρ 295 8 k) 295 9 p) := fun K j hK => by rw [up2_nq _ (by omega), up2_nq _ (by omega)]
theorem FT_bl (ρ : AH) (k p : Int) : FT k p (up2 (up2 ρ 295 8 k) 295 9 p) := ⟨by rw [up2_nq _ (by omega), up2_hit], up2_hit _ _ _ _⟩
theorem mBl_0 {ρ : AH} (h : ρ 295 8 = 0) (k p : Int) : mBl ρ k p = up2 (up2 ρ 295 8 k) 295 9 p := by
  unfold mBl
  rw [if_neg (by omega)]
theorem mBl_1 {ρ : AH} (h : 0 < ρ 295 8) (k p : Int) : mBl ρ k p = ρ := by
  unfold mBl
  rw [if_pos h]
theorem mLex_1 {ρ : AH} (h : 0 < ρ 295 8) : mLex ρ = ρ := by
  unfold mLex
  split
  · rfl
  · exact mBl_1 h _ _
/-- what is wrong with the sign itself, or nothing -/
theorem rl_lex {f : Nat → Int} {N i : Nat} {K : Nat → Int} {S : Nat → Nat} {V : Nat → Int} {P : Nat → Nat} {ρ : AH} (h : RTk f N K S V P i ρ) : (mLex ρ = ρ ∧ ρ 295 12 = -1 ∧ (K i = 17 → V i = 0) ∧ plc K S V i = (S i : Int)) ∨ (K i = 17 ∧ plc K S V i = (S i : Int) + V i ∧ mLex ρ = up2 (up2 ρ 295 8 1) 295 9 ((S i : Int) + V i)) := by
  obtain ⟨h8, h2, h6, h4, hx⟩ := h
  unfold plc mLex
  rcases hx with ⟨e, -, g⟩ | ⟨e, -, g, -⟩ | ⟨e, -, g, -⟩ | ⟨e, -, g, -⟩ | ⟨e, -, g, -⟩ | ⟨e, e2, g⟩
  · exact Or.inl ⟨if_pos g, g, fun q => by omega, by rw [if_neg (by omega)]; omega⟩
  · exact Or.inl ⟨if_pos g, g, fun q => by omega, by rw [if_neg (by omega)]; omega⟩
  · exact Or.inl ⟨if_pos g, g, fun q => by omega, by rw [if_neg (by omega)]; omega⟩
  · exact Or.inl ⟨if_pos g, g, fun q => by omega, by rw [if_neg (by omega)]; omega⟩
  · exact Or.inl ⟨if_pos g, g, fun q => by omega, by rw [if_neg (by omega)]; omega⟩
  · rcases g with g | ⟨g0, g1, -⟩
    · refine Or.inr ⟨e, by rw [if_pos e], ?_⟩
      rw [if_neg (by rw [g]; omega), g, mBl_0 h8]
    · exact Or.inl ⟨if_pos g1, g1, fun _ => g0, by rw [if_pos e, g0]; omega⟩
theorem r_ahead (X : AX) {f : Nat → Int} {N c i : Nat} {K : Nat → Int} {S : Nat → Nat} {V : Nat → Int} {P : Nat → Nat} {ρ : AH} (hT : TD f N c K S V P) (h : RTk f N K S V P i ρ) (hi : i < c) : TT X 8 (0, [(2, 295), (9, 0), (9, 0), (9, 0), (9, 0), (9, 0)], [], ρ) (fun r ρ' => r = none ∧ RTk f N K S V P (i + 1) ρ' ∧ RFA ρ ρ') := by
  obtain ⟨t1, t2, t3, t4, t5⟩ := hT
  obtain ⟨h8, h2, h6, h4, hx⟩ := h
  have hk := t3 i hi
  have h5 : ρ 295 5 = (P (i + 1) : Int) := by
    rcases hx with ⟨e, -, -⟩ | ⟨-, -, -, -, g⟩ | ⟨-, -, -, -, -, g⟩ | ⟨-, -, -, -, -, -, g⟩ | ⟨-, -, -, -, g⟩ | ⟨e, -⟩
    · omega
    · exact g
    · exact g
    · exact g
    · exact g
    · omega
  have ht := t5 (i + 1) (by omega)
  rw [← h6] at ht
  refine (ahead_tok X ht h2 t2 h5).mono (fun r ρ' hr => ⟨hr.1, ⟨?_, ?_, ?_, hr.2.1⟩, hr.2.2⟩)
  · rw [hr.2.2 _ _ (by omega)]; exact h8
  · rw [hr.2.2 _ _ (by omega)]; exact h2
  · rw [← h6]; funext j; exact hr.2.2 _ _ (by omega)
theorem OWi_ne : ∀ a : Nat, a < 13 → ∀ b : Nat, b < 13 → bCmp (OWi ((a + 1 : Nat) : Int)) (OWi ((b + 1 : Nat) : Int)) = 0 → a = b := by decide +kernel
theorem OWi_eq : ∀ a : Nat, a < 13 → bCmp (OWi ((a + 1 : Nat) : Int)) (OWi ((a + 1 : Nat) : Int)) = 0 := by decide +kernel
theorem nT_b {x w : Int} (h : nT x w) : ∃ y : Nat, w = (y : Int) ∧ y < 281474976710656 := by
  obtain ⟨n, g, hn, hg, rfl, rfl⟩ := h
  exact ⟨_, rfl, e8_lt6 hn.2 hg⟩
theorem rl_word {f : Nat → Int} {N i : Nat} {K : Nat → Int} {S : Nat → Nat} {V : Nat → Int} {P : Nat → Nat} {ρ : AH} (h : RTk f N K S V P i ρ) (hl : ρ 295 12 = -1) {k0 : Int} (hk : 1 ≤ k0 ∧ k0 ≤ 13) : (ρ 295 3 = 1 ∧ bCmp (ρ 295 7) (OWi k0) = 0) ↔ K i = k0 := by
  obtain ⟨h8, h2, h6, h4, hx⟩ := h
  rcases hx with ⟨e, g, -⟩ | ⟨e, g, -, gw, -⟩ | ⟨e, g, -, gn, gw, -⟩ | ⟨e, g, -⟩ | ⟨e, g, -⟩ | ⟨e, e2, g⟩
  · constructor
    · rintro ⟨q, -⟩; omega
    · intro q; omega
  · rw [gw]
    obtain ⟨a, ea⟩ : ∃ a : Nat, K i = ((a + 1 : Nat) : Int) := ⟨(K i).toNat - 1, by omega⟩
    obtain ⟨b, eb⟩ : ∃ b : Nat, k0 = ((b + 1 : Nat) : Int) := ⟨k0.toNat - 1, by omega⟩
    rw [ea, eb]
    constructor
    · rintro ⟨-, q⟩
      have := OWi_ne a (by omega) b (by omega) q
      omega
    · intro q
      have : a = b := by omega
      subst this
      exact ⟨g, OWi_eq a (by omega)⟩
  · constructor
    · rintro ⟨-, q⟩
      exfalso
      obtain ⟨y, ey, hy⟩ := nT_b gn
      have hb : 0 ≤ OWi k0 ∧ OWi k0 < 9223372036854775808 := OWl_b _ (by omega)
      rw [ey, bCmp_z (by omega) hb] at q
      exact gw (k0.toNat - 1) (by omega) (by rw [ey]; exact q)
    · intro q; omega
  · constructor
    · rintro ⟨q, -⟩; omega
    · intro q; omega
  · constructor
    · rintro ⟨q, -⟩; omega
    · intro q; omega
  · rcases g with g | ⟨-, -, g, -⟩
    · omega
    · constructor
      · rintro ⟨q, -⟩; omega
      · intro q; omega
theorem rl_sign {f : Nat → Int} {N i : Nat} {K : Nat → Int} {S : Nat → Nat} {V : Nat → Int} {P : Nat → Nat} {ρ : AH} (h : RTk f N K S V P i ρ) (hl : ρ 295 12 = -1) : (ρ 295 3 = 3 ∧ ρ 295 6 = 59) ↔ K i = 16 := by
  obtain ⟨h8, h2, h6, h4, hx⟩ := h
  rcases hx with ⟨e, g, -⟩ | ⟨e, g, -⟩ | ⟨e, g, -⟩ | ⟨e, g, -⟩ | ⟨e, g, -, g2, -⟩ | ⟨e, e2, g⟩
  · constructor <;> intro q <;> omega
  · constructor <;> intro q <;> omega
  · constructor <;> intro q <;> omega
  · constructor <;> intro q <;> omega
  · exact ⟨fun _ => e, fun _ => ⟨g, g2⟩⟩
  · rcases g with g | ⟨-, -, -, g⟩
    · omega
    · constructor
      · rintro ⟨-, q⟩; exact absurd q g
      · intro q; omega
theorem rl_num {f : Nat → Int} {N i : Nat} {K : Nat → Int} {S : Nat → Nat} {V : Nat → Int} {P : Nat → Nat} {ρ : AH} (h : RTk f N K S V P i ρ) (hl : ρ 295 12 = -1) : (ρ 295 3 = 2 ↔ K i = 15) ∧ (K i = 15 → ρ 295 6 = V i) ∧ (ρ 295 3 = 0 ↔ K i = 0) := by
  obtain ⟨h8, h2, h6, h4, hx⟩ := h
  rcases hx with ⟨e, g, -⟩ | ⟨e, g, -⟩ | ⟨e, g, -⟩ | ⟨e, g, -, g2, -⟩ | ⟨e, g, -, g2, -⟩ | ⟨e, e2, g⟩
  · refine ⟨?_, ?_, ?_⟩ <;> omega
  · refine ⟨?_, ?_, ?_⟩ <;> omega
  · refine ⟨?_, ?_, ?_⟩ <;> omega
  · refine ⟨?_, fun _ => g2, ?_⟩ <;> omega
  · refine ⟨?_, ?_, ?_⟩ <;> omega
  · rcases g with g | ⟨-, -, g3, g⟩
    · omega
    · refine ⟨?_, ?_, ?_⟩ <;> omega
theorem rl_name {f : Nat → Int} {N i : Nat} {K : Nat → Int} {S : Nat → Nat} {V : Nat → Int} {P : Nat → Nat} {ρ : AH} (h : RTk f N K S V P i ρ) (hl : ρ 295 12 = -1) : (K i = 14 → ρ 295 3 = 1 ∧ ¬ mOwn (ρ 295 7) ∧ nT (V i) (ρ 295 7)) ∧ (¬ K i = 14 → ¬ ρ 295 3 = 1 ∨ mOwn (ρ 295 7)) := by
  obtain ⟨h8, h2, h6, h4, hx⟩ := h
  rcases hx with ⟨e, g, -⟩ | ⟨e, g, -, gw, -⟩ | ⟨e, g, -, gn, gw, -⟩ | ⟨e, g, -⟩ | ⟨e, g, -⟩ | ⟨e, e2, g⟩
  · exact ⟨fun q => by omega, fun _ => Or.inl (by omega)⟩
  · refine ⟨fun q => by omega, fun _ => Or.inr ?_⟩
    have hb : 0 ≤ OWi (K i) ∧ OWi (K i) < 9223372036854775808 := OWl_b _ (by omega)
    obtain ⟨y, ey⟩ : ∃ y : Nat, OWi (K i) = (y : Int) := ⟨(OWi (K i)).toNat, by omega⟩
    rw [gw, ey]
    exact (mOwn_iff (by omega)).mpr ⟨(K i).toNat - 1, by omega, by rw [← ey]; rfl⟩
  · refine ⟨fun _ => ⟨g, fun q => ?_, gn⟩, fun q => absurd e q⟩
    obtain ⟨y, ey, hy⟩ := nT_b gn
    rw [ey] at q
    obtain ⟨j, j1, j2⟩ := (mOwn_iff (by omega)).mp q
    exact gw j j1 (by rw [ey]; exact j2)
  · exact ⟨fun q => by omega, fun _ => Or.inl (by omega)⟩
  · exact ⟨fun q => by omega, fun _ => Or.inl (by omega)⟩
  · rcases g with g | ⟨-, -, g, -⟩
    · omega
    · exact ⟨fun q => by omega, fun _ => Or.inl (by omega)⟩
/-- the first one of some, or none -/
def fstI (p : Nat → Bool) : Nat → Nat → Int
  | 0, _ => -1
  | d + 1, k => if p k = true then (k : Int) else fstI p d (k + 1)
theorem fstI_c {p q : Nat → Bool} : ∀ (d k : Nat), (∀ j, k ≤ j → j < k + d → p j = q j) → fstI p d k = fstI q d k
  | 0, _, _ => rfl
  | d + 1, k, h => by rw [fstI, fstI, h k (Nat.le_refl k) (by omega), fstI_c d (k + 1) (fun j a b => h j (by omega) (by omega))]
theorem fstI_r (p : Nat → Bool) : ∀ (d k : Nat), fstI p d k = -1 ∨ ∃ j : Nat, fstI p d k = (j : Int) ∧ k ≤ j ∧ j < k + d ∧ p j = true
  | 0, _ => Or.inl rfl
  | d + 1, k => by
    rw [fstI]
    by_cases e : p k = true
    · rw [if_pos e]; exact Or.inr ⟨k, rfl, Nat.le_refl k, by omega, e⟩
    · rw [if_neg e]
      rcases fstI_r p d (k + 1) with h | ⟨j, h1, h2, h3, h4⟩
      · exact Or.inl h
      · exact Or.inr ⟨j, h1, by omega, by omega, h4⟩
