/-! The class's searches over hirings. -/
def chF (H : Nat → Bool) (th co : Nat → Int) (need : Int) : Nat → Int
  | 0 => -1
  | n + 1 => if H n = true ∧ aAnd (th n) need = need ∧ (chF H th co need n = -1 ∨ co n < co (chF H th co need n).toNat) then (n : Int) else chF H th co need n
theorem chF_lt (H : Nat → Bool) (th co : Nat → Int) (need : Int) (n : Nat) : chF H th co need n = -1 ∨ (0 ≤ chF H th co need n ∧ chF H th co need n < (n : Int)) := by
  induction n with
  | zero => exact Or.inl rfl
  | succ n ih =>
    rw [chF]
    split
    · right; omega
    · omega
def beF (H : Nat → Bool) (ct co : Nat → Int) : Nat → Nat
  | 0 => 0
  | n + 1 => if H (n + 1) = true ∧ (ct (beF H ct co n) < ct (n + 1) ∨ ct (beF H ct co n) = ct (n + 1) ∧ co (n + 1) < co (beF H ct co n)) then n + 1 else beF H ct co n
theorem beF_le (H : Nat → Bool) (ct co : Nat → Int) (n : Nat) : beF H ct co n ≤ n := by
  induction n with
  | zero => exact Nat.le_refl _
  | succ n ih =>
    rw [beF]
    split <;> omega
def feF (H : Nat → Bool) (sv co : Nat → Int) : Nat → Int
  | 0 => -1
  | n + 1 => if H n = true ∧ ¬ sv n = 0 ∧ (feF H sv co n = -1 ∨ (aBC (n : Int) < aBC ((feF H sv co n).toNat : Int) ∨ aBC (n : Int) = aBC ((feF H sv co n).toNat : Int) ∧ co n < co (feF H sv co n).toNat)) then (n : Int) else feF H sv co n
theorem feF_lt (H : Nat → Bool) (sv co : Nat → Int) (n : Nat) : feF H sv co n = -1 ∨ (0 ≤ feF H sv co n ∧ feF H sv co n < (n : Int)) := by
  induction n with
  | zero => exact Or.inl rfl
  | succ n ih =>
    rw [feF]
    split
    · right; omega
    · omega
theorem aBC_b {x : Nat} (h : x < 1024) : 0 ≤ aBC (x : Int) ∧ aBC (x : Int) ≤ 10 := by
  rw [aBC_n x h]
  have := cnt_le (fun p => x.testBit p) 10
  omega
theorem ul_ch (X : AX) (Q : Option AV → AH → Prop) (need : Int) (P : Nat) (hP : P < 1024) (H : Nat → Bool) (σ : AH) (h94 : σ 289 4 = (P : Int)) (hH : ∀ z : Nat, z ≤ P → (((z : Int) < 1024 ∧ aAnd (z : Int) (aXor (σ 289 4) (-1)) = 0) ↔ H z = true))  (kk : TT X 132 (36, [(2, 289), (0, need), (0, (chF H (σ 290) (σ 291) need (P + 1))), (0, (((P + 1) : Nat) : Int))], [], σ) Q) : ∀ (d n : Nat), n + d = (P + 1) → TT X 132 (4, [(2, 289), (0, need), (0, (chF H (σ 290) (σ 291) need n)), (0, ((n : Nat) : Int))], [], σ) Q := by
  intro d
  induction d with
  | zero =>
    intro n hn
    have hnn : n = (P + 1) := by omega
    rw [hnn]
    refine TT.steps (cd := cd132) 3 (c' := (7, [(2, 289), (0, need), (0, (chF H (σ 290) (σ 291) need (P + 1))), (0, (((P + 1) : Nat) : Int))], [(0, (σ 289 4)), (0, (((P + 1) : Nat) : Int))], σ)) rfl rfl ?_
    refine TT.top0 (z := ((P : Nat) : Int)) h94 ?_
    refine TT.steps (cd := cd132) 1 (c' := ((if decide (((P : Nat) : Int) < (((P + 1) : Nat) : Int)) = true then 36 else 8), [(2, 289), (0, need), (0, (chF H (σ 290) (σ 291) need (P + 1))), (0, (((P + 1) : Nat) : Int))], [], σ)) rfl rfl ?_
    refine TT.br (p := ((P : Nat) : Int) < (((P + 1) : Nat) : Int)) (fun h1 => ?_) (fun h1 => absurd (show ((P : Nat) : Int) < (((P + 1) : Nat) : Int) by omega) h1)
    exact kk
  | succ d ih =>
    intro n hn
    have hcl := chF_lt H (σ 290) (σ 291) need n
    refine TT.steps (cd := cd132) 3 (c' := (7, [(2, 289), (0, need), (0, (chF H (σ 290) (σ 291) need n)), (0, ((n : Nat) : Int))], [(0, (σ 289 4)), (0, ((n : Nat) : Int))], σ)) rfl rfl ?_
    refine TT.top0 (z := ((P : Nat) : Int)) h94 ?_
    refine TT.steps (cd := cd132) 1 (c' := ((if decide (((P : Nat) : Int) < ((n : Nat) : Int)) = true then 36 else 8), [(2, 289), (0, need), (0, (chF H (σ 290) (σ 291) need n)), (0, ((n : Nat) : Int))], [], σ)) rfl rfl ?_
    refine TT.br (p := ((P : Nat) : Int) < ((n : Nat) : Int)) (fun h1 => absurd h1 (show ¬ (((P : Nat) : Int) < ((n : Nat) : Int)) by omega)) (fun h1 => ?_)
    refine TT.steps (cd := cd132) 2 (c' := (10, [(2, 289), (0, need), (0, (chF H (σ 290) (σ 291) need n)), (0, ((n : Nat) : Int))], [(0, ((n : Nat) : Int)), (2, 289)], σ)) rfl rfl ?_
    refine TT.call (cd := cd132) rfl rfl rfl (by decide) rfl (u_isHiring X ((n : Nat) : Int) σ) (fun r2 σ2 hq => ?_)
    rw [hq.1, hq.2]
    simp only [hH (n) (by omega)]
    refine TT.steps (cd := cd132) 1 (c' := ((if decide (((if H (n) = true then 1 else 0) : Int) = 0) = true then 34 else 12), [(2, 289), (0, need), (0, (chF H (σ 290) (σ 291) need n)), (0, ((n : Nat) : Int))], [], σ)) rfl rfl ?_
    refine TT.br (p := ((if H (n) = true then 1 else 0) : Int) = 0) (fun h3 => ?_) (fun h3 => ?_)
    · replace h3 := ite_f h3
      refine TT.inc (cd := cd132) ((n + 1 : Nat) : Int) rfl rfl rfl rfl (fun h => absurd h.2 (show ¬ (0 = 1) by decide)) (aAdd_n (a := n) (b := 1) (by omega)) (ls' := [(2, 289), (0, need), (0, (chF H (σ 290) (σ 291) need n)), (0, ((n + 1 : Nat) : Int))]) rfl ?_
      refine TT.steps (cd := cd132) 1 (c' := (4, [(2, 289), (0, need), (0, (chF H (σ 290) (σ 291) need n)), (0, ((n + 1 : Nat) : Int))], [], σ)) rfl rfl ?_
      have e2 : (chF H (σ 290) (σ 291) need n) = (chF H (σ 290) (σ 291) need (n + 1)) := by first | exact (if_pos ⟨by assumption, Decidable.not_not.mp (by assumption), Or.inl (by assumption)⟩).symm | exact (if_pos ⟨by assumption, Decidable.not_not.mp (by assumption), Or.inr (by omega)⟩).symm | exact (if_neg (fun hh => by obtain ⟨q1, q2, q3⟩ := hh; first | contradiction | omega)).symm
      rw [e2]
      clear e2
      have e3 : ((n + 1 : Nat) : Int) = (((n + 1) : Nat) : Int) := by omega
      rw [e3]
      clear e3
      exact ih (n + 1) (by omega)
    · replace h3 := ite_t h3
      refine TT.steps (cd := cd132) 3 (c' := (15, [(2, 289), (0, need), (0, (chF H (σ 290) (σ 291) need n)), (0, ((n : Nat) : Int))], [(0, ((n : Nat) : Int)), (2, 290)], σ)) rfl rfl ?_
      refine TT.aldN (cd := cd132) (290) (n) rfl rfl rfl rfl (show n < 1024 by omega) ?_
      refine TT.steps (cd := cd132) 4 (c' := ((if decide (¬ (aAnd (σ 290 n) need) = need) = true then 34 else 20), [(2, 289), (0, need), (0, (chF H (σ 290) (σ 291) need n)), (0, ((n : Nat) : Int))], [], σ)) rfl rfl ?_
      refine TT.br (p := ¬ (aAnd (σ 290 n) need) = need) (fun h4 => ?_) (fun h4 => ?_)
      · refine TT.inc (cd := cd132) ((n + 1 : Nat) : Int) rfl rfl rfl rfl (fun h => absurd h.2 (show ¬ (0 = 1) by decide)) (aAdd_n (a := n) (b := 1) (by omega)) (ls' := [(2, 289), (0, need), (0, (chF H (σ 290) (σ 291) need n)), (0, ((n + 1 : Nat) : Int))]) rfl ?_
        refine TT.steps (cd := cd132) 1 (c' := (4, [(2, 289), (0, need), (0, (chF H (σ 290) (σ 291) need n)), (0, ((n + 1 : Nat) : Int))], [], σ)) rfl rfl ?_
        have e2 : (chF H (σ 290) (σ 291) need n) = (chF H (σ 290) (σ 291) need (n + 1)) := by first | exact (if_pos ⟨by assumption, Decidable.not_not.mp (by assumption), Or.inl (by assumption)⟩).symm | exact (if_pos ⟨by assumption, Decidable.not_not.mp (by assumption), Or.inr (by omega)⟩).symm | exact (if_neg (fun hh => by obtain ⟨q1, q2, q3⟩ := hh; first | contradiction | omega)).symm
        rw [e2]
        clear e2
        have e3 : ((n + 1 : Nat) : Int) = (((n + 1) : Nat) : Int) := by omega
        rw [e3]
        clear e3
        exact ih (n + 1) (by omega)
      · refine TT.steps (cd := cd132) 3 (c' := ((if decide ((chF H (σ 290) (σ 291) need n) = (-1)) = true then 32 else 23), [(2, 289), (0, need), (0, (chF H (σ 290) (σ 291) need n)), (0, ((n : Nat) : Int))], [], σ)) rfl rfl ?_
        refine TT.br (p := (chF H (σ 290) (σ 291) need n) = (-1)) (fun h5 => ?_) (fun h5 => ?_)
        · refine TT.steps (cd := cd132) 2 (c' := (34, [(2, 289), (0, need), (0, ((n : Nat) : Int)), (0, ((n : Nat) : Int))], [], σ)) rfl rfl ?_
          refine TT.inc (cd := cd132) ((n + 1 : Nat) : Int) rfl rfl rfl rfl (fun h => absurd h.2 (show ¬ (0 = 1) by decide)) (aAdd_n (a := n) (b := 1) (by omega)) (ls' := [(2, 289), (0, need), (0, ((n : Nat) : Int)), (0, ((n + 1 : Nat) : Int))]) rfl ?_
          refine TT.steps (cd := cd132) 1 (c' := (4, [(2, 289), (0, need), (0, ((n : Nat) : Int)), (0, ((n + 1 : Nat) : Int))], [], σ)) rfl rfl ?_
          have e2 : ((n : Nat) : Int) = (chF H (σ 290) (σ 291) need (n + 1)) := by first | exact (if_pos ⟨by assumption, Decidable.not_not.mp (by assumption), Or.inl (by assumption)⟩).symm | exact (if_pos ⟨by assumption, Decidable.not_not.mp (by assumption), Or.inr (by omega)⟩).symm | exact (if_neg (fun hh => by obtain ⟨q1, q2, q3⟩ := hh; first | contradiction | omega)).symm
          rw [e2]
          clear e2
          have e3 : ((n + 1 : Nat) : Int) = (((n + 1) : Nat) : Int) := by omega
          rw [e3]
          clear e3
          exact ih (n + 1) (by omega)
        · refine TT.steps (cd := cd132) 3 (c' := (26, [(2, 289), (0, need), (0, (chF H (σ 290) (σ 291) need n)), (0, ((n : Nat) : Int))], [(0, ((n : Nat) : Int)), (2, 291)], σ)) rfl rfl ?_
          refine TT.aldN (cd := cd132) (291) (n) rfl rfl rfl rfl (show n < 1024 by omega) ?_
          refine TT.steps (cd := cd132) 3 (c' := (30, [(2, 289), (0, need), (0, (chF H (σ 290) (σ 291) need n)), (0, ((n : Nat) : Int))], [(0, (chF H (σ 290) (σ 291) need n)), (2, 291), (0, (σ 291 n))], σ)) rfl rfl ?_
          refine TT.top0 (z := (((chF H (σ 290) (σ 291) need n).toNat : Nat) : Int)) (by omega) ?_
          refine TT.aldN (cd := cd132) (291) ((chF H (σ 290) (σ 291) need n).toNat) rfl rfl rfl rfl (show (chF H (σ 290) (σ 291) need n).toNat < 1024 by omega) ?_
          refine TT.steps (cd := cd132) 1 (c' := ((if decide ((σ 291 ((chF H (σ 290) (σ 291) need n).toNat)) ≤ (σ 291 n)) = true then 34 else 32), [(2, 289), (0, need), (0, (chF H (σ 290) (σ 291) need n)), (0, ((n : Nat) : Int))], [], σ)) rfl rfl ?_
          refine TT.br (p := (σ 291 ((chF H (σ 290) (σ 291) need n).toNat)) ≤ (σ 291 n)) (fun h6 => ?_) (fun h6 => ?_)
          · refine TT.inc (cd := cd132) ((n + 1 : Nat) : Int) rfl rfl rfl rfl (fun h => absurd h.2 (show ¬ (0 = 1) by decide)) (aAdd_n (a := n) (b := 1) (by omega)) (ls' := [(2, 289), (0, need), (0, (chF H (σ 290) (σ 291) need n)), (0, ((n + 1 : Nat) : Int))]) rfl ?_
            refine TT.steps (cd := cd132) 1 (c' := (4, [(2, 289), (0, need), (0, (chF H (σ 290) (σ 291) need n)), (0, ((n + 1 : Nat) : Int))], [], σ)) rfl rfl ?_
            have e2 : (chF H (σ 290) (σ 291) need n) = (chF H (σ 290) (σ 291) need (n + 1)) := by first | exact (if_pos ⟨by assumption, Decidable.not_not.mp (by assumption), Or.inl (by assumption)⟩).symm | exact (if_pos ⟨by assumption, Decidable.not_not.mp (by assumption), Or.inr (by omega)⟩).symm | exact (if_neg (fun hh => by obtain ⟨q1, q2, q3⟩ := hh; first | contradiction | omega)).symm
            rw [e2]
            clear e2
            have e3 : ((n + 1 : Nat) : Int) = (((n + 1) : Nat) : Int) := by omega
            rw [e3]
            clear e3
            exact ih (n + 1) (by omega)
          · refine TT.steps (cd := cd132) 2 (c' := (34, [(2, 289), (0, need), (0, ((n : Nat) : Int)), (0, ((n : Nat) : Int))], [], σ)) rfl rfl ?_
            refine TT.inc (cd := cd132) ((n + 1 : Nat) : Int) rfl rfl rfl rfl (fun h => absurd h.2 (show ¬ (0 = 1) by decide)) (aAdd_n (a := n) (b := 1) (by omega)) (ls' := [(2, 289), (0, need), (0, ((n : Nat) : Int)), (0, ((n + 1 : Nat) : Int))]) rfl ?_
            refine TT.steps (cd := cd132) 1 (c' := (4, [(2, 289), (0, need), (0, ((n : Nat) : Int)), (0, ((n + 1 : Nat) : Int))], [], σ)) rfl rfl ?_
            have e2 : ((n : Nat) : Int) = (chF H (σ 290) (σ 291) need (n + 1)) := by first | exact (if_pos ⟨by assumption, Decidable.not_not.mp (by assumption), Or.inl (by assumption)⟩).symm | exact (if_pos ⟨by assumption, Decidable.not_not.mp (by assumption), Or.inr (by omega)⟩).symm | exact (if_neg (fun hh => by obtain ⟨q1, q2, q3⟩ := hh; first | contradiction | omega)).symm
            rw [e2]
            clear e2
            have e3 : ((n + 1 : Nat) : Int) = (((n + 1) : Nat) : Int) := by omega
            rw [e3]
            clear e3
            exact ih (n + 1) (by omega)
theorem u_cheapest (X : AX) (need : Int) (P : Nat) (hP : P < 1024) (H : Nat → Bool) (σ : AH) (h94 : σ 289 4 = (P : Int)) (hH : ∀ z : Nat, z ≤ P → (((z : Int) < 1024 ∧ aAnd (z : Int) (aXor (σ 289 4) (-1)) = 0) ↔ H z = true))  : TT X 132 (0, [(2, 289), (0, need), (9, 0), (9, 0)], [], σ) (fun r σ' => r = some (0, (chF H (σ 290) (σ 291) need (P + 1))) ∧ σ' = σ) := by
  refine TT.steps (cd := cd132) 4 (c' := (4, [(2, 289), (0, need), (0, -1), (0, 0)], [], σ)) rfl rfl ?_
  refine ul_ch X _ need P hP H σ h94 hH ?_ (P + 1) 0 (by omega)
  refine TT.steps (cd := cd132) 1 (c' := (37, [(2, 289), (0, need), (0, (chF H (σ 290) (σ 291) need (P + 1))), (0, (((P + 1) : Nat) : Int))], [(0, (chF H (σ 290) (σ 291) need (P + 1)))], σ)) rfl rfl ?_
  exact TT.ret (cd := cd132) rfl rfl rfl rfl (⟨rfl, rfl⟩)
theorem u_countThere (X : AX) (z : Nat) (hz : z < 1024) (σ : AH)  : TT X 131 (0, [(2, 289), (0, ((z : Nat) : Int))], [], σ) (fun r σ' => r = some (0, aBC (σ 290 z)) ∧ σ' = σ) := by
  refine TT.steps (cd := cd131) 2 (c' := ((if decide (((z : Nat) : Int) < 0) = true then 11 else 2), [(2, 289), (0, ((z : Nat) : Int))], [], σ)) rfl rfl ?_
  refine TT.br (p := ((z : Nat) : Int) < 0) (fun h1 => absurd h1 (show ¬ (((z : Nat) : Int) < 0) by omega)) (fun h1 => ?_)
  refine TT.steps (cd := cd131) 3 (c' := ((if decide (1024 ≤ ((z : Nat) : Int)) = true then 11 else 5), [(2, 289), (0, ((z : Nat) : Int))], [], σ)) rfl rfl ?_
  refine TT.br (p := 1024 ≤ ((z : Nat) : Int)) (fun h2 => absurd h2 (show ¬ (1024 ≤ ((z : Nat) : Int)) by omega)) (fun h2 => ?_)
  refine TT.steps (cd := cd131) 3 (c' := (8, [(2, 289), (0, ((z : Nat) : Int))], [(0, ((z : Nat) : Int)), (2, 290)], σ)) rfl rfl ?_
  refine TT.aldN (cd := cd131) (290) (z) rfl rfl rfl rfl (show z < 1024 by omega) ?_
  refine TT.call (cd := cd131) rfl rfl rfl (by decide) rfl (u_bitCount X (σ 290 z) σ) (fun r3 σ3 hq => ?_)
  rw [hq.1, hq.2]
  refine TT.steps (cd := cd131) 1 (c' := (12, [(2, 289), (0, ((z : Nat) : Int))], [(0, (aBC (σ 290 z)))], σ)) rfl rfl ?_
  exact TT.ret (cd := cd131) rfl rfl rfl rfl (⟨rfl, rfl⟩)
theorem ul_be (X : AX) (Q : Option AV → AH → Prop) (P : Nat) (hP : P < 1024) (H : Nat → Bool) (σ : AH) (h94 : σ 289 4 = (P : Int)) (hH : ∀ z : Nat, z ≤ P → (((z : Int) < 1024 ∧ aAnd (z : Int) (aXor (σ 289 4) (-1)) = 0) ↔ H z = true)) (hct : ∀ z, z ≤ P → 0 ≤ aBC (σ 290 z) ∧ aBC (σ 290 z) ≤ 1000)  (kk : ∀ (y3 : AV), TT X 133 (39, [(2, 289), (0, (((beF H (fun z => aBC (σ 290 z)) (σ 291) P) : Nat) : Int)), (0, ((P + 1 : Nat) : Int)), y3], [], σ) Q) : ∀ (d n : Nat), n + d = P → ∀ (y3 : AV), TT X 133 (4, [(2, 289), (0, (((beF H (fun z => aBC (σ 290 z)) (σ 291) n) : Nat) : Int)), (0, ((n + 1 : Nat) : Int)), y3], [], σ) Q := by
  intro d
  induction d with
  | zero =>
    intro n hn y3
    have hnn : n = P := by omega
    rw [hnn]
    refine TT.steps (cd := cd133) 3 (c' := (7, [(2, 289), (0, (((beF H (fun z => aBC (σ 290 z)) (σ 291) P) : Nat) : Int)), (0, ((P + 1 : Nat) : Int)), y3], [(0, (σ 289 4)), (0, ((P + 1 : Nat) : Int))], σ)) rfl rfl ?_
    refine TT.top0 (z := ((P : Nat) : Int)) h94 ?_
    refine TT.steps (cd := cd133) 1 (c' := ((if decide (((P : Nat) : Int) < ((P + 1 : Nat) : Int)) = true then 39 else 8), [(2, 289), (0, (((beF H (fun z => aBC (σ 290 z)) (σ 291) P) : Nat) : Int)), (0, ((P + 1 : Nat) : Int)), y3], [], σ)) rfl rfl ?_
    refine TT.br (p := ((P : Nat) : Int) < ((P + 1 : Nat) : Int)) (fun h1 => ?_) (fun h1 => absurd (show ((P : Nat) : Int) < ((P + 1 : Nat) : Int) by omega) h1)
    exact kk _
  | succ d ih =>
    intro n hn y3
    have hbl := beF_le H (fun z => aBC (σ 290 z)) (σ 291) n
    have hc1 := hct (n + 1) (by omega)
    have hc2 := hct (beF H (fun z => aBC (σ 290 z)) (σ 291) n) (by omega)
    refine TT.steps (cd := cd133) 3 (c' := (7, [(2, 289), (0, (((beF H (fun z => aBC (σ 290 z)) (σ 291) n) : Nat) : Int)), (0, ((n + 1 : Nat) : Int)), y3], [(0, (σ 289 4)), (0, ((n + 1 : Nat) : Int))], σ)) rfl rfl ?_
    refine TT.top0 (z := ((P : Nat) : Int)) h94 ?_
    refine TT.steps (cd := cd133) 1 (c' := ((if decide (((P : Nat) : Int) < ((n + 1 : Nat) : Int)) = true then 39 else 8), [(2, 289), (0, (((beF H (fun z => aBC (σ 290 z)) (σ 291) n) : Nat) : Int)), (0, ((n + 1 : Nat) : Int)), y3], [], σ)) rfl rfl ?_
    refine TT.br (p := ((P : Nat) : Int) < ((n + 1 : Nat) : Int)) (fun h1 => absurd h1 (show ¬ (((P : Nat) : Int) < ((n + 1 : Nat) : Int)) by omega)) (fun h1 => ?_)
    refine TT.steps (cd := cd133) 2 (c' := (10, [(2, 289), (0, (((beF H (fun z => aBC (σ 290 z)) (σ 291) n) : Nat) : Int)), (0, ((n + 1 : Nat) : Int)), y3], [(0, ((n + 1 : Nat) : Int)), (2, 289)], σ)) rfl rfl ?_
    refine TT.call (cd := cd133) rfl rfl rfl (by decide) rfl (u_isHiring X ((n + 1 : Nat) : Int) σ) (fun r2 σ2 hq => ?_)
    rw [hq.1, hq.2]
    simp only [hH (n + 1) (by omega)]
    refine TT.steps (cd := cd133) 1 (c' := ((if decide (((if H (n + 1) = true then 1 else 0) : Int) = 0) = true then 37 else 12), [(2, 289), (0, (((beF H (fun z => aBC (σ 290 z)) (σ 291) n) : Nat) : Int)), (0, ((n + 1 : Nat) : Int)), y3], [], σ)) rfl rfl ?_
    refine TT.br (p := ((if H (n + 1) = true then 1 else 0) : Int) = 0) (fun h3 => ?_) (fun h3 => ?_)
    · replace h3 := ite_f h3
      refine TT.inc (cd := cd133) (((n + 1) + 1 : Nat) : Int) rfl rfl rfl rfl (fun h => absurd h.2 (show ¬ (0 = 1) by decide)) (aAdd_n (a := n + 1) (b := 1) (by omega)) (ls' := [(2, 289), (0, (((beF H (fun z => aBC (σ 290 z)) (σ 291) n) : Nat) : Int)), (0, (((n + 1) + 1 : Nat) : Int)), y3]) rfl ?_
      refine TT.steps (cd := cd133) 1 (c' := (4, [(2, 289), (0, (((beF H (fun z => aBC (σ 290 z)) (σ 291) n) : Nat) : Int)), (0, (((n + 1) + 1 : Nat) : Int)), y3], [], σ)) rfl rfl ?_
      have e1 : (((beF H (fun z => aBC (σ 290 z)) (σ 291) n) : Nat) : Int) = (((beF H (fun z => aBC (σ 290 z)) (σ 291) (n + 1)) : Nat) : Int) := by first | exact (congrArg (fun x : Nat => (x : Int)) (if_pos ⟨by assumption, Or.inl (by show aBC _ < aBC _; omega)⟩)).symm | exact (congrArg (fun x : Nat => (x : Int)) (if_pos ⟨by assumption, Or.inr ⟨by show aBC _ = aBC _; omega, by omega⟩⟩)).symm | exact (congrArg (fun x : Nat => (x : Int)) (if_neg (fun hh => by obtain ⟨q1, q2⟩ := hh; first | contradiction | (rcases q2 with q2 | q2 <;> (try obtain ⟨q3, q4⟩ := q2) <;> (try (have q5 : aBC (σ 290 (beF H (fun z => aBC (σ 290 z)) (σ 291) n)) < aBC (σ 290 (n + 1)) := q2)) <;> (try (have q6 : aBC (σ 290 (beF H (fun z => aBC (σ 290 z)) (σ 291) n)) = aBC (σ 290 (n + 1)) := q3)) <;> omega)))).symm
      rw [e1]
      clear e1
      exact ih (n + 1) (by omega) y3
    · replace h3 := ite_t h3
      refine TT.steps (cd := cd133) 2 (c' := (14, [(2, 289), (0, (((beF H (fun z => aBC (σ 290 z)) (σ 291) n) : Nat) : Int)), (0, ((n + 1 : Nat) : Int)), y3], [(0, ((n + 1 : Nat) : Int)), (2, 289)], σ)) rfl rfl ?_
      refine TT.call (cd := cd133) rfl rfl rfl (by decide) rfl (u_countThere X (n + 1) (by omega) σ) (fun r4 σ4 hq => ?_)
      rw [hq.1, hq.2]
      refine TT.steps (cd := cd133) 2 (c' := (17, [(2, 289), (0, (((beF H (fun z => aBC (σ 290 z)) (σ 291) n) : Nat) : Int)), (0, ((n + 1 : Nat) : Int)), y3], [(0, (((beF H (fun z => aBC (σ 290 z)) (σ 291) n) : Nat) : Int)), (2, 289), (0, (aBC (σ 290 (n + 1))))], σ)) rfl rfl ?_
      refine TT.call (cd := cd133) rfl rfl rfl (by decide) rfl (u_countThere X ((beF H (fun z => aBC (σ 290 z)) (σ 291) n)) (by omega) σ) (fun r5 σ5 hq => ?_)
      rw [hq.1, hq.2]
      refine TT.steps (cd := cd133) 1 (c' := (19, [(2, 289), (0, (((beF H (fun z => aBC (σ 290 z)) (σ 291) n) : Nat) : Int)), (0, ((n + 1 : Nat) : Int)), y3], [(0, (aSub (aBC (σ 290 (n + 1))) (aBC (σ 290 ((beF H (fun z => aBC (σ 290 z)) (σ 291) n))))))], σ)) rfl rfl ?_
      refine TT.top0 (z := (aBC (σ 290 (n + 1)) - aBC (σ 290 (beF H (fun z => aBC (σ 290 z)) (σ 291) n)))) (aSub_of (by omega) (by omega)) ?_
      refine TT.steps (cd := cd133) 3 (c' := ((if decide (0 < (aBC (σ 290 (n + 1)) - aBC (σ 290 (beF H (fun z => aBC (σ 290 z)) (σ 291) n)))) = true then 33 else 22), [(2, 289), (0, (((beF H (fun z => aBC (σ 290 z)) (σ 291) n) : Nat) : Int)), (0, ((n + 1 : Nat) : Int)), (0, (aBC (σ 290 (n + 1)) - aBC (σ 290 (beF H (fun z => aBC (σ 290 z)) (σ 291) n))))], [], σ)) rfl rfl ?_
      refine TT.br (p := 0 < (aBC (σ 290 (n + 1)) - aBC (σ 290 (beF H (fun z => aBC (σ 290 z)) (σ 291) n)))) (fun h6 => ?_) (fun h6 => ?_)
      · refine TT.steps (cd := cd133) 3 (c' := (37, [(2, 289), (0, ((n + 1 : Nat) : Int)), (0, ((n + 1 : Nat) : Int)), (0, (aBC (σ 290 (n + 1)) - aBC (σ 290 (beF H (fun z => aBC (σ 290 z)) (σ 291) n))))], [], σ)) rfl rfl ?_
        refine TT.inc (cd := cd133) (((n + 1) + 1 : Nat) : Int) rfl rfl rfl rfl (fun h => absurd h.2 (show ¬ (0 = 1) by decide)) (aAdd_n (a := n + 1) (b := 1) (by omega)) (ls' := [(2, 289), (0, ((n + 1 : Nat) : Int)), (0, (((n + 1) + 1 : Nat) : Int)), (0, (aBC (σ 290 (n + 1)) - aBC (σ 290 (beF H (fun z => aBC (σ 290 z)) (σ 291) n))))]) rfl ?_
        refine TT.steps (cd := cd133) 1 (c' := (4, [(2, 289), (0, ((n + 1 : Nat) : Int)), (0, (((n + 1) + 1 : Nat) : Int)), (0, (aBC (σ 290 (n + 1)) - aBC (σ 290 (beF H (fun z => aBC (σ 290 z)) (σ 291) n))))], [], σ)) rfl rfl ?_
        have e1 : ((n + 1 : Nat) : Int) = (((beF H (fun z => aBC (σ 290 z)) (σ 291) (n + 1)) : Nat) : Int) := by first | exact (congrArg (fun x : Nat => (x : Int)) (if_pos ⟨by assumption, Or.inl (by show aBC _ < aBC _; omega)⟩)).symm | exact (congrArg (fun x : Nat => (x : Int)) (if_pos ⟨by assumption, Or.inr ⟨by show aBC _ = aBC _; omega, by omega⟩⟩)).symm | exact (congrArg (fun x : Nat => (x : Int)) (if_neg (fun hh => by obtain ⟨q1, q2⟩ := hh; first | contradiction | (rcases q2 with q2 | q2 <;> (try obtain ⟨q3, q4⟩ := q2) <;> (try (have q5 : aBC (σ 290 (beF H (fun z => aBC (σ 290 z)) (σ 291) n)) < aBC (σ 290 (n + 1)) := q2)) <;> (try (have q6 : aBC (σ 290 (beF H (fun z => aBC (σ 290 z)) (σ 291) n)) = aBC (σ 290 (n + 1)) := q3)) <;> omega)))).symm
        rw [e1]
        clear e1
        exact ih (n + 1) (by omega) (0, (aBC (σ 290 (n + 1)) - aBC (σ 290 (beF H (fun z => aBC (σ 290 z)) (σ 291) n))))
      · refine TT.steps (cd := cd133) 2 (c' := ((if decide (¬ (aBC (σ 290 (n + 1)) - aBC (σ 290 (beF H (fun z => aBC (σ 290 z)) (σ 291) n))) = 0) = true then 35 else 24), [(2, 289), (0, (((beF H (fun z => aBC (σ 290 z)) (σ 291) n) : Nat) : Int)), (0, ((n + 1 : Nat) : Int)), (0, (aBC (σ 290 (n + 1)) - aBC (σ 290 (beF H (fun z => aBC (σ 290 z)) (σ 291) n))))], [], σ)) rfl rfl ?_
        refine TT.br (p := ¬ (aBC (σ 290 (n + 1)) - aBC (σ 290 (beF H (fun z => aBC (σ 290 z)) (σ 291) n))) = 0) (fun h7 => ?_) (fun h7 => ?_)
        · refine TT.steps (cd := cd133) 2 (c' := (37, [(2, 289), (0, (((beF H (fun z => aBC (σ 290 z)) (σ 291) n) : Nat) : Int)), (0, ((n + 1 : Nat) : Int)), (0, (aBC (σ 290 (n + 1)) - aBC (σ 290 (beF H (fun z => aBC (σ 290 z)) (σ 291) n))))], [], σ)) rfl rfl ?_
          refine TT.inc (cd := cd133) (((n + 1) + 1 : Nat) : Int) rfl rfl rfl rfl (fun h => absurd h.2 (show ¬ (0 = 1) by decide)) (aAdd_n (a := n + 1) (b := 1) (by omega)) (ls' := [(2, 289), (0, (((beF H (fun z => aBC (σ 290 z)) (σ 291) n) : Nat) : Int)), (0, (((n + 1) + 1 : Nat) : Int)), (0, (aBC (σ 290 (n + 1)) - aBC (σ 290 (beF H (fun z => aBC (σ 290 z)) (σ 291) n))))]) rfl ?_
          refine TT.steps (cd := cd133) 1 (c' := (4, [(2, 289), (0, (((beF H (fun z => aBC (σ 290 z)) (σ 291) n) : Nat) : Int)), (0, (((n + 1) + 1 : Nat) : Int)), (0, (aBC (σ 290 (n + 1)) - aBC (σ 290 (beF H (fun z => aBC (σ 290 z)) (σ 291) n))))], [], σ)) rfl rfl ?_
          have e1 : (((beF H (fun z => aBC (σ 290 z)) (σ 291) n) : Nat) : Int) = (((beF H (fun z => aBC (σ 290 z)) (σ 291) (n + 1)) : Nat) : Int) := by first | exact (congrArg (fun x : Nat => (x : Int)) (if_pos ⟨by assumption, Or.inl (by show aBC _ < aBC _; omega)⟩)).symm | exact (congrArg (fun x : Nat => (x : Int)) (if_pos ⟨by assumption, Or.inr ⟨by show aBC _ = aBC _; omega, by omega⟩⟩)).symm | exact (congrArg (fun x : Nat => (x : Int)) (if_neg (fun hh => by obtain ⟨q1, q2⟩ := hh; first | contradiction | (rcases q2 with q2 | q2 <;> (try obtain ⟨q3, q4⟩ := q2) <;> (try (have q5 : aBC (σ 290 (beF H (fun z => aBC (σ 290 z)) (σ 291) n)) < aBC (σ 290 (n + 1)) := q2)) <;> (try (have q6 : aBC (σ 290 (beF H (fun z => aBC (σ 290 z)) (σ 291) n)) = aBC (σ 290 (n + 1)) := q3)) <;> omega)))).symm
          rw [e1]
          clear e1
          exact ih (n + 1) (by omega) (0, (aBC (σ 290 (n + 1)) - aBC (σ 290 (beF H (fun z => aBC (σ 290 z)) (σ 291) n))))
        · refine TT.steps (cd := cd133) 3 (c' := (27, [(2, 289), (0, (((beF H (fun z => aBC (σ 290 z)) (σ 291) n) : Nat) : Int)), (0, ((n + 1 : Nat) : Int)), (0, (aBC (σ 290 (n + 1)) - aBC (σ 290 (beF H (fun z => aBC (σ 290 z)) (σ 291) n))))], [(0, ((n + 1 : Nat) : Int)), (2, 291)], σ)) rfl rfl ?_
          refine TT.aldN (cd := cd133) (291) (n + 1) rfl rfl rfl rfl (show n + 1 < 1024 by omega) ?_
          refine TT.steps (cd := cd133) 3 (c' := (31, [(2, 289), (0, (((beF H (fun z => aBC (σ 290 z)) (σ 291) n) : Nat) : Int)), (0, ((n + 1 : Nat) : Int)), (0, (aBC (σ 290 (n + 1)) - aBC (σ 290 (beF H (fun z => aBC (σ 290 z)) (σ 291) n))))], [(0, (((beF H (fun z => aBC (σ 290 z)) (σ 291) n) : Nat) : Int)), (2, 291), (0, (σ 291 (n + 1)))], σ)) rfl rfl ?_
          refine TT.aldN (cd := cd133) (291) ((beF H (fun z => aBC (σ 290 z)) (σ 291) n)) rfl rfl rfl rfl (show (beF H (fun z => aBC (σ 290 z)) (σ 291) n) < 1024 by omega) ?_
          refine TT.steps (cd := cd133) 1 (c' := ((if decide ((σ 291 ((beF H (fun z => aBC (σ 290 z)) (σ 291) n))) ≤ (σ 291 (n + 1))) = true then 35 else 33), [(2, 289), (0, (((beF H (fun z => aBC (σ 290 z)) (σ 291) n) : Nat) : Int)), (0, ((n + 1 : Nat) : Int)), (0, (aBC (σ 290 (n + 1)) - aBC (σ 290 (beF H (fun z => aBC (σ 290 z)) (σ 291) n))))], [], σ)) rfl rfl ?_
          refine TT.br (p := (σ 291 ((beF H (fun z => aBC (σ 290 z)) (σ 291) n))) ≤ (σ 291 (n + 1))) (fun h8 => ?_) (fun h8 => ?_)
          · refine TT.steps (cd := cd133) 2 (c' := (37, [(2, 289), (0, (((beF H (fun z => aBC (σ 290 z)) (σ 291) n) : Nat) : Int)), (0, ((n + 1 : Nat) : Int)), (0, (aBC (σ 290 (n + 1)) - aBC (σ 290 (beF H (fun z => aBC (σ 290 z)) (σ 291) n))))], [], σ)) rfl rfl ?_
            refine TT.inc (cd := cd133) (((n + 1) + 1 : Nat) : Int) rfl rfl rfl rfl (fun h => absurd h.2 (show ¬ (0 = 1) by decide)) (aAdd_n (a := n + 1) (b := 1) (by omega)) (ls' := [(2, 289), (0, (((beF H (fun z => aBC (σ 290 z)) (σ 291) n) : Nat) : Int)), (0, (((n + 1) + 1 : Nat) : Int)), (0, (aBC (σ 290 (n + 1)) - aBC (σ 290 (beF H (fun z => aBC (σ 290 z)) (σ 291) n))))]) rfl ?_
            refine TT.steps (cd := cd133) 1 (c' := (4, [(2, 289), (0, (((beF H (fun z => aBC (σ 290 z)) (σ 291) n) : Nat) : Int)), (0, (((n + 1) + 1 : Nat) : Int)), (0, (aBC (σ 290 (n + 1)) - aBC (σ 290 (beF H (fun z => aBC (σ 290 z)) (σ 291) n))))], [], σ)) rfl rfl ?_
            have e1 : (((beF H (fun z => aBC (σ 290 z)) (σ 291) n) : Nat) : Int) = (((beF H (fun z => aBC (σ 290 z)) (σ 291) (n + 1)) : Nat) : Int) := by first | exact (congrArg (fun x : Nat => (x : Int)) (if_pos ⟨by assumption, Or.inl (by show aBC _ < aBC _; omega)⟩)).symm | exact (congrArg (fun x : Nat => (x : Int)) (if_pos ⟨by assumption, Or.inr ⟨by show aBC _ = aBC _; omega, by omega⟩⟩)).symm | exact (congrArg (fun x : Nat => (x : Int)) (if_neg (fun hh => by obtain ⟨q1, q2⟩ := hh; first | contradiction | (rcases q2 with q2 | q2 <;> (try obtain ⟨q3, q4⟩ := q2) <;> (try (have q5 : aBC (σ 290 (beF H (fun z => aBC (σ 290 z)) (σ 291) n)) < aBC (σ 290 (n + 1)) := q2)) <;> (try (have q6 : aBC (σ 290 (beF H (fun z => aBC (σ 290 z)) (σ 291) n)) = aBC (σ 290 (n + 1)) := q3)) <;> omega)))).symm
            rw [e1]
            clear e1
            exact ih (n + 1) (by omega) (0, (aBC (σ 290 (n + 1)) - aBC (σ 290 (beF H (fun z => aBC (σ 290 z)) (σ 291) n))))
          · refine TT.steps (cd := cd133) 3 (c' := (37, [(2, 289), (0, ((n + 1 : Nat) : Int)), (0, ((n + 1 : Nat) : Int)), (0, (aBC (σ 290 (n + 1)) - aBC (σ 290 (beF H (fun z => aBC (σ 290 z)) (σ 291) n))))], [], σ)) rfl rfl ?_
            refine TT.inc (cd := cd133) (((n + 1) + 1 : Nat) : Int) rfl rfl rfl rfl (fun h => absurd h.2 (show ¬ (0 = 1) by decide)) (aAdd_n (a := n + 1) (b := 1) (by omega)) (ls' := [(2, 289), (0, ((n + 1 : Nat) : Int)), (0, (((n + 1) + 1 : Nat) : Int)), (0, (aBC (σ 290 (n + 1)) - aBC (σ 290 (beF H (fun z => aBC (σ 290 z)) (σ 291) n))))]) rfl ?_
            refine TT.steps (cd := cd133) 1 (c' := (4, [(2, 289), (0, ((n + 1 : Nat) : Int)), (0, (((n + 1) + 1 : Nat) : Int)), (0, (aBC (σ 290 (n + 1)) - aBC (σ 290 (beF H (fun z => aBC (σ 290 z)) (σ 291) n))))], [], σ)) rfl rfl ?_
            have e1 : ((n + 1 : Nat) : Int) = (((beF H (fun z => aBC (σ 290 z)) (σ 291) (n + 1)) : Nat) : Int) := by first | exact (congrArg (fun x : Nat => (x : Int)) (if_pos ⟨by assumption, Or.inl (by show aBC _ < aBC _; omega)⟩)).symm | exact (congrArg (fun x : Nat => (x : Int)) (if_pos ⟨by assumption, Or.inr ⟨by show aBC _ = aBC _; omega, by omega⟩⟩)).symm | exact (congrArg (fun x : Nat => (x : Int)) (if_neg (fun hh => by obtain ⟨q1, q2⟩ := hh; first | contradiction | (rcases q2 with q2 | q2 <;> (try obtain ⟨q3, q4⟩ := q2) <;> (try (have q5 : aBC (σ 290 (beF H (fun z => aBC (σ 290 z)) (σ 291) n)) < aBC (σ 290 (n + 1)) := q2)) <;> (try (have q6 : aBC (σ 290 (beF H (fun z => aBC (σ 290 z)) (σ 291) n)) = aBC (σ 290 (n + 1)) := q3)) <;> omega)))).symm
            rw [e1]
            clear e1
            exact ih (n + 1) (by omega) (0, (aBC (σ 290 (n + 1)) - aBC (σ 290 (beF H (fun z => aBC (σ 290 z)) (σ 291) n))))
theorem u_best (X : AX) (P : Nat) (hP : P < 1024) (H : Nat → Bool) (σ : AH) (h94 : σ 289 4 = (P : Int)) (hH : ∀ z : Nat, z ≤ P → (((z : Int) < 1024 ∧ aAnd (z : Int) (aXor (σ 289 4) (-1)) = 0) ↔ H z = true)) (hct : ∀ z, z ≤ P → 0 ≤ aBC (σ 290 z) ∧ aBC (σ 290 z) ≤ 1000)  : TT X 133 (0, [(2, 289), (9, 0), (9, 0), (9, 0)], [], σ) (fun r σ' => r = some (0, (((beF H (fun z => aBC (σ 290 z)) (σ 291) P) : Nat) : Int)) ∧ σ' = σ) := by
  refine TT.steps (cd := cd133) 4 (c' := (4, [(2, 289), (0, 0), (0, 1), (9, 0)], [], σ)) rfl rfl ?_
  refine ul_be X _ P hP H σ h94 hH hct (fun y3 => ?_) P 0 (by omega) _
  refine TT.steps (cd := cd133) 1 (c' := (40, [(2, 289), (0, (((beF H (fun z => aBC (σ 290 z)) (σ 291) P) : Nat) : Int)), (0, ((P + 1 : Nat) : Int)), y3], [(0, (((beF H (fun z => aBC (σ 290 z)) (σ 291) P) : Nat) : Int))], σ)) rfl rfl ?_
  exact TT.ret (cd := cd133) rfl rfl rfl rfl (⟨rfl, rfl⟩)
theorem u_isSmaller (X : AX) (x y : Nat) (hx : x < 1024) (hy : y < 1024) (σ : AH)  : TT X 135 (0, [(2, 289), (0, ((x : Nat) : Int)), (0, ((y : Nat) : Int)), (9, 0)], [], σ) (fun r σ' => r = some (0, if aBC (x : Int) < aBC (y : Int) ∨ aBC (x : Int) = aBC (y : Int) ∧ σ 291 x < σ 291 y then 1 else 0) ∧ σ' = σ) := by
  have hb1 := aBC_b hx
  have hb2 := aBC_b hy
  refine TT.steps (cd := cd135) 1 (c' := (1, [(2, 289), (0, ((x : Nat) : Int)), (0, ((y : Nat) : Int)), (9, 0)], [(0, ((x : Nat) : Int))], σ)) rfl rfl ?_
  refine TT.call (cd := cd135) rfl rfl rfl (by decide) rfl (u_bitCount X ((x : Nat) : Int) σ) (fun r1 σ1 hq => ?_)
  rw [hq.1, hq.2]
  refine TT.steps (cd := cd135) 1 (c' := (3, [(2, 289), (0, ((x : Nat) : Int)), (0, ((y : Nat) : Int)), (9, 0)], [(0, ((y : Nat) : Int)), (0, (aBC ((x : Nat) : Int)))], σ)) rfl rfl ?_
  refine TT.call (cd := cd135) rfl rfl rfl (by decide) rfl (u_bitCount X ((y : Nat) : Int) σ) (fun r2 σ2 hq => ?_)
  rw [hq.1, hq.2]
  refine TT.steps (cd := cd135) 1 (c' := (5, [(2, 289), (0, ((x : Nat) : Int)), (0, ((y : Nat) : Int)), (9, 0)], [(0, (aSub (aBC ((x : Nat) : Int)) (aBC ((y : Nat) : Int))))], σ)) rfl rfl ?_
  refine TT.top0 (z := (aBC (x : Int) - aBC (y : Int))) (aSub_of (by omega) (by omega)) ?_
  refine TT.steps (cd := cd135) 3 (c' := ((if decide ((aBC (x : Int) - aBC (y : Int)) < 0) = true then 19 else 8), [(2, 289), (0, ((x : Nat) : Int)), (0, ((y : Nat) : Int)), (0, (aBC (x : Int) - aBC (y : Int)))], [], σ)) rfl rfl ?_
  refine TT.br (p := (aBC (x : Int) - aBC (y : Int)) < 0) (fun h3 => ?_) (fun h3 => ?_)
  · refine TT.steps (cd := cd135) 2 (c' := (22, [(2, 289), (0, ((x : Nat) : Int)), (0, ((y : Nat) : Int)), (0, (aBC (x : Int) - aBC (y : Int)))], [(0, 1)], σ)) rfl rfl ?_
    exact TT.ret (cd := cd135) rfl rfl rfl rfl (⟨by first | rw [if_pos (by omega)] | rw [if_neg (by omega)], rfl⟩)
  · refine TT.steps (cd := cd135) 2 (c' := ((if decide (¬ (aBC (x : Int) - aBC (y : Int)) = 0) = true then 21 else 10), [(2, 289), (0, ((x : Nat) : Int)), (0, ((y : Nat) : Int)), (0, (aBC (x : Int) - aBC (y : Int)))], [], σ)) rfl rfl ?_
    refine TT.br (p := ¬ (aBC (x : Int) - aBC (y : Int)) = 0) (fun h4 => ?_) (fun h4 => ?_)
    · refine TT.steps (cd := cd135) 1 (c' := (22, [(2, 289), (0, ((x : Nat) : Int)), (0, ((y : Nat) : Int)), (0, (aBC (x : Int) - aBC (y : Int)))], [(0, 0)], σ)) rfl rfl ?_
      exact TT.ret (cd := cd135) rfl rfl rfl rfl (⟨by first | rw [if_pos (by omega)] | rw [if_neg (by omega)], rfl⟩)
    · refine TT.steps (cd := cd135) 3 (c' := (13, [(2, 289), (0, ((x : Nat) : Int)), (0, ((y : Nat) : Int)), (0, (aBC (x : Int) - aBC (y : Int)))], [(0, ((x : Nat) : Int)), (2, 291)], σ)) rfl rfl ?_
      refine TT.aldN (cd := cd135) (291) (x) rfl rfl rfl rfl (show x < 1024 by omega) ?_
      refine TT.steps (cd := cd135) 3 (c' := (17, [(2, 289), (0, ((x : Nat) : Int)), (0, ((y : Nat) : Int)), (0, (aBC (x : Int) - aBC (y : Int)))], [(0, ((y : Nat) : Int)), (2, 291), (0, (σ 291 x))], σ)) rfl rfl ?_
      refine TT.aldN (cd := cd135) (291) (y) rfl rfl rfl rfl (show y < 1024 by omega) ?_
      refine TT.steps (cd := cd135) 1 (c' := ((if decide ((σ 291 y) ≤ (σ 291 x)) = true then 21 else 19), [(2, 289), (0, ((x : Nat) : Int)), (0, ((y : Nat) : Int)), (0, (aBC (x : Int) - aBC (y : Int)))], [], σ)) rfl rfl ?_
      refine TT.br (p := (σ 291 y) ≤ (σ 291 x)) (fun h5 => ?_) (fun h5 => ?_)
      · refine TT.steps (cd := cd135) 1 (c' := (22, [(2, 289), (0, ((x : Nat) : Int)), (0, ((y : Nat) : Int)), (0, (aBC (x : Int) - aBC (y : Int)))], [(0, 0)], σ)) rfl rfl ?_
        exact TT.ret (cd := cd135) rfl rfl rfl rfl (⟨by first | rw [if_pos (by omega)] | rw [if_neg (by omega)], rfl⟩)
      · refine TT.steps (cd := cd135) 2 (c' := (22, [(2, 289), (0, ((x : Nat) : Int)), (0, ((y : Nat) : Int)), (0, (aBC (x : Int) - aBC (y : Int)))], [(0, 1)], σ)) rfl rfl ?_
        exact TT.ret (cd := cd135) rfl rfl rfl rfl (⟨by first | rw [if_pos (by omega)] | rw [if_neg (by omega)], rfl⟩)
theorem ul_fe (X : AX) (Q : Option AV → AH → Prop) (P : Nat) (hP : P < 1024) (H : Nat → Bool) (σ : AH) (h94 : σ 289 4 = (P : Int)) (hH : ∀ z : Nat, z ≤ P → (((z : Int) < 1024 ∧ aAnd (z : Int) (aXor (σ 289 4) (-1)) = 0) ↔ H z = true))  (kk : TT X 134 (29, [(2, 289), (0, (feF H (σ 292) (σ 291) (P + 1))), (0, (((P + 1) : Nat) : Int))], [], σ) Q) : ∀ (d n : Nat), n + d = (P + 1) → TT X 134 (4, [(2, 289), (0, (feF H (σ 292) (σ 291) n)), (0, ((n : Nat) : Int))], [], σ) Q := by
  intro d
  induction d with
  | zero =>
    intro n hn
    have hnn : n = (P + 1) := by omega
    rw [hnn]
    refine TT.steps (cd := cd134) 3 (c' := (7, [(2, 289), (0, (feF H (σ 292) (σ 291) (P + 1))), (0, (((P + 1) : Nat) : Int))], [(0, (σ 289 4)), (0, (((P + 1) : Nat) : Int))], σ)) rfl rfl ?_
    refine TT.top0 (z := ((P : Nat) : Int)) h94 ?_
    refine TT.steps (cd := cd134) 1 (c' := ((if decide (((P : Nat) : Int) < (((P + 1) : Nat) : Int)) = true then 29 else 8), [(2, 289), (0, (feF H (σ 292) (σ 291) (P + 1))), (0, (((P + 1) : Nat) : Int))], [], σ)) rfl rfl ?_
    refine TT.br (p := ((P : Nat) : Int) < (((P + 1) : Nat) : Int)) (fun h1 => ?_) (fun h1 => absurd (show ((P : Nat) : Int) < (((P + 1) : Nat) : Int) by omega) h1)
    exact kk
  | succ d ih =>
    intro n hn
    have hcl := feF_lt H (σ 292) (σ 291) n
    refine TT.steps (cd := cd134) 3 (c' := (7, [(2, 289), (0, (feF H (σ 292) (σ 291) n)), (0, ((n : Nat) : Int))], [(0, (σ 289 4)), (0, ((n : Nat) : Int))], σ)) rfl rfl ?_
    refine TT.top0 (z := ((P : Nat) : Int)) h94 ?_
    refine TT.steps (cd := cd134) 1 (c' := ((if decide (((P : Nat) : Int) < ((n : Nat) : Int)) = true then 29 else 8), [(2, 289), (0, (feF H (σ 292) (σ 291) n)), (0, ((n : Nat) : Int))], [], σ)) rfl rfl ?_
    refine TT.br (p := ((P : Nat) : Int) < ((n : Nat) : Int)) (fun h1 => absurd h1 (show ¬ (((P : Nat) : Int) < ((n : Nat) : Int)) by omega)) (fun h1 => ?_)
    refine TT.steps (cd := cd134) 2 (c' := (10, [(2, 289), (0, (feF H (σ 292) (σ 291) n)), (0, ((n : Nat) : Int))], [(0, ((n : Nat) : Int)), (2, 289)], σ)) rfl rfl ?_
    refine TT.call (cd := cd134) rfl rfl rfl (by decide) rfl (u_isHiring X ((n : Nat) : Int) σ) (fun r2 σ2 hq => ?_)
    rw [hq.1, hq.2]
    simp only [hH (n) (by omega)]
    refine TT.steps (cd := cd134) 1 (c' := ((if decide (((if H (n) = true then 1 else 0) : Int) = 0) = true then 27 else 12), [(2, 289), (0, (feF H (σ 292) (σ 291) n)), (0, ((n : Nat) : Int))], [], σ)) rfl rfl ?_
    refine TT.br (p := ((if H (n) = true then 1 else 0) : Int) = 0) (fun h3 => ?_) (fun h3 => ?_)
    · replace h3 := ite_f h3
      refine TT.inc (cd := cd134) ((n + 1 : Nat) : Int) rfl rfl rfl rfl (fun h => absurd h.2 (show ¬ (0 = 1) by decide)) (aAdd_n (a := n) (b := 1) (by omega)) (ls' := [(2, 289), (0, (feF H (σ 292) (σ 291) n)), (0, ((n + 1 : Nat) : Int))]) rfl ?_
      refine TT.steps (cd := cd134) 1 (c' := (4, [(2, 289), (0, (feF H (σ 292) (σ 291) n)), (0, ((n + 1 : Nat) : Int))], [], σ)) rfl rfl ?_
      have e1 : (feF H (σ 292) (σ 291) n) = (feF H (σ 292) (σ 291) (n + 1)) := by first | exact (if_pos ⟨by assumption, by assumption, Or.inl (by assumption)⟩).symm | exact (if_pos ⟨by assumption, by assumption, Or.inr (by assumption)⟩).symm | exact (if_neg (fun hh => by obtain ⟨q1, q2, q3⟩ := hh; first | contradiction | (rcases q3 with q3 | q3 <;> contradiction))).symm
      rw [e1]
      clear e1
      have e2 : ((n + 1 : Nat) : Int) = (((n + 1) : Nat) : Int) := by omega
      rw [e2]
      clear e2
      exact ih (n + 1) (by omega)
    · replace h3 := ite_t h3
      refine TT.steps (cd := cd134) 3 (c' := (15, [(2, 289), (0, (feF H (σ 292) (σ 291) n)), (0, ((n : Nat) : Int))], [(0, ((n : Nat) : Int)), (2, 292)], σ)) rfl rfl ?_
      refine TT.zldN (cd := cd134) (292) (n) rfl rfl rfl rfl (show n < 1024 by omega) ?_
      refine TT.steps (cd := cd134) 1 (c' := ((if decide ((σ 292 n) = 0) = true then 27 else 17), [(2, 289), (0, (feF H (σ 292) (σ 291) n)), (0, ((n : Nat) : Int))], [], σ)) rfl rfl ?_
      refine TT.br (p := (σ 292 n) = 0) (fun h4 => ?_) (fun h4 => ?_)
      · refine TT.inc (cd := cd134) ((n + 1 : Nat) : Int) rfl rfl rfl rfl (fun h => absurd h.2 (show ¬ (0 = 1) by decide)) (aAdd_n (a := n) (b := 1) (by omega)) (ls' := [(2, 289), (0, (feF H (σ 292) (σ 291) n)), (0, ((n + 1 : Nat) : Int))]) rfl ?_
        refine TT.steps (cd := cd134) 1 (c' := (4, [(2, 289), (0, (feF H (σ 292) (σ 291) n)), (0, ((n + 1 : Nat) : Int))], [], σ)) rfl rfl ?_
        have e1 : (feF H (σ 292) (σ 291) n) = (feF H (σ 292) (σ 291) (n + 1)) := by first | exact (if_pos ⟨by assumption, by assumption, Or.inl (by assumption)⟩).symm | exact (if_pos ⟨by assumption, by assumption, Or.inr (by assumption)⟩).symm | exact (if_neg (fun hh => by obtain ⟨q1, q2, q3⟩ := hh; first | contradiction | (rcases q3 with q3 | q3 <;> contradiction))).symm
        rw [e1]
        clear e1
        have e2 : ((n + 1 : Nat) : Int) = (((n + 1) : Nat) : Int) := by omega
        rw [e2]
        clear e2
        exact ih (n + 1) (by omega)
      · refine TT.steps (cd := cd134) 3 (c' := ((if decide ((feF H (σ 292) (σ 291) n) = (-1)) = true then 25 else 20), [(2, 289), (0, (feF H (σ 292) (σ 291) n)), (0, ((n : Nat) : Int))], [], σ)) rfl rfl ?_
        refine TT.br (p := (feF H (σ 292) (σ 291) n) = (-1)) (fun h5 => ?_) (fun h5 => ?_)
        · refine TT.steps (cd := cd134) 2 (c' := (27, [(2, 289), (0, ((n : Nat) : Int)), (0, ((n : Nat) : Int))], [], σ)) rfl rfl ?_
          refine TT.inc (cd := cd134) ((n + 1 : Nat) : Int) rfl rfl rfl rfl (fun h => absurd h.2 (show ¬ (0 = 1) by decide)) (aAdd_n (a := n) (b := 1) (by omega)) (ls' := [(2, 289), (0, ((n : Nat) : Int)), (0, ((n + 1 : Nat) : Int))]) rfl ?_
          refine TT.steps (cd := cd134) 1 (c' := (4, [(2, 289), (0, ((n : Nat) : Int)), (0, ((n + 1 : Nat) : Int))], [], σ)) rfl rfl ?_
          have e1 : ((n : Nat) : Int) = (feF H (σ 292) (σ 291) (n + 1)) := by first | exact (if_pos ⟨by assumption, by assumption, Or.inl (by assumption)⟩).symm | exact (if_pos ⟨by assumption, by assumption, Or.inr (by assumption)⟩).symm | exact (if_neg (fun hh => by obtain ⟨q1, q2, q3⟩ := hh; first | contradiction | (rcases q3 with q3 | q3 <;> contradiction))).symm
          rw [e1]
          clear e1
          have e2 : ((n + 1 : Nat) : Int) = (((n + 1) : Nat) : Int) := by omega
          rw [e2]
          clear e2
          exact ih (n + 1) (by omega)
        · refine TT.steps (cd := cd134) 3 (c' := (23, [(2, 289), (0, (feF H (σ 292) (σ 291) n)), (0, ((n : Nat) : Int))], [(0, (feF H (σ 292) (σ 291) n)), (0, ((n : Nat) : Int)), (2, 289)], σ)) rfl rfl ?_
          refine TT.top0 (z := (((feF H (σ 292) (σ 291) n).toNat : Nat) : Int)) (by omega) ?_
          refine TT.call (cd := cd134) rfl rfl rfl (by decide) rfl (u_isSmaller X n (feF H (σ 292) (σ 291) n).toNat (by omega) (by omega) σ) (fun r6 σ6 hq => ?_)
          rw [hq.1, hq.2]
          refine TT.steps (cd := cd134) 1 (c' := ((if decide (((if aBC (n : Int) < aBC ((feF H (σ 292) (σ 291) n).toNat : Int) ∨ aBC (n : Int) = aBC ((feF H (σ 292) (σ 291) n).toNat : Int) ∧ σ 291 n < σ 291 (feF H (σ 292) (σ 291) n).toNat then 1 else 0) : Int) = 0) = true then 27 else 25), [(2, 289), (0, (feF H (σ 292) (σ 291) n)), (0, ((n : Nat) : Int))], [], σ)) rfl rfl ?_
          refine TT.br (p := ((if aBC (n : Int) < aBC ((feF H (σ 292) (σ 291) n).toNat : Int) ∨ aBC (n : Int) = aBC ((feF H (σ 292) (σ 291) n).toNat : Int) ∧ σ 291 n < σ 291 (feF H (σ 292) (σ 291) n).toNat then 1 else 0) : Int) = 0) (fun h7 => ?_) (fun h7 => ?_)
          · replace h7 := ite_f h7
            refine TT.inc (cd := cd134) ((n + 1 : Nat) : Int) rfl rfl rfl rfl (fun h => absurd h.2 (show ¬ (0 = 1) by decide)) (aAdd_n (a := n) (b := 1) (by omega)) (ls' := [(2, 289), (0, (feF H (σ 292) (σ 291) n)), (0, ((n + 1 : Nat) : Int))]) rfl ?_
            refine TT.steps (cd := cd134) 1 (c' := (4, [(2, 289), (0, (feF H (σ 292) (σ 291) n)), (0, ((n + 1 : Nat) : Int))], [], σ)) rfl rfl ?_
            have e1 : (feF H (σ 292) (σ 291) n) = (feF H (σ 292) (σ 291) (n + 1)) := by first | exact (if_pos ⟨by assumption, by assumption, Or.inl (by assumption)⟩).symm | exact (if_pos ⟨by assumption, by assumption, Or.inr (by assumption)⟩).symm | exact (if_neg (fun hh => by obtain ⟨q1, q2, q3⟩ := hh; first | contradiction | (rcases q3 with q3 | q3 <;> contradiction))).symm
            rw [e1]
            clear e1
            have e2 : ((n + 1 : Nat) : Int) = (((n + 1) : Nat) : Int) := by omega
            rw [e2]
            clear e2
            exact ih (n + 1) (by omega)
          · replace h7 := ite_t h7
            refine TT.steps (cd := cd134) 2 (c' := (27, [(2, 289), (0, ((n : Nat) : Int)), (0, ((n : Nat) : Int))], [], σ)) rfl rfl ?_
            refine TT.inc (cd := cd134) ((n + 1 : Nat) : Int) rfl rfl rfl rfl (fun h => absurd h.2 (show ¬ (0 = 1) by decide)) (aAdd_n (a := n) (b := 1) (by omega)) (ls' := [(2, 289), (0, ((n : Nat) : Int)), (0, ((n + 1 : Nat) : Int))]) rfl ?_
            refine TT.steps (cd := cd134) 1 (c' := (4, [(2, 289), (0, ((n : Nat) : Int)), (0, ((n + 1 : Nat) : Int))], [], σ)) rfl rfl ?_
            have e1 : ((n : Nat) : Int) = (feF H (σ 292) (σ 291) (n + 1)) := by first | exact (if_pos ⟨by assumption, by assumption, Or.inl (by assumption)⟩).symm | exact (if_pos ⟨by assumption, by assumption, Or.inr (by assumption)⟩).symm | exact (if_neg (fun hh => by obtain ⟨q1, q2, q3⟩ := hh; first | contradiction | (rcases q3 with q3 | q3 <;> contradiction))).symm
            rw [e1]
            clear e1
            have e2 : ((n + 1 : Nat) : Int) = (((n + 1) : Nat) : Int) := by omega
            rw [e2]
            clear e2
            exact ih (n + 1) (by omega)
theorem u_fewest (X : AX) (P : Nat) (hP : P < 1024) (H : Nat → Bool) (σ : AH) (h94 : σ 289 4 = (P : Int)) (hH : ∀ z : Nat, z ≤ P → (((z : Int) < 1024 ∧ aAnd (z : Int) (aXor (σ 289 4) (-1)) = 0) ↔ H z = true))  : TT X 134 (0, [(2, 289), (9, 0), (9, 0)], [], σ) (fun r σ' => r = some (0, (feF H (σ 292) (σ 291) (P + 1))) ∧ σ' = σ) := by
  refine TT.steps (cd := cd134) 4 (c' := (4, [(2, 289), (0, -1), (0, 0)], [], σ)) rfl rfl ?_
  refine ul_fe X _ P hP H σ h94 hH ?_ (P + 1) 0 (by omega)
  refine TT.steps (cd := cd134) 1 (c' := (30, [(2, 289), (0, (feF H (σ 292) (σ 291) (P + 1))), (0, (((P + 1) : Nat) : Int))], [(0, (feF H (σ 292) (σ 291) (P + 1)))], σ)) rfl rfl ?_
  exact TT.ret (cd := cd134) rfl rfl rfl rfl (⟨rfl, rfl⟩)
