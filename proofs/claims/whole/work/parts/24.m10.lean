theorem ofI_n (a : Nat) : Int32.ofInt (a : Int) = nI a := by unfold nI; rw [Int32.ofInt_eq_ofNat]
theorem aRem_n {a d : Nat} (ha : a < 2147483648) (h0 : 0 < d) (hd : d < 2147483648) : aRem a d = ((a % d : Nat) : Int) := by
  unfold aRem
  rw [ofI_n, ofI_n, pk_rem (by simpa using ha) h0 (by simpa using hd)]
  have : a % d < d := Nat.mod_lt _ h0
  exact nI_toInt (by simp; omega)
theorem aDiv_n {a d : Nat} (ha : a < 2147483648) (h0 : 0 < d) (hd : d < 2147483648) : aDiv a d = ((a / d : Nat) : Int) := by
  unfold aDiv
  rw [ofI_n, ofI_n, pk_div (by simpa using ha) h0 (by simpa using hd)]
  have : a / d ≤ a := Nat.div_le_self _ _
  exact nI_toInt (by simp; omega)
theorem cpN_fr (σ : AH) (a v n k j : Nat) (h : k < 316 ∨ 322 < k) : cpN σ a v n k j = σ k j := by
  unfold cpN
  rw [if_neg (by omega), if_neg (by omega)]
/-- what can be undone has one more -/
def mKeep (σ : AH) (u w : Nat) : AH := if w = 20 then up2 (cpN (up2 (up2 σ 295 41 (((u + 1) % 20 : Nat) : Int)) 295 42 19) (2 + ((u + 1) % 20 + 19) % 20) 0 10) 295 42 20 else up2 (cpN σ (2 + (u + w) % 20) 0 10) 295 42 ((w + 1 : Nat) : Int)
theorem mKeep_fr (σ : AH) (u w c j : Nat) (h : c ≠ 295 ∧ (c < 316 ∨ 322 < c)) : mKeep σ u w c j = σ c j := by
  unfold mKeep
  split
  · rw [up2_far _ _ _ _ h.1, cpN_fr _ _ _ _ _ _ h.2, up2_far _ _ _ _ h.1, up2_far _ _ _ _ h.1]
  · rw [up2_far _ _ _ _ h.1, cpN_fr _ _ _ _ _ _ h.2]
theorem mKeep_M (σ : AH) (u w j : Nat) (h : j ≠ 41 ∧ j ≠ 42) : mKeep σ u w 295 j = σ 295 j := by
  unfold mKeep
  split
  · rw [up2_by _ _ _ h.2, cpN_fr _ _ _ _ _ _ (by decide), up2_by _ _ _ h.2, up2_by _ _ _ h.1]
  · rw [up2_by _ _ _ h.2, cpN_fr _ _ _ _ _ _ (by decide)]
theorem mEvt_fr (b v np nt : Nat) (L : Nat → Nat) (f : Nat) : ∀ (σ : AH) (c j : Nat), (c < 323 ∨ 337 < c) → mEvt b v np nt L f σ c j = σ c j := by
  induction f with
  | zero => intro σ c j h; rfl
  | succ f ih =>
    intro σ c j h
    rw [mEvt]
    cases hf : mFst σ b nt with
    | none => rfl
    | some t =>
      dsimp only
      by_cases hc : σ 295 57 = -1 ∨ σ 324 t ≤ σ 295 57
      · rw [if_pos hc, ih _ _ _ h, mHap_fr _ _ _ _ _ _ _ _ _ h]
      · rw [if_neg hc]
theorem mDay_fr (σ : AH) (b v np nt : Nat) (L : Nat → Nat) (c j : Nat) (h : c ≠ 295 ∧ (c < 323 ∨ 337 < c)) : mDay σ b v np nt L c j = σ c j := by
  unfold mDay
  rw [mEvt_fr _ _ _ _ _ _ _ _ _ h.2, mPeN_fr _ _ _ _ _ (by omega), mTrN_fr _ _ _ _ _ (by omega), up2_far _ _ _ _ h.1]
theorem mDay_M (σ : AH) (b v np nt : Nat) (L : Nat → Nat) (j : Nat) (h : j ≠ 46) : mDay σ b v np nt L 295 j = σ 295 j := by
  unfold mDay
  rw [mEvt_fr _ _ _ _ _ _ _ _ _ (by decide), mPeN_fr _ _ _ _ _ (by decide), mTrN_fr _ _ _ _ _ (by decide), up2_by _ _ _ h]
theorem mDay_l (σ : AH) (b v np nt : Nat) (L : Nat → Nat) : mDay σ b v np nt L 295 46 = (v : Int) := by
  unfold mDay
  rw [mEvt_fr _ _ _ _ _ _ _ _ _ (by decide), mPeN_fr _ _ _ _ _ (by decide), mTrN_fr _ _ _ _ _ (by decide), up2_hit]
def mAtN (σ : AH) : Nat → AH
  | 0 => σ
  | n + 1 => up2 (mAtN σ n) 320 n (σ 334 n)
theorem mAtN_fr (σ : AH) (n c j : Nat) (h : c ≠ 320) : mAtN σ n c j = σ c j := by
  induction n with
  | zero => rfl
  | succ n ih => rw [mAtN, up2_far _ _ _ _ h, ih]
theorem t_ring (X : AX) (k u : Nat) (hk : k ≤ 20) (hu2 : u < 20) (σ : AH) (hu : σ 295 41 = (u : Int))  : TT X 42 (0, [(2, 295), (0, ((k : Nat) : Int))], [], σ) (fun r σ' => r = some (0, ((2 + (u + k) % 20 : Nat) : Int)) ∧ σ' = σ) := by
  refine TT.steps (cd := cd42) 3 (c' := (3, [(2, 295), (0, ((k : Nat) : Int))], [(0, (σ 295 41)), (0, 2)], σ)) rfl rfl ?_
  refine TT.top0 (z := ((u : Nat) : Int)) hu ?_
  refine TT.steps (cd := cd42) 2 (c' := (5, [(2, 295), (0, ((k : Nat) : Int))], [(0, (aAdd ((u : Nat) : Int) ((k : Nat) : Int))), (0, 2)], σ)) rfl rfl ?_
  refine TT.top0 (z := ((u + k : Nat) : Int)) (aAdd_n (a := u) (b := k) (by omega)) ?_
  refine TT.steps (cd := cd42) 2 (c' := (7, [(2, 295), (0, ((k : Nat) : Int))], [(0, (aRem ((u + k : Nat) : Int) 20)), (0, 2)], σ)) rfl rfl ?_
  refine TT.top0 (z := (((u + k) % 20 : Nat) : Int)) (aRem_n (a := u + k) (d := 20) (by omega) (by decide) (by decide)) ?_
  refine TT.steps (cd := cd42) 1 (c' := (8, [(2, 295), (0, ((k : Nat) : Int))], [(0, (aAdd 2 (((u + k) % 20 : Nat) : Int)))], σ)) rfl rfl ?_
  refine TT.top0 (z := ((2 + ((u + k) % 20) : Nat) : Int)) (aAdd_n (a := 2) (b := (u + k) % 20) (by omega)) ?_
  exact TT.ret (cd := cd42) rfl rfl rfl rfl (⟨rfl, rfl⟩)
theorem t_keeps1 (X : AX) (u w : Nat) (σ : AH) (hu : σ 295 41 = (u : Int)) (hu2 : u < 20) (hw : σ 295 42 = (w : Int)) (hw2 : w ≤ 20) (h20 : w = 20)  : TT X 43 (0, [(2, 295)], [], σ) (fun r σ' => r = none ∧ σ' = mKeep σ u w) := by
  have hw20 : σ 295 42 = 20 := by rw [hw, h20]; rfl
  refine TT.steps (cd := cd43) 2 (c' := (2, [(2, 295)], [(0, (σ 295 42))], σ)) rfl rfl ?_
  refine TT.top0 (z := 20) hw20 ?_
  refine TT.steps (cd := cd43) 5 (c' := (7, [(2, 295)], [(0, (σ 295 41)), (2, 295)], σ)) rfl rfl ?_
  refine TT.top0 (z := ((u : Nat) : Int)) hu ?_
  refine TT.steps (cd := cd43) 2 (c' := (9, [(2, 295)], [(0, (aAdd ((u : Nat) : Int) 1)), (2, 295)], σ)) rfl rfl ?_
  refine TT.top0 (z := ((u + 1 : Nat) : Int)) (aAdd_n (a := u) (b := 1) (by omega)) ?_
  refine TT.steps (cd := cd43) 2 (c' := (11, [(2, 295)], [(0, (aRem ((u + 1 : Nat) : Int) 20)), (2, 295)], σ)) rfl rfl ?_
  refine TT.top0 (z := (((u + 1) % 20 : Nat) : Int)) (aRem_n (a := u + 1) (d := 20) (by omega) (by decide) (by decide)) ?_
  refine TT.steps (cd := cd43) 4 (c' := (15, [(2, 295)], [(0, ((up2 σ 295 41 (((u + 1) % 20 : Nat) : Int)) 295 42)), (2, 295)], (up2 σ 295 41 (((u + 1) % 20 : Nat) : Int)))) rfl rfl ?_
  refine TT.top0 (z := 20) ((up2_by _ _ (j := 41) (j' := 42) _ (by decide)).trans hw20) ?_
  refine TT.steps (cd := cd43) 2 (c' := (17, [(2, 295)], [(0, (aSub 20 1)), (2, 295)], (up2 σ 295 41 (((u + 1) % 20 : Nat) : Int)))) rfl rfl ?_
  refine TT.top0 (z := 19) (by decide) ?_
  refine TT.steps (cd := cd43) 5 (c' := (22, [(2, 295)], [(0, ((up2 (up2 σ 295 41 (((u + 1) % 20 : Nat) : Int)) 295 42 19) 295 42)), (2, 295), (2, 295)], (up2 (up2 σ 295 41 (((u + 1) % 20 : Nat) : Int)) 295 42 19))) rfl rfl ?_
  refine TT.top0 (z := 19) (up2_hit _ _ _ _) ?_
  refine TT.call (cd := cd43) rfl rfl rfl (by decide) rfl (t_ring X 19 ((u + 1) % 20) (by omega) (by omega) (up2 (up2 σ 295 41 (((u + 1) % 20 : Nat) : Int)) 295 42 19) ((up2_by _ _ (j := 42) (j' := 41) _ (by decide)).trans (up2_hit _ _ _ _))) (fun r1 σ1 hq => ?_)
  rw [hq.1, hq.2]
  refine TT.steps (cd := cd43) 1 (c' := (24, [(2, 295)], [(0, 0), (0, ((2 + (((u + 1) % 20) + 19) % 20 : Nat) : Int)), (2, 295)], (up2 (up2 σ 295 41 (((u + 1) % 20 : Nat) : Int)) 295 42 19))) rfl rfl ?_
  refine TT.call (cd := cd43) rfl rfl rfl (by decide) rfl (t_copies X (2 + (((u + 1) % 20) + 19) % 20) 0 (by omega) (by omega) (up2 (up2 σ 295 41 (((u + 1) % 20 : Nat) : Int)) 295 42 19)) (fun r2 σ2 hq => ?_)
  rw [hq.1, hq.2]
  refine TT.steps (cd := cd43) 3 (c' := (28, [(2, 295)], [(0, ((cpN (up2 (up2 σ 295 41 (((u + 1) % 20 : Nat) : Int)) 295 42 19) (2 + (((u + 1) % 20) + 19) % 20) 0 10) 295 42)), (2, 295)], (cpN (up2 (up2 σ 295 41 (((u + 1) % 20 : Nat) : Int)) 295 42 19) (2 + (((u + 1) % 20) + 19) % 20) 0 10))) rfl rfl ?_
  refine TT.top0 (z := 19) ((cpN_fr _ _ _ _ 295 (42) (by decide)).trans (up2_hit _ _ _ _)) ?_
  refine TT.steps (cd := cd43) 2 (c' := (30, [(2, 295)], [(0, (aAdd 19 1)), (2, 295)], (cpN (up2 (up2 σ 295 41 (((u + 1) % 20 : Nat) : Int)) 295 42 19) (2 + (((u + 1) % 20) + 19) % 20) 0 10))) rfl rfl ?_
  refine TT.top0 (z := 20) (by decide) ?_
  refine TT.steps (cd := cd43) 1 (c' := (31, [(2, 295)], [], (up2 (cpN (up2 (up2 σ 295 41 (((u + 1) % 20 : Nat) : Int)) 295 42 19) (2 + (((u + 1) % 20) + 19) % 20) 0 10) 295 42 20))) rfl rfl ?_
  exact TT.ret (cd := cd43) rfl rfl rfl rfl ⟨rfl, by unfold mKeep; first | (rw [if_pos (by omega)]; done) | (rw [if_neg (by omega)]; done)⟩
theorem t_keeps2 (X : AX) (u w : Nat) (σ : AH) (hu : σ 295 41 = (u : Int)) (hu2 : u < 20) (hw : σ 295 42 = (w : Int)) (hw2 : w ≤ 20) (h20 : ¬ w = 20)  : TT X 43 (0, [(2, 295)], [], σ) (fun r σ' => r = none ∧ σ' = mKeep σ u w) := by
  refine TT.steps (cd := cd43) 2 (c' := (2, [(2, 295)], [(0, (σ 295 42))], σ)) rfl rfl ?_
  refine TT.top0 (z := ((w : Nat) : Int)) hw ?_
  refine TT.steps (cd := cd43) 2 (c' := ((if decide (¬ ((w : Nat) : Int) = 20) = true then 18 else 4), [(2, 295)], [], σ)) rfl rfl ?_
  refine TT.br (p := ¬ ((w : Nat) : Int) = 20) (fun h1 => ?_) (fun h1 => absurd (show ¬ ((w : Nat) : Int) = 20 by omega) h1)
  refine TT.steps (cd := cd43) 4 (c' := (22, [(2, 295)], [(0, (σ 295 42)), (2, 295), (2, 295)], σ)) rfl rfl ?_
  refine TT.top0 (z := ((w : Nat) : Int)) hw ?_
  refine TT.call (cd := cd43) rfl rfl rfl (by decide) rfl (t_ring X w u (by omega) (by omega) σ hu) (fun r2 σ2 hq => ?_)
  rw [hq.1, hq.2]
  refine TT.steps (cd := cd43) 1 (c' := (24, [(2, 295)], [(0, 0), (0, ((2 + (u + w) % 20 : Nat) : Int)), (2, 295)], σ)) rfl rfl ?_
  refine TT.call (cd := cd43) rfl rfl rfl (by decide) rfl (t_copies X (2 + (u + w) % 20) 0 (by omega) (by omega) σ) (fun r3 σ3 hq => ?_)
  rw [hq.1, hq.2]
  refine TT.steps (cd := cd43) 3 (c' := (28, [(2, 295)], [(0, ((cpN σ (2 + (u + w) % 20) 0 10) 295 42)), (2, 295)], (cpN σ (2 + (u + w) % 20) 0 10))) rfl rfl ?_
  refine TT.top0 (z := ((w : Nat) : Int)) ((cpN_fr _ _ _ _ 295 (42) (by decide)).trans hw) ?_
  refine TT.steps (cd := cd43) 2 (c' := (30, [(2, 295)], [(0, (aAdd ((w : Nat) : Int) 1)), (2, 295)], (cpN σ (2 + (u + w) % 20) 0 10))) rfl rfl ?_
  refine TT.top0 (z := ((w + 1 : Nat) : Int)) (aAdd_n (a := w) (b := 1) (by omega)) ?_
  refine TT.steps (cd := cd43) 1 (c' := (31, [(2, 295)], [], (up2 (cpN σ (2 + (u + w) % 20) 0 10) 295 42 ((w + 1 : Nat) : Int)))) rfl rfl ?_
  exact TT.ret (cd := cd43) rfl rfl rfl rfl ⟨rfl, by unfold mKeep; first | (rw [if_pos (by omega)]; done) | (rw [if_neg (by omega)]; done)⟩
theorem t_keeps (X : AX) (u w : Nat) (σ : AH) (hu : σ 295 41 = (u : Int)) (hu2 : u < 20) (hw : σ 295 42 = (w : Int)) (hw2 : w ≤ 20) : TT X 43 (0, [(2, 295)], [], σ) (fun r σ' => r = none ∧ σ' = mKeep σ u w) := by
  by_cases h : w = 20
  · exact t_keeps1 X u w σ hu hu2 hw hw2 h
  · exact t_keeps2 X u w σ hu hu2 hw hw2 h
theorem t_undo0 (X : AX) (σ : AH) (hw : σ 295 42 = 0)  : TT X 44 (0, [(2, 295)], [], σ) (fun r σ' => r = some (0, 0) ∧ σ' = up2 σ 315 4 (aAdd (σ 315 4) 1)) := by
  refine TT.steps (cd := cd44) 2 (c' := (2, [(2, 295)], [(0, (σ 295 42))], σ)) rfl rfl ?_
  refine TT.top0 (z := 0) hw ?_
  refine TT.steps (cd := cd44) 3 (c' := (5, [(2, 295)], [(0, 4), (2, 295)], σ)) rfl rfl ?_
  refine TT.call (cd := cd44) rfl rfl rfl (by decide) rfl (t_refuses X 4 (by omega) σ) (fun r1 σ1 hq => ?_)
  rw [hq.1, hq.2]
  refine TT.steps (cd := cd44) 2 (c' := (10, [(2, 295)], [(0, 0)], (up2 σ 315 4 (aAdd (σ 315 4) 1)))) rfl rfl ?_
  exact TT.ret (cd := cd44) rfl rfl rfl rfl (⟨rfl, rfl⟩)
theorem t_undo1 (X : AX) (u w : Nat) (σ : AH) (hu : σ 295 41 = (u : Int)) (hu2 : u < 20) (hw : σ 295 42 = (w : Int)) (hw2 : w ≤ 20) (hw0 : 0 < w)  : TT X 44 (0, [(2, 295)], [], σ) (fun r σ' => r = some (0, 1) ∧ σ' = cpN (up2 σ 295 42 ((w - 1 : Nat) : Int)) 0 (2 + (u + (w - 1)) % 20) 10) := by
  refine TT.steps (cd := cd44) 2 (c' := (2, [(2, 295)], [(0, (σ 295 42))], σ)) rfl rfl ?_
  refine TT.top0 (z := ((w : Nat) : Int)) hw ?_
  refine TT.steps (cd := cd44) 1 (c' := ((if decide (¬ ((w : Nat) : Int) = 0) = true then 11 else 3), [(2, 295)], [], σ)) rfl rfl ?_
  refine TT.br (p := ¬ ((w : Nat) : Int) = 0) (fun h1 => ?_) (fun h1 => absurd (show ¬ ((w : Nat) : Int) = 0 by omega) h1)
  refine TT.steps (cd := cd44) 3 (c' := (14, [(2, 295)], [(0, (σ 295 42)), (2, 295)], σ)) rfl rfl ?_
  refine TT.top0 (z := ((w : Nat) : Int)) hw ?_
  refine TT.steps (cd := cd44) 2 (c' := (16, [(2, 295)], [(0, (aSub ((w : Nat) : Int) 1)), (2, 295)], σ)) rfl rfl ?_
  refine TT.top0 (z := ((w - 1 : Nat) : Int)) (aSub_n (a := w) (b := 1) (by omega) (by omega)) ?_
  refine TT.steps (cd := cd44) 6 (c' := (22, [(2, 295)], [(0, ((up2 σ 295 42 ((w - 1 : Nat) : Int)) 295 42)), (2, 295), (0, 0), (2, 295)], (up2 σ 295 42 ((w - 1 : Nat) : Int)))) rfl rfl ?_
  refine TT.top0 (z := ((w - 1 : Nat) : Int)) (up2_hit _ _ _ _) ?_
  refine TT.call (cd := cd44) rfl rfl rfl (by decide) rfl (t_ring X (w - 1) u (by omega) (by omega) (up2 σ 295 42 ((w - 1 : Nat) : Int)) ((up2_by _ _ (j := 42) (j' := 41) _ (by decide)).trans hu)) (fun r2 σ2 hq => ?_)
  rw [hq.1, hq.2]
  refine TT.call (cd := cd44) rfl rfl rfl (by decide) rfl (t_copies X 0 (2 + (u + (w - 1)) % 20) (by omega) (by omega) (up2 σ 295 42 ((w - 1 : Nat) : Int))) (fun r3 σ3 hq => ?_)
  rw [hq.1, hq.2]
  refine TT.steps (cd := cd44) 1 (c' := (25, [(2, 295)], [(0, 1)], (cpN (up2 σ 295 42 ((w - 1 : Nat) : Int)) 0 (2 + (u + (w - 1)) % 20) 10))) rfl rfl ?_
  exact TT.ret (cd := cd44) rfl rfl rfl rfl (⟨rfl, rfl⟩)
theorem l_day (X : AX) (Q : Option AV → AH → Prop) (np : Nat) (σ : AH) {b : Nat} (hb : σ 295 13 = (b : Int)) (hb2 : b < 2) (hnp : σ 307 b = (np : Int)) (hnp2 : np ≤ 10) (kk : ∀ x1 : AV, TT X 72 (24, [(2, 295), x1], [], mAtN σ np) Q) : ∀ (d n : Nat), n + d = np → TT X 72 (7, [(2, 295), (0, ((n : Nat) : Int))], [], mAtN σ n) Q := by
  intro d
  induction d with
  | zero =>
    intro n hn
    have hnn : n = np := by omega
    refine TT.steps (cd := cd72) 5 (c' := (12, [(2, 295), (0, ((n : Nat) : Int))], [(0, ((mAtN σ n) 295 13)), (2, 307), (0, ((n : Nat) : Int))], (mAtN σ n))) rfl rfl ?_
    refine TT.top0 (z := ((b : Nat) : Int)) ((mAtN_fr _ _ 295 (13) (by decide)).trans hb) ?_
    refine TT.aldN (cd := cd72) (307) (b) rfl rfl rfl rfl (show b < 2 by omega) ?_
    refine TT.top0 (z := ((np : Nat) : Int)) ((mAtN_fr _ _ 307 (b) (by decide)).trans hnp) ?_
    refine TT.steps (cd := cd72) 1 (c' := ((if decide (((np : Nat) : Int) ≤ ((n : Nat) : Int)) = true then 24 else 14), [(2, 295), (0, ((n : Nat) : Int))], [], (mAtN σ n))) rfl rfl ?_
    refine TT.br (p := ((np : Nat) : Int) ≤ ((n : Nat) : Int)) (fun h1 => ?_) (fun h1 => absurd (show ((np : Nat) : Int) ≤ ((n : Nat) : Int) by omega) h1)
    subst hnn
    exact kk _
  | succ d ih =>
    intro n hn
    refine TT.steps (cd := cd72) 5 (c' := (12, [(2, 295), (0, ((n : Nat) : Int))], [(0, ((mAtN σ n) 295 13)), (2, 307), (0, ((n : Nat) : Int))], (mAtN σ n))) rfl rfl ?_
    refine TT.top0 (z := ((b : Nat) : Int)) ((mAtN_fr _ _ 295 (13) (by decide)).trans hb) ?_
    refine TT.aldN (cd := cd72) (307) (b) rfl rfl rfl rfl (show b < 2 by omega) ?_
    refine TT.top0 (z := ((np : Nat) : Int)) ((mAtN_fr _ _ 307 (b) (by decide)).trans hnp) ?_
    refine TT.steps (cd := cd72) 1 (c' := ((if decide (((np : Nat) : Int) ≤ ((n : Nat) : Int)) = true then 24 else 14), [(2, 295), (0, ((n : Nat) : Int))], [], (mAtN σ n))) rfl rfl ?_
    refine TT.br (p := ((np : Nat) : Int) ≤ ((n : Nat) : Int)) (fun h1 => absurd h1 (show ¬ (((np : Nat) : Int) ≤ ((n : Nat) : Int)) by omega)) (fun h1 => ?_)
    refine TT.steps (cd := cd72) 6 (c' := (20, [(2, 295), (0, ((n : Nat) : Int))], [(0, ((n : Nat) : Int)), (2, 334), (0, ((n : Nat) : Int)), (2, 320)], (mAtN σ n))) rfl rfl ?_
    refine TT.aldN (cd := cd72) (334) (n) rfl rfl rfl rfl (show n < 10 by omega) ?_
    refine TT.top0 (z := (σ 334 n)) (mAtN_fr _ _ 334 (n) (by decide)) ?_
    refine TT.astN (cd := cd72) (320) (n) rfl rfl rfl rfl (show n < 220 by omega) ?_
    refine TT.inc (cd := cd72) ((n + 1 : Nat) : Int) rfl rfl rfl rfl (fun h => absurd h.2 (show ¬ (2 = 1) by decide)) (aAdd_n (a := n) (b := 1) (by omega)) (ls' := [(2, 295), (0, ((n + 1 : Nat) : Int))]) rfl ?_
    refine TT.steps (cd := cd72) 1 (c' := (7, [(2, 295), (0, ((n + 1 : Nat) : Int))], [], (up2 (mAtN σ n) 320 n (σ 334 n)))) rfl rfl ?_
    exact ih (n + 1) (by omega)
theorem t_day (X : AX) (np nt u w : Nat) (L : Nat → Nat) (σ : AH) {b : Nat} (hb : σ 295 13 = (b : Int)) (hb2 : b < 2) (hnp : σ 307 b = (np : Int)) (hnp2 : np ≤ 10) (hnt : σ 300 b = (nt : Int)) (hnt2 : nt ≤ 6) (hL : ∀ t, t < nt → σ 304 (6 * b + t) = (L t : Int) ∧ 2 ≤ L t ∧ L t ≤ 8) (hu : σ 295 41 = (u : Int)) (hu2 : u < 20) (hw : σ 295 42 = (w : Int)) (hw2 : w ≤ 20)  : TT X 72 (0, [(2, 295), (9, 0)], [], σ) (fun r σ' => r = some (0, mArr (mAtN (mDay (mKeep σ u w) b 0 np nt L) np) np) ∧ σ' = mAtN (mDay (mKeep σ u w) b 0 np nt L) np) := by
  refine TT.steps (cd := cd72) 1 (c' := (1, [(2, 295), (9, 0)], [(2, 295)], σ)) rfl rfl ?_
  refine TT.call (cd := cd72) rfl rfl rfl (by decide) rfl (t_keeps X u w σ hu hu2 hw hw2) (fun r1 σ1 hq => ?_)
  rw [hq.1, hq.2]
  refine TT.steps (cd := cd72) 2 (c' := (4, [(2, 295), (9, 0)], [(0, 0), (2, 295)], (mKeep σ u w))) rfl rfl ?_
  refine TT.call (cd := cd72) rfl rfl rfl (by decide) rfl (t_dayOf X np nt L (mKeep σ u w) (v := 0) ((mKeep_M _ _ _ (13) (by decide)).trans hb) hb2 (by omega) ((mKeep_fr _ _ _ 307 (b) (by decide)).trans hnp) hnp2 ((mKeep_fr _ _ _ 300 (b) (by decide)).trans hnt) hnt2 (fun t ht => ⟨(show ∀ j, (mKeep σ u w) 304 j = σ 304 j from fun j => (mKeep_fr _ _ _ 304 (j) (by decide))) _ |>.trans (hL t ht).1, (hL t ht).2⟩)) (fun r2 σ2 hq => ?_)
  rw [hq.1, hq.2]
  refine TT.steps (cd := cd72) 2 (c' := (7, [(2, 295), (0, 0)], [], (mDay (mKeep σ u w) b 0 np nt L))) rfl rfl ?_
  refine l_day X _ np (mDay (mKeep σ u w) b 0 np nt L) (((mDay_M _ _ _ _ _ _ (13) (by decide)).trans (mKeep_M _ _ _ (13) (by decide))).trans hb) hb2 (((mDay_fr _ _ _ _ _ _ 307 (b) (by decide)).trans (mKeep_fr _ _ _ 307 (b) (by decide))).trans hnp) hnp2 (fun x1 => ?_) np 0 (by omega)
  refine TT.steps (cd := cd72) 1 (c' := (25, [(2, 295), x1], [(2, 295)], (mAtN (mDay (mKeep σ u w) b 0 np nt L) np))) rfl rfl ?_
  refine TT.call (cd := cd72) rfl rfl rfl (by decide) rfl (t_arrivedMany X np (mAtN (mDay (mKeep σ u w) b 0 np nt L) np) ((((mAtN_fr _ _ 295 (13) (by decide)).trans (mDay_M _ _ _ _ _ _ (13) (by decide))).trans (mKeep_M _ _ _ (13) (by decide))).trans hb) hb2 ((((mAtN_fr _ _ 307 (b) (by decide)).trans (mDay_fr _ _ _ _ _ _ 307 (b) (by decide))).trans (mKeep_fr _ _ _ 307 (b) (by decide))).trans hnp) hnp2) (fun r3 σ3 hq => ?_)
  rw [hq.1, hq.2]
  exact TT.ret (cd := cd72) rfl rfl rfl rfl (⟨rfl, rfl⟩)
