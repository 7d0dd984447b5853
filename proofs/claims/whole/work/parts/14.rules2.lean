/-! More rules: arrays, branches, numbers. -/
theorem TT.top0 {X : AX} {m k : Nat} {ls st : List AV} {σ : AH} {Q : Option AV → AH → Prop} {x z : Int} {t : Nat} (h : x = z) (kk : TT X m (k, ls, (t, z) :: st, σ) Q) : TT X m (k, ls, (t, x) :: st, σ) Q := by rw [h]; exact kk
theorem TT.ls0 {X : AX} {m k : Nat} {ls ls' st : List AV} {σ : AH} {Q : Option AV → AH → Prop} (h : ls = ls') (kk : TT X m (k, ls', st, σ) Q) : TT X m (k, ls, st, σ) Q := by rw [h]; exact kk
theorem TT.sg {X : AX} {m k : Nat} {ls st : List AV} {σ σ' : AH} {Q : Option AV → AH → Prop} (h : σ = σ') (kk : TT X m (k, ls, st, σ') Q) : TT X m (k, ls, st, σ) Q := by rw [h]; exact kk
/-- a branch -/
theorem TT.br {X : AX} {m a b : Nat} {ls st : List AV} {σ : AH} {Q : Option AV → AH → Prop} {p : Prop} [Decidable p] (ht : p → TT X m (a, ls, st, σ) Q) (hf : ¬ p → TT X m (b, ls, st, σ) Q) : TT X m (if decide p = true then a else b, ls, st, σ) Q := by
  by_cases h : p
  · simp only [h, decide_true, ↓reduceIte]; exact ht h
  · simp only [h, decide_false, Bool.false_eq_true, ↓reduceIte]; exact hf h
/-- reading an array of ints at a place j -/
theorem TT.ald {X : AX} {m k : Nat} {cd : List Ent} {ls st : List AV} {σ : AH} {Q : Option AV → AH → Prop} {e : Ent} {i x : Int} (j : Nat) (hcd : cod m = cd) (he : cd[k]? = some e) (hi : e.2.1 = .iaload) (hx : kd x.toNat = 20) (hj : i = j) (hl : j < ln x.toNat) (kk : TT X m (k + 1, ls, (0, σ x.toNat j) :: st, σ) Q) : TT X m (k, ls, (0, i) :: (2, x) :: st, σ) Q := by
  subst hj
  refine TT.step hcd ?_ kk
  unfold nx1
  rw [he]
  obtain ⟨pc, ins, len, u, v, w, ts⟩ := e
  dsimp only at hi
  subst hi
  show sAld X 20 0 k ls ((0, (j : Int)) :: (2, x) :: st) σ = _
  unfold sAld
  simp only [if_true]
  rw [if_pos ⟨hx, by omega, by omega⟩]
  simp
theorem TT.lld {X : AX} {m k : Nat} {cd : List Ent} {ls st : List AV} {σ : AH} {Q : Option AV → AH → Prop} {e : Ent} {i x : Int} (j : Nat) (hcd : cod m = cd) (he : cd[k]? = some e) (hi : e.2.1 = .laload) (hx : kd x.toNat = 21) (hj : i = j) (hl : j < ln x.toNat) (kk : TT X m (k + 1, ls, (1, σ x.toNat j) :: st, σ) Q) : TT X m (k, ls, (0, i) :: (2, x) :: st, σ) Q := by
  subst hj
  refine TT.step hcd ?_ kk
  unfold nx1
  rw [he]
  obtain ⟨pc, ins, len, u, v, w, ts⟩ := e
  dsimp only at hi
  subst hi
  show sAld X 21 1 k ls ((0, (j : Int)) :: (2, x) :: st) σ = _
  unfold sAld
  simp only [if_true]
  rw [if_pos ⟨hx, by omega, by omega⟩]
  simp
theorem TT.zld {X : AX} {m k : Nat} {cd : List Ent} {ls st : List AV} {σ : AH} {Q : Option AV → AH → Prop} {e : Ent} {i x : Int} (j : Nat) (hcd : cod m = cd) (he : cd[k]? = some e) (hi : e.2.1 = .baload) (hx : kd x.toNat = 22) (hj : i = j) (hl : j < ln x.toNat) (kk : TT X m (k + 1, ls, (0, σ x.toNat j) :: st, σ) Q) : TT X m (k, ls, (0, i) :: (2, x) :: st, σ) Q := by
  subst hj
  refine TT.step hcd ?_ kk
  unfold nx1
  rw [he]
  obtain ⟨pc, ins, len, u, v, w, ts⟩ := e
  dsimp only at hi
  subst hi
  show sAld X 22 0 k ls ((0, (j : Int)) :: (2, x) :: st) σ = _
  unfold sAld
  simp only [if_true]
  rw [if_pos ⟨hx, by omega, by omega⟩]
  simp
/-- writing an array at a place j -/
theorem TT.ast {X : AX} {m k : Nat} {cd : List Ent} {ls st : List AV} {σ : AH} {Q : Option AV → AH → Prop} {e : Ent} {i x y : Int} (j : Nat) (hcd : cod m = cd) (he : cd[k]? = some e) (hi : e.2.1 = .iastore) (hx : kd x.toNat = 20) (hj : i = j) (hl : j < ln x.toNat) (kk : TT X m (k + 1, ls, st, up2 σ x.toNat j y) Q) : TT X m (k, ls, (0, y) :: (0, i) :: (2, x) :: st, σ) Q := by
  subst hj
  refine TT.step hcd ?_ kk
  unfold nx1
  rw [he]
  obtain ⟨pc, ins, len, u, v, w, ts⟩ := e
  dsimp only at hi
  subst hi
  show sAst 20 0 k ls ((0, y) :: (0, (j : Int)) :: (2, x) :: st) σ = _
  unfold sAst
  dsimp only
  rw [if_pos ⟨rfl, rfl, rfl, hx, by omega, by omega, fun h => by cases h⟩]
  simp
theorem TT.last {X : AX} {m k : Nat} {cd : List Ent} {ls st : List AV} {σ : AH} {Q : Option AV → AH → Prop} {e : Ent} {i x y : Int} (j : Nat) (hcd : cod m = cd) (he : cd[k]? = some e) (hi : e.2.1 = .lastore) (hx : kd x.toNat = 21) (hj : i = j) (hl : j < ln x.toNat) (kk : TT X m (k + 1, ls, st, up2 σ x.toNat j y) Q) : TT X m (k, ls, (1, y) :: (0, i) :: (2, x) :: st, σ) Q := by
  subst hj
  refine TT.step hcd ?_ kk
  unfold nx1
  rw [he]
  obtain ⟨pc, ins, len, u, v, w, ts⟩ := e
  dsimp only at hi
  subst hi
  show sAst 21 1 k ls ((1, y) :: (0, (j : Int)) :: (2, x) :: st) σ = _
  unfold sAst
  dsimp only
  rw [if_pos ⟨rfl, rfl, rfl, hx, by omega, by omega, fun h => by cases h⟩]
  simp
theorem TT.zast {X : AX} {m k : Nat} {cd : List Ent} {ls st : List AV} {σ : AH} {Q : Option AV → AH → Prop} {e : Ent} {i x y : Int} (j : Nat) (hcd : cod m = cd) (he : cd[k]? = some e) (hi : e.2.1 = .bastore) (hx : kd x.toNat = 22) (hj : i = j) (hl : j < ln x.toNat) (hy : y = 0 ∨ y = 1) (kk : TT X m (k + 1, ls, st, up2 σ x.toNat j y) Q) : TT X m (k, ls, (0, y) :: (0, i) :: (2, x) :: st, σ) Q := by
  subst hj
  refine TT.step hcd ?_ kk
  unfold nx1
  rw [he]
  obtain ⟨pc, ins, len, u, v, w, ts⟩ := e
  dsimp only at hi
  subst hi
  show sAst 22 0 k ls ((0, y) :: (0, (j : Int)) :: (2, x) :: st) σ = _
  unfold sAst
  dsimp only
  rw [if_pos ⟨rfl, rfl, rfl, hx, by omega, by omega, fun _ => hy⟩]
  simp
/-- a row of a grid, or one of the saved -/
theorem TT.aald {X : AX} {m k : Nat} {cd : List Ent} {ls st : List AV} {σ : AH} {Q : Option AV → AH → Prop} {e : Ent} {i x : Int} (j c : Nat) (hcd : cod m = cd) (he : cd[k]? = some e) (hi : e.2.1 = .aaload) (hx : kd x.toNat = 23 ∨ kd x.toNat = 24) (hj : i = j) (hl : j < ln x.toNat) (hf : fx x.toNat j = c + 1) (kk : TT X m (k + 1, ls, (2, (c : Int)) :: st, σ) Q) : TT X m (k, ls, (0, i) :: (2, x) :: st, σ) Q := by
  subst hj
  refine TT.step hcd ?_ kk
  unfold nx1
  rw [he]
  obtain ⟨pc, ins, len, u, v, w, ts⟩ := e
  dsimp only at hi
  subst hi
  show sAald k ls ((0, (j : Int)) :: (2, x) :: st) σ = _
  unfold sAald
  dsimp only
  rw [if_pos ⟨rfl, rfl, hx, by omega, by omega, by rw [Int.toNat_natCast, hf]; omega⟩]
  simp [hf]
/-- a field of a cell that is not told by its number -/
theorem TT.get {X : AX} {m k : Nat} {cd : List Ent} {ls st : List AV} {σ : AH} {Q : Option AV → AH → Prop} {e : Ent} {x : Int} {i : Nat} (v : AV) (hcd : cod m = cd) (he : cd[k]? = some e) (hi : e.2.1 = .getfield i) (hx : kd x.toNat = e.2.2.2.1) (hv : fval x.toNat e.2.2.2.1 e.2.2.2.2.1 σ = v) (kk : TT X m (k + 1, ls, v :: st, σ) Q) : TT X m (k, ls, (2, x) :: st, σ) Q := by
  subst hv
  refine TT.step hcd ?_ kk
  unfold nx1
  rw [he]
  obtain ⟨pc, ins, len, u, v, w, ts⟩ := e
  dsimp only at hi
  subst hi
  show sGet u v k ls ((2, x) :: st) σ = _
  unfold sGet
  dsimp only
  rw [if_pos ⟨rfl, hx⟩]
theorem TT.put {X : AX} {m k : Nat} {cd : List Ent} {ls st : List AV} {σ : AH} {Q : Option AV → AH → Prop} {e : Ent} {x y : Int} {i t : Nat} (hcd : cod m = cd) (he : cd[k]? = some e) (hi : e.2.1 = .putfield i) (hx : kd x.toNat = e.2.2.2.1) (hf : fx x.toNat e.2.2.2.2.1 = 0) (ht : t = ft e.2.2.2.1 e.2.2.2.2.1) (hz : fz e.2.2.2.1 e.2.2.2.2.1 = true → y = 0 ∨ y = 1) (kk : TT X m (k + 1, ls, st, up2 σ x.toNat e.2.2.2.2.1 y) Q) : TT X m (k, ls, (t, y) :: (2, x) :: st, σ) Q := by
  refine TT.step hcd ?_ kk
  unfold nx1
  rw [he]
  obtain ⟨pc, ins, len, u, v, w, ts⟩ := e
  dsimp only at hi
  subst hi
  show sPut u v k ls ((t, y) :: (2, x) :: st) σ = _
  unfold sPut
  dsimp only
  rw [if_pos ⟨rfl, hx, hf, ht, hz⟩]
theorem r32 {z : Int} (h1 : -2147483648 ≤ z) (h2 : z < 2147483648) : (Int32.ofInt z).toInt = z := rng_small h1 h2
theorem bm32 (z : Int) : (Int32.ofInt z).toInt = z.bmod 4294967296 := Int32.toInt_ofInt
theorem bm_of {z : Int} (h1 : -2147483648 ≤ z) (h2 : z < 2147483648) : z.bmod 4294967296 = z := by rw [← bm32]; exact r32 h1 h2
theorem aAdd_of {x y : Int} (h1 : -2147483648 ≤ x + y) (h2 : x + y < 2147483648) : aAdd x y = x + y := by
  unfold aAdd
  rw [← Int32.ofInt_add]
  exact r32 h1 h2
theorem aSub_of {x y : Int} (h1 : -2147483648 ≤ x - y) (h2 : x - y < 2147483648) : aSub x y = x - y := by
  unfold aSub
  rw [← Int32.ofInt_sub]
  exact r32 h1 h2
theorem aMul_of {x y : Int} (h1 : -2147483648 ≤ x * y) (h2 : x * y < 2147483648) : aMul x y = x * y := by
  unfold aMul
  rw [← Int32.ofInt_mul]
  exact r32 h1 h2
theorem aAdd_n {a b : Nat} (h : a + b < 2147483648) : aAdd a b = ((a + b : Nat) : Int) := by
  rw [aAdd_of (by omega) (by omega)]; simp
theorem aMul_n {a b : Nat} (h : a * b < 2147483648) : aMul a b = ((a * b : Nat) : Int) := by
  have e : (a : Int) * (b : Int) = ((a * b : Nat) : Int) := by simp
  rw [aMul_of (by rw [e]; omega) (by rw [e]; omega), e]
theorem aSub_n {a b : Nat} (h : b ≤ a) (ha : a < 2147483648) : aSub a b = ((a - b : Nat) : Int) := by
  rw [aSub_of (by omega) (by omega)]; omega
theorem up2_hit (σ : AH) (k j : Nat) (x : Int) : up2 σ k j x k j = x := by simp [up2]
theorem up2_far (σ : AH) {k k' : Nat} (j j' : Nat) (x : Int) (h : k' ≠ k) : up2 σ k j x k' j' = σ k' j' := by simp [up2, h]
theorem up2_by (σ : AH) (k : Nat) {j j' : Nat} (x : Int) (h : j' ≠ j) : up2 σ k j x k j' = σ k j' := by simp [up2, h]
/-- the same with the cell by its number -/
theorem TT.aldN {X : AX} {m k : Nat} {cd : List Ent} {ls st : List AV} {σ : AH} {Q : Option AV → AH → Prop} {e : Ent} (x j : Nat) (hcd : cod m = cd) (he : cd[k]? = some e) (hi : e.2.1 = .iaload) (hx : kd x = 20) (hl : j < ln x) (kk : TT X m (k + 1, ls, (0, σ x j) :: st, σ) Q) : TT X m (k, ls, (0, (j : Int)) :: (2, (x : Int)) :: st, σ) Q :=
  TT.ald j hcd he hi (by simpa using hx) rfl (by simpa using hl) (by simpa using kk)
theorem TT.lldN {X : AX} {m k : Nat} {cd : List Ent} {ls st : List AV} {σ : AH} {Q : Option AV → AH → Prop} {e : Ent} (x j : Nat) (hcd : cod m = cd) (he : cd[k]? = some e) (hi : e.2.1 = .laload) (hx : kd x = 21) (hl : j < ln x) (kk : TT X m (k + 1, ls, (1, σ x j) :: st, σ) Q) : TT X m (k, ls, (0, (j : Int)) :: (2, (x : Int)) :: st, σ) Q :=
  TT.lld j hcd he hi (by simpa using hx) rfl (by simpa using hl) (by simpa using kk)
theorem TT.zldN {X : AX} {m k : Nat} {cd : List Ent} {ls st : List AV} {σ : AH} {Q : Option AV → AH → Prop} {e : Ent} (x j : Nat) (hcd : cod m = cd) (he : cd[k]? = some e) (hi : e.2.1 = .baload) (hx : kd x = 22) (hl : j < ln x) (kk : TT X m (k + 1, ls, (0, σ x j) :: st, σ) Q) : TT X m (k, ls, (0, (j : Int)) :: (2, (x : Int)) :: st, σ) Q :=
  TT.zld j hcd he hi (by simpa using hx) rfl (by simpa using hl) (by simpa using kk)
theorem TT.astN {X : AX} {m k : Nat} {cd : List Ent} {ls st : List AV} {σ : AH} {Q : Option AV → AH → Prop} {e : Ent} {y : Int} (x j : Nat) (hcd : cod m = cd) (he : cd[k]? = some e) (hi : e.2.1 = .iastore) (hx : kd x = 20) (hl : j < ln x) (kk : TT X m (k + 1, ls, st, up2 σ x j y) Q) : TT X m (k, ls, (0, y) :: (0, (j : Int)) :: (2, (x : Int)) :: st, σ) Q :=
  TT.ast j hcd he hi (by simpa using hx) rfl (by simpa using hl) (by simpa using kk)
theorem TT.lastN {X : AX} {m k : Nat} {cd : List Ent} {ls st : List AV} {σ : AH} {Q : Option AV → AH → Prop} {e : Ent} {y : Int} (x j : Nat) (hcd : cod m = cd) (he : cd[k]? = some e) (hi : e.2.1 = .lastore) (hx : kd x = 21) (hl : j < ln x) (kk : TT X m (k + 1, ls, st, up2 σ x j y) Q) : TT X m (k, ls, (1, y) :: (0, (j : Int)) :: (2, (x : Int)) :: st, σ) Q :=
  TT.last j hcd he hi (by simpa using hx) rfl (by simpa using hl) (by simpa using kk)
theorem TT.zastN {X : AX} {m k : Nat} {cd : List Ent} {ls st : List AV} {σ : AH} {Q : Option AV → AH → Prop} {e : Ent} {y : Int} (x j : Nat) (hcd : cod m = cd) (he : cd[k]? = some e) (hi : e.2.1 = .bastore) (hx : kd x = 22) (hl : j < ln x) (hy : y = 0 ∨ y = 1) (kk : TT X m (k + 1, ls, st, up2 σ x j y) Q) : TT X m (k, ls, (0, y) :: (0, (j : Int)) :: (2, (x : Int)) :: st, σ) Q :=
  TT.zast j hcd he hi (by simpa using hx) rfl (by simpa using hl) hy (by simpa using kk)
theorem TT.aaldN {X : AX} {m k : Nat} {cd : List Ent} {ls st : List AV} {σ : AH} {Q : Option AV → AH → Prop} {e : Ent} (x j c : Nat) (hcd : cod m = cd) (he : cd[k]? = some e) (hi : e.2.1 = .aaload) (hx : kd x = 23 ∨ kd x = 24) (hl : j < ln x) (hf : fx x j = c + 1) (kk : TT X m (k + 1, ls, (2, (c : Int)) :: st, σ) Q) : TT X m (k, ls, (0, (j : Int)) :: (2, (x : Int)) :: st, σ) Q :=
  TT.aald j c hcd he hi (by simpa using hx) rfl (by simpa using hl) (by simpa using hf) kk
theorem TT.inc {X : AX} {m k : Nat} {cd : List Ent} {ls ls' st : List AV} {σ : AH} {Q : Option AV → AH → Prop} {e : Ent} {i : Nat} {n x : Int} (z : Int) (hcd : cod m = cd) (he : cd[k]? = some e) (hi : e.2.1 = .iinc i n) (hu : ls[e.2.2.2.1]? = some (0, x)) (hn : ¬ (0 < e.2.2.2.1 ∧ lTag ls (e.2.2.2.1 - 1) = 1)) (hz : aAdd x e.2.2.2.2.2.1 = z) (hs : ls.set e.2.2.2.1 (0, z) = ls') (kk : TT X m (k + 1, ls', st, σ) Q) : TT X m (k, ls, st, σ) Q := by
  subst hz
  subst hs
  refine TT.step hcd ?_ kk
  unfold nx1
  rw [he]
  obtain ⟨pc, ins, len, u, v, w, ts⟩ := e
  dsimp only at hi hu hn
  subst hi
  show sInc u w k ls st σ = _
  unfold sInc
  rw [hu]
  dsimp only
  rw [if_pos ⟨rfl, hn⟩]
theorem TT.lrem {X : AX} {m k : Nat} {cd : List Ent} {ls st : List AV} {σ : AH} {Q : Option AV → AH → Prop} {e : Ent} {x y : Int} (hcd : cod m = cd) (he : cd[k]? = some e) (hi : e.2.1 = .lrem) (hy : (y != 0) = true) (kk : TT X m (k + 1, ls, (1, bRem x y) :: st, σ) Q) : TT X m (k, ls, (1, y) :: (1, x) :: st, σ) Q := by
  refine TT.step hcd ?_ kk
  unfold nx1
  rw [he]
  obtain ⟨pc, ins, len, u, v, w, ts⟩ := e
  dsimp only at hi
  subst hi
  show sBin 1 1 1 bRem (fun y => y != 0) k ls ((1, y) :: (1, x) :: st) σ = _
  unfold sBin
  dsimp only
  rw [if_pos ⟨rfl, rfl, hy⟩]
theorem TT.ldiv {X : AX} {m k : Nat} {cd : List Ent} {ls st : List AV} {σ : AH} {Q : Option AV → AH → Prop} {e : Ent} {x y : Int} (hcd : cod m = cd) (he : cd[k]? = some e) (hi : e.2.1 = .ldiv) (hy : (y != 0) = true) (kk : TT X m (k + 1, ls, (1, bDiv x y) :: st, σ) Q) : TT X m (k, ls, (1, y) :: (1, x) :: st, σ) Q := by
  refine TT.step hcd ?_ kk
  unfold nx1
  rw [he]
  obtain ⟨pc, ins, len, u, v, w, ts⟩ := e
  dsimp only at hi
  subst hi
  show sBin 1 1 1 bDiv (fun y => y != 0) k ls ((1, y) :: (1, x) :: st) σ = _
  unfold sBin
  dsimp only
  rw [if_pos ⟨rfl, rfl, hy⟩]
theorem TT.swc {X : AX} {m a d : Nat} {c x : Int} {r : List (Int × Nat)} {ls st : List AV} {σ : AH} {Q : Option AV → AH → Prop} (ht : x = c → TT X m (a, ls, st, σ) Q) (hf : ¬ x = c → TT X m (swOf r d x, ls, st, σ) Q) : TT X m (swOf ((c, a) :: r) d x, ls, st, σ) Q := by
  rw [swOf]
  by_cases h : x = c
  · rw [if_pos h]; exact ht h
  · rw [if_neg h]; exact hf h
