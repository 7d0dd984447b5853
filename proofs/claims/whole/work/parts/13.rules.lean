/-! Rules of the pure machine: what is said of a method is said by TT. -/
theorem run_mono (X : AX) : ∀ (n : Nat) {m : Nat} {c : ACfg} {r : Option AV × AH}, run X n m c = some r → run X (n + 1) m c = some r := by
  intro n
  induction n with
  | zero => intro m c r h; simp [run] at h
  | succ n ih =>
    intro m c r h
    rw [run] at h ⊢
    split at h
    · cases h
    · rename_i en he
      split at h
      · rename_i hc
        rw [if_pos hc]
        split at h
        · cases h
        · rename_i a ha
          split at h
          · cases h
          · rename_i r1 hr1
            have h2 : (if en.2.2.2.1 = OWN then ownA a.1 c.2.2.2 else run X (n + 1) en.2.2.2.1 (0, aEnt en.2.2.2.1 a.1, [], c.2.2.2)) = some r1 := by
              split at hr1
              · rename_i h3; rw [if_pos h3]; exact hr1
              · rename_i h3; rw [if_neg h3]; exact ih hr1
            rw [h2]
            exact ih h
      · rename_i hc
        rw [if_neg hc]
        split at h
        · rename_i hg
          rw [if_pos hg]
          exact h
        · rename_i hg
          rw [if_neg hg]
          split at h
          · cases h
          · rename_i c' hs
            exact ih h
theorem run_le (X : AX) {n n' m : Nat} {c : ACfg} {r : Option AV × AH} (h : run X n m c = some r) (hn : n ≤ n') : run X n' m c = some r := by
  obtain ⟨d, rfl⟩ := Nat.le.dest hn
  induction d with
  | zero => exact h
  | succ d ih => exact run_mono X _ (ih (by omega))
/-- one step that is no call and no return -/
def nx1 (X : AX) (cd : List Ent) (c : ACfg) : Option ACfg := match cd[c.1]? with
  | none => none
  | some e => if isCall e = true then none else if grp e.2.1 = 4 then none else stepS X e c.1 c.2.1 c.2.2.1 c.2.2.2
def nxN (X : AX) (cd : List Ent) : Nat → ACfg → Option ACfg
  | 0, c => some c
  | n + 1, c => match nx1 X cd c with
    | none => none
    | some c' => nxN X cd n c'
theorem TT.step {X : AX} {m : Nat} {cd : List Ent} {c c' : ACfg} {Q : Option AV → AH → Prop} (hcd : cod m = cd) (h : nx1 X cd c = some c') (k : TT X m c' Q) : TT X m c Q := by
  obtain ⟨n, r, h1, h2⟩ := k
  refine ⟨n + 1, r, ?_, h2⟩
  rw [run]
  unfold nx1 at h
  rw [hcd]
  split at h
  · cases h
  · rename_i e he
    rw [he]
    dsimp only
    split at h
    · cases h
    · rename_i hc
      rw [if_neg hc]
      split at h
      · cases h
      · rename_i hg
        rw [if_neg hg, h]
        exact h1
theorem TT.steps {X : AX} {m : Nat} {cd : List Ent} (n : Nat) {c c' : ACfg} {Q : Option AV → AH → Prop} (hcd : cod m = cd) (h : nxN X cd n c = some c') (k : TT X m c' Q) : TT X m c Q := by
  induction n generalizing c with
  | zero => cases h; exact k
  | succ n ih =>
    rw [nxN] at h
    split at h
    · cases h
    · rename_i c1 h1
      exact TT.step hcd h1 (ih h)
theorem TT.ret {X : AX} {m : Nat} {cd : List Ent} {k : Nat} {ls st : List AV} {σ : AH} {e : Ent} {r : Option AV} {Q : Option AV → AH → Prop} (hcd : cod m = cd) (he : cd[k]? = some e) (hg : grp e.2.1 = 4) (hr : retA m e.2.1 st = some r) (q : Q r σ) : TT X m (k, ls, st, σ) Q := by
  refine ⟨1, (r, σ), ?_, q⟩
  rw [run, hcd, he]
  have hc : ¬ isCall e = true := by
    intro h
    unfold isCall at h
    split at h
    · rename_i h2; rw [h2] at hg; simp [grp] at hg
    · rename_i h2; rw [h2] at hg; simp [grp] at hg
    · cases h
  dsimp only
  rw [if_neg hc, if_pos hg, hr]
theorem TT.call {X : AX} {m : Nat} {cd : List Ent} {k : Nat} {ls st : List AV} {σ : AH} {e : Ent} {a : List AV × List AV} {Q Q' : Option AV → AH → Prop} (hcd : cod m = cd) (he : cd[k]? = some e) (hc : isCall e = true) (ho : e.2.2.2.1 ≠ OWN) (ha : callA e st = some a) (h : TT X e.2.2.2.1 (0, aEnt e.2.2.2.1 a.1, [], σ) Q') (kk : ∀ r σ', Q' r σ' → TT X m (k + 1, ls, r.toList ++ a.2, σ') Q) : TT X m (k, ls, st, σ) Q := by
  obtain ⟨n1, r1, h1, q1⟩ := h
  obtain ⟨n2, r2, h2, q2⟩ := kk r1.1 r1.2 q1
  refine ⟨max n1 n2 + 1, r2, ?_, q2⟩
  rw [run, hcd, he]
  dsimp only
  rw [if_pos hc, ha]
  dsimp only
  rw [if_neg ho, run_le X h1 (Nat.le_max_left n1 n2)]
  exact run_le X h2 (Nat.le_max_right n1 n2)
theorem TT.mono {X : AX} {m : Nat} {c : ACfg} {Q Q' : Option AV → AH → Prop} (h : TT X m c Q) (hq : ∀ r σ, Q r σ → Q' r σ) : TT X m c Q' := by
  obtain ⟨n, r, h1, h2⟩ := h
  exact ⟨n, r, h1, hq _ _ h2⟩
