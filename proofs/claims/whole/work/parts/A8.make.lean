/-! The making of the objects: exact places in the heap. -/
def ix (b : Nat) (L : List va_E) : va_W := L.mapIdx fun i e => (b + i, e)
theorem ix_at {b : Nat} {L : List va_E} {i : Nat} : (ix b L)[i]? = L[i]?.map fun e => (b + i, e) := by simp [ix, List.getElem?_mapIdx]
theorem ix_app {b : Nat} {L M : List va_E} : ix b (L ++ M) = ix b L ++ ix (b + L.length) M := by
  apply List.ext_getElem?
  intro i
  have hl : (ix b L).length = L.length := by simp [ix]
  by_cases h : i < L.length
  · rw [List.getElem?_append_left (by omega), ix_at, ix_at, List.getElem?_append_left h]
  · rw [List.getElem?_append_right (by omega), ix_at, ix_at, List.getElem?_append_right (by omega), hl, show b + L.length + (i - L.length) = b + i by omega]
theorem ix_D {h0 b : Nat} {e : va_E} {L : List va_E} (h : h0 < b) : va_D (fun q => q = h0 ∨ b ≤ q) ((h0, e) :: ix b L) := by
  have key : ∀ (i : Nat) (p : Nat × va_E), ((h0, e) :: ix b L)[i]? = some p → (i = 0 ∧ p.1 = h0) ∨ (1 ≤ i ∧ p.1 = b + (i - 1)) := by
    intro i p hp
    cases i with
    | zero =>
      left
      rw [List.getElem?_cons_zero] at hp
      cases hp
      exact ⟨rfl, rfl⟩
    | succ i =>
      right
      rw [List.getElem?_cons_succ, ix_at] at hp
      cases hL : L[i]? with
      | none => rw [hL] at hp; cases hp
      | some x => rw [hL] at hp; cases hp; exact ⟨by omega, by simp⟩
  refine ⟨fun i j p q hp hq hpq => ?_, fun i p hp => ?_⟩
  · rcases key i p hp with ⟨h1, h2⟩ | ⟨h1, h2⟩ <;> rcases key j q hq with ⟨h3, h4⟩ | ⟨h3, h4⟩ <;> omega
  · rcases key i p hp with ⟨h1, h2⟩ | ⟨h1, h2⟩
    · exact Or.inl h2
    · exact Or.inr (by omega)
/-- in the making: the object h0 of class ci with fields fs, and the cells made since, from H0's end on -/
def KS (G : Geo) (h0 ci : Nat) (fs : List Value) (L : List va_E) (H0 H : Heap) (locs : List Loc) : Prop :=
  h0 < H0.size ∧ H.size = H0.size + L.length ∧ va_P G.1 vwCl ((h0, .inr (ci, fs)) :: ix H0.size L) H ∧ va_S (fun q => q = h0 ∨ H0.size ≤ q) H0 H locs
theorem va_at.lo {D : va_G} {cl : List vw_C} {q : Nat × va_E} {H : Heap} (h : va_at D cl q H) : q.1 < H.size := h.lt
theorem KS.push {G : Geo} {h0 ci : Nat} {fs : List Value} {L : List va_E} {H0 H : Heap} {locs : List Loc} (K : KS G h0 ci fs L H0 H locs) {e : va_E} {H1 : Heap} (z : H1.size = H.size + 1) (o : ∀ q, q < H.size → H1[q]? = H[q]?) (he : va_at G.1 vwCl (H.size, e) H1) : KS G h0 ci fs (L ++ [e]) H0 H1 locs := by
  obtain ⟨hh, hz, hP, hS⟩ := K
  refine ⟨hh, by rw [z, hz]; simp; omega, ?_, ⟨by have := hS.1; omega, fun x h1 h2 => (o x (by have := hS.1; omega)).trans (hS.2.1 x h1 h2), hS.2.2⟩⟩
  rw [ix_app, ← List.cons_append]
  refine (hP.kept (fun k x hx => o x.1 ((hP k x hx).lt))).app (fun k x hx => ?_)
  rw [ix_at] at hx
  match k, hx with
  | 0, hx =>
    cases hx
    rw [← hz]
    exact he
  | k + 1, hx => simp at hx
