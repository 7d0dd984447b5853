/-! The heap with which the law's loop begins. -/
def σ0 : AH := fun k j => if k = 0 then (if j = 5 then 170 else if j = 11 then 1 else 0) else if k = 3 then (if j = 1 then -1 else if j = 3 then 8 else 0) else if k = 4 then (if j = 4 then -1 else 0) else if k = 8 ∨ k = 170 ∨ k = 255 then (if j = 3 then 4 else 0) else if k = 198 then (if j = 11 then 255 else if j = 12 then 283 else 0) else if k = 295 then (if j = 9 ∨ j = 11 ∨ j = 12 ∨ j = 44 ∨ j = 45 ∨ j = 57 then -1 else if j = 32 ∨ j = 43 then 1 else 0) else if k = 299 then (if j = 0 then 4 else 0) else 0
theorem INV_0 : INV σ0 := by
  refine ⟨⟨170, 0, 0, 0, 0, fun _ => 0, fun _ _ => 0, 0, 0, 0, 0, 0, ⟨Or.inr rfl, rfl, rfl⟩, ⟨⟨rfl, rfl, rfl, rfl⟩, ⟨rfl, by decide, rfl, rfl, rfl⟩, ⟨by decide, by decide, by decide, by decide, by decide⟩, ?_, ?_, ?_, ?_, ?_⟩, ⟨?_, ?_, ?_⟩, ⟨⟨rfl, ?_⟩, ⟨rfl, by decide, by decide⟩, rfl, ?_⟩, ⟨rfl, rfl, rfl⟩, ⟨⟨rfl, rfl, rfl, rfl⟩, ⟨by decide, by decide, by decide⟩, ?_⟩, ⟨rfl, rfl, by decide, ?_⟩, ⟨rfl, rfl, by decide, ?_⟩, ⟨⟨rfl, by decide, by decide⟩, ⟨rfl, rfl⟩, fun j _ => rfl⟩, Or.inl rfl⟩, ⟨⟨rfl, rfl⟩, ⟨rfl, rfl⟩⟩⟩
  all_goals (intro t; intros; omega)
theorem ft_le (c f : Nat) : ft c f ≤ 2 := by
  unfold ft
  have h : ∀ l ∈ ftL, ∀ x ∈ l, x ≤ 2 := by decide +kernel
  rw [List.getD_eq_getElem?_getD]
  cases h1 : (ftL.getD c [])[f]? with
  | none => simp
  | some x =>
    have hx := List.mem_of_getElem? h1
    rw [List.getD_eq_getElem?_getD] at hx
    cases h2 : ftL[c]? with
    | none => rw [h2] at hx; simp at hx
    | some l =>
      rw [h2] at hx
      exact h l (List.mem_of_getElem? h2) x hx
theorem ct_le (k j : Nat) : ctA k j ≤ 2 := by
  unfold ctA
  split
  · exact ft_le _ _
  · split <;> omega
theorem ok00 {t : Nat} (h : t ≤ 2) : okA 0 (t, 0) := by
  match t, h with
  | 0, _ => exact Or.inl ⟨rfl, rfl⟩
  | 1, _ => exact Or.inr (Or.inl ⟨rfl, rfl⟩)
  | 2, _ => exact Or.inr (Or.inr (Or.inl ⟨rfl, by decide, by decide⟩))
theorem okH_0 : okH σ0 := by
  intro k j
  have key : σ0 k j = 0 ∨ (k = 0 ∧ j = 5) ∨ (k = 0 ∧ j = 11) ∨ (k = 3 ∧ j = 1) ∨ (k = 3 ∧ j = 3) ∨ (k = 4 ∧ j = 4) ∨ (k = 8 ∧ j = 3) ∨ (k = 170 ∧ j = 3) ∨ (k = 255 ∧ j = 3) ∨ (k = 198 ∧ j = 11) ∨ (k = 198 ∧ j = 12) ∨ (k = 295 ∧ j = 9) ∨ (k = 295 ∧ j = 11) ∨ (k = 295 ∧ j = 12) ∨ (k = 295 ∧ j = 44) ∨ (k = 295 ∧ j = 45) ∨ (k = 295 ∧ j = 57) ∨ (k = 295 ∧ j = 32) ∨ (k = 295 ∧ j = 43) ∨ (k = 299 ∧ j = 0) := by
    unfold σ0
    repeat' split
    all_goals omega
  rcases key with h | h | h | h | h | h | h | h | h | h | h | h | h | h | h | h | h | h | h | h
  · rw [h]
    exact ok00 (ct_le k j)
  all_goals
    obtain ⟨rfl, rfl⟩ := h
    first
    | exact Or.inl ⟨by decide +kernel, by decide +kernel⟩
    | exact Or.inr (Or.inl ⟨by decide +kernel, by decide +kernel⟩)
    | exact Or.inr (Or.inr (Or.inl ⟨by decide +kernel, by decide +kernel, by decide +kernel⟩))
