/-! The heap with which the law's loop begins. -/
def σ0 : AH := fun k j => if k = 0 then (if j = 5 then 170 else if j = 11 then 1 else 0) else if k = 3 then (if j = 1 then -1 else if j = 3 then 8 else 0) else if k = 4 then (if j = 4 then -1 else 0) else if k = 8 ∨ k = 170 ∨ k = 255 then (if j = 3 then 4 else 0) else if k = 198 then (if j = 11 then 255 else if j = 12 then 283 else 0) else if k = 295 then (if j = 9 ∨ j = 11 ∨ j = 12 ∨ j = 44 ∨ j = 45 ∨ j = 57 then -1 else if j = 32 ∨ j = 43 then 1 else 0) else if k = 299 then (if j = 0 then 4 else 0) else 0
theorem INV_0 : INV σ0 := by
  refine ⟨⟨170, 0, 0, 0, 0, fun _ => 0, fun _ _ => 0, 0, 0, 0, 0, 0, ⟨Or.inr rfl, rfl, rfl⟩, ⟨⟨rfl, rfl, rfl, rfl⟩, ⟨rfl, by decide, rfl, rfl, rfl⟩, ⟨by decide, by decide, by decide, by decide, by decide⟩, ?_, ?_, ?_, ?_, ?_⟩, ⟨?_, ?_, ?_⟩, ⟨⟨rfl, ?_⟩, ⟨rfl, by decide, by decide⟩, rfl, ?_⟩, ⟨rfl, rfl, rfl⟩, ⟨⟨rfl, rfl, rfl, rfl⟩, ⟨by decide, by decide, by decide⟩, ?_⟩, ⟨rfl, rfl, by decide, ?_⟩, ⟨rfl, rfl, by decide, ?_⟩, ⟨⟨rfl, by decide, by decide⟩, ⟨rfl, rfl⟩, fun j _ => rfl⟩, Or.inl rfl⟩, ⟨⟨rfl, rfl⟩, ⟨rfl, rfl⟩⟩⟩
  all_goals (intro t; intros; omega)
theorem ft_le (c f : Nat) : ft c f ≤ 2 := by
  unfold ft
  have h : ∀ l ∈ ftL, ∀ x ∈ l, x ≤ 2 := by decide +kernel
  rw [List.getD_eq_getElem?_getD]
  cases h1 : (ftL.getD c [])[f]? with
  | none => simp
  | some x =>
    have hx := List.mem_of_getElem? h1
    rw [List.getD_eq_getElem?_getD] at hx
    cases h2 : ftL[c]? with
    | none => rw [h2] at hx; simp at hx
    | some l =>
      rw [h2] at hx
      exact h l (List.mem_of_getElem? h2) x hx
theorem ct_le (k j : Nat) : ctA k j ≤ 2 := by
  unfold ctA
  split
  · exact ft_le _ _
  · split <;> omega
theorem ok00 {t : Nat} (h : t ≤ 2) : okA 0 (t, 0) := by
  match t, h with
  | 0, _ => exact Or.inl ⟨rfl, rfl⟩
  | 1, _ => exact Or.inr (Or.inl ⟨rfl, rfl⟩)
  | 2, _ => exact Or.inr (Or.inr (Or.inl ⟨rfl, by decide, by decide⟩))
theorem ok_z {k j : Nat} (h : σ0 k j = 0) : okA 0 (ctA k j, σ0 k j) := by
  rw [h]
  exact ok00 (ct_le k j)
theorem ok_0 (j : Nat) : okA 0 (ctA 0 j, σ0 0 j) := by
  by_cases a0 : j = 5
  · subst a0
    exact Or.inr (Or.inr (Or.inl ⟨by decide +kernel, by decide +kernel, by decide +kernel⟩))
  by_cases a1 : j = 11
  · subst a1
    exact Or.inl ⟨by decide +kernel, by decide +kernel⟩
  exact ok_z (by simp [σ0, a0, a1])
theorem ok_3 (j : Nat) : okA 0 (ctA 3 j, σ0 3 j) := by
  by_cases a0 : j = 1
  · subst a0
    exact Or.inl ⟨by decide +kernel, by decide +kernel⟩
  by_cases a1 : j = 3
  · subst a1
    exact Or.inr (Or.inr (Or.inl ⟨by decide +kernel, by decide +kernel, by decide +kernel⟩))
  exact ok_z (by simp [σ0, a0, a1])
theorem ok_4 (j : Nat) : okA 0 (ctA 4 j, σ0 4 j) := by
  by_cases a0 : j = 4
  · subst a0
    exact Or.inl ⟨by decide +kernel, by decide +kernel⟩
  exact ok_z (by simp [σ0, a0])
theorem ok_8 (j : Nat) : okA 0 (ctA 8 j, σ0 8 j) := by
  by_cases a0 : j = 3
  · subst a0
    exact Or.inl ⟨by decide +kernel, by decide +kernel⟩
  exact ok_z (by simp [σ0, a0])
theorem ok_170 (j : Nat) : okA 0 (ctA 170 j, σ0 170 j) := by
  by_cases a0 : j = 3
  · subst a0
    exact Or.inl ⟨by decide +kernel, by decide +kernel⟩
  exact ok_z (by simp [σ0, a0])
theorem ok_255 (j : Nat) : okA 0 (ctA 255 j, σ0 255 j) := by
  by_cases a0 : j = 3
  · subst a0
    exact Or.inl ⟨by decide +kernel, by decide +kernel⟩
  exact ok_z (by simp [σ0, a0])
theorem ok_198 (j : Nat) : okA 0 (ctA 198 j, σ0 198 j) := by
  by_cases a0 : j = 11
  · subst a0
    exact Or.inr (Or.inr (Or.inl ⟨by decide +kernel, by decide +kernel, by decide +kernel⟩))
  by_cases a1 : j = 12
  · subst a1
    exact Or.inr (Or.inr (Or.inl ⟨by decide +kernel, by decide +kernel, by decide +kernel⟩))
  exact ok_z (by simp [σ0, a0, a1])
theorem ok_295 (j : Nat) : okA 0 (ctA 295 j, σ0 295 j) := by
  by_cases a0 : j = 9
  · subst a0
    exact Or.inl ⟨by decide +kernel, by decide +kernel⟩
  by_cases a1 : j = 11
  · subst a1
    exact Or.inl ⟨by decide +kernel, by decide +kernel⟩
  by_cases a2 : j = 12
  · subst a2
    exact Or.inl ⟨by decide +kernel, by decide +kernel⟩
  by_cases a3 : j = 44
  · subst a3
    exact Or.inl ⟨by decide +kernel, by decide +kernel⟩
  by_cases a4 : j = 45
  · subst a4
    exact Or.inl ⟨by decide +kernel, by decide +kernel⟩
  by_cases a5 : j = 57
  · subst a5
    exact Or.inl ⟨by decide +kernel, by decide +kernel⟩
  by_cases a6 : j = 32
  · subst a6
    exact Or.inl ⟨by decide +kernel, by decide +kernel⟩
  by_cases a7 : j = 43
  · subst a7
    exact Or.inr (Or.inl ⟨by decide +kernel, by decide +kernel⟩)
  exact ok_z (by simp [σ0, a0, a1, a2, a3, a4, a5, a6, a7])
theorem ok_299 (j : Nat) : okA 0 (ctA 299 j, σ0 299 j) := by
  by_cases a0 : j = 0
  · subst a0
    exact Or.inl ⟨by decide +kernel, by decide +kernel⟩
  exact ok_z (by simp [σ0, a0])
theorem okH_0 : okH σ0 := by
  intro k j
  by_cases b0 : k = 0
  · rw [b0]
    exact ok_0 j
  by_cases b1 : k = 3
  · rw [b1]
    exact ok_3 j
  by_cases b2 : k = 4
  · rw [b2]
    exact ok_4 j
  by_cases b3 : k = 8
  · rw [b3]
    exact ok_8 j
  by_cases b4 : k = 170
  · rw [b4]
    exact ok_170 j
  by_cases b5 : k = 255
  · rw [b5]
    exact ok_255 j
  by_cases b6 : k = 198
  · rw [b6]
    exact ok_198 j
  by_cases b7 : k = 295
  · rw [b7]
    exact ok_295 j
  by_cases b8 : k = 299
  · rw [b8]
    exact ok_299 j
  exact ok_z (by simp [σ0, b0, b1, b2, b3, b4, b5, b6, b7, b8])
