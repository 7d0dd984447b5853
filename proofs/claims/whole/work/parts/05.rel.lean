/-! The pure machine's states beside the machine's. -/
abbrev Geo : Type := va_G × (Nat → ClassId) × (Nat → Nat) × Nat
def cvA (G : Geo) (a : AV) : Value := match a.1 with
  | 0 => .int (Int32.ofInt a.2)
  | 1 => .long (Int64.ofInt a.2)
  | 2 => .ref (G.2.2.1 a.2.toNat)
  | _ => .ref G.2.2.2
def okA (m : Nat) (a : AV) : Prop := (a.1 = 0 ∧ (Int32.ofInt a.2).toInt = a.2) ∨ (a.1 = 1 ∧ (Int64.ofInt a.2).toInt = a.2) ∨ (a.1 = 2 ∧ 0 ≤ a.2 ∧ a.2.toNat < NC) ∨ (a.1 = 3 ∧ m = LAW)
def arrA (G : Geo) (σ : AH) (k : Nat) : vp_A := (ln k, if kd k = 21 then .inr (.inl fun j => Int64.ofInt (σ k j)) else if kd k = 23 ∨ kd k = 24 then .inr (.inr (.inr (.inr fun j => if fx k j = 0 then none else some (G.2.2.1 (fx k j - 1))))) else .inl fun j => Int32.ofInt (σ k j))
def cellA (G : Geo) (σ : AH) (k : Nat) : va_E := if kd k < 12 then .inr (kd k, (List.range (nf (kd k))).map fun f => cvA G (fval k (kd k) f σ)) else .inl (G.2.1 (kd k), arrA G σ k)
def wld (G : Geo) (σ : AH) : va_W := (List.range NC).map fun k => (G.2.2.1 k, cellA G σ k)
def tysG (G : Geo) : List (ClassId × FieldType) := [(G.2.1 20, .int), (G.2.1 21, .long), (G.2.1 22, .boolean), (G.2.1 23, .object "BornAboard$People"), (G.2.1 24, .array .int)]
def ctA (k j : Nat) : Nat := if kd k < 12 then ft (kd k) j else if kd k = 21 then 1 else 0
def okH (σ : AH) : Prop := ∀ k j, okA 0 (ctA k j, σ k j)
theorem wld_at {G : Geo} {σ : AH} {k : Nat} (h : k < NC) : (wld G σ)[k]? = some (G.2.2.1 k, cellA G σ k) := by simp [wld, h]
theorem wld_set {G : Geo} {σ σ' : AH} {k : Nat} {e : va_E} (h : k < NC) (hs : ∀ k', k' ≠ k → cellA G σ' k' = cellA G σ k') (he : cellA G σ' k = e) : (wld G σ).set k (G.2.2.1 k, e) = wld G σ' := by
  apply List.ext_getElem?
  intro i
  by_cases hi : i = k
  · subst hi
    rw [List.getElem?_set_self (by simp [wld, h]), wld_at h, he]
  · rw [List.getElem?_set_ne (Ne.symm hi)]
    by_cases hn : i < NC
    · rw [wld_at hn, wld_at hn, hs i hi]
    · simp [wld, hn]
theorem LAW_ne : LAW ≠ 0 := by decide +kernel
theorem okA_m {m m' : Nat} {a : AV} (h : okA m a) (h3 : a.1 ≠ 3) : okA m' a := by
  rcases h with h | h | h | h
  · exact Or.inl h
  · exact Or.inr (Or.inl h)
  · exact Or.inr (Or.inr (Or.inl h))
  · exact absurd h.1 h3
theorem okA_0 {m : Nat} {a : AV} (h : okA 0 a) : okA m a := okA_m h (fun h3 => by
  rcases h with h | h | h | h
  · rw [h3] at h; cases h.1
  · rw [h3] at h; cases h.1
  · rw [h3] at h; cases h.1
  · exact LAW_ne h.2.symm)
theorem okA_int {m : Nat} {a : AV} (h : okA m a) (h0 : a.1 = 0) : (Int32.ofInt a.2).toInt = a.2 := by
  rcases h with h | h | h | h
  · exact h.2
  · rw [h0] at h; cases h.1
  · rw [h0] at h; cases h.1
  · rw [h0] at h; cases h.1
theorem okA_long {m : Nat} {a : AV} (h : okA m a) (h0 : a.1 = 1) : (Int64.ofInt a.2).toInt = a.2 := by
  rcases h with h | h | h | h
  · rw [h0] at h; cases h.1
  · exact h.2
  · rw [h0] at h; cases h.1
  · rw [h0] at h; cases h.1
theorem okA_ref {m : Nat} {a : AV} (h : okA m a) (h0 : a.1 = 2) : 0 ≤ a.2 ∧ a.2.toNat < NC := by
  rcases h with h | h | h | h
  · rw [h0] at h; cases h.1
  · rw [h0] at h; cases h.1
  · exact h.2
  · rw [h0] at h; cases h.1
theorem okA_9 {m : Nat} {a : AV} (h : okA m a) : a.1 ≠ 9 := by
  intro h9
  rcases h with h | h | h | h <;> (rw [h9] at h; cases h.1)
theorem cv_0 {G : Geo} {a : AV} (h : a.1 = 0) : cvA G a = .int (Int32.ofInt a.2) := by simp [cvA, h]
theorem cv_1 {G : Geo} {a : AV} (h : a.1 = 1) : cvA G a = .long (Int64.ofInt a.2) := by simp [cvA, h]
theorem cv_2 {G : Geo} {a : AV} (h : a.1 = 2) : cvA G a = .ref (G.2.2.1 a.2.toNat) := by simp [cvA, h]
theorem cv_3 {G : Geo} {a : AV} (h : a.1 = 3) : cvA G a = .ref G.2.2.2 := by simp [cvA, h]
theorem cv_cat {G : Geo} {m : Nat} {a : AV} (h : okA m a) : (cvA G a).category = aCat a := by
  rcases h with h | h | h | h
  · rw [cv_0 h.1]; simp [Value.category, aCat, h.1]
  · rw [cv_1 h.1]; simp [Value.category, aCat, h.1]
  · rw [cv_2 h.1]; simp [Value.category, aCat, h.1]
  · rw [cv_3 h.1]; simp [Value.category, aCat, h.1]
theorem cv_cats {G : Geo} {m : Nat} {st : List AV} (h : ∀ a ∈ st, okA m a) : ((st.map (cvA G)).map fun v => v.category).sum = aCats st := by
  unfold aCats
  rw [List.map_map]
  congr 1
  apply List.map_congr_left
  intro a ha
  exact cv_cat (h a ha)
/-- the locals -/
def lcA (G : Geo) (m : Nat) (ls : Array Slot) (L : List AV) : Prop := ∃ l : List (Nat × Value), lv_has ls (mL m) l ∧ L.length = mL m ∧ ∀ (i : Nat) (a : AV), L[i]? = some a → a.1 ≠ 9 → okA m a ∧ (i, cvA G a) ∈ l
theorem lcA.get {G : Geo} {m : Nat} {ls : Array Slot} {L : List AV} (h : lcA G m ls L) {u : Nat} {v : AV} (hu : L[u]? = some v) (h9 : v.1 ≠ 9) : okA m v ∧ ls[u]? = some (.val (cvA G v)) := by
  obtain ⟨l, h1, h2, h3⟩ := h
  obtain ⟨h4, h5⟩ := h3 u v hu h9
  exact ⟨h4, h1.2.2 _ h5⟩
theorem lcA.size {G : Geo} {m : Nat} {ls : Array Slot} {L : List AV} (h : lcA G m ls L) : ls.size = mL m := by
  obtain ⟨l, h1, -, -⟩ := h
  exact h1.1
theorem lTag_at {L : List AV} {j : Nat} {a : AV} (h : L[j]? = some a) : lTag L j = a.1 := by
  unfold lTag
  rw [List.getD_eq_getElem?_getD, h]
  rfl
theorem lcA.set1 {G : Geo} {m : Nat} {ls' : Array Slot} {L : List AV} {l : List (Nat × Value)} {u : Nat} {v : AV} (hL : L.length = mL m) (h3 : ∀ (i : Nat) (a : AV), L[i]? = some a → a.1 ≠ 9 → okA m a ∧ (i, cvA G a) ∈ l) (hv : okA m v) (hn : ¬ (0 < u ∧ lTag L (u - 1) = 1))
    (h' : lv_has ls' (mL m) ((u, cvA G v) :: l.filter (fun q => !(q.1 == u) && !(q.1 + 1 == u && q.2.category == 2)))) : lcA G m ls' (L.set u v) := by
  refine ⟨_, h', by simpa using hL, fun i a hi h9 => ?_⟩
  by_cases hiu : i = u
  · subst hiu
    have hlt : i < L.length := by
      have := (List.getElem?_eq_some_iff.mp hi).1
      simpa using this
    rw [List.getElem?_set_self hlt] at hi
    cases hi
    exact ⟨hv, List.mem_cons_self⟩
  · rw [List.getElem?_set_ne (Ne.symm hiu)] at hi
    obtain ⟨h4, h5⟩ := h3 i a hi h9
    refine ⟨h4, List.mem_cons_of_mem _ (List.mem_filter.mpr ⟨h5, ?_⟩)⟩
    have hc : ¬ (i + 1 = u ∧ (cvA G a).category = 2) := by
      rintro ⟨e1, e2⟩
      rw [cv_cat h4] at e2
      have ha : a.1 = 1 := by
        unfold aCat at e2
        by_cases q : a.1 = 1
        · exact q
        · rw [if_neg q] at e2; cases e2
      refine hn ⟨by omega, ?_⟩
      rw [show u - 1 = i by omega, lTag_at hi, ha]
    by_cases e1 : i + 1 = u
    · have : ¬ (cvA G a).category = 2 := fun q => hc ⟨e1, q⟩
      simp [hiu, e1, this]
    · simp [hiu, e1]
theorem lcA.set2 {G : Geo} {m : Nat} {ls' : Array Slot} {L : List AV} {l : List (Nat × Value)} {u : Nat} {v : AV} (hL : L.length = mL m) (h3 : ∀ (i : Nat) (a : AV), L[i]? = some a → a.1 ≠ 9 → okA m a ∧ (i, cvA G a) ∈ l) (hv : okA m v) (hn : ¬ (0 < u ∧ lTag L (u - 1) = 1))
    (h' : lv_has ls' (mL m) ((u, cvA G v) :: l.filter (fun q => !(q.1 == u) && (!(q.1 == u + 1) && !(q.1 + 1 == u && q.2.category == 2))))) : lcA G m ls' ((L.set u v).set (u + 1) (9, 0)) := by
  refine ⟨_, h', by simpa using hL, fun i a hi h9 => ?_⟩
  by_cases hiu1 : i = u + 1
  · subst hiu1
    have hlt : u + 1 < (L.set u v).length := by
      have := (List.getElem?_eq_some_iff.mp hi).1
      simpa using this
    rw [List.getElem?_set_self hlt] at hi
    cases hi
    exact absurd rfl h9
  · rw [List.getElem?_set_ne (Ne.symm hiu1)] at hi
    by_cases hiu : i = u
    · subst hiu
      have hlt : i < L.length := by
        have := (List.getElem?_eq_some_iff.mp hi).1
        simpa using this
      rw [List.getElem?_set_self hlt] at hi
      cases hi
      exact ⟨hv, List.mem_cons_self⟩
    · rw [List.getElem?_set_ne (Ne.symm hiu)] at hi
      obtain ⟨h4, h5⟩ := h3 i a hi h9
      refine ⟨h4, List.mem_cons_of_mem _ (List.mem_filter.mpr ⟨h5, ?_⟩)⟩
      have hc : ¬ (i + 1 = u ∧ (cvA G a).category = 2) := by
        rintro ⟨e1, e2⟩
        rw [cv_cat h4] at e2
        have ha : a.1 = 1 := by
          unfold aCat at e2
          by_cases q : a.1 = 1
          · exact q
          · rw [if_neg q] at e2; cases e2
        refine hn ⟨by omega, ?_⟩
        rw [show u - 1 = i by omega, lTag_at hi, ha]
      by_cases e1 : i + 1 = u
      · have : ¬ (cvA G a).category = 2 := fun q => hc ⟨e1, q⟩
        simp [hiu, hiu1, e1, this]
      · simp [hiu, hiu1, e1]
/-- a state of the pure machine is what the machine holds -/
def RelA (G : Geo) (m : Nat) (A : Nat → Prop) (H0 : Heap) (c : ACfg) (H : Heap) (locs : List Loc) (ls : Array Slot) : Prop :=
  okH c.2.2.2 ∧ (∀ a ∈ c.2.2.1, okA m a) ∧ lcA G m ls c.2.1 ∧ va_P G.1 vwCl (wld G c.2.2.2) H ∧ va_D A (wld G c.2.2.2) ∧ va_S A H0 H locs
theorem ok32 (x : Int32) {m : Nat} : okA m (0, x.toInt) := Or.inl ⟨rfl, by show (Int32.ofInt x.toInt).toInt = x.toInt; rw [Int32.ofInt_toInt]⟩
theorem ok64 (x : Int64) {m : Nat} : okA m (1, x.toInt) := Or.inr (Or.inl ⟨rfl, by show (Int64.ofInt x.toInt).toInt = x.toInt; rw [Int64.ofInt_toInt]⟩)
