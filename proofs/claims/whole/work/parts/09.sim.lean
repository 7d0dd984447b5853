/-! A run of the pure machine is a run of the machine. -/
def AA (G : Geo) : Nat → Prop := fun q => ∃ k, k < NC ∧ G.2.2.1 k = q
def PcA (G : Geo) (vs : List AV) (σ : AH) : Array Value → State → Prop := va_Pc (vs.map (cvA G)) (fun U => va_P G.1 vwCl (wld G σ) U.heap ∧ va_K G.1 vwCl (tysG G) U ∧ va_D (fun _ => True) (wld G σ) ∧ (∀ e ∈ mnT, va_Nw (mnW e) U) ∧ ExA G (AA G) U U.heap)
def QcA (G : Geo) (r : Option AV) (σ' : AH) : Array Value → State → Outcome → State → Prop := fun _ st oc t => oc = .returned (r.map (cvA G)) ∧ okH σ' ∧ (∀ a, r = some a → okA 0 a) ∧ va_P G.1 vwCl (wld G σ') t.heap ∧ va_F (AA G) st t
def wsM (m : Nat) : List Cond := codeW m :: GT
def rmM (m : Nat) : Room := { frames := mFr m, cells := 0, slots := 0, locals := mLo m }
theorem wld_D {G : Geo} {σ σ' : AH} {A A' : Nat → Prop} (h : va_D A (wld G σ)) (hA : ∀ k, k < NC → A' (G.2.2.1 k)) : va_D A' (wld G σ') := by
  have key : ∀ (i : Nat) (q : Nat × va_E), (wld G σ')[i]? = some q → i < NC ∧ q.1 = G.2.2.1 i := by
    intro i q hq
    have hi : i < NC := by
      have := (List.getElem?_eq_some_iff.mp hq).1
      simpa [wld] using this
    rw [wld_at hi] at hq
    cases hq
    exact ⟨hi, rfl⟩
  refine ⟨fun i j a b ha hb hab => ?_, fun k q hq => ?_⟩
  · obtain ⟨hi, ea⟩ := key i a ha
    obtain ⟨hj, eb⟩ := key j b hb
    exact h.1 i j _ _ (wld_at hi) (wld_at hj) (by show G.2.2.1 i = G.2.2.1 j; rw [← ea, ← eb]; exact hab)
  · obtain ⟨hi, e⟩ := key k q hq
    rw [e]
    exact hA k hi
set_option maxRecDepth 100000 in
theorem GT_all : GT.all goodWord = true := by decide +kernel
theorem GT_good {w : Cond} (h : w ∈ GT) : ((w.onTables && w.keeps) = true ∨ ∃ ty, w = .arrayClass ty) := good_of_word (List.all_eq_true.mp GT_all w h)
theorem mIds_in {u : Nat} (h : u < NM) (h2 : u ≠ LAW) : u ∈ mIds := List.mem_filter.mpr ⟨List.mem_range.mpr h, by simpa using h2⟩
theorem code_in {u : Nat} (h : u < NM) (h2 : u ≠ LAW) : codeW u ∈ GT := by
  unfold GT
  exact List.mem_append_left _ (List.mem_map_of_mem (mIds_in h h2))
theorem inst_in {u : Nat} (h : u < NM) (h2 : u ≠ LAW) (h3 : mSt u = false) : Cond.instanceMethod (mY u) ∈ GT := by
  unfold GT
  refine List.mem_append_right _ (List.mem_append_left _ ?_)
  exact List.mem_map_of_mem (f := fun m => Cond.instanceMethod (mY m)) (List.mem_filter.mpr ⟨mIds_in h h2, by simp [h3]⟩)
theorem sel_in {u : Nat} (h : u < NM) (h2 : u ≠ LAW) (h3 : mSt u = false) : Cond.selects (mY u).cls (mY u) (mY u) ∈ GT := by
  unfold GT
  refine List.mem_append_right _ (List.mem_append_right _ (List.mem_append_left _ ?_))
  exact List.mem_map_of_mem (f := fun m => Cond.selects (mY m).cls (mY m) (mY m)) (List.mem_filter.mpr ⟨mIds_in h h2, by simp [h3]⟩)
theorem stat_in {u : Nat} (h : u < NM) (h2 : u ≠ LAW) (h3 : mSt u = true) : Cond.static (mY u) ∈ GT := by
  unfold GT
  refine List.mem_append_right _ (List.mem_append_right _ (List.mem_append_right _ (List.mem_append_left _ ?_)))
  exact List.mem_map_of_mem (f := fun m => Cond.static (mY m)) (List.mem_filter.mpr ⟨mIds_in h h2, by simp [h3]⟩)
theorem ini_in {c : Nat} (h : c < 14) : Cond.initialized (clR c) ∈ GT := by
  unfold GT
  refine List.mem_append_right _ (List.mem_append_right _ (List.mem_append_right _ (List.mem_append_right _ (List.mem_append_left _ ?_))))
  exact List.mem_map_of_mem (f := fun c => Cond.initialized (clR c)) (List.mem_range.mpr h)
theorem ml_in {e : Nat × Nat × Nat} (h : mlT.elem e = true) : mlW e ∈ GT := by
  unfold GT
  refine List.mem_append_right _ (List.mem_append_right _ (List.mem_append_right _ (List.mem_append_right _ (List.mem_append_right _ (List.mem_append_right _ (List.mem_append_left _ ?_))))))
  exact List.mem_map_of_mem (List.elem_iff.mp h)
theorem wsM_good {u : Nat} (h : u < NM) (h2 : u ≠ LAW) : GoodIn GT (wsM u) := fun w hw => by
  rcases List.mem_cons.mp hw with rfl | hw
  · exact ⟨code_in h h2, GT_good (code_in h h2)⟩
  · exact ⟨hw, GT_good hw⟩
set_option maxRecDepth 100000 in
theorem mOk_all : (List.range NM).all (fun u => u == LAW || mOk u) = true := by decide +kernel
theorem mOk_at {u : Nat} (h : u < NM) (h2 : u ≠ LAW) : mOk u = true := by
  have := List.all_eq_true.mp mOk_all u (List.mem_range.mpr h)
  simpa [h2] using this
/-- the locals with which a method begins -/
theorem ent_at {G : Geo} {m : Nat} : ∀ (vs : List AV) (i0 : Nat), (∀ a ∈ vs, okA m a) → ∀ (i : Nat) (a : AV), (aExp vs)[i]? = some a → a.1 ≠ 9 → okA m a ∧ (i0 + i, cvA G a) ∈ lv_args i0 (vs.map (cvA G)) := by
  intro vs
  induction vs with
  | nil => intro i0 _ i a h; simp [aExp] at h
  | cons v r ih =>
    intro i0 hok i a h h9
    have hv := hok v List.mem_cons_self
    have hr : ∀ a ∈ r, okA m a := fun a ha => hok a (List.mem_cons_of_mem _ ha)
    simp only [List.map_cons, lv_args]
    have hcat := cv_cat (G := G) hv
    by_cases h1 : v.1 = 1
    · simp only [aExp, if_pos h1] at h
      have hc2 : (cvA G v).category = 2 := by rw [hcat]; simp [aCat, h1]
      rw [if_pos hc2]
      match i, h with
      | 0, h => simp at h; subst h; exact ⟨hv, List.mem_cons_self⟩
      | 1, h => simp at h; subst h; exact absurd rfl h9
      | j + 2, h =>
        have := ih (i0 + 2) hr j a (by simpa using h) h9
        refine ⟨this.1, List.mem_cons_of_mem _ ?_⟩
        rw [show i0 + (j + 2) = i0 + 2 + j by omega]
        exact this.2
    · simp only [aExp, if_neg h1] at h
      have hc2 : ¬ (cvA G v).category = 2 := by rw [hcat]; simp [aCat, h1]
      rw [if_neg hc2]
      match i, h with
      | 0, h => simp at h; subst h; exact ⟨hv, List.mem_cons_self⟩
      | j + 1, h =>
        have := ih (i0 + 1) hr j a (by simpa using h) h9
        refine ⟨this.1, List.mem_cons_of_mem _ ?_⟩
        rw [show i0 + (j + 1) = i0 + 1 + j by omega]
        exact this.2
theorem exp_len {G : Geo} {m : Nat} (vs : List AV) (h : ∀ a ∈ vs, okA m a) : (lg_sl (vs.map (cvA G))).length = (aExp vs).length := by
  induction vs with
  | nil => rfl
  | cons v r ih =>
    have hv := cv_cat (G := G) (h v List.mem_cons_self)
    have := ih (fun a ha => h a (List.mem_cons_of_mem _ ha))
    unfold lg_sl at this ⊢
    simp only [List.map_cons, List.flatMap_cons, List.length_append, aExp, this]
    by_cases h1 : v.1 = 1
    · rw [if_pos h1, if_pos (by rw [hv]; simp [aCat, h1])]
      simp; omega
    · rw [if_neg h1, if_neg (by rw [hv]; simp [aCat, h1])]
      simp; omega
theorem exp_len2 : ∀ (vs : List AV) (ts : List Nat), vs.map Prod.fst = ts → (aExp vs).length = (aExp (ts.map fun t => (t, 0))).length := by
  intro vs
  induction vs with
  | nil => intro ts h; subst h; rfl
  | cons v r ih =>
    intro ts h
    subst h
    have := ih _ rfl
    simp only [List.map_cons, aExp]
    by_cases h1 : v.1 = 1
    · simp [h1, this]
    · simp [h1, this]
theorem lcA_entry {G : Geo} {m : Nat} {vs : List AV} (hok : ∀ a ∈ vs, okA m a) (hlen : (aExp vs).length ≤ mL m) : lcA G m ((lg_sl (vs.map (cvA G)) ++ List.replicate (mL m - (lg_sl (vs.map (cvA G))).length) Slot.unset).toArray) (aEnt m vs) := by
  have hl := lv_entry (vs.map (cvA G)) (n := mL m) (by rw [exp_len vs hok]; exact hlen)
  refine ⟨_, hl, by simp [aEnt]; omega, fun i a hi h9 => ?_⟩
  unfold aEnt at hi
  by_cases hlt : i < (aExp vs).length
  · rw [List.getElem?_append_left hlt] at hi
    have := ent_at (G := G) (m := m) vs 0 hok i a hi h9
    rw [Nat.zero_add] at this
    exact this
  · rw [List.getElem?_append_right (by omega)] at hi
    have := List.mem_replicate.mp (List.mem_of_getElem? hi)
    rw [this.2] at h9
    exact absurd rfl h9
