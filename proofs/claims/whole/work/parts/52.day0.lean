/-! What the class's day does to its cells, in closed form. -/
def cZe (σ : AH) (n : Nat) : AH := fun k j => if k = 254 ∧ j < n then 0 else σ k j
theorem cZe_0 (σ : AH) : cZe σ 0 = σ := by
  funext k j
  simp [cZe]
theorem cZe_s (σ : AH) (n : Nat) : up2 (cZe σ n) 254 n 0 = cZe σ (n + 1) := by
  funext k j
  simp only [up2, cZe]
  by_cases hk : k = 254
  · by_cases e : j = n
    · simp [hk, e]
    · by_cases l : j < n
      · simp [hk, l, show j < n + 1 by omega]
      · simp [hk, e, l, show ¬ j < n + 1 by omega]
  · simp [hk]
def cPl (σ : AH) (q : Nat) (ab : Nat → Bool) (n : Nat) : AH := fun k j =>
  if k = 254 ∧ j < 14 then ((bs (fun p => decide (σ (q + 4) p = (j : Int)) && !ab p) n : Nat) : Int)
  else if k = 247 ∧ j < n then σ (q + 4) j else if k = 248 ∧ j < n then -1 else if k = 249 ∧ j < n then 0 else σ k j
theorem cPl_0 (σ : AH) (q : Nat) (ab : Nat → Bool) : cZe σ 14 = cPl σ q ab 0 := by
  funext k j
  simp [cZe, cPl, bs]
theorem cPl_fr (σ : AH) (q : Nat) (ab : Nat → Bool) (n k j : Nat) (h : k ≠ 254 ∧ k ≠ 247 ∧ k ≠ 248 ∧ k ≠ 249) : cPl σ q ab n k j = σ k j := by
  simp [cPl, h.1, h.2.1, h.2.2.1, h.2.2.2]
theorem cPl_h (σ : AH) (q : Nat) (ab : Nat → Bool) (n s : Nat) (h : s < 14) : cPl σ q ab n 254 s = ((bs (fun p => decide (σ (q + 4) p = (s : Int)) && !ab p) n : Nat) : Int) := by
  simp [cPl, h]
theorem one_sub (ab : Nat → Bool) {n np : Nat} (h : n < np) (h2 : np ≤ 30) : aAnd (aShl 1 ((n : Nat) : Int)) (aXor ((bs ab np : Nat) : Int) (-1)) = if ab n = true then 0 else aShl 1 ((n : Nat) : Int) := by
  rw [bs_shl h h2, bs_sub _ _ h2]
  by_cases e : ab n = true
  · rw [if_pos e, bs_c (g := fun _ => false), bs_zero]; rfl
    intro p _
    by_cases e2 : p = n
    · subst e2; simp [e]
    · simp [e2]
  · rw [if_neg e]
    congr 1
    apply bs_c
    intro p _
    by_cases e2 : p = n
    · subst e2; simp [e]
    · simp [e2]
theorem pl_t {F : Nat → Bool} {n : Nat} {c : Bool} (h : F n = !c) (hn : n ≤ 29) : aOr ((bs F n : Nat) : Int) (if c = true then 0 else aShl 1 ((n : Nat) : Int)) = ((bs F (n + 1) : Nat) : Int) := by
  cases c with
  | true => rw [if_pos rfl]; exact bs_z h hn
  | false => rw [if_neg (by decide)]; exact bs_t h hn
theorem cPl_s (σ : AH) (q : Nat) (ab : Nat → Bool) (n s : Nat) (hs : σ (q + 4) n = (s : Int)) (hs2 : s < 14) (hn : n ≤ 29) :
    up2 (up2 (up2 (up2 (cPl σ q ab n) 247 n ((s : Nat) : Int)) 248 n (-1)) 249 n 0) 254 s (aOr ((bs (fun p => decide (σ (q + 4) p = (s : Int)) && !ab p) n : Nat) : Int) (if ab n = true then 0 else aShl 1 ((n : Nat) : Int))) = cPl σ q ab (n + 1) := by
  funext k j
  simp only [up2, cPl]
  by_cases h1 : k = 254
  · subst h1
    by_cases e : j = s
    · subst e
      simp only [hs2, and_self, if_true]
      exact pl_t (by simp [hs]) hn
    · rw [if_neg (by omega)]
      by_cases l : j < 14
      · simp only [true_and, l, if_true, show ¬ (254 = 249) by decide, show ¬ (254 = 248) by decide, show ¬ (254 = 247) by decide, false_and, if_false]
        apply bs_f
        simp only [hs]
        rw [decide_eq_false (by omega)]
        rfl
      · simp [l]
  · simp only [h1, false_and, if_false]
    by_cases h2 : k = 247
    · subst h2
      by_cases e : j = n
      · subst e; simp [hs]
      · by_cases l : j < n
        · simp [l, e, show j < n + 1 by omega]
        · simp [l, e, show ¬ j < n + 1 by omega]
    · by_cases h3 : k = 248
      · subst h3
        by_cases e : j = n
        · subst e; simp
        · by_cases l : j < n
          · simp [l, e, show j < n + 1 by omega]
          · simp [l, e, show ¬ j < n + 1 by omega]
      · by_cases h4 : k = 249
        · subst h4
          by_cases e : j = n
          · subst e; simp
          · by_cases l : j < n
            · simp [l, e, show j < n + 1 by omega]
            · simp [l, e, show ¬ j < n + 1 by omega]
        · simp [h2, h3, h4]
def cTr (σ : AH) (l n : Nat) : AH := fun k j => if (k = 250 ∨ k = 253 ∨ k = 245 ∨ k = 246) ∧ j < n then 0 else if k = 252 ∧ j < n then σ (l + 5) j else if k = 251 ∧ j < n then -1 else σ k j
theorem cTr_0 (σ : AH) (l : Nat) : σ = cTr σ l 0 := by
  funext k j
  simp [cTr]
theorem cTr_fr (σ : AH) (l n k j : Nat) (h : k ≠ 250 ∧ k ≠ 253 ∧ k ≠ 245 ∧ k ≠ 246 ∧ k ≠ 252 ∧ k ≠ 251) : cTr σ l n k j = σ k j := by
  simp [cTr, h.1, h.2.1, h.2.2.1, h.2.2.2.1, h.2.2.2.2.1, h.2.2.2.2.2]
theorem cTr_s (σ : AH) (l n : Nat) : up2 (up2 (up2 (up2 (up2 (up2 (cTr σ l n) 250 n 0) 252 n (σ (l + 5) n)) 251 n (-1)) 253 n 0) 245 n 0) 246 n 0 = cTr σ l (n + 1) := by
  funext k j
  simp only [up2, cTr]
  by_cases e : j = n
  · subst e
    repeat' split
    all_goals first | rfl | omega
  · have e2 : j < n + 1 ↔ j < n := by omega
    simp only [e, and_false, if_false, e2]
/-- off they get: the first n of them -/
def cOf (σ : AH) (f : Nat → Bool) (s du : Int) (n : Nat) : AH := fun k j => if k = 247 ∧ j < n ∧ f j = true then s else if k = 248 ∧ j < n ∧ f j = true then du else σ k j
theorem cOf_0 (σ : AH) (f : Nat → Bool) (s du : Int) : σ = cOf σ f s du 0 := by
  funext k j
  simp [cOf]
theorem cOf_fr (σ : AH) (f : Nat → Bool) (s du : Int) (n k j : Nat) (h : k ≠ 247 ∧ k ≠ 248) : cOf σ f s du n k j = σ k j := by
  simp [cOf, h.1, h.2]
theorem cOf_t (σ : AH) (f : Nat → Bool) (s du : Int) (n : Nat) (h : f n = true) : up2 (up2 (cOf σ f s du n) 247 n s) 248 n du = cOf σ f s du (n + 1) := by
  funext k j
  simp only [up2, cOf]
  by_cases e : j = n
  · subst e
    by_cases h1 : k = 248
    · subst h1; simp [h]
    · by_cases h2 : k = 247
      · subst h2; simp [h]
      · simp [h1, h2]
  · have e2 : j < n + 1 ↔ j < n := by omega
    simp only [e, and_false, if_false, e2]
theorem cOf_f (σ : AH) (f : Nat → Bool) (s du : Int) (n : Nat) (h : ¬ f n = true) : cOf σ f s du n = cOf σ f s du (n + 1) := by
  funext k j
  simp only [cOf]
  by_cases e : j = n
  · subst e
    simp [h]
  · have e2 : j < n + 1 ↔ j < n := by omega
    simp only [e2]
theorem any_none {f : Nat → Bool} {n : Nat} (h : ((bs f n : Nat) : Int) = 0) : ∀ p, p < n → ¬ f p = true := by
  intro p hp hf
  have := (bs_ne f n).mpr (anyN_t hp hf)
  exact this h
theorem cOf_none (σ : AH) (f : Nat → Bool) (s du : Int) (n m : Nat) (h : ∀ p, p < m → ¬ f p = true) (hn : n ≤ m) : cOf σ f s du n = cOf σ f s du m := by
  funext k j
  simp only [cOf]
  by_cases l : j < m
  · simp [h j l]
  · simp [l, show ¬ j < n by omega]
/-- seats, in the order of people -/
def grc (W : Nat → Bool) (f : Int) : Nat → Int
  | 0 => f
  | n + 1 => if W n = true ∧ 0 < grc W f n then aAdd (grc W f n) (-1) else grc W f n
def grS (W : Nat → Bool) (f : Int) (p : Nat) : Bool := W p && decide (0 < grc W f p)
def cRi (σ : AH) (f : Nat → Bool) (n : Nat) : AH := fun k j => if k = 249 ∧ j < n ∧ f j = true then aAdd (σ 249 j) 1 else σ k j
theorem cRi_0 (σ : AH) (f : Nat → Bool) : σ = cRi σ f 0 := by
  funext k j
  simp [cRi]
theorem cRi_fr (σ : AH) (f : Nat → Bool) (n k j : Nat) (h : k ≠ 249) : cRi σ f n k j = σ k j := by
  simp [cRi, h]
theorem cRi_r (σ : AH) (f : Nat → Bool) (n : Nat) : cRi σ f n 249 n = σ 249 n := by
  simp [cRi]
theorem cRi_t (σ : AH) (f : Nat → Bool) (n : Nat) (h : f n = true) : up2 (cRi σ f n) 249 n (aAdd (σ 249 n) 1) = cRi σ f (n + 1) := by
  funext k j
  simp only [up2, cRi]
  by_cases e : j = n
  · subst e
    by_cases h1 : k = 249
    · subst h1; simp [h]
    · simp [h1]
  · have e2 : j < n + 1 ↔ j < n := by omega
    simp only [e, and_false, if_false, e2]
theorem cRi_f (σ : AH) (f : Nat → Bool) (n : Nat) (h : ¬ f n = true) : cRi σ f n = cRi σ f (n + 1) := by
  funext k j
  simp only [cRi]
  by_cases e : j = n
  · subst e
    simp [h]
  · have e2 : j < n + 1 ↔ j < n := by omega
    simp only [e2]
theorem cRi_none (σ : AH) (f : Nat → Bool) (n m : Nat) (h : ∀ p, p < m → ¬ f p = true) (hn : n ≤ m) : cRi σ f n = cRi σ f m := by
  funext k j
  simp only [cRi]
  by_cases l : j < m
  · simp [h j l]
  · simp [l, show ¬ j < n by omega]
theorem bs_none {f : Nat → Bool} {n m : Nat} (h : ∀ p, p < m → ¬ f p = true) (hn : n ≤ m) : bs f n = bs f m := by
  rw [bs_c (f := f) (g := fun _ => false) (n := n) (fun p hp => by simpa using h p (by omega)), bs_c (f := f) (g := fun _ => false) (n := m) (fun p hp => by simpa using h p hp), bs_zero, bs_zero]
theorem grS_t {W : Nat → Bool} {f : Int} {n : Nat} (h : W n = true) (h2 : 0 < grc W f n) : grS W f n = true := by simp [grS, h, h2]
theorem grS_f1 {W : Nat → Bool} {f : Int} {n : Nat} (h : ¬ W n = true) : grS W f n = false := by simp [grS, h]
theorem grS_f2 {W : Nat → Bool} {f : Int} {n : Nat} (h : grc W f n ≤ 0) : grS W f n = false := by simp [grS]; intro _; omega
