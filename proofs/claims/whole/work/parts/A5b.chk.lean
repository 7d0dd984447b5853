theorem chkL_app (m : Nat) : ∀ (a b : List Ent) (k : Nat), chkL m k a = true → chkL m (k + a.length) b = true → chkL m k (a ++ b) = true := by
  intro a
  induction a with
  | nil => intro b k _ h; simpa using h
  | cons x a ih =>
    intro b k h1 h2
    rw [chkL, Bool.and_eq_true] at h1
    rw [List.cons_append, chkL, Bool.and_eq_true]
    exact ⟨h1.1, ih b (k + 1) h1.2 (by rw [show k + 1 + a.length = k + (x :: a).length by simp; omega]; exact h2)⟩
set_option maxRecDepth 100000 in
theorem ckL0 : chkL 112 0 ((cd112.drop 0).take 250) = true := by decide +kernel
set_option maxRecDepth 100000 in
theorem ckL1 : chkL 112 250 ((cd112.drop 250).take 250) = true := by decide +kernel
