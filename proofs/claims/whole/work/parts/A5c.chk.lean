set_option maxRecDepth 100000 in
theorem ckL2 : chkL 112 500 ((cd112.drop 500).take 250) = true := by decide +kernel
set_option maxRecDepth 100000 in
theorem ckL3 : chkL 112 750 ((cd112.drop 750)) = true := by decide +kernel
set_option maxRecDepth 100000 in
theorem cdL_e : cd112 = (cd112.drop 0).take 250 ++ ((cd112.drop 250).take 250 ++ ((cd112.drop 500).take 250 ++ cd112.drop 750)) := by
  have h : ∀ (l : List Ent), l = (l.drop 0).take 250 ++ ((l.drop 250).take 250 ++ ((l.drop 500).take 250 ++ l.drop 750)) := fun l => by
    have e1 := List.take_append_drop 250 (l.drop 500)
    rw [List.drop_drop] at e1
    rw [e1]
    have e2 := List.take_append_drop 250 (l.drop 250)
    rw [List.drop_drop] at e2
    rw [e2]
    have e3 := List.take_append_drop 250 l
    rw [List.drop_zero, e3]
  exact h cd112
set_option maxRecDepth 100000 in
theorem ck112 : chkL 112 0 cd112 = true := by
  rw [cdL_e]
  refine chkL_app _ _ _ _ ckL0 ?_
  rw [show 0 + ((cd112.drop 0).take 250).length = 250 by decide +kernel]
  refine chkL_app _ _ _ _ ckL1 ?_
  rw [show 250 + ((cd112.drop 250).take 250).length = 500 by decide +kernel]
  refine chkL_app _ _ _ _ ckL2 ?_
  rw [show 500 + ((cd112.drop 500).take 250).length = 750 by decide +kernel]
  exact ckL3
