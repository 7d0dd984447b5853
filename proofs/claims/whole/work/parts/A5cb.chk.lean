set_option maxRecDepth 100000 in
theorem ckM800 : chkL 112 800 ((cd112.drop 800).take 60) = true := by decide +kernel
set_option maxRecDepth 100000 in
theorem ckM860 : chkL 112 860 ((cd112.drop 860)) = true := by decide +kernel
theorem chk_split (m a n : Nat) (l : List Ent) (h1 : chkL m a ((l.drop a).take n) = true) (hl : a + n ≤ l.length) (h2 : chkL m (a + n) (l.drop (a + n)) = true) : chkL m a (l.drop a) = true := by
  have e : l.drop a = (l.drop a).take n ++ l.drop (a + n) := by
    have := (List.take_append_drop n (l.drop a)).symm
    rwa [List.drop_drop] at this
  have hn : ((l.drop a).take n).length = n := by rw [List.length_take, List.length_drop]; omega
  rw [e]
  refine chkL_app m _ _ a h1 ?_
  rw [hn]
  exact h2
set_option maxRecDepth 100000 in
theorem cdL_len : cd112.length = 910 := by decide +kernel
theorem ck112 : chkL 112 0 cd112 = true := by
  have h := chk_split 112 0 250 cd112 ckL0 (by rw [cdL_len]; decide) (chk_split 112 250 250 cd112 ckL1 (by rw [cdL_len]; decide) (chk_split 112 500 60 cd112 ckM500 (by rw [cdL_len]; decide) (chk_split 112 560 60 cd112 ckM560 (by rw [cdL_len]; decide) (chk_split 112 620 60 cd112 ckM620 (by rw [cdL_len]; decide) (chk_split 112 680 60 cd112 ckM680 (by rw [cdL_len]; decide) (chk_split 112 740 60 cd112 ckM740 (by rw [cdL_len]; decide) (chk_split 112 800 60 cd112 ckM800 (by rw [cdL_len]; decide) ckM860)))))))
  rwa [List.drop_zero] at h
