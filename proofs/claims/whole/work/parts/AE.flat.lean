/-! The constructors' cells, flattened. -/
def LM (G : Geo) (B : Nat) : List va_E := (.inr (10, ownX10 (B + 0 + 1)) :: csX10 G (B + 0 + 1)) ++ .inr (11, ownX11 (B + 295 + 1)) :: csX11 G (B + 295 + 1)
set_option maxRecDepth 100000 in
set_option maxHeartbeats 20000000 in
theorem LM_eq (G : Geo) (B : Nat) : LM G B = LF G B := by
  simp only [LM, LF, csX0, csX1, csX2, csX3, csX4, csX5, csX6, csX7, csX8, csX9, csX10, csX11, tmX11, List.set_cons_zero, List.set_cons_succ, acL, ppl, mat, row8, ownX0, ownX1, ownX2, ownX3, ownX4, ownX5, ownX6, ownX7, ownX8, ownX9, ownX10, ownX11, LF0, LF1, LF2, LF3, LF4, LF5, LF6, LF7, LF8, LF9, LF10, LF11, List.nil_append, List.cons_append, List.append_nil, Nat.add_assoc, Nat.reduceAdd, Nat.reduceMul]
