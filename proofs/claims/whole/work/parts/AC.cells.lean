/-! The cells that the constructors make are those of the first heap. -/
theorem σ0_z {k j : Nat} (h : 12 ≤ kd k) (h9 : k ≠ 299) : σ0 k j = 0 := by
  have q : ∀ m ∈ ([0, 3, 4, 8, 170, 255, 198, 295] : List Nat), k ≠ m := by
    have hm : ∀ m ∈ ([0, 3, 4, 8, 170, 255, 198, 295] : List Nat), kd m < 12 := by decide +kernel
    intro m h1 h2
    subst h2
    have := hm _ h1
    omega
  have q0 := q 0 (by decide)
  have q1 := q 3 (by decide)
  have q2 := q 4 (by decide)
  have q3 := q 8 (by decide)
  have q4 := q 170 (by decide)
  have q5 := q 255 (by decide)
  have q6 := q 198 (by decide)
  have q7 := q 295 (by decide)
  simp [σ0, q0, q1, q2, q3, q4, q5, q6, q7, h9]
theorem ce_i {G : Geo} {k N : Nat} (hk : kd k = 20) (hN : ln k = N) (h9 : k ≠ 299) : cellA G σ0 k = .inl (G.2.1 20, N, .inl fun _ => 0) := by
  rw [cell_i hk, hN]
  refine congrArg (fun f => (Sum.inl (G.2.1 20, N, Sum.inl f) : va_E)) (funext fun j => ?_)
  rw [σ0_z (by omega) h9]
  rfl
theorem ce_z {G : Geo} {k N : Nat} (hk : kd k = 22) (hN : ln k = N) (h9 : k ≠ 299) : cellA G σ0 k = .inl (G.2.1 22, N, .inl fun _ => 0) := by
  rw [cell_z hk, hN]
  refine congrArg (fun f => (Sum.inl (G.2.1 22, N, Sum.inl f) : va_E)) (funext fun j => ?_)
  rw [σ0_z (by omega) h9]
  rfl
theorem ce_l {G : Geo} {k N : Nat} (hk : kd k = 21) (hN : ln k = N) (h9 : k ≠ 299) : cellA G σ0 k = .inl (G.2.1 21, N, .inr (.inl fun _ => 0)) := by
  rw [cell_l hk, hN]
  refine congrArg (fun f => (Sum.inl (G.2.1 21, N, Sum.inr (Sum.inl f)) : va_E)) (funext fun j => ?_)
  rw [σ0_z (by omega) h9]
  rfl
theorem ce_m {G : Geo} {B k : Nat} (hG : ∀ k, G.2.2.1 k = B + k) (hk : kd k = 24) (hN : ln k = 6) (hF : fxL.getD k [] = [k + 2, k + 3, k + 4, k + 5, k + 6, k + 7]) : cellA G σ0 k = mat6 G (B + k) := by
  unfold cellA arrA mat6
  rw [hk, hN]
  rw [if_neg (show ¬ (24 : Nat) < 12 by decide), if_neg (show ¬ (24 : Nat) = 21 by decide), if_pos (show (24 : Nat) = 23 ∨ (24 : Nat) = 24 from Or.inr rfl)]
  refine congrArg (fun f => (Sum.inl (G.2.1 24, 6, Sum.inr (Sum.inr (Sum.inr (Sum.inr f)))) : va_E)) (funext fun j => ?_)
  unfold fx
  rw [hF]
  by_cases hj : j < 6
  · have : j = 0 ∨ j = 1 ∨ j = 2 ∨ j = 3 ∨ j = 4 ∨ j = 5 := by omega
    rcases this with h | h | h | h | h | h <;> subst h <;> simp [hG] <;> omega
  · rw [if_neg hj, List.getD_eq_getElem?_getD, List.getElem?_eq_none (by simp; omega)]
    rfl
theorem ce_49 {G : Geo} {B : Nat} (hG : ∀ k, G.2.2.1 k = B + k) : cellA G σ0 49 = .inl (G.2.1 23, 20, .inr (.inr (.inr (.inr (acR (B + 50) 20))))) := by
  have hk : kd 49 = 23 := by decide +kernel
  have hN : ln 49 = 20 := by decide +kernel
  have hF : fxL.getD 49 [] = (List.range 20).map (fun j => 51 + 6 * j) := by decide +kernel
  unfold cellA arrA
  rw [hk, hN]
  rw [if_neg (show ¬ (23 : Nat) < 12 by decide), if_neg (show ¬ (23 : Nat) = 21 by decide), if_pos (show (23 : Nat) = 23 ∨ (23 : Nat) = 24 from Or.inl rfl)]
  refine congrArg (fun f => (Sum.inl (G.2.1 23, 20, Sum.inr (Sum.inr (Sum.inr (Sum.inr f)))) : va_E)) (funext fun j => ?_)
  unfold fx acR
  rw [hF, List.getD_eq_getElem?_getD]
  by_cases hj : j < 20
  · have e1 : ((List.range 20).map (fun j => 51 + 6 * j))[j]? = some (51 + 6 * j) := by simp [hj]
    rw [e1, if_pos hj, Option.getD_some, if_neg (by omega), hG]
    exact congrArg some (by omega)
  · rw [if_neg hj, List.getElem?_eq_none (by simp; omega)]
    rfl
theorem ce_299 {G : Geo} : cellA G σ0 299 = .inl (G.2.1 20, 2, .inl (upd (fun _ => 0) (0 : Int32).toNatClampNeg 4)) := by
  rw [cell_i (by decide +kernel), show ln 299 = 2 by decide +kernel]
  refine congrArg (fun f => (Sum.inl (G.2.1 20, 2, Sum.inl f) : va_E)) (funext fun j => ?_)
  have e0 : (0 : Int32).toNatClampNeg = 0 := by decide
  rw [e0]
  by_cases hj : j = 0
  · subst hj
    first | rfl | decide
  · have h1 : σ0 299 j = 0 := by simp [σ0, hj]
    have h2 : upd (fun _ => (0 : Int32)) 0 4 j = 0 := by simp [upd, hj]
    rw [h1, h2]
    rfl
theorem ce_obj {G : Geo} (k c : Nat) (F : List Nat) (hk : kd k = c) (hc : c < 12) (hF : fxL.getD k [] = F) : cellA G σ0 k = .inr (c, (List.range (nf c)).map fun f => cvA G (if F.getD f 0 = 0 then (ft c f, σ0 k f) else (2, (F.getD f 0 - 1 : Nat)))) := by
  rw [cell_obj hk hc]
  simp only [fval, fx, hF]
theorem zi_m1 : Int32.ofInt (-1) = (-1) := by decide
theorem zi_0 : Int32.ofInt (0) = 0 := by decide
theorem zi_1 : Int32.ofInt (1) = 1 := by decide
theorem zi_4 : Int32.ofInt (4) = 4 := by decide
theorem zl_0 : Int64.ofInt 0 = 0 := by decide
theorem zl_1 : Int64.ofInt 1 = 1 := by decide
set_option maxRecDepth 100000 in
theorem ce_0 {G : Geo} {B : Nat} (hG : ∀ k, G.2.2.1 k = B + k) : cellA G σ0 0 = .inr (10, [.ref (B + 1), .ref (B + 3), .ref (B + 36), .ref (B + 42), .ref (B + 48), .ref (B + 170), .ref (B + 198), .ref (B + 289), .ref (B + 293), .ref (B + 294), .int 0, .int 1]) := by
  have h : cellA G σ0 0 = .inr (10, [.ref (G.2.2.1 1), .ref (G.2.2.1 3), .ref (G.2.2.1 36), .ref (G.2.2.1 42), .ref (G.2.2.1 48), .ref (G.2.2.1 170), .ref (G.2.2.1 198), .ref (G.2.2.1 289), .ref (G.2.2.1 293), .ref (G.2.2.1 294), .int (Int32.ofInt (0)), .int (Int32.ofInt (1))]) := (ce_obj 0 10 [2, 4, 37, 43, 49, 0, 199, 290, 294, 295] (by decide +kernel) (by decide) (by decide +kernel)).trans rfl
  rw [h]
  simp only [hG, zi_m1, zi_0, zi_1, zi_4, zl_0, zl_1, List.cons_append, List.nil_append]
set_option maxRecDepth 100000 in
theorem ce_1 {G : Geo} {B : Nat} (hG : ∀ k, G.2.2.1 k = B + k) : cellA G σ0 1 = .inr (7, [.ref (B + 2), .int 0]) := by
  have h : cellA G σ0 1 = .inr (7, [.ref (G.2.2.1 2), .int (Int32.ofInt (0))]) := (ce_obj 1 7 [3] (by decide +kernel) (by decide) (by decide +kernel)).trans rfl
  rw [h]
  simp only [hG, zi_m1, zi_0, zi_1, zi_4, zl_0, zl_1, List.cons_append, List.nil_append]
set_option maxRecDepth 100000 in
theorem ce_3 {G : Geo} {B : Nat} (hG : ∀ k, G.2.2.1 k = B + k) : cellA G σ0 3 = .inr (5, [.int 0, .int (-1), .ref (B + 4), .ref (B + 8), .int 0, .int 0]) := by
  have h : cellA G σ0 3 = .inr (5, [.int (Int32.ofInt (0)), .int (Int32.ofInt (-1)), .ref (G.2.2.1 4), .ref (G.2.2.1 8), .int (Int32.ofInt (0)), .int (Int32.ofInt (0))]) := (ce_obj 3 5 [0, 0, 5] (by decide +kernel) (by decide) (by decide +kernel)).trans rfl
  rw [h]
  simp only [hG, zi_m1, zi_0, zi_1, zi_4, zl_0, zl_1, List.cons_append, List.nil_append]
set_option maxRecDepth 100000 in
theorem ce_4 {G : Geo} {B : Nat} (hG : ∀ k, G.2.2.1 k = B + k) : cellA G σ0 4 = .inr (9, [.ref (B + 5), .ref (B + 6), .ref (B + 7), .int 0, .int (-1)]) := by
  have h : cellA G σ0 4 = .inr (9, [.ref (G.2.2.1 5), .ref (G.2.2.1 6), .ref (G.2.2.1 7), .int (Int32.ofInt (0)), .int (Int32.ofInt (-1))]) := (ce_obj 4 9 [6, 7, 8] (by decide +kernel) (by decide) (by decide +kernel)).trans rfl
  rw [h]
  simp only [hG, zi_m1, zi_0, zi_1, zi_4, zl_0, zl_1, List.cons_append, List.nil_append]
set_option maxRecDepth 100000 in
theorem ce_8 {G : Geo} {B : Nat} (hG : ∀ k, G.2.2.1 k = B + k) : cellA G σ0 8 = .inr (3, [.int 0, .int 0, .int 0, .int 4, .ref (B + 9), .ref (B + 10), .ref (B + 11), .ref (B + 12), .ref (B + 13), .ref (B + 14), .ref (B + 15), .ref (B + 16), .ref (B + 23), .ref (B + 30)]) := by
  have h : cellA G σ0 8 = .inr (3, [.int (Int32.ofInt (0)), .int (Int32.ofInt (0)), .int (Int32.ofInt (0)), .int (Int32.ofInt (4)), .ref (G.2.2.1 9), .ref (G.2.2.1 10), .ref (G.2.2.1 11), .ref (G.2.2.1 12), .ref (G.2.2.1 13), .ref (G.2.2.1 14), .ref (G.2.2.1 15), .ref (G.2.2.1 16), .ref (G.2.2.1 23), .ref (G.2.2.1 30)]) := (ce_obj 8 3 [0, 0, 0, 0, 10, 11, 12, 13, 14, 15, 16, 17, 24, 31] (by decide +kernel) (by decide) (by decide +kernel)).trans rfl
  rw [h]
  simp only [hG, zi_m1, zi_0, zi_1, zi_4, zl_0, zl_1, List.cons_append, List.nil_append]
set_option maxRecDepth 100000 in
theorem ce_30 {G : Geo} {B : Nat} (hG : ∀ k, G.2.2.1 k = B + k) : cellA G σ0 30 = .inr (6, [.int 0, .int 0, .int 0, .ref (B + 31), .ref (B + 32), .ref (B + 33), .ref (B + 34), .ref (B + 35)]) := by
  have h : cellA G σ0 30 = .inr (6, [.int (Int32.ofInt (0)), .int (Int32.ofInt (0)), .int (Int32.ofInt (0)), .ref (G.2.2.1 31), .ref (G.2.2.1 32), .ref (G.2.2.1 33), .ref (G.2.2.1 34), .ref (G.2.2.1 35)]) := (ce_obj 30 6 [0, 0, 0, 32, 33, 34, 35, 36] (by decide +kernel) (by decide) (by decide +kernel)).trans rfl
  rw [h]
  simp only [hG, zi_m1, zi_0, zi_1, zi_4, zl_0, zl_1, List.cons_append, List.nil_append]
set_option maxRecDepth 100000 in
theorem ce_36 {G : Geo} {B : Nat} (hG : ∀ k, G.2.2.1 k = B + k) : cellA G σ0 36 = .inr (6, [.int 0, .int 0, .int 0, .ref (B + 37), .ref (B + 38), .ref (B + 39), .ref (B + 40), .ref (B + 41)]) := by
  have h : cellA G σ0 36 = .inr (6, [.int (Int32.ofInt (0)), .int (Int32.ofInt (0)), .int (Int32.ofInt (0)), .ref (G.2.2.1 37), .ref (G.2.2.1 38), .ref (G.2.2.1 39), .ref (G.2.2.1 40), .ref (G.2.2.1 41)]) := (ce_obj 36 6 [0, 0, 0, 38, 39, 40, 41, 42] (by decide +kernel) (by decide) (by decide +kernel)).trans rfl
  rw [h]
  simp only [hG, zi_m1, zi_0, zi_1, zi_4, zl_0, zl_1, List.cons_append, List.nil_append]
set_option maxRecDepth 100000 in
theorem ce_42 {G : Geo} {B : Nat} (hG : ∀ k, G.2.2.1 k = B + k) : cellA G σ0 42 = .inr (6, [.int 0, .int 0, .int 0, .ref (B + 43), .ref (B + 44), .ref (B + 45), .ref (B + 46), .ref (B + 47)]) := by
  have h : cellA G σ0 42 = .inr (6, [.int (Int32.ofInt (0)), .int (Int32.ofInt (0)), .int (Int32.ofInt (0)), .ref (G.2.2.1 43), .ref (G.2.2.1 44), .ref (G.2.2.1 45), .ref (G.2.2.1 46), .ref (G.2.2.1 47)]) := (ce_obj 42 6 [0, 0, 0, 44, 45, 46, 47, 48] (by decide +kernel) (by decide) (by decide +kernel)).trans rfl
  rw [h]
  simp only [hG, zi_m1, zi_0, zi_1, zi_4, zl_0, zl_1, List.cons_append, List.nil_append]
set_option maxRecDepth 100000 in
theorem ce_48 {G : Geo} {B : Nat} (hG : ∀ k, G.2.2.1 k = B + k) : cellA G σ0 48 = .inr (0, [.int 0, .ref (B + 49), .int 0]) := by
  have h : cellA G σ0 48 = .inr (0, [.int (Int32.ofInt (0)), .ref (G.2.2.1 49), .int (Int32.ofInt (0))]) := (ce_obj 48 0 [0, 50] (by decide +kernel) (by decide) (by decide +kernel)).trans rfl
  rw [h]
  simp only [hG, zi_m1, zi_0, zi_1, zi_4, zl_0, zl_1, List.cons_append, List.nil_append]
set_option maxRecDepth 100000 in
theorem ce_50 {G : Geo} {B : Nat} (hG : ∀ k, G.2.2.1 k = B + k) : cellA G σ0 50 = .inr (6, [.int 0, .int 0, .int 0, .ref (B + 51), .ref (B + 52), .ref (B + 53), .ref (B + 54), .ref (B + 55)]) := by
  have h : cellA G σ0 50 = .inr (6, [.int (Int32.ofInt (0)), .int (Int32.ofInt (0)), .int (Int32.ofInt (0)), .ref (G.2.2.1 51), .ref (G.2.2.1 52), .ref (G.2.2.1 53), .ref (G.2.2.1 54), .ref (G.2.2.1 55)]) := (ce_obj 50 6 [0, 0, 0, 52, 53, 54, 55, 56] (by decide +kernel) (by decide) (by decide +kernel)).trans rfl
  rw [h]
  simp only [hG, zi_m1, zi_0, zi_1, zi_4, zl_0, zl_1, List.cons_append, List.nil_append]
set_option maxRecDepth 100000 in
theorem ce_56 {G : Geo} {B : Nat} (hG : ∀ k, G.2.2.1 k = B + k) : cellA G σ0 56 = .inr (6, [.int 0, .int 0, .int 0, .ref (B + 57), .ref (B + 58), .ref (B + 59), .ref (B + 60), .ref (B + 61)]) := by
  have h : cellA G σ0 56 = .inr (6, [.int (Int32.ofInt (0)), .int (Int32.ofInt (0)), .int (Int32.ofInt (0)), .ref (G.2.2.1 57), .ref (G.2.2.1 58), .ref (G.2.2.1 59), .ref (G.2.2.1 60), .ref (G.2.2.1 61)]) := (ce_obj 56 6 [0, 0, 0, 58, 59, 60, 61, 62] (by decide +kernel) (by decide) (by decide +kernel)).trans rfl
  rw [h]
  simp only [hG, zi_m1, zi_0, zi_1, zi_4, zl_0, zl_1, List.cons_append, List.nil_append]
set_option maxRecDepth 100000 in
theorem ce_62 {G : Geo} {B : Nat} (hG : ∀ k, G.2.2.1 k = B + k) : cellA G σ0 62 = .inr (6, [.int 0, .int 0, .int 0, .ref (B + 63), .ref (B + 64), .ref (B + 65), .ref (B + 66), .ref (B + 67)]) := by
  have h : cellA G σ0 62 = .inr (6, [.int (Int32.ofInt (0)), .int (Int32.ofInt (0)), .int (Int32.ofInt (0)), .ref (G.2.2.1 63), .ref (G.2.2.1 64), .ref (G.2.2.1 65), .ref (G.2.2.1 66), .ref (G.2.2.1 67)]) := (ce_obj 62 6 [0, 0, 0, 64, 65, 66, 67, 68] (by decide +kernel) (by decide) (by decide +kernel)).trans rfl
  rw [h]
  simp only [hG, zi_m1, zi_0, zi_1, zi_4, zl_0, zl_1, List.cons_append, List.nil_append]
set_option maxRecDepth 100000 in
theorem ce_68 {G : Geo} {B : Nat} (hG : ∀ k, G.2.2.1 k = B + k) : cellA G σ0 68 = .inr (6, [.int 0, .int 0, .int 0, .ref (B + 69), .ref (B + 70), .ref (B + 71), .ref (B + 72), .ref (B + 73)]) := by
  have h : cellA G σ0 68 = .inr (6, [.int (Int32.ofInt (0)), .int (Int32.ofInt (0)), .int (Int32.ofInt (0)), .ref (G.2.2.1 69), .ref (G.2.2.1 70), .ref (G.2.2.1 71), .ref (G.2.2.1 72), .ref (G.2.2.1 73)]) := (ce_obj 68 6 [0, 0, 0, 70, 71, 72, 73, 74] (by decide +kernel) (by decide) (by decide +kernel)).trans rfl
  rw [h]
  simp only [hG, zi_m1, zi_0, zi_1, zi_4, zl_0, zl_1, List.cons_append, List.nil_append]
set_option maxRecDepth 100000 in
theorem ce_74 {G : Geo} {B : Nat} (hG : ∀ k, G.2.2.1 k = B + k) : cellA G σ0 74 = .inr (6, [.int 0, .int 0, .int 0, .ref (B + 75), .ref (B + 76), .ref (B + 77), .ref (B + 78), .ref (B + 79)]) := by
  have h : cellA G σ0 74 = .inr (6, [.int (Int32.ofInt (0)), .int (Int32.ofInt (0)), .int (Int32.ofInt (0)), .ref (G.2.2.1 75), .ref (G.2.2.1 76), .ref (G.2.2.1 77), .ref (G.2.2.1 78), .ref (G.2.2.1 79)]) := (ce_obj 74 6 [0, 0, 0, 76, 77, 78, 79, 80] (by decide +kernel) (by decide) (by decide +kernel)).trans rfl
  rw [h]
  simp only [hG, zi_m1, zi_0, zi_1, zi_4, zl_0, zl_1, List.cons_append, List.nil_append]
set_option maxRecDepth 100000 in
theorem ce_80 {G : Geo} {B : Nat} (hG : ∀ k, G.2.2.1 k = B + k) : cellA G σ0 80 = .inr (6, [.int 0, .int 0, .int 0, .ref (B + 81), .ref (B + 82), .ref (B + 83), .ref (B + 84), .ref (B + 85)]) := by
  have h : cellA G σ0 80 = .inr (6, [.int (Int32.ofInt (0)), .int (Int32.ofInt (0)), .int (Int32.ofInt (0)), .ref (G.2.2.1 81), .ref (G.2.2.1 82), .ref (G.2.2.1 83), .ref (G.2.2.1 84), .ref (G.2.2.1 85)]) := (ce_obj 80 6 [0, 0, 0, 82, 83, 84, 85, 86] (by decide +kernel) (by decide) (by decide +kernel)).trans rfl
  rw [h]
  simp only [hG, zi_m1, zi_0, zi_1, zi_4, zl_0, zl_1, List.cons_append, List.nil_append]
set_option maxRecDepth 100000 in
theorem ce_86 {G : Geo} {B : Nat} (hG : ∀ k, G.2.2.1 k = B + k) : cellA G σ0 86 = .inr (6, [.int 0, .int 0, .int 0, .ref (B + 87), .ref (B + 88), .ref (B + 89), .ref (B + 90), .ref (B + 91)]) := by
  have h : cellA G σ0 86 = .inr (6, [.int (Int32.ofInt (0)), .int (Int32.ofInt (0)), .int (Int32.ofInt (0)), .ref (G.2.2.1 87), .ref (G.2.2.1 88), .ref (G.2.2.1 89), .ref (G.2.2.1 90), .ref (G.2.2.1 91)]) := (ce_obj 86 6 [0, 0, 0, 88, 89, 90, 91, 92] (by decide +kernel) (by decide) (by decide +kernel)).trans rfl
  rw [h]
  simp only [hG, zi_m1, zi_0, zi_1, zi_4, zl_0, zl_1, List.cons_append, List.nil_append]
set_option maxRecDepth 100000 in
theorem ce_92 {G : Geo} {B : Nat} (hG : ∀ k, G.2.2.1 k = B + k) : cellA G σ0 92 = .inr (6, [.int 0, .int 0, .int 0, .ref (B + 93), .ref (B + 94), .ref (B + 95), .ref (B + 96), .ref (B + 97)]) := by
  have h : cellA G σ0 92 = .inr (6, [.int (Int32.ofInt (0)), .int (Int32.ofInt (0)), .int (Int32.ofInt (0)), .ref (G.2.2.1 93), .ref (G.2.2.1 94), .ref (G.2.2.1 95), .ref (G.2.2.1 96), .ref (G.2.2.1 97)]) := (ce_obj 92 6 [0, 0, 0, 94, 95, 96, 97, 98] (by decide +kernel) (by decide) (by decide +kernel)).trans rfl
  rw [h]
  simp only [hG, zi_m1, zi_0, zi_1, zi_4, zl_0, zl_1, List.cons_append, List.nil_append]
set_option maxRecDepth 100000 in
theorem ce_98 {G : Geo} {B : Nat} (hG : ∀ k, G.2.2.1 k = B + k) : cellA G σ0 98 = .inr (6, [.int 0, .int 0, .int 0, .ref (B + 99), .ref (B + 100), .ref (B + 101), .ref (B + 102), .ref (B + 103)]) := by
  have h : cellA G σ0 98 = .inr (6, [.int (Int32.ofInt (0)), .int (Int32.ofInt (0)), .int (Int32.ofInt (0)), .ref (G.2.2.1 99), .ref (G.2.2.1 100), .ref (G.2.2.1 101), .ref (G.2.2.1 102), .ref (G.2.2.1 103)]) := (ce_obj 98 6 [0, 0, 0, 100, 101, 102, 103, 104] (by decide +kernel) (by decide) (by decide +kernel)).trans rfl
  rw [h]
  simp only [hG, zi_m1, zi_0, zi_1, zi_4, zl_0, zl_1, List.cons_append, List.nil_append]
set_option maxRecDepth 100000 in
theorem ce_104 {G : Geo} {B : Nat} (hG : ∀ k, G.2.2.1 k = B + k) : cellA G σ0 104 = .inr (6, [.int 0, .int 0, .int 0, .ref (B + 105), .ref (B + 106), .ref (B + 107), .ref (B + 108), .ref (B + 109)]) := by
  have h : cellA G σ0 104 = .inr (6, [.int (Int32.ofInt (0)), .int (Int32.ofInt (0)), .int (Int32.ofInt (0)), .ref (G.2.2.1 105), .ref (G.2.2.1 106), .ref (G.2.2.1 107), .ref (G.2.2.1 108), .ref (G.2.2.1 109)]) := (ce_obj 104 6 [0, 0, 0, 106, 107, 108, 109, 110] (by decide +kernel) (by decide) (by decide +kernel)).trans rfl
  rw [h]
  simp only [hG, zi_m1, zi_0, zi_1, zi_4, zl_0, zl_1, List.cons_append, List.nil_append]
set_option maxRecDepth 100000 in
theorem ce_110 {G : Geo} {B : Nat} (hG : ∀ k, G.2.2.1 k = B + k) : cellA G σ0 110 = .inr (6, [.int 0, .int 0, .int 0, .ref (B + 111), .ref (B + 112), .ref (B + 113), .ref (B + 114), .ref (B + 115)]) := by
  have h : cellA G σ0 110 = .inr (6, [.int (Int32.ofInt (0)), .int (Int32.ofInt (0)), .int (Int32.ofInt (0)), .ref (G.2.2.1 111), .ref (G.2.2.1 112), .ref (G.2.2.1 113), .ref (G.2.2.1 114), .ref (G.2.2.1 115)]) := (ce_obj 110 6 [0, 0, 0, 112, 113, 114, 115, 116] (by decide +kernel) (by decide) (by decide +kernel)).trans rfl
  rw [h]
  simp only [hG, zi_m1, zi_0, zi_1, zi_4, zl_0, zl_1, List.cons_append, List.nil_append]
set_option maxRecDepth 100000 in
theorem ce_116 {G : Geo} {B : Nat} (hG : ∀ k, G.2.2.1 k = B + k) : cellA G σ0 116 = .inr (6, [.int 0, .int 0, .int 0, .ref (B + 117), .ref (B + 118), .ref (B + 119), .ref (B + 120), .ref (B + 121)]) := by
  have h : cellA G σ0 116 = .inr (6, [.int (Int32.ofInt (0)), .int (Int32.ofInt (0)), .int (Int32.ofInt (0)), .ref (G.2.2.1 117), .ref (G.2.2.1 118), .ref (G.2.2.1 119), .ref (G.2.2.1 120), .ref (G.2.2.1 121)]) := (ce_obj 116 6 [0, 0, 0, 118, 119, 120, 121, 122] (by decide +kernel) (by decide) (by decide +kernel)).trans rfl
  rw [h]
  simp only [hG, zi_m1, zi_0, zi_1, zi_4, zl_0, zl_1, List.cons_append, List.nil_append]
set_option maxRecDepth 100000 in
theorem ce_122 {G : Geo} {B : Nat} (hG : ∀ k, G.2.2.1 k = B + k) : cellA G σ0 122 = .inr (6, [.int 0, .int 0, .int 0, .ref (B + 123), .ref (B + 124), .ref (B + 125), .ref (B + 126), .ref (B + 127)]) := by
  have h : cellA G σ0 122 = .inr (6, [.int (Int32.ofInt (0)), .int (Int32.ofInt (0)), .int (Int32.ofInt (0)), .ref (G.2.2.1 123), .ref (G.2.2.1 124), .ref (G.2.2.1 125), .ref (G.2.2.1 126), .ref (G.2.2.1 127)]) := (ce_obj 122 6 [0, 0, 0, 124, 125, 126, 127, 128] (by decide +kernel) (by decide) (by decide +kernel)).trans rfl
  rw [h]
  simp only [hG, zi_m1, zi_0, zi_1, zi_4, zl_0, zl_1, List.cons_append, List.nil_append]
set_option maxRecDepth 100000 in
theorem ce_128 {G : Geo} {B : Nat} (hG : ∀ k, G.2.2.1 k = B + k) : cellA G σ0 128 = .inr (6, [.int 0, .int 0, .int 0, .ref (B + 129), .ref (B + 130), .ref (B + 131), .ref (B + 132), .ref (B + 133)]) := by
  have h : cellA G σ0 128 = .inr (6, [.int (Int32.ofInt (0)), .int (Int32.ofInt (0)), .int (Int32.ofInt (0)), .ref (G.2.2.1 129), .ref (G.2.2.1 130), .ref (G.2.2.1 131), .ref (G.2.2.1 132), .ref (G.2.2.1 133)]) := (ce_obj 128 6 [0, 0, 0, 130, 131, 132, 133, 134] (by decide +kernel) (by decide) (by decide +kernel)).trans rfl
  rw [h]
  simp only [hG, zi_m1, zi_0, zi_1, zi_4, zl_0, zl_1, List.cons_append, List.nil_append]
set_option maxRecDepth 100000 in
theorem ce_134 {G : Geo} {B : Nat} (hG : ∀ k, G.2.2.1 k = B + k) : cellA G σ0 134 = .inr (6, [.int 0, .int 0, .int 0, .ref (B + 135), .ref (B + 136), .ref (B + 137), .ref (B + 138), .ref (B + 139)]) := by
  have h : cellA G σ0 134 = .inr (6, [.int (Int32.ofInt (0)), .int (Int32.ofInt (0)), .int (Int32.ofInt (0)), .ref (G.2.2.1 135), .ref (G.2.2.1 136), .ref (G.2.2.1 137), .ref (G.2.2.1 138), .ref (G.2.2.1 139)]) := (ce_obj 134 6 [0, 0, 0, 136, 137, 138, 139, 140] (by decide +kernel) (by decide) (by decide +kernel)).trans rfl
  rw [h]
  simp only [hG, zi_m1, zi_0, zi_1, zi_4, zl_0, zl_1, List.cons_append, List.nil_append]
set_option maxRecDepth 100000 in
theorem ce_140 {G : Geo} {B : Nat} (hG : ∀ k, G.2.2.1 k = B + k) : cellA G σ0 140 = .inr (6, [.int 0, .int 0, .int 0, .ref (B + 141), .ref (B + 142), .ref (B + 143), .ref (B + 144), .ref (B + 145)]) := by
  have h : cellA G σ0 140 = .inr (6, [.int (Int32.ofInt (0)), .int (Int32.ofInt (0)), .int (Int32.ofInt (0)), .ref (G.2.2.1 141), .ref (G.2.2.1 142), .ref (G.2.2.1 143), .ref (G.2.2.1 144), .ref (G.2.2.1 145)]) := (ce_obj 140 6 [0, 0, 0, 142, 143, 144, 145, 146] (by decide +kernel) (by decide) (by decide +kernel)).trans rfl
  rw [h]
  simp only [hG, zi_m1, zi_0, zi_1, zi_4, zl_0, zl_1, List.cons_append, List.nil_append]
set_option maxRecDepth 100000 in
theorem ce_146 {G : Geo} {B : Nat} (hG : ∀ k, G.2.2.1 k = B + k) : cellA G σ0 146 = .inr (6, [.int 0, .int 0, .int 0, .ref (B + 147), .ref (B + 148), .ref (B + 149), .ref (B + 150), .ref (B + 151)]) := by
  have h : cellA G σ0 146 = .inr (6, [.int (Int32.ofInt (0)), .int (Int32.ofInt (0)), .int (Int32.ofInt (0)), .ref (G.2.2.1 147), .ref (G.2.2.1 148), .ref (G.2.2.1 149), .ref (G.2.2.1 150), .ref (G.2.2.1 151)]) := (ce_obj 146 6 [0, 0, 0, 148, 149, 150, 151, 152] (by decide +kernel) (by decide) (by decide +kernel)).trans rfl
  rw [h]
  simp only [hG, zi_m1, zi_0, zi_1, zi_4, zl_0, zl_1, List.cons_append, List.nil_append]
set_option maxRecDepth 100000 in
theorem ce_152 {G : Geo} {B : Nat} (hG : ∀ k, G.2.2.1 k = B + k) : cellA G σ0 152 = .inr (6, [.int 0, .int 0, .int 0, .ref (B + 153), .ref (B + 154), .ref (B + 155), .ref (B + 156), .ref (B + 157)]) := by
  have h : cellA G σ0 152 = .inr (6, [.int (Int32.ofInt (0)), .int (Int32.ofInt (0)), .int (Int32.ofInt (0)), .ref (G.2.2.1 153), .ref (G.2.2.1 154), .ref (G.2.2.1 155), .ref (G.2.2.1 156), .ref (G.2.2.1 157)]) := (ce_obj 152 6 [0, 0, 0, 154, 155, 156, 157, 158] (by decide +kernel) (by decide) (by decide +kernel)).trans rfl
  rw [h]
  simp only [hG, zi_m1, zi_0, zi_1, zi_4, zl_0, zl_1, List.cons_append, List.nil_append]
set_option maxRecDepth 100000 in
theorem ce_158 {G : Geo} {B : Nat} (hG : ∀ k, G.2.2.1 k = B + k) : cellA G σ0 158 = .inr (6, [.int 0, .int 0, .int 0, .ref (B + 159), .ref (B + 160), .ref (B + 161), .ref (B + 162), .ref (B + 163)]) := by
  have h : cellA G σ0 158 = .inr (6, [.int (Int32.ofInt (0)), .int (Int32.ofInt (0)), .int (Int32.ofInt (0)), .ref (G.2.2.1 159), .ref (G.2.2.1 160), .ref (G.2.2.1 161), .ref (G.2.2.1 162), .ref (G.2.2.1 163)]) := (ce_obj 158 6 [0, 0, 0, 160, 161, 162, 163, 164] (by decide +kernel) (by decide) (by decide +kernel)).trans rfl
  rw [h]
  simp only [hG, zi_m1, zi_0, zi_1, zi_4, zl_0, zl_1, List.cons_append, List.nil_append]
set_option maxRecDepth 100000 in
theorem ce_164 {G : Geo} {B : Nat} (hG : ∀ k, G.2.2.1 k = B + k) : cellA G σ0 164 = .inr (6, [.int 0, .int 0, .int 0, .ref (B + 165), .ref (B + 166), .ref (B + 167), .ref (B + 168), .ref (B + 169)]) := by
  have h : cellA G σ0 164 = .inr (6, [.int (Int32.ofInt (0)), .int (Int32.ofInt (0)), .int (Int32.ofInt (0)), .ref (G.2.2.1 165), .ref (G.2.2.1 166), .ref (G.2.2.1 167), .ref (G.2.2.1 168), .ref (G.2.2.1 169)]) := (ce_obj 164 6 [0, 0, 0, 166, 167, 168, 169, 170] (by decide +kernel) (by decide) (by decide +kernel)).trans rfl
  rw [h]
  simp only [hG, zi_m1, zi_0, zi_1, zi_4, zl_0, zl_1, List.cons_append, List.nil_append]
set_option maxRecDepth 100000 in
theorem ce_170 {G : Geo} {B : Nat} (hG : ∀ k, G.2.2.1 k = B + k) : cellA G σ0 170 = .inr (3, [.int 0, .int 0, .int 0, .int 4, .ref (B + 171), .ref (B + 172), .ref (B + 173), .ref (B + 174), .ref (B + 175), .ref (B + 176), .ref (B + 177), .ref (B + 178), .ref (B + 185), .ref (B + 192)]) := by
  have h : cellA G σ0 170 = .inr (3, [.int (Int32.ofInt (0)), .int (Int32.ofInt (0)), .int (Int32.ofInt (0)), .int (Int32.ofInt (4)), .ref (G.2.2.1 171), .ref (G.2.2.1 172), .ref (G.2.2.1 173), .ref (G.2.2.1 174), .ref (G.2.2.1 175), .ref (G.2.2.1 176), .ref (G.2.2.1 177), .ref (G.2.2.1 178), .ref (G.2.2.1 185), .ref (G.2.2.1 192)]) := (ce_obj 170 3 [0, 0, 0, 0, 172, 173, 174, 175, 176, 177, 178, 179, 186, 193] (by decide +kernel) (by decide) (by decide +kernel)).trans rfl
  rw [h]
  simp only [hG, zi_m1, zi_0, zi_1, zi_4, zl_0, zl_1, List.cons_append, List.nil_append]
set_option maxRecDepth 100000 in
theorem ce_192 {G : Geo} {B : Nat} (hG : ∀ k, G.2.2.1 k = B + k) : cellA G σ0 192 = .inr (6, [.int 0, .int 0, .int 0, .ref (B + 193), .ref (B + 194), .ref (B + 195), .ref (B + 196), .ref (B + 197)]) := by
  have h : cellA G σ0 192 = .inr (6, [.int (Int32.ofInt (0)), .int (Int32.ofInt (0)), .int (Int32.ofInt (0)), .ref (G.2.2.1 193), .ref (G.2.2.1 194), .ref (G.2.2.1 195), .ref (G.2.2.1 196), .ref (G.2.2.1 197)]) := (ce_obj 192 6 [0, 0, 0, 194, 195, 196, 197, 198] (by decide +kernel) (by decide) (by decide +kernel)).trans rfl
  rw [h]
  simp only [hG, zi_m1, zi_0, zi_1, zi_4, zl_0, zl_1, List.cons_append, List.nil_append]
set_option maxRecDepth 100000 in
theorem ce_198 {G : Geo} {B : Nat} (hG : ∀ k, G.2.2.1 k = B + k) : cellA G σ0 198 = .inr (1, [.ref (B + 199), .ref (B + 216), .ref (B + 247), .ref (B + 248), .ref (B + 249), .ref (B + 250), .ref (B + 251), .int 0, .ref (B + 252), .ref (B + 253), .ref (B + 254), .ref (B + 255), .ref (B + 283), .int 0, .int 0, .int 0, .int 0, .int 0]) := by
  have h : cellA G σ0 198 = .inr (1, [.ref (G.2.2.1 199), .ref (G.2.2.1 216), .ref (G.2.2.1 247), .ref (G.2.2.1 248), .ref (G.2.2.1 249), .ref (G.2.2.1 250), .ref (G.2.2.1 251), .int (Int32.ofInt (0)), .ref (G.2.2.1 252), .ref (G.2.2.1 253), .ref (G.2.2.1 254), .ref (G.2.2.1 255), .ref (G.2.2.1 283), .int (Int32.ofInt (0)), .int (Int32.ofInt (0)), .int (Int32.ofInt (0)), .int (Int32.ofInt (0)), .int (Int32.ofInt (0))]) := (ce_obj 198 1 [200, 217, 248, 249, 250, 251, 252, 0, 253, 254, 255] (by decide +kernel) (by decide) (by decide +kernel)).trans rfl
  rw [h]
  simp only [hG, zi_m1, zi_0, zi_1, zi_4, zl_0, zl_1, List.cons_append, List.nil_append]
set_option maxRecDepth 100000 in
theorem ce_199 {G : Geo} {B : Nat} (hG : ∀ k, G.2.2.1 k = B + k) : cellA G σ0 199 = .inr (8, [.ref (B + 200), .ref (B + 201), .ref (B + 202), .ref (B + 209)]) := by
  have h : cellA G σ0 199 = .inr (8, [.ref (G.2.2.1 200), .ref (G.2.2.1 201), .ref (G.2.2.1 202), .ref (G.2.2.1 209)]) := (ce_obj 199 8 [201, 202, 203, 210] (by decide +kernel) (by decide) (by decide +kernel)).trans rfl
  rw [h]
  simp only [hG, zi_m1, zi_0, zi_1, zi_4, zl_0, zl_1, List.cons_append, List.nil_append]
set_option maxRecDepth 100000 in
theorem ce_216 {G : Geo} {B : Nat} (hG : ∀ k, G.2.2.1 k = B + k) : cellA G σ0 216 = .inr (4, [.ref (B + 217), .ref (B + 224), .ref (B + 231), .ref (B + 238), .ref (B + 245), .ref (B + 246)]) := by
  have h : cellA G σ0 216 = .inr (4, [.ref (G.2.2.1 217), .ref (G.2.2.1 224), .ref (G.2.2.1 231), .ref (G.2.2.1 238), .ref (G.2.2.1 245), .ref (G.2.2.1 246)]) := (ce_obj 216 4 [218, 225, 232, 239, 246, 247] (by decide +kernel) (by decide) (by decide +kernel)).trans rfl
  rw [h]
  simp only [hG, zi_m1, zi_0, zi_1, zi_4, zl_0, zl_1, List.cons_append, List.nil_append]
set_option maxRecDepth 100000 in
theorem ce_255 {G : Geo} {B : Nat} (hG : ∀ k, G.2.2.1 k = B + k) : cellA G σ0 255 = .inr (3, [.int 0, .int 0, .int 0, .int 4, .ref (B + 256), .ref (B + 257), .ref (B + 258), .ref (B + 259), .ref (B + 260), .ref (B + 261), .ref (B + 262), .ref (B + 263), .ref (B + 270), .ref (B + 277)]) := by
  have h : cellA G σ0 255 = .inr (3, [.int (Int32.ofInt (0)), .int (Int32.ofInt (0)), .int (Int32.ofInt (0)), .int (Int32.ofInt (4)), .ref (G.2.2.1 256), .ref (G.2.2.1 257), .ref (G.2.2.1 258), .ref (G.2.2.1 259), .ref (G.2.2.1 260), .ref (G.2.2.1 261), .ref (G.2.2.1 262), .ref (G.2.2.1 263), .ref (G.2.2.1 270), .ref (G.2.2.1 277)]) := (ce_obj 255 3 [0, 0, 0, 0, 257, 258, 259, 260, 261, 262, 263, 264, 271, 278] (by decide +kernel) (by decide) (by decide +kernel)).trans rfl
  rw [h]
  simp only [hG, zi_m1, zi_0, zi_1, zi_4, zl_0, zl_1, List.cons_append, List.nil_append]
set_option maxRecDepth 100000 in
theorem ce_277 {G : Geo} {B : Nat} (hG : ∀ k, G.2.2.1 k = B + k) : cellA G σ0 277 = .inr (6, [.int 0, .int 0, .int 0, .ref (B + 278), .ref (B + 279), .ref (B + 280), .ref (B + 281), .ref (B + 282)]) := by
  have h : cellA G σ0 277 = .inr (6, [.int (Int32.ofInt (0)), .int (Int32.ofInt (0)), .int (Int32.ofInt (0)), .ref (G.2.2.1 278), .ref (G.2.2.1 279), .ref (G.2.2.1 280), .ref (G.2.2.1 281), .ref (G.2.2.1 282)]) := (ce_obj 277 6 [0, 0, 0, 279, 280, 281, 282, 283] (by decide +kernel) (by decide) (by decide +kernel)).trans rfl
  rw [h]
  simp only [hG, zi_m1, zi_0, zi_1, zi_4, zl_0, zl_1, List.cons_append, List.nil_append]
set_option maxRecDepth 100000 in
theorem ce_283 {G : Geo} {B : Nat} (hG : ∀ k, G.2.2.1 k = B + k) : cellA G σ0 283 = .inr (6, [.int 0, .int 0, .int 0, .ref (B + 284), .ref (B + 285), .ref (B + 286), .ref (B + 287), .ref (B + 288)]) := by
  have h : cellA G σ0 283 = .inr (6, [.int (Int32.ofInt (0)), .int (Int32.ofInt (0)), .int (Int32.ofInt (0)), .ref (G.2.2.1 284), .ref (G.2.2.1 285), .ref (G.2.2.1 286), .ref (G.2.2.1 287), .ref (G.2.2.1 288)]) := (ce_obj 283 6 [0, 0, 0, 285, 286, 287, 288, 289] (by decide +kernel) (by decide) (by decide +kernel)).trans rfl
  rw [h]
  simp only [hG, zi_m1, zi_0, zi_1, zi_4, zl_0, zl_1, List.cons_append, List.nil_append]
set_option maxRecDepth 100000 in
theorem ce_289 {G : Geo} {B : Nat} (hG : ∀ k, G.2.2.1 k = B + k) : cellA G σ0 289 = .inr (2, [.int 0, .ref (B + 290), .ref (B + 291), .ref (B + 292), .int 0]) := by
  have h : cellA G σ0 289 = .inr (2, [.int (Int32.ofInt (0)), .ref (G.2.2.1 290), .ref (G.2.2.1 291), .ref (G.2.2.1 292), .int (Int32.ofInt (0))]) := (ce_obj 289 2 [0, 291, 292, 293] (by decide +kernel) (by decide) (by decide +kernel)).trans rfl
  rw [h]
  simp only [hG, zi_m1, zi_0, zi_1, zi_4, zl_0, zl_1, List.cons_append, List.nil_append]
set_option maxRecDepth 100000 in
theorem ce_295 {G : Geo} {B : Nat} (hG : ∀ k, G.2.2.1 k = B + k) : cellA G σ0 295 = .inr (11, [.ref (B + 296), .int 0, .int 0, .int 0, .int 0, .int 0, .int 0, .long 0, .int 0, .int (-1), .int 0, .int (-1), .int (-1), .int 0, .ref (B + 297), .ref (B + 298), .ref (B + 299), .ref (B + 300), .ref (B + 301), .ref (B + 302), .ref (B + 303), .ref (B + 304), .ref (B + 305), .ref (B + 306), .ref (B + 307), .ref (B + 308), .ref (B + 309), .ref (B + 310), .ref (B + 311), .ref (B + 312), .ref (B + 313), .ref (B + 314), .int 1, .ref (B + 315), .ref (B + 316), .ref (B + 317), .ref (B + 318), .ref (B + 319), .ref (B + 320), .ref (B + 321), .ref (B + 322), .int 0, .int 0, .long 1, .int (-1), .int (-1), .int 0, .ref (B + 323), .ref (B + 324), .ref (B + 325), .ref (B + 326), .ref (B + 327), .ref (B + 328), .ref (B + 329), .ref (B + 330), .ref (B + 331), .ref (B + 332), .int (-1), .ref (B + 333), .ref (B + 334), .ref (B + 335), .ref (B + 336), .ref (B + 337), .ref (B + 338), .int 0]) := by
  have h : cellA G σ0 295 = .inr (11, ([.ref (G.2.2.1 296), .int (Int32.ofInt (0)), .int (Int32.ofInt (0)), .int (Int32.ofInt (0)), .int (Int32.ofInt (0)), .int (Int32.ofInt (0)), .int (Int32.ofInt (0)), .long (Int64.ofInt 0), .int (Int32.ofInt (0)), .int (Int32.ofInt (-1)), .int (Int32.ofInt (0)), .int (Int32.ofInt (-1)), .int (Int32.ofInt (-1)), .int (Int32.ofInt (0)), .ref (G.2.2.1 297), .ref (G.2.2.1 298), .ref (G.2.2.1 299), .ref (G.2.2.1 300), .ref (G.2.2.1 301), .ref (G.2.2.1 302), .ref (G.2.2.1 303), .ref (G.2.2.1 304), .ref (G.2.2.1 305), .ref (G.2.2.1 306), .ref (G.2.2.1 307), .ref (G.2.2.1 308), .ref (G.2.2.1 309), .ref (G.2.2.1 310), .ref (G.2.2.1 311), .ref (G.2.2.1 312), .ref (G.2.2.1 313), .ref (G.2.2.1 314), .int (Int32.ofInt (1))] ++ [.ref (G.2.2.1 315), .ref (G.2.2.1 316), .ref (G.2.2.1 317), .ref (G.2.2.1 318), .ref (G.2.2.1 319), .ref (G.2.2.1 320), .ref (G.2.2.1 321), .ref (G.2.2.1 322), .int (Int32.ofInt (0)), .int (Int32.ofInt (0)), .long (Int64.ofInt 1), .int (Int32.ofInt (-1)), .int (Int32.ofInt (-1)), .int (Int32.ofInt (0)), .ref (G.2.2.1 323), .ref (G.2.2.1 324), .ref (G.2.2.1 325), .ref (G.2.2.1 326), .ref (G.2.2.1 327), .ref (G.2.2.1 328), .ref (G.2.2.1 329), .ref (G.2.2.1 330), .ref (G.2.2.1 331), .ref (G.2.2.1 332), .int (Int32.ofInt (-1)), .ref (G.2.2.1 333), .ref (G.2.2.1 334), .ref (G.2.2.1 335), .ref (G.2.2.1 336), .ref (G.2.2.1 337), .ref (G.2.2.1 338), .int (Int32.ofInt (0))])) := (ce_obj 295 11 ([297, 0, 0, 0, 0, 0, 0, 0, 0, 0, 0, 0, 0, 0, 298, 299, 300, 301, 302, 303, 304, 305, 306, 307, 308, 309, 310, 311, 312, 313, 314, 315, 0] ++ [316, 317, 318, 319, 320, 321, 322, 323, 0, 0, 0, 0, 0, 0, 324, 325, 326, 327, 328, 329, 330, 331, 332, 333, 0, 334, 335, 336, 337, 338, 339]) (by decide +kernel) (by decide) (by decide +kernel)).trans rfl
  rw [h]
  simp only [hG, zi_m1, zi_0, zi_1, zi_4, zl_0, zl_1, List.cons_append, List.nil_append]
