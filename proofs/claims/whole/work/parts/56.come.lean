/-! A train comes: the class's cells behind it, in closed form. -/
theorem hOff_fr (σ : AH) (t k s np : Nat) (F A Wi HR AR : Nat → Bool) (c j : Nat) (ht : t < 6) (h : (c < 232 ∨ 237 < c) ∧ c ≠ 253 ∧ c ≠ 254 ∧ c ≠ 198 ∧ c ≠ 247 ∧ c ≠ 248) : hOff σ t k s np F A Wi HR AR c j = σ c j := by
  unfold hOff
  rw [cOf_fr _ _ _ _ _ _ _ ⟨h.2.2.2.2.1, h.2.2.2.2.2⟩, up2_far _ _ _ _ h.2.2.2.1, up2_far _ _ _ _ h.2.2.1, up2_far _ _ _ _ h.2.1, up2_far _ _ _ _ (by omega)]
theorem hOff_198 (σ : AH) (t k s np : Nat) (F A Wi HR AR : Nat → Bool) (j : Nat) (ht : t < 6) (h : j ≠ 7) : hOff σ t k s np F A Wi HR AR 198 j = σ 198 j := by
  unfold hOff
  rw [cOf_fr _ _ _ _ _ _ _ (by decide), up2_by _ _ _ h, up2_far _ _ _ _ (by decide), up2_far _ _ _ _ (by decide), up2_far _ _ _ _ (by omega)]
theorem hOff_253 (σ : AH) (t k s np : Nat) (F A Wi HR AR : Nat → Bool) : hOff σ t k s np F A Wi HR AR 253 t = ((bs (fun p => A p && !(F p)) np : Nat) : Int) := by
  unfold hOff
  rw [cOf_fr _ _ _ _ _ _ _ (by decide), up2_far _ _ _ _ (by decide), up2_far _ _ _ _ (by decide), up2_hit]
theorem hOff_254 (σ : AH) (t k s np : Nat) (F A Wi HR AR : Nat → Bool) : hOff σ t k s np F A Wi HR AR 254 s = ((bs (fun p => HR p || F p) np : Nat) : Int) := by
  unfold hOff
  rw [cOf_fr _ _ _ _ _ _ _ (by decide), up2_far _ _ _ _ (by decide), up2_hit]
theorem hOn_fr (σ : AH) (t k s np : Nat) (N A HR RI : Nat → Bool) (c j : Nat) (ht : t < 6) (h : (c < 239 ∨ 244 < c) ∧ c ≠ 253 ∧ c ≠ 254 ∧ c ≠ 198 ∧ c ≠ 249) : hOn σ t k s np N A HR RI c j = σ c j := by
  unfold hOn
  rw [up2_far _ _ _ _ h.2.2.2.1, up2_far _ _ _ _ h.2.2.1, up2_far _ _ _ _ h.2.1, up2_far _ _ _ _ (by omega), cRi_fr _ _ _ _ _ h.2.2.2.2]
theorem hOn_198 (σ : AH) (t k s np : Nat) (N A HR RI : Nat → Bool) (j : Nat) (ht : t < 6) (h : j ≠ 15) : hOn σ t k s np N A HR RI 198 j = σ 198 j := by
  unfold hOn
  rw [up2_by _ _ _ h, up2_far _ _ _ _ (by decide), up2_far _ _ _ _ (by decide), up2_far _ _ _ _ (by omega), cRi_fr _ _ _ _ _ (by decide)]
theorem hOn_253 (σ : AH) (t k s np : Nat) (N A HR RI : Nat → Bool) : hOn σ t k s np N A HR RI 253 t = ((bs (fun p => A p || N p) np : Nat) : Int) := by
  unfold hOn
  rw [up2_far _ _ _ _ (by decide), up2_far _ _ _ _ (by decide), up2_hit]
/-- heading for its k-th station -/
def hHd (σ : AH) (t k : Nat) (z : Bool) (lv af st : Int) (BW : Nat → Bool) : AH := up2 (up2 σ 252 t (aAdd (aAdd lv af) (if z = true then st else 0))) 246 t ((bs (fun p => BW p || (z && decide (p = k))) 8 : Nat) : Int)
theorem v_headFor_8 (X : AX) (t k np : Nat) (ht : t < 6) (hk : k < 8) (A BT BW : Nat → Bool) (lv af st : Int) (σ : AH) (hli : σ 198 11 = 8) (hnp2 : np ≤ 10) (hA : σ 253 t = ((bs A np : Nat) : Int)) (hB : σ (203 + t) k = ((bs BT np : Nat) : Int)) (hw : σ 246 t = ((bs BW 8 : Nat) : Int)) (hlv : σ 251 t = lv) (haf : σ (24 + t) k = af) (hst : σ 8 3 = st) : TT X k_X1_headFor (0, [(2, 198), (0, ((t : Nat) : Int)), (0, ((k : Nat) : Int)), (9, 0)], [], σ) (fun r σ' => r = none ∧ σ' = hHd σ t k (anyN (fun p => A p && BT p) np) lv af st BW) := by
  by_cases hz : anyN (fun p => A p && BT p) np = true
  · refine (v_headFor1_8 X t k np ht hk A BT BW σ hli hnp2 hA hB hw hz).mono (fun r σ' h => ⟨h.1, ?_⟩)
    rw [h.2, hz, hlv, haf, hst]
    unfold hHd
    simp
  · rw [Bool.not_eq_true] at hz
    refine (v_headFor0_8 X t k np ht hk A BT BW σ hli hnp2 hA hB hw hz).mono (fun r σ' h => ⟨h.1, ?_⟩)
    rw [h.2, hz, hlv, haf]
    unfold hHd
    funext K j
    simp only [up2, Bool.false_and, Bool.or_false, Bool.false_eq_true, if_false]
    by_cases e : K = 246 ∧ j = t
    · rw [if_pos e, if_neg (by omega), e.1, e.2, hw]
    · rw [if_neg e]
theorem v_headFor_170 (X : AX) (t k np : Nat) (ht : t < 6) (hk : k < 8) (A BT BW : Nat → Bool) (lv af st : Int) (σ : AH) (hli : σ 198 11 = 170) (hnp2 : np ≤ 10) (hA : σ 253 t = ((bs A np : Nat) : Int)) (hB : σ (203 + t) k = ((bs BT np : Nat) : Int)) (hw : σ 246 t = ((bs BW 8 : Nat) : Int)) (hlv : σ 251 t = lv) (haf : σ (186 + t) k = af) (hst : σ 170 3 = st) : TT X k_X1_headFor (0, [(2, 198), (0, ((t : Nat) : Int)), (0, ((k : Nat) : Int)), (9, 0)], [], σ) (fun r σ' => r = none ∧ σ' = hHd σ t k (anyN (fun p => A p && BT p) np) lv af st BW) := by
  by_cases hz : anyN (fun p => A p && BT p) np = true
  · refine (v_headFor1_170 X t k np ht hk A BT BW σ hli hnp2 hA hB hw hz).mono (fun r σ' h => ⟨h.1, ?_⟩)
    rw [h.2, hz, hlv, haf, hst]
    unfold hHd
    simp
  · rw [Bool.not_eq_true] at hz
    refine (v_headFor0_170 X t k np ht hk A BT BW σ hli hnp2 hA hB hw hz).mono (fun r σ' h => ⟨h.1, ?_⟩)
    rw [h.2, hz, hlv, haf]
    unfold hHd
    funext K j
    simp only [up2, Bool.false_and, Bool.or_false, Bool.false_eq_true, if_false]
    by_cases e : K = 246 ∧ j = t
    · rw [if_pos e, if_neg (by omega), e.1, e.2, hw]
    · rw [if_neg e]
/-- what a coming of train t to its k-th call, at s, leaves: F get off, N get on -/
def hCm (σ : AH) (t k s np : Nat) (F N A Wi HR AR RI CL SV ST BW : Nat → Bool) (sp : Bool) (du lv du' : Int) : AH := fun K j =>
  if K = 250 then (if j = t then ((k + 1 : Nat) : Int) else σ K j)
  else if K = 251 then (if j = t then lv else σ K j)
  else if K = 252 then (if j = t then du' else σ K j)
  else if K = 253 then (if j = t then ((bs (fun p => (A p && !(F p)) || N p) np : Nat) : Int) else σ K j)
  else if K = 254 then (if j = s then ((bs (fun p => (HR p || F p) && !(N p)) np : Nat) : Int) else σ K j)
  else if K = 245 then (if j = t then ((bs (fun p => ST p || (sp && decide (p = k))) 8 : Nat) : Int) else σ K j)
  else if K = 246 then (if j = t then ((bs BW 8 : Nat) : Int) else σ K j)
  else if K = 247 then (if j < np ∧ F j = true then ((s : Nat) : Int) else σ K j)
  else if K = 248 then (if j < np ∧ F j = true then du else σ K j)
  else if K = 249 then (if j < np ∧ N j = true then aAdd (σ 249 j) 1 else σ K j)
  else if K = 198 then (if j = 7 then ((bs (fun p => AR p || (F p && Wi p)) np : Nat) : Int) else if j = 15 then ((bs (fun p => RI p || N p) np : Nat) : Int) else if j = 16 then ((bs (fun p => CL p || decide (p = s)) 14 : Nat) : Int) else if j = 17 then ((bs (fun p => SV p || (sp && decide (p = s))) 14 : Nat) : Int) else σ K j)
  else if 218 ≤ K ∧ K < 245 then (if K = 218 + t ∧ j = k then du else if K = 225 + t ∧ j = k then ((bs A np : Nat) : Int) else if K = 232 + t ∧ j = k then ((bs F np : Nat) : Int) else if K = 239 + t ∧ j = k then ((bs N np : Nat) : Int) else σ K j)
  else σ K j
abbrev hC1 (σ : AH) (t k s np : Nat) (A CL : Nat → Bool) (du : Int) : AH := up2 (up2 (up2 (up2 (up2 σ (218 + t) k du) (225 + t) k ((bs A np : Nat) : Int)) (232 + t) k 0) (239 + t) k 0) 198 16 ((bs (fun p => CL p || decide (p = s)) 14 : Nat) : Int)
abbrev hC3 (σ : AH) (t k s np : Nat) (A CL SV ST : Nat → Bool) (du : Int) : AH := up2 (up2 (hC1 σ t k s np A CL du) 198 17 ((bs (fun p => SV p || decide (p = s)) 14 : Nat) : Int)) 245 t ((bs (fun p => ST p || decide (p = k)) 8 : Nat) : Int)
/-- the cells behind getting off and on -/
theorem hC5 (σ : AH) (t k s np : Nat) (F N A Wi HR AR RI CL SV ST BW : Nat → Bool) (du lv du' : Int) (ht : t < 6) (hdu : σ 252 t = du) (K j : Nat) : up2 (up2 (up2 (up2 (hOn (hOff (hC3 σ t k s np A CL SV ST du) t k s np F A Wi HR AR) t k s np N (fun p => A p && !(F p)) (fun p => HR p || F p) RI) 251 t lv) 250 t ((k + 1 : Nat) : Int)) 252 t du') 246 t ((bs BW 8 : Nat) : Int) K j = hCm σ t k s np F N A Wi HR AR RI CL SV ST BW true du lv du' K j := by
  sorry
