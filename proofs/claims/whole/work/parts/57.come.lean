/-! A train comes: the class's cells behind it. -/
def hOf2 (σ : AH) (t k s np : Nat) (F A Wi HR AR : Nat → Bool) (du : Int) : AH := cOf (up2 (up2 (up2 (up2 σ (232 + t) k ((bs F np : Nat) : Int)) 253 t ((bs (fun p => A p && !(F p)) np : Nat) : Int)) 254 s ((bs (fun p => HR p || F p) np : Nat) : Int)) 198 7 ((bs (fun p => AR p || (F p && Wi p)) np : Nat) : Int)) F ((s : Nat) : Int) du np
theorem hOf2_fr (σ : AH) (t k s np : Nat) (F A Wi HR AR : Nat → Bool) (du : Int) (c j : Nat) (ht : t < 6) (h : (c < 232 ∨ 237 < c) ∧ c ≠ 253 ∧ c ≠ 254 ∧ c ≠ 198 ∧ c ≠ 247 ∧ c ≠ 248) : hOf2 σ t k s np F A Wi HR AR du c j = σ c j := by
  unfold hOf2
  rw [cOf_fr _ _ _ _ _ _ _ ⟨h.2.2.2.2.1, h.2.2.2.2.2⟩, up2_far _ _ _ _ h.2.2.2.1, up2_far _ _ _ _ h.2.2.1, up2_far _ _ _ _ h.2.1, up2_far _ _ _ _ (by omega)]
theorem hOf2_198 (σ : AH) (t k s np : Nat) (F A Wi HR AR : Nat → Bool) (du : Int) (j : Nat) (ht : t < 6) (h : j ≠ 7) : hOf2 σ t k s np F A Wi HR AR du 198 j = σ 198 j := by
  unfold hOf2
  rw [cOf_fr _ _ _ _ _ _ _ (by decide), up2_by _ _ _ h, up2_far _ _ _ _ (by decide), up2_far _ _ _ _ (by decide), up2_far _ _ _ _ (by omega)]
theorem hOf2_253 (σ : AH) (t k s np : Nat) (F A Wi HR AR : Nat → Bool) (du : Int) : hOf2 σ t k s np F A Wi HR AR du 253 t = ((bs (fun p => A p && !(F p)) np : Nat) : Int) := by
  unfold hOf2
  rw [cOf_fr _ _ _ _ _ _ _ (by decide), up2_far _ _ _ _ (by decide), up2_far _ _ _ _ (by decide), up2_hit]
theorem hOf2_254 (σ : AH) (t k s np : Nat) (F A Wi HR AR : Nat → Bool) (du : Int) : hOf2 σ t k s np F A Wi HR AR du 254 s = ((bs (fun p => HR p || F p) np : Nat) : Int) := by
  unfold hOf2
  rw [cOf_fr _ _ _ _ _ _ _ (by decide), up2_far _ _ _ _ (by decide), up2_hit]
theorem up2_nq (σ : AH) {k k' j j' : Nat} {x : Int} (h : ¬ (k' = k ∧ j' = j)) : up2 σ k j x k' j' = σ k' j' := by simp only [up2, h, if_false]
theorem cOf_247 (σ : AH) (f : Nat → Bool) (s du : Int) (n j : Nat) (h : j < n) : cOf σ f s du n 247 j = if f j = true then s else σ 247 j := by simp [cOf, h]
theorem cOf_248 (σ : AH) (f : Nat → Bool) (s du : Int) (n j : Nat) (h : j < n) : cOf σ f s du n 248 j = if f j = true then du else σ 248 j := by simp [cOf, h]
theorem cRi_249 (σ : AH) (f : Nat → Bool) (n j : Nat) (h : j < n) : cRi σ f n 249 j = if f j = true then aAdd (σ 249 j) 1 else σ 249 j := by simp [cRi, h]
theorem hOn_fr (σ : AH) (t k s np : Nat) (N A HR RI : Nat → Bool) (c j : Nat) (ht : t < 6) (h : (c < 239 ∨ 244 < c) ∧ c ≠ 253 ∧ c ≠ 254 ∧ c ≠ 198 ∧ c ≠ 249) : hOn σ t k s np N A HR RI c j = σ c j := by
  unfold hOn
  rw [up2_far _ _ _ _ h.2.2.2.1, up2_far _ _ _ _ h.2.2.1, up2_far _ _ _ _ h.2.1, up2_far _ _ _ _ (by omega), cRi_fr _ _ _ _ _ h.2.2.2.2]
theorem hOn_198 (σ : AH) (t k s np : Nat) (N A HR RI : Nat → Bool) (j : Nat) (ht : t < 6) (h : j ≠ 15) : hOn σ t k s np N A HR RI 198 j = σ 198 j := by
  unfold hOn
  rw [up2_by _ _ _ h, up2_far _ _ _ _ (by decide), up2_far _ _ _ _ (by decide), up2_far _ _ _ _ (by omega), cRi_fr _ _ _ _ _ (by decide)]
theorem hOn_253 (σ : AH) (t k s np : Nat) (N A HR RI : Nat → Bool) : hOn σ t k s np N A HR RI 253 t = ((bs (fun p => A p || N p) np : Nat) : Int) := by
  unfold hOn
  rw [up2_far _ _ _ _ (by decide), up2_far _ _ _ _ (by decide), up2_hit]
/-- heading for its k-th station -/
def hHd (σ : AH) (t k : Nat) (z : Bool) (lv af st : Int) (BW : Nat → Bool) : AH := up2 (up2 σ 252 t (aAdd (aAdd lv af) (if z = true then st else 0))) 246 t ((bs (fun p => BW p || (z && decide (p = k))) 8 : Nat) : Int)
/-- what a coming of train t to its k-th call, at s, leaves: F get off, N get on -/
def CM (σ τ : AH) (t k s np : Nat) (F N A Wi HR AR RI CL SV ST BW : Nat → Bool) (sp : Bool) (du lv du' : Int) : Prop :=
  ((∀ j, τ 250 j = if j = t then ((k + 1 : Nat) : Int) else σ 250 j) ∧ (∀ j, τ 251 j = if j = t then lv else σ 251 j) ∧ (∀ j, τ 252 j = if j = t then du' else σ 252 j)
  ∧ (∀ j, τ 253 j = if j = t then ((bs (fun p => A p && !(F p) || N p) np : Nat) : Int) else σ 253 j) ∧ (∀ j, τ 254 j = if j = s then ((bs (fun p => (HR p || F p) && !(N p)) np : Nat) : Int) else σ 254 j)
  ∧ (∀ j, τ 245 j = if j = t then ((bs (fun p => ST p || (sp && decide (p = k))) 8 : Nat) : Int) else σ 245 j) ∧ (∀ j, τ 246 j = if j = t then ((bs BW 8 : Nat) : Int) else σ 246 j))
  ∧ ((∀ j, j < np → τ 247 j = if F j = true then ((s : Nat) : Int) else σ 247 j) ∧ (∀ j, j < np → τ 248 j = if F j = true then du else σ 248 j) ∧ (∀ j, j < np → τ 249 j = if N j = true then aAdd (σ 249 j) 1 else σ 249 j))
  ∧ (τ 198 7 = ((bs (fun p => AR p || (F p && Wi p)) np : Nat) : Int) ∧ τ 198 15 = ((bs (fun p => RI p || N p) np : Nat) : Int) ∧ τ 198 16 = ((bs (fun p => CL p || decide (p = s)) 14 : Nat) : Int) ∧ τ 198 17 = ((bs (fun p => SV p || (sp && decide (p = s))) 14 : Nat) : Int))
  ∧ ((∀ t' j, t' < 6 → τ (218 + t') j = if t' = t ∧ j = k then du else σ (218 + t') j) ∧ (∀ t' j, t' < 6 → τ (225 + t') j = if t' = t ∧ j = k then ((bs A np : Nat) : Int) else σ (225 + t') j) ∧ (∀ t' j, t' < 6 → τ (232 + t') j = if t' = t ∧ j = k then ((bs F np : Nat) : Int) else σ (232 + t') j) ∧ (∀ t' j, t' < 6 → τ (239 + t') j = if t' = t ∧ j = k then ((bs N np : Nat) : Int) else σ (239 + t') j))
  ∧ ((∀ K j, (K < 198 ∨ (198 < K ∧ K < 218) ∨ 254 < K) → τ K j = σ K j) ∧ (∀ j, j ≠ 7 ∧ j ≠ 15 ∧ j ≠ 16 ∧ j ≠ 17 → τ 198 j = σ 198 j))
theorem v_headFor_8 (X : AX) (t k np : Nat) (ht : t < 6) (hk : k < 8) (A BT BW : Nat → Bool) (lv af st : Int) (σ : AH) (hli : σ 198 11 = 8) (hnp2 : np ≤ 10) (hA : σ 253 t = ((bs A np : Nat) : Int)) (hB : σ (203 + t) k = ((bs BT np : Nat) : Int)) (hw : σ 246 t = ((bs BW 8 : Nat) : Int)) (hlv : σ 251 t = lv) (haf : σ (24 + t) k = af) (hst : σ 8 3 = st) : TT X k_X1_headFor (0, [(2, 198), (0, ((t : Nat) : Int)), (0, ((k : Nat) : Int)), (9, 0)], [], σ) (fun r σ' => r = none ∧ σ' = hHd σ t k (anyN (fun p => A p && BT p) np) lv af st BW) := by
  by_cases hz : anyN (fun p => A p && BT p) np = true
  · refine (v_headFor1_8 X t k np ht hk A BT BW σ hli hnp2 hA hB hw hz).mono (fun r σ' h => ⟨h.1, ?_⟩)
    rw [h.2, hz, hlv, haf, hst]
    unfold hHd
    simp
  · rw [Bool.not_eq_true] at hz
    refine (v_headFor0_8 X t k np ht hk A BT BW σ hli hnp2 hA hB hw hz).mono (fun r σ' h => ⟨h.1, ?_⟩)
    rw [h.2, hz, hlv, haf]
    unfold hHd
    funext K j
    simp only [up2, Bool.false_and, Bool.or_false, Bool.false_eq_true, if_false]
    by_cases e : K = 246 ∧ j = t
    · rw [if_pos e, if_neg (by omega), e.1, e.2, hw]
    · rw [if_neg e]
theorem v_lOff0_8_36 (X : AX) (t k s np : Nat) (ht : t < 6) (hk : k < 8) (hs2 : s < 14) (A Wi H K HR AR : Nat → Bool) (du : Int) (σ : AH) (hli : σ 198 11 = 8) (hpe : σ 198 12 = 36) (hc : σ 36 0 = (np : Int)) (hnp2 : np ≤ 10) (hs : σ (17 + t) k = (s : Int)) (hA : σ 253 t = ((bs A np : Nat) : Int)) (hW : σ 201 s = ((bs Wi np : Nat) : Int)) (hH : σ 198 13 = ((bs H np : Nat) : Int)) (hK : σ 198 14 = ((bs K np : Nat) : Int)) (hR : σ 254 s = ((bs HR np : Nat) : Int)) (hAr : σ 198 7 = ((bs AR np : Nat) : Int)) (hdu : σ 252 t = du) : TT X k_X1_letOff (0, [(2, 198), (0, ((t : Nat) : Int)), (0, ((k : Nat) : Int)), (0, 0), (9, 0), (9, 0), (9, 0)], [], σ) (fun r σ' => r = none ∧ σ' = hOf2 σ t k s np (fun p => A p && Wi p && !(H p) && !(K p)) A Wi HR AR du) :=
  (v_letOff0_8_36 X t k s np ht hk hs2 A Wi H K HR AR σ hli hpe hc hnp2 hs hA hW hH hK hR hAr).mono (fun r σ' h => ⟨h.1, by rw [h.2]; unfold hOff hOf2; rw [hdu]⟩)
theorem v_lOn0_8_36 (X : AX) (t k s np : Nat) (ht : t < 6) (hk : k < 8) (hs2 : s < 14) (A H LA HR RI : Nat → Bool) (se : Int) (σ : AH) (hli : σ 198 11 = 8) (hpe : σ 198 12 = 36) (hc : σ 36 0 = (np : Int)) (hnp2 : np ≤ 10) (hs : σ (17 + t) k = (s : Int)) (hA : σ 253 t = ((bs A np : Nat) : Int)) (hH : σ 198 13 = ((bs H np : Nat) : Int)) (hR : σ 254 s = ((bs HR np : Nat) : Int)) (hRi : σ 198 15 = ((bs RI np : Nat) : Int)) (hLA : σ (210 + t) k = ((bs LA np : Nat) : Int)) (hse : σ 14 t = se) : TT X k_X1_letOn (0, [(2, 198), (0, ((t : Nat) : Int)), (0, ((k : Nat) : Int)), (0, 0), (9, 0), (9, 0), (9, 0), (9, 0), (9, 0)], [], σ) (fun r σ' => r = none ∧ σ' = hOn σ t k s np (grS (fun p => HR p && ((H p && !(RI p)) || (LA p && !(H p)))) (aSub se ((cnt A np : Nat) : Int))) A HR RI) :=
  (v_letOn0_8_36 X t k s np ht hk hs2 A H LA HR RI σ hli hpe hc hnp2 hs hA hH hR hRi hLA).mono (fun r σ' h => ⟨h.1, by rw [h.2, hse]⟩)
theorem v_lOff1_8_36 (X : AX) (t k s np : Nat) (ht : t < 6) (hk : k < 8) (hs2 : s < 14) (A Wi H K HR AR : Nat → Bool) (du : Int) (σ : AH) (hli : σ 198 11 = 8) (hpe : σ 198 12 = 36) (hc : σ 36 0 = (np : Int)) (hnp2 : np ≤ 10) (hs : σ (17 + t) k = (s : Int)) (hA : σ 253 t = ((bs A np : Nat) : Int)) (hW : σ 201 s = ((bs Wi np : Nat) : Int)) (hH : σ 198 13 = ((bs H np : Nat) : Int)) (hK : σ 198 14 = ((bs K np : Nat) : Int)) (hR : σ 254 s = ((bs HR np : Nat) : Int)) (hAr : σ 198 7 = ((bs AR np : Nat) : Int)) (hdu : σ 252 t = du) : TT X k_X1_letOff (0, [(2, 198), (0, ((t : Nat) : Int)), (0, ((k : Nat) : Int)), (0, 1), (9, 0), (9, 0), (9, 0)], [], σ) (fun r σ' => r = none ∧ σ' = hOf2 σ t k s np A A Wi HR AR du) :=
  (v_letOff1_8_36 X t k s np ht hk hs2 A Wi H K HR AR σ hli hpe hc hnp2 hs hA hW hH hK hR hAr).mono (fun r σ' h => ⟨h.1, by rw [h.2]; unfold hOff hOf2; rw [hdu]⟩)
theorem v_lOn1_8_36 (X : AX) (t k s np : Nat) (ht : t < 6) (hk : k < 8) (hs2 : s < 14) (A H LA HR RI : Nat → Bool) (se : Int) (σ : AH) (hli : σ 198 11 = 8) (hpe : σ 198 12 = 36) (hc : σ 36 0 = (np : Int)) (hnp2 : np ≤ 10) (hs : σ (17 + t) k = (s : Int)) (hA : σ 253 t = ((bs A np : Nat) : Int)) (hH : σ 198 13 = ((bs H np : Nat) : Int)) (hR : σ 254 s = ((bs HR np : Nat) : Int)) (hRi : σ 198 15 = ((bs RI np : Nat) : Int)) (hLA : σ (210 + t) k = ((bs LA np : Nat) : Int)) (hse : σ 14 t = se) : TT X k_X1_letOn (0, [(2, 198), (0, ((t : Nat) : Int)), (0, ((k : Nat) : Int)), (0, 1), (9, 0), (9, 0), (9, 0), (9, 0), (9, 0)], [], σ) (fun r σ' => r = none ∧ σ' = hOn σ t k s np (fun _ => false) A HR RI) :=
  (v_letOn1_8_36 X t k s np ht hk hs2 A H LA HR RI σ hli hpe hc hnp2 hs hA hH hR hRi).mono (fun r σ' h => ⟨h.1, by rw [h.2, show grS (fun _ => false) (aSub (σ 14 t) ((cnt A np : Nat) : Int)) = fun _ => false from funext (fun p => by simp [grS])]⟩)
theorem v_lOff0_8_42 (X : AX) (t k s np : Nat) (ht : t < 6) (hk : k < 8) (hs2 : s < 14) (A Wi H K HR AR : Nat → Bool) (du : Int) (σ : AH) (hli : σ 198 11 = 8) (hpe : σ 198 12 = 42) (hc : σ 42 0 = (np : Int)) (hnp2 : np ≤ 10) (hs : σ (17 + t) k = (s : Int)) (hA : σ 253 t = ((bs A np : Nat) : Int)) (hW : σ 201 s = ((bs Wi np : Nat) : Int)) (hH : σ 198 13 = ((bs H np : Nat) : Int)) (hK : σ 198 14 = ((bs K np : Nat) : Int)) (hR : σ 254 s = ((bs HR np : Nat) : Int)) (hAr : σ 198 7 = ((bs AR np : Nat) : Int)) (hdu : σ 252 t = du) : TT X k_X1_letOff (0, [(2, 198), (0, ((t : Nat) : Int)), (0, ((k : Nat) : Int)), (0, 0), (9, 0), (9, 0), (9, 0)], [], σ) (fun r σ' => r = none ∧ σ' = hOf2 σ t k s np (fun p => A p && Wi p && !(H p) && !(K p)) A Wi HR AR du) :=
  (v_letOff0_8_42 X t k s np ht hk hs2 A Wi H K HR AR σ hli hpe hc hnp2 hs hA hW hH hK hR hAr).mono (fun r σ' h => ⟨h.1, by rw [h.2]; unfold hOff hOf2; rw [hdu]⟩)
theorem v_lOn0_8_42 (X : AX) (t k s np : Nat) (ht : t < 6) (hk : k < 8) (hs2 : s < 14) (A H LA HR RI : Nat → Bool) (se : Int) (σ : AH) (hli : σ 198 11 = 8) (hpe : σ 198 12 = 42) (hc : σ 42 0 = (np : Int)) (hnp2 : np ≤ 10) (hs : σ (17 + t) k = (s : Int)) (hA : σ 253 t = ((bs A np : Nat) : Int)) (hH : σ 198 13 = ((bs H np : Nat) : Int)) (hR : σ 254 s = ((bs HR np : Nat) : Int)) (hRi : σ 198 15 = ((bs RI np : Nat) : Int)) (hLA : σ (210 + t) k = ((bs LA np : Nat) : Int)) (hse : σ 14 t = se) : TT X k_X1_letOn (0, [(2, 198), (0, ((t : Nat) : Int)), (0, ((k : Nat) : Int)), (0, 0), (9, 0), (9, 0), (9, 0), (9, 0), (9, 0)], [], σ) (fun r σ' => r = none ∧ σ' = hOn σ t k s np (grS (fun p => HR p && ((H p && !(RI p)) || (LA p && !(H p)))) (aSub se ((cnt A np : Nat) : Int))) A HR RI) :=
  (v_letOn0_8_42 X t k s np ht hk hs2 A H LA HR RI σ hli hpe hc hnp2 hs hA hH hR hRi hLA).mono (fun r σ' h => ⟨h.1, by rw [h.2, hse]⟩)
theorem v_lOff1_8_42 (X : AX) (t k s np : Nat) (ht : t < 6) (hk : k < 8) (hs2 : s < 14) (A Wi H K HR AR : Nat → Bool) (du : Int) (σ : AH) (hli : σ 198 11 = 8) (hpe : σ 198 12 = 42) (hc : σ 42 0 = (np : Int)) (hnp2 : np ≤ 10) (hs : σ (17 + t) k = (s : Int)) (hA : σ 253 t = ((bs A np : Nat) : Int)) (hW : σ 201 s = ((bs Wi np : Nat) : Int)) (hH : σ 198 13 = ((bs H np : Nat) : Int)) (hK : σ 198 14 = ((bs K np : Nat) : Int)) (hR : σ 254 s = ((bs HR np : Nat) : Int)) (hAr : σ 198 7 = ((bs AR np : Nat) : Int)) (hdu : σ 252 t = du) : TT X k_X1_letOff (0, [(2, 198), (0, ((t : Nat) : Int)), (0, ((k : Nat) : Int)), (0, 1), (9, 0), (9, 0), (9, 0)], [], σ) (fun r σ' => r = none ∧ σ' = hOf2 σ t k s np A A Wi HR AR du) :=
  (v_letOff1_8_42 X t k s np ht hk hs2 A Wi H K HR AR σ hli hpe hc hnp2 hs hA hW hH hK hR hAr).mono (fun r σ' h => ⟨h.1, by rw [h.2]; unfold hOff hOf2; rw [hdu]⟩)
theorem v_lOn1_8_42 (X : AX) (t k s np : Nat) (ht : t < 6) (hk : k < 8) (hs2 : s < 14) (A H LA HR RI : Nat → Bool) (se : Int) (σ : AH) (hli : σ 198 11 = 8) (hpe : σ 198 12 = 42) (hc : σ 42 0 = (np : Int)) (hnp2 : np ≤ 10) (hs : σ (17 + t) k = (s : Int)) (hA : σ 253 t = ((bs A np : Nat) : Int)) (hH : σ 198 13 = ((bs H np : Nat) : Int)) (hR : σ 254 s = ((bs HR np : Nat) : Int)) (hRi : σ 198 15 = ((bs RI np : Nat) : Int)) (hLA : σ (210 + t) k = ((bs LA np : Nat) : Int)) (hse : σ 14 t = se) : TT X k_X1_letOn (0, [(2, 198), (0, ((t : Nat) : Int)), (0, ((k : Nat) : Int)), (0, 1), (9, 0), (9, 0), (9, 0), (9, 0), (9, 0)], [], σ) (fun r σ' => r = none ∧ σ' = hOn σ t k s np (fun _ => false) A HR RI) :=
  (v_letOn1_8_42 X t k s np ht hk hs2 A H LA HR RI σ hli hpe hc hnp2 hs hA hH hR hRi).mono (fun r σ' h => ⟨h.1, by rw [h.2, show grS (fun _ => false) (aSub (σ 14 t) ((cnt A np : Nat) : Int)) = fun _ => false from funext (fun p => by simp [grS])]⟩)
theorem v_headFor_170 (X : AX) (t k np : Nat) (ht : t < 6) (hk : k < 8) (A BT BW : Nat → Bool) (lv af st : Int) (σ : AH) (hli : σ 198 11 = 170) (hnp2 : np ≤ 10) (hA : σ 253 t = ((bs A np : Nat) : Int)) (hB : σ (203 + t) k = ((bs BT np : Nat) : Int)) (hw : σ 246 t = ((bs BW 8 : Nat) : Int)) (hlv : σ 251 t = lv) (haf : σ (186 + t) k = af) (hst : σ 170 3 = st) : TT X k_X1_headFor (0, [(2, 198), (0, ((t : Nat) : Int)), (0, ((k : Nat) : Int)), (9, 0)], [], σ) (fun r σ' => r = none ∧ σ' = hHd σ t k (anyN (fun p => A p && BT p) np) lv af st BW) := by
  by_cases hz : anyN (fun p => A p && BT p) np = true
  · refine (v_headFor1_170 X t k np ht hk A BT BW σ hli hnp2 hA hB hw hz).mono (fun r σ' h => ⟨h.1, ?_⟩)
    rw [h.2, hz, hlv, haf, hst]
    unfold hHd
    simp
  · rw [Bool.not_eq_true] at hz
    refine (v_headFor0_170 X t k np ht hk A BT BW σ hli hnp2 hA hB hw hz).mono (fun r σ' h => ⟨h.1, ?_⟩)
    rw [h.2, hz, hlv, haf]
    unfold hHd
    funext K j
    simp only [up2, Bool.false_and, Bool.or_false, Bool.false_eq_true, if_false]
    by_cases e : K = 246 ∧ j = t
    · rw [if_pos e, if_neg (by omega), e.1, e.2, hw]
    · rw [if_neg e]
theorem v_lOff0_170_36 (X : AX) (t k s np : Nat) (ht : t < 6) (hk : k < 8) (hs2 : s < 14) (A Wi H K HR AR : Nat → Bool) (du : Int) (σ : AH) (hli : σ 198 11 = 170) (hpe : σ 198 12 = 36) (hc : σ 36 0 = (np : Int)) (hnp2 : np ≤ 10) (hs : σ (179 + t) k = (s : Int)) (hA : σ 253 t = ((bs A np : Nat) : Int)) (hW : σ 201 s = ((bs Wi np : Nat) : Int)) (hH : σ 198 13 = ((bs H np : Nat) : Int)) (hK : σ 198 14 = ((bs K np : Nat) : Int)) (hR : σ 254 s = ((bs HR np : Nat) : Int)) (hAr : σ 198 7 = ((bs AR np : Nat) : Int)) (hdu : σ 252 t = du) : TT X k_X1_letOff (0, [(2, 198), (0, ((t : Nat) : Int)), (0, ((k : Nat) : Int)), (0, 0), (9, 0), (9, 0), (9, 0)], [], σ) (fun r σ' => r = none ∧ σ' = hOf2 σ t k s np (fun p => A p && Wi p && !(H p) && !(K p)) A Wi HR AR du) :=
  (v_letOff0_170_36 X t k s np ht hk hs2 A Wi H K HR AR σ hli hpe hc hnp2 hs hA hW hH hK hR hAr).mono (fun r σ' h => ⟨h.1, by rw [h.2]; unfold hOff hOf2; rw [hdu]⟩)
theorem v_lOn0_170_36 (X : AX) (t k s np : Nat) (ht : t < 6) (hk : k < 8) (hs2 : s < 14) (A H LA HR RI : Nat → Bool) (se : Int) (σ : AH) (hli : σ 198 11 = 170) (hpe : σ 198 12 = 36) (hc : σ 36 0 = (np : Int)) (hnp2 : np ≤ 10) (hs : σ (179 + t) k = (s : Int)) (hA : σ 253 t = ((bs A np : Nat) : Int)) (hH : σ 198 13 = ((bs H np : Nat) : Int)) (hR : σ 254 s = ((bs HR np : Nat) : Int)) (hRi : σ 198 15 = ((bs RI np : Nat) : Int)) (hLA : σ (210 + t) k = ((bs LA np : Nat) : Int)) (hse : σ 176 t = se) : TT X k_X1_letOn (0, [(2, 198), (0, ((t : Nat) : Int)), (0, ((k : Nat) : Int)), (0, 0), (9, 0), (9, 0), (9, 0), (9, 0), (9, 0)], [], σ) (fun r σ' => r = none ∧ σ' = hOn σ t k s np (grS (fun p => HR p && ((H p && !(RI p)) || (LA p && !(H p)))) (aSub se ((cnt A np : Nat) : Int))) A HR RI) :=
  (v_letOn0_170_36 X t k s np ht hk hs2 A H LA HR RI σ hli hpe hc hnp2 hs hA hH hR hRi hLA).mono (fun r σ' h => ⟨h.1, by rw [h.2, hse]⟩)
theorem v_lOff1_170_36 (X : AX) (t k s np : Nat) (ht : t < 6) (hk : k < 8) (hs2 : s < 14) (A Wi H K HR AR : Nat → Bool) (du : Int) (σ : AH) (hli : σ 198 11 = 170) (hpe : σ 198 12 = 36) (hc : σ 36 0 = (np : Int)) (hnp2 : np ≤ 10) (hs : σ (179 + t) k = (s : Int)) (hA : σ 253 t = ((bs A np : Nat) : Int)) (hW : σ 201 s = ((bs Wi np : Nat) : Int)) (hH : σ 198 13 = ((bs H np : Nat) : Int)) (hK : σ 198 14 = ((bs K np : Nat) : Int)) (hR : σ 254 s = ((bs HR np : Nat) : Int)) (hAr : σ 198 7 = ((bs AR np : Nat) : Int)) (hdu : σ 252 t = du) : TT X k_X1_letOff (0, [(2, 198), (0, ((t : Nat) : Int)), (0, ((k : Nat) : Int)), (0, 1), (9, 0), (9, 0), (9, 0)], [], σ) (fun r σ' => r = none ∧ σ' = hOf2 σ t k s np A A Wi HR AR du) :=
  (v_letOff1_170_36 X t k s np ht hk hs2 A Wi H K HR AR σ hli hpe hc hnp2 hs hA hW hH hK hR hAr).mono (fun r σ' h => ⟨h.1, by rw [h.2]; unfold hOff hOf2; rw [hdu]⟩)
theorem v_lOn1_170_36 (X : AX) (t k s np : Nat) (ht : t < 6) (hk : k < 8) (hs2 : s < 14) (A H LA HR RI : Nat → Bool) (se : Int) (σ : AH) (hli : σ 198 11 = 170) (hpe : σ 198 12 = 36) (hc : σ 36 0 = (np : Int)) (hnp2 : np ≤ 10) (hs : σ (179 + t) k = (s : Int)) (hA : σ 253 t = ((bs A np : Nat) : Int)) (hH : σ 198 13 = ((bs H np : Nat) : Int)) (hR : σ 254 s = ((bs HR np : Nat) : Int)) (hRi : σ 198 15 = ((bs RI np : Nat) : Int)) (hLA : σ (210 + t) k = ((bs LA np : Nat) : Int)) (hse : σ 176 t = se) : TT X k_X1_letOn (0, [(2, 198), (0, ((t : Nat) : Int)), (0, ((k : Nat) : Int)), (0, 1), (9, 0), (9, 0), (9, 0), (9, 0), (9, 0)], [], σ) (fun r σ' => r = none ∧ σ' = hOn σ t k s np (fun _ => false) A HR RI) :=
  (v_letOn1_170_36 X t k s np ht hk hs2 A H LA HR RI σ hli hpe hc hnp2 hs hA hH hR hRi).mono (fun r σ' h => ⟨h.1, by rw [h.2, show grS (fun _ => false) (aSub (σ 176 t) ((cnt A np : Nat) : Int)) = fun _ => false from funext (fun p => by simp [grS])]⟩)
theorem v_lOff0_170_42 (X : AX) (t k s np : Nat) (ht : t < 6) (hk : k < 8) (hs2 : s < 14) (A Wi H K HR AR : Nat → Bool) (du : Int) (σ : AH) (hli : σ 198 11 = 170) (hpe : σ 198 12 = 42) (hc : σ 42 0 = (np : Int)) (hnp2 : np ≤ 10) (hs : σ (179 + t) k = (s : Int)) (hA : σ 253 t = ((bs A np : Nat) : Int)) (hW : σ 201 s = ((bs Wi np : Nat) : Int)) (hH : σ 198 13 = ((bs H np : Nat) : Int)) (hK : σ 198 14 = ((bs K np : Nat) : Int)) (hR : σ 254 s = ((bs HR np : Nat) : Int)) (hAr : σ 198 7 = ((bs AR np : Nat) : Int)) (hdu : σ 252 t = du) : TT X k_X1_letOff (0, [(2, 198), (0, ((t : Nat) : Int)), (0, ((k : Nat) : Int)), (0, 0), (9, 0), (9, 0), (9, 0)], [], σ) (fun r σ' => r = none ∧ σ' = hOf2 σ t k s np (fun p => A p && Wi p && !(H p) && !(K p)) A Wi HR AR du) :=
  (v_letOff0_170_42 X t k s np ht hk hs2 A Wi H K HR AR σ hli hpe hc hnp2 hs hA hW hH hK hR hAr).mono (fun r σ' h => ⟨h.1, by rw [h.2]; unfold hOff hOf2; rw [hdu]⟩)
theorem v_lOn0_170_42 (X : AX) (t k s np : Nat) (ht : t < 6) (hk : k < 8) (hs2 : s < 14) (A H LA HR RI : Nat → Bool) (se : Int) (σ : AH) (hli : σ 198 11 = 170) (hpe : σ 198 12 = 42) (hc : σ 42 0 = (np : Int)) (hnp2 : np ≤ 10) (hs : σ (179 + t) k = (s : Int)) (hA : σ 253 t = ((bs A np : Nat) : Int)) (hH : σ 198 13 = ((bs H np : Nat) : Int)) (hR : σ 254 s = ((bs HR np : Nat) : Int)) (hRi : σ 198 15 = ((bs RI np : Nat) : Int)) (hLA : σ (210 + t) k = ((bs LA np : Nat) : Int)) (hse : σ 176 t = se) : TT X k_X1_letOn (0, [(2, 198), (0, ((t : Nat) : Int)), (0, ((k : Nat) : Int)), (0, 0), (9, 0), (9, 0), (9, 0), (9, 0), (9, 0)], [], σ) (fun r σ' => r = none ∧ σ' = hOn σ t k s np (grS (fun p => HR p && ((H p && !(RI p)) || (LA p && !(H p)))) (aSub se ((cnt A np : Nat) : Int))) A HR RI) :=
  (v_letOn0_170_42 X t k s np ht hk hs2 A H LA HR RI σ hli hpe hc hnp2 hs hA hH hR hRi hLA).mono (fun r σ' h => ⟨h.1, by rw [h.2, hse]⟩)
theorem v_lOff1_170_42 (X : AX) (t k s np : Nat) (ht : t < 6) (hk : k < 8) (hs2 : s < 14) (A Wi H K HR AR : Nat → Bool) (du : Int) (σ : AH) (hli : σ 198 11 = 170) (hpe : σ 198 12 = 42) (hc : σ 42 0 = (np : Int)) (hnp2 : np ≤ 10) (hs : σ (179 + t) k = (s : Int)) (hA : σ 253 t = ((bs A np : Nat) : Int)) (hW : σ 201 s = ((bs Wi np : Nat) : Int)) (hH : σ 198 13 = ((bs H np : Nat) : Int)) (hK : σ 198 14 = ((bs K np : Nat) : Int)) (hR : σ 254 s = ((bs HR np : Nat) : Int)) (hAr : σ 198 7 = ((bs AR np : Nat) : Int)) (hdu : σ 252 t = du) : TT X k_X1_letOff (0, [(2, 198), (0, ((t : Nat) : Int)), (0, ((k : Nat) : Int)), (0, 1), (9, 0), (9, 0), (9, 0)], [], σ) (fun r σ' => r = none ∧ σ' = hOf2 σ t k s np A A Wi HR AR du) :=
  (v_letOff1_170_42 X t k s np ht hk hs2 A Wi H K HR AR σ hli hpe hc hnp2 hs hA hW hH hK hR hAr).mono (fun r σ' h => ⟨h.1, by rw [h.2]; unfold hOff hOf2; rw [hdu]⟩)
theorem v_lOn1_170_42 (X : AX) (t k s np : Nat) (ht : t < 6) (hk : k < 8) (hs2 : s < 14) (A H LA HR RI : Nat → Bool) (se : Int) (σ : AH) (hli : σ 198 11 = 170) (hpe : σ 198 12 = 42) (hc : σ 42 0 = (np : Int)) (hnp2 : np ≤ 10) (hs : σ (179 + t) k = (s : Int)) (hA : σ 253 t = ((bs A np : Nat) : Int)) (hH : σ 198 13 = ((bs H np : Nat) : Int)) (hR : σ 254 s = ((bs HR np : Nat) : Int)) (hRi : σ 198 15 = ((bs RI np : Nat) : Int)) (hLA : σ (210 + t) k = ((bs LA np : Nat) : Int)) (hse : σ 176 t = se) : TT X k_X1_letOn (0, [(2, 198), (0, ((t : Nat) : Int)), (0, ((k : Nat) : Int)), (0, 1), (9, 0), (9, 0), (9, 0), (9, 0), (9, 0)], [], σ) (fun r σ' => r = none ∧ σ' = hOn σ t k s np (fun _ => false) A HR RI) :=
  (v_letOn1_170_42 X t k s np ht hk hs2 A H LA HR RI σ hli hpe hc hnp2 hs hA hH hR hRi).mono (fun r σ' h => ⟨h.1, by rw [h.2, show grS (fun _ => false) (aSub (σ 176 t) ((cnt A np : Nat) : Int)) = fun _ => false from funext (fun p => by simp [grS])]⟩)
theorem cm_A (t k s np lt : Nat) (ht : t < 6) (hlt2 : 2 ≤ lt ∧ lt ≤ 8) (hkl : k < lt) (hs2 : s < 14) (A Wi H K HR AR RI LA BA BT CL SV ST BW : Nat → Bool) (du se af st : Int) (σ : AH) (hnp2 : np ≤ 10) (hA : σ 253 t = ((bs A np : Nat) : Int)) (hR : σ 254 s = ((bs HR np : Nat) : Int)) (hAr : σ 198 7 = ((bs AR np : Nat) : Int)) (hRi : σ 198 15 = ((bs RI np : Nat) : Int)) (hSV : σ 198 17 = ((bs SV 14 : Nat) : Int)) (hST : σ 245 t = ((bs ST 8 : Nat) : Int)) (hBW : σ 246 t = ((bs BW 8 : Nat) : Int)) (hdu : σ 252 t = du) (hk0 : k = 0) (hk1 : k + 1 < lt) : CM σ (hHd (up2 (up2 (hOn (hOf2 (up2 (up2 (up2 (up2 (up2 (up2 (up2 σ (218 + t) k du) (225 + t) k ((bs A np : Nat) : Int)) (232 + t) k 0) (239 + t) k 0) 198 16 ((bs (fun p => CL p || (decide (p = s))) 14 : Nat) : Int)) 198 17 ((bs (fun p => SV p || (decide (p = s))) 14 : Nat) : Int)) 245 t ((bs (fun p => ST p || (decide (p = k))) 8 : Nat) : Int)) t k s np (fun p => A p && Wi p && !(H p) && !(K p)) A Wi HR AR du) t k s np (grS (fun p => (fun p => HR p || (fun p => A p && Wi p && !(H p) && !(K p)) p) p && ((H p && !(RI p)) || (LA p && !(H p)))) (aSub se ((cnt (fun p => A p && !((fun p => A p && Wi p && !(H p) && !(K p)) p)) np : Nat) : Int))) (fun p => A p && !((fun p => A p && Wi p && !(H p) && !(K p)) p)) (fun p => HR p || (fun p => A p && Wi p && !(H p) && !(K p)) p) RI) 251 t (aAdd du 0)) 250 t ((k + 1 : Nat) : Int)) t (k + 1) (anyN (fun p => (fun p => (fun p => A p && !((fun p => A p && Wi p && !(H p) && !(K p)) p)) p || (grS (fun p => (fun p => HR p || (fun p => A p && Wi p && !(H p) && !(K p)) p) p && ((H p && !(RI p)) || (LA p && !(H p)))) (aSub se ((cnt (fun p => A p && !((fun p => A p && Wi p && !(H p) && !(K p)) p)) np : Nat) : Int))) p) p && BT p) np) (aAdd du 0) af st BW) t k s np (fun p => A p && Wi p && !(H p) && !(K p)) (grS (fun p => (fun p => HR p || (fun p => A p && Wi p && !(H p) && !(K p)) p) p && ((H p && !(RI p)) || (LA p && !(H p)))) (aSub se ((cnt (fun p => A p && !((fun p => A p && Wi p && !(H p) && !(K p)) p)) np : Nat) : Int))) A Wi HR AR RI CL SV ST (fun p => BW p || ((anyN (fun p => (fun p => (fun p => A p && !((fun p => A p && Wi p && !(H p) && !(K p)) p)) p || (grS (fun p => (fun p => HR p || (fun p => A p && Wi p && !(H p) && !(K p)) p) p && ((H p && !(RI p)) || (LA p && !(H p)))) (aSub se ((cnt (fun p => A p && !((fun p => A p && Wi p && !(H p) && !(K p)) p)) np : Nat) : Int))) p) p && BT p) np) && decide (p = k + 1))) true du (aAdd du 0) (aAdd (aAdd (aAdd du 0) af) (if (anyN (fun p => (fun p => (fun p => A p && !((fun p => A p && Wi p && !(H p) && !(K p)) p)) p || (grS (fun p => (fun p => HR p || (fun p => A p && Wi p && !(H p) && !(K p)) p) p && ((H p && !(RI p)) || (LA p && !(H p)))) (aSub se ((cnt (fun p => A p && !((fun p => A p && Wi p && !(H p) && !(K p)) p)) np : Nat) : Int))) p) p && BT p) np) = true then st else 0)) := by
  generalize (grS (fun p => (fun p => HR p || (fun p => A p && Wi p && !(H p) && !(K p)) p) p && ((H p && !(RI p)) || (LA p && !(H p)))) (aSub se ((cnt (fun p => A p && !((fun p => A p && Wi p && !(H p) && !(K p)) p)) np : Nat) : Int))) = NN
  unfold CM
  simp only [hHd, hOn, hOf2]
  refine ⟨⟨?_, ?_, ?_, ?_, ?_, ?_, ?_⟩, ⟨?_, ?_, ?_⟩, ⟨?_, ?_, ?_, ?_⟩, ⟨?_, ?_, ?_, ?_⟩, ?_, ?_⟩
  · intro j
    by_cases e : j = t
    · subst e
      rw [if_pos rfl, up2_nq _ (by omega), up2_nq _ (by omega), up2_hit]
      all_goals simp only [Bool.true_and]
    · rw [if_neg e, up2_nq _ (by omega), up2_nq _ (by omega), up2_nq _ (by omega), up2_nq _ (by omega), up2_nq _ (by omega), up2_nq _ (by omega), up2_nq _ (by omega), up2_nq _ (by omega), cRi_fr _ _ _ _ _ (by omega), cOf_fr _ _ _ _ _ _ _ (by omega), up2_nq _ (by omega), up2_nq _ (by omega), up2_nq _ (by omega), up2_nq _ (by omega), up2_nq _ (by omega), up2_nq _ (by omega), up2_nq _ (by omega), up2_nq _ (by omega), up2_nq _ (by omega), up2_nq _ (by omega), up2_nq _ (by omega)]
  · intro j
    by_cases e : j = t
    · subst e
      rw [if_pos rfl, up2_nq _ (by omega), up2_nq _ (by omega), up2_nq _ (by omega), up2_hit]
      all_goals simp only [Bool.true_and]
    · rw [if_neg e, up2_nq _ (by omega), up2_nq _ (by omega), up2_nq _ (by omega), up2_nq _ (by omega), up2_nq _ (by omega), up2_nq _ (by omega), up2_nq _ (by omega), up2_nq _ (by omega), cRi_fr _ _ _ _ _ (by omega), cOf_fr _ _ _ _ _ _ _ (by omega), up2_nq _ (by omega), up2_nq _ (by omega), up2_nq _ (by omega), up2_nq _ (by omega), up2_nq _ (by omega), up2_nq _ (by omega), up2_nq _ (by omega), up2_nq _ (by omega), up2_nq _ (by omega), up2_nq _ (by omega), up2_nq _ (by omega)]
  · intro j
    by_cases e : j = t
    · subst e
      rw [if_pos rfl, up2_nq _ (by omega), up2_hit]
      all_goals simp only [Bool.true_and]
    · rw [if_neg e, up2_nq _ (by omega), up2_nq _ (by omega), up2_nq _ (by omega), up2_nq _ (by omega), up2_nq _ (by omega), up2_nq _ (by omega), up2_nq _ (by omega), up2_nq _ (by omega), cRi_fr _ _ _ _ _ (by omega), cOf_fr _ _ _ _ _ _ _ (by omega), up2_nq _ (by omega), up2_nq _ (by omega), up2_nq _ (by omega), up2_nq _ (by omega), up2_nq _ (by omega), up2_nq _ (by omega), up2_nq _ (by omega), up2_nq _ (by omega), up2_nq _ (by omega), up2_nq _ (by omega), up2_nq _ (by omega)]
  · intro j
    by_cases e : j = t
    · subst e
      rw [if_pos rfl, up2_nq _ (by omega), up2_nq _ (by omega), up2_nq _ (by omega), up2_nq _ (by omega), up2_nq _ (by omega), up2_nq _ (by omega), up2_hit]
      all_goals simp only [Bool.true_and]
    · rw [if_neg e, up2_nq _ (by omega), up2_nq _ (by omega), up2_nq _ (by omega), up2_nq _ (by omega), up2_nq _ (by omega), up2_nq _ (by omega), up2_nq _ (by omega), up2_nq _ (by omega), cRi_fr _ _ _ _ _ (by omega), cOf_fr _ _ _ _ _ _ _ (by omega), up2_nq _ (by omega), up2_nq _ (by omega), up2_nq _ (by omega), up2_nq _ (by omega), up2_nq _ (by omega), up2_nq _ (by omega), up2_nq _ (by omega), up2_nq _ (by omega), up2_nq _ (by omega), up2_nq _ (by omega), up2_nq _ (by omega)]
  · intro j
    by_cases e : j = s
    · subst e
      rw [if_pos rfl, up2_nq _ (by omega), up2_nq _ (by omega), up2_nq _ (by omega), up2_nq _ (by omega), up2_nq _ (by omega), up2_hit]
      all_goals simp only [Bool.true_and]
    · rw [if_neg e, up2_nq _ (by omega), up2_nq _ (by omega), up2_nq _ (by omega), up2_nq _ (by omega), up2_nq _ (by omega), up2_nq _ (by omega), up2_nq _ (by omega), up2_nq _ (by omega), cRi_fr _ _ _ _ _ (by omega), cOf_fr _ _ _ _ _ _ _ (by omega), up2_nq _ (by omega), up2_nq _ (by omega), up2_nq _ (by omega), up2_nq _ (by omega), up2_nq _ (by omega), up2_nq _ (by omega), up2_nq _ (by omega), up2_nq _ (by omega), up2_nq _ (by omega), up2_nq _ (by omega), up2_nq _ (by omega)]
  · intro j
    by_cases e : j = t
    · subst e
      rw [if_pos rfl, up2_nq _ (by omega), up2_nq _ (by omega), up2_nq _ (by omega), up2_nq _ (by omega), up2_nq _ (by omega), up2_nq _ (by omega), up2_nq _ (by omega), up2_nq _ (by omega), cRi_fr _ _ _ _ _ (by omega), cOf_fr _ _ _ _ _ _ _ (by omega), up2_nq _ (by omega), up2_nq _ (by omega), up2_nq _ (by omega), up2_nq _ (by omega), up2_hit]
      all_goals simp only [Bool.true_and]
    · rw [if_neg e, up2_nq _ (by omega), up2_nq _ (by omega), up2_nq _ (by omega), up2_nq _ (by omega), up2_nq _ (by omega), up2_nq _ (by omega), up2_nq _ (by omega), up2_nq _ (by omega), cRi_fr _ _ _ _ _ (by omega), cOf_fr _ _ _ _ _ _ _ (by omega), up2_nq _ (by omega), up2_nq _ (by omega), up2_nq _ (by omega), up2_nq _ (by omega), up2_nq _ (by omega), up2_nq _ (by omega), up2_nq _ (by omega), up2_nq _ (by omega), up2_nq _ (by omega), up2_nq _ (by omega), up2_nq _ (by omega)]
  · intro j
    by_cases e : j = t
    · subst e
      rw [if_pos rfl, up2_hit]
      all_goals simp only [Bool.true_and]
    · rw [if_neg e, up2_nq _ (by omega), up2_nq _ (by omega), up2_nq _ (by omega), up2_nq _ (by omega), up2_nq _ (by omega), up2_nq _ (by omega), up2_nq _ (by omega), up2_nq _ (by omega), cRi_fr _ _ _ _ _ (by omega), cOf_fr _ _ _ _ _ _ _ (by omega), up2_nq _ (by omega), up2_nq _ (by omega), up2_nq _ (by omega), up2_nq _ (by omega), up2_nq _ (by omega), up2_nq _ (by omega), up2_nq _ (by omega), up2_nq _ (by omega), up2_nq _ (by omega), up2_nq _ (by omega), up2_nq _ (by omega)]
  · intro j hj
    rw [up2_nq _ (by omega), up2_nq _ (by omega), up2_nq _ (by omega), up2_nq _ (by omega), up2_nq _ (by omega), up2_nq _ (by omega), up2_nq _ (by omega), up2_nq _ (by omega), cRi_fr _ _ _ _ _ (by omega), cOf_247 _ _ _ _ _ _ hj]
    have hb : ∀ x : Int, x = σ 247 j → True := fun _ _ => trivial
    rw [up2_nq _ (by omega), up2_nq _ (by omega), up2_nq _ (by omega), up2_nq _ (by omega), up2_nq _ (by omega), up2_nq _ (by omega), up2_nq _ (by omega), up2_nq _ (by omega), up2_nq _ (by omega), up2_nq _ (by omega), up2_nq _ (by omega)]
  · intro j hj
    rw [up2_nq _ (by omega), up2_nq _ (by omega), up2_nq _ (by omega), up2_nq _ (by omega), up2_nq _ (by omega), up2_nq _ (by omega), up2_nq _ (by omega), up2_nq _ (by omega), cRi_fr _ _ _ _ _ (by omega), cOf_248 _ _ _ _ _ _ hj]
    have hb : ∀ x : Int, x = σ 248 j → True := fun _ _ => trivial
    rw [up2_nq _ (by omega), up2_nq _ (by omega), up2_nq _ (by omega), up2_nq _ (by omega), up2_nq _ (by omega), up2_nq _ (by omega), up2_nq _ (by omega), up2_nq _ (by omega), up2_nq _ (by omega), up2_nq _ (by omega), up2_nq _ (by omega)]
  · intro j hj
    rw [up2_nq _ (by omega), up2_nq _ (by omega), up2_nq _ (by omega), up2_nq _ (by omega), up2_nq _ (by omega), up2_nq _ (by omega), up2_nq _ (by omega), up2_nq _ (by omega), cRi_249 _ _ _ _ hj]
    have hb : ∀ x : Int, x = σ 249 j → True := fun _ _ => trivial
    rw [cOf_fr _ _ _ _ _ _ _ (by omega), up2_nq _ (by omega), up2_nq _ (by omega), up2_nq _ (by omega), up2_nq _ (by omega), up2_nq _ (by omega), up2_nq _ (by omega), up2_nq _ (by omega), up2_nq _ (by omega), up2_nq _ (by omega), up2_nq _ (by omega), up2_nq _ (by omega)]
  · rw [up2_nq _ (by omega), up2_nq _ (by omega), up2_nq _ (by omega), up2_nq _ (by omega), up2_nq _ (by omega), up2_nq _ (by omega), up2_nq _ (by omega), up2_nq _ (by omega), cRi_fr _ _ _ _ _ (by omega), cOf_fr _ _ _ _ _ _ _ (by omega), up2_hit]
    all_goals simp only [Bool.true_and]
  · rw [up2_nq _ (by omega), up2_nq _ (by omega), up2_nq _ (by omega), up2_nq _ (by omega), up2_hit]
    all_goals simp only [Bool.true_and]
  · rw [up2_nq _ (by omega), up2_nq _ (by omega), up2_nq _ (by omega), up2_nq _ (by omega), up2_nq _ (by omega), up2_nq _ (by omega), up2_nq _ (by omega), up2_nq _ (by omega), cRi_fr _ _ _ _ _ (by omega), cOf_fr _ _ _ _ _ _ _ (by omega), up2_nq _ (by omega), up2_nq _ (by omega), up2_nq _ (by omega), up2_nq _ (by omega), up2_nq _ (by omega), up2_nq _ (by omega), up2_hit]
    all_goals simp only [Bool.true_and]
  · rw [up2_nq _ (by omega), up2_nq _ (by omega), up2_nq _ (by omega), up2_nq _ (by omega), up2_nq _ (by omega), up2_nq _ (by omega), up2_nq _ (by omega), up2_nq _ (by omega), cRi_fr _ _ _ _ _ (by omega), cOf_fr _ _ _ _ _ _ _ (by omega), up2_nq _ (by omega), up2_nq _ (by omega), up2_nq _ (by omega), up2_nq _ (by omega), up2_nq _ (by omega), up2_hit]
    all_goals simp only [Bool.true_and]
  · intro t' j ht'
    by_cases e : t' = t ∧ j = k
    · rw [if_pos e, e.1, e.2, up2_nq _ (by omega), up2_nq _ (by omega), up2_nq _ (by omega), up2_nq _ (by omega), up2_nq _ (by omega), up2_nq _ (by omega), up2_nq _ (by omega), up2_nq _ (by omega), cRi_fr _ _ _ _ _ (by omega), cOf_fr _ _ _ _ _ _ _ (by omega), up2_nq _ (by omega), up2_nq _ (by omega), up2_nq _ (by omega), up2_nq _ (by omega), up2_nq _ (by omega), up2_nq _ (by omega), up2_nq _ (by omega), up2_nq _ (by omega), up2_nq _ (by omega), up2_nq _ (by omega), up2_hit]
    · rw [if_neg e, up2_nq _ (by omega), up2_nq _ (by omega), up2_nq _ (by omega), up2_nq _ (by omega), up2_nq _ (by omega), up2_nq _ (by omega), up2_nq _ (by omega), up2_nq _ (by omega), cRi_fr _ _ _ _ _ (by omega), cOf_fr _ _ _ _ _ _ _ (by omega), up2_nq _ (by omega), up2_nq _ (by omega), up2_nq _ (by omega), up2_nq _ (by omega), up2_nq _ (by omega), up2_nq _ (by omega), up2_nq _ (by omega), up2_nq _ (by omega), up2_nq _ (by omega), up2_nq _ (by omega), up2_nq _ (by omega)]
  · intro t' j ht'
    by_cases e : t' = t ∧ j = k
    · rw [if_pos e, e.1, e.2, up2_nq _ (by omega), up2_nq _ (by omega), up2_nq _ (by omega), up2_nq _ (by omega), up2_nq _ (by omega), up2_nq _ (by omega), up2_nq _ (by omega), up2_nq _ (by omega), cRi_fr _ _ _ _ _ (by omega), cOf_fr _ _ _ _ _ _ _ (by omega), up2_nq _ (by omega), up2_nq _ (by omega), up2_nq _ (by omega), up2_nq _ (by omega), up2_nq _ (by omega), up2_nq _ (by omega), up2_nq _ (by omega), up2_nq _ (by omega), up2_nq _ (by omega), up2_hit]
    · rw [if_neg e, up2_nq _ (by omega), up2_nq _ (by omega), up2_nq _ (by omega), up2_nq _ (by omega), up2_nq _ (by omega), up2_nq _ (by omega), up2_nq _ (by omega), up2_nq _ (by omega), cRi_fr _ _ _ _ _ (by omega), cOf_fr _ _ _ _ _ _ _ (by omega), up2_nq _ (by omega), up2_nq _ (by omega), up2_nq _ (by omega), up2_nq _ (by omega), up2_nq _ (by omega), up2_nq _ (by omega), up2_nq _ (by omega), up2_nq _ (by omega), up2_nq _ (by omega), up2_nq _ (by omega), up2_nq _ (by omega)]
  · intro t' j ht'
    by_cases e : t' = t ∧ j = k
    · rw [if_pos e, e.1, e.2, up2_nq _ (by omega), up2_nq _ (by omega), up2_nq _ (by omega), up2_nq _ (by omega), up2_nq _ (by omega), up2_nq _ (by omega), up2_nq _ (by omega), up2_nq _ (by omega), cRi_fr _ _ _ _ _ (by omega), cOf_fr _ _ _ _ _ _ _ (by omega), up2_nq _ (by omega), up2_nq _ (by omega), up2_nq _ (by omega), up2_hit]
    · rw [if_neg e, up2_nq _ (by omega), up2_nq _ (by omega), up2_nq _ (by omega), up2_nq _ (by omega), up2_nq _ (by omega), up2_nq _ (by omega), up2_nq _ (by omega), up2_nq _ (by omega), cRi_fr _ _ _ _ _ (by omega), cOf_fr _ _ _ _ _ _ _ (by omega), up2_nq _ (by omega), up2_nq _ (by omega), up2_nq _ (by omega), up2_nq _ (by omega), up2_nq _ (by omega), up2_nq _ (by omega), up2_nq _ (by omega), up2_nq _ (by omega), up2_nq _ (by omega), up2_nq _ (by omega), up2_nq _ (by omega)]
  · intro t' j ht'
    by_cases e : t' = t ∧ j = k
    · rw [if_pos e, e.1, e.2, up2_nq _ (by omega), up2_nq _ (by omega), up2_nq _ (by omega), up2_nq _ (by omega), up2_nq _ (by omega), up2_nq _ (by omega), up2_nq _ (by omega), up2_hit]
    · rw [if_neg e, up2_nq _ (by omega), up2_nq _ (by omega), up2_nq _ (by omega), up2_nq _ (by omega), up2_nq _ (by omega), up2_nq _ (by omega), up2_nq _ (by omega), up2_nq _ (by omega), cRi_fr _ _ _ _ _ (by omega), cOf_fr _ _ _ _ _ _ _ (by omega), up2_nq _ (by omega), up2_nq _ (by omega), up2_nq _ (by omega), up2_nq _ (by omega), up2_nq _ (by omega), up2_nq _ (by omega), up2_nq _ (by omega), up2_nq _ (by omega), up2_nq _ (by omega), up2_nq _ (by omega), up2_nq _ (by omega)]
  · intro K' j hK
    rw [up2_nq _ (by omega), up2_nq _ (by omega), up2_nq _ (by omega), up2_nq _ (by omega), up2_nq _ (by omega), up2_nq _ (by omega), up2_nq _ (by omega), up2_nq _ (by omega), cRi_fr _ _ _ _ _ (by omega), cOf_fr _ _ _ _ _ _ _ (by omega), up2_nq _ (by omega), up2_nq _ (by omega), up2_nq _ (by omega), up2_nq _ (by omega), up2_nq _ (by omega), up2_nq _ (by omega), up2_nq _ (by omega), up2_nq _ (by omega), up2_nq _ (by omega), up2_nq _ (by omega), up2_nq _ (by omega)]
  · intro j hj
    rw [up2_nq _ (by omega), up2_nq _ (by omega), up2_nq _ (by omega), up2_nq _ (by omega), up2_nq _ (by omega), up2_nq _ (by omega), up2_nq _ (by omega), up2_nq _ (by omega), cRi_fr _ _ _ _ _ (by omega), cOf_fr _ _ _ _ _ _ _ (by omega), up2_nq _ (by omega), up2_nq _ (by omega), up2_nq _ (by omega), up2_nq _ (by omega), up2_nq _ (by omega), up2_nq _ (by omega), up2_nq _ (by omega), up2_nq _ (by omega), up2_nq _ (by omega), up2_nq _ (by omega), up2_nq _ (by omega)]
theorem cm_B (t k s np lt : Nat) (ht : t < 6) (hlt2 : 2 ≤ lt ∧ lt ≤ 8) (hkl : k < lt) (hs2 : s < 14) (A Wi H K HR AR RI LA BA BT CL SV ST BW : Nat → Bool) (du se af st : Int) (σ : AH) (hnp2 : np ≤ 10) (hA : σ 253 t = ((bs A np : Nat) : Int)) (hR : σ 254 s = ((bs HR np : Nat) : Int)) (hAr : σ 198 7 = ((bs AR np : Nat) : Int)) (hRi : σ 198 15 = ((bs RI np : Nat) : Int)) (hSV : σ 198 17 = ((bs SV 14 : Nat) : Int)) (hST : σ 245 t = ((bs ST 8 : Nat) : Int)) (hBW : σ 246 t = ((bs BW 8 : Nat) : Int)) (hdu : σ 252 t = du) (hk0 : 0 < k) (hk1 : k + 1 < lt) : CM σ (hHd (up2 (up2 (hOn (hOf2 (up2 (up2 (up2 (up2 (up2 (up2 (up2 σ (218 + t) k du) (225 + t) k ((bs A np : Nat) : Int)) (232 + t) k 0) (239 + t) k 0) 198 16 ((bs (fun p => CL p || (decide (p = s))) 14 : Nat) : Int)) 198 17 ((bs (fun p => SV p || (decide (p = s))) 14 : Nat) : Int)) 245 t ((bs (fun p => ST p || (decide (p = k))) 8 : Nat) : Int)) t k s np (fun p => A p && Wi p && !(H p) && !(K p)) A Wi HR AR du) t k s np (grS (fun p => (fun p => HR p || (fun p => A p && Wi p && !(H p) && !(K p)) p) p && ((H p && !(RI p)) || (LA p && !(H p)))) (aSub se ((cnt (fun p => A p && !((fun p => A p && Wi p && !(H p) && !(K p)) p)) np : Nat) : Int))) (fun p => A p && !((fun p => A p && Wi p && !(H p) && !(K p)) p)) (fun p => HR p || (fun p => A p && Wi p && !(H p) && !(K p)) p) RI) 251 t (aAdd du st)) 250 t ((k + 1 : Nat) : Int)) t (k + 1) (anyN (fun p => (fun p => (fun p => A p && !((fun p => A p && Wi p && !(H p) && !(K p)) p)) p || (grS (fun p => (fun p => HR p || (fun p => A p && Wi p && !(H p) && !(K p)) p) p && ((H p && !(RI p)) || (LA p && !(H p)))) (aSub se ((cnt (fun p => A p && !((fun p => A p && Wi p && !(H p) && !(K p)) p)) np : Nat) : Int))) p) p && BT p) np) (aAdd du st) af st BW) t k s np (fun p => A p && Wi p && !(H p) && !(K p)) (grS (fun p => (fun p => HR p || (fun p => A p && Wi p && !(H p) && !(K p)) p) p && ((H p && !(RI p)) || (LA p && !(H p)))) (aSub se ((cnt (fun p => A p && !((fun p => A p && Wi p && !(H p) && !(K p)) p)) np : Nat) : Int))) A Wi HR AR RI CL SV ST (fun p => BW p || ((anyN (fun p => (fun p => (fun p => A p && !((fun p => A p && Wi p && !(H p) && !(K p)) p)) p || (grS (fun p => (fun p => HR p || (fun p => A p && Wi p && !(H p) && !(K p)) p) p && ((H p && !(RI p)) || (LA p && !(H p)))) (aSub se ((cnt (fun p => A p && !((fun p => A p && Wi p && !(H p) && !(K p)) p)) np : Nat) : Int))) p) p && BT p) np) && decide (p = k + 1))) true du (aAdd du st) (aAdd (aAdd (aAdd du st) af) (if (anyN (fun p => (fun p => (fun p => A p && !((fun p => A p && Wi p && !(H p) && !(K p)) p)) p || (grS (fun p => (fun p => HR p || (fun p => A p && Wi p && !(H p) && !(K p)) p) p && ((H p && !(RI p)) || (LA p && !(H p)))) (aSub se ((cnt (fun p => A p && !((fun p => A p && Wi p && !(H p) && !(K p)) p)) np : Nat) : Int))) p) p && BT p) np) = true then st else 0)) := by
  generalize (grS (fun p => (fun p => HR p || (fun p => A p && Wi p && !(H p) && !(K p)) p) p && ((H p && !(RI p)) || (LA p && !(H p)))) (aSub se ((cnt (fun p => A p && !((fun p => A p && Wi p && !(H p) && !(K p)) p)) np : Nat) : Int))) = NN
  unfold CM
  simp only [hHd, hOn, hOf2]
  refine ⟨⟨?_, ?_, ?_, ?_, ?_, ?_, ?_⟩, ⟨?_, ?_, ?_⟩, ⟨?_, ?_, ?_, ?_⟩, ⟨?_, ?_, ?_, ?_⟩, ?_, ?_⟩
  · intro j
    by_cases e : j = t
    · subst e
      rw [if_pos rfl, up2_nq _ (by omega), up2_nq _ (by omega), up2_hit]
      all_goals simp only [Bool.true_and]
    · rw [if_neg e, up2_nq _ (by omega), up2_nq _ (by omega), up2_nq _ (by omega), up2_nq _ (by omega), up2_nq _ (by omega), up2_nq _ (by omega), up2_nq _ (by omega), up2_nq _ (by omega), cRi_fr _ _ _ _ _ (by omega), cOf_fr _ _ _ _ _ _ _ (by omega), up2_nq _ (by omega), up2_nq _ (by omega), up2_nq _ (by omega), up2_nq _ (by omega), up2_nq _ (by omega), up2_nq _ (by omega), up2_nq _ (by omega), up2_nq _ (by omega), up2_nq _ (by omega), up2_nq _ (by omega), up2_nq _ (by omega)]
  · intro j
    by_cases e : j = t
    · subst e
      rw [if_pos rfl, up2_nq _ (by omega), up2_nq _ (by omega), up2_nq _ (by omega), up2_hit]
      all_goals simp only [Bool.true_and]
    · rw [if_neg e, up2_nq _ (by omega), up2_nq _ (by omega), up2_nq _ (by omega), up2_nq _ (by omega), up2_nq _ (by omega), up2_nq _ (by omega), up2_nq _ (by omega), up2_nq _ (by omega), cRi_fr _ _ _ _ _ (by omega), cOf_fr _ _ _ _ _ _ _ (by omega), up2_nq _ (by omega), up2_nq _ (by omega), up2_nq _ (by omega), up2_nq _ (by omega), up2_nq _ (by omega), up2_nq _ (by omega), up2_nq _ (by omega), up2_nq _ (by omega), up2_nq _ (by omega), up2_nq _ (by omega), up2_nq _ (by omega)]
  · intro j
    by_cases e : j = t
    · subst e
      rw [if_pos rfl, up2_nq _ (by omega), up2_hit]
      all_goals simp only [Bool.true_and]
    · rw [if_neg e, up2_nq _ (by omega), up2_nq _ (by omega), up2_nq _ (by omega), up2_nq _ (by omega), up2_nq _ (by omega), up2_nq _ (by omega), up2_nq _ (by omega), up2_nq _ (by omega), cRi_fr _ _ _ _ _ (by omega), cOf_fr _ _ _ _ _ _ _ (by omega), up2_nq _ (by omega), up2_nq _ (by omega), up2_nq _ (by omega), up2_nq _ (by omega), up2_nq _ (by omega), up2_nq _ (by omega), up2_nq _ (by omega), up2_nq _ (by omega), up2_nq _ (by omega), up2_nq _ (by omega), up2_nq _ (by omega)]
  · intro j
    by_cases e : j = t
    · subst e
      rw [if_pos rfl, up2_nq _ (by omega), up2_nq _ (by omega), up2_nq _ (by omega), up2_nq _ (by omega), up2_nq _ (by omega), up2_nq _ (by omega), up2_hit]
      all_goals simp only [Bool.true_and]
    · rw [if_neg e, up2_nq _ (by omega), up2_nq _ (by omega), up2_nq _ (by omega), up2_nq _ (by omega), up2_nq _ (by omega), up2_nq _ (by omega), up2_nq _ (by omega), up2_nq _ (by omega), cRi_fr _ _ _ _ _ (by omega), cOf_fr _ _ _ _ _ _ _ (by omega), up2_nq _ (by omega), up2_nq _ (by omega), up2_nq _ (by omega), up2_nq _ (by omega), up2_nq _ (by omega), up2_nq _ (by omega), up2_nq _ (by omega), up2_nq _ (by omega), up2_nq _ (by omega), up2_nq _ (by omega), up2_nq _ (by omega)]
  · intro j
    by_cases e : j = s
    · subst e
      rw [if_pos rfl, up2_nq _ (by omega), up2_nq _ (by omega), up2_nq _ (by omega), up2_nq _ (by omega), up2_nq _ (by omega), up2_hit]
      all_goals simp only [Bool.true_and]
    · rw [if_neg e, up2_nq _ (by omega), up2_nq _ (by omega), up2_nq _ (by omega), up2_nq _ (by omega), up2_nq _ (by omega), up2_nq _ (by omega), up2_nq _ (by omega), up2_nq _ (by omega), cRi_fr _ _ _ _ _ (by omega), cOf_fr _ _ _ _ _ _ _ (by omega), up2_nq _ (by omega), up2_nq _ (by omega), up2_nq _ (by omega), up2_nq _ (by omega), up2_nq _ (by omega), up2_nq _ (by omega), up2_nq _ (by omega), up2_nq _ (by omega), up2_nq _ (by omega), up2_nq _ (by omega), up2_nq _ (by omega)]
  · intro j
    by_cases e : j = t
    · subst e
      rw [if_pos rfl, up2_nq _ (by omega), up2_nq _ (by omega), up2_nq _ (by omega), up2_nq _ (by omega), up2_nq _ (by omega), up2_nq _ (by omega), up2_nq _ (by omega), up2_nq _ (by omega), cRi_fr _ _ _ _ _ (by omega), cOf_fr _ _ _ _ _ _ _ (by omega), up2_nq _ (by omega), up2_nq _ (by omega), up2_nq _ (by omega), up2_nq _ (by omega), up2_hit]
      all_goals simp only [Bool.true_and]
    · rw [if_neg e, up2_nq _ (by omega), up2_nq _ (by omega), up2_nq _ (by omega), up2_nq _ (by omega), up2_nq _ (by omega), up2_nq _ (by omega), up2_nq _ (by omega), up2_nq _ (by omega), cRi_fr _ _ _ _ _ (by omega), cOf_fr _ _ _ _ _ _ _ (by omega), up2_nq _ (by omega), up2_nq _ (by omega), up2_nq _ (by omega), up2_nq _ (by omega), up2_nq _ (by omega), up2_nq _ (by omega), up2_nq _ (by omega), up2_nq _ (by omega), up2_nq _ (by omega), up2_nq _ (by omega), up2_nq _ (by omega)]
  · intro j
    by_cases e : j = t
    · subst e
      rw [if_pos rfl, up2_hit]
      all_goals simp only [Bool.true_and]
    · rw [if_neg e, up2_nq _ (by omega), up2_nq _ (by omega), up2_nq _ (by omega), up2_nq _ (by omega), up2_nq _ (by omega), up2_nq _ (by omega), up2_nq _ (by omega), up2_nq _ (by omega), cRi_fr _ _ _ _ _ (by omega), cOf_fr _ _ _ _ _ _ _ (by omega), up2_nq _ (by omega), up2_nq _ (by omega), up2_nq _ (by omega), up2_nq _ (by omega), up2_nq _ (by omega), up2_nq _ (by omega), up2_nq _ (by omega), up2_nq _ (by omega), up2_nq _ (by omega), up2_nq _ (by omega), up2_nq _ (by omega)]
  · intro j hj
    rw [up2_nq _ (by omega), up2_nq _ (by omega), up2_nq _ (by omega), up2_nq _ (by omega), up2_nq _ (by omega), up2_nq _ (by omega), up2_nq _ (by omega), up2_nq _ (by omega), cRi_fr _ _ _ _ _ (by omega), cOf_247 _ _ _ _ _ _ hj]
    have hb : ∀ x : Int, x = σ 247 j → True := fun _ _ => trivial
    rw [up2_nq _ (by omega), up2_nq _ (by omega), up2_nq _ (by omega), up2_nq _ (by omega), up2_nq _ (by omega), up2_nq _ (by omega), up2_nq _ (by omega), up2_nq _ (by omega), up2_nq _ (by omega), up2_nq _ (by omega), up2_nq _ (by omega)]
  · intro j hj
    rw [up2_nq _ (by omega), up2_nq _ (by omega), up2_nq _ (by omega), up2_nq _ (by omega), up2_nq _ (by omega), up2_nq _ (by omega), up2_nq _ (by omega), up2_nq _ (by omega), cRi_fr _ _ _ _ _ (by omega), cOf_248 _ _ _ _ _ _ hj]
    have hb : ∀ x : Int, x = σ 248 j → True := fun _ _ => trivial
    rw [up2_nq _ (by omega), up2_nq _ (by omega), up2_nq _ (by omega), up2_nq _ (by omega), up2_nq _ (by omega), up2_nq _ (by omega), up2_nq _ (by omega), up2_nq _ (by omega), up2_nq _ (by omega), up2_nq _ (by omega), up2_nq _ (by omega)]
  · intro j hj
    rw [up2_nq _ (by omega), up2_nq _ (by omega), up2_nq _ (by omega), up2_nq _ (by omega), up2_nq _ (by omega), up2_nq _ (by omega), up2_nq _ (by omega), up2_nq _ (by omega), cRi_249 _ _ _ _ hj]
    have hb : ∀ x : Int, x = σ 249 j → True := fun _ _ => trivial
    rw [cOf_fr _ _ _ _ _ _ _ (by omega), up2_nq _ (by omega), up2_nq _ (by omega), up2_nq _ (by omega), up2_nq _ (by omega), up2_nq _ (by omega), up2_nq _ (by omega), up2_nq _ (by omega), up2_nq _ (by omega), up2_nq _ (by omega), up2_nq _ (by omega), up2_nq _ (by omega)]
  · rw [up2_nq _ (by omega), up2_nq _ (by omega), up2_nq _ (by omega), up2_nq _ (by omega), up2_nq _ (by omega), up2_nq _ (by omega), up2_nq _ (by omega), up2_nq _ (by omega), cRi_fr _ _ _ _ _ (by omega), cOf_fr _ _ _ _ _ _ _ (by omega), up2_hit]
    all_goals simp only [Bool.true_and]
  · rw [up2_nq _ (by omega), up2_nq _ (by omega), up2_nq _ (by omega), up2_nq _ (by omega), up2_hit]
    all_goals simp only [Bool.true_and]
  · rw [up2_nq _ (by omega), up2_nq _ (by omega), up2_nq _ (by omega), up2_nq _ (by omega), up2_nq _ (by omega), up2_nq _ (by omega), up2_nq _ (by omega), up2_nq _ (by omega), cRi_fr _ _ _ _ _ (by omega), cOf_fr _ _ _ _ _ _ _ (by omega), up2_nq _ (by omega), up2_nq _ (by omega), up2_nq _ (by omega), up2_nq _ (by omega), up2_nq _ (by omega), up2_nq _ (by omega), up2_hit]
    all_goals simp only [Bool.true_and]
  · rw [up2_nq _ (by omega), up2_nq _ (by omega), up2_nq _ (by omega), up2_nq _ (by omega), up2_nq _ (by omega), up2_nq _ (by omega), up2_nq _ (by omega), up2_nq _ (by omega), cRi_fr _ _ _ _ _ (by omega), cOf_fr _ _ _ _ _ _ _ (by omega), up2_nq _ (by omega), up2_nq _ (by omega), up2_nq _ (by omega), up2_nq _ (by omega), up2_nq _ (by omega), up2_hit]
    all_goals simp only [Bool.true_and]
  · intro t' j ht'
    by_cases e : t' = t ∧ j = k
    · rw [if_pos e, e.1, e.2, up2_nq _ (by omega), up2_nq _ (by omega), up2_nq _ (by omega), up2_nq _ (by omega), up2_nq _ (by omega), up2_nq _ (by omega), up2_nq _ (by omega), up2_nq _ (by omega), cRi_fr _ _ _ _ _ (by omega), cOf_fr _ _ _ _ _ _ _ (by omega), up2_nq _ (by omega), up2_nq _ (by omega), up2_nq _ (by omega), up2_nq _ (by omega), up2_nq _ (by omega), up2_nq _ (by omega), up2_nq _ (by omega), up2_nq _ (by omega), up2_nq _ (by omega), up2_nq _ (by omega), up2_hit]
    · rw [if_neg e, up2_nq _ (by omega), up2_nq _ (by omega), up2_nq _ (by omega), up2_nq _ (by omega), up2_nq _ (by omega), up2_nq _ (by omega), up2_nq _ (by omega), up2_nq _ (by omega), cRi_fr _ _ _ _ _ (by omega), cOf_fr _ _ _ _ _ _ _ (by omega), up2_nq _ (by omega), up2_nq _ (by omega), up2_nq _ (by omega), up2_nq _ (by omega), up2_nq _ (by omega), up2_nq _ (by omega), up2_nq _ (by omega), up2_nq _ (by omega), up2_nq _ (by omega), up2_nq _ (by omega), up2_nq _ (by omega)]
  · intro t' j ht'
    by_cases e : t' = t ∧ j = k
    · rw [if_pos e, e.1, e.2, up2_nq _ (by omega), up2_nq _ (by omega), up2_nq _ (by omega), up2_nq _ (by omega), up2_nq _ (by omega), up2_nq _ (by omega), up2_nq _ (by omega), up2_nq _ (by omega), cRi_fr _ _ _ _ _ (by omega), cOf_fr _ _ _ _ _ _ _ (by omega), up2_nq _ (by omega), up2_nq _ (by omega), up2_nq _ (by omega), up2_nq _ (by omega), up2_nq _ (by omega), up2_nq _ (by omega), up2_nq _ (by omega), up2_nq _ (by omega), up2_nq _ (by omega), up2_hit]
    · rw [if_neg e, up2_nq _ (by omega), up2_nq _ (by omega), up2_nq _ (by omega), up2_nq _ (by omega), up2_nq _ (by omega), up2_nq _ (by omega), up2_nq _ (by omega), up2_nq _ (by omega), cRi_fr _ _ _ _ _ (by omega), cOf_fr _ _ _ _ _ _ _ (by omega), up2_nq _ (by omega), up2_nq _ (by omega), up2_nq _ (by omega), up2_nq _ (by omega), up2_nq _ (by omega), up2_nq _ (by omega), up2_nq _ (by omega), up2_nq _ (by omega), up2_nq _ (by omega), up2_nq _ (by omega), up2_nq _ (by omega)]
  · intro t' j ht'
    by_cases e : t' = t ∧ j = k
    · rw [if_pos e, e.1, e.2, up2_nq _ (by omega), up2_nq _ (by omega), up2_nq _ (by omega), up2_nq _ (by omega), up2_nq _ (by omega), up2_nq _ (by omega), up2_nq _ (by omega), up2_nq _ (by omega), cRi_fr _ _ _ _ _ (by omega), cOf_fr _ _ _ _ _ _ _ (by omega), up2_nq _ (by omega), up2_nq _ (by omega), up2_nq _ (by omega), up2_hit]
    · rw [if_neg e, up2_nq _ (by omega), up2_nq _ (by omega), up2_nq _ (by omega), up2_nq _ (by omega), up2_nq _ (by omega), up2_nq _ (by omega), up2_nq _ (by omega), up2_nq _ (by omega), cRi_fr _ _ _ _ _ (by omega), cOf_fr _ _ _ _ _ _ _ (by omega), up2_nq _ (by omega), up2_nq _ (by omega), up2_nq _ (by omega), up2_nq _ (by omega), up2_nq _ (by omega), up2_nq _ (by omega), up2_nq _ (by omega), up2_nq _ (by omega), up2_nq _ (by omega), up2_nq _ (by omega), up2_nq _ (by omega)]
  · intro t' j ht'
    by_cases e : t' = t ∧ j = k
    · rw [if_pos e, e.1, e.2, up2_nq _ (by omega), up2_nq _ (by omega), up2_nq _ (by omega), up2_nq _ (by omega), up2_nq _ (by omega), up2_nq _ (by omega), up2_nq _ (by omega), up2_hit]
    · rw [if_neg e, up2_nq _ (by omega), up2_nq _ (by omega), up2_nq _ (by omega), up2_nq _ (by omega), up2_nq _ (by omega), up2_nq _ (by omega), up2_nq _ (by omega), up2_nq _ (by omega), cRi_fr _ _ _ _ _ (by omega), cOf_fr _ _ _ _ _ _ _ (by omega), up2_nq _ (by omega), up2_nq _ (by omega), up2_nq _ (by omega), up2_nq _ (by omega), up2_nq _ (by omega), up2_nq _ (by omega), up2_nq _ (by omega), up2_nq _ (by omega), up2_nq _ (by omega), up2_nq _ (by omega), up2_nq _ (by omega)]
  · intro K' j hK
    rw [up2_nq _ (by omega), up2_nq _ (by omega), up2_nq _ (by omega), up2_nq _ (by omega), up2_nq _ (by omega), up2_nq _ (by omega), up2_nq _ (by omega), up2_nq _ (by omega), cRi_fr _ _ _ _ _ (by omega), cOf_fr _ _ _ _ _ _ _ (by omega), up2_nq _ (by omega), up2_nq _ (by omega), up2_nq _ (by omega), up2_nq _ (by omega), up2_nq _ (by omega), up2_nq _ (by omega), up2_nq _ (by omega), up2_nq _ (by omega), up2_nq _ (by omega), up2_nq _ (by omega), up2_nq _ (by omega)]
  · intro j hj
    rw [up2_nq _ (by omega), up2_nq _ (by omega), up2_nq _ (by omega), up2_nq _ (by omega), up2_nq _ (by omega), up2_nq _ (by omega), up2_nq _ (by omega), up2_nq _ (by omega), cRi_fr _ _ _ _ _ (by omega), cOf_fr _ _ _ _ _ _ _ (by omega), up2_nq _ (by omega), up2_nq _ (by omega), up2_nq _ (by omega), up2_nq _ (by omega), up2_nq _ (by omega), up2_nq _ (by omega), up2_nq _ (by omega), up2_nq _ (by omega), up2_nq _ (by omega), up2_nq _ (by omega), up2_nq _ (by omega)]
theorem cm_C (t k s np lt : Nat) (ht : t < 6) (hlt2 : 2 ≤ lt ∧ lt ≤ 8) (hkl : k < lt) (hs2 : s < 14) (A Wi H K HR AR RI LA BA BT CL SV ST BW : Nat → Bool) (du se af st : Int) (σ : AH) (hnp2 : np ≤ 10) (hA : σ 253 t = ((bs A np : Nat) : Int)) (hR : σ 254 s = ((bs HR np : Nat) : Int)) (hAr : σ 198 7 = ((bs AR np : Nat) : Int)) (hRi : σ 198 15 = ((bs RI np : Nat) : Int)) (hSV : σ 198 17 = ((bs SV 14 : Nat) : Int)) (hST : σ 245 t = ((bs ST 8 : Nat) : Int)) (hBW : σ 246 t = ((bs BW 8 : Nat) : Int)) (hdu : σ 252 t = du) (hk0 : 0 < k) (hk1 : k + 1 < lt) : CM σ (hHd (up2 (up2 (up2 (up2 (up2 (up2 (up2 σ (218 + t) k du) (225 + t) k ((bs A np : Nat) : Int)) (232 + t) k 0) (239 + t) k 0) 198 16 ((bs (fun p => CL p || (decide (p = s))) 14 : Nat) : Int)) 251 t (aAdd du 0)) 250 t ((k + 1 : Nat) : Int)) t (k + 1) (anyN (fun p => A p && BT p) np) (aAdd du 0) af st BW) t k s np (fun _ => false) (fun _ => false) A Wi HR AR RI CL SV ST (fun p => BW p || ((anyN (fun p => A p && BT p) np) && decide (p = k + 1))) false du (aAdd du 0) (aAdd (aAdd (aAdd du 0) af) (if (anyN (fun p => A p && BT p) np) = true then st else 0)) := by
  unfold CM
  simp only [hHd, hOn, hOf2]
  refine ⟨⟨?_, ?_, ?_, ?_, ?_, ?_, ?_⟩, ⟨?_, ?_, ?_⟩, ⟨?_, ?_, ?_, ?_⟩, ⟨?_, ?_, ?_, ?_⟩, ?_, ?_⟩
  · intro j
    by_cases e : j = t
    · subst e
      rw [if_pos rfl, up2_nq _ (by omega), up2_nq _ (by omega), up2_hit]
      all_goals simp only [Bool.true_and]
    · rw [if_neg e, up2_nq _ (by omega), up2_nq _ (by omega), up2_nq _ (by omega), up2_nq _ (by omega), up2_nq _ (by omega), up2_nq _ (by omega), up2_nq _ (by omega), up2_nq _ (by omega), up2_nq _ (by omega)]
  · intro j
    by_cases e : j = t
    · subst e
      rw [if_pos rfl, up2_nq _ (by omega), up2_nq _ (by omega), up2_nq _ (by omega), up2_hit]
      all_goals simp only [Bool.true_and]
    · rw [if_neg e, up2_nq _ (by omega), up2_nq _ (by omega), up2_nq _ (by omega), up2_nq _ (by omega), up2_nq _ (by omega), up2_nq _ (by omega), up2_nq _ (by omega), up2_nq _ (by omega), up2_nq _ (by omega)]
  · intro j
    by_cases e : j = t
    · subst e
      rw [if_pos rfl, up2_nq _ (by omega), up2_hit]
      all_goals simp only [Bool.true_and]
    · rw [if_neg e, up2_nq _ (by omega), up2_nq _ (by omega), up2_nq _ (by omega), up2_nq _ (by omega), up2_nq _ (by omega), up2_nq _ (by omega), up2_nq _ (by omega), up2_nq _ (by omega), up2_nq _ (by omega)]
  · intro j
    by_cases e : j = t
    · subst e
      rw [if_pos rfl, up2_nq _ (by omega), up2_nq _ (by omega), up2_nq _ (by omega), up2_nq _ (by omega), up2_nq _ (by omega), up2_nq _ (by omega), up2_nq _ (by omega), up2_nq _ (by omega), up2_nq _ (by omega)]
      rw [hA]
      try (first | rfl | (congr 1; apply bs_c; intro p _; simp))
    · rw [if_neg e, up2_nq _ (by omega), up2_nq _ (by omega), up2_nq _ (by omega), up2_nq _ (by omega), up2_nq _ (by omega), up2_nq _ (by omega), up2_nq _ (by omega), up2_nq _ (by omega), up2_nq _ (by omega)]
  · intro j
    by_cases e : j = s
    · subst e
      rw [if_pos rfl, up2_nq _ (by omega), up2_nq _ (by omega), up2_nq _ (by omega), up2_nq _ (by omega), up2_nq _ (by omega), up2_nq _ (by omega), up2_nq _ (by omega), up2_nq _ (by omega), up2_nq _ (by omega)]
      rw [hR]
      try (first | rfl | (congr 1; apply bs_c; intro p _; simp))
    · rw [if_neg e, up2_nq _ (by omega), up2_nq _ (by omega), up2_nq _ (by omega), up2_nq _ (by omega), up2_nq _ (by omega), up2_nq _ (by omega), up2_nq _ (by omega), up2_nq _ (by omega), up2_nq _ (by omega)]
  · intro j
    by_cases e : j = t
    · subst e
      rw [if_pos rfl, up2_nq _ (by omega), up2_nq _ (by omega), up2_nq _ (by omega), up2_nq _ (by omega), up2_nq _ (by omega), up2_nq _ (by omega), up2_nq _ (by omega), up2_nq _ (by omega), up2_nq _ (by omega)]
      rw [hST]
      try (first | rfl | (congr 1; apply bs_c; intro p _; simp))
    · rw [if_neg e, up2_nq _ (by omega), up2_nq _ (by omega), up2_nq _ (by omega), up2_nq _ (by omega), up2_nq _ (by omega), up2_nq _ (by omega), up2_nq _ (by omega), up2_nq _ (by omega), up2_nq _ (by omega)]
  · intro j
    by_cases e : j = t
    · subst e
      rw [if_pos rfl, up2_hit]
      all_goals simp only [Bool.true_and]
    · rw [if_neg e, up2_nq _ (by omega), up2_nq _ (by omega), up2_nq _ (by omega), up2_nq _ (by omega), up2_nq _ (by omega), up2_nq _ (by omega), up2_nq _ (by omega), up2_nq _ (by omega), up2_nq _ (by omega)]
  · intro j hj
    rw [up2_nq _ (by omega), up2_nq _ (by omega), up2_nq _ (by omega), up2_nq _ (by omega), up2_nq _ (by omega), up2_nq _ (by omega), up2_nq _ (by omega), up2_nq _ (by omega), up2_nq _ (by omega)]
    simp
  · intro j hj
    rw [up2_nq _ (by omega), up2_nq _ (by omega), up2_nq _ (by omega), up2_nq _ (by omega), up2_nq _ (by omega), up2_nq _ (by omega), up2_nq _ (by omega), up2_nq _ (by omega), up2_nq _ (by omega)]
    simp
  · intro j hj
    rw [up2_nq _ (by omega), up2_nq _ (by omega), up2_nq _ (by omega), up2_nq _ (by omega), up2_nq _ (by omega), up2_nq _ (by omega), up2_nq _ (by omega), up2_nq _ (by omega), up2_nq _ (by omega)]
    simp
  · rw [up2_nq _ (by omega), up2_nq _ (by omega), up2_nq _ (by omega), up2_nq _ (by omega), up2_nq _ (by omega), up2_nq _ (by omega), up2_nq _ (by omega), up2_nq _ (by omega), up2_nq _ (by omega)]
    rw [hAr]
    try (first | rfl | (congr 1; apply bs_c; intro p _; simp))
  · rw [up2_nq _ (by omega), up2_nq _ (by omega), up2_nq _ (by omega), up2_nq _ (by omega), up2_nq _ (by omega), up2_nq _ (by omega), up2_nq _ (by omega), up2_nq _ (by omega), up2_nq _ (by omega)]
    rw [hRi]
    try (first | rfl | (congr 1; apply bs_c; intro p _; simp))
  · rw [up2_nq _ (by omega), up2_nq _ (by omega), up2_nq _ (by omega), up2_nq _ (by omega), up2_hit]
    all_goals simp only [Bool.true_and]
  · rw [up2_nq _ (by omega), up2_nq _ (by omega), up2_nq _ (by omega), up2_nq _ (by omega), up2_nq _ (by omega), up2_nq _ (by omega), up2_nq _ (by omega), up2_nq _ (by omega), up2_nq _ (by omega)]
    rw [hSV]
    try (first | rfl | (congr 1; apply bs_c; intro p _; simp))
  · intro t' j ht'
    by_cases e : t' = t ∧ j = k
    · rw [if_pos e, e.1, e.2, up2_nq _ (by omega), up2_nq _ (by omega), up2_nq _ (by omega), up2_nq _ (by omega), up2_nq _ (by omega), up2_nq _ (by omega), up2_nq _ (by omega), up2_nq _ (by omega), up2_hit]
    · rw [if_neg e, up2_nq _ (by omega), up2_nq _ (by omega), up2_nq _ (by omega), up2_nq _ (by omega), up2_nq _ (by omega), up2_nq _ (by omega), up2_nq _ (by omega), up2_nq _ (by omega), up2_nq _ (by omega)]
  · intro t' j ht'
    by_cases e : t' = t ∧ j = k
    · rw [if_pos e, e.1, e.2, up2_nq _ (by omega), up2_nq _ (by omega), up2_nq _ (by omega), up2_nq _ (by omega), up2_nq _ (by omega), up2_nq _ (by omega), up2_nq _ (by omega), up2_hit]
    · rw [if_neg e, up2_nq _ (by omega), up2_nq _ (by omega), up2_nq _ (by omega), up2_nq _ (by omega), up2_nq _ (by omega), up2_nq _ (by omega), up2_nq _ (by omega), up2_nq _ (by omega), up2_nq _ (by omega)]
  · intro t' j ht'
    by_cases e : t' = t ∧ j = k
    · rw [if_pos e, e.1, e.2, up2_nq _ (by omega), up2_nq _ (by omega), up2_nq _ (by omega), up2_nq _ (by omega), up2_nq _ (by omega), up2_nq _ (by omega), up2_hit]
      all_goals (rw [bs_zero]; rfl)
    · rw [if_neg e, up2_nq _ (by omega), up2_nq _ (by omega), up2_nq _ (by omega), up2_nq _ (by omega), up2_nq _ (by omega), up2_nq _ (by omega), up2_nq _ (by omega), up2_nq _ (by omega), up2_nq _ (by omega)]
  · intro t' j ht'
    by_cases e : t' = t ∧ j = k
    · rw [if_pos e, e.1, e.2, up2_nq _ (by omega), up2_nq _ (by omega), up2_nq _ (by omega), up2_nq _ (by omega), up2_nq _ (by omega), up2_hit]
      all_goals (rw [bs_zero]; rfl)
    · rw [if_neg e, up2_nq _ (by omega), up2_nq _ (by omega), up2_nq _ (by omega), up2_nq _ (by omega), up2_nq _ (by omega), up2_nq _ (by omega), up2_nq _ (by omega), up2_nq _ (by omega), up2_nq _ (by omega)]
  · intro K' j hK
    rw [up2_nq _ (by omega), up2_nq _ (by omega), up2_nq _ (by omega), up2_nq _ (by omega), up2_nq _ (by omega), up2_nq _ (by omega), up2_nq _ (by omega), up2_nq _ (by omega), up2_nq _ (by omega)]
  · intro j hj
    rw [up2_nq _ (by omega), up2_nq _ (by omega), up2_nq _ (by omega), up2_nq _ (by omega), up2_nq _ (by omega), up2_nq _ (by omega), up2_nq _ (by omega), up2_nq _ (by omega), up2_nq _ (by omega)]
theorem cm_D (t k s np lt : Nat) (ht : t < 6) (hlt2 : 2 ≤ lt ∧ lt ≤ 8) (hkl : k < lt) (hs2 : s < 14) (A Wi H K HR AR RI LA BA BT CL SV ST BW : Nat → Bool) (du se af st : Int) (σ : AH) (hnp2 : np ≤ 10) (hA : σ 253 t = ((bs A np : Nat) : Int)) (hR : σ 254 s = ((bs HR np : Nat) : Int)) (hAr : σ 198 7 = ((bs AR np : Nat) : Int)) (hRi : σ 198 15 = ((bs RI np : Nat) : Int)) (hSV : σ 198 17 = ((bs SV 14 : Nat) : Int)) (hST : σ 245 t = ((bs ST 8 : Nat) : Int)) (hBW : σ 246 t = ((bs BW 8 : Nat) : Int)) (hdu : σ 252 t = du) (hk0 : 0 < k) (hk1 : k + 1 = lt) : CM σ (up2 (up2 (hOn (hOf2 (up2 (up2 (up2 (up2 (up2 (up2 (up2 σ (218 + t) k du) (225 + t) k ((bs A np : Nat) : Int)) (232 + t) k 0) (239 + t) k 0) 198 16 ((bs (fun p => CL p || (decide (p = s))) 14 : Nat) : Int)) 198 17 ((bs (fun p => SV p || (decide (p = s))) 14 : Nat) : Int)) 245 t ((bs (fun p => ST p || (decide (p = k))) 8 : Nat) : Int)) t k s np A A Wi HR AR du) t k s np (fun _ => false) (fun p => A p && !(A p)) (fun p => HR p || A p) RI) 251 t (aAdd du st)) 250 t ((k + 1 : Nat) : Int)) t k s np A (fun _ => false) A Wi HR AR RI CL SV ST BW true du (aAdd du st) du := by
  unfold CM
  simp only [hHd, hOn, hOf2]
  refine ⟨⟨?_, ?_, ?_, ?_, ?_, ?_, ?_⟩, ⟨?_, ?_, ?_⟩, ⟨?_, ?_, ?_, ?_⟩, ⟨?_, ?_, ?_, ?_⟩, ?_, ?_⟩
  · intro j
    by_cases e : j = t
    · subst e
      rw [if_pos rfl, up2_hit]
      all_goals simp only [Bool.true_and]
    · rw [if_neg e, up2_nq _ (by omega), up2_nq _ (by omega), up2_nq _ (by omega), up2_nq _ (by omega), up2_nq _ (by omega), up2_nq _ (by omega), cRi_fr _ _ _ _ _ (by omega), cOf_fr _ _ _ _ _ _ _ (by omega), up2_nq _ (by omega), up2_nq _ (by omega), up2_nq _ (by omega), up2_nq _ (by omega), up2_nq _ (by omega), up2_nq _ (by omega), up2_nq _ (by omega), up2_nq _ (by omega), up2_nq _ (by omega), up2_nq _ (by omega), up2_nq _ (by omega)]
  · intro j
    by_cases e : j = t
    · subst e
      rw [if_pos rfl, up2_nq _ (by omega), up2_hit]
      all_goals simp only [Bool.true_and]
    · rw [if_neg e, up2_nq _ (by omega), up2_nq _ (by omega), up2_nq _ (by omega), up2_nq _ (by omega), up2_nq _ (by omega), up2_nq _ (by omega), cRi_fr _ _ _ _ _ (by omega), cOf_fr _ _ _ _ _ _ _ (by omega), up2_nq _ (by omega), up2_nq _ (by omega), up2_nq _ (by omega), up2_nq _ (by omega), up2_nq _ (by omega), up2_nq _ (by omega), up2_nq _ (by omega), up2_nq _ (by omega), up2_nq _ (by omega), up2_nq _ (by omega), up2_nq _ (by omega)]
  · intro j
    by_cases e : j = t
    · subst e
      rw [if_pos rfl, up2_nq _ (by omega), up2_nq _ (by omega), up2_nq _ (by omega), up2_nq _ (by omega), up2_nq _ (by omega), up2_nq _ (by omega), cRi_fr _ _ _ _ _ (by omega), cOf_fr _ _ _ _ _ _ _ (by omega), up2_nq _ (by omega), up2_nq _ (by omega), up2_nq _ (by omega), up2_nq _ (by omega), up2_nq _ (by omega), up2_nq _ (by omega), up2_nq _ (by omega), up2_nq _ (by omega), up2_nq _ (by omega), up2_nq _ (by omega), up2_nq _ (by omega)]
      rw [hdu]
      try (first | rfl | (congr 1; apply bs_c; intro p _; simp))
    · rw [if_neg e, up2_nq _ (by omega), up2_nq _ (by omega), up2_nq _ (by omega), up2_nq _ (by omega), up2_nq _ (by omega), up2_nq _ (by omega), cRi_fr _ _ _ _ _ (by omega), cOf_fr _ _ _ _ _ _ _ (by omega), up2_nq _ (by omega), up2_nq _ (by omega), up2_nq _ (by omega), up2_nq _ (by omega), up2_nq _ (by omega), up2_nq _ (by omega), up2_nq _ (by omega), up2_nq _ (by omega), up2_nq _ (by omega), up2_nq _ (by omega), up2_nq _ (by omega)]
  · intro j
    by_cases e : j = t
    · subst e
      rw [if_pos rfl, up2_nq _ (by omega), up2_nq _ (by omega), up2_nq _ (by omega), up2_nq _ (by omega), up2_hit]
      all_goals simp only [Bool.true_and]
    · rw [if_neg e, up2_nq _ (by omega), up2_nq _ (by omega), up2_nq _ (by omega), up2_nq _ (by omega), up2_nq _ (by omega), up2_nq _ (by omega), cRi_fr _ _ _ _ _ (by omega), cOf_fr _ _ _ _ _ _ _ (by omega), up2_nq _ (by omega), up2_nq _ (by omega), up2_nq _ (by omega), up2_nq _ (by omega), up2_nq _ (by omega), up2_nq _ (by omega), up2_nq _ (by omega), up2_nq _ (by omega), up2_nq _ (by omega), up2_nq _ (by omega), up2_nq _ (by omega)]
  · intro j
    by_cases e : j = s
    · subst e
      rw [if_pos rfl, up2_nq _ (by omega), up2_nq _ (by omega), up2_nq _ (by omega), up2_hit]
      all_goals simp only [Bool.true_and]
    · rw [if_neg e, up2_nq _ (by omega), up2_nq _ (by omega), up2_nq _ (by omega), up2_nq _ (by omega), up2_nq _ (by omega), up2_nq _ (by omega), cRi_fr _ _ _ _ _ (by omega), cOf_fr _ _ _ _ _ _ _ (by omega), up2_nq _ (by omega), up2_nq _ (by omega), up2_nq _ (by omega), up2_nq _ (by omega), up2_nq _ (by omega), up2_nq _ (by omega), up2_nq _ (by omega), up2_nq _ (by omega), up2_nq _ (by omega), up2_nq _ (by omega), up2_nq _ (by omega)]
  · intro j
    by_cases e : j = t
    · subst e
      rw [if_pos rfl, up2_nq _ (by omega), up2_nq _ (by omega), up2_nq _ (by omega), up2_nq _ (by omega), up2_nq _ (by omega), up2_nq _ (by omega), cRi_fr _ _ _ _ _ (by omega), cOf_fr _ _ _ _ _ _ _ (by omega), up2_nq _ (by omega), up2_nq _ (by omega), up2_nq _ (by omega), up2_nq _ (by omega), up2_hit]
      all_goals simp only [Bool.true_and]
    · rw [if_neg e, up2_nq _ (by omega), up2_nq _ (by omega), up2_nq _ (by omega), up2_nq _ (by omega), up2_nq _ (by omega), up2_nq _ (by omega), cRi_fr _ _ _ _ _ (by omega), cOf_fr _ _ _ _ _ _ _ (by omega), up2_nq _ (by omega), up2_nq _ (by omega), up2_nq _ (by omega), up2_nq _ (by omega), up2_nq _ (by omega), up2_nq _ (by omega), up2_nq _ (by omega), up2_nq _ (by omega), up2_nq _ (by omega), up2_nq _ (by omega), up2_nq _ (by omega)]
  · intro j
    by_cases e : j = t
    · subst e
      rw [if_pos rfl, up2_nq _ (by omega), up2_nq _ (by omega), up2_nq _ (by omega), up2_nq _ (by omega), up2_nq _ (by omega), up2_nq _ (by omega), cRi_fr _ _ _ _ _ (by omega), cOf_fr _ _ _ _ _ _ _ (by omega), up2_nq _ (by omega), up2_nq _ (by omega), up2_nq _ (by omega), up2_nq _ (by omega), up2_nq _ (by omega), up2_nq _ (by omega), up2_nq _ (by omega), up2_nq _ (by omega), up2_nq _ (by omega), up2_nq _ (by omega), up2_nq _ (by omega)]
      rw [hBW]
      try (first | rfl | (congr 1; apply bs_c; intro p _; simp))
    · rw [if_neg e, up2_nq _ (by omega), up2_nq _ (by omega), up2_nq _ (by omega), up2_nq _ (by omega), up2_nq _ (by omega), up2_nq _ (by omega), cRi_fr _ _ _ _ _ (by omega), cOf_fr _ _ _ _ _ _ _ (by omega), up2_nq _ (by omega), up2_nq _ (by omega), up2_nq _ (by omega), up2_nq _ (by omega), up2_nq _ (by omega), up2_nq _ (by omega), up2_nq _ (by omega), up2_nq _ (by omega), up2_nq _ (by omega), up2_nq _ (by omega), up2_nq _ (by omega)]
  · intro j hj
    rw [up2_nq _ (by omega), up2_nq _ (by omega), up2_nq _ (by omega), up2_nq _ (by omega), up2_nq _ (by omega), up2_nq _ (by omega), cRi_fr _ _ _ _ _ (by omega), cOf_247 _ _ _ _ _ _ hj]
    have hb : ∀ x : Int, x = σ 247 j → True := fun _ _ => trivial
    rw [up2_nq _ (by omega), up2_nq _ (by omega), up2_nq _ (by omega), up2_nq _ (by omega), up2_nq _ (by omega), up2_nq _ (by omega), up2_nq _ (by omega), up2_nq _ (by omega), up2_nq _ (by omega), up2_nq _ (by omega), up2_nq _ (by omega)]
  · intro j hj
    rw [up2_nq _ (by omega), up2_nq _ (by omega), up2_nq _ (by omega), up2_nq _ (by omega), up2_nq _ (by omega), up2_nq _ (by omega), cRi_fr _ _ _ _ _ (by omega), cOf_248 _ _ _ _ _ _ hj]
    have hb : ∀ x : Int, x = σ 248 j → True := fun _ _ => trivial
    rw [up2_nq _ (by omega), up2_nq _ (by omega), up2_nq _ (by omega), up2_nq _ (by omega), up2_nq _ (by omega), up2_nq _ (by omega), up2_nq _ (by omega), up2_nq _ (by omega), up2_nq _ (by omega), up2_nq _ (by omega), up2_nq _ (by omega)]
  · intro j hj
    rw [up2_nq _ (by omega), up2_nq _ (by omega), up2_nq _ (by omega), up2_nq _ (by omega), up2_nq _ (by omega), up2_nq _ (by omega), cRi_249 _ _ _ _ hj]
    have hb : ∀ x : Int, x = σ 249 j → True := fun _ _ => trivial
    rw [cOf_fr _ _ _ _ _ _ _ (by omega), up2_nq _ (by omega), up2_nq _ (by omega), up2_nq _ (by omega), up2_nq _ (by omega), up2_nq _ (by omega), up2_nq _ (by omega), up2_nq _ (by omega), up2_nq _ (by omega), up2_nq _ (by omega), up2_nq _ (by omega), up2_nq _ (by omega)]
  · rw [up2_nq _ (by omega), up2_nq _ (by omega), up2_nq _ (by omega), up2_nq _ (by omega), up2_nq _ (by omega), up2_nq _ (by omega), cRi_fr _ _ _ _ _ (by omega), cOf_fr _ _ _ _ _ _ _ (by omega), up2_hit]
    all_goals simp only [Bool.true_and]
  · rw [up2_nq _ (by omega), up2_nq _ (by omega), up2_hit]
    all_goals simp only [Bool.true_and]
  · rw [up2_nq _ (by omega), up2_nq _ (by omega), up2_nq _ (by omega), up2_nq _ (by omega), up2_nq _ (by omega), up2_nq _ (by omega), cRi_fr _ _ _ _ _ (by omega), cOf_fr _ _ _ _ _ _ _ (by omega), up2_nq _ (by omega), up2_nq _ (by omega), up2_nq _ (by omega), up2_nq _ (by omega), up2_nq _ (by omega), up2_nq _ (by omega), up2_hit]
    all_goals simp only [Bool.true_and]
  · rw [up2_nq _ (by omega), up2_nq _ (by omega), up2_nq _ (by omega), up2_nq _ (by omega), up2_nq _ (by omega), up2_nq _ (by omega), cRi_fr _ _ _ _ _ (by omega), cOf_fr _ _ _ _ _ _ _ (by omega), up2_nq _ (by omega), up2_nq _ (by omega), up2_nq _ (by omega), up2_nq _ (by omega), up2_nq _ (by omega), up2_hit]
    all_goals simp only [Bool.true_and]
  · intro t' j ht'
    by_cases e : t' = t ∧ j = k
    · rw [if_pos e, e.1, e.2, up2_nq _ (by omega), up2_nq _ (by omega), up2_nq _ (by omega), up2_nq _ (by omega), up2_nq _ (by omega), up2_nq _ (by omega), cRi_fr _ _ _ _ _ (by omega), cOf_fr _ _ _ _ _ _ _ (by omega), up2_nq _ (by omega), up2_nq _ (by omega), up2_nq _ (by omega), up2_nq _ (by omega), up2_nq _ (by omega), up2_nq _ (by omega), up2_nq _ (by omega), up2_nq _ (by omega), up2_nq _ (by omega), up2_nq _ (by omega), up2_hit]
    · rw [if_neg e, up2_nq _ (by omega), up2_nq _ (by omega), up2_nq _ (by omega), up2_nq _ (by omega), up2_nq _ (by omega), up2_nq _ (by omega), cRi_fr _ _ _ _ _ (by omega), cOf_fr _ _ _ _ _ _ _ (by omega), up2_nq _ (by omega), up2_nq _ (by omega), up2_nq _ (by omega), up2_nq _ (by omega), up2_nq _ (by omega), up2_nq _ (by omega), up2_nq _ (by omega), up2_nq _ (by omega), up2_nq _ (by omega), up2_nq _ (by omega), up2_nq _ (by omega)]
  · intro t' j ht'
    by_cases e : t' = t ∧ j = k
    · rw [if_pos e, e.1, e.2, up2_nq _ (by omega), up2_nq _ (by omega), up2_nq _ (by omega), up2_nq _ (by omega), up2_nq _ (by omega), up2_nq _ (by omega), cRi_fr _ _ _ _ _ (by omega), cOf_fr _ _ _ _ _ _ _ (by omega), up2_nq _ (by omega), up2_nq _ (by omega), up2_nq _ (by omega), up2_nq _ (by omega), up2_nq _ (by omega), up2_nq _ (by omega), up2_nq _ (by omega), up2_nq _ (by omega), up2_nq _ (by omega), up2_hit]
    · rw [if_neg e, up2_nq _ (by omega), up2_nq _ (by omega), up2_nq _ (by omega), up2_nq _ (by omega), up2_nq _ (by omega), up2_nq _ (by omega), cRi_fr _ _ _ _ _ (by omega), cOf_fr _ _ _ _ _ _ _ (by omega), up2_nq _ (by omega), up2_nq _ (by omega), up2_nq _ (by omega), up2_nq _ (by omega), up2_nq _ (by omega), up2_nq _ (by omega), up2_nq _ (by omega), up2_nq _ (by omega), up2_nq _ (by omega), up2_nq _ (by omega), up2_nq _ (by omega)]
  · intro t' j ht'
    by_cases e : t' = t ∧ j = k
    · rw [if_pos e, e.1, e.2, up2_nq _ (by omega), up2_nq _ (by omega), up2_nq _ (by omega), up2_nq _ (by omega), up2_nq _ (by omega), up2_nq _ (by omega), cRi_fr _ _ _ _ _ (by omega), cOf_fr _ _ _ _ _ _ _ (by omega), up2_nq _ (by omega), up2_nq _ (by omega), up2_nq _ (by omega), up2_hit]
    · rw [if_neg e, up2_nq _ (by omega), up2_nq _ (by omega), up2_nq _ (by omega), up2_nq _ (by omega), up2_nq _ (by omega), up2_nq _ (by omega), cRi_fr _ _ _ _ _ (by omega), cOf_fr _ _ _ _ _ _ _ (by omega), up2_nq _ (by omega), up2_nq _ (by omega), up2_nq _ (by omega), up2_nq _ (by omega), up2_nq _ (by omega), up2_nq _ (by omega), up2_nq _ (by omega), up2_nq _ (by omega), up2_nq _ (by omega), up2_nq _ (by omega), up2_nq _ (by omega)]
  · intro t' j ht'
    by_cases e : t' = t ∧ j = k
    · rw [if_pos e, e.1, e.2, up2_nq _ (by omega), up2_nq _ (by omega), up2_nq _ (by omega), up2_nq _ (by omega), up2_nq _ (by omega), up2_hit]
    · rw [if_neg e, up2_nq _ (by omega), up2_nq _ (by omega), up2_nq _ (by omega), up2_nq _ (by omega), up2_nq _ (by omega), up2_nq _ (by omega), cRi_fr _ _ _ _ _ (by omega), cOf_fr _ _ _ _ _ _ _ (by omega), up2_nq _ (by omega), up2_nq _ (by omega), up2_nq _ (by omega), up2_nq _ (by omega), up2_nq _ (by omega), up2_nq _ (by omega), up2_nq _ (by omega), up2_nq _ (by omega), up2_nq _ (by omega), up2_nq _ (by omega), up2_nq _ (by omega)]
  · intro K' j hK
    rw [up2_nq _ (by omega), up2_nq _ (by omega), up2_nq _ (by omega), up2_nq _ (by omega), up2_nq _ (by omega), up2_nq _ (by omega), cRi_fr _ _ _ _ _ (by omega), cOf_fr _ _ _ _ _ _ _ (by omega), up2_nq _ (by omega), up2_nq _ (by omega), up2_nq _ (by omega), up2_nq _ (by omega), up2_nq _ (by omega), up2_nq _ (by omega), up2_nq _ (by omega), up2_nq _ (by omega), up2_nq _ (by omega), up2_nq _ (by omega), up2_nq _ (by omega)]
  · intro j hj
    rw [up2_nq _ (by omega), up2_nq _ (by omega), up2_nq _ (by omega), up2_nq _ (by omega), up2_nq _ (by omega), up2_nq _ (by omega), cRi_fr _ _ _ _ _ (by omega), cOf_fr _ _ _ _ _ _ _ (by omega), up2_nq _ (by omega), up2_nq _ (by omega), up2_nq _ (by omega), up2_nq _ (by omega), up2_nq _ (by omega), up2_nq _ (by omega), up2_nq _ (by omega), up2_nq _ (by omega), up2_nq _ (by omega), up2_nq _ (by omega), up2_nq _ (by omega)]
