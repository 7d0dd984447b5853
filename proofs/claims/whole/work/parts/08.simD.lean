/-! One step of the pure machine: fields, arrays, arraycopy, max and min. -/
theorem cl_at : ∀ u, u < 12 → vwCl[u]? = some (clR u, clT u, nf u) := by
  intro u hu
  match u, hu with
  | 0, _ => rfl
  | 1, _ => rfl
  | 2, _ => rfl
  | 3, _ => rfl
  | 4, _ => rfl
  | 5, _ => rfl
  | 6, _ => rfl
  | 7, _ => rfl
  | 8, _ => rfl
  | 9, _ => rfl
  | 10, _ => rfl
  | 11, _ => rfl
  | n + 12, h => omega
theorem clW_in {w : Cond} (h : w ∈ clW) : w ∈ GT := by
  unfold GT
  simp only [List.mem_append]
  exact Or.inr (Or.inr (Or.inr (Or.inr (Or.inr (Or.inr (Or.inr (Or.inr (Or.inr (Or.inr (Or.inr h))))))))))
theorem cl_in : ∀ u, u < 12 → ∀ w ∈ u_ws (clR u) (clT u) (nf u), w ∈ GT := by
  intro u hu w hw
  refine clW_in ?_
  unfold clW
  simp only [List.mem_append]
  match u, hu with
  | 0, _ => exact Or.inl hw
  | 1, _ => exact Or.inr (Or.inl hw)
  | 2, _ => exact Or.inr (Or.inr (Or.inl hw))
  | 3, _ => exact Or.inr (Or.inr (Or.inr (Or.inl hw)))
  | 4, _ => exact Or.inr (Or.inr (Or.inr (Or.inr (Or.inl hw))))
  | 5, _ => exact Or.inr (Or.inr (Or.inr (Or.inr (Or.inr (Or.inl hw)))))
  | 6, _ => exact Or.inr (Or.inr (Or.inr (Or.inr (Or.inr (Or.inr (Or.inl hw))))))
  | 7, _ => exact Or.inr (Or.inr (Or.inr (Or.inr (Or.inr (Or.inr (Or.inr (Or.inl hw)))))))
  | 8, _ => exact Or.inr (Or.inr (Or.inr (Or.inr (Or.inr (Or.inr (Or.inr (Or.inr (Or.inl hw))))))))
  | 9, _ => exact Or.inr (Or.inr (Or.inr (Or.inr (Or.inr (Or.inr (Or.inr (Or.inr (Or.inr (Or.inl hw)))))))))
  | 10, _ => exact Or.inr (Or.inr (Or.inr (Or.inr (Or.inr (Or.inr (Or.inr (Or.inr (Or.inr (Or.inr (Or.inl hw))))))))))
  | 11, _ => exact Or.inr (Or.inr (Or.inr (Or.inr (Or.inr (Or.inr (Or.inr (Or.inr (Or.inr (Or.inr (Or.inr (hw)))))))))))
  | n + 12, h => omega
theorem cl_nm : ∀ u, u < 12 → ∀ a, a < nf u → ∀ b, b < nf u → a ≠ b → (clT u a).2.1 ≠ (clT u b).2.1 := by
  intro u hu
  match u, hu with
  | 0, _ => exact nmX0
  | 1, _ => exact nmX1
  | 2, _ => exact nmX2
  | 3, _ => exact nmX3
  | 4, _ => exact nmX4
  | 5, _ => exact nmX5
  | 6, _ => exact nmX6
  | 7, _ => exact nmX7
  | 8, _ => exact nmX8
  | 9, _ => exact nmX9
  | 10, _ => exact nmX10
  | 11, _ => exact nmX11
  | n + 12, h => omega
theorem cl_ty : ∀ u, u < 12 → ∀ k, k < nf u → parseFieldDescriptor (clT u k).2.2.1 = some (clTy u k) := by
  intro u hu
  match u, hu with
  | 0, _ => exact tyX0_ok
  | 1, _ => exact tyX1_ok
  | 2, _ => exact tyX2_ok
  | 3, _ => exact tyX3_ok
  | 4, _ => exact tyX4_ok
  | 5, _ => exact tyX5_ok
  | 6, _ => exact tyX6_ok
  | 7, _ => exact tyX7_ok
  | 8, _ => exact tyX8_ok
  | 9, _ => exact tyX9_ok
  | 10, _ => exact tyX10_ok
  | 11, _ => exact tyX11_ok
  | n + 12, h => omega
def tyOk (u f : Nat) : Bool := (ft u f == 0 && (decide (clTy u f = .int) || (decide (clTy u f = .boolean) && fz u f))) || (ft u f == 1 && decide (clTy u f = .long)) || (ft u f == 2 && (clTy u f).isReference)
theorem tyOk_all : ∀ u, u < 12 → ∀ f, f < nf u → tyOk u f = true := by decide +kernel
theorem fx_all : fxL.all (fun l => l.all fun x => decide (x ≤ NC)) = true := by decide +kernel
theorem fx_le (k j : Nat) : fx k j ≤ NC := by
  unfold fx
  rw [List.getD_eq_getElem?_getD, List.getD_eq_getElem?_getD]
  cases h1 : fxL[k]? with
  | none => simp
  | some l =>
    simp only [Option.getD_some]
    cases h2 : l[j]? with
    | none => simp
    | some x =>
      have h3 := List.all_eq_true.mp fx_all l (List.mem_of_getElem? h1)
      have h4 := List.all_eq_true.mp h3 x (List.mem_of_getElem? h2)
      simpa using h4
theorem ln_all : lnL.all (fun x => decide (x ≤ 1800)) = true := by decide +kernel
theorem ln_le (k : Nat) : ln k ≤ 1800 := by
  unfold ln
  rw [List.getD_eq_getElem?_getD]
  cases h1 : lnL[k]? with
  | none => simp
  | some x => simpa using List.all_eq_true.mp ln_all x (List.mem_of_getElem? h1)
theorem rng_small {z : Int} (h1 : -2147483648 ≤ z) (h2 : z < 2147483648) : (Int32.ofInt z).toInt = z := Int32.toInt_ofInt_of_le (by simpa using h1) (by simpa using h2)
theorem clamp_A {z : Int} (h : (Int32.ofInt z).toInt = z) : (Int32.ofInt z).toNatClampNeg = z.toNat := by
  rw [Int32.toNatClampNeg, h]
theorem in_A {z : Int} {n : Nat} (h : (Int32.ofInt z).toInt = z) (h1 : 0 ≤ z) (h2 : z < n) : vp_in (Int32.ofInt z) n := vp_in_iff.mpr (by rw [h]; exact ⟨h1, h2⟩)
theorem cell_obj {G : Geo} {σ : AH} {k u : Nat} (h : kd k = u) (hu : u < 12) : cellA G σ k = .inr (u, (List.range (nf u)).map fun f => cvA G (fval k u f σ)) := by
  unfold cellA
  rw [h, if_pos hu]
theorem cell_i {G : Geo} {σ : AH} {k : Nat} (h : kd k = 20) : cellA G σ k = .inl (G.2.1 20, ln k, .inl fun j => Int32.ofInt (σ k j)) := by
  unfold cellA arrA
  rw [h]; simp
theorem cell_l {G : Geo} {σ : AH} {k : Nat} (h : kd k = 21) : cellA G σ k = .inl (G.2.1 21, ln k, .inr (.inl fun j => Int64.ofInt (σ k j))) := by
  unfold cellA arrA
  rw [h]; simp
theorem cell_z {G : Geo} {σ : AH} {k : Nat} (h : kd k = 22) : cellA G σ k = .inl (G.2.1 22, ln k, .inl fun j => Int32.ofInt (σ k j)) := by
  unfold cellA arrA
  rw [h]; simp
theorem cell_q {G : Geo} {σ : AH} {k : Nat} (h : kd k = 23 ∨ kd k = 24) : cellA G σ k = .inl (G.2.1 (kd k), ln k, .inr (.inr (.inr (.inr fun j => if fx k j = 0 then none else some (G.2.2.1 (fx k j - 1)))))) := by
  unfold cellA arrA
  rcases h with h | h <;> (rw [h]; simp)
theorem cell_same {G : Geo} {σ σ' : AH} {k : Nat} (h : σ' k = σ k) : cellA G σ' k = cellA G σ k := by
  unfold cellA arrA fval
  simp only [h]
theorem up2_ne {σ : AH} {k j k' : Nat} {x : Int} (h : k' ≠ k) : up2 σ k j x k' = σ k' := by
  funext j'
  simp [up2, h]
theorem up2_okH {σ : AH} {k j : Nat} {x : Int} (h : okH σ) (hx : okA 0 (ctA k j, x)) : okH (up2 σ k j x) := by
  intro k' j'
  unfold up2
  split
  · rename_i e1
    obtain ⟨rfl, rfl⟩ := e1
    exact hx
  · exact h _ _
theorem ct_obj {k u f : Nat} (h : kd k = u) (hu : u < 12) : ctA k f = ft u f := by
  unfold ctA
  rw [h, if_pos hu]
theorem ct_i {k j : Nat} (h : kd k = 20) : ctA k j = 0 := by unfold ctA; rw [h]; simp
theorem ct_z {k j : Nat} (h : kd k = 22) : ctA k j = 0 := by unfold ctA; rw [h]; simp
theorem ct_l {k j : Nat} (h : kd k = 21) : ctA k j = 1 := by unfold ctA; rw [h]; simp
theorem fval_ok {m : Nat} {σ : AH} {k u f : Nat} (hσ : okH σ) (h : kd k = u) (hu : u < 12) : okA m (fval k u f σ) := by
  unfold fval
  split
  · have := hσ k f
    rw [ct_obj h hu] at this
    exact okA_0 this
  · rename_i hf
    refine Or.inr (Or.inr (Or.inl ⟨rfl, by simp, ?_⟩))
    have := fx_le k f
    show Int.toNat ((fx k f - 1 : Nat) : Int) < NC
    rw [Int.toNat_natCast]
    omega
theorem nar_b {z : Int} (h : z = 0 ∨ z = 1) : vp_nar .boolean (Int32.ofInt z) = Int32.ofInt z := by
  rcases h with rfl | rfl <;> decide
theorem fit_ref {ty : FieldType} (h : ty.isReference = true) (a : Nat) : narrow ty (.ref a) = .ref a ∧ fits ty (.ref a) = true := by
  cases ty <;> first | exact ⟨rfl, rfl⟩ | (simp [FieldType.isReference] at h)
theorem flT_in {e : Nat × Nat × Nat × Nat} (h : flT.elem e = true) : flW e ∈ GT := by
  have h1 : flW e ∈ flT.map flW := List.mem_map_of_mem (List.elem_iff.mp h)
  unfold GT
  simp only [List.mem_append]
  exact Or.inr (Or.inr (Or.inr (Or.inr (Or.inr (Or.inl h1)))))
theorem copyW_in {w : Cond} (h : w ∈ copyW) : w ∈ GT := by
  unfold GT
  simp only [List.mem_append]
  exact Or.inr (Or.inr (Or.inr (Or.inr (Or.inr (Or.inr (Or.inr (Or.inr (Or.inr (Or.inl h)))))))))
theorem mathW_in {w : Cond} (h : w ∈ mathW) : w ∈ GT := by
  unfold GT
  simp only [List.mem_append]
  exact Or.inr (Or.inr (Or.inr (Or.inr (Or.inr (Or.inr (Or.inr (Or.inr (Or.inr (Or.inr (Or.inl h))))))))))
section SimD
variable {p : Program} {l : Launch} {e : Env} {R : Room} {s : State} {mi : MethodId} {args : Array Value} {below : List Frame} {meth : Method} {c : Code} {H : Heap} {locs : List Loc} {cells slots : Nat} {Q : State → Prop}
variable {G : Geo} {X : AX} {m : Nat} {A : Nat → Prop} {H0 : Heap} {ls : Array Slot} {L st : List AV} {σ : AH} {k pc len u v : Nat} {w : Int} {ts : List (Int × Nat)} {c' : ACfg} {rest : List Value}
theorem sm_get {i : Nat} (C : CxA G X m A H0 p R s mi args c cells slots) (hd : decode (mC m) pc = .ok (.getfield i, len)) (hlen : len = lenI (.getfield i)) (hnx : pcOf m (k + 1) = pc + len) (hp : chkP m (pc, .getfield i, len, u, v, w, ts) = true) (hs : sGet u v k L st σ = some c') (hR : RelA G m A H0 (k, L, st, σ) H locs ls)
    (kk : ∀ (H' : Heap) (locs' : List Loc) (ls' : Array Slot), RelA G m A H0 c' H' locs' ls' → W p l e R s mi args below meth c H' locs' cells slots Q (F0 mi (pcOf m c'.1) ls' (c'.2.2.1.map (cvA G)))) : W p l e R s mi args below meth c H locs cells slots Q (F0 mi pc ls (st.map (cvA G))) := by
  obtain ⟨hx, hb, hml, hown, hts, hfr, hlo, hK, hN, hce, hsl, hSc, hEx⟩ := C
  simp only [lenI] at hlen
  subst hlen
  simp only [chkP, Bool.and_eq_true, decide_eq_true_eq] at hp
  obtain ⟨⟨hp1, hu⟩, hv⟩ := hp
  unfold sGet at hs
  split at hs
  · rename_i x st0
    split at hs
    · rename_i ht
      cases hs
      rw [hnx] at kk
      have okx := okA_ref (hR.2.1 x List.mem_cons_self) ht.1
      have hat := wld_at (G := G) (σ := σ) okx.2
      rw [cell_obj ht.2 hu] at hat
      simp only [List.map_cons, cv_2 ht.1]
      refine va_get (D := G.1) (v := cvA G (fval x.2.toNat u v σ)) hx hb hts (cl_in u hu) hown hK hR.2.2.2.1 x.2.toNat hat (cl_at u hu) v hv (hts _ (flT_in hp1)) (fun _ h9 => h9) (by simp [hv]) hd ?_
      exact kk H locs ls (hR.stk (fun a ha => by
        rcases List.mem_cons.mp ha with rfl | ha
        · exact fval_ok hR.1 ht.2 hu
        · exact hR.2.1 a (List.mem_cons_of_mem _ ha)))
    · cases hs
  · cases hs
theorem sm_put {i : Nat} (C : CxA G X m A H0 p R s mi args c cells slots) (hd : decode (mC m) pc = .ok (.putfield i, len)) (hlen : len = lenI (.putfield i)) (hnx : pcOf m (k + 1) = pc + len) (hp : chkP m (pc, .putfield i, len, u, v, w, ts) = true) (hs : sPut u v k L st σ = some c') (hR : RelA G m A H0 (k, L, st, σ) H locs ls)
    (kk : ∀ (H' : Heap) (locs' : List Loc) (ls' : Array Slot), RelA G m A H0 c' H' locs' ls' → W p l e R s mi args below meth c H' locs' cells slots Q (F0 mi (pcOf m c'.1) ls' (c'.2.2.1.map (cvA G)))) : W p l e R s mi args below meth c H locs cells slots Q (F0 mi pc ls (st.map (cvA G))) := by
  obtain ⟨hx, hb, hml, hown, hts, hfr, hlo, hK, hN, hce, hsl, hSc, hEx⟩ := C
  simp only [lenI] at hlen
  subst hlen
  simp only [chkP, Bool.and_eq_true, decide_eq_true_eq, Bool.not_eq_true'] at hp
  obtain ⟨⟨⟨hp1, hu⟩, hv⟩, hfin⟩ := hp
  unfold sPut at hs
  split at hs
  · rename_i y x st0
    split at hs
    · rename_i ht
      cases hs
      rw [hnx] at kk
      obtain ⟨ht1, ht2, ht3, ht4, ht5⟩ := ht
      have okx := okA_ref (hR.2.1 x (List.mem_cons_of_mem _ List.mem_cons_self)) ht1
      have oky := hR.2.1 y List.mem_cons_self
      have hat := wld_at (G := G) (σ := σ) okx.2
      rw [cell_obj ht2 hu] at hat
      have hty := tyOk_all u hu v hv
      have hnf : narrow (clTy u v) (cvA G y) = cvA G y ∧ fits (clTy u v) (cvA G y) = true := by
        unfold tyOk at hty
        simp only [Bool.or_eq_true, Bool.and_eq_true, beq_iff_eq, decide_eq_true_eq] at hty
        rcases hty with (⟨h0, h1⟩ | ⟨h0, h1⟩) | ⟨h0, h1⟩
        · rw [cv_0 (ht4.trans h0)]
          rcases h1 with h1 | ⟨h1, h2⟩
          · rw [h1]; exact ⟨rfl, rfl⟩
          · rw [h1]
            rcases ht5 h2 with h3 | h3 <;> (rw [h3]; exact ⟨by decide, by decide⟩)
        · rw [cv_1 (ht4.trans h0), h1]; exact ⟨rfl, rfl⟩
        · rw [cv_2 (ht4.trans h0)]
          exact fit_ref h1 _
      simp only [List.map_cons]
      rw [cv_2 (a := x) ht1]
      refine va_put (D := G.1) (v := cvA G y) hx hb hts (cl_in u hu) (clTy u) (cl_ty u hu) (cl_nm u hu) hown hK hR.2.2.2.1 hR.2.2.2.2.1 hR.2.2.2.2.2 x.2.toNat hat (cl_at u hu) v hv (hts _ (flT_in hp1)) (fun _ h9 => h9) hfin (cl_ty u hu v hv) hnf.1 hnf.2 (by simp [hv]) hd (fun H' locs' hP hD hS => ?_)
      have hcell : cellA G (up2 σ x.2.toNat v y.2) x.2.toNat = .inr (u, ((List.range (nf u)).map fun f => cvA G (fval x.2.toNat u f σ)).set v (cvA G y)) := by
        have hl : ((List.range (nf u)).map fun f => cvA G (fval x.2.toNat u f (up2 σ x.2.toNat v y.2))) = ((List.range (nf u)).map fun f => cvA G (fval x.2.toNat u f σ)).set v (cvA G y) := by
          apply List.ext_getElem?
          intro f
          by_cases hf : f = v
          · subst hf
            rw [List.getElem?_set_self (by simpa using hv)]
            simp only [List.getElem?_map, List.getElem?_range hv, Option.map_some]
            have : fval x.2.toNat u f (up2 σ x.2.toNat f y.2) = y := by
              unfold fval
              rw [if_pos ht3]
              simp only [up2, and_self, if_true]
              rw [← ht4]
            rw [this]
          · rw [List.getElem?_set_ne (Ne.symm hf)]
            simp only [List.getElem?_map]
            by_cases hlt : f < nf u
            · simp only [List.getElem?_range hlt, Option.map_some]
              have : fval x.2.toNat u f (up2 σ x.2.toNat v y.2) = fval x.2.toNat u f σ := by
                unfold fval
                simp [up2, hf]
              rw [this]
            · rw [List.getElem?_eq_none (by simp; omega)]
              rfl
        rw [cell_obj ht2 hu, hl]
      rw [wld_set okx.2 (fun k' hk' => cell_same (up2_ne hk')) hcell] at hP hD
      exact kk H' locs' ls ⟨up2_okH hR.1 (by
        rw [ct_obj ht2 hu, ← ht4]
        exact okA_m oky (by
          intro h3
          unfold tyOk at hty
          rw [← ht4, h3] at hty
          simp at hty)), fun a ha => hR.2.1 a (List.mem_cons_of_mem _ (List.mem_cons_of_mem _ ha)), hR.2.2.1, hP, hD, hS⟩
    · cases hs
  · cases hs
theorem sm_iald  (C : CxA G X m A H0 p R s mi args c cells slots) (hd : decode (mC m) pc = .ok (.iaload, len)) (hlen : len = lenI (.iaload)) (hnx : pcOf m (k + 1) = pc + len) (hp : chkP m (pc, .iaload, len, u, v, w, ts) = true) (hs : sAld X 20 0 k L st σ = some c') (hR : RelA G m A H0 (k, L, st, σ) H locs ls)
    (kk : ∀ (H' : Heap) (locs' : List Loc) (ls' : Array Slot), RelA G m A H0 c' H' locs' ls' → W p l e R s mi args below meth c H' locs' cells slots Q (F0 mi (pcOf m c'.1) ls' (c'.2.2.1.map (cvA G)))) : W p l e R s mi args below meth c H locs cells slots Q (F0 mi pc ls (st.map (cvA G))) := by
  obtain ⟨hx, hb, hml, hown, hts, hfr, hlo, hK, hN, hce, hsl, hSc, hEx⟩ := C
  simp only [lenI] at hlen
  subst hlen
  unfold sAld at hs
  split at hs
  · rename_i i x st0
    split at hs
    · rename_i hi
      have oki := okA_int (hR.2.1 i List.mem_cons_self) hi
      split at hs
      · rename_i hx2
        split at hs
        · rename_i ht
          cases hs
          rw [hnx] at kk
          obtain ⟨hk, h0, h1⟩ := ht
          have okx := okA_ref (hR.2.1 x (List.mem_cons_of_mem _ List.mem_cons_self)) hx2
          have hat := wld_at (G := G) (σ := σ) okx.2
          rw [cell_i hk] at hat
          simp only [List.map_cons, cv_0 hi, cv_2 hx2]
          refine va_iald hx hb hK hR.2.2.2.1 x.2.toNat 0 hat rfl (in_A oki h0 h1) hd ?_
          rw [clamp_A oki]
          exact kk H locs ls (hR.stk (fun a ha => by
            rcases List.mem_cons.mp ha with rfl | ha
            · have := hR.1 x.2.toNat i.2.toNat
              rw [ct_i hk] at this
              exact okA_0 this
            · exact hR.2.1 a (List.mem_cons_of_mem _ (List.mem_cons_of_mem _ ha))))
        · cases hs
      · split at hs
        · rename_i ht
          cases hs
          rw [hnx] at kk
          obtain ⟨hx3, -, h0, h1⟩ := ht
          have hm : m = LAW := by
            rcases hR.2.1 x (List.mem_cons_of_mem _ List.mem_cons_self) with h | h | h | h
            · rw [hx3] at h; cases h.1
            · rw [hx3] at h; cases h.1
            · rw [hx3] at h; cases h.1
            · exact h.2
          obtain ⟨hX, hbl, hbA, hL, hxs⟩ := hSc hm
          simp only [List.map_cons, cv_0 hi, cv_3 hx3]
          refine va_sld hx hb hX hbl hbA hR.2.2.2.2.2 (in_A oki h0 h1) hd ?_
          rw [clamp_A oki]
          exact kk H locs ls (hR.stk (fun a ha => by
            rcases List.mem_cons.mp ha with rfl | ha
            · exact Or.inl ⟨rfl, hxs _⟩
            · exact hR.2.1 a (List.mem_cons_of_mem _ (List.mem_cons_of_mem _ ha))))
        · cases hs
    · cases hs
  · cases hs
theorem sm_lald  (C : CxA G X m A H0 p R s mi args c cells slots) (hd : decode (mC m) pc = .ok (.laload, len)) (hlen : len = lenI (.laload)) (hnx : pcOf m (k + 1) = pc + len) (hp : chkP m (pc, .laload, len, u, v, w, ts) = true) (hs : sAld X 21 1 k L st σ = some c') (hR : RelA G m A H0 (k, L, st, σ) H locs ls)
    (kk : ∀ (H' : Heap) (locs' : List Loc) (ls' : Array Slot), RelA G m A H0 c' H' locs' ls' → W p l e R s mi args below meth c H' locs' cells slots Q (F0 mi (pcOf m c'.1) ls' (c'.2.2.1.map (cvA G)))) : W p l e R s mi args below meth c H locs cells slots Q (F0 mi pc ls (st.map (cvA G))) := by
  obtain ⟨hx, hb, hml, hown, hts, hfr, hlo, hK, hN, hce, hsl, hSc, hEx⟩ := C
  simp only [lenI] at hlen
  subst hlen
  unfold sAld at hs
  split at hs
  · rename_i i x st0
    split at hs
    · rename_i hi
      have oki := okA_int (hR.2.1 i List.mem_cons_self) hi
      split at hs
      · rename_i hx2
        split at hs
        · rename_i ht
          cases hs
          rw [hnx] at kk
          obtain ⟨hk, h0, h1⟩ := ht
          have okx := okA_ref (hR.2.1 x (List.mem_cons_of_mem _ List.mem_cons_self)) hx2
          have hat := wld_at (G := G) (σ := σ) okx.2
          rw [cell_l hk] at hat
          simp only [List.map_cons, cv_0 hi, cv_2 hx2]
          refine va_lald hx hb hK hR.2.2.2.1 x.2.toNat 1 hat rfl (in_A oki h0 h1) hd ?_
          rw [clamp_A oki]
          exact kk H locs ls (hR.stk (fun a ha => by
            rcases List.mem_cons.mp ha with rfl | ha
            · have := hR.1 x.2.toNat i.2.toNat
              rw [ct_l hk] at this
              exact okA_0 this
            · exact hR.2.1 a (List.mem_cons_of_mem _ (List.mem_cons_of_mem _ ha))))
        · cases hs
      · split at hs
        · rename_i ht
          exact absurd ht.2.1 (by decide)
        · cases hs
    · cases hs
  · cases hs
theorem sm_zald  (C : CxA G X m A H0 p R s mi args c cells slots) (hd : decode (mC m) pc = .ok (.baload, len)) (hlen : len = lenI (.baload)) (hnx : pcOf m (k + 1) = pc + len) (hp : chkP m (pc, .baload, len, u, v, w, ts) = true) (hs : sAld X 22 0 k L st σ = some c') (hR : RelA G m A H0 (k, L, st, σ) H locs ls)
    (kk : ∀ (H' : Heap) (locs' : List Loc) (ls' : Array Slot), RelA G m A H0 c' H' locs' ls' → W p l e R s mi args below meth c H' locs' cells slots Q (F0 mi (pcOf m c'.1) ls' (c'.2.2.1.map (cvA G)))) : W p l e R s mi args below meth c H locs cells slots Q (F0 mi pc ls (st.map (cvA G))) := by
  obtain ⟨hx, hb, hml, hown, hts, hfr, hlo, hK, hN, hce, hsl, hSc, hEx⟩ := C
  simp only [lenI] at hlen
  subst hlen
  unfold sAld at hs
  split at hs
  · rename_i i x st0
    split at hs
    · rename_i hi
      have oki := okA_int (hR.2.1 i List.mem_cons_self) hi
      split at hs
      · rename_i hx2
        split at hs
        · rename_i ht
          cases hs
          rw [hnx] at kk
          obtain ⟨hk, h0, h1⟩ := ht
          have okx := okA_ref (hR.2.1 x (List.mem_cons_of_mem _ List.mem_cons_self)) hx2
          have hat := wld_at (G := G) (σ := σ) okx.2
          rw [cell_z hk] at hat
          simp only [List.map_cons, cv_0 hi, cv_2 hx2]
          refine va_zald hx hb hK hR.2.2.2.1 x.2.toNat 2 hat rfl (in_A oki h0 h1) hd ?_
          rw [clamp_A oki]
          exact kk H locs ls (hR.stk (fun a ha => by
            rcases List.mem_cons.mp ha with rfl | ha
            · have := hR.1 x.2.toNat i.2.toNat
              rw [ct_z hk] at this
              exact okA_0 this
            · exact hR.2.1 a (List.mem_cons_of_mem _ (List.mem_cons_of_mem _ ha))))
        · cases hs
      · split at hs
        · rename_i ht
          exact absurd ht.2.1 (by decide)
        · cases hs
    · cases hs
  · cases hs
theorem sm_iast  (C : CxA G X m A H0 p R s mi args c cells slots) (hd : decode (mC m) pc = .ok (.iastore, len)) (hlen : len = lenI (.iastore)) (hnx : pcOf m (k + 1) = pc + len) (hp : chkP m (pc, .iastore, len, u, v, w, ts) = true) (hs : sAst 20 0 k L st σ = some c') (hR : RelA G m A H0 (k, L, st, σ) H locs ls)
    (kk : ∀ (H' : Heap) (locs' : List Loc) (ls' : Array Slot), RelA G m A H0 c' H' locs' ls' → W p l e R s mi args below meth c H' locs' cells slots Q (F0 mi (pcOf m c'.1) ls' (c'.2.2.1.map (cvA G)))) : W p l e R s mi args below meth c H locs cells slots Q (F0 mi pc ls (st.map (cvA G))) := by
  obtain ⟨hx, hb, hml, hown, hts, hfr, hlo, hK, hN, hce, hsl, hSc, hEx⟩ := C
  simp only [lenI] at hlen
  subst hlen
  unfold sAst at hs
  split at hs
  · rename_i y i x st0
    split at hs
    · rename_i ht
      cases hs
      rw [hnx] at kk
      obtain ⟨hi, hx2, hy, hk, h0, h1, hz⟩ := ht
      have oki := okA_int (hR.2.1 i (List.mem_cons_of_mem _ List.mem_cons_self)) hi
      have okx := okA_ref (hR.2.1 x (List.mem_cons_of_mem _ (List.mem_cons_of_mem _ List.mem_cons_self))) hx2
      have oky := hR.2.1 y List.mem_cons_self
      have hat := wld_at (G := G) (σ := σ) okx.2
      rw [cell_i hk] at hat
      simp only [List.map_cons, cv_0 hi, cv_2 hx2, cv_0 hy]
      refine va_iast hx hb hK hR.2.2.2.1 hR.2.2.2.2.1 hR.2.2.2.2.2 x.2.toNat 0 hat rfl (in_A oki h0 h1) hd (fun H' locs' hP hD hS => ?_)
      rw [clamp_A oki] at hP hD
      have hcell : cellA G (up2 σ x.2.toNat i.2.toNat y.2) x.2.toNat = .inl (G.2.1 20, ln x.2.toNat, .inl (upd (fun j => Int32.ofInt (σ x.2.toNat j)) i.2.toNat (Int32.ofInt y.2))) := by
        rw [cell_i hk]
        have hf : (fun j => Int32.ofInt (up2 σ x.2.toNat i.2.toNat y.2 x.2.toNat j)) = upd (fun j => Int32.ofInt (σ x.2.toNat j)) i.2.toNat (Int32.ofInt y.2) := by
          funext j
          simp only [up2, true_and, upd]
          split <;> rfl
        rw [hf]
      rw [wld_set okx.2 (fun k' hk' => cell_same (up2_ne hk')) hcell] at hP hD
      exact kk H' locs' ls ⟨up2_okH hR.1 (by
        rw [ct_i hk, ← hy]
        exact okA_m oky (by rw [hy]; decide)), fun a ha => hR.2.1 a (List.mem_cons_of_mem _ (List.mem_cons_of_mem _ (List.mem_cons_of_mem _ ha))), hR.2.2.1, hP, hD, hS⟩
    · cases hs
  · cases hs
theorem sm_last  (C : CxA G X m A H0 p R s mi args c cells slots) (hd : decode (mC m) pc = .ok (.lastore, len)) (hlen : len = lenI (.lastore)) (hnx : pcOf m (k + 1) = pc + len) (hp : chkP m (pc, .lastore, len, u, v, w, ts) = true) (hs : sAst 21 1 k L st σ = some c') (hR : RelA G m A H0 (k, L, st, σ) H locs ls)
    (kk : ∀ (H' : Heap) (locs' : List Loc) (ls' : Array Slot), RelA G m A H0 c' H' locs' ls' → W p l e R s mi args below meth c H' locs' cells slots Q (F0 mi (pcOf m c'.1) ls' (c'.2.2.1.map (cvA G)))) : W p l e R s mi args below meth c H locs cells slots Q (F0 mi pc ls (st.map (cvA G))) := by
  obtain ⟨hx, hb, hml, hown, hts, hfr, hlo, hK, hN, hce, hsl, hSc, hEx⟩ := C
  simp only [lenI] at hlen
  subst hlen
  unfold sAst at hs
  split at hs
  · rename_i y i x st0
    split at hs
    · rename_i ht
      cases hs
      rw [hnx] at kk
      obtain ⟨hi, hx2, hy, hk, h0, h1, hz⟩ := ht
      have oki := okA_int (hR.2.1 i (List.mem_cons_of_mem _ List.mem_cons_self)) hi
      have okx := okA_ref (hR.2.1 x (List.mem_cons_of_mem _ (List.mem_cons_of_mem _ List.mem_cons_self))) hx2
      have oky := hR.2.1 y List.mem_cons_self
      have hat := wld_at (G := G) (σ := σ) okx.2
      rw [cell_l hk] at hat
      simp only [List.map_cons, cv_0 hi, cv_2 hx2, cv_1 hy]
      refine va_last hx hb hK hR.2.2.2.1 hR.2.2.2.2.1 hR.2.2.2.2.2 x.2.toNat 1 hat rfl (in_A oki h0 h1) hd (fun H' locs' hP hD hS => ?_)
      rw [clamp_A oki] at hP hD
      have hcell : cellA G (up2 σ x.2.toNat i.2.toNat y.2) x.2.toNat = .inl (G.2.1 21, ln x.2.toNat, .inr (.inl (vp_updL (fun j => Int64.ofInt (σ x.2.toNat j)) i.2.toNat (Int64.ofInt y.2)))) := by
        rw [cell_l hk]
        have hf : (fun j => Int64.ofInt (up2 σ x.2.toNat i.2.toNat y.2 x.2.toNat j)) = vp_updL (fun j => Int64.ofInt (σ x.2.toNat j)) i.2.toNat (Int64.ofInt y.2) := by
          funext j
          simp only [up2, true_and, vp_updL]
          split <;> rfl
        rw [hf]
      rw [wld_set okx.2 (fun k' hk' => cell_same (up2_ne hk')) hcell] at hP hD
      exact kk H' locs' ls ⟨up2_okH hR.1 (by
        rw [ct_l hk, ← hy]
        exact okA_m oky (by rw [hy]; decide)), fun a ha => hR.2.1 a (List.mem_cons_of_mem _ (List.mem_cons_of_mem _ (List.mem_cons_of_mem _ ha))), hR.2.2.1, hP, hD, hS⟩
    · cases hs
  · cases hs
theorem sm_zast  (C : CxA G X m A H0 p R s mi args c cells slots) (hd : decode (mC m) pc = .ok (.bastore, len)) (hlen : len = lenI (.bastore)) (hnx : pcOf m (k + 1) = pc + len) (hp : chkP m (pc, .bastore, len, u, v, w, ts) = true) (hs : sAst 22 0 k L st σ = some c') (hR : RelA G m A H0 (k, L, st, σ) H locs ls)
    (kk : ∀ (H' : Heap) (locs' : List Loc) (ls' : Array Slot), RelA G m A H0 c' H' locs' ls' → W p l e R s mi args below meth c H' locs' cells slots Q (F0 mi (pcOf m c'.1) ls' (c'.2.2.1.map (cvA G)))) : W p l e R s mi args below meth c H locs cells slots Q (F0 mi pc ls (st.map (cvA G))) := by
  obtain ⟨hx, hb, hml, hown, hts, hfr, hlo, hK, hN, hce, hsl, hSc, hEx⟩ := C
  simp only [lenI] at hlen
  subst hlen
  unfold sAst at hs
  split at hs
  · rename_i y i x st0
    split at hs
    · rename_i ht
      cases hs
      rw [hnx] at kk
      obtain ⟨hi, hx2, hy, hk, h0, h1, hz⟩ := ht
      have oki := okA_int (hR.2.1 i (List.mem_cons_of_mem _ List.mem_cons_self)) hi
      have okx := okA_ref (hR.2.1 x (List.mem_cons_of_mem _ (List.mem_cons_of_mem _ List.mem_cons_self))) hx2
      have oky := hR.2.1 y List.mem_cons_self
      have hat := wld_at (G := G) (σ := σ) okx.2
      rw [cell_z hk] at hat
      simp only [List.map_cons, cv_0 hi, cv_2 hx2, cv_0 hy]
      refine va_zast hx hb hK hR.2.2.2.1 hR.2.2.2.2.1 hR.2.2.2.2.2 x.2.toNat 2 hat rfl (in_A oki h0 h1) hd (fun H' locs' hP hD hS => ?_)
      rw [clamp_A oki] at hP hD
      rw [nar_b (hz rfl)] at hP hD
      have hcell : cellA G (up2 σ x.2.toNat i.2.toNat y.2) x.2.toNat = .inl (G.2.1 22, ln x.2.toNat, .inl (upd (fun j => Int32.ofInt (σ x.2.toNat j)) i.2.toNat (Int32.ofInt y.2))) := by
        rw [cell_z hk]
        have hf : (fun j => Int32.ofInt (up2 σ x.2.toNat i.2.toNat y.2 x.2.toNat j)) = upd (fun j => Int32.ofInt (σ x.2.toNat j)) i.2.toNat (Int32.ofInt y.2) := by
          funext j
          simp only [up2, true_and, upd]
          split <;> rfl
        rw [hf]
      rw [wld_set okx.2 (fun k' hk' => cell_same (up2_ne hk')) hcell] at hP hD
      exact kk H' locs' ls ⟨up2_okH hR.1 (by
        rw [ct_z hk, ← hy]
        exact okA_m oky (by rw [hy]; decide)), fun a ha => hR.2.1 a (List.mem_cons_of_mem _ (List.mem_cons_of_mem _ (List.mem_cons_of_mem _ ha))), hR.2.2.1, hP, hD, hS⟩
    · cases hs
  · cases hs
theorem sm_aald  (C : CxA G X m A H0 p R s mi args c cells slots) (hd : decode (mC m) pc = .ok (.aaload, len)) (hlen : len = lenI (.aaload)) (hnx : pcOf m (k + 1) = pc + len) (hp : chkP m (pc, .aaload, len, u, v, w, ts) = true) (hs : sAald k L st σ = some c') (hR : RelA G m A H0 (k, L, st, σ) H locs ls)
    (kk : ∀ (H' : Heap) (locs' : List Loc) (ls' : Array Slot), RelA G m A H0 c' H' locs' ls' → W p l e R s mi args below meth c H' locs' cells slots Q (F0 mi (pcOf m c'.1) ls' (c'.2.2.1.map (cvA G)))) : W p l e R s mi args below meth c H locs cells slots Q (F0 mi pc ls (st.map (cvA G))) := by
  obtain ⟨hx, hb, hml, hown, hts, hfr, hlo, hK, hN, hce, hsl, hSc, hEx⟩ := C
  simp only [lenI] at hlen
  subst hlen
  unfold sAald at hs
  split at hs
  · rename_i i x st0
    split at hs
    · rename_i ht
      cases hs
      rw [hnx] at kk
      obtain ⟨hi, hx2, hk, h0, h1, hf⟩ := ht
      have oki := okA_int (hR.2.1 i List.mem_cons_self) hi
      have okx := okA_ref (hR.2.1 x (List.mem_cons_of_mem _ List.mem_cons_self)) hx2
      have hat := wld_at (G := G) (σ := σ) okx.2
      rw [cell_q hk] at hat
      simp only [List.map_cons, cv_0 hi, cv_2 hx2]
      have kk' := kk H locs ls (hR.stk (fun a ha => by
        rcases List.mem_cons.mp ha with rfl | ha
        · refine Or.inr (Or.inr (Or.inl ⟨rfl, by simp, ?_⟩))
          have := fx_le x.2.toNat i.2.toNat
          show Int.toNat ((fx x.2.toNat i.2.toNat - 1 : Nat) : Int) < NC
          rw [Int.toNat_natCast]
          omega
        · exact hR.2.1 a (List.mem_cons_of_mem _ (List.mem_cons_of_mem _ ha))))
      have hin := in_A (n := ln x.2.toNat) oki h0 h1
      have hlt : (Int32.ofInt i.2).toNatClampNeg < ln x.2.toNat := Nat.not_le.mp fun q => hin (Or.inr q)
      have hv : va_rf (if fx x.2.toNat (Int32.ofInt i.2).toNatClampNeg = 0 then none else some (G.2.2.1 (fx x.2.toNat (Int32.ofInt i.2).toNatClampNeg - 1))) = .ref (G.2.2.1 (fx x.2.toNat i.2.toNat - 1)) := by
        rw [clamp_A oki, if_neg (by omega)]
        rfl
      rcases hk with hk | hk
      · rw [hk] at hat
        refine va_aldq hx hb hK hR.2.2.2.1 x.2.toNat 3 hat rfl hin hd ?_
        rw [hv]
        exact kk'
      · rw [hk] at hat
        have ht : (tysG G)[4]? = some (G.2.1 24, .array .int) := rfl
        refine W.aald (v := va_rf (if fx x.2.toNat (Int32.ofInt i.2).toNatClampNeg = 0 then none else some (G.2.2.1 (fx x.2.toNat (Int32.ofInt i.2).toNatClampNeg - 1)))) (ty := .array .int) hx hb (hR.2.2.2.1 x.2.toNat _ hat) ((hK.2 4 _ ht).1 (ln x.2.toNat) (fun j => va_rf (if fx x.2.toNat j = 0 then none else some (G.2.2.1 (fx x.2.toNat j - 1))))) rfl (fun q => by cases q) (by show ¬ (_ ∨ (arrV _ _ _).slots.size ≤ _); rw [arrV_size]; exact hin) (by show (arrV _ _ _).slots[_]? = _; rw [arrV_read _ _ hlt]) rfl rfl hd ?_
        rw [hv]
        exact kk'
    · cases hs
  · cases hs
theorem sm_alen  (C : CxA G X m A H0 p R s mi args c cells slots) (hd : decode (mC m) pc = .ok (.arraylength, len)) (hlen : len = lenI (.arraylength)) (hnx : pcOf m (k + 1) = pc + len) (hp : chkP m (pc, .arraylength, len, u, v, w, ts) = true) (hs : sAlen X k L st σ = some c') (hR : RelA G m A H0 (k, L, st, σ) H locs ls)
    (kk : ∀ (H' : Heap) (locs' : List Loc) (ls' : Array Slot), RelA G m A H0 c' H' locs' ls' → W p l e R s mi args below meth c H' locs' cells slots Q (F0 mi (pcOf m c'.1) ls' (c'.2.2.1.map (cvA G)))) : W p l e R s mi args below meth c H locs cells slots Q (F0 mi pc ls (st.map (cvA G))) := by
  obtain ⟨hx, hb, hml, hown, hts, hfr, hlo, hK, hN, hce, hsl, hSc, hEx⟩ := C
  simp only [lenI] at hlen
  subst hlen
  unfold sAlen at hs
  split at hs
  · rename_i x st0
    split at hs
    · rename_i ht
      cases hs
      rw [hnx] at kk
      obtain ⟨hx2, h20, h24⟩ := ht
      have okx := okA_ref (hR.2.1 x List.mem_cons_self) hx2
      have hat := wld_at (G := G) (σ := σ) okx.2
      have hce : cellA G σ x.2.toNat = .inl (G.2.1 (kd x.2.toNat), arrA G σ x.2.toNat) := by
        unfold cellA
        rw [if_neg (by omega)]
      rw [hce] at hat
      simp only [List.map_cons, cv_2 hx2]
      have kk' := kk H locs ls (hR.stk (fun a ha => by
        rcases List.mem_cons.mp ha with rfl | ha
        · refine Or.inl ⟨rfl, rng_small ?_ ?_⟩
          · show (-2147483648 : Int) ≤ (ln x.2.toNat : Int); omega
          · have := ln_le x.2.toNat
            show (ln x.2.toNat : Int) < 2147483648; omega
        · exact hR.2.1 a (List.mem_cons_of_mem _ ha)))
      have hlen2 : Int32.ofNat (arrA G σ x.2.toNat).1 = Int32.ofInt (ln x.2.toNat) := by
        show Int32.ofNat (ln x.2.toNat) = _
        rw [Int32.ofInt_eq_ofNat]
      have go : ∀ (t0 : Nat) (ty : FieldType), (tysG G)[t0]? = some (G.2.1 (kd x.2.toNat), ty) → W p l e R s mi args below meth c H locs cells slots Q (F0 mi pc ls (.ref (G.2.2.1 x.2.toNat) :: st0.map (cvA G))) := fun t0 ty ht => va_alen (v := Int32.ofInt (ln x.2.toNat)) hx hb hK hR.2.2.2.1 x.2.toNat t0 hat ht hlen2 hd kk'
      rcases (show kd x.2.toNat = 20 ∨ kd x.2.toNat = 21 ∨ kd x.2.toNat = 22 ∨ kd x.2.toNat = 23 ∨ kd x.2.toNat = 24 by omega) with h | h | h | h | h
      · exact go 0 .int (by rw [h]; rfl)
      · exact go 1 .long (by rw [h]; rfl)
      · exact go 2 .boolean (by rw [h]; rfl)
      · exact go 3 (.object "BornAboard$People") (by rw [h]; rfl)
      · exact go 4 (.array .int) (by rw [h]; rfl)
    · split at hs
      · rename_i hx3
        cases hs
        rw [hnx] at kk
        have hm : m = LAW := by
          rcases hR.2.1 x List.mem_cons_self with h | h | h | h
          · rw [hx3] at h; cases h.1
          · rw [hx3] at h; cases h.1
          · rw [hx3] at h; cases h.1
          · exact h.2
        obtain ⟨hX, hbl, hbA, hL, hxs⟩ := hSc hm
        simp only [List.map_cons, cv_3 hx3]
        refine va_slen hx hb hX hbl hbA hR.2.2.2.2.2 hd ?_
        have kk' := kk H locs ls (hR.stk (fun a ha => by
          rcases List.mem_cons.mp ha with rfl | ha
          · refine Or.inl ⟨rfl, rng_small ?_ ?_⟩
            · show (-2147483648 : Int) ≤ (X.1 : Int); omega
            · show (X.1 : Int) < 2147483648; omega
          · exact hR.2.1 a (List.mem_cons_of_mem _ ha)))
        have : Int32.ofNat X.1 = Int32.ofInt (X.1 : Int) := by rw [Int32.ofInt_eq_ofNat]
        rw [this]
        exact kk'
      · cases hs
  · cases hs
theorem sm_copy {i : Nat} (h1000 : u = 1000) (C : CxA G X m A H0 p R s mi args c cells slots) (hd : decode (mC m) pc = .ok (.invokestatic i, len)) (hlen : len = lenI (.invokestatic i)) (hnx : pcOf m (k + 1) = pc + len) (hp : chkP m (pc, .invokestatic i, len, u, v, w, ts) = true) (hs : sCopy k L st σ = some c') (hR : RelA G m A H0 (k, L, st, σ) H locs ls)
    (kk : ∀ (H' : Heap) (locs' : List Loc) (ls' : Array Slot), RelA G m A H0 c' H' locs' ls' → W p l e R s mi args below meth c H' locs' cells slots Q (F0 mi (pcOf m c'.1) ls' (c'.2.2.1.map (cvA G)))) : W p l e R s mi args below meth c H locs cells slots Q (F0 mi pc ls (st.map (cvA G))) := by
  obtain ⟨hx, hb, hml, hown, hts, hfr, hlo, hK, hN, hce, hsl, hSc, hEx⟩ := C
  simp only [lenI] at hlen
  subst hlen
  subst h1000
  simp only [chkP, if_true, Bool.and_eq_true, decide_eq_true_eq] at hp
  obtain ⟨⟨⟨hp1, hp2⟩, hp3⟩, hp4⟩ := hp
  unfold sCopy at hs
  split at hs
  · rename_i n dp d sp sr st0
    split at hs
    · rename_i ht
      cases hs
      rw [hnx] at kk
      obtain ⟨hn0, hdp0, hsp0, hd2, hs2, hkd, hks, g1, g2, g3, g4, g5, g6⟩ := ht
      have okn := okA_int (hR.2.1 n (by simp)) hn0
      have okdp := okA_int (hR.2.1 dp (by simp)) hdp0
      have oksp := okA_int (hR.2.1 sp (by simp)) hsp0
      have okd := okA_ref (hR.2.1 d (by simp)) hd2
      have oks := okA_ref (hR.2.1 sr (by simp)) hs2
      have hatd := wld_at (G := G) (σ := σ) okd.2
      rw [cell_i hkd] at hatd
      have hats := wld_at (G := G) (σ := σ) oks.2
      rw [cell_i hks] at hats
      have hst0 : ∀ a ∈ st0, okA m a := fun a ha => hR.2.1 a (by simp [ha])
      simp only [List.map_cons, cv_0 hn0, cv_0 hdp0, cv_0 hsp0, cv_2 hd2, cv_2 hs2]
      have nn : ∀ z : Int, (Int32.ofInt z).toInt = z → 0 ≤ z → ¬ Int32.ofInt z < 0 := fun z h1 h2 q => by
        rw [c_z, c_lt h1 c_00] at q
        omega
      have hl' : s.vm.findClass RX6 = some mi.cls := by rw [hp1] at hown; exact hown
      refine va_copyi (ty := .int) hx hb (by rw [hml]; exact hR.2.2.1.size.symm) (own := RX6) (index := i) hl' (by rw [hp2]; exact hts _ (copyW_in (by simp [copyW]))) (hts _ (copyW_in (by simp [copyW]))) (hts _ (copyW_in (by simp [copyW]))) (hts _ (copyW_in (by simp [copyW]))) hK hR.2.2.2.1 hR.2.2.2.2.1 hR.2.2.2.2.2 sr.2.toNat d.2.toNat 0 0 hats hatd rfl rfl rfl (nn _ oksp g3) (nn _ okdp g2) (nn _ okn g1) (by rw [clamp_A oksp, clamp_A okn]; omega) (by rw [clamp_A okdp, clamp_A okn]; omega) (fun i _ => rfl) (by omega) (by rw [cv_cats hst0]; show aCats st0 + (5 + 2 + 11) ≤ R.locals; omega) hd (fun H' locs' hP hD hS => ?_)
      rw [clamp_A oksp, clamp_A okdp, clamp_A okn] at hP hD
      have hcell : cellA G (cpy2 σ sr.2.toNat d.2.toNat sp.2.toNat dp.2.toNat n.2.toNat) d.2.toNat = .inl (G.2.1 20, ln d.2.toNat, .inl (va_cpy (fun j => Int32.ofInt (σ sr.2.toNat j)) (fun j => Int32.ofInt (σ d.2.toNat j)) sp.2.toNat dp.2.toNat n.2.toNat)) := by
        rw [cell_i hkd]
        have hf : (fun j => Int32.ofInt (cpy2 σ sr.2.toNat d.2.toNat sp.2.toNat dp.2.toNat n.2.toNat d.2.toNat j)) = va_cpy (fun j => Int32.ofInt (σ sr.2.toNat j)) (fun j => Int32.ofInt (σ d.2.toNat j)) sp.2.toNat dp.2.toNat n.2.toNat := by
          funext j
          simp only [cpy2, true_and, va_cpy]
          split <;> rfl
        rw [hf]
      rw [wld_set okd.2 (fun k' hk' => cell_same (by funext j; simp [cpy2, hk'])) hcell] at hP hD
      refine kk H' locs' ls ⟨fun k' j' => ?_, hst0, hR.2.2.1, hP, hD, hS⟩
      show okA 0 (ctA k' j', cpy2 σ _ _ _ _ _ k' j')
      unfold cpy2
      split
      · rename_i e1
        obtain ⟨rfl, -, -⟩ := e1
        have := hR.1 sr.2.toNat (sp.2.toNat + (j' - dp.2.toNat))
        rw [ct_i hks] at this
        rw [ct_i hkd]
        exact this
      · exact hR.1 _ _
    · cases hs
  · cases hs
theorem sm_max {i : Nat} (h1000 : u = 1002) (C : CxA G X m A H0 p R s mi args c cells slots) (hd : decode (mC m) pc = .ok (.invokestatic i, len)) (hlen : len = lenI (.invokestatic i)) (hnx : pcOf m (k + 1) = pc + len) (hp : chkP m (pc, .invokestatic i, len, u, v, w, ts) = true) (hs : sMM aMax k L st σ = some c') (hR : RelA G m A H0 (k, L, st, σ) H locs ls)
    (kk : ∀ (H' : Heap) (locs' : List Loc) (ls' : Array Slot), RelA G m A H0 c' H' locs' ls' → W p l e R s mi args below meth c H' locs' cells slots Q (F0 mi (pcOf m c'.1) ls' (c'.2.2.1.map (cvA G)))) : W p l e R s mi args below meth c H locs cells slots Q (F0 mi pc ls (st.map (cvA G))) := by
  obtain ⟨hx, hb, hml, hown, hts, hfr, hlo, hK, hN, hce, hsl, hSc, hEx⟩ := C
  simp only [lenI] at hlen
  subst hlen
  subst h1000
  have hp' : (mathT.elem (mcl m, i, 1002) && decide (1 ≤ mFr m) && decide (21 ≤ mLo m)) = true := hp
  simp only [Bool.and_eq_true, decide_eq_true_eq] at hp'
  obtain ⟨⟨hp1, hp2⟩, hp3⟩ := hp'
  unfold sMM at hs
  split at hs
  · rename_i y x st0
    split at hs
    · rename_i ht
      cases hs
      rw [hnx] at kk
      have okx := okA_int (hR.2.1 x (by simp)) ht.1
      have oky := okA_int (hR.2.1 y (by simp)) ht.2.1
      have hst0 : ∀ a ∈ st0, okA m a := fun a ha => hR.2.1 a (by simp [ha])
      simp only [List.map_cons, cv_0 ht.1, cv_0 ht.2.1]
      have hlink : (Cond.methodLink (clR (mcl m)) i Lib.Math.max.name).before args s = true := by
        have h1 := List.mem_map_of_mem (f := fun e : Nat × Nat × Nat => Cond.methodLink (clR e.1) e.2.1 (if e.2.2 = 1002 then Lib.Math.max.name else Lib.Math.min.name)) (List.elem_iff.mp hp1)
        exact hts _ (mathW_in (by unfold mathW; exact List.mem_append_left _ h1))
      refine va_mmax hx hb (by rw [hml]; exact hR.2.2.1.size.symm) hown hlink (hts _ (mathW_in (by simp [mathW]))) (hts _ (mathW_in (by simp [mathW]))) (hts _ (mathW_in (by simp [mathW]))) (by omega) (by rw [cv_cats hst0]; omega) hce hsl hd ?_
      have kk' := kk H locs ls (hR.stk (fun a ha => by
        rcases List.mem_cons.mp ha with rfl | ha
        · refine Or.inl ⟨rfl, ?_⟩
          show (Int32.ofInt (aMax x.2 y.2)).toInt = aMax x.2 y.2
          unfold aMax
          split
          · exact oky
          · exact okx
        · exact hst0 a ha))
      have he : (if Int32.ofInt x.2 < Int32.ofInt y.2 then Int32.ofInt y.2 else Int32.ofInt x.2) = Int32.ofInt (aMax x.2 y.2) := by
        unfold aMax
        by_cases q : x.2 < y.2
        · rw [if_pos q, if_pos ((c_lt okx oky).mpr q)]
        · rw [if_neg q, if_neg (fun z => q ((c_lt okx oky).mp z))]
      rw [he]
      exact kk'
    · cases hs
  · cases hs
theorem sm_min {i : Nat} (h1000 : u = 1003) (C : CxA G X m A H0 p R s mi args c cells slots) (hd : decode (mC m) pc = .ok (.invokestatic i, len)) (hlen : len = lenI (.invokestatic i)) (hnx : pcOf m (k + 1) = pc + len) (hp : chkP m (pc, .invokestatic i, len, u, v, w, ts) = true) (hs : sMM aMin k L st σ = some c') (hR : RelA G m A H0 (k, L, st, σ) H locs ls)
    (kk : ∀ (H' : Heap) (locs' : List Loc) (ls' : Array Slot), RelA G m A H0 c' H' locs' ls' → W p l e R s mi args below meth c H' locs' cells slots Q (F0 mi (pcOf m c'.1) ls' (c'.2.2.1.map (cvA G)))) : W p l e R s mi args below meth c H locs cells slots Q (F0 mi pc ls (st.map (cvA G))) := by
  obtain ⟨hx, hb, hml, hown, hts, hfr, hlo, hK, hN, hce, hsl, hSc, hEx⟩ := C
  simp only [lenI] at hlen
  subst hlen
  subst h1000
  have hp' : (mathT.elem (mcl m, i, 1003) && decide (1 ≤ mFr m) && decide (21 ≤ mLo m)) = true := hp
  simp only [Bool.and_eq_true, decide_eq_true_eq] at hp'
  obtain ⟨⟨hp1, hp2⟩, hp3⟩ := hp'
  unfold sMM at hs
  split at hs
  · rename_i y x st0
    split at hs
    · rename_i ht
      cases hs
      rw [hnx] at kk
      have okx := okA_int (hR.2.1 x (by simp)) ht.1
      have oky := okA_int (hR.2.1 y (by simp)) ht.2.1
      have hst0 : ∀ a ∈ st0, okA m a := fun a ha => hR.2.1 a (by simp [ha])
      simp only [List.map_cons, cv_0 ht.1, cv_0 ht.2.1]
      have hlink : (Cond.methodLink (clR (mcl m)) i Lib.Math.min.name).before args s = true := by
        have h1 := List.mem_map_of_mem (f := fun e : Nat × Nat × Nat => Cond.methodLink (clR e.1) e.2.1 (if e.2.2 = 1002 then Lib.Math.max.name else Lib.Math.min.name)) (List.elem_iff.mp hp1)
        exact hts _ (mathW_in (by unfold mathW; exact List.mem_append_left _ h1))
      refine va_mmin hx hb (by rw [hml]; exact hR.2.2.1.size.symm) hown hlink (hts _ (mathW_in (by simp [mathW]))) (hts _ (mathW_in (by simp [mathW]))) (hts _ (mathW_in (by simp [mathW]))) (by omega) (by rw [cv_cats hst0]; omega) hce hsl hd ?_
      have kk' := kk H locs ls (hR.stk (fun a ha => by
        rcases List.mem_cons.mp ha with rfl | ha
        · refine Or.inl ⟨rfl, ?_⟩
          show (Int32.ofInt (aMin x.2 y.2)).toInt = aMin x.2 y.2
          unfold aMin
          split
          · exact oky
          · exact okx
        · exact hst0 a ha))
      have he : (if Int32.ofInt y.2 < Int32.ofInt x.2 then Int32.ofInt y.2 else Int32.ofInt x.2) = Int32.ofInt (aMin x.2 y.2) := by
        unfold aMin
        by_cases q : y.2 < x.2
        · rw [if_pos q, if_pos ((c_lt oky okx).mpr q)]
        · rw [if_neg q, if_neg (fun z => q ((c_lt oky okx).mp z))]
      rw [he]
      exact kk'
    · cases hs
  · cases hs
end SimD
