/-! The making of the objects: exact places in the heap. -/
def ix (b : Nat) (L : List va_E) : va_W := L.mapIdx fun i e => (b + i, e)
theorem ix_at {b : Nat} {L : List va_E} {i : Nat} : (ix b L)[i]? = L[i]?.map fun e => (b + i, e) := by simp [ix, List.getElem?_mapIdx]
theorem ix_app {b : Nat} {L M : List va_E} : ix b (L ++ M) = ix b L ++ ix (b + L.length) M := by
  apply List.ext_getElem?
  intro i
  have hl : (ix b L).length = L.length := by simp [ix]
  by_cases h : i < L.length
  · rw [List.getElem?_append_left (by omega), ix_at, ix_at, List.getElem?_append_left h]
  · rw [List.getElem?_append_right (by omega), ix_at, ix_at, List.getElem?_append_right (by omega), hl, show b + L.length + (i - L.length) = b + i by omega]
theorem ix_D {h0 b : Nat} {e : va_E} {L : List va_E} (h : h0 < b) : va_D (fun q => q = h0 ∨ b ≤ q) ((h0, e) :: ix b L) := by
  have key : ∀ (i : Nat) (p : Nat × va_E), ((h0, e) :: ix b L)[i]? = some p → (i = 0 ∧ p.1 = h0) ∨ (1 ≤ i ∧ p.1 = b + (i - 1)) := by
    intro i p hp
    cases i with
    | zero =>
      left
      rw [List.getElem?_cons_zero] at hp
      cases hp
      exact ⟨rfl, rfl⟩
    | succ i =>
      right
      rw [List.getElem?_cons_succ, ix_at] at hp
      cases hL : L[i]? with
      | none => rw [hL] at hp; cases hp
      | some x => rw [hL] at hp; cases hp; exact ⟨by omega, by simp⟩
  refine ⟨fun i j p q hp hq hpq => ?_, fun i p hp => ?_⟩
  · rcases key i p hp with ⟨h1, h2⟩ | ⟨h1, h2⟩ <;> rcases key j q hq with ⟨h3, h4⟩ | ⟨h3, h4⟩ <;> omega
  · rcases key i p hp with ⟨h1, h2⟩ | ⟨h1, h2⟩
    · exact Or.inl h2
    · exact Or.inr (by omega)
/-- in the making: the object h0 of class ci with fields fs, and the cells made since, from H0's end on -/
def KS (G : Geo) (h0 ci : Nat) (fs : List Value) (L : List va_E) (H0 H : Heap) (locs : List Loc) : Prop :=
  h0 < H0.size ∧ H.size = H0.size + L.length ∧ va_P G.1 vwCl ((h0, .inr (ci, fs)) :: ix H0.size L) H ∧ va_S (fun q => q = h0 ∨ H0.size ≤ q) H0 H locs
theorem va_at.lo {D : va_G} {cl : List vw_C} {q : Nat × va_E} {H : Heap} (h : va_at D cl q H) : q.1 < H.size := h.lt
theorem KS.pushL {G : Geo} {h0 ci : Nat} {fs : List Value} {L : List va_E} {H0 H : Heap} {locs : List Loc} (K : KS G h0 ci fs L H0 H locs) {M : List va_E} {H1 : Heap} (z : H1.size = H.size + M.length) (o : ∀ q, q < H.size → H1[q]? = H[q]?) (he : ∀ (i : Nat) (x : va_E), M[i]? = some x → va_at G.1 vwCl (H.size + i, x) H1) : KS G h0 ci fs (L ++ M) H0 H1 locs := by
  obtain ⟨hh, hz, hP, hS⟩ := K
  refine ⟨hh, by rw [z, hz]; simp; omega, ?_, ⟨by have := hS.1; omega, fun x h1 h2 => (o x (by have := hS.1; omega)).trans (hS.2.1 x h1 h2), hS.2.2⟩⟩
  rw [ix_app, ← List.cons_append]
  refine (hP.kept (fun k x hx => o x.1 ((hP k x hx).lt))).app (fun k x hx => ?_)
  rw [ix_at] at hx
  cases hM : M[k]? with
  | none => rw [hM] at hx; cases hx
  | some y =>
    rw [hM] at hx
    cases hx
    rw [← hz]
    exact he k y hM
theorem KS.push {G : Geo} {h0 ci : Nat} {fs : List Value} {L : List va_E} {H0 H : Heap} {locs : List Loc} (K : KS G h0 ci fs L H0 H locs) {e : va_E} {H1 : Heap} (z : H1.size = H.size + 1) (o : ∀ q, q < H.size → H1[q]? = H[q]?) (he : va_at G.1 vwCl (H.size, e) H1) : KS G h0 ci fs (L ++ [e]) H0 H1 locs :=
  K.pushL z o (fun i x hx => by
    match i, hx with
    | 0, hx => cases hx; exact he
    | i + 1, hx => simp at hx)
theorem out6 (c : ClassId) (h : Nat) : Jvm.Free.Multi.outerC c 6 h 6 = vp_cell c (6, .inr (.inr (.inr (.inr (fun i => if i < 6 then some (h + 1 + i) else none))))) := by
  rw [vp_cell_q]
  simp only [Jvm.Free.Multi.outerC]
  rw [arrV_new, arrV_store, arrV_store, arrV_store, arrV_store, arrV_store, arrV_store]
  refine congrArg (arrV c 6) (funext fun j => ?_)
  by_cases hj : j < 6
  · rw [if_pos hj]
    have : j = 0 ∨ j = 1 ∨ j = 2 ∨ j = 3 ∨ j = 4 ∨ j = 5 := by omega
    rcases this with h | h | h | h | h | h <;> subst h <;> simp [updV, va_rf]
  · rw [if_neg hj]
    simp [updV, va_rf, show j ≠ 0 by omega, show j ≠ 1 by omega, show j ≠ 2 by omega, show j ≠ 3 by omega, show j ≠ 4 by omega, show j ≠ 5 by omega]
section Mk
variable {p : Program} {l : Launch} {e : Env} {R : Room} {s : State} {m : MethodId} {args : Array Value} {below : List Frame} {meth : Method} {c : Code} {H : Heap} {locs : List Loc} {cells slots : Nat} {Q : State → Prop}
variable {G : Geo} {h0 ci : Nat} {fs : List Value} {L : List va_E} {H0 : Heap} {cc : ByteArray} {pc : Nat} {ls : Array Slot} {rest : List Value}
/-- what holds throughout a constructor of class ci -/
def CtX (G : Geo) (ci : Nat) (p : Program) (s : State) (m : MethodId) (args : Array Value) (meth : Method) (c : Code) (cc : ByteArray) : Prop :=
  p.tables.exec = Jvm.exec ∧ c.code = cc ∧ s.vm.findClass (clR ci) = some m.cls ∧ (∀ w ∈ GC, w.before args s = true) ∧ va_K G.1 vwCl (tysG G) s ∧ meth.name = "<init>" ∧ ci < 12
theorem mk_put {index : Nat} (k : Nat) {v : Value} {fs1 : List Value} (hfs1 : fs.set k v = fs1) (C : CtX G ci p s m args meth c cc) (hk : k < nf ci) (hl : k < fs.length) (hlink : flW (ci, index, ci, k) ∈ GC) (hdecl : (clT ci k).1 = clR ci) (hnf : narrow (clTy ci k) v = v ∧ fits (clTy ci k) v = true) (hdg : decode cc pc = .ok (.putfield index, 3)) (K : KS G h0 ci fs L H0 H locs)
    (kk : ∀ (H1 : Heap) (locs1 : List Loc), KS G h0 ci fs1 L H0 H1 locs1 → W p l e R s m args below meth c H1 locs1 cells slots Q (F0 m (pc + 3) ls rest)) : W p l e R s m args below meth c H locs cells slots Q (F0 m pc ls (v :: .ref h0 :: rest)) := by
  subst hfs1
  obtain ⟨hx, hb, hown, hts, hK, hin, hci⟩ := C
  obtain ⟨hh, hz, hP, hS⟩ := K
  have hD := ix_D (e := .inr (ci, fs)) (L := L) hh
  have hws : ∀ w ∈ u_ws (clR ci) (clT ci) (nf ci), w ∈ GC := fun w hw => GT_GC (cl_in ci hci w hw)
  have hap := va_apart (own := clR ci) hts hws (clTy ci) (cl_ty ci hci) (cl_nm ci hci) hK (cl_at ci hci)
  have he : ((h0, Sum.inr (ci, fs)) :: ix H0.size L : va_W)[0]? = some (h0, .inr (ci, fs)) := rfl
  obtain ⟨r, h1, cell, q1, q2, q3, q4⟩ := hP 0 _ he
  have hr : r = (clR ci, clT ci, nf ci) := Option.some.inj (h1.symm.trans (cl_at ci hci))
  subst hr
  obtain ⟨hSl, hfc, kC, hkC, hkind⟩ := hK.1 ci _ (cl_at ci hci)
  obtain ⟨cf, kf, fi, f, hi, hsl⟩ := hSl k hk
  have hlay := hts _ (hws _ (u_in_lay hk))
  have hst := (u_facts hfc hkC (u_lays hts hws hk) hi).1
  have hd := cl_ty ci hci k hk
  have hlk := hts _ hlink
  have fin : ∀ H' : Heap, H'[h0]? = some (cell.setSlot f.slot v) → H'.size = H.size → (∀ q, q ≠ h0 → H'[q]? = H[q]?) → W p l e R s m args below meth c H' (locs ++ [⟨h0, f.slot⟩]) cells slots Q (F0 m (pc + 3) ls rest) := fun H' e1 e2 e3 => by
    rw [hsl] at e1 ⊢
    exact kk H' _ ⟨hh, by rw [e2, hz], hP.set hD he ⟨_, cl_at ci hci, t_OB.to (V := updV (vp_V fs) k v) ⟨_, e1, q2, q3, t_set q4 hap hk v⟩ (fun j _ => vp_updV_set hl v j)⟩ e3, hS.put e2 e3 (Or.inl rfl)⟩
  unfold u_lay at hlay
  cases hfin : (clT ci k).2.2.2 with
  | false =>
    rw [if_neg (by rw [hfin]; decide)] at hlay
    have h6 := u_store hfc hkC hkind hlay hi hd hnf.1 hnf.2
    exact W.putK hx hb (f := f) ⟨hown, hlk, ⟨_, _, _, hi⟩, hst⟩ (by rw [q2]; exact h6) q1 q3 (by rw [hsl]; exact k2_hasslot (q4 k hk)) rfl rfl hdg fin
  | true =>
    rw [if_pos hfin] at hlay
    have hcf : m.cls = cf := by
      obtain ⟨_, _, c', _, _, _, -, -, hf', -, -, -, hown2, -⟩ := Cond.laysFinal_spec hlay
      have e1 : c' = cf := by have := hi.symm.trans hf'; simp at this; exact this.1.symm
      rw [hdecl] at hown2
      rw [← e1]; exact Option.some.inj (hown.symm.trans hown2)
    have h6 := u_fits hfc hkC hkind (Or.inr hlay) hi hd hnf.1 hnf.2
    exact W.putFinK hx hb hown hlk hi hst hcf hin (by rw [q2]; exact h6) q1 q3 (by rw [hsl]; exact k2_hasslot (q4 k hk)) rfl rfl hdg fin
/-- new T[n] -/
theorem mk_arr {atype : ArrayType} {ty : FieldType} {cA0 : ClassId} {n : Int32} (N : Nat) {z : vp_A} {L1 : List va_E} {b : Nat} (hL1 : L ++ [.inl (cA0, z)] = L1) (hb0 : H0.size + L.length = b) (C : CtX G ci p s m args meth c cc) (harr : Cond.arrayClass ty ∈ GC) (hty : newarray.typeOf atype = ty) (hcA : s.vm.findClass ("[" ++ ty.toString) = some cA0) (ha : ∀ cA : ClassId, vp_cell cA z = arrV cA N (fun _ => defaultValue ty)) (hn : ¬ n < 0) (hN : n.toNatClampNeg = N) (hbytes : N * componentBytes ty ≤ 536870912) (hcells : cells + 1 ≤ R.cells) (hslots : slots + N ≤ R.slots) (hdg : decode cc pc = .ok (.newarray atype, 2)) (K : KS G h0 ci fs L H0 H locs)
    (kk : ∀ (H1 : Heap), KS G h0 ci fs L1 H0 H1 locs → W p l e R s m args below meth c H1 locs (cells + 1) (slots + N) Q (F0 m (pc + 2) ls (.ref b :: rest))) : W p l e R s m args below meth c H locs cells slots Q (F0 m pc ls (.int n :: rest)) := by
  subst hL1
  subst hb0
  obtain ⟨hx, hb, hown, hts, hK, hin, hci⟩ := C
  subst hty
  refine va_newaK hx hb (hts _ harr) rfl hdg rfl hn hN hbytes hcells hslots rfl fun H1 cA e1 z1 o1 hAr hNm => ?_
  have hc : cA = cA0 := Option.some.inj (hNm.symm.trans hcA)
  subst hc
  have := kk H1 (K.push z1 o1 (by show H1[H.size]? = some (vp_cell _ _); rw [ha]; exact e1))
  rw [← K.2.1] at this
  exact this
/-- new C, ahead of its constructor -/
theorem mk_new {index : Nat} (cj : Nat) {fs' : List Value} {L1 : List va_E} {b : Nat} (hL1 : L ++ [.inr (cj, fs')] = L1) (hb0 : H0.size + L.length = b) (C : CtX G ci p s m args meth c cc) (hcj : cj < 12) (hcl : Cond.classLink (clR ci) index (clR cj) ∈ GC) (hinst : Cond.instantiable (clR cj) (nf cj) ∈ GC) (hfs : ∀ j, j < nf cj → defaultValue (clTy cj j) = vp_V fs' j) (hcells : cells + 1 ≤ R.cells) (hslots : slots + nf cj ≤ R.slots) (hdg : decode cc pc = .ok (.new index, 3)) (K : KS G h0 ci fs L H0 H locs)
    (kk : ∀ (H1 : Heap), KS G h0 ci fs L1 H0 H1 locs → W p l e R s m args below meth c H1 locs (cells + 1) (slots + nf cj) Q (F0 m (pc + 3) ls (.ref b :: rest))) : W p l e R s m args below meth c H locs cells slots Q (F0 m pc ls rest) := by
  subst hL1
  subst hb0
  obtain ⟨hx, hb, hown, hts, hK, hin, hci⟩ := C
  have hws : ∀ w ∈ u_ws (clR cj) (clT cj) (nf cj), w ∈ GC := fun w hw => GT_GC (cl_in cj hcj w hw)
  have hKn := hK.1 cj _ (cl_at cj hcj)
  refine W.newcK hx hb hown (hts _ hcl) (hts _ hinst) (hts _ (GT_GC (ini_in (by omega)))) rfl hdg hcells hslots hKn.2.1 rfl fun H1 kC hkC e1 z1 o1 => ?_
  have := kk H1 (K.push z1 o1 ⟨_, cl_at cj hcj, (u_born (clTy cj) hts hws hKn hkC e1 (cl_ty cj hcj)).to hfs⟩)
  rw [← K.2.1] at this
  exact this
/-- new int[6][8] -/
def row8 (G : Geo) : va_E := .inl (G.2.1 20, 8, .inl fun _ => 0)
def mat6 (G : Geo) (b : Nat) : va_E := .inl (G.2.1 24, 6, .inr (.inr (.inr (.inr (fun i => if i < 6 then some (b + 1 + i) else none)))))
def mat (G : Geo) (b : Nat) : List va_E := [mat6 G b, row8 G, row8 G, row8 G, row8 G, row8 G, row8 G]
theorem mk_mna {index : Nat} {L1 : List va_E} {b : Nat} (hL1 : L ++ mat G b = L1) (hb0 : H0.size + L.length = b) (C : CtX G ci p s m args meth c cc) (hcl : Cond.classLink (clR ci) index "[[I" ∈ GC) (hov : (Cond.arrayOver (.array .int)).before #[] s = true) (hcells : cells + 7 ≤ R.cells) (hslots : slots + 54 ≤ R.slots) (hdg : decode cc pc = .ok (.multianewarray index 2, 4)) (K : KS G h0 ci fs L H0 H locs)
    (kk : ∀ (H1 : Heap), KS G h0 ci fs L1 H0 H1 locs → W p l e R s m args below meth c H1 locs (cells + 1 + 6) (slots + 6 + 6 * 8) Q (F0 m (pc + 4) ls (.ref b :: rest))) : W p l e R s m args below meth c H locs cells slots Q (F0 m pc ls (.int 8 :: .int 6 :: rest)) := by
  subst hL1
  subst hb0
  obtain ⟨hx, hb, hown, hts, hK, hin, hci⟩ := C
  have e6 : (6 : Int32).toNatClampNeg = 6 := by decide
  have e8 : (8 : Int32).toNatClampNeg = 8 := by decide
  intro T hT Xs
  obtain ⟨vm₁, cA, comp, -, fA, fC, -, -, X', step⟩ := Xs.multianewarray2F hx hown (ty := .int) (hts _ hcl) hov (hts _ gx_ai) (g := F0 m pc ls (.int 8 :: .int 6 :: rest)) rfl (by rw [hb]; exact hdg) rfl (by decide) (by decide) (by decide) (by decide) (by decide) rfl rfl (by rw [e6]; omega) (by rw [e6, e8]; omega)
  rw [e6, e8] at X' step
  have c1 : cA = G.2.1 24 := Option.some.inj (fA.symm.trans (hK.2 4 _ rfl).2)
  have c2 : comp = G.2.1 20 := Option.some.inj (fC.symm.trans (hK.2 0 _ rfl).2)
  subst c1
  subst c2
  have hTh : (T.setVm vm₁).heap = H := hT
  obtain ⟨f1, f2, -, -⟩ := Jvm.Free.Multi.fill_facts (T.setVm vm₁) (G.2.1 24) (G.2.1 20) 6 8 (defaultValue .int) 6
  have f3 := fun (a : Nat) (ha : a < (T.setVm vm₁).heap.size) => Jvm.Free.Multi.fill_old (T.setVm vm₁) (G.2.1 24) (G.2.1 20) 6 8 (defaultValue .int) ha 6
  have f4 := fun j hj => Jvm.Free.Multi.fill_inner (T.setVm vm₁) (G.2.1 24) (G.2.1 20) 6 8 (defaultValue .int) 6 j hj
  generalize Jvm.Free.Multi.fill (T.setVm vm₁) (G.2.1 24) (G.2.1 20) 6 8 (defaultValue .int) 6 = F at X' step f1 f2 f3 f4
  rw [hTh] at f1 f2
  rw [out6] at f2
  have f4' : ∀ j, j < 6 → F.heap[H.size + 1 + j]? = some (vp_cell (G.2.1 20) (8, .inl fun _ => 0)) := fun j hj => by
    have := f4 j hj
    rw [hTh] at this
    rw [this, vp_cell_i, ← arrV_new]
    rfl
  have hb : H0.size + L.length = H.size := K.2.1.symm
  obtain ⟨t, a1, b1⟩ := kk F.heap (K.pushL (M := mat G (H0.size + L.length)) (by rw [f1]; rfl) (fun q hq => by have := f3 q (by rw [hTh]; exact hq); rw [hTh] at this; exact this) (fun i x hx => by
    rw [hb] at hx
    match i, hx with
    | 0, hx => cases hx; exact f2
    | 1, hx => cases hx; exact f4' 0 (by omega)
    | 2, hx => cases hx; exact f4' 1 (by omega)
    | 3, hx => cases hx; exact f4' 2 (by omega)
    | 4, hx => cases hx; exact f4' 3 (by omega)
    | 5, hx => cases hx; exact f4' 4 (by omega)
    | 6, hx => cases hx; exact f4' 5 (by omega)
    | i + 7, hx => simp [mat] at hx)) F rfl X'
  rw [hb] at a1
  rw [hT] at step
  exact ⟨t, step t a1, b1⟩
def ctY (c : Nat) : MethodName := ⟨clR c, "<init>", "()V"⟩
/-- a class's fields as new gives them -/
def dfl (c : Nat) : List Value := (List.range (nf c)).map fun j => defaultValue (clTy c j)
theorem dfl_at (c j : Nat) (h : j < nf c) : defaultValue (clTy c j) = vp_V (dfl c) j := by simp [dfl, vp_V, h]
def nwT : List (Nat × Nat × Nat) := [(10, 11, 7), (10, 18, 5), (5, 20, 9), (5, 27, 3), (3, 56, 6), (10, 25, 6), (0, 24, 6), (10, 42, 3), (10, 49, 1), (1, 11, 8), (1, 20, 4), (1, 56, 3), (1, 63, 6), (10, 56, 2)]
def nwW (e : Nat × Nat × Nat) : Cond := .methodLinkNest (clR e.1) e.2.1 (ctY e.2.2) "BornAboard"
def AOs (U : State) : Prop := va_AO "BornAboard$People" U ∧ (Cond.arrayOver (.array .int)).before #[] U = true
def NWs (U : State) : Prop := (∀ e ∈ nwT, va_Nw (nwW e) U) ∧ AOs U
def MPre (G : Geo) (ci h0 sz : Nat) : Array Value → State → Prop := va_Pc [.ref h0] (fun U => U.heap.size = sz ∧ h0 < sz ∧ va_P G.1 vwCl [(h0, .inr (ci, dfl ci))] U.heap ∧ va_K G.1 vwCl (tysG G) U ∧ NWs U)
def MPost (G : Geo) (ci h0 sz : Nat) (own : Nat → List Value) (cs : Nat → List va_E) : Array Value → State → Outcome → State → Prop := fun _ st oc t => oc = .returned none ∧ t.heap.size = sz + (cs sz).length ∧ va_P G.1 vwCl ((h0, .inr (ci, own sz)) :: ix sz (cs sz)) t.heap ∧ va_F (fun q => q = h0 ∨ sz ≤ q) st t
/-- behind a constructor's call -/
theorem mk_call {cj n ms b : Nat} {own : Nat → List Value} {cs : Nat → List va_E} {fs' : List Value} {a : Array Value} {st0 : List Value} {L1 : List va_E} (hL1 : L ++ .inr (cj, own (b + 1)) :: cs (b + 1) = L1) (K : KS G h0 ci fs (L ++ [.inr (cj, fs')]) H0 H locs) (hb : H0.size + L.length = b)
    (run : va_Run p l e R s m args below meth c H locs cells slots n ms (F0 m pc ls st0) rest (MPost G cj b (b + 1) own cs a) (fun q => q = b ∨ b + 1 ≤ q))
    (kk : ∀ (H1 : Heap) (locs1 : List Loc), KS G h0 ci fs L1 H0 H1 locs1 → W p l e R s m args below meth c H1 locs1 (cells + n) (slots + ms) Q (F0 m (pc + 3) ls rest)) : W p l e R s m args below meth c H locs cells slots Q (F0 m pc ls st0) := by
  subst hL1
  obtain ⟨hh, hz, hP, hS⟩ := K
  intro T hT X
  obtain ⟨v, st₀, t, T', Lc, g0, X', hL, e1, e2, ⟨hv, hz', hP', hF1, hF2⟩, st⟩ := run T hT X
  have hv' : v = none := by cases hv; rfl
  subst hv'
  rw [g0] at hF1 hF2
  have hzH : H.size = b + 1 := by rw [hz]; simp; omega
  have old : ∀ q, q < b → t.heap[q]? = H[q]? := fun q hq => hF2 q (by omega) (by omega)
  have hKS : KS G h0 ci fs (L ++ .inr (cj, own (b + 1)) :: cs (b + 1)) H0 T'.heap (locs ++ Lc) := by
    refine ⟨hh, by rw [e1, hz']; simp; omega, ?_, ⟨by rw [e1]; have := hS.1; omega, fun q h1 h2 => by rw [e1, old q (by omega)]; exact hS.2.1 q h1 h2, fun q hq => ?_⟩⟩
    · rw [e1, ix_app, ← List.cons_append]
      have hP0 : va_P G.1 vwCl ((h0, .inr (ci, fs)) :: ix H0.size L) H := fun k q hk => by
        refine hP k q ?_
        rw [ix_app, ← List.cons_append, List.getElem?_append_left (List.getElem?_eq_some_iff.mp hk).1]
        exact hk
      refine va_P.app (hP0.kept (fun k q hk => old q.1 ?_)) ?_
      · cases k with
        | zero =>
          rw [List.getElem?_cons_zero] at hk
          cases hk
          show h0 < b
          omega
        | succ k =>
          rw [List.getElem?_cons_succ, ix_at] at hk
          cases hx : L[k]? with
          | none => rw [hx] at hk; cases hk
          | some x =>
            rw [hx] at hk
            cases hk
            have := (List.getElem?_eq_some_iff.mp hx).1
            show H0.size + k < b
            omega
      · rw [hb]
        have e5 : ix b (.inr (cj, own (b + 1)) :: cs (b + 1)) = (b, .inr (cj, own (b + 1))) :: ix (b + 1) (cs (b + 1)) := by
          apply List.ext_getElem?
          intro i
          cases i with
          | zero => rw [ix_at, List.getElem?_cons_zero, List.getElem?_cons_zero]; rfl
          | succ i => rw [List.getElem?_cons_succ, ix_at, ix_at, List.getElem?_cons_succ, show b + (i + 1) = b + 1 + i by omega]
        rw [e5]
        exact hP'
    · rcases List.mem_append.mp hq with h | h
      · exact hS.2.2 q h
      · have hle : H0.size ≤ b := by omega
        rcases hL q h with h9 | h9
        · exact Or.inr (Nat.le_trans hle (Nat.le_of_eq h9.symm))
        · exact Or.inr (Nat.le_trans hle (Nat.le_trans (Nat.le_succ b) h9))
  obtain ⟨t2, a1, b1⟩ := kk T'.heap (locs ++ Lc) hKS T' rfl X'
  exact ⟨t2, st t2 a1, b1⟩
end Mk
