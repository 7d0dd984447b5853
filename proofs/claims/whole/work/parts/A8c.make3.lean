/-! Stores into arrays in the making; reading a field of this. -/
theorem ix_set {b i : Nat} {x : va_E} {L : List va_E} : (ix b L).set i (b + i, x) = ix b (L.set i x) := by
  apply List.ext_getElem?
  intro j
  by_cases h : j = i
  · subst h
    by_cases hl : j < L.length
    · rw [List.getElem?_set_self (by simpa [ix] using hl), ix_at, List.getElem?_set_self hl]
      rfl
    · rw [List.getElem?_eq_none (by simp [ix]; omega), ix_at, List.getElem?_eq_none (by simp; omega)]
      rfl
  · rw [List.getElem?_set_ne (Ne.symm h), ix_at, ix_at, List.getElem?_set_ne (Ne.symm h)]
theorem KS.store {G : Geo} {h0 ci : Nat} {fs : List Value} {L : List va_E} {H0 H : Heap} {locs : List Loc} (K : KS G h0 ci fs L H0 H locs) {i j : Nat} {x0 x : va_E} (hi : L[i]? = some x0) {H1 : Heap} (z : H1.size = H.size) (oq : ∀ q, q ≠ H0.size + i → H1[q]? = H[q]?) (he : va_at G.1 vwCl (H0.size + i, x) H1) : KS G h0 ci fs (L.set i x) H0 H1 (locs ++ [⟨H0.size + i, j⟩]) := by
  obtain ⟨hh, hz, hP, hS⟩ := K
  have hD := ix_D (e := .inr (ci, fs)) (L := L) hh
  have hp : ((h0, Sum.inr (ci, fs)) :: ix H0.size L : va_W)[i + 1]? = some (H0.size + i, x0) := by
    rw [List.getElem?_cons_succ, ix_at, hi]
    rfl
  refine ⟨hh, by rw [z, hz, List.length_set], ?_, hS.put z oq (Or.inr (Nat.le_add_right _ _))⟩
  have := hP.set hD hp he oq
  rw [List.set_cons_succ, ix_set] at this
  exact this
section Mk2
variable {p : Program} {l : Launch} {e : Env} {R : Room} {s : State} {m : MethodId} {args : Array Value} {below : List Frame} {meth : Method} {c : Code} {H : Heap} {locs : List Loc} {cells slots : Nat} {Q : State → Prop}
variable {G : Geo} {h0 ci : Nat} {fs : List Value} {L : List va_E} {H0 : Heap} {cc : ByteArray} {pc : Nat} {ls : Array Slot} {rest : List Value}
theorem mk_get {index : Nat} (k : Nat) {v : Value} (C : CtX G ci p s m args meth c cc) (hk : k < nf ci) (hlink : flW (ci, index, ci, k) ∈ GC) (hdecl : (clT ci k).1 = clR ci) (hv : fs[k]? = some v) (hdg : decode cc pc = .ok (.getfield index, 3)) (K : KS G h0 ci fs L H0 H locs)
    (kk : W p l e R s m args below meth c H locs cells slots Q (F0 m (pc + 3) ls (v :: rest))) : W p l e R s m args below meth c H locs cells slots Q (F0 m pc ls (.ref h0 :: rest)) := by
  obtain ⟨hx, hb, hown, hts, hK, hin, hci⟩ := C
  exact va_get (D := G.1) hx hb hts (fun w hw => GT_GC (cl_in ci hci w hw)) hown hK K.2.2.1 0 rfl (cl_at ci hci) k hk (hts _ hlink) (fun _ h9 => h9) hv hdg kk
theorem mk_iast (i : Nat) {n : Nat} {f : Nat → Int32} {j x : Int32} {b : Nat} {L1 : List va_E} (hL : L[i]? = some (.inl (G.2.1 20, n, .inl f))) (hL1 : L.set i (.inl (G.2.1 20, n, .inl (upd f j.toNatClampNeg x))) = L1) (hb0 : H0.size + i = b) (C : CtX G ci p s m args meth c cc) (hin : vp_in j n) (hdg : decode cc pc = .ok (.iastore, 1)) (K : KS G h0 ci fs L H0 H locs)
    (kk : ∀ (H1 : Heap) (locs1 : List Loc), KS G h0 ci fs L1 H0 H1 locs1 → W p l e R s m args below meth c H1 locs1 cells slots Q (F0 m (pc + 1) ls rest)) : W p l e R s m args below meth c H locs cells slots Q (F0 m pc ls (.int x :: .int j :: .ref b :: rest)) := by
  subst hL1
  subst hb0
  obtain ⟨hx, hb, hown, hts, hK, -, hci⟩ := C
  have hat : va_at G.1 vwCl (H0.size + i, .inl (G.2.1 20, n, .inl f)) H := K.2.2.1 (i + 1) _ (by rw [List.getElem?_cons_succ, ix_at, hL]; rfl)
  refine W.iast hx hb hat ((hK.2 0 _ rfl).1 n (fun j => .int (f j))) (fun q => by cases q) (by show ¬ (j < 0 ∨ (arrV _ _ _).slots.size ≤ _); rw [arrV_size]; exact hin) rfl rfl hdg fun H1 e z oq => ?_
  refine kk H1 _ (K.store hL z oq ?_)
  show H1[H0.size + i]? = some (vp_cell _ _)
  rw [e, vp_cell_i, vp_cell_i, arrV_store]
  refine congrArg (fun g => some (arrV (G.2.1 20) n g)) (funext fun q => ?_)
  by_cases hq : q = j.toNatClampNeg
  · subst hq
    simp [updV, upd]
  · simp [updV, upd, hq]
theorem mk_aast (i k : Nat) {n : Nat} {f : Nat → Option Nat} {j : Int32} {b v : Nat} {vs : List Value} {L1 : List va_E} (hL : L[i]? = some (.inl (G.2.1 23, n, .inr (.inr (.inr (.inr f)))))) (hk : L[k]? = some (.inr (6, vs))) (hL1 : L.set i (.inl (G.2.1 23, n, .inr (.inr (.inr (.inr (va_up f j.toNatClampNeg (some v))))))) = L1) (hb0 : H0.size + i = b) (hv0 : H0.size + k = v) (C : CtX G ci p s m args meth c cc) (hin : vp_in j n) (hdg : decode cc pc = .ok (.aastore, 1)) (K : KS G h0 ci fs L H0 H locs)
    (kk : ∀ (H1 : Heap) (locs1 : List Loc), KS G h0 ci fs L1 H0 H1 locs1 → W p l e R s m args below meth c H1 locs1 cells slots Q (F0 m (pc + 1) ls rest)) : W p l e R s m args below meth c H locs cells slots Q (F0 m pc ls (.ref v :: .int j :: .ref b :: rest)) := by
  subst hL1
  subst hb0
  subst hv0
  obtain ⟨hx, hb, hown, hts, hK, -, hci⟩ := C
  have hat : va_at G.1 vwCl (H0.size + i, .inl (G.2.1 23, n, .inr (.inr (.inr (.inr f))))) H := K.2.2.1 (i + 1) _ (by rw [List.getElem?_cons_succ, ix_at, hL]; rfl)
  have hav : va_at G.1 vwCl (H0.size + k, .inr (6, vs)) H := K.2.2.1 (k + 1) _ (by rw [List.getElem?_cons_succ, ix_at, hk]; rfl)
  have hlt : j.toNatClampNeg < n := Nat.not_le.mp fun q => hin (Or.inr q)
  have h0' : ¬ j < 0 := fun q => hin (Or.inl q)
  obtain ⟨r', hr', cellV, g1, g2, g3, -⟩ := hav
  have hcls := (hK.1 6 _ (cl_at 6 (by decide))).2
  obtain ⟨kA, comp, k1, k2, k3, -⟩ := (hK.2 3 _ rfl).2
  have hcomp : comp = G.1.1 6 := Option.some.inj (k3.symm.trans hcls.1)
  subst hcomp
  have hcls' := hcls
  obtain ⟨kC, hkC, -⟩ := hcls.2
  refine W.aast hx hb hat (fun q h => by cases h) (fun h => by cases h) k1 k2 rfl hkC ⟨h0', by show _ < (arrV _ _ _).slots.size; rw [arrV_size]; exact hlt⟩ g1 (fun q h => by rw [g3] at h; cases h) (by rw [g2]; exact hkC) (by rw [g2]; exact va_assign hcls') rfl rfl hdg fun H1 e z oq => ?_
  refine kk H1 _ (K.store hL z oq ?_)
  show H1[H0.size + i]? = some (vp_cell _ _)
  rw [e, vp_cell_q, vp_cell_q, arrV_store]
  refine congrArg (fun g => some (arrV (G.2.1 23) n g)) (funext fun q => ?_)
  by_cases hq : q = j.toNatClampNeg
  · subst hq
    simp [updV, va_up, va_rf]
  · simp [updV, va_up, hq]
end Mk2
