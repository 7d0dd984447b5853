/-! Ahead of a constructor's call. -/
theorem KS.last {G : Geo} {h0 ci b : Nat} {fs : List Value} {L : List va_E} {x : va_E} {H0 H : Heap} {locs : List Loc} (K : KS G h0 ci fs (L ++ [x]) H0 H locs) (hb : H0.size + L.length = b) : H.size = b + 1 ∧ va_P G.1 vwCl [(b, x)] H := by
  obtain ⟨hh, hz, hP, hS⟩ := K
  refine ⟨by rw [hz]; simp; omega, fun k q hk => ?_⟩
  match k, hk with
  | 0, hk =>
    cases hk
    refine hP (L.length + 1) (b, x) ?_
    rw [List.getElem?_cons_succ, ix_at, List.getElem?_append_right (Nat.le_refl _), Nat.sub_self, hb]
    rfl
  | k + 1, hk => simp at hk
theorem good_ct {w : Cond} (h : w ∈ GC) : GoodIn GC (w :: GC) := fun v hv => by
  rcases List.mem_cons.mp hv with rfl | hv
  · exact ⟨h, GC_good h⟩
  · exact ⟨hv, GC_good hv⟩
theorem AOs.moved {u U : State} (h : u.vm.Alike U.vm) (q : AOs u) : AOs U := by
  refine ⟨va_AO.moved h q.1, ?_⟩
  have := (Cond.arrayOver_setVmC (args := #[]) h (.array .int)).trans q.2
  exact this
theorem NWs.warm {u U : State} (h : u.WarmedH U.vm) (q : NWs u) : NWs U := ⟨fun e he => va_Nw.warmM h (q.1 e he), AOs.moved h.alike q.2⟩
theorem NWs.same {u U : State} (h : u.vm = U.vm) (q : NWs u) : NWs U := ⟨fun e he => va_Nw.same rfl h (q.1 e he), AOs.moved (by rw [h]; exact Vm.Alike.refl U.vm) q.2⟩
theorem blindM {G : Geo} {ci h0 sz : Nat} : FrameBlind (MPre G ci h0 sz) := fun a U g mk q => by
  obtain ⟨q0, q1, q2, qP, qK, qN⟩ := q
  exact ⟨q0, q1, q2, qP, va_K.moved (u := U) (U := U.calling g mk a) (Vm.Alike.refl U.vm) qK, NWs.same (u := U) (U := U.calling g mk a) rfl qN⟩
