/-! One step of the pure machine is one step of the machine: constants, places, stack, arithmetic. -/
/-- what else of the start the methods need: the own words' texts, String's switch, the formatter -/
def txS : List String := ["station", "stop", "train", "from", "seats", "calls", "after", "person", "age", "born", "at", "to", "price"]
def lnS : List Nat := [7, 4, 5, 4, 5, 5, 5, 6, 3, 4, 2, 2, 5]
def byS : List (List Int32) := [[115, 116, 97, 116, 105, 111, 110], [115, 116, 111, 112], [116, 114, 97, 105, 110], [102, 114, 111, 109], [115, 101, 97, 116, 115], [99, 97, 108, 108, 115], [97, 102, 116, 101, 114], [112, 101, 114, 115, 111, 110], [97, 103, 101], [98, 111, 114, 110], [97, 116], [116, 111], [112, 114, 105, 99, 101]]
def ExA (G : Geo) (A : Nat → Prop) (U : State) (H : Heap) : Prop := ∃ adK adV : Nat → Nat, vk_S 13 lnS byS adK adV A U H ∧ (∀ i, i < 13 → vk_R "BornAboard$Tokens" (87 + 2 * i) (txS.getD i "") (adK i) U) ∧ va_Z "java/lang/String" "COMPACT_STRINGS" "Z" (.int 1) A U H ∧ va_Zq "jdk/internal/util/Preconditions" "SIOOBE_FORMATTER" "Ljava/util/function/BiFunction;" A U H
theorem ExA.warm {G : Geo} {A : Nat → Prop} {s U : State} {H : Heap} (hW : s.WarmedH U.vm) (h : ExA G A s H) : ExA G A U H := by
  obtain ⟨adK, adV, h1, h2, h3, h4⟩ := h
  exact ⟨adK, adV, h1.moved hW.alike, fun i hi => (h2 i hi).warm hW, h3.moved hW.alike, h4.moved hW.alike⟩
theorem ExA.same {G : Geo} {A : Nat → Prop} {s U : State} {H : Heap} (hv : U.vm = s.vm) (h : ExA G A s H) : ExA G A U H := by
  obtain ⟨adK, adV, h1, h2, h3, h4⟩ := h
  have ha : s.vm.Alike U.vm := by rw [hv]; exact Vm.Alike.refl s.vm
  exact ⟨adK, adV, h1.moved ha, fun i hi => vk_R.same hv (h2 i hi), h3.moved ha, h4.moved ha⟩
theorem ExA.kept {G : Geo} {A : Nat → Prop} {s : State} {H H1 : Heap} (h : ExA G A s H) (hq : ∀ a : Nat, a < H.size → ¬ A a → H1[a]? = H[a]?) : ExA G A s H1 := by
  obtain ⟨adK, adV, h1, h2, h3, h4⟩ := h
  exact ⟨adK, adV, h1.kept hq, h2, h3.kept hq, h4.kept hq⟩
theorem ExA.narrow {G : Geo} {A B : Nat → Prop} {s : State} {H : Heap} (h : ExA G A s H) (hAB : ∀ q, B q → A q) : ExA G B s H := by
  obtain ⟨adK, adV, h1, h2, h3, h4⟩ := h
  exact ⟨adK, adV, h1.narrow hAB, h2, h3.narrow hAB, h4.narrow hAB⟩
def CxA (G : Geo) (X : AX) (m : Nat) (A : Nat → Prop) (H0 : Heap) (p : Program) (R : Room) (s : State) (mi : MethodId) (args : Array Value) (c : Code) (cells slots : Nat) : Prop :=
  p.tables.exec = Jvm.exec ∧ c.code = mC m ∧ c.maxLocals = mL m ∧ s.vm.findClass (clR (mcl m)) = some mi.cls ∧ (∀ w ∈ GT, w.before args s = true) ∧ mFr m ≤ R.frames ∧ mLo m ≤ R.locals ∧ va_K G.1 vwCl (tysG G) s ∧ (∀ e ∈ mnT, va_Nw (mnW e) s) ∧ cells ≤ R.cells ∧ slots ≤ R.slots ∧
  (m = LAW → va_X G.2.2.2 X.1 (fun j => Int32.ofInt (X.2 j)) s H0 ∧ G.2.2.2 < H0.size ∧ ¬ A G.2.2.2 ∧ X.1 ≤ 3072 ∧ ∀ j, (Int32.ofInt (X.2 j)).toInt = X.2 j) ∧ ExA G A s H0
theorem RelA.stk {G : Geo} {m : Nat} {A : Nat → Prop} {H0 H : Heap} {k k' : Nat} {L st st' : List AV} {σ : AH} {locs : List Loc} {ls : Array Slot} (h : RelA G m A H0 (k, L, st, σ) H locs ls) (hs : ∀ a ∈ st', okA m a) : RelA G m A H0 (k', L, st', σ) H locs ls := ⟨h.1, hs, h.2.2⟩
theorem csT_in {e : Nat × Nat × Int} (h : csT.elem e = true) : csW e ∈ GT := by
  have h1 : csW e ∈ csT.map csW := List.mem_map_of_mem (List.elem_iff.mp h)
  unfold GT
  simp only [List.mem_append]
  exact Or.inr (Or.inr (Or.inr (Or.inr (Or.inr (Or.inr (Or.inr (Or.inl h1)))))))
theorem clgT_in {e : Nat × Nat × Int} (h : clgT.elem e = true) : clgW e ∈ GT := by
  have h1 : clgW e ∈ clgT.map clgW := List.mem_map_of_mem (List.elem_iff.mp h)
  unfold GT
  simp only [List.mem_append]
  exact Or.inr (Or.inr (Or.inr (Or.inr (Or.inr (Or.inr (Or.inr (Or.inr (Or.inl h1))))))))
section SimA
variable {p : Program} {l : Launch} {e : Env} {R : Room} {s : State} {mi : MethodId} {args : Array Value} {below : List Frame} {meth : Method} {c : Code} {H : Heap} {locs : List Loc} {cells slots : Nat} {Q : State → Prop}
variable {G : Geo} {X : AX} {m : Nat} {A : Nat → Prop} {H0 : Heap} {ls : Array Slot} {L st : List AV} {σ : AH} {k pc len u v : Nat} {w : Int} {ts : List (Int × Nat)} {c' : ACfg} {rest : List Value}
theorem top32 (z : Int32) (h : W p l e R s mi args below meth c H locs cells slots Q (F0 mi pc ls (.int (Int32.ofInt z.toInt) :: rest))) : W p l e R s mi args below meth c H locs cells slots Q (F0 mi pc ls (.int z :: rest)) := by rwa [Int32.ofInt_toInt] at h
theorem top64 (z : Int64) (h : W p l e R s mi args below meth c H locs cells slots Q (F0 mi pc ls (.long (Int64.ofInt z.toInt) :: rest))) : W p l e R s mi args below meth c H locs cells slots Q (F0 mi pc ls (.long z :: rest)) := by rwa [Int64.ofInt_toInt] at h
theorem sm_iconst {n : Int} (C : CxA G X m A H0 p R s mi args c cells slots) (hd : decode (mC m) pc = .ok (.iconst n, len)) (hlen : len = lenI (.iconst n)) (hnx : pcOf m (k + 1) = pc + len) (hp : chkP m (pc, .iconst n, len, u, v, w, ts) = true) (hs : sPush (0, w) k L st σ = some c') (hR : RelA G m A H0 (k, L, st, σ) H locs ls)
    (kk : ∀ (H' : Heap) (locs' : List Loc) (ls' : Array Slot), RelA G m A H0 c' H' locs' ls' → W p l e R s mi args below meth c H' locs' cells slots Q (F0 mi (pcOf m c'.1) ls' (c'.2.2.1.map (cvA G)))) : W p l e R s mi args below meth c H locs cells slots Q (F0 mi pc ls (st.map (cvA G))) := by
  obtain ⟨hx, hb, -, hown, hts, -⟩ := C
  simp only [lenI] at hlen
  subst hlen
  simp only [chkP, Bool.and_eq_true, decide_eq_true_eq, rng32, rng64] at hp
  simp only [sPush] at hs
  cases hs
  rw [hnx] at kk
  refine lv_iconst (v := Int32.ofInt w) hx hb hd (by rw [hp.1]) ?_
  exact kk H locs ls (hR.stk (fun a ha => by
    rcases List.mem_cons.mp ha with rfl | ha
    · exact Or.inl ⟨rfl, hp.2⟩
    · exact hR.2.1 a ha))
theorem sm_bipush {n : Int} (C : CxA G X m A H0 p R s mi args c cells slots) (hd : decode (mC m) pc = .ok (.bipush n, len)) (hlen : len = lenI (.bipush n)) (hnx : pcOf m (k + 1) = pc + len) (hp : chkP m (pc, .bipush n, len, u, v, w, ts) = true) (hs : sPush (0, w) k L st σ = some c') (hR : RelA G m A H0 (k, L, st, σ) H locs ls)
    (kk : ∀ (H' : Heap) (locs' : List Loc) (ls' : Array Slot), RelA G m A H0 c' H' locs' ls' → W p l e R s mi args below meth c H' locs' cells slots Q (F0 mi (pcOf m c'.1) ls' (c'.2.2.1.map (cvA G)))) : W p l e R s mi args below meth c H locs cells slots Q (F0 mi pc ls (st.map (cvA G))) := by
  obtain ⟨hx, hb, -, hown, hts, -⟩ := C
  simp only [lenI] at hlen
  subst hlen
  simp only [chkP, Bool.and_eq_true, decide_eq_true_eq, rng32, rng64] at hp
  simp only [sPush] at hs
  cases hs
  rw [hnx] at kk
  refine lv_bipush (v := Int32.ofInt w) hx hb hd hp.1 ?_
  exact kk H locs ls (hR.stk (fun a ha => by
    rcases List.mem_cons.mp ha with rfl | ha
    · exact Or.inl ⟨rfl, hp.2⟩
    · exact hR.2.1 a ha))
theorem sm_sipush {n : Int} (C : CxA G X m A H0 p R s mi args c cells slots) (hd : decode (mC m) pc = .ok (.sipush n, len)) (hlen : len = lenI (.sipush n)) (hnx : pcOf m (k + 1) = pc + len) (hp : chkP m (pc, .sipush n, len, u, v, w, ts) = true) (hs : sPush (0, w) k L st σ = some c') (hR : RelA G m A H0 (k, L, st, σ) H locs ls)
    (kk : ∀ (H' : Heap) (locs' : List Loc) (ls' : Array Slot), RelA G m A H0 c' H' locs' ls' → W p l e R s mi args below meth c H' locs' cells slots Q (F0 mi (pcOf m c'.1) ls' (c'.2.2.1.map (cvA G)))) : W p l e R s mi args below meth c H locs cells slots Q (F0 mi pc ls (st.map (cvA G))) := by
  obtain ⟨hx, hb, -, hown, hts, -⟩ := C
  simp only [lenI] at hlen
  subst hlen
  simp only [chkP, Bool.and_eq_true, decide_eq_true_eq, rng32, rng64] at hp
  simp only [sPush] at hs
  cases hs
  rw [hnx] at kk
  refine lv_sipush (v := Int32.ofInt w) hx hb hd hp.1 ?_
  exact kk H locs ls (hR.stk (fun a ha => by
    rcases List.mem_cons.mp ha with rfl | ha
    · exact Or.inl ⟨rfl, hp.2⟩
    · exact hR.2.1 a ha))
theorem sm_ldc {n : Nat} (C : CxA G X m A H0 p R s mi args c cells slots) (hd : decode (mC m) pc = .ok (.ldc n, len)) (hlen : len = lenI (.ldc n)) (hnx : pcOf m (k + 1) = pc + len) (hp : chkP m (pc, .ldc n, len, u, v, w, ts) = true) (hs : sPush (0, w) k L st σ = some c') (hR : RelA G m A H0 (k, L, st, σ) H locs ls)
    (kk : ∀ (H' : Heap) (locs' : List Loc) (ls' : Array Slot), RelA G m A H0 c' H' locs' ls' → W p l e R s mi args below meth c H' locs' cells slots Q (F0 mi (pcOf m c'.1) ls' (c'.2.2.1.map (cvA G)))) : W p l e R s mi args below meth c H locs cells slots Q (F0 mi pc ls (st.map (cvA G))) := by
  obtain ⟨hx, hb, -, hown, hts, -⟩ := C
  simp only [lenI] at hlen
  subst hlen
  simp only [chkP, Bool.and_eq_true, decide_eq_true_eq, rng32, rng64] at hp
  simp only [sPush] at hs
  cases hs
  rw [hnx] at kk
  refine lv_ldc (v := Int32.ofInt w) hx hb hown (hts _ (csT_in hp.1)) hd ?_
  exact kk H locs ls (hR.stk (fun a ha => by
    rcases List.mem_cons.mp ha with rfl | ha
    · exact Or.inl ⟨rfl, hp.2⟩
    · exact hR.2.1 a ha))
theorem sm_ldcw {n : Nat} (C : CxA G X m A H0 p R s mi args c cells slots) (hd : decode (mC m) pc = .ok (.ldc_w n, len)) (hlen : len = lenI (.ldc_w n)) (hnx : pcOf m (k + 1) = pc + len) (hp : chkP m (pc, .ldc_w n, len, u, v, w, ts) = true) (hs : sPush (0, w) k L st σ = some c') (hR : RelA G m A H0 (k, L, st, σ) H locs ls)
    (kk : ∀ (H' : Heap) (locs' : List Loc) (ls' : Array Slot), RelA G m A H0 c' H' locs' ls' → W p l e R s mi args below meth c H' locs' cells slots Q (F0 mi (pcOf m c'.1) ls' (c'.2.2.1.map (cvA G)))) : W p l e R s mi args below meth c H locs cells slots Q (F0 mi pc ls (st.map (cvA G))) := by
  obtain ⟨hx, hb, -, hown, hts, -⟩ := C
  simp only [lenI] at hlen
  subst hlen
  simp only [chkP, Bool.and_eq_true, decide_eq_true_eq, rng32, rng64] at hp
  simp only [sPush] at hs
  cases hs
  rw [hnx] at kk
  refine lv_ldcw (v := Int32.ofInt w) hx hb hown (hts _ (csT_in hp.1)) hd ?_
  exact kk H locs ls (hR.stk (fun a ha => by
    rcases List.mem_cons.mp ha with rfl | ha
    · exact Or.inl ⟨rfl, hp.2⟩
    · exact hR.2.1 a ha))
theorem sm_lconst {n : Fin 2} (C : CxA G X m A H0 p R s mi args c cells slots) (hd : decode (mC m) pc = .ok (.lconst n, len)) (hlen : len = lenI (.lconst n)) (hnx : pcOf m (k + 1) = pc + len) (hp : chkP m (pc, .lconst n, len, u, v, w, ts) = true) (hs : sPush (1, w) k L st σ = some c') (hR : RelA G m A H0 (k, L, st, σ) H locs ls)
    (kk : ∀ (H' : Heap) (locs' : List Loc) (ls' : Array Slot), RelA G m A H0 c' H' locs' ls' → W p l e R s mi args below meth c H' locs' cells slots Q (F0 mi (pcOf m c'.1) ls' (c'.2.2.1.map (cvA G)))) : W p l e R s mi args below meth c H locs cells slots Q (F0 mi pc ls (st.map (cvA G))) := by
  obtain ⟨hx, hb, -, hown, hts, -⟩ := C
  simp only [lenI] at hlen
  subst hlen
  simp only [chkP, Bool.and_eq_true, decide_eq_true_eq, rng32, rng64] at hp
  simp only [sPush] at hs
  cases hs
  rw [hnx] at kk
  refine lv_lconst (v := Int64.ofInt w) hx hb hd hp.1 ?_
  exact kk H locs ls (hR.stk (fun a ha => by
    rcases List.mem_cons.mp ha with rfl | ha
    · exact Or.inr (Or.inl ⟨rfl, hp.2⟩)
    · exact hR.2.1 a ha))
theorem sm_ldc2 {n : Nat} (C : CxA G X m A H0 p R s mi args c cells slots) (hd : decode (mC m) pc = .ok (.ldc2_w n, len)) (hlen : len = lenI (.ldc2_w n)) (hnx : pcOf m (k + 1) = pc + len) (hp : chkP m (pc, .ldc2_w n, len, u, v, w, ts) = true) (hs : sPush (1, w) k L st σ = some c') (hR : RelA G m A H0 (k, L, st, σ) H locs ls)
    (kk : ∀ (H' : Heap) (locs' : List Loc) (ls' : Array Slot), RelA G m A H0 c' H' locs' ls' → W p l e R s mi args below meth c H' locs' cells slots Q (F0 mi (pcOf m c'.1) ls' (c'.2.2.1.map (cvA G)))) : W p l e R s mi args below meth c H locs cells slots Q (F0 mi pc ls (st.map (cvA G))) := by
  obtain ⟨hx, hb, -, hown, hts, -⟩ := C
  simp only [lenI] at hlen
  subst hlen
  simp only [chkP, Bool.and_eq_true, decide_eq_true_eq, rng32, rng64] at hp
  simp only [sPush] at hs
  cases hs
  rw [hnx] at kk
  refine lv_ldc2 (v := Int64.ofInt w) hx hb hown (hts _ (clgT_in hp.1)) hd ?_
  exact kk H locs ls (hR.stk (fun a ha => by
    rcases List.mem_cons.mp ha with rfl | ha
    · exact Or.inr (Or.inl ⟨rfl, hp.2⟩)
    · exact hR.2.1 a ha))
theorem sm_iload {n : Nat} (C : CxA G X m A H0 p R s mi args c cells slots) (hd : decode (mC m) pc = .ok (.iload n, len)) (hlen : len = lenI (.iload n)) (hnx : pcOf m (k + 1) = pc + len) (hp : chkP m (pc, .iload n, len, u, v, w, ts) = true) (hs : sLoad 0 u k L st σ = some c') (hR : RelA G m A H0 (k, L, st, σ) H locs ls)
    (kk : ∀ (H' : Heap) (locs' : List Loc) (ls' : Array Slot), RelA G m A H0 c' H' locs' ls' → W p l e R s mi args below meth c H' locs' cells slots Q (F0 mi (pcOf m c'.1) ls' (c'.2.2.1.map (cvA G)))) : W p l e R s mi args below meth c H locs cells slots Q (F0 mi pc ls (st.map (cvA G))) := by
  obtain ⟨hx, hb, -, hown, hts, -⟩ := C
  simp only [lenI] at hlen
  subst hlen
  simp only [chkP, beq_iff_eq] at hp
  subst hp
  unfold sLoad at hs
  split at hs
  · rename_i vv hv
    split at hs
    · rename_i ht
      cases hs
      rw [hnx] at kk
      obtain ⟨ok, hl⟩ := hR.2.2.1.get hv (by rw [ht]; decide)
      rw [cv_0 ht] at hl
      refine lv_iload hx hb hd hl ?_
      have := kk H locs ls (hR.stk (fun a ha => by
        rcases List.mem_cons.mp ha with rfl | ha
        · exact ok
        · exact hR.2.1 a ha))
      simp only [List.map_cons, cv_0 ht] at this
      exact this
    · cases hs
  · cases hs
theorem sm_iload_n {n : Fin 4} (C : CxA G X m A H0 p R s mi args c cells slots) (hd : decode (mC m) pc = .ok (.iload_n n, len)) (hlen : len = lenI (.iload_n n)) (hnx : pcOf m (k + 1) = pc + len) (hp : chkP m (pc, .iload_n n, len, u, v, w, ts) = true) (hs : sLoad 0 u k L st σ = some c') (hR : RelA G m A H0 (k, L, st, σ) H locs ls)
    (kk : ∀ (H' : Heap) (locs' : List Loc) (ls' : Array Slot), RelA G m A H0 c' H' locs' ls' → W p l e R s mi args below meth c H' locs' cells slots Q (F0 mi (pcOf m c'.1) ls' (c'.2.2.1.map (cvA G)))) : W p l e R s mi args below meth c H locs cells slots Q (F0 mi pc ls (st.map (cvA G))) := by
  obtain ⟨hx, hb, -, hown, hts, -⟩ := C
  simp only [lenI] at hlen
  subst hlen
  simp only [chkP, beq_iff_eq] at hp
  subst hp
  unfold sLoad at hs
  split at hs
  · rename_i vv hv
    split at hs
    · rename_i ht
      cases hs
      rw [hnx] at kk
      obtain ⟨ok, hl⟩ := hR.2.2.1.get hv (by rw [ht]; decide)
      rw [cv_0 ht] at hl
      refine lv_iload_n hx hb hd rfl hl ?_
      have := kk H locs ls (hR.stk (fun a ha => by
        rcases List.mem_cons.mp ha with rfl | ha
        · exact ok
        · exact hR.2.1 a ha))
      simp only [List.map_cons, cv_0 ht] at this
      exact this
    · cases hs
  · cases hs
theorem sm_lload {n : Nat} (C : CxA G X m A H0 p R s mi args c cells slots) (hd : decode (mC m) pc = .ok (.lload n, len)) (hlen : len = lenI (.lload n)) (hnx : pcOf m (k + 1) = pc + len) (hp : chkP m (pc, .lload n, len, u, v, w, ts) = true) (hs : sLoad 1 u k L st σ = some c') (hR : RelA G m A H0 (k, L, st, σ) H locs ls)
    (kk : ∀ (H' : Heap) (locs' : List Loc) (ls' : Array Slot), RelA G m A H0 c' H' locs' ls' → W p l e R s mi args below meth c H' locs' cells slots Q (F0 mi (pcOf m c'.1) ls' (c'.2.2.1.map (cvA G)))) : W p l e R s mi args below meth c H locs cells slots Q (F0 mi pc ls (st.map (cvA G))) := by
  obtain ⟨hx, hb, -, hown, hts, -⟩ := C
  simp only [lenI] at hlen
  subst hlen
  simp only [chkP, beq_iff_eq] at hp
  subst hp
  unfold sLoad at hs
  split at hs
  · rename_i vv hv
    split at hs
    · rename_i ht
      cases hs
      rw [hnx] at kk
      obtain ⟨ok, hl⟩ := hR.2.2.1.get hv (by rw [ht]; decide)
      rw [cv_1 ht] at hl
      refine lv_lload hx hb hd hl ?_
      have := kk H locs ls (hR.stk (fun a ha => by
        rcases List.mem_cons.mp ha with rfl | ha
        · exact ok
        · exact hR.2.1 a ha))
      simp only [List.map_cons, cv_1 ht] at this
      exact this
    · cases hs
  · cases hs
theorem sm_lload_n {n : Fin 4} (C : CxA G X m A H0 p R s mi args c cells slots) (hd : decode (mC m) pc = .ok (.lload_n n, len)) (hlen : len = lenI (.lload_n n)) (hnx : pcOf m (k + 1) = pc + len) (hp : chkP m (pc, .lload_n n, len, u, v, w, ts) = true) (hs : sLoad 1 u k L st σ = some c') (hR : RelA G m A H0 (k, L, st, σ) H locs ls)
    (kk : ∀ (H' : Heap) (locs' : List Loc) (ls' : Array Slot), RelA G m A H0 c' H' locs' ls' → W p l e R s mi args below meth c H' locs' cells slots Q (F0 mi (pcOf m c'.1) ls' (c'.2.2.1.map (cvA G)))) : W p l e R s mi args below meth c H locs cells slots Q (F0 mi pc ls (st.map (cvA G))) := by
  obtain ⟨hx, hb, -, hown, hts, -⟩ := C
  simp only [lenI] at hlen
  subst hlen
  simp only [chkP, beq_iff_eq] at hp
  subst hp
  unfold sLoad at hs
  split at hs
  · rename_i vv hv
    split at hs
    · rename_i ht
      cases hs
      rw [hnx] at kk
      obtain ⟨ok, hl⟩ := hR.2.2.1.get hv (by rw [ht]; decide)
      rw [cv_1 ht] at hl
      refine lv_lload_n hx hb hd rfl hl ?_
      have := kk H locs ls (hR.stk (fun a ha => by
        rcases List.mem_cons.mp ha with rfl | ha
        · exact ok
        · exact hR.2.1 a ha))
      simp only [List.map_cons, cv_1 ht] at this
      exact this
    · cases hs
  · cases hs
theorem sm_aload {n : Nat} (C : CxA G X m A H0 p R s mi args c cells slots) (hd : decode (mC m) pc = .ok (.aload n, len)) (hlen : len = lenI (.aload n)) (hnx : pcOf m (k + 1) = pc + len) (hp : chkP m (pc, .aload n, len, u, v, w, ts) = true) (hs : sLoadA u k L st σ = some c') (hR : RelA G m A H0 (k, L, st, σ) H locs ls)
    (kk : ∀ (H' : Heap) (locs' : List Loc) (ls' : Array Slot), RelA G m A H0 c' H' locs' ls' → W p l e R s mi args below meth c H' locs' cells slots Q (F0 mi (pcOf m c'.1) ls' (c'.2.2.1.map (cvA G)))) : W p l e R s mi args below meth c H locs cells slots Q (F0 mi pc ls (st.map (cvA G))) := by
  obtain ⟨hx, hb, -, hown, hts, -⟩ := C
  simp only [lenI] at hlen
  subst hlen
  simp only [chkP, beq_iff_eq] at hp
  subst hp
  unfold sLoadA at hs
  split at hs
  · rename_i vv hv
    split at hs
    · rename_i ht
      cases hs
      rw [hnx] at kk
      obtain ⟨ok, hl⟩ := hR.2.2.1.get hv (by rcases ht with ht | ht <;> rw [ht] <;> decide)
      obtain ⟨a, ha⟩ : ∃ a : Nat, cvA G vv = .ref a := by
        rcases ht with ht | ht
        · exact ⟨_, cv_2 ht⟩
        · exact ⟨_, cv_3 ht⟩
      rw [ha] at hl
      refine lv_aload hx hb hd hl ?_
      have := kk H locs ls (hR.stk (fun a ha => by
        rcases List.mem_cons.mp ha with rfl | ha
        · exact ok
        · exact hR.2.1 a ha))
      simp only [List.map_cons, ha] at this
      exact this
    · cases hs
  · cases hs
theorem sm_aload_n {n : Fin 4} (C : CxA G X m A H0 p R s mi args c cells slots) (hd : decode (mC m) pc = .ok (.aload_n n, len)) (hlen : len = lenI (.aload_n n)) (hnx : pcOf m (k + 1) = pc + len) (hp : chkP m (pc, .aload_n n, len, u, v, w, ts) = true) (hs : sLoadA u k L st σ = some c') (hR : RelA G m A H0 (k, L, st, σ) H locs ls)
    (kk : ∀ (H' : Heap) (locs' : List Loc) (ls' : Array Slot), RelA G m A H0 c' H' locs' ls' → W p l e R s mi args below meth c H' locs' cells slots Q (F0 mi (pcOf m c'.1) ls' (c'.2.2.1.map (cvA G)))) : W p l e R s mi args below meth c H locs cells slots Q (F0 mi pc ls (st.map (cvA G))) := by
  obtain ⟨hx, hb, -, hown, hts, -⟩ := C
  simp only [lenI] at hlen
  subst hlen
  simp only [chkP, beq_iff_eq] at hp
  subst hp
  unfold sLoadA at hs
  split at hs
  · rename_i vv hv
    split at hs
    · rename_i ht
      cases hs
      rw [hnx] at kk
      obtain ⟨ok, hl⟩ := hR.2.2.1.get hv (by rcases ht with ht | ht <;> rw [ht] <;> decide)
      obtain ⟨a, ha⟩ : ∃ a : Nat, cvA G vv = .ref a := by
        rcases ht with ht | ht
        · exact ⟨_, cv_2 ht⟩
        · exact ⟨_, cv_3 ht⟩
      rw [ha] at hl
      refine lv_aload_n hx hb hd rfl hl ?_
      have := kk H locs ls (hR.stk (fun a ha => by
        rcases List.mem_cons.mp ha with rfl | ha
        · exact ok
        · exact hR.2.1 a ha))
      simp only [List.map_cons, ha] at this
      exact this
    · cases hs
  · cases hs
theorem sm_istore {n : Nat} (C : CxA G X m A H0 p R s mi args c cells slots) (hd : decode (mC m) pc = .ok (.istore n, len)) (hlen : len = lenI (.istore n)) (hnx : pcOf m (k + 1) = pc + len) (hp : chkP m (pc, .istore n, len, u, v, w, ts) = true) (hs : sStore 0 u k L st σ = some c') (hR : RelA G m A H0 (k, L, st, σ) H locs ls)
    (kk : ∀ (H' : Heap) (locs' : List Loc) (ls' : Array Slot), RelA G m A H0 c' H' locs' ls' → W p l e R s mi args below meth c H' locs' cells slots Q (F0 mi (pcOf m c'.1) ls' (c'.2.2.1.map (cvA G)))) : W p l e R s mi args below meth c H locs cells slots Q (F0 mi pc ls (st.map (cvA G))) := by
  obtain ⟨hx, hb, -, hown, hts, -⟩ := C
  simp only [lenI] at hlen
  subst hlen
  simp only [chkP, beq_iff_eq] at hp
  subst hp
  unfold sStore at hs
  split at hs
  · rename_i vv st0
    split at hs
    · rename_i ht
      cases hs
      rw [hnx] at kk
      obtain ⟨lv, hl1, hl2, hl3⟩ := hR.2.2.1
      have ok := hR.2.1 vv List.mem_cons_self
      have hc := cv_0 (G := G) ht.1
      simp only [List.map_cons, hc]
      refine lv_istore hx hb hd hl1 (by rw [← hl2]; exact ht.2.1) rfl (fun ls' h' => ?_)
      rw [← hc] at h'
      exact kk H locs ls' ⟨hR.1, fun a ha => hR.2.1 a (List.mem_cons_of_mem _ ha), lcA.set1 hl2 hl3 ok ht.2.2 h', hR.2.2.2⟩
    · cases hs
  · cases hs
theorem sm_istore_n {n : Fin 4} (C : CxA G X m A H0 p R s mi args c cells slots) (hd : decode (mC m) pc = .ok (.istore_n n, len)) (hlen : len = lenI (.istore_n n)) (hnx : pcOf m (k + 1) = pc + len) (hp : chkP m (pc, .istore_n n, len, u, v, w, ts) = true) (hs : sStore 0 u k L st σ = some c') (hR : RelA G m A H0 (k, L, st, σ) H locs ls)
    (kk : ∀ (H' : Heap) (locs' : List Loc) (ls' : Array Slot), RelA G m A H0 c' H' locs' ls' → W p l e R s mi args below meth c H' locs' cells slots Q (F0 mi (pcOf m c'.1) ls' (c'.2.2.1.map (cvA G)))) : W p l e R s mi args below meth c H locs cells slots Q (F0 mi pc ls (st.map (cvA G))) := by
  obtain ⟨hx, hb, -, hown, hts, -⟩ := C
  simp only [lenI] at hlen
  subst hlen
  simp only [chkP, beq_iff_eq] at hp
  subst hp
  unfold sStore at hs
  split at hs
  · rename_i vv st0
    split at hs
    · rename_i ht
      cases hs
      rw [hnx] at kk
      obtain ⟨lv, hl1, hl2, hl3⟩ := hR.2.2.1
      have ok := hR.2.1 vv List.mem_cons_self
      have hc := cv_0 (G := G) ht.1
      simp only [List.map_cons, hc]
      refine lv_istore_n hx hb hd rfl hl1 (by rw [← hl2]; exact ht.2.1) rfl (fun ls' h' => ?_)
      rw [← hc] at h'
      exact kk H locs ls' ⟨hR.1, fun a ha => hR.2.1 a (List.mem_cons_of_mem _ ha), lcA.set1 hl2 hl3 ok ht.2.2 h', hR.2.2.2⟩
    · cases hs
  · cases hs
theorem sm_astore {n : Nat} (C : CxA G X m A H0 p R s mi args c cells slots) (hd : decode (mC m) pc = .ok (.astore n, len)) (hlen : len = lenI (.astore n)) (hnx : pcOf m (k + 1) = pc + len) (hp : chkP m (pc, .astore n, len, u, v, w, ts) = true) (hs : sStore 2 u k L st σ = some c') (hR : RelA G m A H0 (k, L, st, σ) H locs ls)
    (kk : ∀ (H' : Heap) (locs' : List Loc) (ls' : Array Slot), RelA G m A H0 c' H' locs' ls' → W p l e R s mi args below meth c H' locs' cells slots Q (F0 mi (pcOf m c'.1) ls' (c'.2.2.1.map (cvA G)))) : W p l e R s mi args below meth c H locs cells slots Q (F0 mi pc ls (st.map (cvA G))) := by
  obtain ⟨hx, hb, -, hown, hts, -⟩ := C
  simp only [lenI] at hlen
  subst hlen
  simp only [chkP, beq_iff_eq] at hp
  subst hp
  unfold sStore at hs
  split at hs
  · rename_i vv st0
    split at hs
    · rename_i ht
      cases hs
      rw [hnx] at kk
      obtain ⟨lv, hl1, hl2, hl3⟩ := hR.2.2.1
      have ok := hR.2.1 vv List.mem_cons_self
      have hc := cv_2 (G := G) ht.1
      simp only [List.map_cons, hc]
      refine lv_astore hx hb hd hl1 (by rw [← hl2]; exact ht.2.1) rfl (fun ls' h' => ?_)
      rw [← hc] at h'
      exact kk H locs ls' ⟨hR.1, fun a ha => hR.2.1 a (List.mem_cons_of_mem _ ha), lcA.set1 hl2 hl3 ok ht.2.2 h', hR.2.2.2⟩
    · cases hs
  · cases hs
theorem sm_astore_n {n : Fin 4} (C : CxA G X m A H0 p R s mi args c cells slots) (hd : decode (mC m) pc = .ok (.astore_n n, len)) (hlen : len = lenI (.astore_n n)) (hnx : pcOf m (k + 1) = pc + len) (hp : chkP m (pc, .astore_n n, len, u, v, w, ts) = true) (hs : sStore 2 u k L st σ = some c') (hR : RelA G m A H0 (k, L, st, σ) H locs ls)
    (kk : ∀ (H' : Heap) (locs' : List Loc) (ls' : Array Slot), RelA G m A H0 c' H' locs' ls' → W p l e R s mi args below meth c H' locs' cells slots Q (F0 mi (pcOf m c'.1) ls' (c'.2.2.1.map (cvA G)))) : W p l e R s mi args below meth c H locs cells slots Q (F0 mi pc ls (st.map (cvA G))) := by
  obtain ⟨hx, hb, -, hown, hts, -⟩ := C
  simp only [lenI] at hlen
  subst hlen
  simp only [chkP, beq_iff_eq] at hp
  subst hp
  unfold sStore at hs
  split at hs
  · rename_i vv st0
    split at hs
    · rename_i ht
      cases hs
      rw [hnx] at kk
      obtain ⟨lv, hl1, hl2, hl3⟩ := hR.2.2.1
      have ok := hR.2.1 vv List.mem_cons_self
      have hc := cv_2 (G := G) ht.1
      simp only [List.map_cons, hc]
      refine lv_astore_n hx hb hd rfl hl1 (by rw [← hl2]; exact ht.2.1) rfl (fun ls' h' => ?_)
      rw [← hc] at h'
      exact kk H locs ls' ⟨hR.1, fun a ha => hR.2.1 a (List.mem_cons_of_mem _ ha), lcA.set1 hl2 hl3 ok ht.2.2 h', hR.2.2.2⟩
    · cases hs
  · cases hs
theorem sm_lstore {n : Nat} (C : CxA G X m A H0 p R s mi args c cells slots) (hd : decode (mC m) pc = .ok (.lstore n, len)) (hlen : len = lenI (.lstore n)) (hnx : pcOf m (k + 1) = pc + len) (hp : chkP m (pc, .lstore n, len, u, v, w, ts) = true) (hs : sStoreL u k L st σ = some c') (hR : RelA G m A H0 (k, L, st, σ) H locs ls)
    (kk : ∀ (H' : Heap) (locs' : List Loc) (ls' : Array Slot), RelA G m A H0 c' H' locs' ls' → W p l e R s mi args below meth c H' locs' cells slots Q (F0 mi (pcOf m c'.1) ls' (c'.2.2.1.map (cvA G)))) : W p l e R s mi args below meth c H locs cells slots Q (F0 mi pc ls (st.map (cvA G))) := by
  obtain ⟨hx, hb, -, hown, hts, -⟩ := C
  simp only [lenI] at hlen
  subst hlen
  simp only [chkP, beq_iff_eq] at hp
  subst hp
  unfold sStoreL at hs
  split at hs
  · rename_i vv st0
    split at hs
    · rename_i ht
      cases hs
      rw [hnx] at kk
      obtain ⟨lv, hl1, hl2, hl3⟩ := hR.2.2.1
      have ok := hR.2.1 vv List.mem_cons_self
      have hc := cv_1 (G := G) ht.1
      simp only [List.map_cons, hc]
      refine lv_lstore hx hb hd hl1 (by rw [← hl2]; exact ht.2.1) rfl (fun ls' h' => ?_)
      rw [← hc] at h'
      exact kk H locs ls' ⟨hR.1, fun a ha => hR.2.1 a (List.mem_cons_of_mem _ ha), lcA.set2 hl2 hl3 ok ht.2.2 h', hR.2.2.2⟩
    · cases hs
  · cases hs
theorem sm_lstore_n {n : Fin 4} (C : CxA G X m A H0 p R s mi args c cells slots) (hd : decode (mC m) pc = .ok (.lstore_n n, len)) (hlen : len = lenI (.lstore_n n)) (hnx : pcOf m (k + 1) = pc + len) (hp : chkP m (pc, .lstore_n n, len, u, v, w, ts) = true) (hs : sStoreL u k L st σ = some c') (hR : RelA G m A H0 (k, L, st, σ) H locs ls)
    (kk : ∀ (H' : Heap) (locs' : List Loc) (ls' : Array Slot), RelA G m A H0 c' H' locs' ls' → W p l e R s mi args below meth c H' locs' cells slots Q (F0 mi (pcOf m c'.1) ls' (c'.2.2.1.map (cvA G)))) : W p l e R s mi args below meth c H locs cells slots Q (F0 mi pc ls (st.map (cvA G))) := by
  obtain ⟨hx, hb, -, hown, hts, -⟩ := C
  simp only [lenI] at hlen
  subst hlen
  simp only [chkP, beq_iff_eq] at hp
  subst hp
  unfold sStoreL at hs
  split at hs
  · rename_i vv st0
    split at hs
    · rename_i ht
      cases hs
      rw [hnx] at kk
      obtain ⟨lv, hl1, hl2, hl3⟩ := hR.2.2.1
      have ok := hR.2.1 vv List.mem_cons_self
      have hc := cv_1 (G := G) ht.1
      simp only [List.map_cons, hc]
      refine lv_lstore_n hx hb hd rfl hl1 (by rw [← hl2]; exact ht.2.1) rfl (fun ls' h' => ?_)
      rw [← hc] at h'
      exact kk H locs ls' ⟨hR.1, fun a ha => hR.2.1 a (List.mem_cons_of_mem _ ha), lcA.set2 hl2 hl3 ok ht.2.2 h', hR.2.2.2⟩
    · cases hs
  · cases hs
theorem sm_iinc {i : Nat} {n : Int} (C : CxA G X m A H0 p R s mi args c cells slots) (hd : decode (mC m) pc = .ok (.iinc i n, len)) (hlen : len = lenI (.iinc i n)) (hnx : pcOf m (k + 1) = pc + len) (hp : chkP m (pc, .iinc i n, len, u, v, w, ts) = true) (hs : sInc u w k L st σ = some c') (hR : RelA G m A H0 (k, L, st, σ) H locs ls)
    (kk : ∀ (H' : Heap) (locs' : List Loc) (ls' : Array Slot), RelA G m A H0 c' H' locs' ls' → W p l e R s mi args below meth c H' locs' cells slots Q (F0 mi (pcOf m c'.1) ls' (c'.2.2.1.map (cvA G)))) : W p l e R s mi args below meth c H locs cells slots Q (F0 mi pc ls (st.map (cvA G))) := by
  obtain ⟨hx, hb, -, hown, hts, -⟩ := C
  simp only [lenI] at hlen
  subst hlen
  simp only [chkP, Bool.and_eq_true, decide_eq_true_eq, beq_iff_eq] at hp
  obtain ⟨rfl, rfl⟩ := hp
  unfold sInc at hs
  split at hs
  · rename_i vv hv
    split at hs
    · rename_i ht
      cases hs
      rw [hnx] at kk
      obtain ⟨lv, hl1, hl2, hl3⟩ := hR.2.2.1
      obtain ⟨ok, hm⟩ := hl3 _ _ hv (by rw [ht.1]; decide)
      obtain ⟨q, hq⟩ := List.getElem?_of_mem hm
      rw [cv_0 ht.1] at hq
      refine lv_iinc hx hb hd hl1 hq (v := Int32.ofInt vv.2 + Int32.ofInt n) rfl (by rw [← hl2]; exact (List.getElem?_eq_some_iff.mp hv).1) rfl (fun ls' h' => ?_)
      have hc : cvA G (0, aAdd vv.2 n) = .int (Int32.ofInt vv.2 + Int32.ofInt n) := by
        rw [cv_0 rfl]
        show Value.int (Int32.ofInt (Int32.ofInt vv.2 + Int32.ofInt n).toInt) = _
        rw [Int32.ofInt_toInt]
      rw [← hc] at h'
      exact kk H locs ls' ⟨hR.1, hR.2.1, lcA.set1 hl2 hl3 (ok32 _) ht.2 h', hR.2.2.2⟩
    · cases hs
  · cases hs
theorem sm_dup  (C : CxA G X m A H0 p R s mi args c cells slots) (hd : decode (mC m) pc = .ok (.dup, len)) (hlen : len = lenI (.dup)) (hnx : pcOf m (k + 1) = pc + len) (hp : chkP m (pc, .dup, len, u, v, w, ts) = true) (hs : sDup L st k σ = some c') (hR : RelA G m A H0 (k, L, st, σ) H locs ls)
    (kk : ∀ (H' : Heap) (locs' : List Loc) (ls' : Array Slot), RelA G m A H0 c' H' locs' ls' → W p l e R s mi args below meth c H' locs' cells slots Q (F0 mi (pcOf m c'.1) ls' (c'.2.2.1.map (cvA G)))) : W p l e R s mi args below meth c H locs cells slots Q (F0 mi pc ls (st.map (cvA G))) := by
  obtain ⟨hx, hb, -, hown, hts, -⟩ := C
  simp only [lenI] at hlen
  subst hlen
  unfold sDup at hs
  split at hs
  · rename_i x st0
    split at hs
    · cases hs
    · rename_i ht
      cases hs
      rw [hnx] at kk
      have ok := hR.2.1 x List.mem_cons_self
      have hc : (cvA G x).category = 1 := by rw [cv_cat ok]; simp [aCat, ht]
      refine lv_dup hx hb hd hc ?_
      exact kk H locs ls (hR.stk (fun a ha => by
        rcases List.mem_cons.mp ha with rfl | ha
        · exact ok
        · exact hR.2.1 a ha))
  · cases hs
theorem sm_pop  (C : CxA G X m A H0 p R s mi args c cells slots) (hd : decode (mC m) pc = .ok (.pop, len)) (hlen : len = lenI (.pop)) (hnx : pcOf m (k + 1) = pc + len) (hp : chkP m (pc, .pop, len, u, v, w, ts) = true) (hs : sPop L st k σ = some c') (hR : RelA G m A H0 (k, L, st, σ) H locs ls)
    (kk : ∀ (H' : Heap) (locs' : List Loc) (ls' : Array Slot), RelA G m A H0 c' H' locs' ls' → W p l e R s mi args below meth c H' locs' cells slots Q (F0 mi (pcOf m c'.1) ls' (c'.2.2.1.map (cvA G)))) : W p l e R s mi args below meth c H locs cells slots Q (F0 mi pc ls (st.map (cvA G))) := by
  obtain ⟨hx, hb, -, hown, hts, -⟩ := C
  simp only [lenI] at hlen
  subst hlen
  unfold sPop at hs
  split at hs
  · rename_i x st0
    split at hs
    · cases hs
    · rename_i ht
      cases hs
      rw [hnx] at kk
      have ok := hR.2.1 x List.mem_cons_self
      have hc : (cvA G x).category = 1 := by rw [cv_cat ok]; simp [aCat, ht]
      refine lv_pop hx hb hd hc ?_
      exact kk H locs ls (hR.stk (fun a ha => hR.2.1 a (List.mem_cons_of_mem _ ha)))
  · cases hs
theorem sm_dup2  (C : CxA G X m A H0 p R s mi args c cells slots) (hd : decode (mC m) pc = .ok (.dup2, len)) (hlen : len = lenI (.dup2)) (hnx : pcOf m (k + 1) = pc + len) (hp : chkP m (pc, .dup2, len, u, v, w, ts) = true) (hs : sDup2 L st k σ = some c') (hR : RelA G m A H0 (k, L, st, σ) H locs ls)
    (kk : ∀ (H' : Heap) (locs' : List Loc) (ls' : Array Slot), RelA G m A H0 c' H' locs' ls' → W p l e R s mi args below meth c H' locs' cells slots Q (F0 mi (pcOf m c'.1) ls' (c'.2.2.1.map (cvA G)))) : W p l e R s mi args below meth c H locs cells slots Q (F0 mi pc ls (st.map (cvA G))) := by
  obtain ⟨hx, hb, -, hown, hts, -⟩ := C
  simp only [lenI] at hlen
  subst hlen
  unfold sDup2 at hs
  split at hs
  · rename_i x y st0
    split at hs
    · cases hs
    · rename_i ht
      cases hs
      rw [hnx] at kk
      have okx := hR.2.1 x List.mem_cons_self
      have oky := hR.2.1 y (List.mem_cons_of_mem _ List.mem_cons_self)
      have hc : (cvA G x).category = 1 := by rw [cv_cat okx]; simp [aCat, show ¬ x.1 = 1 from fun h => ht (Or.inl h)]
      have hc2 : (cvA G y).category = 1 := by rw [cv_cat oky]; simp [aCat, show ¬ y.1 = 1 from fun h => ht (Or.inr h)]
      refine lv_dup2_11 hx hb hd hc hc2 ?_
      exact kk H locs ls (hR.stk (fun a ha => by
        rcases List.mem_cons.mp ha with rfl | ha
        · exact okx
        rcases List.mem_cons.mp ha with rfl | ha
        · exact oky
        · exact hR.2.1 a ha))
  · cases hs
theorem sm_iadd  (C : CxA G X m A H0 p R s mi args c cells slots) (hd : decode (mC m) pc = .ok (.iadd, len)) (hlen : len = lenI (.iadd)) (hnx : pcOf m (k + 1) = pc + len) (hp : chkP m (pc, .iadd, len, u, v, w, ts) = true) (hs : sBin 0 0 0 aAdd (fun _ => true) k L st σ = some c') (hR : RelA G m A H0 (k, L, st, σ) H locs ls)
    (kk : ∀ (H' : Heap) (locs' : List Loc) (ls' : Array Slot), RelA G m A H0 c' H' locs' ls' → W p l e R s mi args below meth c H' locs' cells slots Q (F0 mi (pcOf m c'.1) ls' (c'.2.2.1.map (cvA G)))) : W p l e R s mi args below meth c H locs cells slots Q (F0 mi pc ls (st.map (cvA G))) := by
  obtain ⟨hx, hb, -, hown, hts, -⟩ := C
  simp only [lenI] at hlen
  subst hlen
  unfold sBin at hs
  split at hs
  · rename_i y x st0
    split at hs
    · rename_i ht
      cases hs
      rw [hnx] at kk
      have okx := hR.2.1 x (List.mem_cons_of_mem _ List.mem_cons_self)
      have oky := hR.2.1 y List.mem_cons_self
      simp only [List.map_cons, cv_0 ht.1, cv_0 ht.2.1]
      refine lv_iadd hx hb hd ?_
      refine top32 _ ?_
      exact kk H locs ls (hR.stk (fun a ha => by
        rcases List.mem_cons.mp ha with rfl | ha
        · exact ok32 _
        · exact hR.2.1 a (List.mem_cons_of_mem _ (List.mem_cons_of_mem _ ha))))
    · cases hs
  · cases hs
theorem sm_isub  (C : CxA G X m A H0 p R s mi args c cells slots) (hd : decode (mC m) pc = .ok (.isub, len)) (hlen : len = lenI (.isub)) (hnx : pcOf m (k + 1) = pc + len) (hp : chkP m (pc, .isub, len, u, v, w, ts) = true) (hs : sBin 0 0 0 aSub (fun _ => true) k L st σ = some c') (hR : RelA G m A H0 (k, L, st, σ) H locs ls)
    (kk : ∀ (H' : Heap) (locs' : List Loc) (ls' : Array Slot), RelA G m A H0 c' H' locs' ls' → W p l e R s mi args below meth c H' locs' cells slots Q (F0 mi (pcOf m c'.1) ls' (c'.2.2.1.map (cvA G)))) : W p l e R s mi args below meth c H locs cells slots Q (F0 mi pc ls (st.map (cvA G))) := by
  obtain ⟨hx, hb, -, hown, hts, -⟩ := C
  simp only [lenI] at hlen
  subst hlen
  unfold sBin at hs
  split at hs
  · rename_i y x st0
    split at hs
    · rename_i ht
      cases hs
      rw [hnx] at kk
      have okx := hR.2.1 x (List.mem_cons_of_mem _ List.mem_cons_self)
      have oky := hR.2.1 y List.mem_cons_self
      simp only [List.map_cons, cv_0 ht.1, cv_0 ht.2.1]
      refine lv_isub hx hb hd ?_
      refine top32 _ ?_
      exact kk H locs ls (hR.stk (fun a ha => by
        rcases List.mem_cons.mp ha with rfl | ha
        · exact ok32 _
        · exact hR.2.1 a (List.mem_cons_of_mem _ (List.mem_cons_of_mem _ ha))))
    · cases hs
  · cases hs
theorem sm_imul  (C : CxA G X m A H0 p R s mi args c cells slots) (hd : decode (mC m) pc = .ok (.imul, len)) (hlen : len = lenI (.imul)) (hnx : pcOf m (k + 1) = pc + len) (hp : chkP m (pc, .imul, len, u, v, w, ts) = true) (hs : sBin 0 0 0 aMul (fun _ => true) k L st σ = some c') (hR : RelA G m A H0 (k, L, st, σ) H locs ls)
    (kk : ∀ (H' : Heap) (locs' : List Loc) (ls' : Array Slot), RelA G m A H0 c' H' locs' ls' → W p l e R s mi args below meth c H' locs' cells slots Q (F0 mi (pcOf m c'.1) ls' (c'.2.2.1.map (cvA G)))) : W p l e R s mi args below meth c H locs cells slots Q (F0 mi pc ls (st.map (cvA G))) := by
  obtain ⟨hx, hb, -, hown, hts, -⟩ := C
  simp only [lenI] at hlen
  subst hlen
  unfold sBin at hs
  split at hs
  · rename_i y x st0
    split at hs
    · rename_i ht
      cases hs
      rw [hnx] at kk
      have okx := hR.2.1 x (List.mem_cons_of_mem _ List.mem_cons_self)
      have oky := hR.2.1 y List.mem_cons_self
      simp only [List.map_cons, cv_0 ht.1, cv_0 ht.2.1]
      refine lv_imul hx hb hd ?_
      refine top32 _ ?_
      exact kk H locs ls (hR.stk (fun a ha => by
        rcases List.mem_cons.mp ha with rfl | ha
        · exact ok32 _
        · exact hR.2.1 a (List.mem_cons_of_mem _ (List.mem_cons_of_mem _ ha))))
    · cases hs
  · cases hs
theorem sm_iand  (C : CxA G X m A H0 p R s mi args c cells slots) (hd : decode (mC m) pc = .ok (.iand, len)) (hlen : len = lenI (.iand)) (hnx : pcOf m (k + 1) = pc + len) (hp : chkP m (pc, .iand, len, u, v, w, ts) = true) (hs : sBin 0 0 0 aAnd (fun _ => true) k L st σ = some c') (hR : RelA G m A H0 (k, L, st, σ) H locs ls)
    (kk : ∀ (H' : Heap) (locs' : List Loc) (ls' : Array Slot), RelA G m A H0 c' H' locs' ls' → W p l e R s mi args below meth c H' locs' cells slots Q (F0 mi (pcOf m c'.1) ls' (c'.2.2.1.map (cvA G)))) : W p l e R s mi args below meth c H locs cells slots Q (F0 mi pc ls (st.map (cvA G))) := by
  obtain ⟨hx, hb, -, hown, hts, -⟩ := C
  simp only [lenI] at hlen
  subst hlen
  unfold sBin at hs
  split at hs
  · rename_i y x st0
    split at hs
    · rename_i ht
      cases hs
      rw [hnx] at kk
      have okx := hR.2.1 x (List.mem_cons_of_mem _ List.mem_cons_self)
      have oky := hR.2.1 y List.mem_cons_self
      simp only [List.map_cons, cv_0 ht.1, cv_0 ht.2.1]
      refine lv_iand hx hb hd ?_
      refine top32 _ ?_
      exact kk H locs ls (hR.stk (fun a ha => by
        rcases List.mem_cons.mp ha with rfl | ha
        · exact ok32 _
        · exact hR.2.1 a (List.mem_cons_of_mem _ (List.mem_cons_of_mem _ ha))))
    · cases hs
  · cases hs
theorem sm_ior  (C : CxA G X m A H0 p R s mi args c cells slots) (hd : decode (mC m) pc = .ok (.ior, len)) (hlen : len = lenI (.ior)) (hnx : pcOf m (k + 1) = pc + len) (hp : chkP m (pc, .ior, len, u, v, w, ts) = true) (hs : sBin 0 0 0 aOr (fun _ => true) k L st σ = some c') (hR : RelA G m A H0 (k, L, st, σ) H locs ls)
    (kk : ∀ (H' : Heap) (locs' : List Loc) (ls' : Array Slot), RelA G m A H0 c' H' locs' ls' → W p l e R s mi args below meth c H' locs' cells slots Q (F0 mi (pcOf m c'.1) ls' (c'.2.2.1.map (cvA G)))) : W p l e R s mi args below meth c H locs cells slots Q (F0 mi pc ls (st.map (cvA G))) := by
  obtain ⟨hx, hb, -, hown, hts, -⟩ := C
  simp only [lenI] at hlen
  subst hlen
  unfold sBin at hs
  split at hs
  · rename_i y x st0
    split at hs
    · rename_i ht
      cases hs
      rw [hnx] at kk
      have okx := hR.2.1 x (List.mem_cons_of_mem _ List.mem_cons_self)
      have oky := hR.2.1 y List.mem_cons_self
      simp only [List.map_cons, cv_0 ht.1, cv_0 ht.2.1]
      refine lv_ior hx hb hd ?_
      refine top32 _ ?_
      exact kk H locs ls (hR.stk (fun a ha => by
        rcases List.mem_cons.mp ha with rfl | ha
        · exact ok32 _
        · exact hR.2.1 a (List.mem_cons_of_mem _ (List.mem_cons_of_mem _ ha))))
    · cases hs
  · cases hs
theorem sm_ixor  (C : CxA G X m A H0 p R s mi args c cells slots) (hd : decode (mC m) pc = .ok (.ixor, len)) (hlen : len = lenI (.ixor)) (hnx : pcOf m (k + 1) = pc + len) (hp : chkP m (pc, .ixor, len, u, v, w, ts) = true) (hs : sBin 0 0 0 aXor (fun _ => true) k L st σ = some c') (hR : RelA G m A H0 (k, L, st, σ) H locs ls)
    (kk : ∀ (H' : Heap) (locs' : List Loc) (ls' : Array Slot), RelA G m A H0 c' H' locs' ls' → W p l e R s mi args below meth c H' locs' cells slots Q (F0 mi (pcOf m c'.1) ls' (c'.2.2.1.map (cvA G)))) : W p l e R s mi args below meth c H locs cells slots Q (F0 mi pc ls (st.map (cvA G))) := by
  obtain ⟨hx, hb, -, hown, hts, -⟩ := C
  simp only [lenI] at hlen
  subst hlen
  unfold sBin at hs
  split at hs
  · rename_i y x st0
    split at hs
    · rename_i ht
      cases hs
      rw [hnx] at kk
      have okx := hR.2.1 x (List.mem_cons_of_mem _ List.mem_cons_self)
      have oky := hR.2.1 y List.mem_cons_self
      simp only [List.map_cons, cv_0 ht.1, cv_0 ht.2.1]
      refine lv_ixor hx hb hd ?_
      refine top32 _ ?_
      exact kk H locs ls (hR.stk (fun a ha => by
        rcases List.mem_cons.mp ha with rfl | ha
        · exact ok32 _
        · exact hR.2.1 a (List.mem_cons_of_mem _ (List.mem_cons_of_mem _ ha))))
    · cases hs
  · cases hs
theorem sm_ishl  (C : CxA G X m A H0 p R s mi args c cells slots) (hd : decode (mC m) pc = .ok (.ishl, len)) (hlen : len = lenI (.ishl)) (hnx : pcOf m (k + 1) = pc + len) (hp : chkP m (pc, .ishl, len, u, v, w, ts) = true) (hs : sBin 0 0 0 aShl (fun _ => true) k L st σ = some c') (hR : RelA G m A H0 (k, L, st, σ) H locs ls)
    (kk : ∀ (H' : Heap) (locs' : List Loc) (ls' : Array Slot), RelA G m A H0 c' H' locs' ls' → W p l e R s mi args below meth c H' locs' cells slots Q (F0 mi (pcOf m c'.1) ls' (c'.2.2.1.map (cvA G)))) : W p l e R s mi args below meth c H locs cells slots Q (F0 mi pc ls (st.map (cvA G))) := by
  obtain ⟨hx, hb, -, hown, hts, -⟩ := C
  simp only [lenI] at hlen
  subst hlen
  unfold sBin at hs
  split at hs
  · rename_i y x st0
    split at hs
    · rename_i ht
      cases hs
      rw [hnx] at kk
      have okx := hR.2.1 x (List.mem_cons_of_mem _ List.mem_cons_self)
      have oky := hR.2.1 y List.mem_cons_self
      simp only [List.map_cons, cv_0 ht.1, cv_0 ht.2.1]
      refine lv_ishl hx hb hd ?_
      refine top32 _ ?_
      exact kk H locs ls (hR.stk (fun a ha => by
        rcases List.mem_cons.mp ha with rfl | ha
        · exact ok32 _
        · exact hR.2.1 a (List.mem_cons_of_mem _ (List.mem_cons_of_mem _ ha))))
    · cases hs
  · cases hs
theorem sm_ishr  (C : CxA G X m A H0 p R s mi args c cells slots) (hd : decode (mC m) pc = .ok (.ishr, len)) (hlen : len = lenI (.ishr)) (hnx : pcOf m (k + 1) = pc + len) (hp : chkP m (pc, .ishr, len, u, v, w, ts) = true) (hs : sBin 0 0 0 aShr (fun _ => true) k L st σ = some c') (hR : RelA G m A H0 (k, L, st, σ) H locs ls)
    (kk : ∀ (H' : Heap) (locs' : List Loc) (ls' : Array Slot), RelA G m A H0 c' H' locs' ls' → W p l e R s mi args below meth c H' locs' cells slots Q (F0 mi (pcOf m c'.1) ls' (c'.2.2.1.map (cvA G)))) : W p l e R s mi args below meth c H locs cells slots Q (F0 mi pc ls (st.map (cvA G))) := by
  obtain ⟨hx, hb, -, hown, hts, -⟩ := C
  simp only [lenI] at hlen
  subst hlen
  unfold sBin at hs
  split at hs
  · rename_i y x st0
    split at hs
    · rename_i ht
      cases hs
      rw [hnx] at kk
      have okx := hR.2.1 x (List.mem_cons_of_mem _ List.mem_cons_self)
      have oky := hR.2.1 y List.mem_cons_self
      simp only [List.map_cons, cv_0 ht.1, cv_0 ht.2.1]
      refine lv_ishr hx hb hd ?_
      refine top32 _ ?_
      exact kk H locs ls (hR.stk (fun a ha => by
        rcases List.mem_cons.mp ha with rfl | ha
        · exact ok32 _
        · exact hR.2.1 a (List.mem_cons_of_mem _ (List.mem_cons_of_mem _ ha))))
    · cases hs
  · cases hs
theorem sm_idiv  (C : CxA G X m A H0 p R s mi args c cells slots) (hd : decode (mC m) pc = .ok (.idiv, len)) (hlen : len = lenI (.idiv)) (hnx : pcOf m (k + 1) = pc + len) (hp : chkP m (pc, .idiv, len, u, v, w, ts) = true) (hs : sBin 0 0 0 aDiv (fun y => y != 0) k L st σ = some c') (hR : RelA G m A H0 (k, L, st, σ) H locs ls)
    (kk : ∀ (H' : Heap) (locs' : List Loc) (ls' : Array Slot), RelA G m A H0 c' H' locs' ls' → W p l e R s mi args below meth c H' locs' cells slots Q (F0 mi (pcOf m c'.1) ls' (c'.2.2.1.map (cvA G)))) : W p l e R s mi args below meth c H locs cells slots Q (F0 mi pc ls (st.map (cvA G))) := by
  obtain ⟨hx, hb, -, hown, hts, -⟩ := C
  simp only [lenI] at hlen
  subst hlen
  unfold sBin at hs
  split at hs
  · rename_i y x st0
    split at hs
    · rename_i ht
      cases hs
      rw [hnx] at kk
      have okx := hR.2.1 x (List.mem_cons_of_mem _ List.mem_cons_self)
      have oky := hR.2.1 y List.mem_cons_self
      simp only [List.map_cons, cv_0 ht.1, cv_0 ht.2.1]
      have hne : ¬ Int32.ofInt y.2 = 0 := fun q => by
        have h1 := okA_int oky ht.2.1
        rw [q] at h1
        have h2 := ht.2.2
        rw [← h1] at h2
        exact absurd h2 (by decide)
      refine lv_idiv hx hb hd hne ?_
      refine top32 _ ?_
      exact kk H locs ls (hR.stk (fun a ha => by
        rcases List.mem_cons.mp ha with rfl | ha
        · exact ok32 _
        · exact hR.2.1 a (List.mem_cons_of_mem _ (List.mem_cons_of_mem _ ha))))
    · cases hs
  · cases hs
theorem sm_irem  (C : CxA G X m A H0 p R s mi args c cells slots) (hd : decode (mC m) pc = .ok (.irem, len)) (hlen : len = lenI (.irem)) (hnx : pcOf m (k + 1) = pc + len) (hp : chkP m (pc, .irem, len, u, v, w, ts) = true) (hs : sBin 0 0 0 aRem (fun y => y != 0) k L st σ = some c') (hR : RelA G m A H0 (k, L, st, σ) H locs ls)
    (kk : ∀ (H' : Heap) (locs' : List Loc) (ls' : Array Slot), RelA G m A H0 c' H' locs' ls' → W p l e R s mi args below meth c H' locs' cells slots Q (F0 mi (pcOf m c'.1) ls' (c'.2.2.1.map (cvA G)))) : W p l e R s mi args below meth c H locs cells slots Q (F0 mi pc ls (st.map (cvA G))) := by
  obtain ⟨hx, hb, -, hown, hts, -⟩ := C
  simp only [lenI] at hlen
  subst hlen
  unfold sBin at hs
  split at hs
  · rename_i y x st0
    split at hs
    · rename_i ht
      cases hs
      rw [hnx] at kk
      have okx := hR.2.1 x (List.mem_cons_of_mem _ List.mem_cons_self)
      have oky := hR.2.1 y List.mem_cons_self
      simp only [List.map_cons, cv_0 ht.1, cv_0 ht.2.1]
      have hne : ¬ Int32.ofInt y.2 = 0 := fun q => by
        have h1 := okA_int oky ht.2.1
        rw [q] at h1
        have h2 := ht.2.2
        rw [← h1] at h2
        exact absurd h2 (by decide)
      refine lv_irem hx hb hd hne ?_
      refine top32 _ ?_
      exact kk H locs ls (hR.stk (fun a ha => by
        rcases List.mem_cons.mp ha with rfl | ha
        · exact ok32 _
        · exact hR.2.1 a (List.mem_cons_of_mem _ (List.mem_cons_of_mem _ ha))))
    · cases hs
  · cases hs
theorem sm_iushr  (C : CxA G X m A H0 p R s mi args c cells slots) (hd : decode (mC m) pc = .ok (.iushr, len)) (hlen : len = lenI (.iushr)) (hnx : pcOf m (k + 1) = pc + len) (hp : chkP m (pc, .iushr, len, u, v, w, ts) = true) (hs : sBin 0 0 0 aUsh (fun _ => true) k L st σ = some c') (hR : RelA G m A H0 (k, L, st, σ) H locs ls)
    (kk : ∀ (H' : Heap) (locs' : List Loc) (ls' : Array Slot), RelA G m A H0 c' H' locs' ls' → W p l e R s mi args below meth c H' locs' cells slots Q (F0 mi (pcOf m c'.1) ls' (c'.2.2.1.map (cvA G)))) : W p l e R s mi args below meth c H locs cells slots Q (F0 mi pc ls (st.map (cvA G))) := by
  obtain ⟨hx, hb, -, hown, hts, -⟩ := C
  simp only [lenI] at hlen
  subst hlen
  unfold sBin at hs
  split at hs
  · rename_i y x st0
    split at hs
    · rename_i ht
      cases hs
      rw [hnx] at kk
      have okx := hR.2.1 x (List.mem_cons_of_mem _ List.mem_cons_self)
      have oky := hR.2.1 y List.mem_cons_self
      simp only [List.map_cons, cv_0 ht.1, cv_0 ht.2.1]
      refine lv_iushr hx hb hd rfl ?_
      refine top32 _ ?_
      exact kk H locs ls (hR.stk (fun a ha => by
        rcases List.mem_cons.mp ha with rfl | ha
        · exact ok32 _
        · exact hR.2.1 a (List.mem_cons_of_mem _ (List.mem_cons_of_mem _ ha))))
    · cases hs
  · cases hs
theorem sm_ladd  (C : CxA G X m A H0 p R s mi args c cells slots) (hd : decode (mC m) pc = .ok (.ladd, len)) (hlen : len = lenI (.ladd)) (hnx : pcOf m (k + 1) = pc + len) (hp : chkP m (pc, .ladd, len, u, v, w, ts) = true) (hs : sBin 1 1 1 bAdd (fun _ => true) k L st σ = some c') (hR : RelA G m A H0 (k, L, st, σ) H locs ls)
    (kk : ∀ (H' : Heap) (locs' : List Loc) (ls' : Array Slot), RelA G m A H0 c' H' locs' ls' → W p l e R s mi args below meth c H' locs' cells slots Q (F0 mi (pcOf m c'.1) ls' (c'.2.2.1.map (cvA G)))) : W p l e R s mi args below meth c H locs cells slots Q (F0 mi pc ls (st.map (cvA G))) := by
  obtain ⟨hx, hb, -, hown, hts, -⟩ := C
  simp only [lenI] at hlen
  subst hlen
  unfold sBin at hs
  split at hs
  · rename_i y x st0
    split at hs
    · rename_i ht
      cases hs
      rw [hnx] at kk
      have okx := hR.2.1 x (List.mem_cons_of_mem _ List.mem_cons_self)
      have oky := hR.2.1 y List.mem_cons_self
      simp only [List.map_cons, cv_1 ht.1, cv_1 ht.2.1]
      refine lv_ladd hx hb hd ?_
      refine top64 _ ?_
      exact kk H locs ls (hR.stk (fun a ha => by
        rcases List.mem_cons.mp ha with rfl | ha
        · exact ok64 _
        · exact hR.2.1 a (List.mem_cons_of_mem _ (List.mem_cons_of_mem _ ha))))
    · cases hs
  · cases hs
theorem sm_lmul  (C : CxA G X m A H0 p R s mi args c cells slots) (hd : decode (mC m) pc = .ok (.lmul, len)) (hlen : len = lenI (.lmul)) (hnx : pcOf m (k + 1) = pc + len) (hp : chkP m (pc, .lmul, len, u, v, w, ts) = true) (hs : sBin 1 1 1 bMul (fun _ => true) k L st σ = some c') (hR : RelA G m A H0 (k, L, st, σ) H locs ls)
    (kk : ∀ (H' : Heap) (locs' : List Loc) (ls' : Array Slot), RelA G m A H0 c' H' locs' ls' → W p l e R s mi args below meth c H' locs' cells slots Q (F0 mi (pcOf m c'.1) ls' (c'.2.2.1.map (cvA G)))) : W p l e R s mi args below meth c H locs cells slots Q (F0 mi pc ls (st.map (cvA G))) := by
  obtain ⟨hx, hb, -, hown, hts, -⟩ := C
  simp only [lenI] at hlen
  subst hlen
  unfold sBin at hs
  split at hs
  · rename_i y x st0
    split at hs
    · rename_i ht
      cases hs
      rw [hnx] at kk
      have okx := hR.2.1 x (List.mem_cons_of_mem _ List.mem_cons_self)
      have oky := hR.2.1 y List.mem_cons_self
      simp only [List.map_cons, cv_1 ht.1, cv_1 ht.2.1]
      refine lv_lmul hx hb hd ?_
      refine top64 _ ?_
      exact kk H locs ls (hR.stk (fun a ha => by
        rcases List.mem_cons.mp ha with rfl | ha
        · exact ok64 _
        · exact hR.2.1 a (List.mem_cons_of_mem _ (List.mem_cons_of_mem _ ha))))
    · cases hs
  · cases hs
theorem sm_land  (C : CxA G X m A H0 p R s mi args c cells slots) (hd : decode (mC m) pc = .ok (.land, len)) (hlen : len = lenI (.land)) (hnx : pcOf m (k + 1) = pc + len) (hp : chkP m (pc, .land, len, u, v, w, ts) = true) (hs : sBin 1 1 1 bAnd (fun _ => true) k L st σ = some c') (hR : RelA G m A H0 (k, L, st, σ) H locs ls)
    (kk : ∀ (H' : Heap) (locs' : List Loc) (ls' : Array Slot), RelA G m A H0 c' H' locs' ls' → W p l e R s mi args below meth c H' locs' cells slots Q (F0 mi (pcOf m c'.1) ls' (c'.2.2.1.map (cvA G)))) : W p l e R s mi args below meth c H locs cells slots Q (F0 mi pc ls (st.map (cvA G))) := by
  obtain ⟨hx, hb, -, hown, hts, -⟩ := C
  simp only [lenI] at hlen
  subst hlen
  unfold sBin at hs
  split at hs
  · rename_i y x st0
    split at hs
    · rename_i ht
      cases hs
      rw [hnx] at kk
      have okx := hR.2.1 x (List.mem_cons_of_mem _ List.mem_cons_self)
      have oky := hR.2.1 y List.mem_cons_self
      simp only [List.map_cons, cv_1 ht.1, cv_1 ht.2.1]
      refine lv_land hx hb hd ?_
      refine top64 _ ?_
      exact kk H locs ls (hR.stk (fun a ha => by
        rcases List.mem_cons.mp ha with rfl | ha
        · exact ok64 _
        · exact hR.2.1 a (List.mem_cons_of_mem _ (List.mem_cons_of_mem _ ha))))
    · cases hs
  · cases hs
theorem sm_lor  (C : CxA G X m A H0 p R s mi args c cells slots) (hd : decode (mC m) pc = .ok (.lor, len)) (hlen : len = lenI (.lor)) (hnx : pcOf m (k + 1) = pc + len) (hp : chkP m (pc, .lor, len, u, v, w, ts) = true) (hs : sBin 1 1 1 bOr (fun _ => true) k L st σ = some c') (hR : RelA G m A H0 (k, L, st, σ) H locs ls)
    (kk : ∀ (H' : Heap) (locs' : List Loc) (ls' : Array Slot), RelA G m A H0 c' H' locs' ls' → W p l e R s mi args below meth c H' locs' cells slots Q (F0 mi (pcOf m c'.1) ls' (c'.2.2.1.map (cvA G)))) : W p l e R s mi args below meth c H locs cells slots Q (F0 mi pc ls (st.map (cvA G))) := by
  obtain ⟨hx, hb, -, hown, hts, -⟩ := C
  simp only [lenI] at hlen
  subst hlen
  unfold sBin at hs
  split at hs
  · rename_i y x st0
    split at hs
    · rename_i ht
      cases hs
      rw [hnx] at kk
      have okx := hR.2.1 x (List.mem_cons_of_mem _ List.mem_cons_self)
      have oky := hR.2.1 y List.mem_cons_self
      simp only [List.map_cons, cv_1 ht.1, cv_1 ht.2.1]
      refine lv_lor hx hb hd ?_
      refine top64 _ ?_
      exact kk H locs ls (hR.stk (fun a ha => by
        rcases List.mem_cons.mp ha with rfl | ha
        · exact ok64 _
        · exact hR.2.1 a (List.mem_cons_of_mem _ (List.mem_cons_of_mem _ ha))))
    · cases hs
  · cases hs
theorem sm_ldiv  (C : CxA G X m A H0 p R s mi args c cells slots) (hd : decode (mC m) pc = .ok (.ldiv, len)) (hlen : len = lenI (.ldiv)) (hnx : pcOf m (k + 1) = pc + len) (hp : chkP m (pc, .ldiv, len, u, v, w, ts) = true) (hs : sBin 1 1 1 bDiv (fun y => y != 0) k L st σ = some c') (hR : RelA G m A H0 (k, L, st, σ) H locs ls)
    (kk : ∀ (H' : Heap) (locs' : List Loc) (ls' : Array Slot), RelA G m A H0 c' H' locs' ls' → W p l e R s mi args below meth c H' locs' cells slots Q (F0 mi (pcOf m c'.1) ls' (c'.2.2.1.map (cvA G)))) : W p l e R s mi args below meth c H locs cells slots Q (F0 mi pc ls (st.map (cvA G))) := by
  obtain ⟨hx, hb, -, hown, hts, -⟩ := C
  simp only [lenI] at hlen
  subst hlen
  unfold sBin at hs
  split at hs
  · rename_i y x st0
    split at hs
    · rename_i ht
      cases hs
      rw [hnx] at kk
      have okx := hR.2.1 x (List.mem_cons_of_mem _ List.mem_cons_self)
      have oky := hR.2.1 y List.mem_cons_self
      simp only [List.map_cons, cv_1 ht.1, cv_1 ht.2.1]
      have hne : ¬ Int64.ofInt y.2 = 0 := fun q => by
        have h1 := okA_long oky ht.2.1
        rw [q] at h1
        have h2 := ht.2.2
        rw [← h1] at h2
        exact absurd h2 (by decide)
      refine lv_ldiv hx hb hd hne ?_
      refine top64 _ ?_
      exact kk H locs ls (hR.stk (fun a ha => by
        rcases List.mem_cons.mp ha with rfl | ha
        · exact ok64 _
        · exact hR.2.1 a (List.mem_cons_of_mem _ (List.mem_cons_of_mem _ ha))))
    · cases hs
  · cases hs
theorem sm_lrem  (C : CxA G X m A H0 p R s mi args c cells slots) (hd : decode (mC m) pc = .ok (.lrem, len)) (hlen : len = lenI (.lrem)) (hnx : pcOf m (k + 1) = pc + len) (hp : chkP m (pc, .lrem, len, u, v, w, ts) = true) (hs : sBin 1 1 1 bRem (fun y => y != 0) k L st σ = some c') (hR : RelA G m A H0 (k, L, st, σ) H locs ls)
    (kk : ∀ (H' : Heap) (locs' : List Loc) (ls' : Array Slot), RelA G m A H0 c' H' locs' ls' → W p l e R s mi args below meth c H' locs' cells slots Q (F0 mi (pcOf m c'.1) ls' (c'.2.2.1.map (cvA G)))) : W p l e R s mi args below meth c H locs cells slots Q (F0 mi pc ls (st.map (cvA G))) := by
  obtain ⟨hx, hb, -, hown, hts, -⟩ := C
  simp only [lenI] at hlen
  subst hlen
  unfold sBin at hs
  split at hs
  · rename_i y x st0
    split at hs
    · rename_i ht
      cases hs
      rw [hnx] at kk
      have okx := hR.2.1 x (List.mem_cons_of_mem _ List.mem_cons_self)
      have oky := hR.2.1 y List.mem_cons_self
      simp only [List.map_cons, cv_1 ht.1, cv_1 ht.2.1]
      have hne : ¬ Int64.ofInt y.2 = 0 := fun q => by
        have h1 := okA_long oky ht.2.1
        rw [q] at h1
        have h2 := ht.2.2
        rw [← h1] at h2
        exact absurd h2 (by decide)
      refine lv_lrem hx hb hd hne ?_
      refine top64 _ ?_
      exact kk H locs ls (hR.stk (fun a ha => by
        rcases List.mem_cons.mp ha with rfl | ha
        · exact ok64 _
        · exact hR.2.1 a (List.mem_cons_of_mem _ (List.mem_cons_of_mem _ ha))))
    · cases hs
  · cases hs
theorem sm_lshl  (C : CxA G X m A H0 p R s mi args c cells slots) (hd : decode (mC m) pc = .ok (.lshl, len)) (hlen : len = lenI (.lshl)) (hnx : pcOf m (k + 1) = pc + len) (hp : chkP m (pc, .lshl, len, u, v, w, ts) = true) (hs : sBin 1 0 1 bShl (fun _ => true) k L st σ = some c') (hR : RelA G m A H0 (k, L, st, σ) H locs ls)
    (kk : ∀ (H' : Heap) (locs' : List Loc) (ls' : Array Slot), RelA G m A H0 c' H' locs' ls' → W p l e R s mi args below meth c H' locs' cells slots Q (F0 mi (pcOf m c'.1) ls' (c'.2.2.1.map (cvA G)))) : W p l e R s mi args below meth c H locs cells slots Q (F0 mi pc ls (st.map (cvA G))) := by
  obtain ⟨hx, hb, -, hown, hts, -⟩ := C
  simp only [lenI] at hlen
  subst hlen
  unfold sBin at hs
  split at hs
  · rename_i y x st0
    split at hs
    · rename_i ht
      cases hs
      rw [hnx] at kk
      have okx := hR.2.1 x (List.mem_cons_of_mem _ List.mem_cons_self)
      have oky := hR.2.1 y List.mem_cons_self
      simp only [List.map_cons, cv_1 ht.1, cv_0 ht.2.1]
      refine lv_lshl hx hb hd rfl ?_
      refine top64 _ ?_
      exact kk H locs ls (hR.stk (fun a ha => by
        rcases List.mem_cons.mp ha with rfl | ha
        · exact ok64 _
        · exact hR.2.1 a (List.mem_cons_of_mem _ (List.mem_cons_of_mem _ ha))))
    · cases hs
  · cases hs
theorem sm_lshr  (C : CxA G X m A H0 p R s mi args c cells slots) (hd : decode (mC m) pc = .ok (.lshr, len)) (hlen : len = lenI (.lshr)) (hnx : pcOf m (k + 1) = pc + len) (hp : chkP m (pc, .lshr, len, u, v, w, ts) = true) (hs : sBin 1 0 1 bShr (fun _ => true) k L st σ = some c') (hR : RelA G m A H0 (k, L, st, σ) H locs ls)
    (kk : ∀ (H' : Heap) (locs' : List Loc) (ls' : Array Slot), RelA G m A H0 c' H' locs' ls' → W p l e R s mi args below meth c H' locs' cells slots Q (F0 mi (pcOf m c'.1) ls' (c'.2.2.1.map (cvA G)))) : W p l e R s mi args below meth c H locs cells slots Q (F0 mi pc ls (st.map (cvA G))) := by
  obtain ⟨hx, hb, -, hown, hts, -⟩ := C
  simp only [lenI] at hlen
  subst hlen
  unfold sBin at hs
  split at hs
  · rename_i y x st0
    split at hs
    · rename_i ht
      cases hs
      rw [hnx] at kk
      have okx := hR.2.1 x (List.mem_cons_of_mem _ List.mem_cons_self)
      have oky := hR.2.1 y List.mem_cons_self
      simp only [List.map_cons, cv_1 ht.1, cv_0 ht.2.1]
      refine lv_lshr hx hb hd rfl ?_
      refine top64 _ ?_
      exact kk H locs ls (hR.stk (fun a ha => by
        rcases List.mem_cons.mp ha with rfl | ha
        · exact ok64 _
        · exact hR.2.1 a (List.mem_cons_of_mem _ (List.mem_cons_of_mem _ ha))))
    · cases hs
  · cases hs
theorem sm_lcmp  (C : CxA G X m A H0 p R s mi args c cells slots) (hd : decode (mC m) pc = .ok (.lcmp, len)) (hlen : len = lenI (.lcmp)) (hnx : pcOf m (k + 1) = pc + len) (hp : chkP m (pc, .lcmp, len, u, v, w, ts) = true) (hs : sBin 1 1 0 bCmp (fun _ => true) k L st σ = some c') (hR : RelA G m A H0 (k, L, st, σ) H locs ls)
    (kk : ∀ (H' : Heap) (locs' : List Loc) (ls' : Array Slot), RelA G m A H0 c' H' locs' ls' → W p l e R s mi args below meth c H' locs' cells slots Q (F0 mi (pcOf m c'.1) ls' (c'.2.2.1.map (cvA G)))) : W p l e R s mi args below meth c H locs cells slots Q (F0 mi pc ls (st.map (cvA G))) := by
  obtain ⟨hx, hb, -, hown, hts, -⟩ := C
  simp only [lenI] at hlen
  subst hlen
  unfold sBin at hs
  split at hs
  · rename_i y x st0
    split at hs
    · rename_i ht
      cases hs
      rw [hnx] at kk
      have okx := hR.2.1 x (List.mem_cons_of_mem _ List.mem_cons_self)
      have oky := hR.2.1 y List.mem_cons_self
      simp only [List.map_cons, cv_1 ht.1, cv_1 ht.2.1]
      refine W.lcmp hx hb hd ?_
      refine top32 _ ?_
      exact kk H locs ls (hR.stk (fun a ha => by
        rcases List.mem_cons.mp ha with rfl | ha
        · exact ok32 _
        · exact hR.2.1 a (List.mem_cons_of_mem _ (List.mem_cons_of_mem _ ha))))
    · cases hs
  · cases hs
theorem sm_i2l  (C : CxA G X m A H0 p R s mi args c cells slots) (hd : decode (mC m) pc = .ok (.i2l, len)) (hlen : len = lenI (.i2l)) (hnx : pcOf m (k + 1) = pc + len) (hp : chkP m (pc, .i2l, len, u, v, w, ts) = true) (hs : sUna 0 1 bI2l k L st σ = some c') (hR : RelA G m A H0 (k, L, st, σ) H locs ls)
    (kk : ∀ (H' : Heap) (locs' : List Loc) (ls' : Array Slot), RelA G m A H0 c' H' locs' ls' → W p l e R s mi args below meth c H' locs' cells slots Q (F0 mi (pcOf m c'.1) ls' (c'.2.2.1.map (cvA G)))) : W p l e R s mi args below meth c H locs cells slots Q (F0 mi pc ls (st.map (cvA G))) := by
  obtain ⟨hx, hb, -, hown, hts, -⟩ := C
  simp only [lenI] at hlen
  subst hlen
  unfold sUna at hs
  split at hs
  · rename_i x st0
    split at hs
    · rename_i ht
      cases hs
      rw [hnx] at kk
      simp only [List.map_cons, cv_0 ht]
      refine lv_i2l hx hb hd rfl ?_
      refine top64 _ ?_
      exact kk H locs ls (hR.stk (fun a ha => by
        rcases List.mem_cons.mp ha with rfl | ha
        · exact ok64 _
        · exact hR.2.1 a (List.mem_cons_of_mem _ ha)))
    · cases hs
  · cases hs
theorem sm_l2i  (C : CxA G X m A H0 p R s mi args c cells slots) (hd : decode (mC m) pc = .ok (.l2i, len)) (hlen : len = lenI (.l2i)) (hnx : pcOf m (k + 1) = pc + len) (hp : chkP m (pc, .l2i, len, u, v, w, ts) = true) (hs : sUna 1 0 bL2i k L st σ = some c') (hR : RelA G m A H0 (k, L, st, σ) H locs ls)
    (kk : ∀ (H' : Heap) (locs' : List Loc) (ls' : Array Slot), RelA G m A H0 c' H' locs' ls' → W p l e R s mi args below meth c H' locs' cells slots Q (F0 mi (pcOf m c'.1) ls' (c'.2.2.1.map (cvA G)))) : W p l e R s mi args below meth c H locs cells slots Q (F0 mi pc ls (st.map (cvA G))) := by
  obtain ⟨hx, hb, -, hown, hts, -⟩ := C
  simp only [lenI] at hlen
  subst hlen
  unfold sUna at hs
  split at hs
  · rename_i x st0
    split at hs
    · rename_i ht
      cases hs
      rw [hnx] at kk
      simp only [List.map_cons, cv_1 ht]
      refine lv_l2i hx hb hd rfl ?_
      refine top32 _ ?_
      exact kk H locs ls (hR.stk (fun a ha => by
        rcases List.mem_cons.mp ha with rfl | ha
        · exact ok32 _
        · exact hR.2.1 a (List.mem_cons_of_mem _ ha)))
    · cases hs
  · cases hs
end SimA
