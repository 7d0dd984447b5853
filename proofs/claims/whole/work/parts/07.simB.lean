/-! One step of the pure machine: branches, switches, fields, arrays. -/
theorem c_eq {x y : Int} (hx : (Int32.ofInt x).toInt = x) (hy : (Int32.ofInt y).toInt = y) : Int32.ofInt x = Int32.ofInt y ↔ x = y := by
  constructor
  · intro h; rw [← hx, ← hy, h]
  · intro h; rw [h]
theorem c_lt {x y : Int} (hx : (Int32.ofInt x).toInt = x) (hy : (Int32.ofInt y).toInt = y) : Int32.ofInt x < Int32.ofInt y ↔ x < y := by
  rw [Int32.lt_iff_toInt_lt, hx, hy]
theorem c_le {x y : Int} (hx : (Int32.ofInt x).toInt = x) (hy : (Int32.ofInt y).toInt = y) : Int32.ofInt x ≤ Int32.ofInt y ↔ x ≤ y := by
  rw [Int32.le_iff_toInt_le, hx, hy]
theorem c_00 : (Int32.ofInt 0).toInt = 0 := by decide
theorem c_z : (0 : Int32) = Int32.ofInt 0 := by decide
theorem sw_tab {m pc : Nat} {d : Nat} (x : Int) : ∀ (offs : List Int) (lo : Int) (ts : List (Int × Nat)), sws m pc (zipLo lo offs) ts = true → ((x < lo ∨ lo + offs.length ≤ x) → swOf ts d x = d) ∧ (lo ≤ x → x < lo + offs.length → ∃ off, offs[(x - lo).toNat]? = some off ∧ (pc : Int) + off = (pcOf m (swOf ts d x) : Int)) := by
  intro offs
  induction offs with
  | nil =>
    intro lo ts h
    cases ts with
    | nil => exact ⟨fun _ => rfl, fun h1 h2 => by simp at h2; omega⟩
    | cons t q => simp [zipLo, sws] at h
  | cons a r ih =>
    intro lo ts h
    cases ts with
    | nil => simp [zipLo, sws] at h
    | cons t q =>
      simp only [zipLo, sws, Bool.and_eq_true, decide_eq_true_eq, jmp] at h
      obtain ⟨⟨h1, h2⟩, h3⟩ := h
      obtain ⟨i1, i2⟩ := ih (lo + 1) q h3
      constructor
      · intro hh
        rw [swOf, if_neg (by rw [← h1]; simp at hh; omega)]
        exact i1 (by simp at hh; omega)
      · intro g1 g2
        by_cases hx : x = lo
        · subst hx
          refine ⟨a, by simp, ?_⟩
          rw [swOf, if_pos h1]
          exact h2
        · obtain ⟨off, j1, j2⟩ := i2 (by omega) (by simp at g2; omega)
          refine ⟨off, ?_, ?_⟩
          · rw [show (x - lo).toNat = (x - (lo + 1)).toNat + 1 by omega, List.getElem?_cons_succ]
            exact j1
          · rw [swOf, if_neg (by rw [← h1]; exact hx)]
            exact j2
theorem sw_look {m pc : Nat} {d : Nat} {dd : Int} (x : Int) (hd : (pc : Int) + dd = (pcOf m d : Int)) : ∀ (ps : List (Int × Int)) (ts : List (Int × Nat)), sws m pc ps ts = true → (pc : Int) + Op.lookupswitch.offset ps dd x = (pcOf m (swOf ts d x) : Int) := by
  intro ps
  induction ps with
  | nil =>
    intro ts h
    cases ts with
    | nil => exact hd
    | cons t q => simp [sws] at h
  | cons a r ih =>
    intro ts h
    cases ts with
    | nil => simp [sws] at h
    | cons t q =>
      simp only [sws, Bool.and_eq_true, decide_eq_true_eq, jmp] at h
      obtain ⟨⟨h1, h2⟩, h3⟩ := h
      obtain ⟨a1, a2⟩ := a
      rw [Op.lookupswitch.offset_cons]
      dsimp only at h1 h2
      by_cases hx : a1 = x
      · rw [if_pos hx, swOf, if_pos (by rw [← h1]; exact hx.symm)]
        exact h2
      · rw [if_neg hx, swOf, if_neg (by rw [← h1]; exact fun q => hx q.symm)]
        exact ih q h3
section SimB
variable {p : Program} {l : Launch} {e : Env} {R : Room} {s : State} {mi : MethodId} {args : Array Value} {below : List Frame} {meth : Method} {c : Code} {H : Heap} {locs : List Loc} {cells slots : Nat} {Q : State → Prop}
variable {G : Geo} {X : AX} {m : Nat} {A : Nat → Prop} {H0 : Heap} {ls : Array Slot} {L st : List AV} {σ : AH} {k pc len u v : Nat} {w : Int} {ts : List (Int × Nat)} {c' : ACfg} {rest : List Value}
theorem sm_goto {off : Int} (C : CxA G X m A H0 p R s mi args c cells slots) (hd : decode (mC m) pc = .ok (.goto off, len)) (hlen : len = lenI (.goto off)) (hnx : True ∨ pcOf m (k + 1) = pc + len) (hp : chkP m (pc, .goto off, len, u, v, w, ts) = true) (hs : some (v, L, st, σ) = some c') (hR : RelA G m A H0 (k, L, st, σ) H locs ls)
    (kk : ∀ (H' : Heap) (locs' : List Loc) (ls' : Array Slot), RelA G m A H0 c' H' locs' ls' → W p l e R s mi args below meth c H' locs' cells slots Q (F0 mi (pcOf m c'.1) ls' (c'.2.2.1.map (cvA G)))) : W p l e R s mi args below meth c H locs cells slots Q (F0 mi pc ls (st.map (cvA G))) := by
  obtain ⟨hx, hb, -, hown, hts, -⟩ := C
  simp only [lenI] at hlen
  subst hlen
  simp only [chkP, jmp, decide_eq_true_eq] at hp
  cases hs
  refine lv_goto (tgt := pcOf m v) hx hb hd hp ?_
  exact kk H locs ls (hR.stk hR.2.1)
theorem sm_if_eq {off : Int} (C : CxA G X m A H0 p R s mi args c cells slots) (hd : decode (mC m) pc = .ok (.ifCond .eq off, len)) (hlen : len = lenI (.ifCond .eq off)) (hnx : pcOf m (k + 1) = pc + len) (hp : chkP m (pc, .ifCond .eq off, len, u, v, w, ts) = true) (hs : sBr1 (fun x => decide (x = 0)) v k L st σ = some c') (hR : RelA G m A H0 (k, L, st, σ) H locs ls)
    (kk : ∀ (H' : Heap) (locs' : List Loc) (ls' : Array Slot), RelA G m A H0 c' H' locs' ls' → W p l e R s mi args below meth c H' locs' cells slots Q (F0 mi (pcOf m c'.1) ls' (c'.2.2.1.map (cvA G)))) : W p l e R s mi args below meth c H locs cells slots Q (F0 mi pc ls (st.map (cvA G))) := by
  obtain ⟨hx, hb, -, hown, hts, -⟩ := C
  simp only [lenI] at hlen
  subst hlen
  simp only [chkP, jmp, decide_eq_true_eq] at hp
  unfold sBr1 at hs
  split at hs
  · rename_i x st0
    split at hs
    · rename_i ht
      cases hs
      have okx := okA_int (hR.2.1 x List.mem_cons_self) ht
      have hR' : ∀ k', RelA G m A H0 (k', L, st0, σ) H locs ls := fun k' => hR.stk (fun a ha => hR.2.1 a (List.mem_cons_of_mem _ ha))
      have kk' := kk H locs ls (hR' _)
      simp only [List.map_cons, cv_0 ht]
      refine lv_if_eq (tgt := pcOf m v) hx hb hd hp (fun q => ?_) (fun q => ?_)
      · have q1 : (x.2 = 0) := (c_eq okx c_00).mp (c_z ▸ q)
        simp only [q1, decide_true, if_true, ↓reduceIte] at kk'
        exact kk'
      · have q1 : ¬ (x.2 = 0) := fun z => q (c_z ▸ (c_eq okx c_00).mpr z)
        simp only [q1, decide_false, Bool.false_eq_true, ↓reduceIte, hnx] at kk'
        exact kk'
    · cases hs
  · cases hs
theorem sm_if_ne {off : Int} (C : CxA G X m A H0 p R s mi args c cells slots) (hd : decode (mC m) pc = .ok (.ifCond .ne off, len)) (hlen : len = lenI (.ifCond .ne off)) (hnx : pcOf m (k + 1) = pc + len) (hp : chkP m (pc, .ifCond .ne off, len, u, v, w, ts) = true) (hs : sBr1 (fun x => decide (¬ x = 0)) v k L st σ = some c') (hR : RelA G m A H0 (k, L, st, σ) H locs ls)
    (kk : ∀ (H' : Heap) (locs' : List Loc) (ls' : Array Slot), RelA G m A H0 c' H' locs' ls' → W p l e R s mi args below meth c H' locs' cells slots Q (F0 mi (pcOf m c'.1) ls' (c'.2.2.1.map (cvA G)))) : W p l e R s mi args below meth c H locs cells slots Q (F0 mi pc ls (st.map (cvA G))) := by
  obtain ⟨hx, hb, -, hown, hts, -⟩ := C
  simp only [lenI] at hlen
  subst hlen
  simp only [chkP, jmp, decide_eq_true_eq] at hp
  unfold sBr1 at hs
  split at hs
  · rename_i x st0
    split at hs
    · rename_i ht
      cases hs
      have okx := okA_int (hR.2.1 x List.mem_cons_self) ht
      have hR' : ∀ k', RelA G m A H0 (k', L, st0, σ) H locs ls := fun k' => hR.stk (fun a ha => hR.2.1 a (List.mem_cons_of_mem _ ha))
      have kk' := kk H locs ls (hR' _)
      simp only [List.map_cons, cv_0 ht]
      refine lv_if_ne (tgt := pcOf m v) hx hb hd hp (fun q => ?_) (fun q => ?_)
      · have q1 : (¬ x.2 = 0) := fun z => q (c_z ▸ (c_eq okx c_00).mpr z)
        simp only [q1, decide_true, if_true, ↓reduceIte, not_false_eq_true] at kk'
        exact kk'
      · have q1 : ¬ (¬ x.2 = 0) := fun z => z ((c_eq okx c_00).mp (c_z ▸ q))
        simp only [q1, decide_false, Bool.false_eq_true, ↓reduceIte, hnx] at kk'
        exact kk'
    · cases hs
  · cases hs
theorem sm_if_lt {off : Int} (C : CxA G X m A H0 p R s mi args c cells slots) (hd : decode (mC m) pc = .ok (.ifCond .lt off, len)) (hlen : len = lenI (.ifCond .lt off)) (hnx : pcOf m (k + 1) = pc + len) (hp : chkP m (pc, .ifCond .lt off, len, u, v, w, ts) = true) (hs : sBr1 (fun x => decide (x < 0)) v k L st σ = some c') (hR : RelA G m A H0 (k, L, st, σ) H locs ls)
    (kk : ∀ (H' : Heap) (locs' : List Loc) (ls' : Array Slot), RelA G m A H0 c' H' locs' ls' → W p l e R s mi args below meth c H' locs' cells slots Q (F0 mi (pcOf m c'.1) ls' (c'.2.2.1.map (cvA G)))) : W p l e R s mi args below meth c H locs cells slots Q (F0 mi pc ls (st.map (cvA G))) := by
  obtain ⟨hx, hb, -, hown, hts, -⟩ := C
  simp only [lenI] at hlen
  subst hlen
  simp only [chkP, jmp, decide_eq_true_eq] at hp
  unfold sBr1 at hs
  split at hs
  · rename_i x st0
    split at hs
    · rename_i ht
      cases hs
      have okx := okA_int (hR.2.1 x List.mem_cons_self) ht
      have hR' : ∀ k', RelA G m A H0 (k', L, st0, σ) H locs ls := fun k' => hR.stk (fun a ha => hR.2.1 a (List.mem_cons_of_mem _ ha))
      have kk' := kk H locs ls (hR' _)
      simp only [List.map_cons, cv_0 ht]
      refine lv_if_lt (tgt := pcOf m v) hx hb hd hp (fun q => ?_) (fun q => ?_)
      · have q1 : (x.2 < 0) := (c_lt okx c_00).mp (c_z ▸ q)
        simp only [q1, decide_true, if_true, ↓reduceIte] at kk'
        exact kk'
      · have q1 : ¬ (x.2 < 0) := fun z => q (c_z ▸ (c_lt okx c_00).mpr z)
        simp only [q1, decide_false, Bool.false_eq_true, ↓reduceIte, hnx] at kk'
        exact kk'
    · cases hs
  · cases hs
theorem sm_if_ge {off : Int} (C : CxA G X m A H0 p R s mi args c cells slots) (hd : decode (mC m) pc = .ok (.ifCond .ge off, len)) (hlen : len = lenI (.ifCond .ge off)) (hnx : pcOf m (k + 1) = pc + len) (hp : chkP m (pc, .ifCond .ge off, len, u, v, w, ts) = true) (hs : sBr1 (fun x => decide (0 ≤ x)) v k L st σ = some c') (hR : RelA G m A H0 (k, L, st, σ) H locs ls)
    (kk : ∀ (H' : Heap) (locs' : List Loc) (ls' : Array Slot), RelA G m A H0 c' H' locs' ls' → W p l e R s mi args below meth c H' locs' cells slots Q (F0 mi (pcOf m c'.1) ls' (c'.2.2.1.map (cvA G)))) : W p l e R s mi args below meth c H locs cells slots Q (F0 mi pc ls (st.map (cvA G))) := by
  obtain ⟨hx, hb, -, hown, hts, -⟩ := C
  simp only [lenI] at hlen
  subst hlen
  simp only [chkP, jmp, decide_eq_true_eq] at hp
  unfold sBr1 at hs
  split at hs
  · rename_i x st0
    split at hs
    · rename_i ht
      cases hs
      have okx := okA_int (hR.2.1 x List.mem_cons_self) ht
      have hR' : ∀ k', RelA G m A H0 (k', L, st0, σ) H locs ls := fun k' => hR.stk (fun a ha => hR.2.1 a (List.mem_cons_of_mem _ ha))
      have kk' := kk H locs ls (hR' _)
      simp only [List.map_cons, cv_0 ht]
      refine lv_if_ge (tgt := pcOf m v) hx hb hd hp (fun q => ?_) (fun q => ?_)
      · have q1 : (0 ≤ x.2) := (c_le c_00 okx).mp (c_z ▸ q)
        simp only [q1, decide_true, if_true, ↓reduceIte] at kk'
        exact kk'
      · have q1 : ¬ (0 ≤ x.2) := fun z => q (c_z ▸ (c_le c_00 okx).mpr z)
        simp only [q1, decide_false, Bool.false_eq_true, ↓reduceIte, hnx] at kk'
        exact kk'
    · cases hs
  · cases hs
theorem sm_if_gt {off : Int} (C : CxA G X m A H0 p R s mi args c cells slots) (hd : decode (mC m) pc = .ok (.ifCond .gt off, len)) (hlen : len = lenI (.ifCond .gt off)) (hnx : pcOf m (k + 1) = pc + len) (hp : chkP m (pc, .ifCond .gt off, len, u, v, w, ts) = true) (hs : sBr1 (fun x => decide (0 < x)) v k L st σ = some c') (hR : RelA G m A H0 (k, L, st, σ) H locs ls)
    (kk : ∀ (H' : Heap) (locs' : List Loc) (ls' : Array Slot), RelA G m A H0 c' H' locs' ls' → W p l e R s mi args below meth c H' locs' cells slots Q (F0 mi (pcOf m c'.1) ls' (c'.2.2.1.map (cvA G)))) : W p l e R s mi args below meth c H locs cells slots Q (F0 mi pc ls (st.map (cvA G))) := by
  obtain ⟨hx, hb, -, hown, hts, -⟩ := C
  simp only [lenI] at hlen
  subst hlen
  simp only [chkP, jmp, decide_eq_true_eq] at hp
  unfold sBr1 at hs
  split at hs
  · rename_i x st0
    split at hs
    · rename_i ht
      cases hs
      have okx := okA_int (hR.2.1 x List.mem_cons_self) ht
      have hR' : ∀ k', RelA G m A H0 (k', L, st0, σ) H locs ls := fun k' => hR.stk (fun a ha => hR.2.1 a (List.mem_cons_of_mem _ ha))
      have kk' := kk H locs ls (hR' _)
      simp only [List.map_cons, cv_0 ht]
      refine lv_if_gt (tgt := pcOf m v) hx hb hd hp (fun q => ?_) (fun q => ?_)
      · have q1 : (0 < x.2) := (c_lt c_00 okx).mp (c_z ▸ q)
        simp only [q1, decide_true, if_true, ↓reduceIte] at kk'
        exact kk'
      · have q1 : ¬ (0 < x.2) := fun z => q (c_z ▸ (c_lt c_00 okx).mpr z)
        simp only [q1, decide_false, Bool.false_eq_true, ↓reduceIte, hnx] at kk'
        exact kk'
    · cases hs
  · cases hs
theorem sm_if_le {off : Int} (C : CxA G X m A H0 p R s mi args c cells slots) (hd : decode (mC m) pc = .ok (.ifCond .le off, len)) (hlen : len = lenI (.ifCond .le off)) (hnx : pcOf m (k + 1) = pc + len) (hp : chkP m (pc, .ifCond .le off, len, u, v, w, ts) = true) (hs : sBr1 (fun x => decide (x ≤ 0)) v k L st σ = some c') (hR : RelA G m A H0 (k, L, st, σ) H locs ls)
    (kk : ∀ (H' : Heap) (locs' : List Loc) (ls' : Array Slot), RelA G m A H0 c' H' locs' ls' → W p l e R s mi args below meth c H' locs' cells slots Q (F0 mi (pcOf m c'.1) ls' (c'.2.2.1.map (cvA G)))) : W p l e R s mi args below meth c H locs cells slots Q (F0 mi pc ls (st.map (cvA G))) := by
  obtain ⟨hx, hb, -, hown, hts, -⟩ := C
  simp only [lenI] at hlen
  subst hlen
  simp only [chkP, jmp, decide_eq_true_eq] at hp
  unfold sBr1 at hs
  split at hs
  · rename_i x st0
    split at hs
    · rename_i ht
      cases hs
      have okx := okA_int (hR.2.1 x List.mem_cons_self) ht
      have hR' : ∀ k', RelA G m A H0 (k', L, st0, σ) H locs ls := fun k' => hR.stk (fun a ha => hR.2.1 a (List.mem_cons_of_mem _ ha))
      have kk' := kk H locs ls (hR' _)
      simp only [List.map_cons, cv_0 ht]
      refine lv_if_le (tgt := pcOf m v) hx hb hd hp (fun q => ?_) (fun q => ?_)
      · have q1 : (x.2 ≤ 0) := (c_le okx c_00).mp (c_z ▸ q)
        simp only [q1, decide_true, if_true, ↓reduceIte] at kk'
        exact kk'
      · have q1 : ¬ (x.2 ≤ 0) := fun z => q (c_z ▸ (c_le okx c_00).mpr z)
        simp only [q1, decide_false, Bool.false_eq_true, ↓reduceIte, hnx] at kk'
        exact kk'
    · cases hs
  · cases hs
theorem sm_ic_eq {off : Int} (C : CxA G X m A H0 p R s mi args c cells slots) (hd : decode (mC m) pc = .ok (.if_icmp .eq off, len)) (hlen : len = lenI (.if_icmp .eq off)) (hnx : pcOf m (k + 1) = pc + len) (hp : chkP m (pc, .if_icmp .eq off, len, u, v, w, ts) = true) (hs : sBr2 (fun x y => decide (x = y)) v k L st σ = some c') (hR : RelA G m A H0 (k, L, st, σ) H locs ls)
    (kk : ∀ (H' : Heap) (locs' : List Loc) (ls' : Array Slot), RelA G m A H0 c' H' locs' ls' → W p l e R s mi args below meth c H' locs' cells slots Q (F0 mi (pcOf m c'.1) ls' (c'.2.2.1.map (cvA G)))) : W p l e R s mi args below meth c H locs cells slots Q (F0 mi pc ls (st.map (cvA G))) := by
  obtain ⟨hx, hb, -, hown, hts, -⟩ := C
  simp only [lenI] at hlen
  subst hlen
  simp only [chkP, jmp, decide_eq_true_eq] at hp
  unfold sBr2 at hs
  split at hs
  · rename_i y x st0
    split at hs
    · rename_i ht
      cases hs
      have okx := okA_int (hR.2.1 x (List.mem_cons_of_mem _ List.mem_cons_self)) ht.1
      have oky := okA_int (hR.2.1 y List.mem_cons_self) ht.2
      have hR' : ∀ k', RelA G m A H0 (k', L, st0, σ) H locs ls := fun k' => hR.stk (fun a ha => hR.2.1 a (List.mem_cons_of_mem _ (List.mem_cons_of_mem _ ha)))
      have kk' := kk H locs ls (hR' _)
      simp only [List.map_cons, cv_0 ht.1, cv_0 ht.2]
      refine lv_icmp_eq (tgt := pcOf m v) hx hb hd hp (fun q => ?_) (fun q => ?_)
      · have q1 : (x.2 = y.2) := (c_eq okx oky).mp q
        simp only [q1, decide_true, if_true, ↓reduceIte] at kk'
        exact kk'
      · have q1 : ¬ (x.2 = y.2) := fun z => q ((c_eq okx oky).mpr z)
        simp only [q1, decide_false, Bool.false_eq_true, ↓reduceIte, hnx] at kk'
        exact kk'
    · cases hs
  · cases hs
theorem sm_ic_ne {off : Int} (C : CxA G X m A H0 p R s mi args c cells slots) (hd : decode (mC m) pc = .ok (.if_icmp .ne off, len)) (hlen : len = lenI (.if_icmp .ne off)) (hnx : pcOf m (k + 1) = pc + len) (hp : chkP m (pc, .if_icmp .ne off, len, u, v, w, ts) = true) (hs : sBr2 (fun x y => decide (¬ x = y)) v k L st σ = some c') (hR : RelA G m A H0 (k, L, st, σ) H locs ls)
    (kk : ∀ (H' : Heap) (locs' : List Loc) (ls' : Array Slot), RelA G m A H0 c' H' locs' ls' → W p l e R s mi args below meth c H' locs' cells slots Q (F0 mi (pcOf m c'.1) ls' (c'.2.2.1.map (cvA G)))) : W p l e R s mi args below meth c H locs cells slots Q (F0 mi pc ls (st.map (cvA G))) := by
  obtain ⟨hx, hb, -, hown, hts, -⟩ := C
  simp only [lenI] at hlen
  subst hlen
  simp only [chkP, jmp, decide_eq_true_eq] at hp
  unfold sBr2 at hs
  split at hs
  · rename_i y x st0
    split at hs
    · rename_i ht
      cases hs
      have okx := okA_int (hR.2.1 x (List.mem_cons_of_mem _ List.mem_cons_self)) ht.1
      have oky := okA_int (hR.2.1 y List.mem_cons_self) ht.2
      have hR' : ∀ k', RelA G m A H0 (k', L, st0, σ) H locs ls := fun k' => hR.stk (fun a ha => hR.2.1 a (List.mem_cons_of_mem _ (List.mem_cons_of_mem _ ha)))
      have kk' := kk H locs ls (hR' _)
      simp only [List.map_cons, cv_0 ht.1, cv_0 ht.2]
      refine lv_icmp_ne (tgt := pcOf m v) hx hb hd hp (fun q => ?_) (fun q => ?_)
      · have q1 : (¬ x.2 = y.2) := fun z => q ((c_eq okx oky).mpr z)
        simp only [q1, decide_true, if_true, ↓reduceIte, not_false_eq_true] at kk'
        exact kk'
      · have q1 : ¬ (¬ x.2 = y.2) := fun z => z ((c_eq okx oky).mp q)
        simp only [q1, decide_false, Bool.false_eq_true, ↓reduceIte, hnx] at kk'
        exact kk'
    · cases hs
  · cases hs
theorem sm_ic_lt {off : Int} (C : CxA G X m A H0 p R s mi args c cells slots) (hd : decode (mC m) pc = .ok (.if_icmp .lt off, len)) (hlen : len = lenI (.if_icmp .lt off)) (hnx : pcOf m (k + 1) = pc + len) (hp : chkP m (pc, .if_icmp .lt off, len, u, v, w, ts) = true) (hs : sBr2 (fun x y => decide (x < y)) v k L st σ = some c') (hR : RelA G m A H0 (k, L, st, σ) H locs ls)
    (kk : ∀ (H' : Heap) (locs' : List Loc) (ls' : Array Slot), RelA G m A H0 c' H' locs' ls' → W p l e R s mi args below meth c H' locs' cells slots Q (F0 mi (pcOf m c'.1) ls' (c'.2.2.1.map (cvA G)))) : W p l e R s mi args below meth c H locs cells slots Q (F0 mi pc ls (st.map (cvA G))) := by
  obtain ⟨hx, hb, -, hown, hts, -⟩ := C
  simp only [lenI] at hlen
  subst hlen
  simp only [chkP, jmp, decide_eq_true_eq] at hp
  unfold sBr2 at hs
  split at hs
  · rename_i y x st0
    split at hs
    · rename_i ht
      cases hs
      have okx := okA_int (hR.2.1 x (List.mem_cons_of_mem _ List.mem_cons_self)) ht.1
      have oky := okA_int (hR.2.1 y List.mem_cons_self) ht.2
      have hR' : ∀ k', RelA G m A H0 (k', L, st0, σ) H locs ls := fun k' => hR.stk (fun a ha => hR.2.1 a (List.mem_cons_of_mem _ (List.mem_cons_of_mem _ ha)))
      have kk' := kk H locs ls (hR' _)
      simp only [List.map_cons, cv_0 ht.1, cv_0 ht.2]
      refine lv_icmp_lt (tgt := pcOf m v) hx hb hd hp (fun q => ?_) (fun q => ?_)
      · have q1 : (x.2 < y.2) := (c_lt okx oky).mp q
        simp only [q1, decide_true, if_true, ↓reduceIte] at kk'
        exact kk'
      · have q1 : ¬ (x.2 < y.2) := fun z => q ((c_lt okx oky).mpr z)
        simp only [q1, decide_false, Bool.false_eq_true, ↓reduceIte, hnx] at kk'
        exact kk'
    · cases hs
  · cases hs
theorem sm_ic_ge {off : Int} (C : CxA G X m A H0 p R s mi args c cells slots) (hd : decode (mC m) pc = .ok (.if_icmp .ge off, len)) (hlen : len = lenI (.if_icmp .ge off)) (hnx : pcOf m (k + 1) = pc + len) (hp : chkP m (pc, .if_icmp .ge off, len, u, v, w, ts) = true) (hs : sBr2 (fun x y => decide (y ≤ x)) v k L st σ = some c') (hR : RelA G m A H0 (k, L, st, σ) H locs ls)
    (kk : ∀ (H' : Heap) (locs' : List Loc) (ls' : Array Slot), RelA G m A H0 c' H' locs' ls' → W p l e R s mi args below meth c H' locs' cells slots Q (F0 mi (pcOf m c'.1) ls' (c'.2.2.1.map (cvA G)))) : W p l e R s mi args below meth c H locs cells slots Q (F0 mi pc ls (st.map (cvA G))) := by
  obtain ⟨hx, hb, -, hown, hts, -⟩ := C
  simp only [lenI] at hlen
  subst hlen
  simp only [chkP, jmp, decide_eq_true_eq] at hp
  unfold sBr2 at hs
  split at hs
  · rename_i y x st0
    split at hs
    · rename_i ht
      cases hs
      have okx := okA_int (hR.2.1 x (List.mem_cons_of_mem _ List.mem_cons_self)) ht.1
      have oky := okA_int (hR.2.1 y List.mem_cons_self) ht.2
      have hR' : ∀ k', RelA G m A H0 (k', L, st0, σ) H locs ls := fun k' => hR.stk (fun a ha => hR.2.1 a (List.mem_cons_of_mem _ (List.mem_cons_of_mem _ ha)))
      have kk' := kk H locs ls (hR' _)
      simp only [List.map_cons, cv_0 ht.1, cv_0 ht.2]
      refine lv_icmp_ge (tgt := pcOf m v) hx hb hd hp (fun q => ?_) (fun q => ?_)
      · have q1 : (y.2 ≤ x.2) := (c_le oky okx).mp q
        simp only [q1, decide_true, if_true, ↓reduceIte] at kk'
        exact kk'
      · have q1 : ¬ (y.2 ≤ x.2) := fun z => q ((c_le oky okx).mpr z)
        simp only [q1, decide_false, Bool.false_eq_true, ↓reduceIte, hnx] at kk'
        exact kk'
    · cases hs
  · cases hs
theorem sm_ic_gt {off : Int} (C : CxA G X m A H0 p R s mi args c cells slots) (hd : decode (mC m) pc = .ok (.if_icmp .gt off, len)) (hlen : len = lenI (.if_icmp .gt off)) (hnx : pcOf m (k + 1) = pc + len) (hp : chkP m (pc, .if_icmp .gt off, len, u, v, w, ts) = true) (hs : sBr2 (fun x y => decide (y < x)) v k L st σ = some c') (hR : RelA G m A H0 (k, L, st, σ) H locs ls)
    (kk : ∀ (H' : Heap) (locs' : List Loc) (ls' : Array Slot), RelA G m A H0 c' H' locs' ls' → W p l e R s mi args below meth c H' locs' cells slots Q (F0 mi (pcOf m c'.1) ls' (c'.2.2.1.map (cvA G)))) : W p l e R s mi args below meth c H locs cells slots Q (F0 mi pc ls (st.map (cvA G))) := by
  obtain ⟨hx, hb, -, hown, hts, -⟩ := C
  simp only [lenI] at hlen
  subst hlen
  simp only [chkP, jmp, decide_eq_true_eq] at hp
  unfold sBr2 at hs
  split at hs
  · rename_i y x st0
    split at hs
    · rename_i ht
      cases hs
      have okx := okA_int (hR.2.1 x (List.mem_cons_of_mem _ List.mem_cons_self)) ht.1
      have oky := okA_int (hR.2.1 y List.mem_cons_self) ht.2
      have hR' : ∀ k', RelA G m A H0 (k', L, st0, σ) H locs ls := fun k' => hR.stk (fun a ha => hR.2.1 a (List.mem_cons_of_mem _ (List.mem_cons_of_mem _ ha)))
      have kk' := kk H locs ls (hR' _)
      simp only [List.map_cons, cv_0 ht.1, cv_0 ht.2]
      refine lv_icmp_gt (tgt := pcOf m v) hx hb hd hp (fun q => ?_) (fun q => ?_)
      · have q1 : (y.2 < x.2) := (c_lt oky okx).mp q
        simp only [q1, decide_true, if_true, ↓reduceIte] at kk'
        exact kk'
      · have q1 : ¬ (y.2 < x.2) := fun z => q ((c_lt oky okx).mpr z)
        simp only [q1, decide_false, Bool.false_eq_true, ↓reduceIte, hnx] at kk'
        exact kk'
    · cases hs
  · cases hs
theorem sm_ic_le {off : Int} (C : CxA G X m A H0 p R s mi args c cells slots) (hd : decode (mC m) pc = .ok (.if_icmp .le off, len)) (hlen : len = lenI (.if_icmp .le off)) (hnx : pcOf m (k + 1) = pc + len) (hp : chkP m (pc, .if_icmp .le off, len, u, v, w, ts) = true) (hs : sBr2 (fun x y => decide (x ≤ y)) v k L st σ = some c') (hR : RelA G m A H0 (k, L, st, σ) H locs ls)
    (kk : ∀ (H' : Heap) (locs' : List Loc) (ls' : Array Slot), RelA G m A H0 c' H' locs' ls' → W p l e R s mi args below meth c H' locs' cells slots Q (F0 mi (pcOf m c'.1) ls' (c'.2.2.1.map (cvA G)))) : W p l e R s mi args below meth c H locs cells slots Q (F0 mi pc ls (st.map (cvA G))) := by
  obtain ⟨hx, hb, -, hown, hts, -⟩ := C
  simp only [lenI] at hlen
  subst hlen
  simp only [chkP, jmp, decide_eq_true_eq] at hp
  unfold sBr2 at hs
  split at hs
  · rename_i y x st0
    split at hs
    · rename_i ht
      cases hs
      have okx := okA_int (hR.2.1 x (List.mem_cons_of_mem _ List.mem_cons_self)) ht.1
      have oky := okA_int (hR.2.1 y List.mem_cons_self) ht.2
      have hR' : ∀ k', RelA G m A H0 (k', L, st0, σ) H locs ls := fun k' => hR.stk (fun a ha => hR.2.1 a (List.mem_cons_of_mem _ (List.mem_cons_of_mem _ ha)))
      have kk' := kk H locs ls (hR' _)
      simp only [List.map_cons, cv_0 ht.1, cv_0 ht.2]
      refine lv_icmp_le (tgt := pcOf m v) hx hb hd hp (fun q => ?_) (fun q => ?_)
      · have q1 : (x.2 ≤ y.2) := (c_le okx oky).mp q
        simp only [q1, decide_true, if_true, ↓reduceIte] at kk'
        exact kk'
      · have q1 : ¬ (x.2 ≤ y.2) := fun z => q ((c_le okx oky).mpr z)
        simp only [q1, decide_false, Bool.false_eq_true, ↓reduceIte, hnx] at kk'
        exact kk'
    · cases hs
  · cases hs
theorem sm_table {d lo hi : Int} {offs : Array Int} (C : CxA G X m A H0 p R s mi args c cells slots) (hd : decode (mC m) pc = .ok (.tableswitch d lo hi offs, len)) (hlen : True) (hnx : True ∨ pcOf m (k + 1) = pc + len) (hp : chkP m (pc, .tableswitch d lo hi offs, len, u, v, w, ts) = true) (hs : sSw ts v k L st σ = some c') (hR : RelA G m A H0 (k, L, st, σ) H locs ls)
    (kk : ∀ (H' : Heap) (locs' : List Loc) (ls' : Array Slot), RelA G m A H0 c' H' locs' ls' → W p l e R s mi args below meth c H' locs' cells slots Q (F0 mi (pcOf m c'.1) ls' (c'.2.2.1.map (cvA G)))) : W p l e R s mi args below meth c H locs cells slots Q (F0 mi pc ls (st.map (cvA G))) := by
  obtain ⟨hx, hb, -, hown, hts, -⟩ := C
  simp only [chkP, jmp, decide_eq_true_eq, Bool.and_eq_true] at hp
  obtain ⟨⟨hp1, hp2⟩, hp3⟩ := hp
  unfold sSw at hs
  split at hs
  · rename_i x st0
    split at hs
    · rename_i ht
      cases hs
      have okx := okA_int (hR.2.1 x List.mem_cons_self) ht
      have kk' := kk H locs ls (hR.stk (fun a ha => hR.2.1 a (List.mem_cons_of_mem _ ha)))
      simp only [List.map_cons, cv_0 ht]
      obtain ⟨g1, g2⟩ := sw_tab (d := v) x.2 offs.toList lo ts hp3
      by_cases hq : x.2 < lo ∨ hi < x.2
      · refine lv_tableOut (tgt := pcOf m v) hx hb hd (by rw [okx]; exact hq) hp1 ?_
        have := g1 (by rcases hq with h | h
                       · exact Or.inl h
                       · right; simp; omega)
        simp only [this] at kk'
        exact kk'
      · obtain ⟨off, j1, j2⟩ := g2 (by omega) (by simp; omega)
        refine lv_tableIn (tgt := pcOf m (swOf ts v x.2)) hx hb hd (by rw [okx]; omega) (by rw [okx]; omega) (off := off) (by rw [okx]; simpa using j1) j2 ?_
        exact kk'
    · cases hs
  · cases hs
theorem sm_lookup {d : Int} {ps : Array (Int × Int)} (C : CxA G X m A H0 p R s mi args c cells slots) (hd : decode (mC m) pc = .ok (.lookupswitch d ps, len)) (hlen : True) (hnx : True ∨ pcOf m (k + 1) = pc + len) (hp : chkP m (pc, .lookupswitch d ps, len, u, v, w, ts) = true) (hs : sSw ts v k L st σ = some c') (hR : RelA G m A H0 (k, L, st, σ) H locs ls)
    (kk : ∀ (H' : Heap) (locs' : List Loc) (ls' : Array Slot), RelA G m A H0 c' H' locs' ls' → W p l e R s mi args below meth c H' locs' cells slots Q (F0 mi (pcOf m c'.1) ls' (c'.2.2.1.map (cvA G)))) : W p l e R s mi args below meth c H locs cells slots Q (F0 mi pc ls (st.map (cvA G))) := by
  obtain ⟨hx, hb, -, hown, hts, -⟩ := C
  simp only [chkP, jmp, decide_eq_true_eq, Bool.and_eq_true] at hp
  obtain ⟨⟨hp1, hp2⟩, hp3⟩ := hp
  unfold sSw at hs
  split at hs
  · rename_i x st0
    split at hs
    · rename_i ht
      cases hs
      have okx := okA_int (hR.2.1 x List.mem_cons_self) ht
      have kk' := kk H locs ls (hR.stk (fun a ha => hR.2.1 a (List.mem_cons_of_mem _ ha)))
      simp only [List.map_cons, cv_0 ht]
      refine lv_lookup (tgt := pcOf m (swOf ts v x.2)) hx hb hd hp2 rfl (by rw [okx]; exact sw_look x.2 hp1 ps.toList ts hp3) ?_
      exact kk'
    · cases hs
  · cases hs
theorem sm_ifnull {off : Int} (C : CxA G X m A H0 p R s mi args c cells slots) (hd : decode (mC m) pc = .ok (.ifnull off, len)) (hlen : len = lenI (.ifnull off)) (hnx : pcOf m (k + 1) = pc + len) (hp : chkP m (pc, .ifnull off, len, u, v, w, ts) = true) (hs : sNull (k + 1) k L st σ = some c') (hR : RelA G m A H0 (k, L, st, σ) H locs ls)
    (kk : ∀ (H' : Heap) (locs' : List Loc) (ls' : Array Slot), RelA G m A H0 c' H' locs' ls' → W p l e R s mi args below meth c H' locs' cells slots Q (F0 mi (pcOf m c'.1) ls' (c'.2.2.1.map (cvA G)))) : W p l e R s mi args below meth c H locs cells slots Q (F0 mi pc ls (st.map (cvA G))) := by
  obtain ⟨hx, hb, -, hown, hts, -⟩ := C
  simp only [lenI] at hlen
  subst hlen
  simp only [chkP, jmp, decide_eq_true_eq] at hp
  unfold sNull at hs
  split at hs
  · rename_i x st0
    split at hs
    · rename_i ht
      cases hs
      have kk' := kk H locs ls (hR.stk (fun a ha => hR.2.1 a (List.mem_cons_of_mem _ ha)))
      simp only [List.map_cons, cv_2 ht]
      rw [hnx] at kk'
      exact lv_ifnull hx hb hd kk'
    · cases hs
  · cases hs
theorem sm_ifnonnull {off : Int} (C : CxA G X m A H0 p R s mi args c cells slots) (hd : decode (mC m) pc = .ok (.ifnonnull off, len)) (hlen : len = lenI (.ifnonnull off)) (hnx : pcOf m (k + 1) = pc + len) (hp : chkP m (pc, .ifnonnull off, len, u, v, w, ts) = true) (hs : sNull v k L st σ = some c') (hR : RelA G m A H0 (k, L, st, σ) H locs ls)
    (kk : ∀ (H' : Heap) (locs' : List Loc) (ls' : Array Slot), RelA G m A H0 c' H' locs' ls' → W p l e R s mi args below meth c H' locs' cells slots Q (F0 mi (pcOf m c'.1) ls' (c'.2.2.1.map (cvA G)))) : W p l e R s mi args below meth c H locs cells slots Q (F0 mi pc ls (st.map (cvA G))) := by
  obtain ⟨hx, hb, -, hown, hts, -⟩ := C
  simp only [lenI] at hlen
  subst hlen
  simp only [chkP, jmp, decide_eq_true_eq] at hp
  unfold sNull at hs
  split at hs
  · rename_i x st0
    split at hs
    · rename_i ht
      cases hs
      have kk' := kk H locs ls (hR.stk (fun a ha => hR.2.1 a (List.mem_cons_of_mem _ ha)))
      simp only [List.map_cons, cv_2 ht]
      exact lv_ifnonnull (tgt := pcOf m v) hx hb hd hp kk'
    · cases hs
  · cases hs
end SimB
