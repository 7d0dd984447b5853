/-! The whole of a run: calls by the callees' contracts. -/
/-- what is still to be shown of Tokens.ownWord -/
def OwnMet (l : Launch) : Prop := ∀ (G : Geo) (vs : List AV) (σ : AH) (r : Option AV × AH), ownA vs σ = some r → (∀ a ∈ vs, okA OWN a) → okH σ → Met l (mY OWN) (wsM OWN) (rmM OWN) (PcA G vs σ) (QcA G r.1 r.2) 0 0 (AA G)
theorem chk_at (CK : CKd) {m k : Nat} {en : Ent} (hm : m < NM) (he : (cod m)[k]? = some en) : chkE m k en = true := by
  have := chkL_at (cod m) 0 k en (CK m hm) he
  rwa [Nat.zero_add] at this
theorem pcOf_at {m k : Nat} {en : Ent} (he : (cod m)[k]? = some en) : pcOf m k = en.1 := by
  unfold pcOf
  rw [List.getD_eq_getElem?_getD, he]
  rfl
section SimM
variable {p : Program} {l : Launch} {e : Env} {R : Room} {s : State} {mi : MethodId} {args : Array Value} {below : List Frame} {meth : Method} {c : Code} {H : Heap} {locs : List Loc}
variable {G : Geo} {X : AX} {m : Nat} {ls : Array Slot}
theorem retMet {c1 : ACfg} {en : Ent} {r : Option AV} (hx : p.tables.exec = Jvm.exec) (hb : c.code = mC m) (hr : meth.sig.returnType = mR m) (hlocks : meth.locks = false) (hm : m < NM) (hm2 : m ≠ LAW) (hE : chkE m c1.1 en = true) (ht : retA m en.2.1 c1.2.2.1 = some r) (hR : RelA G m (AA G) s.heap c1 H locs ls) :
    W p l e R s mi args below meth c H locs 0 0 (MQ below (QcA G r c1.2.2.2) args s 0 0 (AA G)) (F0 mi en.1 ls (c1.2.2.1.map (cvA G))) := by
  obtain ⟨pc, ins, len, u, v, w, ts⟩ := en
  obtain ⟨k, L, st, σ⟩ := c1
  simp only [chkE, Bool.and_eq_true, decide_eq_true_eq] at hE
  obtain ⟨⟨⟨hd, hl⟩, hn⟩, hp⟩ := hE
  have hmo := mOk_at hm hm2
  simp only [mOk, Bool.and_eq_true, decide_eq_true_eq] at hmo
  obtain ⟨⟨⟨⟨⟨⟨⟨⟨⟨⟨⟨⟨⟨⟨-, -⟩, -⟩, -⟩, -⟩, -⟩, -⟩, m0⟩, m4⟩, m1⟩, m9⟩, m2⟩, -⟩, -⟩, -⟩ := hmo
  dsimp only at ht hd hl
  have fin : ∀ (t : State), t.heap = H → (∀ a, r = some a → okA 0 a) → QcA G r σ args s (.returned (r.map (cvA G))) t := fun t h1 h2 => ⟨rfl, hR.1, h2, by rw [h1]; exact hR.2.2.2.1, hR.2.2.2.2.2.F h1⟩
  unfold retA at ht
  split at ht
  · split at ht
    · rename_i x
      split at ht
      · rename_i h
        cases ht
        have hlen : len = 1 := by simpa [isSw, lenI] using hl
        subst hlen
        have okx := hR.2.1 x List.mem_cons_self
        have h0 : ∀ a, some x = some a → okA 0 a := fun a ha => by cases ha; exact okA_m okx (by rw [h.1]; decide)
        simp only [List.map_cons, List.map_nil, cv_0 h.1]
        rcases h.2 with h2 | ⟨h2, h3⟩
        · refine W.iret hx hb (by rw [hr]; exact m0 h2) (fun t h1 _ => ?_) hR.2.2.2.2.2.2.2 hd hlocks
          have := fin t h1 h0
          simp only [Option.map_some, cv_0 h.1] at this
          exact this
        · refine W.zret (ty := .boolean) hx hb (by rw [hr]; exact m4 h2) (by rcases h3 with h3 | h3 <;> rw [h3] <;> decide) (fun t h1 _ => ?_) hR.2.2.2.2.2.2.2 hd hlocks
          have := fin t h1 h0
          simp only [Option.map_some, cv_0 h.1] at this
          exact this
      · cases ht
    · cases ht
  · split at ht
    · rename_i x
      split at ht
      · rename_i h
        cases ht
        have hlen : len = 1 := by simpa [isSw, lenI] using hl
        subst hlen
        have okx := hR.2.1 x List.mem_cons_self
        have h0 : ∀ a, some x = some a → okA 0 a := fun a ha => by cases ha; exact okA_m okx (by rw [h.1]; decide)
        simp only [List.map_cons, List.map_nil, cv_1 h.1]
        refine W.lret hx hb (by rw [hr]; exact m1 h.2) (fun t h1 _ => ?_) hR.2.2.2.2.2.2.2 hd hlocks
        have := fin t h1 h0
        simp only [Option.map_some, cv_1 h.1] at this
        exact this
      · cases ht
    · cases ht
  · split at ht
    · rename_i x
      split at ht
      · rename_i h
        cases ht
        have hlen : len = 1 := by simpa [isSw, lenI] using hl
        subst hlen
        have okx := hR.2.1 x List.mem_cons_self
        have h0 : ∀ a, some x = some a → okA 0 a := fun a ha => by cases ha; exact okA_m okx (by rw [h.1]; decide)
        have h2 := m2 h.2
        simp only [List.map_cons, List.map_nil, cv_2 h.1]
        have go : ∀ rt, mR m = some rt → ((∃ n, rt = .object n) ∨ ∃ t, rt = .array t) → W p l e R s mi args below meth c H locs 0 0 (MQ below (QcA G (some x) σ) args s 0 0 (AA G)) (F0 mi pc ls [.ref (G.2.2.1 x.2.toNat)]) := fun rt h3 h4 => by
          refine W.aret hx hb (hr.trans h3) h4 (Or.inr ⟨_, rfl⟩) (fun t h1 _ => ?_) hR.2.2.2.2.2.2.2 hd hlocks
          have := fin t h1 h0
          simp only [Option.map_some, cv_2 h.1] at this
          exact this
        split at h2
        · rename_i n h3
          exact go _ h3 (Or.inl ⟨_, rfl⟩)
        · rename_i n h3
          exact go _ h3 (Or.inr ⟨_, rfl⟩)
        · cases h2
      · cases ht
    · cases ht
  · split at ht
    · split at ht
      · rename_i h
        cases ht
        have hlen : len = 1 := by simpa [isSw, lenI] using hl
        subst hlen
        refine W.vret hx hb (by rw [hr]; exact m9 h) (fun t h1 _ => fin t h1 (fun a ha => by cases ha)) hR.2.2.2.2.2.2.2 hd hlocks
      · cases ht
    · cases ht
  · cases ht
end SimM
/-- what holds where a run ends -/
def RetK (l : Launch) (p : Program) (e : Env) (R : Room) (s : State) (mi : MethodId) (args : Array Value) (below : List Frame) (meth : Method) (c : Code) (cells slots : Nat) (Q : State → Prop) (G : Geo) (m : Nat) (A : Nat → Prop) (H0 : Heap) (r : Option AV × AH) : Prop :=
  ∀ (c1 : ACfg) (en : Ent) (H' : Heap) (locs' : List Loc) (ls' : Array Slot), chkE m c1.1 en = true → retA m en.2.1 c1.2.2.1 = some r.1 → c1.2.2.2 = r.2 → RelA G m A H0 c1 H' locs' ls' → W p l e R s mi args below meth c H' locs' cells slots Q (F0 mi en.1 ls' (c1.2.2.1.map (cvA G)))
def SimN (l : Launch) (X : AX) (n : Nat) : Prop := ∀ {m : Nat} {c0 : ACfg} {r : Option AV × AH}, m < NM → run X n m c0 = some r → ∀ {p : Program} {e : Env} {R : Room} {s : State} {mi : MethodId} {args : Array Value} {below : List Frame} {meth : Method} {c : Code} {H : Heap} {locs : List Loc} {cells slots : Nat} {Q : State → Prop} {G : Geo} {A : Nat → Prop} {H0 : Heap} {ls : Array Slot},
  CxA G X m A H0 p R s mi args c cells slots → RelA G m A H0 c0 H locs ls → (∀ q, AA G q → A q) → RetK l p e R s mi args below meth c cells slots Q G m A H0 r → W p l e R s mi args below meth c H locs cells slots Q (F0 mi (pcOf m c0.1) ls (c0.2.2.1.map (cvA G)))
theorem blind {G : Geo} {vs : List AV} {σ : AH} : FrameBlind (PcA G vs σ) := fun a U g mk q => by
  obtain ⟨q0, qP, qK, qD, qN, qE⟩ := q
  exact ⟨q0, qP, va_K.moved (u := U) (U := U.calling g mk a) (Vm.Alike.refl U.vm) qK, qD, fun e he => va_Nw.same (u := U) (U := U.calling g mk a) rfl rfl (qN e he), ExA.same (s := U) (U := U.calling g mk a) rfl qE⟩
theorem met_of {l : Launch} {X : AX} {n : Nat} (IH : SimN l X n) {u : Nat} {vs : List AV} {σ : AH} {r : Option AV × AH} (hu : u < NM) (hu2 : u ≠ LAW) (hrun : run X n u (0, aEnt u vs, [], σ) = some r) (hok : ∀ a ∈ vs, okA u a) (hpa : vs.map Prod.fst = mPa u) (hσ : okH σ) (G : Geo) : Met l (mY u) (wsM u) (rmM u) (PcA G vs σ) (QcA G r.1 r.2) 0 0 (AA G) := by
  have hmo := mOk_at hu hu2
  simp only [mOk, Bool.and_eq_true, decide_eq_true_eq] at hmo
  obtain ⟨⟨⟨⟨⟨⟨⟨⟨⟨⟨⟨⟨⟨⟨-, o2⟩, -⟩, -⟩, o5⟩, -⟩, o7⟩, -⟩, -⟩, -⟩, -⟩, -⟩, o13⟩, -⟩, -⟩ := hmo
  refine Met.ofW (cc := mC u) (maxL := mL u) (ret := mR u) o5 rfl ?_
  intro p e s mi args below meth c s₁ B hml hv
  obtain ⟨rfl, hP, hK, hD, hN, hEx⟩ := hv
  have hts := atoms_spec (ws := wsM u) B.pre
  have hown : s.vm.findClass (mY u).cls = some mi.cls := findClass_of_methodNamed B.named
  rw [o2] at hown
  rw [lg_entry_eq]
  have C : CxA G X u (AA G) s.heap p (headSpec (wsM u) (rmM u)).room s mi ((vs.map (cvA G)).toArray) c 0 0 :=
    ⟨B.exec, B.bytes, hml, hown, fun w hw => hts w (List.mem_cons_of_mem _ hw), Nat.le_refl _, Nat.le_refl _, hK, hN, Nat.le_refl _, Nat.le_refl _, fun h => absurd h hu2, hEx⟩
  have hRel : RelA G u (AA G) s.heap (0, aEnt u vs, [], σ) s.heap [] ((lg_sl (vs.map (cvA G)) ++ List.replicate (mL u - (lg_sl (vs.map (cvA G))).length) Slot.unset).toArray) :=
    ⟨hσ, fun a ha => (by cases ha), lcA_entry hok (by rw [exp_len2 vs _ hpa]; exact o7), hP, wld_D hD (fun k hk => ⟨k, hk, rfl⟩), va_S.rf⟩
  have := IH hu hrun (e := e) (below := below) (meth := meth) (Q := MQ below (QcA G r.1 r.2) ((vs.map (cvA G)).toArray) s 0 0 (AA G)) C hRel (fun q h => h) (fun c1 en H' locs' ls' h1 h2 h3 h4 => by
    rw [← h3]
    exact retMet B.exec B.bytes B.returns B.notSynchronized hu hu2 h1 h2 h4)
  rw [show pcOf u ((0, aEnt u vs, [], σ) : ACfg).1 = 0 from o13] at this
  exact this
