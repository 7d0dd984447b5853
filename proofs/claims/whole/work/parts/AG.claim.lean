/-! THE CLAIM OUT OF ONE WALK OF THE LAW'S BODY. Your part is whole_start (and what it stands on); all else here is the same for every law, but numbers. -/
def R_law : String := "BornAboardLaw"
def lw_P (b : Addr) (xs : List Int32) (args : Array Value) (s : State) : Prop := args = #[.ref b] ∧ s.IntsAt b xs ∧ xs.length ≤ 3072 ∧ (Jvm.Cond.and given_1 narrow_1).before args s = true
def lw_Q (_ : Array Value) (s : State) (o : Outcome) (t : State) : Prop := o = .returned (some (.int 1)) ∧ Framed s o t [] 600000 7302250
def lw_Z (below : List Frame) (a : Array Value) (s : State) : State → Prop := fun t => ∃ o, t.status = .running ∧ Ended t below o ∧ lw_Q a s o t
/-- the law's own end, with 1 on the stack, nothing written that was there before, its room as the claim has it -/
theorem lw_ret {p : Program} {l : Launch} {e : Env} {s : State} {m : MethodId} {below : List Frame} {meth : Method} {c : Code} {b : Nat} (hx : p.tables.exec = Jvm.exec) (hb : c.code = code) (hr : meth.sig.returnType = ret) (hlocks : meth.locks = false) {pc : Nat} {H : Heap} {ls : Array Slot} (hdg : decode code pc = .ok (.ireturn, 1)) : W p l e room_1 s m #[Value.ref b] below meth c H [] 600000 7302250 (lw_Z below #[Value.ref b] s) (F0 m pc ls [.int 1]) := by
  intro T hT X
  obtain ⟨fs, hret, hrun, hended, hW, hframe⟩ := X.leave (v := some (.int 1)) (hlocks := hlocks) (fun h => by rw [hr] at h; cases h)
  have hmeth' : T.vm.method? m = some meth := X.method'
  refine ⟨T.setFrames fs, ?_, .returned (some (.int 1)), hrun, hended, rfl, ⟨_, rfl⟩, hW, hframe⟩
  jvm_step X.here [X.here.top, hx, hb, hdg, hmeth', hr, ret, narrow_b1]
  (try refine ⟨rfl, ?_⟩); (try refine ⟨rfl, ?_⟩)
  first | (intro acts; rw [hret _ acts rfl rfl rfl]) | rw [hret _ _ rfl rfl rfl]
  exact Steps.refl _
/-- what holds at the law's entry: the machine, the code, the tables' words (any of lw_tbl by 'hts w (by decide +kernel)'), the script of L ints xs at the cell b, what the Statement gives of the start (any of its parts by flat_of_before) -/
def lw_At (p : Program) (s : State) (m : MethodId) (meth : Method) (c : Code) (b L : Nat) (xs : Nat → Int32) : Prop :=
  p.tables.exec = Jvm.exec ∧ c.code = code ∧ meth.sig.returnType = ret ∧ c.maxLocals = 4 ∧ s.vm.findClass R_law = some m.cls ∧ (∀ w ∈ lw_tbl, w.before #[Value.ref b] s = true) ∧ va_X b L xs s s.heap ∧ b < s.heap.size ∧ meth.locks = false ∧ (Jvm.Cond.and given_1 narrow_1).before #[Value.ref b] s = true
theorem whole_geo {s : State} {b : Nat} (hts0 : ∀ w ∈ lw_tbl, w.before #[Value.ref b] s = true) : ∃ G : Geo, va_K G.1 vwCl (tysG G) s ∧ (∀ k, G.2.2.1 k = s.heap.size + k) ∧ G.2.2.2 = b := by
  have hts : ∀ w ∈ GC, w.before #[Value.ref b] s = true := fun w hw => hts0 w (GC_tbl hw)
  have hcls : ∀ c : Nat, ∃ q : ClassId × (Nat → Nat), c < 12 → u_Kn s (clR c) (clT c) (nf c) q.1 q.2 := fun c => by
    by_cases h : c < 12
    · obtain ⟨cC, iS, hk⟩ := u_known (C := clR c) (T := clT c) (N := nf c) (n := nf c) hts (fun w hw => GT_GC (cl_in c h w hw)) (hts _ (is_in c h))
      exact ⟨(cC, iS), fun _ => hk⟩
    · exact ⟨(0, fun _ => 0), fun h2 => absurd h2 h⟩
  obtain ⟨D, hD⟩ := Classical.axiomOfChoice hcls
  obtain ⟨cI, kI, compI, i1, i2, i3⟩ := Cond.arrayClass_spec (hts _ gx_ai)
  obtain ⟨cJ, kJ, compJ, j1, j2, j3⟩ := Cond.arrayClass_spec (hts _ gx_aj)
  obtain ⟨cZ, kZ, compZ, z1, z2, z3⟩ := Cond.arrayClass_spec (hts _ gx_az)
  obtain ⟨compP, cP, kP, p1, p2, p3, p4, p5⟩ := Cond.arrayOver_spec (hts0 _ ao_p)
  obtain ⟨compA, cA, kA, a1, a2, a3, a4, a5⟩ := arrayOverA_spec (hts0 _ ao_i)
  refine ⟨((fun c => (D c).1, fun c => (D c).2), fun t => if t = 20 then cI else if t = 21 then cJ else if t = 22 then cZ else if t = 23 then cP else cA, fun k => s.heap.size + k, b), ⟨fun c q hq => ?_, fun k q hk => ?_⟩, fun k => rfl, rfl⟩
  · have hc : c < 12 := by
      have h := (List.getElem?_eq_some_iff.mp hq).1
      exact h
    rw [cl_at c hc] at hq
    cases hq
    exact hD c hc
  · match k, hk with
    | 0, hk => cases hk; exact ⟨fun n z => ⟨(fun k h => by cases h), kI, i2, compI, i3⟩, i1⟩
    | 1, hk => cases hk; exact ⟨fun n z => ⟨(fun k h => by cases h), kJ, j2, compJ, j3⟩, j1⟩
    | 2, hk => cases hk; exact ⟨fun n z => ⟨(fun k h => by cases h), kZ, z2, compZ, z3⟩, z1⟩
    | 3, hk => cases hk; exact ⟨fun n z => ⟨(fun k h => by cases h), kP, p3, compP, p4⟩, kP, compP, p3, p4, p1, p5⟩
    | 4, hk => cases hk; exact ⟨fun n z => ⟨(fun k h => by cases h), kA, a3, compA, a4⟩, a5⟩
    | k + 5, hk => simp [tysG] at hk
set_option maxRecDepth 100000 in
set_option maxHeartbeats 4000000 in
/-- from the entry, for every script of at most 3072 ints, the law comes to its end with true -/
theorem whole_start {p : Program} {e : Env} {s : State} {m : MethodId} {below : List Frame} {meth : Method} {c : Code} (l : Launch) {b L : Nat} {xs : Nat → Int32} (hL : L ≤ 3072) (C0 : lw_At p s m meth c b L xs) : W p l e room_1 s m #[Value.ref b] below meth c s.heap [] 0 0 (lw_Z below #[Value.ref b] s) (entryFrame m ([Value.ref b] : List Value).toArray 4) := by
  obtain ⟨hx, hb, hr, hml, hown, hts0, hX, hbl, hlocks, hgv⟩ := C0
  obtain ⟨G, hK, hG, hGb⟩ := whole_geo (b := b) hts0
  have hts : ∀ w ∈ GC, w.before #[Value.ref b] s = true := fun w hw => hts0 w (GC_tbl hw)
  have hEx : ExA G (fun q => s.heap.size ≤ q) s s.heap := st_A hts0 hgv
  have hNW : NWs s := ⟨fun e he => va_Nw.of rfl (hts0 _ (nw_in e he)), va_AO.of (hts0 _ ao_p), hts0 _ ao_i⟩
  have hMN : ∀ e ∈ mnT, va_Nw (mnW e) s := fun e he => va_Nw.of rfl (hts0 _ (mn_in e he))
  have C : LwX G p s m #[Value.ref b] c := ⟨hx, hb, hown, hts, hK, hNW⟩
  have K : KL G [] s.heap s.heap [] := ⟨rfl, fun k q h => by simp [ix] at h, va_S.rf⟩
  have hl := lv_entry ([.ref b]) (n := 4) (Nat.le_of_ble_eq_true rfl)
  rw [lg_entry_eq]
  generalize (lg_sl ([.ref b]) ++ List.replicate (4 - (lg_sl ([.ref b])).length) Slot.unset).toArray = ls at hl ⊢
  have hl : lv_has ls 4 [(0, .ref b)] := hl
  refine lwS_new 10 0 rfl C (by decide) gx_cl_12_7 gx_is_10 (Nat.le_of_ble_eq_true rfl) (Nat.le_of_ble_eq_true rfl) dL_law_0 K (fun H1 K => ?_)
  refine lv_dup hx hb dL_law_3 rfl ?_
  refine lwS_call (L := []) (mk_X10 l G (s.heap.size + 0) (s.heap.size + 0 + 1)) rfl rfl (by decide) gx_ic_10 gx_ii_10 gx_mB C hml hl.1 rfl rfl (Nat.le_of_ble_eq_true rfl) (Nat.le_of_ble_eq_true rfl) (Nat.le_of_ble_eq_true rfl) (Nat.le_of_ble_eq_true rfl) (Nat.le_of_ble_eq_true rfl) dL_law_4 K (fun H1 locs1 K => ?_)
  refine lv_astore_n hx hb dL_law_7 rfl hl (by decide) rfl (fun ls hl => ?_)
  have hn : (([] : List va_E) ++ .inr (10, ownX10 (s.heap.size + 0 + 1)) :: csX10 G (s.heap.size + 0 + 1)).length = 295 := by rw [List.nil_append, List.length_cons, len_cs10]
  refine lwS_new 11 295 hn C (by decide) gx_cl_12_10 gx_is_11 (Nat.le_of_ble_eq_true rfl) (Nat.le_of_ble_eq_true rfl) dL_law_8 K (fun H1 K => ?_)
  refine lv_dup hx hb dL_law_11 rfl ?_
  refine lwS_call (mk_X11 l G (s.heap.size + 295) (s.heap.size + 295 + 1)) hn rfl (by decide) gx_ic_11 gx_ii_11 gx_mM C hml hl.1 rfl rfl (Nat.le_of_ble_eq_true rfl) (Nat.le_of_ble_eq_true rfl) (Nat.le_of_ble_eq_true rfl) (Nat.le_of_ble_eq_true rfl) (Nat.le_of_ble_eq_true rfl) dL_law_12 K (fun H1 locs1 K => ?_)
  refine lv_astore_n hx hb dL_law_15 rfl hl (by decide) rfl (fun ls hl => ?_)
  refine lv_iconst hx hb (v := 0) dL_law_16 (by decide +kernel) ?_
  refine lv_istore_n hx hb dL_law_17 rfl hl (by decide) rfl (fun ls hl => ?_)
  have hl : lv_has ls 4 [(3, .int 0), (2, .ref (s.heap.size + 295)), (1, .ref (s.heap.size + 0)), (0, .ref b)] := hl
  have eW : ix s.heap.size ((([] : List va_E) ++ .inr (10, ownX10 (s.heap.size + 0 + 1)) :: csX10 G (s.heap.size + 0 + 1)) ++ .inr (11, ownX11 (s.heap.size + 295 + 1)) :: csX11 G (s.heap.size + 295 + 1)) = wld G σ0 := by
    rw [← ix_wld hG, ← LF_eq hG, ← LM_eq, LM, List.nil_append]
  obtain ⟨hz, hP, hS⟩ := K
  rw [eW] at hP
  have hW3 : W p l e room_1 s m #[Value.ref b] below meth c H1 locs1 339 20000 (lw_Z below #[Value.ref b] s) (F0 m 18 ls []) := by
    have hXr : ∀ j, -2147483648 ≤ (xs j).toInt ∧ (xs j).toInt < 2147483648 := fun j => by
      have h1 := Int32.le_toInt (xs j)
      have h2 := Int32.toInt_lt (xs j)
      constructor
      · first | exact h1 | omega | simpa using h1
      · first | exact h2 | omega | simpa using h2
    obtain ⟨n, r, hrun, hres⟩ := law_loop (L, fun j => (xs j).toInt) hXr hL 512 0 (by show L ≤ 0 + 6 * 512; omega) σ0 (by decide) INV_0
    have hpc : pcOf LAW 10 = 18 := by decide +kernel
    have hmc : mcl LAW = 12 := by decide +kernel
    have hmL : mL LAW = 4 := by decide +kernel
    have hCx : CxA G (L, fun j => (xs j).toInt) LAW (fun q => s.heap.size ≤ q) s.heap p room_1 s m #[Value.ref b] c 339 20000 := by
      refine ⟨hx, hb, by rw [hmL]; exact hml, by rw [hmc]; exact hown, fun w hw => hts w (GT_GC hw), by decide +kernel, by decide +kernel, hK, hMN, by decide +kernel, by decide +kernel, fun _ => ⟨?_, by rw [hGb]; exact hbl, by rw [hGb]; exact Nat.not_le.mpr hbl, hL, fun j => ?_⟩, hEx⟩
      · have ef : (fun j => Int32.ofInt (xs j).toInt) = xs := funext fun j => Int32.ofInt_toInt (xs j)
        show va_X G.2.2.2 L (fun j => Int32.ofInt (xs j).toInt) s s.heap
        rw [hGb, ef]
        exact hX
      · show (Int32.ofInt (xs j).toInt).toInt = (xs j).toInt
        rw [Int32.ofInt_toInt]
    have e0 : cvA G (3, 0) = .ref b := by rw [cv_3 rfl, hGb]
    have e1 : cvA G (2, 0) = .ref (s.heap.size + 0) := by rw [cv_2 rfl]; exact congrArg Value.ref (hG 0)
    have e2 : cvA G (2, 295) = .ref (s.heap.size + 295) := by rw [cv_2 rfl]; exact congrArg Value.ref (hG 295)
    have e3 : cvA G (0, ((0 : Nat) : Int)) = .int 0 := rfl
    have hRl : RelA G LAW (fun q => s.heap.size ≤ q) s.heap (10, [(3, 0), (2, 0), (2, 295), (0, ((0 : Nat) : Int))], [], σ0) H1 locs1 ls := by
      refine ⟨okH_0, fun a ha => (by cases ha), ⟨[(3, .int 0), (2, .ref (s.heap.size + 295)), (1, .ref (s.heap.size + 0)), (0, .ref b)], (by rw [hmL]; exact hl), by rw [hmL]; rfl, fun i a hi h9 => ?_⟩, hP, wld_DB hG, hS⟩
      match i, hi with
      | 0, hi => cases hi; exact ⟨Or.inr (Or.inr (Or.inr ⟨rfl, rfl⟩)), by rw [e0]; simp⟩
      | 1, hi => cases hi; exact ⟨Or.inr (Or.inr (Or.inl ⟨rfl, by decide, by decide⟩)), by rw [e1]; simp⟩
      | 2, hi => cases hi; exact ⟨Or.inr (Or.inr (Or.inl ⟨rfl, by decide, by decide⟩)), by rw [e2]; simp⟩
      | 3, hi => cases hi; exact ⟨Or.inl ⟨rfl, by decide⟩, by rw [e3]; simp⟩
      | i + 4, hi => simp at hi
    have hAA : ∀ q, AA G q → s.heap.size ≤ q := fun q ⟨k, _, hk⟩ => by rw [← hk, hG k]; omega
    have hRet : RetK l p e room_1 s m #[Value.ref b] below meth c 339 20000 (lw_Z below #[Value.ref b] s) G LAW (fun q => s.heap.size ≤ q) s.heap r := by
      intro c1 en H' locs' ls' hE hret hσ hR
      rw [hres] at hret
      obtain ⟨pc, ins, len, u, v, w, ts⟩ := en
      obtain ⟨k, L1, st, σ1⟩ := c1
      simp only [chkE, Bool.and_eq_true, decide_eq_true_eq] at hE
      obtain ⟨⟨⟨hd, hlen⟩, hfa⟩, hp⟩ := hE
      (try dsimp only at hret)
      (try dsimp only at hd)
      (try dsimp only at hlen)
      (try dsimp only)
      unfold retA at hret
      split at hret
      · split at hret
        · rename_i x
          split at hret
          · cases hret
            have hl1 : len = 1 := by simpa [isSw, lenI] using hlen
            subst hl1
            show W p l e room_1 s m #[Value.ref b] below meth c H' locs' 339 20000 (lw_Z below #[Value.ref b] s) (F0 m pc ls' [.int 1])
            exact va_forget (fun q hq => hR.2.2.2.2.2.2.2 q hq) (W.widen (by decide) (by decide) (lw_ret hx hb hr hlocks hd))
          · cases hret
        · cases hret
      · split at hret
        · split at hret
          · rename_i h1
            cases hret
            exact absurd h1.1 (by decide)
          · cases hret
        · cases hret
      · split at hret
        · split at hret
          · rename_i h1
            cases hret
            exact absurd h1.1 (by decide)
          · cases hret
        · cases hret
      · split at hret
        · split at hret
          · cases hret
          · cases hret
        · cases hret
      · cases hret
    have hsim : SimN l (L, fun j => (xs j).toInt) n := sim_main l (L, fun j => (xs j).toInt) CKall (own_met l) n
    unfold SimN at hsim
    have hgo : W p l e room_1 s m #[Value.ref b] below meth c H1 locs1 339 20000 (lw_Z below #[Value.ref b] s) (F0 m (pcOf LAW 10) ls []) := @hsim LAW _ _ (by decide) hrun p e room_1 s m #[Value.ref b] below meth c H1 locs1 339 20000 (lw_Z below #[Value.ref b] s) G (fun q => s.heap.size ≤ q) s.heap ls hCx hRl hAA hRet
    rw [hpc] at hgo
    exact hgo
  exact W.widen (Nat.le_of_ble_eq_true rfl) (Nat.le_of_ble_eq_true rfl) hW3
set_option maxHeartbeats 4000000 in
theorem lw_walk (l : Launch) (b : Addr) (xs : List Int32) : MetFree l x (headSpec (Jvm.Cond.code x code maxLocals ret :: tables_1) room_1) (lw_P b xs) (fun _ _ _ _ _ => True) lw_Q := by
  refine MetFree.of_bodyS (code := code) (maxLocals := maxLocals) (ret := ret) (by decide) ?_ ?_
  · intro args s m h hn
    obtain ⟨meth, c, h1, h2, h3, h4, h5, h6, -, -⟩ := Cond.code_spec hn (atoms_spec (ws := Jvm.Cond.code x code maxLocals ret :: tables_1) h _ List.mem_cons_self)
    exact ⟨meth, c, h1, h2, h3, h4, h5, h6⟩
  · intro p e s m args below meth c s₁ B hml0 hP _
    obtain ⟨rfl, hx, hbd, hgv⟩ := hP
    obtain ⟨scr, harrAt, hlist, hof, hsmall⟩ := hx
    obtain ⟨hcb, hkn, -, -⟩ := State.arrayAt?_spec harrAt
    have hown : s.vm.findClass R_law = some m.cls := findClass_of_methodNamed B.named
    have hts0 : ∀ c ∈ (Jvm.Cond.code x code maxLocals ret :: tables_1), c.before #[Value.ref b] s = true := atoms_spec (ws := Jvm.Cond.code x code maxLocals ret :: tables_1) B.pre
    have hts : ∀ w ∈ lw_tbl, w.before #[Value.ref b] s = true := k2_hts_sels lw_privs (fun w hw => hts0 w (List.mem_cons_of_mem _ hw)) lw_privs_ok
    have hml : c.maxLocals = 4 := B.maxLocals_eq (hts0 _ List.mem_cons_self)
    have X₀ : Stand p l e room_1 s m #[Value.ref b] below meth c s₁ [] 0 0 := Stand.of_body B
    have hh0 : s₁.heap = s.heap := by rw [B.state]; rfl
    have hsz : scr.slots.size = xs.length := by rw [← Array.length_toList, hlist, List.length_map]
    have hval : ∀ j : Nat, j < xs.length → scr.slots[j]? = some (.int (xs.getD j 0)) := fun j hj => by
      rw [← Array.getElem?_toList, hlist]
      simp [hj]
    have hbl : b < s.heap.size := (Array.getElem?_eq_some_iff.mp hcb).1
    have hX : va_X b xs.length (fun j => xs.getD j 0) s s.heap := ⟨scr, hcb, hof, hkn, hsz, hval⟩
    have K : W p l e room_1 s m #[Value.ref b] below meth c s₁.heap [] 0 0 (lw_Z below #[Value.ref b] s) (entryFrame m ([Value.ref b] : List Value).toArray 4) := by
      rw [hh0]
      exact whole_start l hbd ⟨B.exec, B.bytes, B.returns, hml, hown, hts, hX, hbl, B.notSynchronized, hgv⟩
    obtain ⟨t, a1, o, b1, b2, b3⟩ := K s₁ rfl X₀
    exact ⟨t, o, a1, b1, b2, b3⟩
theorem lw_pre_spec {args : Array Value} {s : State} (h : (Jvm.Cond.and given_1 narrow_1).before args s = true) (hr : rest_1_c.before args s = true) : ∃ (b : Addr) (xs : List Int32), lw_P b xs args s := by
  have hs := flat_of_before _ h
  have hq := flat_of_before _ hr
  have hc : (Cond.count 1).before args s = true := hs _ (by decide +kernel)
  have harr : (Cond.arrayOf (.arg 0) .int).before args s = true := hs _ (by decide +kernel)
  have hle : (Cond.le (.length (.arg 0)) (.int 3072)).before args s = true := hs _ (by decide +kernel)
  have hlen : (Cond.isInt (.length (.arg 0))).before args s = true := hq _ (by decide +kernel)
  have hall : (Cond.all (.arg 0) (.isInt (.elem (.arg 0) (.index 0)))).before args s = true := hq _ (by decide +kernel)
  obtain ⟨b, xs, hb, hx⟩ := State.ints_of_pre rfl harr hlen hall
  have hsm : xs.length < 2 ^ 31 := hx.choose_spec.2.2.2
  have hev : (Term.length (.arg 0)).eval args s none [] s = some (.int xs.length.toInt32) := hx.length_eval hb
  have hv := Cond.le_ints hev (show (Term.int 3072).eval args s none [] s = some (.int 3072) from rfl)
  have hd : xs.length.toInt32 ≤ 3072 := by
    simpa [Cond.before, Cond.holds, hv] using hle
  have hN : xs.length ≤ 3072 := (Int32.ofNat_le_ofNat hsm (by decide)).mp (show Int32.ofNat xs.length ≤ Int32.ofNat 3072 from hd)
  exact ⟨b, xs, Cond.one_arg hc (show args[0]? = some (.ref b) from hb), hx, hN, h⟩
theorem lw_comes (l : Launch) : Comes l x (Jvm.Cond.code x code maxLocals ret :: tables_1) room_1 (fun tb e args s => Calls_1 tb e args s ∧ rest_1 tb e args s ∧ Pre_1 tb e args s)
    (fun _ _ args s o t => lw_Q args s o t) := by
  intro p e ha hc hk s m args below hf hfit hheap happ hpre
  obtain ⟨b, xs, hP⟩ := lw_pre_spec hpre.2.2 hpre.2.1
  obtain ⟨k, o, h1, h2, h3, hQ⟩ := lw_walk l b xs p e ha hc hk s m args below hf ((Spec.applies_iff_loose hf).mp happ).1 hP trivial
  exact ⟨k, o, h1, h2, h3, hQ⟩
theorem lw_frame {s t : State} {o : Outcome} {args : Array Value} (h : Framed s o t [] 600000 7302250) :
    Framed s o t (fieldLocs frame_1_writes args s ++ arrayLocs frame_1_arrays args s ++ staticLocs frame_1_statics s) 600000 7302250 := h
theorem lw_limb (L : Cond) (hL : ∀ (args : Array Value) (s t : State), L.after args s (.returned (some (.int 1))) t = true) :
    ArmFor flags0 classFile x code maxLocals ret World_1 tables_1 room_1 Calls_1 rest_1 Pre_1
      (fun tb e a s o t => postC L tb e a s o t ∧ Framed s o t (fieldLocs frame_1_writes a s ++ arrayLocs frame_1_arrays a s ++ staticLocs frame_1_statics s) 600000 7302250) := by
  intro l _ _ _ p e ha hc hk s m args below hf hfit hheap happ hpre
  obtain ⟨k, o, h1, h2, h3, rfl, hF⟩ := lw_comes l p e ha hc hk s m args below hf hfit hheap happ hpre
  exact ⟨k, _, h1, h2, h3, hL args s _, lw_frame hF⟩
theorem i_vc : Claimed_1_1 ∧ Claimed_1_2 := ⟨lw_limb limb_1_1 (fun args s t => by simp [limb_1_1, Cond.after, Cond.holds, Cond.value]), lw_limb limb_1_2 (fun args s t => Cond.after_iff.mpr (by
  first | (rw [show limb_1_2 = Cond.eq .result (.int 1) from rfl, Cond.eq_ints (x := 1) (y := 1) rfl rfl]; simp; done) | (simp [limb_1_2, Cond.value, Term.eval]; done)))⟩
