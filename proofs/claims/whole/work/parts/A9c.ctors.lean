/-! The constructor of Acts: twenty rows of people. -/
section Mk4
variable {p : Program} {l : Launch} {e : Env} {R : Room} {s : State} {m : MethodId} {args : Array Value} {below : List Frame} {meth : Method} {c : Code} {H : Heap} {locs : List Loc} {cells slots : Nat} {Q : State → Prop}
variable {G : Geo} {h0 ci : Nat} {fs : List Value} {L : List va_E} {H0 : Heap} {cc : ByteArray} {pc : Nat} {ls : Array Slot} {rest : List Value}
theorem mkA_anew {index : Nat} {nn : Int32} (N n n1 : Nat) (h1 : n + 1 = n1) (hn : L.length = n) (C : CtX G ci p s m args meth c cc) (hcl : Cond.classLink (clR ci) index "BornAboard$People" ∈ GC) (hov : va_AO "BornAboard$People" s) (hneg : ¬ nn < 0) (hN : nn.toNatClampNeg = N) (hbytes : N * 4 ≤ 536870912) (hcells : cells + 1 ≤ R.cells) (hslots : slots + N ≤ R.slots) (hdg : decode cc pc = .ok (.anewarray index, 3)) (K : KS G h0 ci fs L H0 H locs)
    (kk : ∀ (H1 : Heap) (L1 : List va_E), L1 = L ++ [.inl (G.2.1 23, N, .inr (.inr (.inr (.inr (fun _ => none)))))] → L1.length = n1 → KS G h0 ci fs L1 H0 H1 locs → W p l e R s m args below meth c H1 locs (cells + 1) (slots + N) Q (F0 m (pc + 3) ls (.ref (H0.size + n) :: rest))) : W p l e R s m args below meth c H locs cells slots Q (F0 m pc ls (.int nn :: rest)) := by
  subst hN
  obtain ⟨hx, hb, hown, hts, hK, hin, hci⟩ := C
  refine W.anew hx hb hown (hts _ hcl) (va_AO.use hov) rfl hdg rfl hneg hbytes hcells hslots fun cA kA comp f1 f2 f3 f4 => ?_
  obtain ⟨kA', comp', k1, k2, k3, k4⟩ := (hK.2 3 _ rfl).2
  have hc : cA = G.2.1 23 := Option.some.inj (f1.symm.trans k4)
  subst hc
  generalize hH1 : H.push ({ cls := G.2.1 23, slots := Array.replicate nn.toNatClampNeg .null, vm := .none } : Cell) = H1
  have z1 : H1.size = H.size + 1 := by rw [← hH1, Array.size_push]
  have e1 : H1[H.size]? = some (arrV (G.2.1 23) nn.toNatClampNeg (fun _ => .null)) := by rw [← hH1, Array.getElem?_push_size, ← arrV_new]
  have o1 : ∀ q : Nat, q < H.size → H1[q]? = H[q]? := fun q hq => by rw [← hH1, Array.getElem?_push, if_neg (Nat.ne_of_lt hq)]
  have := kk H1 _ rfl (by rw [List.length_append, hn]; exact h1) (K.push (e := .inl (G.2.1 23, nn.toNatClampNeg, .inr (.inr (.inr (.inr (fun _ => none)))))) z1 o1 (by show H1[H.size]? = some (vp_cell _ _); rw [vp_cell_q]; exact e1))
  rw [← hn, ← K.2.1] at this
  exact this
end Mk4
def ppl (G : Geo) (b : Nat) : Nat → List va_E
  | 0 => []
  | i + 1 => ppl G b i ++ .inr (6, ownX6 (b + 6 * i + 1)) :: csX6 G (b + 6 * i + 1)
theorem len_ppl (G : Geo) (b : Nat) : ∀ i, (ppl G b i).length = 6 * i
  | 0 => rfl
  | i + 1 => by rw [ppl, List.length_append, List.length_cons, len_ppl G b i, len_cs6]; omega
def acR (b i : Nat) : Nat → Option Nat := fun j => if j < i then some (b + 6 * j) else none
def acL (G : Geo) (b i : Nat) : List va_E := .inl (G.2.1 23, 20, .inr (.inr (.inr (.inr (acR (b + 1) i))))) :: ppl G (b + 1) i
theorem len_acL (G : Geo) (b i : Nat) : (acL G b i).length = 1 + 6 * i := by rw [acL, List.length_cons, len_ppl]; omega
theorem acR_up (b i : Nat) : va_up (acR b i) i (some (b + 6 * i)) = acR b (i + 1) := by
  funext j
  unfold va_up acR
  by_cases h : j = i
  · subst h
    simp
  · by_cases h2 : j < i
    · simp [h, h2, Nat.lt_succ_of_lt h2]
    · simp [h, h2, show ¬ j < i + 1 by omega]
def ownX0 (b : Nat) : List Value := [.int 0, .ref b, .int 0]
def csX0 (G : Geo) (b : Nat) : List va_E := acL G b 20
theorem len_cs0 (G : Geo) (b : Nat) : (csX0 G b).length = 121 := by rw [csX0, len_acL]
theorem dX0_init_0 : decode cX0_init 0 = .ok (.aload_n 0, 1) := by decide +kernel
theorem dX0_init_1 : decode cX0_init 1 = .ok (.invokespecial 3, 3) := by decide +kernel
theorem dX0_init_4 : decode cX0_init 4 = .ok (.aload_n 0, 1) := by decide +kernel
theorem dX0_init_5 : decode cX0_init 5 = .ok (.iconst 0, 1) := by decide +kernel
theorem dX0_init_6 : decode cX0_init 6 = .ok (.putfield 9, 3) := by decide +kernel
theorem dX0_init_9 : decode cX0_init 9 = .ok (.aload_n 0, 1) := by decide +kernel
theorem dX0_init_10 : decode cX0_init 10 = .ok (.bipush 20, 2) := by decide +kernel
theorem dX0_init_12 : decode cX0_init 12 = .ok (.anewarray 15, 3) := by decide +kernel
theorem dX0_init_15 : decode cX0_init 15 = .ok (.putfield 17, 3) := by decide +kernel
theorem dX0_init_18 : decode cX0_init 18 = .ok (.aload_n 0, 1) := by decide +kernel
theorem dX0_init_19 : decode cX0_init 19 = .ok (.iconst 0, 1) := by decide +kernel
theorem dX0_init_20 : decode cX0_init 20 = .ok (.putfield 21, 3) := by decide +kernel
theorem dX0_init_23 : decode cX0_init 23 = .ok (.iconst 0, 1) := by decide +kernel
theorem dX0_init_24 : decode cX0_init 24 = .ok (.istore_n 1, 1) := by decide +kernel
theorem dX0_init_25 : decode cX0_init 25 = .ok (.iload_n 1, 1) := by decide +kernel
theorem dX0_init_26 : decode cX0_init 26 = .ok (.bipush 20, 2) := by decide +kernel
theorem dX0_init_28 : decode cX0_init 28 = .ok (.if_icmp .ge 22, 3) := by decide +kernel
theorem dX0_init_31 : decode cX0_init 31 = .ok (.aload_n 0, 1) := by decide +kernel
theorem dX0_init_32 : decode cX0_init 32 = .ok (.getfield 17, 3) := by decide +kernel
theorem dX0_init_35 : decode cX0_init 35 = .ok (.iload_n 1, 1) := by decide +kernel
theorem dX0_init_36 : decode cX0_init 36 = .ok (.new 15, 3) := by decide +kernel
theorem dX0_init_39 : decode cX0_init 39 = .ok (.dup, 1) := by decide +kernel
theorem dX0_init_40 : decode cX0_init 40 = .ok (.invokespecial 24, 3) := by decide +kernel
theorem dX0_init_43 : decode cX0_init 43 = .ok (.aastore, 1) := by decide +kernel
theorem dX0_init_44 : decode cX0_init 44 = .ok (.iinc 1 1, 3) := by decide +kernel
theorem dX0_init_47 : decode cX0_init 47 = .ok (.goto (-22), 3) := by decide +kernel
theorem dX0_init_50 : decode cX0_init 50 = .ok (.return_, 1) := by decide +kernel
theorem i20 : ∀ i, i < 20 → ¬ (20 : Int32) ≤ Int32.ofNat i ∧ (Int32.ofNat i).toNatClampNeg = i ∧ ¬ Int32.ofNat i < 0 ∧ Int32.ofNat i + Int32.ofInt 1 = Int32.ofNat (i + 1) := by decide +kernel
set_option maxHeartbeats 4000000 in
set_option maxRecDepth 100000 in
theorem mk_X0 (l : Launch) (G : Geo) (h0 sz : Nat) : Met l (ctY 0) (.code (ctY 0) cX0_init 2 none :: GC) ({ frames := 2, cells := 121, slots := 1180, locals := 32 }) (MPre G 0 h0 sz) (MPost G 0 h0 sz ownX0 (csX0 G)) 121 1180 (fun q => q = h0 ∨ sz ≤ q) := by
  refine Met.ofW (cc := cX0_init) (maxL := 2) (ret := none) (by decide) rfl ?_
  intro p e s m args below meth c s₁ B hml hv
  obtain ⟨rfl, hsz, hh, hP, hK, hN⟩ := hv
  subst hsz
  have hx := B.exec
  have hb := B.bytes
  have hr := B.returns
  have hts0 := atoms_spec (ws := .code (ctY 0) cX0_init 2 none :: GC) B.pre
  have hts : ∀ w ∈ GC, w.before _ s = true := fun w hw => hts0 w (List.mem_cons_of_mem _ hw)
  have hown : s.vm.findClass (clR 0) = some m.cls := findClass_of_methodNamed B.named
  have hlocks := B.notSynchronized
  have hin : meth.name = "<init>" := (name_of_methodNamed B.named B.method).1
  have C : CtX G 0 p s m _ meth c cX0_init := ⟨hx, hb, hown, hts, hK, hin, by decide⟩
  have K : KS G h0 0 [.int 0, .null, .int 0] [] s.heap s.heap [] := ⟨hh, rfl, hP, va_S.rf⟩
  have hn : ([] : List va_E).length = 0 := rfl
  have hl := lv_entry ([.ref h0]) (n := 2) (Nat.le_of_ble_eq_true rfl)
  rw [lg_entry_eq]
  generalize (lg_sl ([.ref h0]) ++ List.replicate (2 - (lg_sl ([.ref h0])).length) Slot.unset).toArray = ls at hl ⊢
  have hl : lv_has ls 2 [(0, .ref h0)] := hl
  have loop : ∀ d i, i + d = 20 → ∀ (ls : Array Slot) (H : Heap) (locs : List Loc), lv_has ls 2 [(1, .int (Int32.ofNat i)), (0, .ref h0)] → KS G h0 0 (ownX0 s.heap.size) (acL G s.heap.size i) s.heap H locs → W p l e (headSpec (.code (ctY 0) cX0_init 2 none :: GC) ({ frames := 2, cells := 121, slots := 1180, locals := 32 })).room s m (#[.ref h0]) below meth c H locs (1 + 6 * i) (20 + 58 * i) (MQ below (MPost G 0 h0 s.heap.size ownX0 (csX0 G)) (#[.ref h0]) s 121 1180 (fun q => q = h0 ∨ s.heap.size ≤ q)) (F0 m 25 ls []) := by
    intro d
    induction d with
    | zero =>
      intro i hi ls H locs hl K
      have : i = 20 := by omega
      subst this
      refine lv_iload_n hx hb dX0_init_25 rfl (lv_at hl 0 rfl) ?_
      refine lv_bipush hx hb (v := 20) dX0_init_26 (by decide +kernel) ?_
      refine lv_icmp_ge hx hb (tgt := 50) dX0_init_28 rfl (fun _ => ?_) (fun h => absurd (by decide +kernel) h)
      have K : KS G h0 0 (ownX0 s.heap.size) (csX0 G s.heap.size) s.heap H locs := K
      exact W.vret hx hb hr (fun t ht hW => ⟨rfl, by rw [ht]; exact K.2.1, by rw [ht]; exact K.2.2.1, K.2.2.2.F ht⟩) K.2.2.2.2.2 dX0_init_50
    | succ d ih =>
      intro i hi ls H locs hl K
      obtain ⟨i1, i2, i3, i4⟩ := i20 i (by omega)
      have hn := len_acL G s.heap.size i
      refine lv_iload_n hx hb dX0_init_25 rfl (lv_at hl 0 rfl) ?_
      refine lv_bipush hx hb (v := 20) dX0_init_26 (by decide +kernel) ?_
      refine lv_icmp_ge hx hb (tgt := 50) dX0_init_28 rfl (fun h => absurd h i1) (fun _ => ?_)
      refine lv_aload_n hx hb dX0_init_31 rfl (lv_at hl 1 rfl) ?_
      refine mk_get 1 (v := .ref s.heap.size) C (by decide) gx_f_0_1 rfl rfl dX0_init_32 K ?_
      refine lv_iload_n hx hb dX0_init_35 rfl (lv_at hl 0 rfl) ?_
      refine mkA_new 6 (1 + 6 * i) hn C (by decide) gx_cl_0_15 gx_is_6 (by show _ ≤ 121; omega) (by show _ + 8 ≤ 1180; omega) dX0_init_36 K (fun H1 K => ?_)
      refine lv_dup hx hb dX0_init_39 rfl ?_
      refine mkA_call (n1 := 1 + 6 * (i + 1)) (mk_X6 l G (s.heap.size + (1 + 6 * i)) (s.heap.size + (1 + 6 * i) + 1)) hn rfl (len_cs6 _ _) (by omega) (by decide) gx_ic_6 gx_ii_6 (Or.inl (by decide)) C hN hml hl.1 rfl rfl (Nat.le_of_ble_eq_true rfl) (Nat.le_of_ble_eq_true rfl) (by show _ ≤ 121; omega) (by show _ + 8 + 50 ≤ 1180; omega) (Nat.le_of_ble_eq_true rfl) dX0_init_40 K (fun H1 locs1 L1 e1 hn1 K => ?_)
      have eL : L1 = .inl (G.2.1 23, 20, .inr (.inr (.inr (.inr (acR (s.heap.size + 1) i))))) :: ppl G (s.heap.size + 1) (i + 1) := by
        rw [e1, acL, List.cons_append, ppl]
        rw [show s.heap.size + (1 + 6 * i) + 1 = s.heap.size + 1 + 6 * i + 1 by omega]
      subst eL
      refine mk_aast 0 (1 + 6 * i) (vs := ownX6 (s.heap.size + 1 + 6 * i + 1)) (L1 := acL G s.heap.size (i + 1)) rfl ?_ (by rw [i2, acL, List.set_cons_zero, show s.heap.size + (1 + 6 * i) = s.heap.size + 1 + 6 * i by omega, acR_up]) rfl rfl C (fun h => by rcases h with h | h; exact i3 h; rw [i2] at h; omega) dX0_init_43 K (fun H1 locs1 K => ?_)
      · rw [Nat.add_comm 1 (6 * i), List.getElem?_cons_succ, ppl, List.getElem?_append_right (by rw [len_ppl]; exact Nat.le_refl _), len_ppl, Nat.sub_self]
        rfl
      refine lv_iinc hx hb (k := 0) dX0_init_44 hl rfl i4 (by decide) rfl (fun ls hl => ?_)
      refine lv_goto hx hb (tgt := 25) dX0_init_47 rfl ?_
      have := ih (i + 1) (by omega) ls H1 locs1 hl K
      rw [show 1 + 6 * (i + 1) = 1 + 6 * i + 1 + 5 by omega, show 20 + 58 * (i + 1) = 20 + 58 * i + 8 + 50 by omega] at this
      exact this
  refine lv_aload_n hx hb dX0_init_0 rfl (lv_at hl 0 rfl) ?_
  refine W.objInit hx hb hown (hts _ gx_oi_0) (hts _ gx_in) (hts _ gx_co) rfl (by rw [hml]; exact hl.1) rfl dX0_init_1 (Nat.le_of_ble_eq_true rfl) (Nat.le_of_ble_eq_true rfl) ?_
  refine W.eq (g2 := F0 m 4 ls []) rfl ?_
  refine lv_aload_n hx hb dX0_init_4 rfl (lv_at hl 0 rfl) ?_
  refine lv_iconst hx hb (v := 0) dX0_init_5 (by decide +kernel) ?_
  refine mk_put 0 (fs1 := [.int 0, .null, .int 0]) rfl C (by decide) (Nat.le_of_ble_eq_true rfl) gx_f_0_0 rfl ⟨rfl, rfl⟩ dX0_init_6 K (fun H1 locs1 K => ?_)
  refine lv_aload_n hx hb dX0_init_9 rfl (lv_at hl 0 rfl) ?_
  refine lv_bipush hx hb (v := 20) dX0_init_10 (by decide +kernel) ?_
  refine mkA_anew 20 0 1 rfl hn C gx_cl_0_15 hN.2.1 (by decide +kernel) (by decide +kernel) (by decide) (Nat.le_of_ble_eq_true rfl) (Nat.le_of_ble_eq_true rfl) dX0_init_12 K (fun H1 L1 e1 hn K => ?_)
  refine mk_put 1 (fs1 := [.int 0, .ref (s.heap.size + 0), .int 0]) rfl C (by decide) (Nat.le_of_ble_eq_true rfl) gx_f_0_1 rfl ⟨rfl, rfl⟩ dX0_init_15 K (fun H1 locs1 K => ?_)
  refine lv_aload_n hx hb dX0_init_18 rfl (lv_at hl 0 rfl) ?_
  refine lv_iconst hx hb (v := 0) dX0_init_19 (by decide +kernel) ?_
  refine mk_put 2 (fs1 := [.int 0, .ref (s.heap.size + 0), .int 0]) rfl C (by decide) (Nat.le_of_ble_eq_true rfl) gx_f_0_2 rfl ⟨rfl, rfl⟩ dX0_init_20 K (fun H1 locs1 K => ?_)
  refine lv_iconst hx hb (v := 0) dX0_init_23 (by decide +kernel) ?_
  refine lv_istore_n hx hb dX0_init_24 rfl hl (by decide) rfl (fun ls hl => ?_)
  have eL : L1 = acL G s.heap.size 0 := by
    rw [e1]
    refine congrArg (fun f => [(Sum.inl (G.2.1 23, 20, .inr (.inr (.inr (.inr f)))) : va_E)]) (funext fun j => ?_)
    rfl
  rw [eL] at K
  exact loop 20 0 rfl ls H1 locs1 hl K
def ownX5 (b : Nat) : List Value := [.int 0, .int (-1), .ref (b + 0), .ref (b + 4), .int 0, .int 0]
def csX5 (G : Geo) (b : Nat) : List va_E := (([] ++ (.inr (9, ownX9 (b + 0 + 1)) :: csX9 G (b + 0 + 1))) ++ (.inr (3, ownX3 (b + 4 + 1)) :: csX3 G (b + 4 + 1)))
theorem len_cs5 (G : Geo) (b : Nat) : (csX5 G b).length = 32 := by simp [csX5, mat, len_cs3, len_cs9]
theorem dX5_init_0 : decode cX5_init 0 = .ok (.aload_n 0, 1) := by decide +kernel
theorem dX5_init_1 : decode cX5_init 1 = .ok (.invokespecial 3, 3) := by decide +kernel
theorem dX5_init_4 : decode cX5_init 4 = .ok (.aload_n 0, 1) := by decide +kernel
theorem dX5_init_5 : decode cX5_init 5 = .ok (.iconst 0, 1) := by decide +kernel
theorem dX5_init_6 : decode cX5_init 6 = .ok (.putfield 9, 3) := by decide +kernel
theorem dX5_init_9 : decode cX5_init 9 = .ok (.aload_n 0, 1) := by decide +kernel
theorem dX5_init_10 : decode cX5_init 10 = .ok (.iconst (-1), 1) := by decide +kernel
theorem dX5_init_11 : decode cX5_init 11 = .ok (.putfield 15, 3) := by decide +kernel
theorem dX5_init_14 : decode cX5_init 14 = .ok (.aload_n 0, 1) := by decide +kernel
theorem dX5_init_15 : decode cX5_init 15 = .ok (.new 18, 3) := by decide +kernel
theorem dX5_init_18 : decode cX5_init 18 = .ok (.dup, 1) := by decide +kernel
theorem dX5_init_19 : decode cX5_init 19 = .ok (.invokespecial 20, 3) := by decide +kernel
theorem dX5_init_22 : decode cX5_init 22 = .ok (.putfield 21, 3) := by decide +kernel
theorem dX5_init_25 : decode cX5_init 25 = .ok (.aload_n 0, 1) := by decide +kernel
theorem dX5_init_26 : decode cX5_init 26 = .ok (.new 25, 3) := by decide +kernel
theorem dX5_init_29 : decode cX5_init 29 = .ok (.dup, 1) := by decide +kernel
theorem dX5_init_30 : decode cX5_init 30 = .ok (.invokespecial 27, 3) := by decide +kernel
theorem dX5_init_33 : decode cX5_init 33 = .ok (.putfield 28, 3) := by decide +kernel
theorem dX5_init_36 : decode cX5_init 36 = .ok (.aload_n 0, 1) := by decide +kernel
theorem dX5_init_37 : decode cX5_init 37 = .ok (.iconst 0, 1) := by decide +kernel
theorem dX5_init_38 : decode cX5_init 38 = .ok (.putfield 32, 3) := by decide +kernel
theorem dX5_init_41 : decode cX5_init 41 = .ok (.aload_n 0, 1) := by decide +kernel
theorem dX5_init_42 : decode cX5_init 42 = .ok (.iconst 0, 1) := by decide +kernel
theorem dX5_init_43 : decode cX5_init 43 = .ok (.putfield 35, 3) := by decide +kernel
theorem dX5_init_46 : decode cX5_init 46 = .ok (.return_, 1) := by decide +kernel
set_option maxHeartbeats 4000000 in
set_option maxRecDepth 100000 in
theorem mk_X5 (l : Launch) (G : Geo) (h0 sz : Nat) : Met l (ctY 5) (.code (ctY 5) cX5_init 1 none :: GC) ({ frames := 3, cells := 32, slots := 5046, locals := 52 }) (MPre G 5 h0 sz) (MPost G 5 h0 sz ownX5 (csX5 G)) 32 5046 (fun q => q = h0 ∨ sz ≤ q) := by
  refine Met.ofW (cc := cX5_init) (maxL := 1) (ret := none) (by decide) rfl ?_
  intro p e s m args below meth c s₁ B hml hv
  obtain ⟨rfl, hsz, hh, hP, hK, hN⟩ := hv
  subst hsz
  have hx := B.exec
  have hb := B.bytes
  have hr := B.returns
  have hts0 := atoms_spec (ws := .code (ctY 5) cX5_init 1 none :: GC) B.pre
  have hts : ∀ w ∈ GC, w.before _ s = true := fun w hw => hts0 w (List.mem_cons_of_mem _ hw)
  have hown : s.vm.findClass (clR 5) = some m.cls := findClass_of_methodNamed B.named
  have hlocks := B.notSynchronized
  have hin : meth.name = "<init>" := (name_of_methodNamed B.named B.method).1
  have C : CtX G 5 p s m _ meth c cX5_init := ⟨hx, hb, hown, hts, hK, hin, by decide⟩
  have K : KS G h0 5 [.int 0, .int 0, .null, .null, .int 0, .int 0] [] s.heap s.heap [] := ⟨hh, rfl, hP, va_S.rf⟩
  have hn : ([] : List va_E).length = 0 := rfl
  have c20 : s.vm.findClass ("[" ++ (FieldType.int).toString) = some (G.2.1 20) := (hK.2 0 _ rfl).2
  have c21 : s.vm.findClass ("[" ++ (FieldType.long).toString) = some (G.2.1 21) := (hK.2 1 _ rfl).2
  have c22 : s.vm.findClass ("[" ++ (FieldType.boolean).toString) = some (G.2.1 22) := (hK.2 2 _ rfl).2
  have hl := lv_entry ([.ref h0]) (n := 1) (Nat.le_of_ble_eq_true rfl)
  rw [lg_entry_eq]
  generalize (lg_sl ([.ref h0]) ++ List.replicate (1 - (lg_sl ([.ref h0])).length) Slot.unset).toArray = ls at hl ⊢
  have hl : lv_has ls 1 [(0, .ref h0)] := hl
  refine lv_aload_n hx hb dX5_init_0 rfl (lv_at hl 0 rfl) ?_
  refine W.objInit hx hb hown (hts _ gx_oi_5) (hts _ gx_in) (hts _ gx_co) rfl (by rw [hml]; exact hl.1) rfl dX5_init_1 (Nat.le_of_ble_eq_true rfl) (Nat.le_of_ble_eq_true rfl) ?_
  refine W.eq (g2 := F0 m 4 ls []) rfl ?_
  refine lv_aload_n hx hb dX5_init_4 rfl (lv_at hl 0 rfl) ?_
  refine lv_iconst hx hb (v := 0) dX5_init_5 (by decide +kernel) ?_
  refine mk_put 0 (fs1 := [.int 0, .int 0, .null, .null, .int 0, .int 0]) rfl C (by decide) (Nat.le_of_ble_eq_true rfl) gx_f_5_0 rfl ⟨rfl, rfl⟩ dX5_init_6 K (fun H1 locs1 K => ?_)
  refine lv_aload_n hx hb dX5_init_9 rfl (lv_at hl 0 rfl) ?_
  refine lv_iconst hx hb (v := (-1)) dX5_init_10 (by decide +kernel) ?_
  refine mk_put 1 (fs1 := [.int 0, .int (-1), .null, .null, .int 0, .int 0]) rfl C (by decide) (Nat.le_of_ble_eq_true rfl) gx_f_5_1 rfl ⟨rfl, rfl⟩ dX5_init_11 K (fun H1 locs1 K => ?_)
  refine lv_aload_n hx hb dX5_init_14 rfl (lv_at hl 0 rfl) ?_
  refine mkA_new 9 0 hn C (by decide) gx_cl_5_18 gx_is_9 (Nat.le_of_ble_eq_true rfl) (Nat.le_of_ble_eq_true rfl) dX5_init_15 K (fun H1 K => ?_)
  refine lv_dup hx hb dX5_init_18 rfl ?_
  refine mkA_call (n1 := 4) (mk_X9 l G (s.heap.size + 0) (s.heap.size + 0 + 1)) hn rfl (len_cs9 _ _) rfl (by decide) gx_ic_9 gx_ii_9 (Or.inl (by decide)) C hN hml hl.1 rfl rfl (Nat.le_of_ble_eq_true rfl) (Nat.le_of_ble_eq_true rfl) (Nat.le_of_ble_eq_true rfl) (Nat.le_of_ble_eq_true rfl) (Nat.le_of_ble_eq_true rfl) dX5_init_19 K (fun H1 locs1 L1 e19 hn K => ?_)
  refine mk_put 2 (fs1 := [.int 0, .int (-1), .ref (s.heap.size + 0), .null, .int 0, .int 0]) rfl C (by decide) (Nat.le_of_ble_eq_true rfl) gx_f_5_2 rfl ⟨rfl, rfl⟩ dX5_init_22 K (fun H1 locs1 K => ?_)
  refine lv_aload_n hx hb dX5_init_25 rfl (lv_at hl 0 rfl) ?_
  refine mkA_new 3 4 hn C (by decide) gx_cl_5_25 gx_is_3 (Nat.le_of_ble_eq_true rfl) (Nat.le_of_ble_eq_true rfl) dX5_init_26 K (fun H1 K => ?_)
  refine lv_dup hx hb dX5_init_29 rfl ?_
  refine mkA_call (n1 := 32) (mk_X3 l G (s.heap.size + 4) (s.heap.size + 4 + 1)) hn rfl (len_cs3 _ _) rfl (by decide) gx_ic_3 gx_ii_3 (Or.inl (by decide)) C hN hml hl.1 rfl rfl (Nat.le_of_ble_eq_true rfl) (Nat.le_of_ble_eq_true rfl) (Nat.le_of_ble_eq_true rfl) (Nat.le_of_ble_eq_true rfl) (Nat.le_of_ble_eq_true rfl) dX5_init_30 K (fun H1 locs1 L1 e30 hn K => ?_)
  refine mk_put 3 (fs1 := [.int 0, .int (-1), .ref (s.heap.size + 0), .ref (s.heap.size + 4), .int 0, .int 0]) rfl C (by decide) (Nat.le_of_ble_eq_true rfl) gx_f_5_3 rfl ⟨rfl, rfl⟩ dX5_init_33 K (fun H1 locs1 K => ?_)
  refine lv_aload_n hx hb dX5_init_36 rfl (lv_at hl 0 rfl) ?_
  refine lv_iconst hx hb (v := 0) dX5_init_37 (by decide +kernel) ?_
  refine mk_put 4 (fs1 := [.int 0, .int (-1), .ref (s.heap.size + 0), .ref (s.heap.size + 4), .int 0, .int 0]) rfl C (by decide) (Nat.le_of_ble_eq_true rfl) gx_f_5_4 rfl ⟨rfl, rfl⟩ dX5_init_38 K (fun H1 locs1 K => ?_)
  refine lv_aload_n hx hb dX5_init_41 rfl (lv_at hl 0 rfl) ?_
  refine lv_iconst hx hb (v := 0) dX5_init_42 (by decide +kernel) ?_
  refine mk_put 5 (fs1 := [.int 0, .int (-1), .ref (s.heap.size + 0), .ref (s.heap.size + 4), .int 0, .int 0]) rfl C (by decide) (Nat.le_of_ble_eq_true rfl) gx_f_5_5 rfl ⟨rfl, rfl⟩ dX5_init_43 K (fun H1 locs1 K => ?_)
  have eL : L1 = csX5 G s.heap.size := by rw [e30, e19]; rfl
  rw [eL] at K
  exact W.vret hx hb hr (fun t ht hW => ⟨rfl, by rw [ht]; exact K.2.1, by rw [ht]; exact K.2.2.1, K.2.2.2.F ht⟩) K.2.2.2.2.2 dX5_init_46
def ownX1 (b : Nat) : List Value := [.ref (b + 0), .ref (b + 17), .ref (b + 48), .ref (b + 49), .ref (b + 50), .ref (b + 51), .ref (b + 52), .int 0, .ref (b + 53), .ref (b + 54), .ref (b + 55), .ref (b + 56), .ref (b + 84), .int 0, .int 0, .int 0, .int 0, .int 0]
def csX1 (G : Geo) (b : Nat) : List va_E := (((((((((((([] ++ (.inr (8, ownX8 (b + 0 + 1)) :: csX8 G (b + 0 + 1))) ++ (.inr (4, ownX4 (b + 17 + 1)) :: csX4 G (b + 17 + 1))) ++ [.inl (G.2.1 20, 10, .inl fun _ => 0)]) ++ [.inl (G.2.1 20, 10, .inl fun _ => 0)]) ++ [.inl (G.2.1 20, 10, .inl fun _ => 0)]) ++ [.inl (G.2.1 20, 6, .inl fun _ => 0)]) ++ [.inl (G.2.1 20, 6, .inl fun _ => 0)]) ++ [.inl (G.2.1 20, 6, .inl fun _ => 0)]) ++ [.inl (G.2.1 20, 6, .inl fun _ => 0)]) ++ [.inl (G.2.1 20, 14, .inl fun _ => 0)]) ++ (.inr (3, ownX3 (b + 56 + 1)) :: csX3 G (b + 56 + 1))) ++ (.inr (6, ownX6 (b + 84 + 1)) :: csX6 G (b + 84 + 1)))
theorem len_cs1 (G : Geo) (b : Nat) : (csX1 G b).length = 90 := by simp [csX1, mat, len_cs6, len_cs4, len_cs8, len_cs3]
theorem dX1_init_0 : decode cX1_init 0 = .ok (.aload_n 0, 1) := by decide +kernel
theorem dX1_init_1 : decode cX1_init 1 = .ok (.invokespecial 3, 3) := by decide +kernel
theorem dX1_init_4 : decode cX1_init 4 = .ok (.aload_n 0, 1) := by decide +kernel
theorem dX1_init_5 : decode cX1_init 5 = .ok (.new 9, 3) := by decide +kernel
theorem dX1_init_8 : decode cX1_init 8 = .ok (.dup, 1) := by decide +kernel
theorem dX1_init_9 : decode cX1_init 9 = .ok (.invokespecial 11, 3) := by decide +kernel
theorem dX1_init_12 : decode cX1_init 12 = .ok (.putfield 12, 3) := by decide +kernel
theorem dX1_init_15 : decode cX1_init 15 = .ok (.aload_n 0, 1) := by decide +kernel
theorem dX1_init_16 : decode cX1_init 16 = .ok (.new 18, 3) := by decide +kernel
theorem dX1_init_19 : decode cX1_init 19 = .ok (.dup, 1) := by decide +kernel
theorem dX1_init_20 : decode cX1_init 20 = .ok (.invokespecial 20, 3) := by decide +kernel
theorem dX1_init_23 : decode cX1_init 23 = .ok (.putfield 21, 3) := by decide +kernel
theorem dX1_init_26 : decode cX1_init 26 = .ok (.aload_n 0, 1) := by decide +kernel
theorem dX1_init_27 : decode cX1_init 27 = .ok (.bipush 10, 2) := by decide +kernel
theorem dX1_init_29 : decode cX1_init 29 = .ok (.newarray .int, 2) := by decide +kernel
theorem dX1_init_31 : decode cX1_init 31 = .ok (.putfield 25, 3) := by decide +kernel
theorem dX1_init_34 : decode cX1_init 34 = .ok (.aload_n 0, 1) := by decide +kernel
theorem dX1_init_35 : decode cX1_init 35 = .ok (.bipush 10, 2) := by decide +kernel
theorem dX1_init_37 : decode cX1_init 37 = .ok (.newarray .int, 2) := by decide +kernel
theorem dX1_init_39 : decode cX1_init 39 = .ok (.putfield 29, 3) := by decide +kernel
theorem dX1_init_42 : decode cX1_init 42 = .ok (.aload_n 0, 1) := by decide +kernel
theorem dX1_init_43 : decode cX1_init 43 = .ok (.bipush 10, 2) := by decide +kernel
theorem dX1_init_45 : decode cX1_init 45 = .ok (.newarray .int, 2) := by decide +kernel
theorem dX1_init_47 : decode cX1_init 47 = .ok (.putfield 32, 3) := by decide +kernel
theorem dX1_init_50 : decode cX1_init 50 = .ok (.aload_n 0, 1) := by decide +kernel
theorem dX1_init_51 : decode cX1_init 51 = .ok (.bipush 6, 2) := by decide +kernel
theorem dX1_init_53 : decode cX1_init 53 = .ok (.newarray .int, 2) := by decide +kernel
theorem dX1_init_55 : decode cX1_init 55 = .ok (.putfield 35, 3) := by decide +kernel
theorem dX1_init_58 : decode cX1_init 58 = .ok (.aload_n 0, 1) := by decide +kernel
theorem dX1_init_59 : decode cX1_init 59 = .ok (.bipush 6, 2) := by decide +kernel
theorem dX1_init_61 : decode cX1_init 61 = .ok (.newarray .int, 2) := by decide +kernel
theorem dX1_init_63 : decode cX1_init 63 = .ok (.putfield 38, 3) := by decide +kernel
theorem dX1_init_66 : decode cX1_init 66 = .ok (.aload_n 0, 1) := by decide +kernel
theorem dX1_init_67 : decode cX1_init 67 = .ok (.iconst 0, 1) := by decide +kernel
theorem dX1_init_68 : decode cX1_init 68 = .ok (.putfield 41, 3) := by decide +kernel
theorem dX1_init_71 : decode cX1_init 71 = .ok (.aload_n 0, 1) := by decide +kernel
theorem dX1_init_72 : decode cX1_init 72 = .ok (.bipush 6, 2) := by decide +kernel
theorem dX1_init_74 : decode cX1_init 74 = .ok (.newarray .int, 2) := by decide +kernel
theorem dX1_init_76 : decode cX1_init 76 = .ok (.putfield 45, 3) := by decide +kernel
theorem dX1_init_79 : decode cX1_init 79 = .ok (.aload_n 0, 1) := by decide +kernel
theorem dX1_init_80 : decode cX1_init 80 = .ok (.bipush 6, 2) := by decide +kernel
theorem dX1_init_82 : decode cX1_init 82 = .ok (.newarray .int, 2) := by decide +kernel
theorem dX1_init_84 : decode cX1_init 84 = .ok (.putfield 48, 3) := by decide +kernel
theorem dX1_init_87 : decode cX1_init 87 = .ok (.aload_n 0, 1) := by decide +kernel
theorem dX1_init_88 : decode cX1_init 88 = .ok (.bipush 14, 2) := by decide +kernel
theorem dX1_init_90 : decode cX1_init 90 = .ok (.newarray .int, 2) := by decide +kernel
theorem dX1_init_92 : decode cX1_init 92 = .ok (.putfield 51, 3) := by decide +kernel
theorem dX1_init_95 : decode cX1_init 95 = .ok (.aload_n 0, 1) := by decide +kernel
theorem dX1_init_96 : decode cX1_init 96 = .ok (.new 54, 3) := by decide +kernel
theorem dX1_init_99 : decode cX1_init 99 = .ok (.dup, 1) := by decide +kernel
theorem dX1_init_100 : decode cX1_init 100 = .ok (.invokespecial 56, 3) := by decide +kernel
theorem dX1_init_103 : decode cX1_init 103 = .ok (.putfield 57, 3) := by decide +kernel
theorem dX1_init_106 : decode cX1_init 106 = .ok (.aload_n 0, 1) := by decide +kernel
theorem dX1_init_107 : decode cX1_init 107 = .ok (.new 61, 3) := by decide +kernel
theorem dX1_init_110 : decode cX1_init 110 = .ok (.dup, 1) := by decide +kernel
theorem dX1_init_111 : decode cX1_init 111 = .ok (.invokespecial 63, 3) := by decide +kernel
theorem dX1_init_114 : decode cX1_init 114 = .ok (.putfield 64, 3) := by decide +kernel
theorem dX1_init_117 : decode cX1_init 117 = .ok (.aload_n 0, 1) := by decide +kernel
theorem dX1_init_118 : decode cX1_init 118 = .ok (.iconst 0, 1) := by decide +kernel
theorem dX1_init_119 : decode cX1_init 119 = .ok (.putfield 68, 3) := by decide +kernel
theorem dX1_init_122 : decode cX1_init 122 = .ok (.aload_n 0, 1) := by decide +kernel
theorem dX1_init_123 : decode cX1_init 123 = .ok (.iconst 0, 1) := by decide +kernel
theorem dX1_init_124 : decode cX1_init 124 = .ok (.putfield 71, 3) := by decide +kernel
theorem dX1_init_127 : decode cX1_init 127 = .ok (.aload_n 0, 1) := by decide +kernel
theorem dX1_init_128 : decode cX1_init 128 = .ok (.iconst 0, 1) := by decide +kernel
theorem dX1_init_129 : decode cX1_init 129 = .ok (.putfield 74, 3) := by decide +kernel
theorem dX1_init_132 : decode cX1_init 132 = .ok (.aload_n 0, 1) := by decide +kernel
theorem dX1_init_133 : decode cX1_init 133 = .ok (.iconst 0, 1) := by decide +kernel
theorem dX1_init_134 : decode cX1_init 134 = .ok (.putfield 77, 3) := by decide +kernel
theorem dX1_init_137 : decode cX1_init 137 = .ok (.aload_n 0, 1) := by decide +kernel
theorem dX1_init_138 : decode cX1_init 138 = .ok (.iconst 0, 1) := by decide +kernel
theorem dX1_init_139 : decode cX1_init 139 = .ok (.putfield 80, 3) := by decide +kernel
theorem dX1_init_142 : decode cX1_init 142 = .ok (.return_, 1) := by decide +kernel
set_option maxHeartbeats 4000000 in
set_option maxRecDepth 100000 in
theorem mk_X1 (l : Launch) (G : Geo) (h0 sz : Nat) : Met l (ctY 1) (.code (ctY 1) cX1_init 1 none :: GC) ({ frames := 3, cells := 90, slots := 738, locals := 52 }) (MPre G 1 h0 sz) (MPost G 1 h0 sz ownX1 (csX1 G)) 90 738 (fun q => q = h0 ∨ sz ≤ q) := by
  refine Met.ofW (cc := cX1_init) (maxL := 1) (ret := none) (by decide) rfl ?_
  intro p e s m args below meth c s₁ B hml hv
  obtain ⟨rfl, hsz, hh, hP, hK, hN⟩ := hv
  subst hsz
  have hx := B.exec
  have hb := B.bytes
  have hr := B.returns
  have hts0 := atoms_spec (ws := .code (ctY 1) cX1_init 1 none :: GC) B.pre
  have hts : ∀ w ∈ GC, w.before _ s = true := fun w hw => hts0 w (List.mem_cons_of_mem _ hw)
  have hown : s.vm.findClass (clR 1) = some m.cls := findClass_of_methodNamed B.named
  have hlocks := B.notSynchronized
  have hin : meth.name = "<init>" := (name_of_methodNamed B.named B.method).1
  have C : CtX G 1 p s m _ meth c cX1_init := ⟨hx, hb, hown, hts, hK, hin, by decide⟩
  have K : KS G h0 1 [.null, .null, .null, .null, .null, .null, .null, .int 0, .null, .null, .null, .null, .null, .int 0, .int 0, .int 0, .int 0, .int 0] [] s.heap s.heap [] := ⟨hh, rfl, hP, va_S.rf⟩
  have hn : ([] : List va_E).length = 0 := rfl
  have c20 : s.vm.findClass ("[" ++ (FieldType.int).toString) = some (G.2.1 20) := (hK.2 0 _ rfl).2
  have c21 : s.vm.findClass ("[" ++ (FieldType.long).toString) = some (G.2.1 21) := (hK.2 1 _ rfl).2
  have c22 : s.vm.findClass ("[" ++ (FieldType.boolean).toString) = some (G.2.1 22) := (hK.2 2 _ rfl).2
  have hl := lv_entry ([.ref h0]) (n := 1) (Nat.le_of_ble_eq_true rfl)
  rw [lg_entry_eq]
  generalize (lg_sl ([.ref h0]) ++ List.replicate (1 - (lg_sl ([.ref h0])).length) Slot.unset).toArray = ls at hl ⊢
  have hl : lv_has ls 1 [(0, .ref h0)] := hl
  refine lv_aload_n hx hb dX1_init_0 rfl (lv_at hl 0 rfl) ?_
  refine W.objInit hx hb hown (hts _ gx_oi_1) (hts _ gx_in) (hts _ gx_co) rfl (by rw [hml]; exact hl.1) rfl dX1_init_1 (Nat.le_of_ble_eq_true rfl) (Nat.le_of_ble_eq_true rfl) ?_
  refine W.eq (g2 := F0 m 4 ls []) rfl ?_
  refine lv_aload_n hx hb dX1_init_4 rfl (lv_at hl 0 rfl) ?_
  refine mkA_new 8 0 hn C (by decide) gx_cl_1_9 gx_is_8 (Nat.le_of_ble_eq_true rfl) (Nat.le_of_ble_eq_true rfl) dX1_init_5 K (fun H1 K => ?_)
  refine lv_dup hx hb dX1_init_8 rfl ?_
  refine mkA_call (n1 := 17) (mk_X8 l G (s.heap.size + 0) (s.heap.size + 0 + 1)) hn rfl (len_cs8 _ _) rfl (by decide) gx_ic_8 gx_ii_8 (Or.inl (by decide)) C hN hml hl.1 rfl rfl (Nat.le_of_ble_eq_true rfl) (Nat.le_of_ble_eq_true rfl) (Nat.le_of_ble_eq_true rfl) (Nat.le_of_ble_eq_true rfl) (Nat.le_of_ble_eq_true rfl) dX1_init_9 K (fun H1 locs1 L1 e9 hn K => ?_)
  refine mk_put 0 (fs1 := [.ref (s.heap.size + 0), .null, .null, .null, .null, .null, .null, .int 0, .null, .null, .null, .null, .null, .int 0, .int 0, .int 0, .int 0, .int 0]) rfl C (by decide) (Nat.le_of_ble_eq_true rfl) gx_f_1_0 rfl ⟨rfl, rfl⟩ dX1_init_12 K (fun H1 locs1 K => ?_)
  refine lv_aload_n hx hb dX1_init_15 rfl (lv_at hl 0 rfl) ?_
  refine mkA_new 4 17 hn C (by decide) gx_cl_1_18 gx_is_4 (Nat.le_of_ble_eq_true rfl) (Nat.le_of_ble_eq_true rfl) dX1_init_16 K (fun H1 K => ?_)
  refine lv_dup hx hb dX1_init_19 rfl ?_
  refine mkA_call (n1 := 48) (mk_X4 l G (s.heap.size + 17) (s.heap.size + 17 + 1)) hn rfl (len_cs4 _ _) rfl (by decide) gx_ic_4 gx_ii_4 (Or.inl (by decide)) C hN hml hl.1 rfl rfl (Nat.le_of_ble_eq_true rfl) (Nat.le_of_ble_eq_true rfl) (Nat.le_of_ble_eq_true rfl) (Nat.le_of_ble_eq_true rfl) (Nat.le_of_ble_eq_true rfl) dX1_init_20 K (fun H1 locs1 L1 e20 hn K => ?_)
  refine mk_put 1 (fs1 := [.ref (s.heap.size + 0), .ref (s.heap.size + 17), .null, .null, .null, .null, .null, .int 0, .null, .null, .null, .null, .null, .int 0, .int 0, .int 0, .int 0, .int 0]) rfl C (by decide) (Nat.le_of_ble_eq_true rfl) gx_f_1_1 rfl ⟨rfl, rfl⟩ dX1_init_23 K (fun H1 locs1 K => ?_)
  refine lv_aload_n hx hb dX1_init_26 rfl (lv_at hl 0 rfl) ?_
  refine lv_bipush hx hb (v := 10) dX1_init_27 (by decide +kernel) ?_
  refine mkA_arr 10 48 49 (z := (10, .inl fun _ => 0)) rfl hn C gx_ai rfl c20 (fun _ => rfl) (by decide +kernel) (by decide +kernel) (by decide +kernel) (Nat.le_of_ble_eq_true rfl) (Nat.le_of_ble_eq_true rfl) dX1_init_29 K (fun H1 L1 e29 hn K => ?_)
  refine mk_put 2 (fs1 := [.ref (s.heap.size + 0), .ref (s.heap.size + 17), .ref (s.heap.size + 48), .null, .null, .null, .null, .int 0, .null, .null, .null, .null, .null, .int 0, .int 0, .int 0, .int 0, .int 0]) rfl C (by decide) (Nat.le_of_ble_eq_true rfl) gx_f_1_2 rfl ⟨rfl, rfl⟩ dX1_init_31 K (fun H1 locs1 K => ?_)
  refine lv_aload_n hx hb dX1_init_34 rfl (lv_at hl 0 rfl) ?_
  refine lv_bipush hx hb (v := 10) dX1_init_35 (by decide +kernel) ?_
  refine mkA_arr 10 49 50 (z := (10, .inl fun _ => 0)) rfl hn C gx_ai rfl c20 (fun _ => rfl) (by decide +kernel) (by decide +kernel) (by decide +kernel) (Nat.le_of_ble_eq_true rfl) (Nat.le_of_ble_eq_true rfl) dX1_init_37 K (fun H1 L1 e37 hn K => ?_)
  refine mk_put 3 (fs1 := [.ref (s.heap.size + 0), .ref (s.heap.size + 17), .ref (s.heap.size + 48), .ref (s.heap.size + 49), .null, .null, .null, .int 0, .null, .null, .null, .null, .null, .int 0, .int 0, .int 0, .int 0, .int 0]) rfl C (by decide) (Nat.le_of_ble_eq_true rfl) gx_f_1_3 rfl ⟨rfl, rfl⟩ dX1_init_39 K (fun H1 locs1 K => ?_)
  refine lv_aload_n hx hb dX1_init_42 rfl (lv_at hl 0 rfl) ?_
  refine lv_bipush hx hb (v := 10) dX1_init_43 (by decide +kernel) ?_
  refine mkA_arr 10 50 51 (z := (10, .inl fun _ => 0)) rfl hn C gx_ai rfl c20 (fun _ => rfl) (by decide +kernel) (by decide +kernel) (by decide +kernel) (Nat.le_of_ble_eq_true rfl) (Nat.le_of_ble_eq_true rfl) dX1_init_45 K (fun H1 L1 e45 hn K => ?_)
  refine mk_put 4 (fs1 := [.ref (s.heap.size + 0), .ref (s.heap.size + 17), .ref (s.heap.size + 48), .ref (s.heap.size + 49), .ref (s.heap.size + 50), .null, .null, .int 0, .null, .null, .null, .null, .null, .int 0, .int 0, .int 0, .int 0, .int 0]) rfl C (by decide) (Nat.le_of_ble_eq_true rfl) gx_f_1_4 rfl ⟨rfl, rfl⟩ dX1_init_47 K (fun H1 locs1 K => ?_)
  refine lv_aload_n hx hb dX1_init_50 rfl (lv_at hl 0 rfl) ?_
  refine lv_bipush hx hb (v := 6) dX1_init_51 (by decide +kernel) ?_
  refine mkA_arr 6 51 52 (z := (6, .inl fun _ => 0)) rfl hn C gx_ai rfl c20 (fun _ => rfl) (by decide +kernel) (by decide +kernel) (by decide +kernel) (Nat.le_of_ble_eq_true rfl) (Nat.le_of_ble_eq_true rfl) dX1_init_53 K (fun H1 L1 e53 hn K => ?_)
  refine mk_put 5 (fs1 := [.ref (s.heap.size + 0), .ref (s.heap.size + 17), .ref (s.heap.size + 48), .ref (s.heap.size + 49), .ref (s.heap.size + 50), .ref (s.heap.size + 51), .null, .int 0, .null, .null, .null, .null, .null, .int 0, .int 0, .int 0, .int 0, .int 0]) rfl C (by decide) (Nat.le_of_ble_eq_true rfl) gx_f_1_5 rfl ⟨rfl, rfl⟩ dX1_init_55 K (fun H1 locs1 K => ?_)
  refine lv_aload_n hx hb dX1_init_58 rfl (lv_at hl 0 rfl) ?_
  refine lv_bipush hx hb (v := 6) dX1_init_59 (by decide +kernel) ?_
  refine mkA_arr 6 52 53 (z := (6, .inl fun _ => 0)) rfl hn C gx_ai rfl c20 (fun _ => rfl) (by decide +kernel) (by decide +kernel) (by decide +kernel) (Nat.le_of_ble_eq_true rfl) (Nat.le_of_ble_eq_true rfl) dX1_init_61 K (fun H1 L1 e61 hn K => ?_)
  refine mk_put 6 (fs1 := [.ref (s.heap.size + 0), .ref (s.heap.size + 17), .ref (s.heap.size + 48), .ref (s.heap.size + 49), .ref (s.heap.size + 50), .ref (s.heap.size + 51), .ref (s.heap.size + 52), .int 0, .null, .null, .null, .null, .null, .int 0, .int 0, .int 0, .int 0, .int 0]) rfl C (by decide) (Nat.le_of_ble_eq_true rfl) gx_f_1_6 rfl ⟨rfl, rfl⟩ dX1_init_63 K (fun H1 locs1 K => ?_)
  refine lv_aload_n hx hb dX1_init_66 rfl (lv_at hl 0 rfl) ?_
  refine lv_iconst hx hb (v := 0) dX1_init_67 (by decide +kernel) ?_
  refine mk_put 7 (fs1 := [.ref (s.heap.size + 0), .ref (s.heap.size + 17), .ref (s.heap.size + 48), .ref (s.heap.size + 49), .ref (s.heap.size + 50), .ref (s.heap.size + 51), .ref (s.heap.size + 52), .int 0, .null, .null, .null, .null, .null, .int 0, .int 0, .int 0, .int 0, .int 0]) rfl C (by decide) (Nat.le_of_ble_eq_true rfl) gx_f_1_7 rfl ⟨rfl, rfl⟩ dX1_init_68 K (fun H1 locs1 K => ?_)
  refine lv_aload_n hx hb dX1_init_71 rfl (lv_at hl 0 rfl) ?_
  refine lv_bipush hx hb (v := 6) dX1_init_72 (by decide +kernel) ?_
  refine mkA_arr 6 53 54 (z := (6, .inl fun _ => 0)) rfl hn C gx_ai rfl c20 (fun _ => rfl) (by decide +kernel) (by decide +kernel) (by decide +kernel) (Nat.le_of_ble_eq_true rfl) (Nat.le_of_ble_eq_true rfl) dX1_init_74 K (fun H1 L1 e74 hn K => ?_)
  refine mk_put 8 (fs1 := [.ref (s.heap.size + 0), .ref (s.heap.size + 17), .ref (s.heap.size + 48), .ref (s.heap.size + 49), .ref (s.heap.size + 50), .ref (s.heap.size + 51), .ref (s.heap.size + 52), .int 0, .ref (s.heap.size + 53), .null, .null, .null, .null, .int 0, .int 0, .int 0, .int 0, .int 0]) rfl C (by decide) (Nat.le_of_ble_eq_true rfl) gx_f_1_8 rfl ⟨rfl, rfl⟩ dX1_init_76 K (fun H1 locs1 K => ?_)
  refine lv_aload_n hx hb dX1_init_79 rfl (lv_at hl 0 rfl) ?_
  refine lv_bipush hx hb (v := 6) dX1_init_80 (by decide +kernel) ?_
  refine mkA_arr 6 54 55 (z := (6, .inl fun _ => 0)) rfl hn C gx_ai rfl c20 (fun _ => rfl) (by decide +kernel) (by decide +kernel) (by decide +kernel) (Nat.le_of_ble_eq_true rfl) (Nat.le_of_ble_eq_true rfl) dX1_init_82 K (fun H1 L1 e82 hn K => ?_)
  refine mk_put 9 (fs1 := [.ref (s.heap.size + 0), .ref (s.heap.size + 17), .ref (s.heap.size + 48), .ref (s.heap.size + 49), .ref (s.heap.size + 50), .ref (s.heap.size + 51), .ref (s.heap.size + 52), .int 0, .ref (s.heap.size + 53), .ref (s.heap.size + 54), .null, .null, .null, .int 0, .int 0, .int 0, .int 0, .int 0]) rfl C (by decide) (Nat.le_of_ble_eq_true rfl) gx_f_1_9 rfl ⟨rfl, rfl⟩ dX1_init_84 K (fun H1 locs1 K => ?_)
  refine lv_aload_n hx hb dX1_init_87 rfl (lv_at hl 0 rfl) ?_
  refine lv_bipush hx hb (v := 14) dX1_init_88 (by decide +kernel) ?_
  refine mkA_arr 14 55 56 (z := (14, .inl fun _ => 0)) rfl hn C gx_ai rfl c20 (fun _ => rfl) (by decide +kernel) (by decide +kernel) (by decide +kernel) (Nat.le_of_ble_eq_true rfl) (Nat.le_of_ble_eq_true rfl) dX1_init_90 K (fun H1 L1 e90 hn K => ?_)
  refine mk_put 10 (fs1 := [.ref (s.heap.size + 0), .ref (s.heap.size + 17), .ref (s.heap.size + 48), .ref (s.heap.size + 49), .ref (s.heap.size + 50), .ref (s.heap.size + 51), .ref (s.heap.size + 52), .int 0, .ref (s.heap.size + 53), .ref (s.heap.size + 54), .ref (s.heap.size + 55), .null, .null, .int 0, .int 0, .int 0, .int 0, .int 0]) rfl C (by decide) (Nat.le_of_ble_eq_true rfl) gx_f_1_10 rfl ⟨rfl, rfl⟩ dX1_init_92 K (fun H1 locs1 K => ?_)
  refine lv_aload_n hx hb dX1_init_95 rfl (lv_at hl 0 rfl) ?_
  refine mkA_new 3 56 hn C (by decide) gx_cl_1_54 gx_is_3 (Nat.le_of_ble_eq_true rfl) (Nat.le_of_ble_eq_true rfl) dX1_init_96 K (fun H1 K => ?_)
  refine lv_dup hx hb dX1_init_99 rfl ?_
  refine mkA_call (n1 := 84) (mk_X3 l G (s.heap.size + 56) (s.heap.size + 56 + 1)) hn rfl (len_cs3 _ _) rfl (by decide) gx_ic_3 gx_ii_3 (Or.inl (by decide)) C hN hml hl.1 rfl rfl (Nat.le_of_ble_eq_true rfl) (Nat.le_of_ble_eq_true rfl) (Nat.le_of_ble_eq_true rfl) (Nat.le_of_ble_eq_true rfl) (Nat.le_of_ble_eq_true rfl) dX1_init_100 K (fun H1 locs1 L1 e100 hn K => ?_)
  refine mk_put 11 (fs1 := [.ref (s.heap.size + 0), .ref (s.heap.size + 17), .ref (s.heap.size + 48), .ref (s.heap.size + 49), .ref (s.heap.size + 50), .ref (s.heap.size + 51), .ref (s.heap.size + 52), .int 0, .ref (s.heap.size + 53), .ref (s.heap.size + 54), .ref (s.heap.size + 55), .ref (s.heap.size + 56), .null, .int 0, .int 0, .int 0, .int 0, .int 0]) rfl C (by decide) (Nat.le_of_ble_eq_true rfl) gx_f_1_11 rfl ⟨rfl, rfl⟩ dX1_init_103 K (fun H1 locs1 K => ?_)
  refine lv_aload_n hx hb dX1_init_106 rfl (lv_at hl 0 rfl) ?_
  refine mkA_new 6 84 hn C (by decide) gx_cl_1_61 gx_is_6 (Nat.le_of_ble_eq_true rfl) (Nat.le_of_ble_eq_true rfl) dX1_init_107 K (fun H1 K => ?_)
  refine lv_dup hx hb dX1_init_110 rfl ?_
  refine mkA_call (n1 := 90) (mk_X6 l G (s.heap.size + 84) (s.heap.size + 84 + 1)) hn rfl (len_cs6 _ _) rfl (by decide) gx_ic_6 gx_ii_6 (Or.inl (by decide)) C hN hml hl.1 rfl rfl (Nat.le_of_ble_eq_true rfl) (Nat.le_of_ble_eq_true rfl) (Nat.le_of_ble_eq_true rfl) (Nat.le_of_ble_eq_true rfl) (Nat.le_of_ble_eq_true rfl) dX1_init_111 K (fun H1 locs1 L1 e111 hn K => ?_)
  refine mk_put 12 (fs1 := [.ref (s.heap.size + 0), .ref (s.heap.size + 17), .ref (s.heap.size + 48), .ref (s.heap.size + 49), .ref (s.heap.size + 50), .ref (s.heap.size + 51), .ref (s.heap.size + 52), .int 0, .ref (s.heap.size + 53), .ref (s.heap.size + 54), .ref (s.heap.size + 55), .ref (s.heap.size + 56), .ref (s.heap.size + 84), .int 0, .int 0, .int 0, .int 0, .int 0]) rfl C (by decide) (Nat.le_of_ble_eq_true rfl) gx_f_1_12 rfl ⟨rfl, rfl⟩ dX1_init_114 K (fun H1 locs1 K => ?_)
  refine lv_aload_n hx hb dX1_init_117 rfl (lv_at hl 0 rfl) ?_
  refine lv_iconst hx hb (v := 0) dX1_init_118 (by decide +kernel) ?_
  refine mk_put 13 (fs1 := [.ref (s.heap.size + 0), .ref (s.heap.size + 17), .ref (s.heap.size + 48), .ref (s.heap.size + 49), .ref (s.heap.size + 50), .ref (s.heap.size + 51), .ref (s.heap.size + 52), .int 0, .ref (s.heap.size + 53), .ref (s.heap.size + 54), .ref (s.heap.size + 55), .ref (s.heap.size + 56), .ref (s.heap.size + 84), .int 0, .int 0, .int 0, .int 0, .int 0]) rfl C (by decide) (Nat.le_of_ble_eq_true rfl) gx_f_1_13 rfl ⟨rfl, rfl⟩ dX1_init_119 K (fun H1 locs1 K => ?_)
  refine lv_aload_n hx hb dX1_init_122 rfl (lv_at hl 0 rfl) ?_
  refine lv_iconst hx hb (v := 0) dX1_init_123 (by decide +kernel) ?_
  refine mk_put 14 (fs1 := [.ref (s.heap.size + 0), .ref (s.heap.size + 17), .ref (s.heap.size + 48), .ref (s.heap.size + 49), .ref (s.heap.size + 50), .ref (s.heap.size + 51), .ref (s.heap.size + 52), .int 0, .ref (s.heap.size + 53), .ref (s.heap.size + 54), .ref (s.heap.size + 55), .ref (s.heap.size + 56), .ref (s.heap.size + 84), .int 0, .int 0, .int 0, .int 0, .int 0]) rfl C (by decide) (Nat.le_of_ble_eq_true rfl) gx_f_1_14 rfl ⟨rfl, rfl⟩ dX1_init_124 K (fun H1 locs1 K => ?_)
  refine lv_aload_n hx hb dX1_init_127 rfl (lv_at hl 0 rfl) ?_
  refine lv_iconst hx hb (v := 0) dX1_init_128 (by decide +kernel) ?_
  refine mk_put 15 (fs1 := [.ref (s.heap.size + 0), .ref (s.heap.size + 17), .ref (s.heap.size + 48), .ref (s.heap.size + 49), .ref (s.heap.size + 50), .ref (s.heap.size + 51), .ref (s.heap.size + 52), .int 0, .ref (s.heap.size + 53), .ref (s.heap.size + 54), .ref (s.heap.size + 55), .ref (s.heap.size + 56), .ref (s.heap.size + 84), .int 0, .int 0, .int 0, .int 0, .int 0]) rfl C (by decide) (Nat.le_of_ble_eq_true rfl) gx_f_1_15 rfl ⟨rfl, rfl⟩ dX1_init_129 K (fun H1 locs1 K => ?_)
  refine lv_aload_n hx hb dX1_init_132 rfl (lv_at hl 0 rfl) ?_
  refine lv_iconst hx hb (v := 0) dX1_init_133 (by decide +kernel) ?_
  refine mk_put 16 (fs1 := [.ref (s.heap.size + 0), .ref (s.heap.size + 17), .ref (s.heap.size + 48), .ref (s.heap.size + 49), .ref (s.heap.size + 50), .ref (s.heap.size + 51), .ref (s.heap.size + 52), .int 0, .ref (s.heap.size + 53), .ref (s.heap.size + 54), .ref (s.heap.size + 55), .ref (s.heap.size + 56), .ref (s.heap.size + 84), .int 0, .int 0, .int 0, .int 0, .int 0]) rfl C (by decide) (Nat.le_of_ble_eq_true rfl) gx_f_1_16 rfl ⟨rfl, rfl⟩ dX1_init_134 K (fun H1 locs1 K => ?_)
  refine lv_aload_n hx hb dX1_init_137 rfl (lv_at hl 0 rfl) ?_
  refine lv_iconst hx hb (v := 0) dX1_init_138 (by decide +kernel) ?_
  refine mk_put 17 (fs1 := [.ref (s.heap.size + 0), .ref (s.heap.size + 17), .ref (s.heap.size + 48), .ref (s.heap.size + 49), .ref (s.heap.size + 50), .ref (s.heap.size + 51), .ref (s.heap.size + 52), .int 0, .ref (s.heap.size + 53), .ref (s.heap.size + 54), .ref (s.heap.size + 55), .ref (s.heap.size + 56), .ref (s.heap.size + 84), .int 0, .int 0, .int 0, .int 0, .int 0]) rfl C (by decide) (Nat.le_of_ble_eq_true rfl) gx_f_1_17 rfl ⟨rfl, rfl⟩ dX1_init_139 K (fun H1 locs1 K => ?_)
  have eL : L1 = csX1 G s.heap.size := by rw [e111, e100, e90, e82, e74, e61, e53, e45, e37, e29, e20, e9]; rfl
  rw [eL] at K
  exact W.vret hx hb hr (fun t ht hW => ⟨rfl, by rw [ht]; exact K.2.1, by rw [ht]; exact K.2.2.1, K.2.2.2.F ht⟩) K.2.2.2.2.2 dX1_init_142
