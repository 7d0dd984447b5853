/-! The constructors. -/
def ownX7 (b : Nat) : List Value := [.ref (b + 0), .int 0]
def csX7 (G : Geo) (b : Nat) : List va_E := ([] ++ [.inl (G.2.1 20, 1600, .inl fun _ => 0)])
theorem len_cs7 (G : Geo) (b : Nat) : (csX7 G b).length = 1 := by rfl
theorem dX7_init_0 : decode cX7_init 0 = .ok (.aload_n 0, 1) := by decide +kernel
theorem dX7_init_1 : decode cX7_init 1 = .ok (.invokespecial 3, 3) := by decide +kernel
theorem dX7_init_4 : decode cX7_init 4 = .ok (.aload_n 0, 1) := by decide +kernel
theorem dX7_init_5 : decode cX7_init 5 = .ok (.sipush 1600, 3) := by decide +kernel
theorem dX7_init_8 : decode cX7_init 8 = .ok (.newarray .int, 2) := by decide +kernel
theorem dX7_init_10 : decode cX7_init 10 = .ok (.putfield 9, 3) := by decide +kernel
theorem dX7_init_13 : decode cX7_init 13 = .ok (.aload_n 0, 1) := by decide +kernel
theorem dX7_init_14 : decode cX7_init 14 = .ok (.iconst 0, 1) := by decide +kernel
theorem dX7_init_15 : decode cX7_init 15 = .ok (.putfield 15, 3) := by decide +kernel
theorem dX7_init_18 : decode cX7_init 18 = .ok (.return_, 1) := by decide +kernel
set_option maxHeartbeats 4000000 in
set_option maxRecDepth 100000 in
theorem mk_X7 (l : Launch) (G : Geo) (h0 sz : Nat) : Met l (ctY 7) (.code (ctY 7) cX7_init 1 none :: GC) ({ frames := 1, cells := 1, slots := 1600, locals := 12 }) (MPre G 7 h0 sz) (MPost G 7 h0 sz ownX7 (csX7 G)) 1 1600 (fun q => q = h0 ∨ sz ≤ q) := by
  refine Met.ofW (cc := cX7_init) (maxL := 1) (ret := none) (by decide) rfl ?_
  intro p e s m args below meth c s₁ B hml hv
  obtain ⟨rfl, hsz, hh, hP, hK, hN⟩ := hv
  subst hsz
  have hx := B.exec
  have hb := B.bytes
  have hr := B.returns
  have hts0 := atoms_spec (ws := .code (ctY 7) cX7_init 1 none :: GC) B.pre
  have hts : ∀ w ∈ GC, w.before _ s = true := fun w hw => hts0 w (List.mem_cons_of_mem _ hw)
  have hown : s.vm.findClass (clR 7) = some m.cls := findClass_of_methodNamed B.named
  have hlocks := B.notSynchronized
  have hin : meth.name = "<init>" := (name_of_methodNamed B.named B.method).1
  have C : CtX G 7 p s m _ meth c cX7_init := ⟨hx, hb, hown, hts, hK, hin, by decide⟩
  have K : KS G h0 7 [.null, .int 0] [] s.heap s.heap [] := ⟨hh, rfl, hP, va_S.rf⟩
  have hn : ([] : List va_E).length = 0 := rfl
  have c20 : s.vm.findClass ("[" ++ (FieldType.int).toString) = some (G.2.1 20) := (hK.2 0 _ rfl).2
  have c21 : s.vm.findClass ("[" ++ (FieldType.long).toString) = some (G.2.1 21) := (hK.2 1 _ rfl).2
  have c22 : s.vm.findClass ("[" ++ (FieldType.boolean).toString) = some (G.2.1 22) := (hK.2 2 _ rfl).2
  have hl := lv_entry ([.ref h0]) (n := 1) (Nat.le_of_ble_eq_true rfl)
  rw [lg_entry_eq]
  generalize (lg_sl ([.ref h0]) ++ List.replicate (1 - (lg_sl ([.ref h0])).length) Slot.unset).toArray = ls at hl ⊢
  have hl : lv_has ls 1 [(0, .ref h0)] := hl
  refine lv_aload_n hx hb dX7_init_0 rfl (lv_at hl 0 rfl) ?_
  refine W.objInit hx hb hown (hts _ gx_oi_7) (hts _ gx_in) (hts _ gx_co) rfl (by rw [hml]; exact hl.1) rfl dX7_init_1 (Nat.le_of_ble_eq_true rfl) (Nat.le_of_ble_eq_true rfl) ?_
  refine W.eq (g2 := F0 m 4 ls []) rfl ?_
  refine lv_aload_n hx hb dX7_init_4 rfl (lv_at hl 0 rfl) ?_
  refine lv_sipush hx hb (v := 1600) dX7_init_5 (by decide +kernel) ?_
  refine mkA_arr 1600 0 1 (z := (1600, .inl fun _ => 0)) rfl hn C gx_ai rfl c20 (fun _ => rfl) (by decide +kernel) (by decide +kernel) (by decide +kernel) (Nat.le_of_ble_eq_true rfl) (Nat.le_of_ble_eq_true rfl) dX7_init_8 K (fun H1 L1 e8 hn K => ?_)
  refine mk_put 0 (fs1 := [.ref (s.heap.size + 0), .int 0]) rfl C (by decide) (Nat.le_of_ble_eq_true rfl) gx_f_7_0 rfl ⟨rfl, rfl⟩ dX7_init_10 K (fun H1 locs1 K => ?_)
  refine lv_aload_n hx hb dX7_init_13 rfl (lv_at hl 0 rfl) ?_
  refine lv_iconst hx hb (v := 0) dX7_init_14 (by decide +kernel) ?_
  refine mk_put 1 (fs1 := [.ref (s.heap.size + 0), .int 0]) rfl C (by decide) (Nat.le_of_ble_eq_true rfl) gx_f_7_1 rfl ⟨rfl, rfl⟩ dX7_init_15 K (fun H1 locs1 K => ?_)
  have eL : L1 = csX7 G s.heap.size := by rw [e8]; rfl
  rw [eL] at K
  exact W.vret hx hb hr (fun t ht hW => ⟨rfl, by rw [ht]; exact K.2.1, by rw [ht]; exact K.2.2.1, K.2.2.2.F ht⟩) K.2.2.2.2.2 dX7_init_18
def ownX9 (b : Nat) : List Value := [.ref (b + 0), .ref (b + 1), .ref (b + 2), .int 0, .int (-1)]
def csX9 (G : Geo) (b : Nat) : List va_E := ((([] ++ [.inl (G.2.1 20, 1601, .inl fun _ => 0)]) ++ [.inl (G.2.1 20, 1601, .inl fun _ => 0)]) ++ [.inl (G.2.1 20, 1601, .inl fun _ => 0)])
theorem len_cs9 (G : Geo) (b : Nat) : (csX9 G b).length = 3 := by rfl
theorem dX9_init_0 : decode cX9_init 0 = .ok (.aload_n 0, 1) := by decide +kernel
theorem dX9_init_1 : decode cX9_init 1 = .ok (.invokespecial 3, 3) := by decide +kernel
theorem dX9_init_4 : decode cX9_init 4 = .ok (.aload_n 0, 1) := by decide +kernel
theorem dX9_init_5 : decode cX9_init 5 = .ok (.sipush 1601, 3) := by decide +kernel
theorem dX9_init_8 : decode cX9_init 8 = .ok (.newarray .int, 2) := by decide +kernel
theorem dX9_init_10 : decode cX9_init 10 = .ok (.putfield 9, 3) := by decide +kernel
theorem dX9_init_13 : decode cX9_init 13 = .ok (.aload_n 0, 1) := by decide +kernel
theorem dX9_init_14 : decode cX9_init 14 = .ok (.sipush 1601, 3) := by decide +kernel
theorem dX9_init_17 : decode cX9_init 17 = .ok (.newarray .int, 2) := by decide +kernel
theorem dX9_init_19 : decode cX9_init 19 = .ok (.putfield 15, 3) := by decide +kernel
theorem dX9_init_22 : decode cX9_init 22 = .ok (.aload_n 0, 1) := by decide +kernel
theorem dX9_init_23 : decode cX9_init 23 = .ok (.sipush 1601, 3) := by decide +kernel
theorem dX9_init_26 : decode cX9_init 26 = .ok (.newarray .int, 2) := by decide +kernel
theorem dX9_init_28 : decode cX9_init 28 = .ok (.putfield 18, 3) := by decide +kernel
theorem dX9_init_31 : decode cX9_init 31 = .ok (.aload_n 0, 1) := by decide +kernel
theorem dX9_init_32 : decode cX9_init 32 = .ok (.iconst 0, 1) := by decide +kernel
theorem dX9_init_33 : decode cX9_init 33 = .ok (.putfield 21, 3) := by decide +kernel
theorem dX9_init_36 : decode cX9_init 36 = .ok (.aload_n 0, 1) := by decide +kernel
theorem dX9_init_37 : decode cX9_init 37 = .ok (.iconst (-1), 1) := by decide +kernel
theorem dX9_init_38 : decode cX9_init 38 = .ok (.putfield 25, 3) := by decide +kernel
theorem dX9_init_41 : decode cX9_init 41 = .ok (.return_, 1) := by decide +kernel
set_option maxHeartbeats 4000000 in
set_option maxRecDepth 100000 in
theorem mk_X9 (l : Launch) (G : Geo) (h0 sz : Nat) : Met l (ctY 9) (.code (ctY 9) cX9_init 1 none :: GC) ({ frames := 1, cells := 3, slots := 4803, locals := 12 }) (MPre G 9 h0 sz) (MPost G 9 h0 sz ownX9 (csX9 G)) 3 4803 (fun q => q = h0 ∨ sz ≤ q) := by
  refine Met.ofW (cc := cX9_init) (maxL := 1) (ret := none) (by decide) rfl ?_
  intro p e s m args below meth c s₁ B hml hv
  obtain ⟨rfl, hsz, hh, hP, hK, hN⟩ := hv
  subst hsz
  have hx := B.exec
  have hb := B.bytes
  have hr := B.returns
  have hts0 := atoms_spec (ws := .code (ctY 9) cX9_init 1 none :: GC) B.pre
  have hts : ∀ w ∈ GC, w.before _ s = true := fun w hw => hts0 w (List.mem_cons_of_mem _ hw)
  have hown : s.vm.findClass (clR 9) = some m.cls := findClass_of_methodNamed B.named
  have hlocks := B.notSynchronized
  have hin : meth.name = "<init>" := (name_of_methodNamed B.named B.method).1
  have C : CtX G 9 p s m _ meth c cX9_init := ⟨hx, hb, hown, hts, hK, hin, by decide⟩
  have K : KS G h0 9 [.null, .null, .null, .int 0, .int 0] [] s.heap s.heap [] := ⟨hh, rfl, hP, va_S.rf⟩
  have hn : ([] : List va_E).length = 0 := rfl
  have c20 : s.vm.findClass ("[" ++ (FieldType.int).toString) = some (G.2.1 20) := (hK.2 0 _ rfl).2
  have c21 : s.vm.findClass ("[" ++ (FieldType.long).toString) = some (G.2.1 21) := (hK.2 1 _ rfl).2
  have c22 : s.vm.findClass ("[" ++ (FieldType.boolean).toString) = some (G.2.1 22) := (hK.2 2 _ rfl).2
  have hl := lv_entry ([.ref h0]) (n := 1) (Nat.le_of_ble_eq_true rfl)
  rw [lg_entry_eq]
  generalize (lg_sl ([.ref h0]) ++ List.replicate (1 - (lg_sl ([.ref h0])).length) Slot.unset).toArray = ls at hl ⊢
  have hl : lv_has ls 1 [(0, .ref h0)] := hl
  refine lv_aload_n hx hb dX9_init_0 rfl (lv_at hl 0 rfl) ?_
  refine W.objInit hx hb hown (hts _ gx_oi_9) (hts _ gx_in) (hts _ gx_co) rfl (by rw [hml]; exact hl.1) rfl dX9_init_1 (Nat.le_of_ble_eq_true rfl) (Nat.le_of_ble_eq_true rfl) ?_
  refine W.eq (g2 := F0 m 4 ls []) rfl ?_
  refine lv_aload_n hx hb dX9_init_4 rfl (lv_at hl 0 rfl) ?_
  refine lv_sipush hx hb (v := 1601) dX9_init_5 (by decide +kernel) ?_
  refine mkA_arr 1601 0 1 (z := (1601, .inl fun _ => 0)) rfl hn C gx_ai rfl c20 (fun _ => rfl) (by decide +kernel) (by decide +kernel) (by decide +kernel) (Nat.le_of_ble_eq_true rfl) (Nat.le_of_ble_eq_true rfl) dX9_init_8 K (fun H1 L1 e8 hn K => ?_)
  refine mk_put 0 (fs1 := [.ref (s.heap.size + 0), .null, .null, .int 0, .int 0]) rfl C (by decide) (Nat.le_of_ble_eq_true rfl) gx_f_9_0 rfl ⟨rfl, rfl⟩ dX9_init_10 K (fun H1 locs1 K => ?_)
  refine lv_aload_n hx hb dX9_init_13 rfl (lv_at hl 0 rfl) ?_
  refine lv_sipush hx hb (v := 1601) dX9_init_14 (by decide +kernel) ?_
  refine mkA_arr 1601 1 2 (z := (1601, .inl fun _ => 0)) rfl hn C gx_ai rfl c20 (fun _ => rfl) (by decide +kernel) (by decide +kernel) (by decide +kernel) (Nat.le_of_ble_eq_true rfl) (Nat.le_of_ble_eq_true rfl) dX9_init_17 K (fun H1 L1 e17 hn K => ?_)
  refine mk_put 1 (fs1 := [.ref (s.heap.size + 0), .ref (s.heap.size + 1), .null, .int 0, .int 0]) rfl C (by decide) (Nat.le_of_ble_eq_true rfl) gx_f_9_1 rfl ⟨rfl, rfl⟩ dX9_init_19 K (fun H1 locs1 K => ?_)
  refine lv_aload_n hx hb dX9_init_22 rfl (lv_at hl 0 rfl) ?_
  refine lv_sipush hx hb (v := 1601) dX9_init_23 (by decide +kernel) ?_
  refine mkA_arr 1601 2 3 (z := (1601, .inl fun _ => 0)) rfl hn C gx_ai rfl c20 (fun _ => rfl) (by decide +kernel) (by decide +kernel) (by decide +kernel) (Nat.le_of_ble_eq_true rfl) (Nat.le_of_ble_eq_true rfl) dX9_init_26 K (fun H1 L1 e26 hn K => ?_)
  refine mk_put 2 (fs1 := [.ref (s.heap.size + 0), .ref (s.heap.size + 1), .ref (s.heap.size + 2), .int 0, .int 0]) rfl C (by decide) (Nat.le_of_ble_eq_true rfl) gx_f_9_2 rfl ⟨rfl, rfl⟩ dX9_init_28 K (fun H1 locs1 K => ?_)
  refine lv_aload_n hx hb dX9_init_31 rfl (lv_at hl 0 rfl) ?_
  refine lv_iconst hx hb (v := 0) dX9_init_32 (by decide +kernel) ?_
  refine mk_put 3 (fs1 := [.ref (s.heap.size + 0), .ref (s.heap.size + 1), .ref (s.heap.size + 2), .int 0, .int 0]) rfl C (by decide) (Nat.le_of_ble_eq_true rfl) gx_f_9_3 rfl ⟨rfl, rfl⟩ dX9_init_33 K (fun H1 locs1 K => ?_)
  refine lv_aload_n hx hb dX9_init_36 rfl (lv_at hl 0 rfl) ?_
  refine lv_iconst hx hb (v := (-1)) dX9_init_37 (by decide +kernel) ?_
  refine mk_put 4 (fs1 := [.ref (s.heap.size + 0), .ref (s.heap.size + 1), .ref (s.heap.size + 2), .int 0, .int (-1)]) rfl C (by decide) (Nat.le_of_ble_eq_true rfl) gx_f_9_4 rfl ⟨rfl, rfl⟩ dX9_init_38 K (fun H1 locs1 K => ?_)
  have eL : L1 = csX9 G s.heap.size := by rw [e26, e17, e8]; rfl
  rw [eL] at K
  exact W.vret hx hb hr (fun t ht hW => ⟨rfl, by rw [ht]; exact K.2.1, by rw [ht]; exact K.2.2.1, K.2.2.2.F ht⟩) K.2.2.2.2.2 dX9_init_41
def ownX2 (b : Nat) : List Value := [.int 0, .ref (b + 0), .ref (b + 1), .ref (b + 2), .int 0]
def csX2 (G : Geo) (b : Nat) : List va_E := ((([] ++ [.inl (G.2.1 20, 1024, .inl fun _ => 0)]) ++ [.inl (G.2.1 20, 1024, .inl fun _ => 0)]) ++ [.inl (G.2.1 22, 1024, .inl fun _ => 0)])
theorem len_cs2 (G : Geo) (b : Nat) : (csX2 G b).length = 3 := by rfl
theorem dX2_init_0 : decode cX2_init 0 = .ok (.aload_n 0, 1) := by decide +kernel
theorem dX2_init_1 : decode cX2_init 1 = .ok (.invokespecial 3, 3) := by decide +kernel
theorem dX2_init_4 : decode cX2_init 4 = .ok (.aload_n 0, 1) := by decide +kernel
theorem dX2_init_5 : decode cX2_init 5 = .ok (.iconst 0, 1) := by decide +kernel
theorem dX2_init_6 : decode cX2_init 6 = .ok (.putfield 9, 3) := by decide +kernel
theorem dX2_init_9 : decode cX2_init 9 = .ok (.aload_n 0, 1) := by decide +kernel
theorem dX2_init_10 : decode cX2_init 10 = .ok (.sipush 1024, 3) := by decide +kernel
theorem dX2_init_13 : decode cX2_init 13 = .ok (.newarray .int, 2) := by decide +kernel
theorem dX2_init_15 : decode cX2_init 15 = .ok (.putfield 15, 3) := by decide +kernel
theorem dX2_init_18 : decode cX2_init 18 = .ok (.aload_n 0, 1) := by decide +kernel
theorem dX2_init_19 : decode cX2_init 19 = .ok (.sipush 1024, 3) := by decide +kernel
theorem dX2_init_22 : decode cX2_init 22 = .ok (.newarray .int, 2) := by decide +kernel
theorem dX2_init_24 : decode cX2_init 24 = .ok (.putfield 19, 3) := by decide +kernel
theorem dX2_init_27 : decode cX2_init 27 = .ok (.aload_n 0, 1) := by decide +kernel
theorem dX2_init_28 : decode cX2_init 28 = .ok (.sipush 1024, 3) := by decide +kernel
theorem dX2_init_31 : decode cX2_init 31 = .ok (.newarray .boolean, 2) := by decide +kernel
theorem dX2_init_33 : decode cX2_init 33 = .ok (.putfield 22, 3) := by decide +kernel
theorem dX2_init_36 : decode cX2_init 36 = .ok (.aload_n 0, 1) := by decide +kernel
theorem dX2_init_37 : decode cX2_init 37 = .ok (.iconst 0, 1) := by decide +kernel
theorem dX2_init_38 : decode cX2_init 38 = .ok (.putfield 26, 3) := by decide +kernel
theorem dX2_init_41 : decode cX2_init 41 = .ok (.return_, 1) := by decide +kernel
set_option maxHeartbeats 4000000 in
set_option maxRecDepth 100000 in
theorem mk_X2 (l : Launch) (G : Geo) (h0 sz : Nat) : Met l (ctY 2) (.code (ctY 2) cX2_init 1 none :: GC) ({ frames := 1, cells := 3, slots := 3072, locals := 12 }) (MPre G 2 h0 sz) (MPost G 2 h0 sz ownX2 (csX2 G)) 3 3072 (fun q => q = h0 ∨ sz ≤ q) := by
  refine Met.ofW (cc := cX2_init) (maxL := 1) (ret := none) (by decide) rfl ?_
  intro p e s m args below meth c s₁ B hml hv
  obtain ⟨rfl, hsz, hh, hP, hK, hN⟩ := hv
  subst hsz
  have hx := B.exec
  have hb := B.bytes
  have hr := B.returns
  have hts0 := atoms_spec (ws := .code (ctY 2) cX2_init 1 none :: GC) B.pre
  have hts : ∀ w ∈ GC, w.before _ s = true := fun w hw => hts0 w (List.mem_cons_of_mem _ hw)
  have hown : s.vm.findClass (clR 2) = some m.cls := findClass_of_methodNamed B.named
  have hlocks := B.notSynchronized
  have hin : meth.name = "<init>" := (name_of_methodNamed B.named B.method).1
  have C : CtX G 2 p s m _ meth c cX2_init := ⟨hx, hb, hown, hts, hK, hin, by decide⟩
  have K : KS G h0 2 [.int 0, .null, .null, .null, .int 0] [] s.heap s.heap [] := ⟨hh, rfl, hP, va_S.rf⟩
  have hn : ([] : List va_E).length = 0 := rfl
  have c20 : s.vm.findClass ("[" ++ (FieldType.int).toString) = some (G.2.1 20) := (hK.2 0 _ rfl).2
  have c21 : s.vm.findClass ("[" ++ (FieldType.long).toString) = some (G.2.1 21) := (hK.2 1 _ rfl).2
  have c22 : s.vm.findClass ("[" ++ (FieldType.boolean).toString) = some (G.2.1 22) := (hK.2 2 _ rfl).2
  have hl := lv_entry ([.ref h0]) (n := 1) (Nat.le_of_ble_eq_true rfl)
  rw [lg_entry_eq]
  generalize (lg_sl ([.ref h0]) ++ List.replicate (1 - (lg_sl ([.ref h0])).length) Slot.unset).toArray = ls at hl ⊢
  have hl : lv_has ls 1 [(0, .ref h0)] := hl
  refine lv_aload_n hx hb dX2_init_0 rfl (lv_at hl 0 rfl) ?_
  refine W.objInit hx hb hown (hts _ gx_oi_2) (hts _ gx_in) (hts _ gx_co) rfl (by rw [hml]; exact hl.1) rfl dX2_init_1 (Nat.le_of_ble_eq_true rfl) (Nat.le_of_ble_eq_true rfl) ?_
  refine W.eq (g2 := F0 m 4 ls []) rfl ?_
  refine lv_aload_n hx hb dX2_init_4 rfl (lv_at hl 0 rfl) ?_
  refine lv_iconst hx hb (v := 0) dX2_init_5 (by decide +kernel) ?_
  refine mk_put 0 (fs1 := [.int 0, .null, .null, .null, .int 0]) rfl C (by decide) (Nat.le_of_ble_eq_true rfl) gx_f_2_0 rfl ⟨rfl, rfl⟩ dX2_init_6 K (fun H1 locs1 K => ?_)
  refine lv_aload_n hx hb dX2_init_9 rfl (lv_at hl 0 rfl) ?_
  refine lv_sipush hx hb (v := 1024) dX2_init_10 (by decide +kernel) ?_
  refine mkA_arr 1024 0 1 (z := (1024, .inl fun _ => 0)) rfl hn C gx_ai rfl c20 (fun _ => rfl) (by decide +kernel) (by decide +kernel) (by decide +kernel) (Nat.le_of_ble_eq_true rfl) (Nat.le_of_ble_eq_true rfl) dX2_init_13 K (fun H1 L1 e13 hn K => ?_)
  refine mk_put 1 (fs1 := [.int 0, .ref (s.heap.size + 0), .null, .null, .int 0]) rfl C (by decide) (Nat.le_of_ble_eq_true rfl) gx_f_2_1 rfl ⟨rfl, rfl⟩ dX2_init_15 K (fun H1 locs1 K => ?_)
  refine lv_aload_n hx hb dX2_init_18 rfl (lv_at hl 0 rfl) ?_
  refine lv_sipush hx hb (v := 1024) dX2_init_19 (by decide +kernel) ?_
  refine mkA_arr 1024 1 2 (z := (1024, .inl fun _ => 0)) rfl hn C gx_ai rfl c20 (fun _ => rfl) (by decide +kernel) (by decide +kernel) (by decide +kernel) (Nat.le_of_ble_eq_true rfl) (Nat.le_of_ble_eq_true rfl) dX2_init_22 K (fun H1 L1 e22 hn K => ?_)
  refine mk_put 2 (fs1 := [.int 0, .ref (s.heap.size + 0), .ref (s.heap.size + 1), .null, .int 0]) rfl C (by decide) (Nat.le_of_ble_eq_true rfl) gx_f_2_2 rfl ⟨rfl, rfl⟩ dX2_init_24 K (fun H1 locs1 K => ?_)
  refine lv_aload_n hx hb dX2_init_27 rfl (lv_at hl 0 rfl) ?_
  refine lv_sipush hx hb (v := 1024) dX2_init_28 (by decide +kernel) ?_
  refine mkA_arr 1024 2 3 (z := (1024, .inl fun _ => 0)) rfl hn C gx_az rfl c22 (fun _ => rfl) (by decide +kernel) (by decide +kernel) (by decide +kernel) (Nat.le_of_ble_eq_true rfl) (Nat.le_of_ble_eq_true rfl) dX2_init_31 K (fun H1 L1 e31 hn K => ?_)
  refine mk_put 3 (fs1 := [.int 0, .ref (s.heap.size + 0), .ref (s.heap.size + 1), .ref (s.heap.size + 2), .int 0]) rfl C (by decide) (Nat.le_of_ble_eq_true rfl) gx_f_2_3 rfl ⟨rfl, rfl⟩ dX2_init_33 K (fun H1 locs1 K => ?_)
  refine lv_aload_n hx hb dX2_init_36 rfl (lv_at hl 0 rfl) ?_
  refine lv_iconst hx hb (v := 0) dX2_init_37 (by decide +kernel) ?_
  refine mk_put 4 (fs1 := [.int 0, .ref (s.heap.size + 0), .ref (s.heap.size + 1), .ref (s.heap.size + 2), .int 0]) rfl C (by decide) (Nat.le_of_ble_eq_true rfl) gx_f_2_4 rfl ⟨rfl, rfl⟩ dX2_init_38 K (fun H1 locs1 K => ?_)
  have eL : L1 = csX2 G s.heap.size := by rw [e31, e22, e13]; rfl
  rw [eL] at K
  exact W.vret hx hb hr (fun t ht hW => ⟨rfl, by rw [ht]; exact K.2.1, by rw [ht]; exact K.2.2.1, K.2.2.2.F ht⟩) K.2.2.2.2.2 dX2_init_41
