/-! The constructors. -/
def ownX6 (b : Nat) : List Value := [.int 0, .int 0, .int 0, .ref (b + 0), .ref (b + 1), .ref (b + 2), .ref (b + 3), .ref (b + 4)]
def csX6 (G : Geo) (b : Nat) : List va_E := ((((([] ++ [.inl (G.2.1 20, 10, .inl fun _ => 0)]) ++ [.inl (G.2.1 20, 10, .inl fun _ => 0)]) ++ [.inl (G.2.1 20, 10, .inl fun _ => 0)]) ++ [.inl (G.2.1 20, 10, .inl fun _ => 0)]) ++ [.inl (G.2.1 20, 10, .inl fun _ => 0)])
theorem len_cs6 (G : Geo) (b : Nat) : (csX6 G b).length = 5 := by first | rfl | simp [csX6, mat]
theorem dX6_init_0 : decode cX6_init 0 = .ok (.aload_n 0, 1) := by decide +kernel
theorem dX6_init_1 : decode cX6_init 1 = .ok (.invokespecial 3, 3) := by decide +kernel
theorem dX6_init_4 : decode cX6_init 4 = .ok (.aload_n 0, 1) := by decide +kernel
theorem dX6_init_5 : decode cX6_init 5 = .ok (.iconst 0, 1) := by decide +kernel
theorem dX6_init_6 : decode cX6_init 6 = .ok (.putfield 9, 3) := by decide +kernel
theorem dX6_init_9 : decode cX6_init 9 = .ok (.aload_n 0, 1) := by decide +kernel
theorem dX6_init_10 : decode cX6_init 10 = .ok (.iconst 0, 1) := by decide +kernel
theorem dX6_init_11 : decode cX6_init 11 = .ok (.putfield 15, 3) := by decide +kernel
theorem dX6_init_14 : decode cX6_init 14 = .ok (.aload_n 0, 1) := by decide +kernel
theorem dX6_init_15 : decode cX6_init 15 = .ok (.iconst 0, 1) := by decide +kernel
theorem dX6_init_16 : decode cX6_init 16 = .ok (.putfield 18, 3) := by decide +kernel
theorem dX6_init_19 : decode cX6_init 19 = .ok (.aload_n 0, 1) := by decide +kernel
theorem dX6_init_20 : decode cX6_init 20 = .ok (.bipush 10, 2) := by decide +kernel
theorem dX6_init_22 : decode cX6_init 22 = .ok (.newarray .int, 2) := by decide +kernel
theorem dX6_init_24 : decode cX6_init 24 = .ok (.putfield 21, 3) := by decide +kernel
theorem dX6_init_27 : decode cX6_init 27 = .ok (.aload_n 0, 1) := by decide +kernel
theorem dX6_init_28 : decode cX6_init 28 = .ok (.bipush 10, 2) := by decide +kernel
theorem dX6_init_30 : decode cX6_init 30 = .ok (.newarray .int, 2) := by decide +kernel
theorem dX6_init_32 : decode cX6_init 32 = .ok (.putfield 25, 3) := by decide +kernel
theorem dX6_init_35 : decode cX6_init 35 = .ok (.aload_n 0, 1) := by decide +kernel
theorem dX6_init_36 : decode cX6_init 36 = .ok (.bipush 10, 2) := by decide +kernel
theorem dX6_init_38 : decode cX6_init 38 = .ok (.newarray .int, 2) := by decide +kernel
theorem dX6_init_40 : decode cX6_init 40 = .ok (.putfield 28, 3) := by decide +kernel
theorem dX6_init_43 : decode cX6_init 43 = .ok (.aload_n 0, 1) := by decide +kernel
theorem dX6_init_44 : decode cX6_init 44 = .ok (.bipush 10, 2) := by decide +kernel
theorem dX6_init_46 : decode cX6_init 46 = .ok (.newarray .int, 2) := by decide +kernel
theorem dX6_init_48 : decode cX6_init 48 = .ok (.putfield 31, 3) := by decide +kernel
theorem dX6_init_51 : decode cX6_init 51 = .ok (.aload_n 0, 1) := by decide +kernel
theorem dX6_init_52 : decode cX6_init 52 = .ok (.bipush 10, 2) := by decide +kernel
theorem dX6_init_54 : decode cX6_init 54 = .ok (.newarray .int, 2) := by decide +kernel
theorem dX6_init_56 : decode cX6_init 56 = .ok (.putfield 34, 3) := by decide +kernel
theorem dX6_init_59 : decode cX6_init 59 = .ok (.return_, 1) := by decide +kernel
set_option maxHeartbeats 4000000 in
set_option maxRecDepth 100000 in
theorem mk_X6 (l : Launch) (G : Geo) (h0 sz : Nat) : Met l (ctY 6) (.code (ctY 6) cX6_init 1 none :: GC) ({ frames := 1, cells := 5, slots := 50, locals := 12 }) (MPre G 6 h0 sz) (MPost G 6 h0 sz ownX6 (csX6 G)) 5 50 (fun q => q = h0 ∨ sz ≤ q) := by
  refine Met.ofW (cc := cX6_init) (maxL := 1) (ret := none) (by decide) rfl ?_
  intro p e s m args below meth c s₁ B hml hv
  obtain ⟨rfl, hsz, hh, hP, hK, hN⟩ := hv
  subst hsz
  have hx := B.exec
  have hb := B.bytes
  have hr := B.returns
  have hts0 := atoms_spec (ws := .code (ctY 6) cX6_init 1 none :: GC) B.pre
  have hts : ∀ w ∈ GC, w.before _ s = true := fun w hw => hts0 w (List.mem_cons_of_mem _ hw)
  have hown : s.vm.findClass (clR 6) = some m.cls := findClass_of_methodNamed B.named
  have hlocks := B.notSynchronized
  have hin : meth.name = "<init>" := (name_of_methodNamed B.named B.method).1
  have C : CX G 6 p s m _ meth c cX6_init := ⟨hx, hb, hown, hts, hK, hin, by decide⟩
  have K : KS G h0 6 [.int 0, .int 0, .int 0, .null, .null, .null, .null, .null] [] s.heap s.heap [] := ⟨hh, rfl, hP, va_S.rf⟩
  have c20 : s.vm.findClass ("[" ++ (FieldType.int).toString) = some (G.2.1 20) := (hK.2 0 _ rfl).2
  have c21 : s.vm.findClass ("[" ++ (FieldType.long).toString) = some (G.2.1 21) := (hK.2 1 _ rfl).2
  have c22 : s.vm.findClass ("[" ++ (FieldType.boolean).toString) = some (G.2.1 22) := (hK.2 2 _ rfl).2
  have hl := lv_entry ([.ref h0]) (n := 1) (Nat.le_of_ble_eq_true rfl)
  rw [lg_entry_eq]
  generalize (lg_sl ([.ref h0]) ++ List.replicate (1 - (lg_sl ([.ref h0])).length) Slot.unset).toArray = ls at hl ⊢
  have hl : lv_has ls 1 [(0, .ref h0)] := hl
  refine lv_aload_n hx hb dX6_init_0 rfl (lv_at hl 0 rfl) ?_
  refine W.objInit hx hb hown (hts _ gx_oi_6) (hts _ gx_in) (hts _ gx_co) rfl (by rw [hml]; exact hl.1) rfl dX6_init_1 (Nat.le_of_ble_eq_true rfl) (Nat.le_of_ble_eq_true rfl) ?_
  refine W.eq (g2 := F0 m 4 ls []) rfl ?_
  refine lv_aload_n hx hb dX6_init_4 rfl (lv_at hl 0 rfl) ?_
  refine lv_iconst hx hb (v := 0) dX6_init_5 (by decide) ?_
  refine mk_put 0 (fs1 := [.int 0, .int 0, .int 0, .null, .null, .null, .null, .null]) rfl C (by decide) (Nat.le_of_ble_eq_true rfl) gx_f_6_0 rfl ⟨rfl, rfl⟩ dX6_init_6 K (fun H1 locs1 K => ?_)
  refine lv_aload_n hx hb dX6_init_9 rfl (lv_at hl 0 rfl) ?_
  refine lv_iconst hx hb (v := 0) dX6_init_10 (by decide) ?_
  refine mk_put 1 (fs1 := [.int 0, .int 0, .int 0, .null, .null, .null, .null, .null]) rfl C (by decide) (Nat.le_of_ble_eq_true rfl) gx_f_6_1 rfl ⟨rfl, rfl⟩ dX6_init_11 K (fun H1 locs1 K => ?_)
  refine lv_aload_n hx hb dX6_init_14 rfl (lv_at hl 0 rfl) ?_
  refine lv_iconst hx hb (v := 0) dX6_init_15 (by decide) ?_
  refine mk_put 2 (fs1 := [.int 0, .int 0, .int 0, .null, .null, .null, .null, .null]) rfl C (by decide) (Nat.le_of_ble_eq_true rfl) gx_f_6_2 rfl ⟨rfl, rfl⟩ dX6_init_16 K (fun H1 locs1 K => ?_)
  refine lv_aload_n hx hb dX6_init_19 rfl (lv_at hl 0 rfl) ?_
  refine lv_bipush hx hb (v := 10) dX6_init_20 (by decide) ?_
  refine mk_arr 10 (z := (10, .inl fun _ => 0)) (L1 := ([] ++ [.inl (G.2.1 20, 10, .inl fun _ => 0)])) (b := s.heap.size + 0) rfl (by first | rfl | simp) C gx_ai rfl c20 (fun _ => rfl) (by decide) (by decide) (by decide) (Nat.le_of_ble_eq_true rfl) (Nat.le_of_ble_eq_true rfl) dX6_init_22 K (fun H1 K => ?_)
  refine mk_put 3 (fs1 := [.int 0, .int 0, .int 0, .ref (s.heap.size + 0), .null, .null, .null, .null]) rfl C (by decide) (Nat.le_of_ble_eq_true rfl) gx_f_6_3 rfl ⟨rfl, rfl⟩ dX6_init_24 K (fun H1 locs1 K => ?_)
  refine lv_aload_n hx hb dX6_init_27 rfl (lv_at hl 0 rfl) ?_
  refine lv_bipush hx hb (v := 10) dX6_init_28 (by decide) ?_
  refine mk_arr 10 (z := (10, .inl fun _ => 0)) (L1 := (([] ++ [.inl (G.2.1 20, 10, .inl fun _ => 0)]) ++ [.inl (G.2.1 20, 10, .inl fun _ => 0)])) (b := s.heap.size + 1) rfl (by first | rfl | simp) C gx_ai rfl c20 (fun _ => rfl) (by decide) (by decide) (by decide) (Nat.le_of_ble_eq_true rfl) (Nat.le_of_ble_eq_true rfl) dX6_init_30 K (fun H1 K => ?_)
  refine mk_put 4 (fs1 := [.int 0, .int 0, .int 0, .ref (s.heap.size + 0), .ref (s.heap.size + 1), .null, .null, .null]) rfl C (by decide) (Nat.le_of_ble_eq_true rfl) gx_f_6_4 rfl ⟨rfl, rfl⟩ dX6_init_32 K (fun H1 locs1 K => ?_)
  refine lv_aload_n hx hb dX6_init_35 rfl (lv_at hl 0 rfl) ?_
  refine lv_bipush hx hb (v := 10) dX6_init_36 (by decide) ?_
  refine mk_arr 10 (z := (10, .inl fun _ => 0)) (L1 := ((([] ++ [.inl (G.2.1 20, 10, .inl fun _ => 0)]) ++ [.inl (G.2.1 20, 10, .inl fun _ => 0)]) ++ [.inl (G.2.1 20, 10, .inl fun _ => 0)])) (b := s.heap.size + 2) rfl (by first | rfl | simp) C gx_ai rfl c20 (fun _ => rfl) (by decide) (by decide) (by decide) (Nat.le_of_ble_eq_true rfl) (Nat.le_of_ble_eq_true rfl) dX6_init_38 K (fun H1 K => ?_)
  refine mk_put 5 (fs1 := [.int 0, .int 0, .int 0, .ref (s.heap.size + 0), .ref (s.heap.size + 1), .ref (s.heap.size + 2), .null, .null]) rfl C (by decide) (Nat.le_of_ble_eq_true rfl) gx_f_6_5 rfl ⟨rfl, rfl⟩ dX6_init_40 K (fun H1 locs1 K => ?_)
  refine lv_aload_n hx hb dX6_init_43 rfl (lv_at hl 0 rfl) ?_
  refine lv_bipush hx hb (v := 10) dX6_init_44 (by decide) ?_
  refine mk_arr 10 (z := (10, .inl fun _ => 0)) (L1 := (((([] ++ [.inl (G.2.1 20, 10, .inl fun _ => 0)]) ++ [.inl (G.2.1 20, 10, .inl fun _ => 0)]) ++ [.inl (G.2.1 20, 10, .inl fun _ => 0)]) ++ [.inl (G.2.1 20, 10, .inl fun _ => 0)])) (b := s.heap.size + 3) rfl (by first | rfl | simp) C gx_ai rfl c20 (fun _ => rfl) (by decide) (by decide) (by decide) (Nat.le_of_ble_eq_true rfl) (Nat.le_of_ble_eq_true rfl) dX6_init_46 K (fun H1 K => ?_)
  refine mk_put 6 (fs1 := [.int 0, .int 0, .int 0, .ref (s.heap.size + 0), .ref (s.heap.size + 1), .ref (s.heap.size + 2), .ref (s.heap.size + 3), .null]) rfl C (by decide) (Nat.le_of_ble_eq_true rfl) gx_f_6_6 rfl ⟨rfl, rfl⟩ dX6_init_48 K (fun H1 locs1 K => ?_)
  refine lv_aload_n hx hb dX6_init_51 rfl (lv_at hl 0 rfl) ?_
  refine lv_bipush hx hb (v := 10) dX6_init_52 (by decide) ?_
  refine mk_arr 10 (z := (10, .inl fun _ => 0)) (L1 := ((((([] ++ [.inl (G.2.1 20, 10, .inl fun _ => 0)]) ++ [.inl (G.2.1 20, 10, .inl fun _ => 0)]) ++ [.inl (G.2.1 20, 10, .inl fun _ => 0)]) ++ [.inl (G.2.1 20, 10, .inl fun _ => 0)]) ++ [.inl (G.2.1 20, 10, .inl fun _ => 0)])) (b := s.heap.size + 4) rfl (by first | rfl | simp) C gx_ai rfl c20 (fun _ => rfl) (by decide) (by decide) (by decide) (Nat.le_of_ble_eq_true rfl) (Nat.le_of_ble_eq_true rfl) dX6_init_54 K (fun H1 K => ?_)
  refine mk_put 7 (fs1 := [.int 0, .int 0, .int 0, .ref (s.heap.size + 0), .ref (s.heap.size + 1), .ref (s.heap.size + 2), .ref (s.heap.size + 3), .ref (s.heap.size + 4)]) rfl C (by decide) (Nat.le_of_ble_eq_true rfl) gx_f_6_7 rfl ⟨rfl, rfl⟩ dX6_init_56 K (fun H1 locs1 K => ?_)
  exact W.vret hx hb hr (fun t ht hW => ⟨rfl, by rw [ht]; exact K.2.1, by rw [ht]; exact K.2.2.1, K.2.2.2.F ht⟩) K.2.2.2.2.2 dX6_init_59
def ownX4 (b : Nat) : List Value := [.ref (b + 0), .ref (b + 7), .ref (b + 14), .ref (b + 21), .ref (b + 28), .ref (b + 29)]
def csX4 (G : Geo) (b : Nat) : List va_E := (((((([] ++ mat G (b + 0)) ++ mat G (b + 7)) ++ mat G (b + 14)) ++ mat G (b + 21)) ++ [.inl (G.2.1 20, 6, .inl fun _ => 0)]) ++ [.inl (G.2.1 20, 6, .inl fun _ => 0)])
theorem len_cs4 (G : Geo) (b : Nat) : (csX4 G b).length = 30 := by first | rfl | simp [csX4, mat, len_cs6]
theorem dX4_init_0 : decode cX4_init 0 = .ok (.aload_n 0, 1) := by decide +kernel
theorem dX4_init_1 : decode cX4_init 1 = .ok (.invokespecial 3, 3) := by decide +kernel
theorem dX4_init_4 : decode cX4_init 4 = .ok (.aload_n 0, 1) := by decide +kernel
theorem dX4_init_5 : decode cX4_init 5 = .ok (.bipush 6, 2) := by decide +kernel
theorem dX4_init_7 : decode cX4_init 7 = .ok (.bipush 8, 2) := by decide +kernel
theorem dX4_init_9 : decode cX4_init 9 = .ok (.multianewarray 9 2, 4) := by decide +kernel
theorem dX4_init_13 : decode cX4_init 13 = .ok (.putfield 11, 3) := by decide +kernel
theorem dX4_init_16 : decode cX4_init 16 = .ok (.aload_n 0, 1) := by decide +kernel
theorem dX4_init_17 : decode cX4_init 17 = .ok (.bipush 6, 2) := by decide +kernel
theorem dX4_init_19 : decode cX4_init 19 = .ok (.bipush 8, 2) := by decide +kernel
theorem dX4_init_21 : decode cX4_init 21 = .ok (.multianewarray 9 2, 4) := by decide +kernel
theorem dX4_init_25 : decode cX4_init 25 = .ok (.putfield 16, 3) := by decide +kernel
theorem dX4_init_28 : decode cX4_init 28 = .ok (.aload_n 0, 1) := by decide +kernel
theorem dX4_init_29 : decode cX4_init 29 = .ok (.bipush 6, 2) := by decide +kernel
theorem dX4_init_31 : decode cX4_init 31 = .ok (.bipush 8, 2) := by decide +kernel
theorem dX4_init_33 : decode cX4_init 33 = .ok (.multianewarray 9 2, 4) := by decide +kernel
theorem dX4_init_37 : decode cX4_init 37 = .ok (.putfield 19, 3) := by decide +kernel
theorem dX4_init_40 : decode cX4_init 40 = .ok (.aload_n 0, 1) := by decide +kernel
theorem dX4_init_41 : decode cX4_init 41 = .ok (.bipush 6, 2) := by decide +kernel
theorem dX4_init_43 : decode cX4_init 43 = .ok (.bipush 8, 2) := by decide +kernel
theorem dX4_init_45 : decode cX4_init 45 = .ok (.multianewarray 9 2, 4) := by decide +kernel
theorem dX4_init_49 : decode cX4_init 49 = .ok (.putfield 22, 3) := by decide +kernel
theorem dX4_init_52 : decode cX4_init 52 = .ok (.aload_n 0, 1) := by decide +kernel
theorem dX4_init_53 : decode cX4_init 53 = .ok (.bipush 6, 2) := by decide +kernel
theorem dX4_init_55 : decode cX4_init 55 = .ok (.newarray .int, 2) := by decide +kernel
theorem dX4_init_57 : decode cX4_init 57 = .ok (.putfield 25, 3) := by decide +kernel
theorem dX4_init_60 : decode cX4_init 60 = .ok (.aload_n 0, 1) := by decide +kernel
theorem dX4_init_61 : decode cX4_init 61 = .ok (.bipush 6, 2) := by decide +kernel
theorem dX4_init_63 : decode cX4_init 63 = .ok (.newarray .int, 2) := by decide +kernel
theorem dX4_init_65 : decode cX4_init 65 = .ok (.putfield 29, 3) := by decide +kernel
theorem dX4_init_68 : decode cX4_init 68 = .ok (.return_, 1) := by decide +kernel
set_option maxHeartbeats 4000000 in
set_option maxRecDepth 100000 in
theorem mk_X4 (l : Launch) (G : Geo) (h0 sz : Nat) : Met l (ctY 4) (.code (ctY 4) cX4_init 1 none :: GC) ({ frames := 1, cells := 30, slots := 228, locals := 12 }) (MPre G 4 h0 sz) (MPost G 4 h0 sz ownX4 (csX4 G)) 30 228 (fun q => q = h0 ∨ sz ≤ q) := by
  refine Met.ofW (cc := cX4_init) (maxL := 1) (ret := none) (by decide) rfl ?_
  intro p e s m args below meth c s₁ B hml hv
  obtain ⟨rfl, hsz, hh, hP, hK, hN⟩ := hv
  subst hsz
  have hx := B.exec
  have hb := B.bytes
  have hr := B.returns
  have hts0 := atoms_spec (ws := .code (ctY 4) cX4_init 1 none :: GC) B.pre
  have hts : ∀ w ∈ GC, w.before _ s = true := fun w hw => hts0 w (List.mem_cons_of_mem _ hw)
  have hown : s.vm.findClass (clR 4) = some m.cls := findClass_of_methodNamed B.named
  have hlocks := B.notSynchronized
  have hin : meth.name = "<init>" := (name_of_methodNamed B.named B.method).1
  have C : CX G 4 p s m _ meth c cX4_init := ⟨hx, hb, hown, hts, hK, hin, by decide⟩
  have K : KS G h0 4 [.null, .null, .null, .null, .null, .null] [] s.heap s.heap [] := ⟨hh, rfl, hP, va_S.rf⟩
  have c20 : s.vm.findClass ("[" ++ (FieldType.int).toString) = some (G.2.1 20) := (hK.2 0 _ rfl).2
  have c21 : s.vm.findClass ("[" ++ (FieldType.long).toString) = some (G.2.1 21) := (hK.2 1 _ rfl).2
  have c22 : s.vm.findClass ("[" ++ (FieldType.boolean).toString) = some (G.2.1 22) := (hK.2 2 _ rfl).2
  have hl := lv_entry ([.ref h0]) (n := 1) (Nat.le_of_ble_eq_true rfl)
  rw [lg_entry_eq]
  generalize (lg_sl ([.ref h0]) ++ List.replicate (1 - (lg_sl ([.ref h0])).length) Slot.unset).toArray = ls at hl ⊢
  have hl : lv_has ls 1 [(0, .ref h0)] := hl
  refine lv_aload_n hx hb dX4_init_0 rfl (lv_at hl 0 rfl) ?_
  refine W.objInit hx hb hown (hts _ gx_oi_4) (hts _ gx_in) (hts _ gx_co) rfl (by rw [hml]; exact hl.1) rfl dX4_init_1 (Nat.le_of_ble_eq_true rfl) (Nat.le_of_ble_eq_true rfl) ?_
  refine W.eq (g2 := F0 m 4 ls []) rfl ?_
  refine lv_aload_n hx hb dX4_init_4 rfl (lv_at hl 0 rfl) ?_
  refine lv_bipush hx hb (v := 6) dX4_init_5 (by decide) ?_
  refine lv_bipush hx hb (v := 8) dX4_init_7 (by decide) ?_
  refine mk_mna (L1 := ([] ++ mat G (s.heap.size + 0))) (b := s.heap.size + 0) rfl (by first | rfl | simp [mat]) C gx_ca_4 hN.2.2 (Nat.le_of_ble_eq_true rfl) (Nat.le_of_ble_eq_true rfl) dX4_init_9 K (fun H1 K => ?_)
  refine mk_put 0 (fs1 := [.ref (s.heap.size + 0), .null, .null, .null, .null, .null]) rfl C (by decide) (Nat.le_of_ble_eq_true rfl) gx_f_4_0 rfl ⟨rfl, rfl⟩ dX4_init_13 K (fun H1 locs1 K => ?_)
  refine lv_aload_n hx hb dX4_init_16 rfl (lv_at hl 0 rfl) ?_
  refine lv_bipush hx hb (v := 6) dX4_init_17 (by decide) ?_
  refine lv_bipush hx hb (v := 8) dX4_init_19 (by decide) ?_
  refine mk_mna (L1 := (([] ++ mat G (s.heap.size + 0)) ++ mat G (s.heap.size + 7))) (b := s.heap.size + 7) rfl (by first | rfl | simp [mat]) C gx_ca_4 hN.2.2 (Nat.le_of_ble_eq_true rfl) (Nat.le_of_ble_eq_true rfl) dX4_init_21 K (fun H1 K => ?_)
  refine mk_put 1 (fs1 := [.ref (s.heap.size + 0), .ref (s.heap.size + 7), .null, .null, .null, .null]) rfl C (by decide) (Nat.le_of_ble_eq_true rfl) gx_f_4_1 rfl ⟨rfl, rfl⟩ dX4_init_25 K (fun H1 locs1 K => ?_)
  refine lv_aload_n hx hb dX4_init_28 rfl (lv_at hl 0 rfl) ?_
  refine lv_bipush hx hb (v := 6) dX4_init_29 (by decide) ?_
  refine lv_bipush hx hb (v := 8) dX4_init_31 (by decide) ?_
  refine mk_mna (L1 := ((([] ++ mat G (s.heap.size + 0)) ++ mat G (s.heap.size + 7)) ++ mat G (s.heap.size + 14))) (b := s.heap.size + 14) rfl (by first | rfl | simp [mat]) C gx_ca_4 hN.2.2 (Nat.le_of_ble_eq_true rfl) (Nat.le_of_ble_eq_true rfl) dX4_init_33 K (fun H1 K => ?_)
  refine mk_put 2 (fs1 := [.ref (s.heap.size + 0), .ref (s.heap.size + 7), .ref (s.heap.size + 14), .null, .null, .null]) rfl C (by decide) (Nat.le_of_ble_eq_true rfl) gx_f_4_2 rfl ⟨rfl, rfl⟩ dX4_init_37 K (fun H1 locs1 K => ?_)
  refine lv_aload_n hx hb dX4_init_40 rfl (lv_at hl 0 rfl) ?_
  refine lv_bipush hx hb (v := 6) dX4_init_41 (by decide) ?_
  refine lv_bipush hx hb (v := 8) dX4_init_43 (by decide) ?_
  refine mk_mna (L1 := (((([] ++ mat G (s.heap.size + 0)) ++ mat G (s.heap.size + 7)) ++ mat G (s.heap.size + 14)) ++ mat G (s.heap.size + 21))) (b := s.heap.size + 21) rfl (by first | rfl | simp [mat]) C gx_ca_4 hN.2.2 (Nat.le_of_ble_eq_true rfl) (Nat.le_of_ble_eq_true rfl) dX4_init_45 K (fun H1 K => ?_)
  refine mk_put 3 (fs1 := [.ref (s.heap.size + 0), .ref (s.heap.size + 7), .ref (s.heap.size + 14), .ref (s.heap.size + 21), .null, .null]) rfl C (by decide) (Nat.le_of_ble_eq_true rfl) gx_f_4_3 rfl ⟨rfl, rfl⟩ dX4_init_49 K (fun H1 locs1 K => ?_)
  refine lv_aload_n hx hb dX4_init_52 rfl (lv_at hl 0 rfl) ?_
  refine lv_bipush hx hb (v := 6) dX4_init_53 (by decide) ?_
  refine mk_arr 6 (z := (6, .inl fun _ => 0)) (L1 := ((((([] ++ mat G (s.heap.size + 0)) ++ mat G (s.heap.size + 7)) ++ mat G (s.heap.size + 14)) ++ mat G (s.heap.size + 21)) ++ [.inl (G.2.1 20, 6, .inl fun _ => 0)])) (b := s.heap.size + 28) rfl (by first | rfl | simp) C gx_ai rfl c20 (fun _ => rfl) (by decide) (by decide) (by decide) (Nat.le_of_ble_eq_true rfl) (Nat.le_of_ble_eq_true rfl) dX4_init_55 K (fun H1 K => ?_)
  refine mk_put 4 (fs1 := [.ref (s.heap.size + 0), .ref (s.heap.size + 7), .ref (s.heap.size + 14), .ref (s.heap.size + 21), .ref (s.heap.size + 28), .null]) rfl C (by decide) (Nat.le_of_ble_eq_true rfl) gx_f_4_4 rfl ⟨rfl, rfl⟩ dX4_init_57 K (fun H1 locs1 K => ?_)
  refine lv_aload_n hx hb dX4_init_60 rfl (lv_at hl 0 rfl) ?_
  refine lv_bipush hx hb (v := 6) dX4_init_61 (by decide) ?_
  refine mk_arr 6 (z := (6, .inl fun _ => 0)) (L1 := (((((([] ++ mat G (s.heap.size + 0)) ++ mat G (s.heap.size + 7)) ++ mat G (s.heap.size + 14)) ++ mat G (s.heap.size + 21)) ++ [.inl (G.2.1 20, 6, .inl fun _ => 0)]) ++ [.inl (G.2.1 20, 6, .inl fun _ => 0)])) (b := s.heap.size + 29) rfl (by first | rfl | simp) C gx_ai rfl c20 (fun _ => rfl) (by decide) (by decide) (by decide) (Nat.le_of_ble_eq_true rfl) (Nat.le_of_ble_eq_true rfl) dX4_init_63 K (fun H1 K => ?_)
  refine mk_put 5 (fs1 := [.ref (s.heap.size + 0), .ref (s.heap.size + 7), .ref (s.heap.size + 14), .ref (s.heap.size + 21), .ref (s.heap.size + 28), .ref (s.heap.size + 29)]) rfl C (by decide) (Nat.le_of_ble_eq_true rfl) gx_f_4_5 rfl ⟨rfl, rfl⟩ dX4_init_65 K (fun H1 locs1 K => ?_)
  exact W.vret hx hb hr (fun t ht hW => ⟨rfl, by rw [ht]; exact K.2.1, by rw [ht]; exact K.2.2.1, K.2.2.2.F ht⟩) K.2.2.2.2.2 dX4_init_68
