/-! The constructors. -/
def ownX6 (b : Nat) : List Value := [.int 0, .int 0, .int 0, .ref (b + 0), .ref (b + 1), .ref (b + 2), .ref (b + 3), .ref (b + 4)]
def csX6 (G : Geo) (b : Nat) : List va_E := ((((([] ++ [.inl (G.2.1 20, 10, .inl fun _ => 0)]) ++ [.inl (G.2.1 20, 10, .inl fun _ => 0)]) ++ [.inl (G.2.1 20, 10, .inl fun _ => 0)]) ++ [.inl (G.2.1 20, 10, .inl fun _ => 0)]) ++ [.inl (G.2.1 20, 10, .inl fun _ => 0)])
theorem len_cs6 (G : Geo) (b : Nat) : (csX6 G b).length = 5 := by rfl
theorem dX6_init_0 : decode cX6_init 0 = .ok (.aload_n 0, 1) := by decide +kernel
theorem dX6_init_1 : decode cX6_init 1 = .ok (.invokespecial 3, 3) := by decide +kernel
theorem dX6_init_4 : decode cX6_init 4 = .ok (.aload_n 0, 1) := by decide +kernel
theorem dX6_init_5 : decode cX6_init 5 = .ok (.iconst 0, 1) := by decide +kernel
theorem dX6_init_6 : decode cX6_init 6 = .ok (.putfield 9, 3) := by decide +kernel
theorem dX6_init_9 : decode cX6_init 9 = .ok (.aload_n 0, 1) := by decide +kernel
theorem dX6_init_10 : decode cX6_init 10 = .ok (.iconst 0, 1) := by decide +kernel
theorem dX6_init_11 : decode cX6_init 11 = .ok (.putfield 15, 3) := by decide +kernel
theorem dX6_init_14 : decode cX6_init 14 = .ok (.aload_n 0, 1) := by decide +kernel
theorem dX6_init_15 : decode cX6_init 15 = .ok (.iconst 0, 1) := by decide +kernel
theorem dX6_init_16 : decode cX6_init 16 = .ok (.putfield 18, 3) := by decide +kernel
theorem dX6_init_19 : decode cX6_init 19 = .ok (.aload_n 0, 1) := by decide +kernel
theorem dX6_init_20 : decode cX6_init 20 = .ok (.bipush 10, 2) := by decide +kernel
theorem dX6_init_22 : decode cX6_init 22 = .ok (.newarray .int, 2) := by decide +kernel
theorem dX6_init_24 : decode cX6_init 24 = .ok (.putfield 21, 3) := by decide +kernel
theorem dX6_init_27 : decode cX6_init 27 = .ok (.aload_n 0, 1) := by decide +kernel
theorem dX6_init_28 : decode cX6_init 28 = .ok (.bipush 10, 2) := by decide +kernel
theorem dX6_init_30 : decode cX6_init 30 = .ok (.newarray .int, 2) := by decide +kernel
theorem dX6_init_32 : decode cX6_init 32 = .ok (.putfield 25, 3) := by decide +kernel
theorem dX6_init_35 : decode cX6_init 35 = .ok (.aload_n 0, 1) := by decide +kernel
theorem dX6_init_36 : decode cX6_init 36 = .ok (.bipush 10, 2) := by decide +kernel
theorem dX6_init_38 : decode cX6_init 38 = .ok (.newarray .int, 2) := by decide +kernel
theorem dX6_init_40 : decode cX6_init 40 = .ok (.putfield 28, 3) := by decide +kernel
theorem dX6_init_43 : decode cX6_init 43 = .ok (.aload_n 0, 1) := by decide +kernel
theorem dX6_init_44 : decode cX6_init 44 = .ok (.bipush 10, 2) := by decide +kernel
theorem dX6_init_46 : decode cX6_init 46 = .ok (.newarray .int, 2) := by decide +kernel
theorem dX6_init_48 : decode cX6_init 48 = .ok (.putfield 31, 3) := by decide +kernel
theorem dX6_init_51 : decode cX6_init 51 = .ok (.aload_n 0, 1) := by decide +kernel
theorem dX6_init_52 : decode cX6_init 52 = .ok (.bipush 10, 2) := by decide +kernel
theorem dX6_init_54 : decode cX6_init 54 = .ok (.newarray .int, 2) := by decide +kernel
theorem dX6_init_56 : decode cX6_init 56 = .ok (.putfield 34, 3) := by decide +kernel
theorem dX6_init_59 : decode cX6_init 59 = .ok (.return_, 1) := by decide +kernel
set_option maxHeartbeats 4000000 in
set_option maxRecDepth 100000 in
theorem mk_X6 (l : Launch) (G : Geo) (h0 sz : Nat) : Met l (ctY 6) (.code (ctY 6) cX6_init 1 none :: GC) ({ frames := 1, cells := 5, slots := 50, locals := 12 }) (MPre G 6 h0 sz) (MPost G 6 h0 sz ownX6 (csX6 G)) 5 50 (fun q => q = h0 ∨ sz ≤ q) := by
  refine Met.ofW (cc := cX6_init) (maxL := 1) (ret := none) (by decide) rfl ?_
  intro p e s m args below meth c s₁ B hml hv
  obtain ⟨rfl, hsz, hh, hP, hK, hN⟩ := hv
  subst hsz
  have hx := B.exec
  have hb := B.bytes
  have hr := B.returns
  have hts0 := atoms_spec (ws := .code (ctY 6) cX6_init 1 none :: GC) B.pre
  have hts : ∀ w ∈ GC, w.before _ s = true := fun w hw => hts0 w (List.mem_cons_of_mem _ hw)
  have hown : s.vm.findClass (clR 6) = some m.cls := findClass_of_methodNamed B.named
  have hlocks := B.notSynchronized
  have hin : meth.name = "<init>" := (name_of_methodNamed B.named B.method).1
  have C : CtX G 6 p s m _ meth c cX6_init := ⟨hx, hb, hown, hts, hK, hin, by decide⟩
  have K : KS G h0 6 [.int 0, .int 0, .int 0, .null, .null, .null, .null, .null] [] s.heap s.heap [] := ⟨hh, rfl, hP, va_S.rf⟩
  have hn : ([] : List va_E).length = 0 := rfl
  have c20 : s.vm.findClass ("[" ++ (FieldType.int).toString) = some (G.2.1 20) := (hK.2 0 _ rfl).2
  have c21 : s.vm.findClass ("[" ++ (FieldType.long).toString) = some (G.2.1 21) := (hK.2 1 _ rfl).2
  have c22 : s.vm.findClass ("[" ++ (FieldType.boolean).toString) = some (G.2.1 22) := (hK.2 2 _ rfl).2
  have hl := lv_entry ([.ref h0]) (n := 1) (Nat.le_of_ble_eq_true rfl)
  rw [lg_entry_eq]
  generalize (lg_sl ([.ref h0]) ++ List.replicate (1 - (lg_sl ([.ref h0])).length) Slot.unset).toArray = ls at hl ⊢
  have hl : lv_has ls 1 [(0, .ref h0)] := hl
  refine lv_aload_n hx hb dX6_init_0 rfl (lv_at hl 0 rfl) ?_
  refine W.objInit hx hb hown (hts _ gx_oi_6) (hts _ gx_in) (hts _ gx_co) rfl (by rw [hml]; exact hl.1) rfl dX6_init_1 (Nat.le_of_ble_eq_true rfl) (Nat.le_of_ble_eq_true rfl) ?_
  refine W.eq (g2 := F0 m 4 ls []) rfl ?_
  refine lv_aload_n hx hb dX6_init_4 rfl (lv_at hl 0 rfl) ?_
  refine lv_iconst hx hb (v := 0) dX6_init_5 (by decide +kernel) ?_
  refine mk_put 0 (fs1 := [.int 0, .int 0, .int 0, .null, .null, .null, .null, .null]) rfl C (by decide) (Nat.le_of_ble_eq_true rfl) gx_f_6_0 rfl ⟨rfl, rfl⟩ dX6_init_6 K (fun H1 locs1 K => ?_)
  refine lv_aload_n hx hb dX6_init_9 rfl (lv_at hl 0 rfl) ?_
  refine lv_iconst hx hb (v := 0) dX6_init_10 (by decide +kernel) ?_
  refine mk_put 1 (fs1 := [.int 0, .int 0, .int 0, .null, .null, .null, .null, .null]) rfl C (by decide) (Nat.le_of_ble_eq_true rfl) gx_f_6_1 rfl ⟨rfl, rfl⟩ dX6_init_11 K (fun H1 locs1 K => ?_)
  refine lv_aload_n hx hb dX6_init_14 rfl (lv_at hl 0 rfl) ?_
  refine lv_iconst hx hb (v := 0) dX6_init_15 (by decide +kernel) ?_
  refine mk_put 2 (fs1 := [.int 0, .int 0, .int 0, .null, .null, .null, .null, .null]) rfl C (by decide) (Nat.le_of_ble_eq_true rfl) gx_f_6_2 rfl ⟨rfl, rfl⟩ dX6_init_16 K (fun H1 locs1 K => ?_)
  refine lv_aload_n hx hb dX6_init_19 rfl (lv_at hl 0 rfl) ?_
  refine lv_bipush hx hb (v := 10) dX6_init_20 (by decide +kernel) ?_
  refine mkA_arr 10 0 1 (z := (10, .inl fun _ => 0)) rfl hn C gx_ai rfl c20 (fun _ => rfl) (by decide +kernel) (by decide +kernel) (by decide +kernel) (Nat.le_of_ble_eq_true rfl) (Nat.le_of_ble_eq_true rfl) dX6_init_22 K (fun H1 L1 e22 hn K => ?_)
  refine mk_put 3 (fs1 := [.int 0, .int 0, .int 0, .ref (s.heap.size + 0), .null, .null, .null, .null]) rfl C (by decide) (Nat.le_of_ble_eq_true rfl) gx_f_6_3 rfl ⟨rfl, rfl⟩ dX6_init_24 K (fun H1 locs1 K => ?_)
  refine lv_aload_n hx hb dX6_init_27 rfl (lv_at hl 0 rfl) ?_
  refine lv_bipush hx hb (v := 10) dX6_init_28 (by decide +kernel) ?_
  refine mkA_arr 10 1 2 (z := (10, .inl fun _ => 0)) rfl hn C gx_ai rfl c20 (fun _ => rfl) (by decide +kernel) (by decide +kernel) (by decide +kernel) (Nat.le_of_ble_eq_true rfl) (Nat.le_of_ble_eq_true rfl) dX6_init_30 K (fun H1 L1 e30 hn K => ?_)
  refine mk_put 4 (fs1 := [.int 0, .int 0, .int 0, .ref (s.heap.size + 0), .ref (s.heap.size + 1), .null, .null, .null]) rfl C (by decide) (Nat.le_of_ble_eq_true rfl) gx_f_6_4 rfl ⟨rfl, rfl⟩ dX6_init_32 K (fun H1 locs1 K => ?_)
  refine lv_aload_n hx hb dX6_init_35 rfl (lv_at hl 0 rfl) ?_
  refine lv_bipush hx hb (v := 10) dX6_init_36 (by decide +kernel) ?_
  refine mkA_arr 10 2 3 (z := (10, .inl fun _ => 0)) rfl hn C gx_ai rfl c20 (fun _ => rfl) (by decide +kernel) (by decide +kernel) (by decide +kernel) (Nat.le_of_ble_eq_true rfl) (Nat.le_of_ble_eq_true rfl) dX6_init_38 K (fun H1 L1 e38 hn K => ?_)
  refine mk_put 5 (fs1 := [.int 0, .int 0, .int 0, .ref (s.heap.size + 0), .ref (s.heap.size + 1), .ref (s.heap.size + 2), .null, .null]) rfl C (by decide) (Nat.le_of_ble_eq_true rfl) gx_f_6_5 rfl ⟨rfl, rfl⟩ dX6_init_40 K (fun H1 locs1 K => ?_)
  refine lv_aload_n hx hb dX6_init_43 rfl (lv_at hl 0 rfl) ?_
  refine lv_bipush hx hb (v := 10) dX6_init_44 (by decide +kernel) ?_
  refine mkA_arr 10 3 4 (z := (10, .inl fun _ => 0)) rfl hn C gx_ai rfl c20 (fun _ => rfl) (by decide +kernel) (by decide +kernel) (by decide +kernel) (Nat.le_of_ble_eq_true rfl) (Nat.le_of_ble_eq_true rfl) dX6_init_46 K (fun H1 L1 e46 hn K => ?_)
  refine mk_put 6 (fs1 := [.int 0, .int 0, .int 0, .ref (s.heap.size + 0), .ref (s.heap.size + 1), .ref (s.heap.size + 2), .ref (s.heap.size + 3), .null]) rfl C (by decide) (Nat.le_of_ble_eq_true rfl) gx_f_6_6 rfl ⟨rfl, rfl⟩ dX6_init_48 K (fun H1 locs1 K => ?_)
  refine lv_aload_n hx hb dX6_init_51 rfl (lv_at hl 0 rfl) ?_
  refine lv_bipush hx hb (v := 10) dX6_init_52 (by decide +kernel) ?_
  refine mkA_arr 10 4 5 (z := (10, .inl fun _ => 0)) rfl hn C gx_ai rfl c20 (fun _ => rfl) (by decide +kernel) (by decide +kernel) (by decide +kernel) (Nat.le_of_ble_eq_true rfl) (Nat.le_of_ble_eq_true rfl) dX6_init_54 K (fun H1 L1 e54 hn K => ?_)
  refine mk_put 7 (fs1 := [.int 0, .int 0, .int 0, .ref (s.heap.size + 0), .ref (s.heap.size + 1), .ref (s.heap.size + 2), .ref (s.heap.size + 3), .ref (s.heap.size + 4)]) rfl C (by decide) (Nat.le_of_ble_eq_true rfl) gx_f_6_7 rfl ⟨rfl, rfl⟩ dX6_init_56 K (fun H1 locs1 K => ?_)
  have eL : L1 = csX6 G s.heap.size := by rw [e54, e46, e38, e30, e22]; rfl
  rw [eL] at K
  exact W.vret hx hb hr (fun t ht hW => ⟨rfl, by rw [ht]; exact K.2.1, by rw [ht]; exact K.2.2.1, K.2.2.2.F ht⟩) K.2.2.2.2.2 dX6_init_59
def ownX4 (b : Nat) : List Value := [.ref (b + 0), .ref (b + 7), .ref (b + 14), .ref (b + 21), .ref (b + 28), .ref (b + 29)]
def csX4 (G : Geo) (b : Nat) : List va_E := (((((([] ++ mat G (b + 0)) ++ mat G (b + 7)) ++ mat G (b + 14)) ++ mat G (b + 21)) ++ [.inl (G.2.1 20, 6, .inl fun _ => 0)]) ++ [.inl (G.2.1 20, 6, .inl fun _ => 0)])
theorem len_cs4 (G : Geo) (b : Nat) : (csX4 G b).length = 30 := by rfl
theorem dX4_init_0 : decode cX4_init 0 = .ok (.aload_n 0, 1) := by decide +kernel
theorem dX4_init_1 : decode cX4_init 1 = .ok (.invokespecial 3, 3) := by decide +kernel
theorem dX4_init_4 : decode cX4_init 4 = .ok (.aload_n 0, 1) := by decide +kernel
theorem dX4_init_5 : decode cX4_init 5 = .ok (.bipush 6, 2) := by decide +kernel
theorem dX4_init_7 : decode cX4_init 7 = .ok (.bipush 8, 2) := by decide +kernel
theorem dX4_init_9 : decode cX4_init 9 = .ok (.multianewarray 9 2, 4) := by decide +kernel
theorem dX4_init_13 : decode cX4_init 13 = .ok (.putfield 11, 3) := by decide +kernel
theorem dX4_init_16 : decode cX4_init 16 = .ok (.aload_n 0, 1) := by decide +kernel
theorem dX4_init_17 : decode cX4_init 17 = .ok (.bipush 6, 2) := by decide +kernel
theorem dX4_init_19 : decode cX4_init 19 = .ok (.bipush 8, 2) := by decide +kernel
theorem dX4_init_21 : decode cX4_init 21 = .ok (.multianewarray 9 2, 4) := by decide +kernel
theorem dX4_init_25 : decode cX4_init 25 = .ok (.putfield 16, 3) := by decide +kernel
theorem dX4_init_28 : decode cX4_init 28 = .ok (.aload_n 0, 1) := by decide +kernel
theorem dX4_init_29 : decode cX4_init 29 = .ok (.bipush 6, 2) := by decide +kernel
theorem dX4_init_31 : decode cX4_init 31 = .ok (.bipush 8, 2) := by decide +kernel
theorem dX4_init_33 : decode cX4_init 33 = .ok (.multianewarray 9 2, 4) := by decide +kernel
theorem dX4_init_37 : decode cX4_init 37 = .ok (.putfield 19, 3) := by decide +kernel
theorem dX4_init_40 : decode cX4_init 40 = .ok (.aload_n 0, 1) := by decide +kernel
theorem dX4_init_41 : decode cX4_init 41 = .ok (.bipush 6, 2) := by decide +kernel
theorem dX4_init_43 : decode cX4_init 43 = .ok (.bipush 8, 2) := by decide +kernel
theorem dX4_init_45 : decode cX4_init 45 = .ok (.multianewarray 9 2, 4) := by decide +kernel
theorem dX4_init_49 : decode cX4_init 49 = .ok (.putfield 22, 3) := by decide +kernel
theorem dX4_init_52 : decode cX4_init 52 = .ok (.aload_n 0, 1) := by decide +kernel
theorem dX4_init_53 : decode cX4_init 53 = .ok (.bipush 6, 2) := by decide +kernel
theorem dX4_init_55 : decode cX4_init 55 = .ok (.newarray .int, 2) := by decide +kernel
theorem dX4_init_57 : decode cX4_init 57 = .ok (.putfield 25, 3) := by decide +kernel
theorem dX4_init_60 : decode cX4_init 60 = .ok (.aload_n 0, 1) := by decide +kernel
theorem dX4_init_61 : decode cX4_init 61 = .ok (.bipush 6, 2) := by decide +kernel
theorem dX4_init_63 : decode cX4_init 63 = .ok (.newarray .int, 2) := by decide +kernel
theorem dX4_init_65 : decode cX4_init 65 = .ok (.putfield 29, 3) := by decide +kernel
theorem dX4_init_68 : decode cX4_init 68 = .ok (.return_, 1) := by decide +kernel
set_option maxHeartbeats 4000000 in
set_option maxRecDepth 100000 in
theorem mk_X4 (l : Launch) (G : Geo) (h0 sz : Nat) : Met l (ctY 4) (.code (ctY 4) cX4_init 1 none :: GC) ({ frames := 1, cells := 30, slots := 228, locals := 12 }) (MPre G 4 h0 sz) (MPost G 4 h0 sz ownX4 (csX4 G)) 30 228 (fun q => q = h0 ∨ sz ≤ q) := by
  refine Met.ofW (cc := cX4_init) (maxL := 1) (ret := none) (by decide) rfl ?_
  intro p e s m args below meth c s₁ B hml hv
  obtain ⟨rfl, hsz, hh, hP, hK, hN⟩ := hv
  subst hsz
  have hx := B.exec
  have hb := B.bytes
  have hr := B.returns
  have hts0 := atoms_spec (ws := .code (ctY 4) cX4_init 1 none :: GC) B.pre
  have hts : ∀ w ∈ GC, w.before _ s = true := fun w hw => hts0 w (List.mem_cons_of_mem _ hw)
  have hown : s.vm.findClass (clR 4) = some m.cls := findClass_of_methodNamed B.named
  have hlocks := B.notSynchronized
  have hin : meth.name = "<init>" := (name_of_methodNamed B.named B.method).1
  have C : CtX G 4 p s m _ meth c cX4_init := ⟨hx, hb, hown, hts, hK, hin, by decide⟩
  have K : KS G h0 4 [.null, .null, .null, .null, .null, .null] [] s.heap s.heap [] := ⟨hh, rfl, hP, va_S.rf⟩
  have hn : ([] : List va_E).length = 0 := rfl
  have c20 : s.vm.findClass ("[" ++ (FieldType.int).toString) = some (G.2.1 20) := (hK.2 0 _ rfl).2
  have c21 : s.vm.findClass ("[" ++ (FieldType.long).toString) = some (G.2.1 21) := (hK.2 1 _ rfl).2
  have c22 : s.vm.findClass ("[" ++ (FieldType.boolean).toString) = some (G.2.1 22) := (hK.2 2 _ rfl).2
  have hl := lv_entry ([.ref h0]) (n := 1) (Nat.le_of_ble_eq_true rfl)
  rw [lg_entry_eq]
  generalize (lg_sl ([.ref h0]) ++ List.replicate (1 - (lg_sl ([.ref h0])).length) Slot.unset).toArray = ls at hl ⊢
  have hl : lv_has ls 1 [(0, .ref h0)] := hl
  refine lv_aload_n hx hb dX4_init_0 rfl (lv_at hl 0 rfl) ?_
  refine W.objInit hx hb hown (hts _ gx_oi_4) (hts _ gx_in) (hts _ gx_co) rfl (by rw [hml]; exact hl.1) rfl dX4_init_1 (Nat.le_of_ble_eq_true rfl) (Nat.le_of_ble_eq_true rfl) ?_
  refine W.eq (g2 := F0 m 4 ls []) rfl ?_
  refine lv_aload_n hx hb dX4_init_4 rfl (lv_at hl 0 rfl) ?_
  refine lv_bipush hx hb (v := 6) dX4_init_5 (by decide +kernel) ?_
  refine lv_bipush hx hb (v := 8) dX4_init_7 (by decide +kernel) ?_
  refine mkA_mna 0 7 rfl hn C gx_ca_4 hN.2.2 (Nat.le_of_ble_eq_true rfl) (Nat.le_of_ble_eq_true rfl) dX4_init_9 K (fun H1 L1 e9 hn K => ?_)
  refine mk_put 0 (fs1 := [.ref (s.heap.size + 0), .null, .null, .null, .null, .null]) rfl C (by decide) (Nat.le_of_ble_eq_true rfl) gx_f_4_0 rfl ⟨rfl, rfl⟩ dX4_init_13 K (fun H1 locs1 K => ?_)
  refine lv_aload_n hx hb dX4_init_16 rfl (lv_at hl 0 rfl) ?_
  refine lv_bipush hx hb (v := 6) dX4_init_17 (by decide +kernel) ?_
  refine lv_bipush hx hb (v := 8) dX4_init_19 (by decide +kernel) ?_
  refine mkA_mna 7 14 rfl hn C gx_ca_4 hN.2.2 (Nat.le_of_ble_eq_true rfl) (Nat.le_of_ble_eq_true rfl) dX4_init_21 K (fun H1 L1 e21 hn K => ?_)
  refine mk_put 1 (fs1 := [.ref (s.heap.size + 0), .ref (s.heap.size + 7), .null, .null, .null, .null]) rfl C (by decide) (Nat.le_of_ble_eq_true rfl) gx_f_4_1 rfl ⟨rfl, rfl⟩ dX4_init_25 K (fun H1 locs1 K => ?_)
  refine lv_aload_n hx hb dX4_init_28 rfl (lv_at hl 0 rfl) ?_
  refine lv_bipush hx hb (v := 6) dX4_init_29 (by decide +kernel) ?_
  refine lv_bipush hx hb (v := 8) dX4_init_31 (by decide +kernel) ?_
  refine mkA_mna 14 21 rfl hn C gx_ca_4 hN.2.2 (Nat.le_of_ble_eq_true rfl) (Nat.le_of_ble_eq_true rfl) dX4_init_33 K (fun H1 L1 e33 hn K => ?_)
  refine mk_put 2 (fs1 := [.ref (s.heap.size + 0), .ref (s.heap.size + 7), .ref (s.heap.size + 14), .null, .null, .null]) rfl C (by decide) (Nat.le_of_ble_eq_true rfl) gx_f_4_2 rfl ⟨rfl, rfl⟩ dX4_init_37 K (fun H1 locs1 K => ?_)
  refine lv_aload_n hx hb dX4_init_40 rfl (lv_at hl 0 rfl) ?_
  refine lv_bipush hx hb (v := 6) dX4_init_41 (by decide +kernel) ?_
  refine lv_bipush hx hb (v := 8) dX4_init_43 (by decide +kernel) ?_
  refine mkA_mna 21 28 rfl hn C gx_ca_4 hN.2.2 (Nat.le_of_ble_eq_true rfl) (Nat.le_of_ble_eq_true rfl) dX4_init_45 K (fun H1 L1 e45 hn K => ?_)
  refine mk_put 3 (fs1 := [.ref (s.heap.size + 0), .ref (s.heap.size + 7), .ref (s.heap.size + 14), .ref (s.heap.size + 21), .null, .null]) rfl C (by decide) (Nat.le_of_ble_eq_true rfl) gx_f_4_3 rfl ⟨rfl, rfl⟩ dX4_init_49 K (fun H1 locs1 K => ?_)
  refine lv_aload_n hx hb dX4_init_52 rfl (lv_at hl 0 rfl) ?_
  refine lv_bipush hx hb (v := 6) dX4_init_53 (by decide +kernel) ?_
  refine mkA_arr 6 28 29 (z := (6, .inl fun _ => 0)) rfl hn C gx_ai rfl c20 (fun _ => rfl) (by decide +kernel) (by decide +kernel) (by decide +kernel) (Nat.le_of_ble_eq_true rfl) (Nat.le_of_ble_eq_true rfl) dX4_init_55 K (fun H1 L1 e55 hn K => ?_)
  refine mk_put 4 (fs1 := [.ref (s.heap.size + 0), .ref (s.heap.size + 7), .ref (s.heap.size + 14), .ref (s.heap.size + 21), .ref (s.heap.size + 28), .null]) rfl C (by decide) (Nat.le_of_ble_eq_true rfl) gx_f_4_4 rfl ⟨rfl, rfl⟩ dX4_init_57 K (fun H1 locs1 K => ?_)
  refine lv_aload_n hx hb dX4_init_60 rfl (lv_at hl 0 rfl) ?_
  refine lv_bipush hx hb (v := 6) dX4_init_61 (by decide +kernel) ?_
  refine mkA_arr 6 29 30 (z := (6, .inl fun _ => 0)) rfl hn C gx_ai rfl c20 (fun _ => rfl) (by decide +kernel) (by decide +kernel) (by decide +kernel) (Nat.le_of_ble_eq_true rfl) (Nat.le_of_ble_eq_true rfl) dX4_init_63 K (fun H1 L1 e63 hn K => ?_)
  refine mk_put 5 (fs1 := [.ref (s.heap.size + 0), .ref (s.heap.size + 7), .ref (s.heap.size + 14), .ref (s.heap.size + 21), .ref (s.heap.size + 28), .ref (s.heap.size + 29)]) rfl C (by decide) (Nat.le_of_ble_eq_true rfl) gx_f_4_5 rfl ⟨rfl, rfl⟩ dX4_init_65 K (fun H1 locs1 K => ?_)
  have eL : L1 = csX4 G s.heap.size := by rw [e63, e55, e45, e33, e21, e9]; rfl
  rw [eL] at K
  exact W.vret hx hb hr (fun t ht hW => ⟨rfl, by rw [ht]; exact K.2.1, by rw [ht]; exact K.2.2.1, K.2.2.2.F ht⟩) K.2.2.2.2.2 dX4_init_68
def ownX8 (b : Nat) : List Value := [.ref (b + 0), .ref (b + 1), .ref (b + 2), .ref (b + 9)]
def csX8 (G : Geo) (b : Nat) : List va_E := (((([] ++ [.inl (G.2.1 20, 14, .inl fun _ => 0)]) ++ [.inl (G.2.1 20, 14, .inl fun _ => 0)]) ++ mat G (b + 2)) ++ mat G (b + 9))
theorem len_cs8 (G : Geo) (b : Nat) : (csX8 G b).length = 16 := by rfl
theorem dX8_init_0 : decode cX8_init 0 = .ok (.aload_n 0, 1) := by decide +kernel
theorem dX8_init_1 : decode cX8_init 1 = .ok (.invokespecial 3, 3) := by decide +kernel
theorem dX8_init_4 : decode cX8_init 4 = .ok (.aload_n 0, 1) := by decide +kernel
theorem dX8_init_5 : decode cX8_init 5 = .ok (.bipush 14, 2) := by decide +kernel
theorem dX8_init_7 : decode cX8_init 7 = .ok (.newarray .int, 2) := by decide +kernel
theorem dX8_init_9 : decode cX8_init 9 = .ok (.putfield 9, 3) := by decide +kernel
theorem dX8_init_12 : decode cX8_init 12 = .ok (.aload_n 0, 1) := by decide +kernel
theorem dX8_init_13 : decode cX8_init 13 = .ok (.bipush 14, 2) := by decide +kernel
theorem dX8_init_15 : decode cX8_init 15 = .ok (.newarray .int, 2) := by decide +kernel
theorem dX8_init_17 : decode cX8_init 17 = .ok (.putfield 15, 3) := by decide +kernel
theorem dX8_init_20 : decode cX8_init 20 = .ok (.aload_n 0, 1) := by decide +kernel
theorem dX8_init_21 : decode cX8_init 21 = .ok (.bipush 6, 2) := by decide +kernel
theorem dX8_init_23 : decode cX8_init 23 = .ok (.bipush 8, 2) := by decide +kernel
theorem dX8_init_25 : decode cX8_init 25 = .ok (.multianewarray 18 2, 4) := by decide +kernel
theorem dX8_init_29 : decode cX8_init 29 = .ok (.putfield 20, 3) := by decide +kernel
theorem dX8_init_32 : decode cX8_init 32 = .ok (.aload_n 0, 1) := by decide +kernel
theorem dX8_init_33 : decode cX8_init 33 = .ok (.bipush 6, 2) := by decide +kernel
theorem dX8_init_35 : decode cX8_init 35 = .ok (.bipush 8, 2) := by decide +kernel
theorem dX8_init_37 : decode cX8_init 37 = .ok (.multianewarray 18 2, 4) := by decide +kernel
theorem dX8_init_41 : decode cX8_init 41 = .ok (.putfield 23, 3) := by decide +kernel
theorem dX8_init_44 : decode cX8_init 44 = .ok (.return_, 1) := by decide +kernel
set_option maxHeartbeats 4000000 in
set_option maxRecDepth 100000 in
theorem mk_X8 (l : Launch) (G : Geo) (h0 sz : Nat) : Met l (ctY 8) (.code (ctY 8) cX8_init 1 none :: GC) ({ frames := 1, cells := 16, slots := 136, locals := 12 }) (MPre G 8 h0 sz) (MPost G 8 h0 sz ownX8 (csX8 G)) 16 136 (fun q => q = h0 ∨ sz ≤ q) := by
  refine Met.ofW (cc := cX8_init) (maxL := 1) (ret := none) (by decide) rfl ?_
  intro p e s m args below meth c s₁ B hml hv
  obtain ⟨rfl, hsz, hh, hP, hK, hN⟩ := hv
  subst hsz
  have hx := B.exec
  have hb := B.bytes
  have hr := B.returns
  have hts0 := atoms_spec (ws := .code (ctY 8) cX8_init 1 none :: GC) B.pre
  have hts : ∀ w ∈ GC, w.before _ s = true := fun w hw => hts0 w (List.mem_cons_of_mem _ hw)
  have hown : s.vm.findClass (clR 8) = some m.cls := findClass_of_methodNamed B.named
  have hlocks := B.notSynchronized
  have hin : meth.name = "<init>" := (name_of_methodNamed B.named B.method).1
  have C : CtX G 8 p s m _ meth c cX8_init := ⟨hx, hb, hown, hts, hK, hin, by decide⟩
  have K : KS G h0 8 [.null, .null, .null, .null] [] s.heap s.heap [] := ⟨hh, rfl, hP, va_S.rf⟩
  have hn : ([] : List va_E).length = 0 := rfl
  have c20 : s.vm.findClass ("[" ++ (FieldType.int).toString) = some (G.2.1 20) := (hK.2 0 _ rfl).2
  have c21 : s.vm.findClass ("[" ++ (FieldType.long).toString) = some (G.2.1 21) := (hK.2 1 _ rfl).2
  have c22 : s.vm.findClass ("[" ++ (FieldType.boolean).toString) = some (G.2.1 22) := (hK.2 2 _ rfl).2
  have hl := lv_entry ([.ref h0]) (n := 1) (Nat.le_of_ble_eq_true rfl)
  rw [lg_entry_eq]
  generalize (lg_sl ([.ref h0]) ++ List.replicate (1 - (lg_sl ([.ref h0])).length) Slot.unset).toArray = ls at hl ⊢
  have hl : lv_has ls 1 [(0, .ref h0)] := hl
  refine lv_aload_n hx hb dX8_init_0 rfl (lv_at hl 0 rfl) ?_
  refine W.objInit hx hb hown (hts _ gx_oi_8) (hts _ gx_in) (hts _ gx_co) rfl (by rw [hml]; exact hl.1) rfl dX8_init_1 (Nat.le_of_ble_eq_true rfl) (Nat.le_of_ble_eq_true rfl) ?_
  refine W.eq (g2 := F0 m 4 ls []) rfl ?_
  refine lv_aload_n hx hb dX8_init_4 rfl (lv_at hl 0 rfl) ?_
  refine lv_bipush hx hb (v := 14) dX8_init_5 (by decide +kernel) ?_
  refine mkA_arr 14 0 1 (z := (14, .inl fun _ => 0)) rfl hn C gx_ai rfl c20 (fun _ => rfl) (by decide +kernel) (by decide +kernel) (by decide +kernel) (Nat.le_of_ble_eq_true rfl) (Nat.le_of_ble_eq_true rfl) dX8_init_7 K (fun H1 L1 e7 hn K => ?_)
  refine mk_put 0 (fs1 := [.ref (s.heap.size + 0), .null, .null, .null]) rfl C (by decide) (Nat.le_of_ble_eq_true rfl) gx_f_8_0 rfl ⟨rfl, rfl⟩ dX8_init_9 K (fun H1 locs1 K => ?_)
  refine lv_aload_n hx hb dX8_init_12 rfl (lv_at hl 0 rfl) ?_
  refine lv_bipush hx hb (v := 14) dX8_init_13 (by decide +kernel) ?_
  refine mkA_arr 14 1 2 (z := (14, .inl fun _ => 0)) rfl hn C gx_ai rfl c20 (fun _ => rfl) (by decide +kernel) (by decide +kernel) (by decide +kernel) (Nat.le_of_ble_eq_true rfl) (Nat.le_of_ble_eq_true rfl) dX8_init_15 K (fun H1 L1 e15 hn K => ?_)
  refine mk_put 1 (fs1 := [.ref (s.heap.size + 0), .ref (s.heap.size + 1), .null, .null]) rfl C (by decide) (Nat.le_of_ble_eq_true rfl) gx_f_8_1 rfl ⟨rfl, rfl⟩ dX8_init_17 K (fun H1 locs1 K => ?_)
  refine lv_aload_n hx hb dX8_init_20 rfl (lv_at hl 0 rfl) ?_
  refine lv_bipush hx hb (v := 6) dX8_init_21 (by decide +kernel) ?_
  refine lv_bipush hx hb (v := 8) dX8_init_23 (by decide +kernel) ?_
  refine mkA_mna 2 9 rfl hn C gx_ca_8 hN.2.2 (Nat.le_of_ble_eq_true rfl) (Nat.le_of_ble_eq_true rfl) dX8_init_25 K (fun H1 L1 e25 hn K => ?_)
  refine mk_put 2 (fs1 := [.ref (s.heap.size + 0), .ref (s.heap.size + 1), .ref (s.heap.size + 2), .null]) rfl C (by decide) (Nat.le_of_ble_eq_true rfl) gx_f_8_2 rfl ⟨rfl, rfl⟩ dX8_init_29 K (fun H1 locs1 K => ?_)
  refine lv_aload_n hx hb dX8_init_32 rfl (lv_at hl 0 rfl) ?_
  refine lv_bipush hx hb (v := 6) dX8_init_33 (by decide +kernel) ?_
  refine lv_bipush hx hb (v := 8) dX8_init_35 (by decide +kernel) ?_
  refine mkA_mna 9 16 rfl hn C gx_ca_8 hN.2.2 (Nat.le_of_ble_eq_true rfl) (Nat.le_of_ble_eq_true rfl) dX8_init_37 K (fun H1 L1 e37 hn K => ?_)
  refine mk_put 3 (fs1 := [.ref (s.heap.size + 0), .ref (s.heap.size + 1), .ref (s.heap.size + 2), .ref (s.heap.size + 9)]) rfl C (by decide) (Nat.le_of_ble_eq_true rfl) gx_f_8_3 rfl ⟨rfl, rfl⟩ dX8_init_41 K (fun H1 locs1 K => ?_)
  have eL : L1 = csX8 G s.heap.size := by rw [e37, e25, e15, e7]; rfl
  rw [eL] at K
  exact W.vret hx hb hr (fun t ht hW => ⟨rfl, by rw [ht]; exact K.2.1, by rw [ht]; exact K.2.2.1, K.2.2.2.F ht⟩) K.2.2.2.2.2 dX8_init_44
def ownX3 (b : Nat) : List Value := [.int 0, .int 0, .int 0, .int 4, .ref (b + 0), .ref (b + 1), .ref (b + 2), .ref (b + 3), .ref (b + 4), .ref (b + 5), .ref (b + 6), .ref (b + 7), .ref (b + 14), .ref (b + 21)]
def csX3 (G : Geo) (b : Nat) : List va_E := (((((((((([] ++ [.inl (G.2.1 20, 14, .inl fun _ => 0)]) ++ [.inl (G.2.1 20, 6, .inl fun _ => 0)]) ++ [.inl (G.2.1 20, 10, .inl fun _ => 0)]) ++ [.inl (G.2.1 20, 10, .inl fun _ => 0)]) ++ [.inl (G.2.1 20, 6, .inl fun _ => 0)]) ++ [.inl (G.2.1 20, 6, .inl fun _ => 0)]) ++ [.inl (G.2.1 20, 6, .inl fun _ => 0)]) ++ mat G (b + 7)) ++ mat G (b + 14)) ++ (.inr (6, ownX6 (b + 21 + 1)) :: csX6 G (b + 21 + 1)))
theorem len_cs3 (G : Geo) (b : Nat) : (csX3 G b).length = 27 := by simp [csX3, mat, len_cs6]
theorem dX3_init_0 : decode cX3_init 0 = .ok (.aload_n 0, 1) := by decide +kernel
theorem dX3_init_1 : decode cX3_init 1 = .ok (.invokespecial 3, 3) := by decide +kernel
theorem dX3_init_4 : decode cX3_init 4 = .ok (.aload_n 0, 1) := by decide +kernel
theorem dX3_init_5 : decode cX3_init 5 = .ok (.iconst 0, 1) := by decide +kernel
theorem dX3_init_6 : decode cX3_init 6 = .ok (.putfield 9, 3) := by decide +kernel
theorem dX3_init_9 : decode cX3_init 9 = .ok (.aload_n 0, 1) := by decide +kernel
theorem dX3_init_10 : decode cX3_init 10 = .ok (.iconst 0, 1) := by decide +kernel
theorem dX3_init_11 : decode cX3_init 11 = .ok (.putfield 15, 3) := by decide +kernel
theorem dX3_init_14 : decode cX3_init 14 = .ok (.aload_n 0, 1) := by decide +kernel
theorem dX3_init_15 : decode cX3_init 15 = .ok (.iconst 0, 1) := by decide +kernel
theorem dX3_init_16 : decode cX3_init 16 = .ok (.putfield 18, 3) := by decide +kernel
theorem dX3_init_19 : decode cX3_init 19 = .ok (.aload_n 0, 1) := by decide +kernel
theorem dX3_init_20 : decode cX3_init 20 = .ok (.iconst 4, 1) := by decide +kernel
theorem dX3_init_21 : decode cX3_init 21 = .ok (.putfield 21, 3) := by decide +kernel
theorem dX3_init_24 : decode cX3_init 24 = .ok (.aload_n 0, 1) := by decide +kernel
theorem dX3_init_25 : decode cX3_init 25 = .ok (.bipush 14, 2) := by decide +kernel
theorem dX3_init_27 : decode cX3_init 27 = .ok (.newarray .int, 2) := by decide +kernel
theorem dX3_init_29 : decode cX3_init 29 = .ok (.putfield 24, 3) := by decide +kernel
theorem dX3_init_32 : decode cX3_init 32 = .ok (.aload_n 0, 1) := by decide +kernel
theorem dX3_init_33 : decode cX3_init 33 = .ok (.bipush 6, 2) := by decide +kernel
theorem dX3_init_35 : decode cX3_init 35 = .ok (.newarray .int, 2) := by decide +kernel
theorem dX3_init_37 : decode cX3_init 37 = .ok (.putfield 28, 3) := by decide +kernel
theorem dX3_init_40 : decode cX3_init 40 = .ok (.aload_n 0, 1) := by decide +kernel
theorem dX3_init_41 : decode cX3_init 41 = .ok (.bipush 10, 2) := by decide +kernel
theorem dX3_init_43 : decode cX3_init 43 = .ok (.newarray .int, 2) := by decide +kernel
theorem dX3_init_45 : decode cX3_init 45 = .ok (.putfield 31, 3) := by decide +kernel
theorem dX3_init_48 : decode cX3_init 48 = .ok (.aload_n 0, 1) := by decide +kernel
theorem dX3_init_49 : decode cX3_init 49 = .ok (.bipush 10, 2) := by decide +kernel
theorem dX3_init_51 : decode cX3_init 51 = .ok (.newarray .int, 2) := by decide +kernel
theorem dX3_init_53 : decode cX3_init 53 = .ok (.putfield 34, 3) := by decide +kernel
theorem dX3_init_56 : decode cX3_init 56 = .ok (.aload_n 0, 1) := by decide +kernel
theorem dX3_init_57 : decode cX3_init 57 = .ok (.bipush 6, 2) := by decide +kernel
theorem dX3_init_59 : decode cX3_init 59 = .ok (.newarray .int, 2) := by decide +kernel
theorem dX3_init_61 : decode cX3_init 61 = .ok (.putfield 37, 3) := by decide +kernel
theorem dX3_init_64 : decode cX3_init 64 = .ok (.aload_n 0, 1) := by decide +kernel
theorem dX3_init_65 : decode cX3_init 65 = .ok (.bipush 6, 2) := by decide +kernel
theorem dX3_init_67 : decode cX3_init 67 = .ok (.newarray .int, 2) := by decide +kernel
theorem dX3_init_69 : decode cX3_init 69 = .ok (.putfield 40, 3) := by decide +kernel
theorem dX3_init_72 : decode cX3_init 72 = .ok (.aload_n 0, 1) := by decide +kernel
theorem dX3_init_73 : decode cX3_init 73 = .ok (.bipush 6, 2) := by decide +kernel
theorem dX3_init_75 : decode cX3_init 75 = .ok (.newarray .int, 2) := by decide +kernel
theorem dX3_init_77 : decode cX3_init 77 = .ok (.putfield 43, 3) := by decide +kernel
theorem dX3_init_80 : decode cX3_init 80 = .ok (.aload_n 0, 1) := by decide +kernel
theorem dX3_init_81 : decode cX3_init 81 = .ok (.bipush 6, 2) := by decide +kernel
theorem dX3_init_83 : decode cX3_init 83 = .ok (.bipush 8, 2) := by decide +kernel
theorem dX3_init_85 : decode cX3_init 85 = .ok (.multianewarray 46 2, 4) := by decide +kernel
theorem dX3_init_89 : decode cX3_init 89 = .ok (.putfield 48, 3) := by decide +kernel
theorem dX3_init_92 : decode cX3_init 92 = .ok (.aload_n 0, 1) := by decide +kernel
theorem dX3_init_93 : decode cX3_init 93 = .ok (.bipush 6, 2) := by decide +kernel
theorem dX3_init_95 : decode cX3_init 95 = .ok (.bipush 8, 2) := by decide +kernel
theorem dX3_init_97 : decode cX3_init 97 = .ok (.multianewarray 46 2, 4) := by decide +kernel
theorem dX3_init_101 : decode cX3_init 101 = .ok (.putfield 51, 3) := by decide +kernel
theorem dX3_init_104 : decode cX3_init 104 = .ok (.aload_n 0, 1) := by decide +kernel
theorem dX3_init_105 : decode cX3_init 105 = .ok (.new 54, 3) := by decide +kernel
theorem dX3_init_108 : decode cX3_init 108 = .ok (.dup, 1) := by decide +kernel
theorem dX3_init_109 : decode cX3_init 109 = .ok (.invokespecial 56, 3) := by decide +kernel
theorem dX3_init_112 : decode cX3_init 112 = .ok (.putfield 57, 3) := by decide +kernel
theorem dX3_init_115 : decode cX3_init 115 = .ok (.return_, 1) := by decide +kernel
set_option maxHeartbeats 4000000 in
set_option maxRecDepth 100000 in
theorem mk_X3 (l : Launch) (G : Geo) (h0 sz : Nat) : Met l (ctY 3) (.code (ctY 3) cX3_init 1 none :: GC) ({ frames := 2, cells := 27, slots := 224, locals := 32 }) (MPre G 3 h0 sz) (MPost G 3 h0 sz ownX3 (csX3 G)) 27 224 (fun q => q = h0 ∨ sz ≤ q) := by
  refine Met.ofW (cc := cX3_init) (maxL := 1) (ret := none) (by decide) rfl ?_
  intro p e s m args below meth c s₁ B hml hv
  obtain ⟨rfl, hsz, hh, hP, hK, hN⟩ := hv
  subst hsz
  have hx := B.exec
  have hb := B.bytes
  have hr := B.returns
  have hts0 := atoms_spec (ws := .code (ctY 3) cX3_init 1 none :: GC) B.pre
  have hts : ∀ w ∈ GC, w.before _ s = true := fun w hw => hts0 w (List.mem_cons_of_mem _ hw)
  have hown : s.vm.findClass (clR 3) = some m.cls := findClass_of_methodNamed B.named
  have hlocks := B.notSynchronized
  have hin : meth.name = "<init>" := (name_of_methodNamed B.named B.method).1
  have C : CtX G 3 p s m _ meth c cX3_init := ⟨hx, hb, hown, hts, hK, hin, by decide⟩
  have K : KS G h0 3 [.int 0, .int 0, .int 0, .int 0, .null, .null, .null, .null, .null, .null, .null, .null, .null, .null] [] s.heap s.heap [] := ⟨hh, rfl, hP, va_S.rf⟩
  have hn : ([] : List va_E).length = 0 := rfl
  have c20 : s.vm.findClass ("[" ++ (FieldType.int).toString) = some (G.2.1 20) := (hK.2 0 _ rfl).2
  have c21 : s.vm.findClass ("[" ++ (FieldType.long).toString) = some (G.2.1 21) := (hK.2 1 _ rfl).2
  have c22 : s.vm.findClass ("[" ++ (FieldType.boolean).toString) = some (G.2.1 22) := (hK.2 2 _ rfl).2
  have hl := lv_entry ([.ref h0]) (n := 1) (Nat.le_of_ble_eq_true rfl)
  rw [lg_entry_eq]
  generalize (lg_sl ([.ref h0]) ++ List.replicate (1 - (lg_sl ([.ref h0])).length) Slot.unset).toArray = ls at hl ⊢
  have hl : lv_has ls 1 [(0, .ref h0)] := hl
  refine lv_aload_n hx hb dX3_init_0 rfl (lv_at hl 0 rfl) ?_
  refine W.objInit hx hb hown (hts _ gx_oi_3) (hts _ gx_in) (hts _ gx_co) rfl (by rw [hml]; exact hl.1) rfl dX3_init_1 (Nat.le_of_ble_eq_true rfl) (Nat.le_of_ble_eq_true rfl) ?_
  refine W.eq (g2 := F0 m 4 ls []) rfl ?_
  refine lv_aload_n hx hb dX3_init_4 rfl (lv_at hl 0 rfl) ?_
  refine lv_iconst hx hb (v := 0) dX3_init_5 (by decide +kernel) ?_
  refine mk_put 0 (fs1 := [.int 0, .int 0, .int 0, .int 0, .null, .null, .null, .null, .null, .null, .null, .null, .null, .null]) rfl C (by decide) (Nat.le_of_ble_eq_true rfl) gx_f_3_0 rfl ⟨rfl, rfl⟩ dX3_init_6 K (fun H1 locs1 K => ?_)
  refine lv_aload_n hx hb dX3_init_9 rfl (lv_at hl 0 rfl) ?_
  refine lv_iconst hx hb (v := 0) dX3_init_10 (by decide +kernel) ?_
  refine mk_put 1 (fs1 := [.int 0, .int 0, .int 0, .int 0, .null, .null, .null, .null, .null, .null, .null, .null, .null, .null]) rfl C (by decide) (Nat.le_of_ble_eq_true rfl) gx_f_3_1 rfl ⟨rfl, rfl⟩ dX3_init_11 K (fun H1 locs1 K => ?_)
  refine lv_aload_n hx hb dX3_init_14 rfl (lv_at hl 0 rfl) ?_
  refine lv_iconst hx hb (v := 0) dX3_init_15 (by decide +kernel) ?_
  refine mk_put 2 (fs1 := [.int 0, .int 0, .int 0, .int 0, .null, .null, .null, .null, .null, .null, .null, .null, .null, .null]) rfl C (by decide) (Nat.le_of_ble_eq_true rfl) gx_f_3_2 rfl ⟨rfl, rfl⟩ dX3_init_16 K (fun H1 locs1 K => ?_)
  refine lv_aload_n hx hb dX3_init_19 rfl (lv_at hl 0 rfl) ?_
  refine lv_iconst hx hb (v := 4) dX3_init_20 (by decide +kernel) ?_
  refine mk_put 3 (fs1 := [.int 0, .int 0, .int 0, .int 4, .null, .null, .null, .null, .null, .null, .null, .null, .null, .null]) rfl C (by decide) (Nat.le_of_ble_eq_true rfl) gx_f_3_3 rfl ⟨rfl, rfl⟩ dX3_init_21 K (fun H1 locs1 K => ?_)
  refine lv_aload_n hx hb dX3_init_24 rfl (lv_at hl 0 rfl) ?_
  refine lv_bipush hx hb (v := 14) dX3_init_25 (by decide +kernel) ?_
  refine mkA_arr 14 0 1 (z := (14, .inl fun _ => 0)) rfl hn C gx_ai rfl c20 (fun _ => rfl) (by decide +kernel) (by decide +kernel) (by decide +kernel) (Nat.le_of_ble_eq_true rfl) (Nat.le_of_ble_eq_true rfl) dX3_init_27 K (fun H1 L1 e27 hn K => ?_)
  refine mk_put 4 (fs1 := [.int 0, .int 0, .int 0, .int 4, .ref (s.heap.size + 0), .null, .null, .null, .null, .null, .null, .null, .null, .null]) rfl C (by decide) (Nat.le_of_ble_eq_true rfl) gx_f_3_4 rfl ⟨rfl, rfl⟩ dX3_init_29 K (fun H1 locs1 K => ?_)
  refine lv_aload_n hx hb dX3_init_32 rfl (lv_at hl 0 rfl) ?_
  refine lv_bipush hx hb (v := 6) dX3_init_33 (by decide +kernel) ?_
  refine mkA_arr 6 1 2 (z := (6, .inl fun _ => 0)) rfl hn C gx_ai rfl c20 (fun _ => rfl) (by decide +kernel) (by decide +kernel) (by decide +kernel) (Nat.le_of_ble_eq_true rfl) (Nat.le_of_ble_eq_true rfl) dX3_init_35 K (fun H1 L1 e35 hn K => ?_)
  refine mk_put 5 (fs1 := [.int 0, .int 0, .int 0, .int 4, .ref (s.heap.size + 0), .ref (s.heap.size + 1), .null, .null, .null, .null, .null, .null, .null, .null]) rfl C (by decide) (Nat.le_of_ble_eq_true rfl) gx_f_3_5 rfl ⟨rfl, rfl⟩ dX3_init_37 K (fun H1 locs1 K => ?_)
  refine lv_aload_n hx hb dX3_init_40 rfl (lv_at hl 0 rfl) ?_
  refine lv_bipush hx hb (v := 10) dX3_init_41 (by decide +kernel) ?_
  refine mkA_arr 10 2 3 (z := (10, .inl fun _ => 0)) rfl hn C gx_ai rfl c20 (fun _ => rfl) (by decide +kernel) (by decide +kernel) (by decide +kernel) (Nat.le_of_ble_eq_true rfl) (Nat.le_of_ble_eq_true rfl) dX3_init_43 K (fun H1 L1 e43 hn K => ?_)
  refine mk_put 6 (fs1 := [.int 0, .int 0, .int 0, .int 4, .ref (s.heap.size + 0), .ref (s.heap.size + 1), .ref (s.heap.size + 2), .null, .null, .null, .null, .null, .null, .null]) rfl C (by decide) (Nat.le_of_ble_eq_true rfl) gx_f_3_6 rfl ⟨rfl, rfl⟩ dX3_init_45 K (fun H1 locs1 K => ?_)
  refine lv_aload_n hx hb dX3_init_48 rfl (lv_at hl 0 rfl) ?_
  refine lv_bipush hx hb (v := 10) dX3_init_49 (by decide +kernel) ?_
  refine mkA_arr 10 3 4 (z := (10, .inl fun _ => 0)) rfl hn C gx_ai rfl c20 (fun _ => rfl) (by decide +kernel) (by decide +kernel) (by decide +kernel) (Nat.le_of_ble_eq_true rfl) (Nat.le_of_ble_eq_true rfl) dX3_init_51 K (fun H1 L1 e51 hn K => ?_)
  refine mk_put 7 (fs1 := [.int 0, .int 0, .int 0, .int 4, .ref (s.heap.size + 0), .ref (s.heap.size + 1), .ref (s.heap.size + 2), .ref (s.heap.size + 3), .null, .null, .null, .null, .null, .null]) rfl C (by decide) (Nat.le_of_ble_eq_true rfl) gx_f_3_7 rfl ⟨rfl, rfl⟩ dX3_init_53 K (fun H1 locs1 K => ?_)
  refine lv_aload_n hx hb dX3_init_56 rfl (lv_at hl 0 rfl) ?_
  refine lv_bipush hx hb (v := 6) dX3_init_57 (by decide +kernel) ?_
  refine mkA_arr 6 4 5 (z := (6, .inl fun _ => 0)) rfl hn C gx_ai rfl c20 (fun _ => rfl) (by decide +kernel) (by decide +kernel) (by decide +kernel) (Nat.le_of_ble_eq_true rfl) (Nat.le_of_ble_eq_true rfl) dX3_init_59 K (fun H1 L1 e59 hn K => ?_)
  refine mk_put 8 (fs1 := [.int 0, .int 0, .int 0, .int 4, .ref (s.heap.size + 0), .ref (s.heap.size + 1), .ref (s.heap.size + 2), .ref (s.heap.size + 3), .ref (s.heap.size + 4), .null, .null, .null, .null, .null]) rfl C (by decide) (Nat.le_of_ble_eq_true rfl) gx_f_3_8 rfl ⟨rfl, rfl⟩ dX3_init_61 K (fun H1 locs1 K => ?_)
  refine lv_aload_n hx hb dX3_init_64 rfl (lv_at hl 0 rfl) ?_
  refine lv_bipush hx hb (v := 6) dX3_init_65 (by decide +kernel) ?_
  refine mkA_arr 6 5 6 (z := (6, .inl fun _ => 0)) rfl hn C gx_ai rfl c20 (fun _ => rfl) (by decide +kernel) (by decide +kernel) (by decide +kernel) (Nat.le_of_ble_eq_true rfl) (Nat.le_of_ble_eq_true rfl) dX3_init_67 K (fun H1 L1 e67 hn K => ?_)
  refine mk_put 9 (fs1 := [.int 0, .int 0, .int 0, .int 4, .ref (s.heap.size + 0), .ref (s.heap.size + 1), .ref (s.heap.size + 2), .ref (s.heap.size + 3), .ref (s.heap.size + 4), .ref (s.heap.size + 5), .null, .null, .null, .null]) rfl C (by decide) (Nat.le_of_ble_eq_true rfl) gx_f_3_9 rfl ⟨rfl, rfl⟩ dX3_init_69 K (fun H1 locs1 K => ?_)
  refine lv_aload_n hx hb dX3_init_72 rfl (lv_at hl 0 rfl) ?_
  refine lv_bipush hx hb (v := 6) dX3_init_73 (by decide +kernel) ?_
  refine mkA_arr 6 6 7 (z := (6, .inl fun _ => 0)) rfl hn C gx_ai rfl c20 (fun _ => rfl) (by decide +kernel) (by decide +kernel) (by decide +kernel) (Nat.le_of_ble_eq_true rfl) (Nat.le_of_ble_eq_true rfl) dX3_init_75 K (fun H1 L1 e75 hn K => ?_)
  refine mk_put 10 (fs1 := [.int 0, .int 0, .int 0, .int 4, .ref (s.heap.size + 0), .ref (s.heap.size + 1), .ref (s.heap.size + 2), .ref (s.heap.size + 3), .ref (s.heap.size + 4), .ref (s.heap.size + 5), .ref (s.heap.size + 6), .null, .null, .null]) rfl C (by decide) (Nat.le_of_ble_eq_true rfl) gx_f_3_10 rfl ⟨rfl, rfl⟩ dX3_init_77 K (fun H1 locs1 K => ?_)
  refine lv_aload_n hx hb dX3_init_80 rfl (lv_at hl 0 rfl) ?_
  refine lv_bipush hx hb (v := 6) dX3_init_81 (by decide +kernel) ?_
  refine lv_bipush hx hb (v := 8) dX3_init_83 (by decide +kernel) ?_
  refine mkA_mna 7 14 rfl hn C gx_ca_3 hN.2.2 (Nat.le_of_ble_eq_true rfl) (Nat.le_of_ble_eq_true rfl) dX3_init_85 K (fun H1 L1 e85 hn K => ?_)
  refine mk_put 11 (fs1 := [.int 0, .int 0, .int 0, .int 4, .ref (s.heap.size + 0), .ref (s.heap.size + 1), .ref (s.heap.size + 2), .ref (s.heap.size + 3), .ref (s.heap.size + 4), .ref (s.heap.size + 5), .ref (s.heap.size + 6), .ref (s.heap.size + 7), .null, .null]) rfl C (by decide) (Nat.le_of_ble_eq_true rfl) gx_f_3_11 rfl ⟨rfl, rfl⟩ dX3_init_89 K (fun H1 locs1 K => ?_)
  refine lv_aload_n hx hb dX3_init_92 rfl (lv_at hl 0 rfl) ?_
  refine lv_bipush hx hb (v := 6) dX3_init_93 (by decide +kernel) ?_
  refine lv_bipush hx hb (v := 8) dX3_init_95 (by decide +kernel) ?_
  refine mkA_mna 14 21 rfl hn C gx_ca_3 hN.2.2 (Nat.le_of_ble_eq_true rfl) (Nat.le_of_ble_eq_true rfl) dX3_init_97 K (fun H1 L1 e97 hn K => ?_)
  refine mk_put 12 (fs1 := [.int 0, .int 0, .int 0, .int 4, .ref (s.heap.size + 0), .ref (s.heap.size + 1), .ref (s.heap.size + 2), .ref (s.heap.size + 3), .ref (s.heap.size + 4), .ref (s.heap.size + 5), .ref (s.heap.size + 6), .ref (s.heap.size + 7), .ref (s.heap.size + 14), .null]) rfl C (by decide) (Nat.le_of_ble_eq_true rfl) gx_f_3_12 rfl ⟨rfl, rfl⟩ dX3_init_101 K (fun H1 locs1 K => ?_)
  refine lv_aload_n hx hb dX3_init_104 rfl (lv_at hl 0 rfl) ?_
  refine mkA_new 6 21 hn C (by decide) gx_cl_3_54 gx_is_6 (Nat.le_of_ble_eq_true rfl) (Nat.le_of_ble_eq_true rfl) dX3_init_105 K (fun H1 K => ?_)
  refine lv_dup hx hb dX3_init_108 rfl ?_
  refine mkA_call (n1 := 27) (mk_X6 l G (s.heap.size + 21) (s.heap.size + 21 + 1)) hn rfl (len_cs6 _ _) rfl (by decide) gx_ic_6 gx_ii_6 (Or.inl (by decide)) C hN hml hl.1 rfl rfl (Nat.le_of_ble_eq_true rfl) (Nat.le_of_ble_eq_true rfl) (Nat.le_of_ble_eq_true rfl) (Nat.le_of_ble_eq_true rfl) (Nat.le_of_ble_eq_true rfl) dX3_init_109 K (fun H1 locs1 L1 e109 hn K => ?_)
  refine mk_put 13 (fs1 := [.int 0, .int 0, .int 0, .int 4, .ref (s.heap.size + 0), .ref (s.heap.size + 1), .ref (s.heap.size + 2), .ref (s.heap.size + 3), .ref (s.heap.size + 4), .ref (s.heap.size + 5), .ref (s.heap.size + 6), .ref (s.heap.size + 7), .ref (s.heap.size + 14), .ref (s.heap.size + 21)]) rfl C (by decide) (Nat.le_of_ble_eq_true rfl) gx_f_3_13 rfl ⟨rfl, rfl⟩ dX3_init_112 K (fun H1 locs1 K => ?_)
  have eL : L1 = csX3 G s.heap.size := by rw [e109, e97, e85, e75, e67, e59, e51, e43, e35, e27]; rfl
  rw [eL] at K
  exact W.vret hx hb hr (fun t ht hW => ⟨rfl, by rw [ht]; exact K.2.1, by rw [ht]; exact K.2.2.1, K.2.2.2.F ht⟩) K.2.2.2.2.2 dX3_init_115
