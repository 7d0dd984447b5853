/-! The constructors. -/
def ownX10 (b : Nat) : List Value := [.ref (b + 0), .ref (b + 2), .ref (b + 35), .ref (b + 41), .ref (b + 47), .ref (b + 169), .ref (b + 197), .ref (b + 288), .ref (b + 292), .ref (b + 293), .int 0, .int 1]
def csX10 (G : Geo) (b : Nat) : List va_E := (((((((((([] ++ (.inr (7, ownX7 (b + 0 + 1)) :: csX7 G (b + 0 + 1))) ++ (.inr (5, ownX5 (b + 2 + 1)) :: csX5 G (b + 2 + 1))) ++ (.inr (6, ownX6 (b + 35 + 1)) :: csX6 G (b + 35 + 1))) ++ (.inr (6, ownX6 (b + 41 + 1)) :: csX6 G (b + 41 + 1))) ++ (.inr (0, ownX0 (b + 47 + 1)) :: csX0 G (b + 47 + 1))) ++ (.inr (3, ownX3 (b + 169 + 1)) :: csX3 G (b + 169 + 1))) ++ (.inr (1, ownX1 (b + 197 + 1)) :: csX1 G (b + 197 + 1))) ++ (.inr (2, ownX2 (b + 288 + 1)) :: csX2 G (b + 288 + 1))) ++ [.inl (G.2.1 20, 6, .inl fun _ => 0)]) ++ [.inl (G.2.1 20, 63, .inl fun _ => 0)])
theorem len_cs10 (G : Geo) (b : Nat) : (csX10 G b).length = 294 := by simp [csX10, mat, len_cs0, len_cs6, len_cs3, len_cs7, len_cs2, len_cs5, len_cs1]
theorem dX10_init_0 : decode cX10_init 0 = .ok (.aload_n 0, 1) := by decide +kernel
theorem dX10_init_1 : decode cX10_init 1 = .ok (.invokespecial 3, 3) := by decide +kernel
theorem dX10_init_4 : decode cX10_init 4 = .ok (.aload_n 0, 1) := by decide +kernel
theorem dX10_init_5 : decode cX10_init 5 = .ok (.new 9, 3) := by decide +kernel
theorem dX10_init_8 : decode cX10_init 8 = .ok (.dup, 1) := by decide +kernel
theorem dX10_init_9 : decode cX10_init 9 = .ok (.invokespecial 11, 3) := by decide +kernel
theorem dX10_init_12 : decode cX10_init 12 = .ok (.putfield 12, 3) := by decide +kernel
theorem dX10_init_15 : decode cX10_init 15 = .ok (.aload_n 0, 1) := by decide +kernel
theorem dX10_init_16 : decode cX10_init 16 = .ok (.new 16, 3) := by decide +kernel
theorem dX10_init_19 : decode cX10_init 19 = .ok (.dup, 1) := by decide +kernel
theorem dX10_init_20 : decode cX10_init 20 = .ok (.invokespecial 18, 3) := by decide +kernel
theorem dX10_init_23 : decode cX10_init 23 = .ok (.putfield 19, 3) := by decide +kernel
theorem dX10_init_26 : decode cX10_init 26 = .ok (.aload_n 0, 1) := by decide +kernel
theorem dX10_init_27 : decode cX10_init 27 = .ok (.new 23, 3) := by decide +kernel
theorem dX10_init_30 : decode cX10_init 30 = .ok (.dup, 1) := by decide +kernel
theorem dX10_init_31 : decode cX10_init 31 = .ok (.invokespecial 25, 3) := by decide +kernel
theorem dX10_init_34 : decode cX10_init 34 = .ok (.putfield 26, 3) := by decide +kernel
theorem dX10_init_37 : decode cX10_init 37 = .ok (.aload_n 0, 1) := by decide +kernel
theorem dX10_init_38 : decode cX10_init 38 = .ok (.new 23, 3) := by decide +kernel
theorem dX10_init_41 : decode cX10_init 41 = .ok (.dup, 1) := by decide +kernel
theorem dX10_init_42 : decode cX10_init 42 = .ok (.invokespecial 25, 3) := by decide +kernel
theorem dX10_init_45 : decode cX10_init 45 = .ok (.putfield 30, 3) := by decide +kernel
theorem dX10_init_48 : decode cX10_init 48 = .ok (.aload_n 0, 1) := by decide +kernel
theorem dX10_init_49 : decode cX10_init 49 = .ok (.new 33, 3) := by decide +kernel
theorem dX10_init_52 : decode cX10_init 52 = .ok (.dup, 1) := by decide +kernel
theorem dX10_init_53 : decode cX10_init 53 = .ok (.invokespecial 35, 3) := by decide +kernel
theorem dX10_init_56 : decode cX10_init 56 = .ok (.putfield 36, 3) := by decide +kernel
theorem dX10_init_59 : decode cX10_init 59 = .ok (.aload_n 0, 1) := by decide +kernel
theorem dX10_init_60 : decode cX10_init 60 = .ok (.new 40, 3) := by decide +kernel
theorem dX10_init_63 : decode cX10_init 63 = .ok (.dup, 1) := by decide +kernel
theorem dX10_init_64 : decode cX10_init 64 = .ok (.invokespecial 42, 3) := by decide +kernel
theorem dX10_init_67 : decode cX10_init 67 = .ok (.putfield 43, 3) := by decide +kernel
theorem dX10_init_70 : decode cX10_init 70 = .ok (.aload_n 0, 1) := by decide +kernel
theorem dX10_init_71 : decode cX10_init 71 = .ok (.new 47, 3) := by decide +kernel
theorem dX10_init_74 : decode cX10_init 74 = .ok (.dup, 1) := by decide +kernel
theorem dX10_init_75 : decode cX10_init 75 = .ok (.invokespecial 49, 3) := by decide +kernel
theorem dX10_init_78 : decode cX10_init 78 = .ok (.putfield 50, 3) := by decide +kernel
theorem dX10_init_81 : decode cX10_init 81 = .ok (.aload_n 0, 1) := by decide +kernel
theorem dX10_init_82 : decode cX10_init 82 = .ok (.new 54, 3) := by decide +kernel
theorem dX10_init_85 : decode cX10_init 85 = .ok (.dup, 1) := by decide +kernel
theorem dX10_init_86 : decode cX10_init 86 = .ok (.invokespecial 56, 3) := by decide +kernel
theorem dX10_init_89 : decode cX10_init 89 = .ok (.putfield 57, 3) := by decide +kernel
theorem dX10_init_92 : decode cX10_init 92 = .ok (.aload_n 0, 1) := by decide +kernel
theorem dX10_init_93 : decode cX10_init 93 = .ok (.bipush 6, 2) := by decide +kernel
theorem dX10_init_95 : decode cX10_init 95 = .ok (.newarray .int, 2) := by decide +kernel
theorem dX10_init_97 : decode cX10_init 97 = .ok (.putfield 61, 3) := by decide +kernel
theorem dX10_init_100 : decode cX10_init 100 = .ok (.aload_n 0, 1) := by decide +kernel
theorem dX10_init_101 : decode cX10_init 101 = .ok (.bipush 63, 2) := by decide +kernel
theorem dX10_init_103 : decode cX10_init 103 = .ok (.newarray .int, 2) := by decide +kernel
theorem dX10_init_105 : decode cX10_init 105 = .ok (.putfield 65, 3) := by decide +kernel
theorem dX10_init_108 : decode cX10_init 108 = .ok (.aload_n 0, 1) := by decide +kernel
theorem dX10_init_109 : decode cX10_init 109 = .ok (.iconst 0, 1) := by decide +kernel
theorem dX10_init_110 : decode cX10_init 110 = .ok (.putfield 68, 3) := by decide +kernel
theorem dX10_init_113 : decode cX10_init 113 = .ok (.aload_n 0, 1) := by decide +kernel
theorem dX10_init_114 : decode cX10_init 114 = .ok (.iconst 1, 1) := by decide +kernel
theorem dX10_init_115 : decode cX10_init 115 = .ok (.putfield 72, 3) := by decide +kernel
theorem dX10_init_118 : decode cX10_init 118 = .ok (.return_, 1) := by decide +kernel
set_option maxHeartbeats 4000000 in
set_option maxRecDepth 100000 in
theorem mk_X10 (l : Launch) (G : Geo) (h0 sz : Nat) : Met l (ctY 10) (.code (ctY 10) cX10_init 1 none :: GC) ({ frames := 4, cells := 294, slots := 12093, locals := 72 }) (MPre G 10 h0 sz) (MPost G 10 h0 sz ownX10 (csX10 G)) 294 12093 (fun q => q = h0 ∨ sz ≤ q) := by
  refine Met.ofW (cc := cX10_init) (maxL := 1) (ret := none) (by decide) rfl ?_
  intro p e s m args below meth c s₁ B hml hv
  obtain ⟨rfl, hsz, hh, hP, hK, hN⟩ := hv
  subst hsz
  have hx := B.exec
  have hb := B.bytes
  have hr := B.returns
  have hts0 := atoms_spec (ws := .code (ctY 10) cX10_init 1 none :: GC) B.pre
  have hts : ∀ w ∈ GC, w.before _ s = true := fun w hw => hts0 w (List.mem_cons_of_mem _ hw)
  have hown : s.vm.findClass (clR 10) = some m.cls := findClass_of_methodNamed B.named
  have hlocks := B.notSynchronized
  have hin : meth.name = "<init>" := (name_of_methodNamed B.named B.method).1
  have C : CtX G 10 p s m _ meth c cX10_init := ⟨hx, hb, hown, hts, hK, hin, by decide⟩
  have K : KS G h0 10 [.null, .null, .null, .null, .null, .null, .null, .null, .null, .null, .int 0, .int 0] [] s.heap s.heap [] := ⟨hh, rfl, hP, va_S.rf⟩
  have hn : ([] : List va_E).length = 0 := rfl
  have c20 : s.vm.findClass ("[" ++ (FieldType.int).toString) = some (G.2.1 20) := (hK.2 0 _ rfl).2
  have c21 : s.vm.findClass ("[" ++ (FieldType.long).toString) = some (G.2.1 21) := (hK.2 1 _ rfl).2
  have c22 : s.vm.findClass ("[" ++ (FieldType.boolean).toString) = some (G.2.1 22) := (hK.2 2 _ rfl).2
  have hl := lv_entry ([.ref h0]) (n := 1) (Nat.le_of_ble_eq_true rfl)
  rw [lg_entry_eq]
  generalize (lg_sl ([.ref h0]) ++ List.replicate (1 - (lg_sl ([.ref h0])).length) Slot.unset).toArray = ls at hl ⊢
  have hl : lv_has ls 1 [(0, .ref h0)] := hl
  refine lv_aload_n hx hb dX10_init_0 rfl (lv_at hl 0 rfl) ?_
  refine W.objInit hx hb hown (hts _ gx_oi_10) (hts _ gx_in) (hts _ gx_co) rfl (by rw [hml]; exact hl.1) rfl dX10_init_1 (Nat.le_of_ble_eq_true rfl) (Nat.le_of_ble_eq_true rfl) ?_
  refine W.eq (g2 := F0 m 4 ls []) rfl ?_
  refine lv_aload_n hx hb dX10_init_4 rfl (lv_at hl 0 rfl) ?_
  refine mkA_new 7 0 hn C (by decide) gx_cl_10_9 gx_is_7 (Nat.le_of_ble_eq_true rfl) (Nat.le_of_ble_eq_true rfl) dX10_init_5 K (fun H1 K => ?_)
  refine lv_dup hx hb dX10_init_8 rfl ?_
  refine mkA_call (n1 := 2) (mk_X7 l G (s.heap.size + 0) (s.heap.size + 0 + 1)) hn rfl (len_cs7 _ _) rfl (by decide) gx_ic_7 gx_ii_7 (Or.inl (by decide)) C hN hml hl.1 rfl rfl (Nat.le_of_ble_eq_true rfl) (Nat.le_of_ble_eq_true rfl) (Nat.le_of_ble_eq_true rfl) (Nat.le_of_ble_eq_true rfl) (Nat.le_of_ble_eq_true rfl) dX10_init_9 K (fun H1 locs1 L1 e9 hn K => ?_)
  refine mk_put 0 (fs1 := [.ref (s.heap.size + 0), .null, .null, .null, .null, .null, .null, .null, .null, .null, .int 0, .int 0]) rfl C (by decide) (Nat.le_of_ble_eq_true rfl) gx_f_10_0 rfl ⟨rfl, rfl⟩ dX10_init_12 K (fun H1 locs1 K => ?_)
  refine lv_aload_n hx hb dX10_init_15 rfl (lv_at hl 0 rfl) ?_
  refine mkA_new 5 2 hn C (by decide) gx_cl_10_16 gx_is_5 (Nat.le_of_ble_eq_true rfl) (Nat.le_of_ble_eq_true rfl) dX10_init_16 K (fun H1 K => ?_)
  refine lv_dup hx hb dX10_init_19 rfl ?_
  refine mkA_call (n1 := 35) (mk_X5 l G (s.heap.size + 2) (s.heap.size + 2 + 1)) hn rfl (len_cs5 _ _) rfl (by decide) gx_ic_5 gx_ii_5 (Or.inl (by decide)) C hN hml hl.1 rfl rfl (Nat.le_of_ble_eq_true rfl) (Nat.le_of_ble_eq_true rfl) (Nat.le_of_ble_eq_true rfl) (Nat.le_of_ble_eq_true rfl) (Nat.le_of_ble_eq_true rfl) dX10_init_20 K (fun H1 locs1 L1 e20 hn K => ?_)
  refine mk_put 1 (fs1 := [.ref (s.heap.size + 0), .ref (s.heap.size + 2), .null, .null, .null, .null, .null, .null, .null, .null, .int 0, .int 0]) rfl C (by decide) (Nat.le_of_ble_eq_true rfl) gx_f_10_1 rfl ⟨rfl, rfl⟩ dX10_init_23 K (fun H1 locs1 K => ?_)
  refine lv_aload_n hx hb dX10_init_26 rfl (lv_at hl 0 rfl) ?_
  refine mkA_new 6 35 hn C (by decide) gx_cl_10_23 gx_is_6 (Nat.le_of_ble_eq_true rfl) (Nat.le_of_ble_eq_true rfl) dX10_init_27 K (fun H1 K => ?_)
  refine lv_dup hx hb dX10_init_30 rfl ?_
  refine mkA_call (n1 := 41) (mk_X6 l G (s.heap.size + 35) (s.heap.size + 35 + 1)) hn rfl (len_cs6 _ _) rfl (by decide) gx_ic_6 gx_ii_6 (Or.inl (by decide)) C hN hml hl.1 rfl rfl (Nat.le_of_ble_eq_true rfl) (Nat.le_of_ble_eq_true rfl) (Nat.le_of_ble_eq_true rfl) (Nat.le_of_ble_eq_true rfl) (Nat.le_of_ble_eq_true rfl) dX10_init_31 K (fun H1 locs1 L1 e31 hn K => ?_)
  refine mk_put 2 (fs1 := [.ref (s.heap.size + 0), .ref (s.heap.size + 2), .ref (s.heap.size + 35), .null, .null, .null, .null, .null, .null, .null, .int 0, .int 0]) rfl C (by decide) (Nat.le_of_ble_eq_true rfl) gx_f_10_2 rfl ⟨rfl, rfl⟩ dX10_init_34 K (fun H1 locs1 K => ?_)
  refine lv_aload_n hx hb dX10_init_37 rfl (lv_at hl 0 rfl) ?_
  refine mkA_new 6 41 hn C (by decide) gx_cl_10_23 gx_is_6 (Nat.le_of_ble_eq_true rfl) (Nat.le_of_ble_eq_true rfl) dX10_init_38 K (fun H1 K => ?_)
  refine lv_dup hx hb dX10_init_41 rfl ?_
  refine mkA_call (n1 := 47) (mk_X6 l G (s.heap.size + 41) (s.heap.size + 41 + 1)) hn rfl (len_cs6 _ _) rfl (by decide) gx_ic_6 gx_ii_6 (Or.inl (by decide)) C hN hml hl.1 rfl rfl (Nat.le_of_ble_eq_true rfl) (Nat.le_of_ble_eq_true rfl) (Nat.le_of_ble_eq_true rfl) (Nat.le_of_ble_eq_true rfl) (Nat.le_of_ble_eq_true rfl) dX10_init_42 K (fun H1 locs1 L1 e42 hn K => ?_)
  refine mk_put 3 (fs1 := [.ref (s.heap.size + 0), .ref (s.heap.size + 2), .ref (s.heap.size + 35), .ref (s.heap.size + 41), .null, .null, .null, .null, .null, .null, .int 0, .int 0]) rfl C (by decide) (Nat.le_of_ble_eq_true rfl) gx_f_10_3 rfl ⟨rfl, rfl⟩ dX10_init_45 K (fun H1 locs1 K => ?_)
  refine lv_aload_n hx hb dX10_init_48 rfl (lv_at hl 0 rfl) ?_
  refine mkA_new 0 47 hn C (by decide) gx_cl_10_33 gx_is_0 (Nat.le_of_ble_eq_true rfl) (Nat.le_of_ble_eq_true rfl) dX10_init_49 K (fun H1 K => ?_)
  refine lv_dup hx hb dX10_init_52 rfl ?_
  refine mkA_call (n1 := 169) (mk_X0 l G (s.heap.size + 47) (s.heap.size + 47 + 1)) hn rfl (len_cs0 _ _) rfl (by decide) gx_ic_0 gx_ii_0 (Or.inr gx_mA) C hN hml hl.1 rfl rfl (Nat.le_of_ble_eq_true rfl) (Nat.le_of_ble_eq_true rfl) (Nat.le_of_ble_eq_true rfl) (Nat.le_of_ble_eq_true rfl) (Nat.le_of_ble_eq_true rfl) dX10_init_53 K (fun H1 locs1 L1 e53 hn K => ?_)
  refine mk_put 4 (fs1 := [.ref (s.heap.size + 0), .ref (s.heap.size + 2), .ref (s.heap.size + 35), .ref (s.heap.size + 41), .ref (s.heap.size + 47), .null, .null, .null, .null, .null, .int 0, .int 0]) rfl C (by decide) (Nat.le_of_ble_eq_true rfl) gx_f_10_4 rfl ⟨rfl, rfl⟩ dX10_init_56 K (fun H1 locs1 K => ?_)
  refine lv_aload_n hx hb dX10_init_59 rfl (lv_at hl 0 rfl) ?_
  refine mkA_new 3 169 hn C (by decide) gx_cl_10_40 gx_is_3 (Nat.le_of_ble_eq_true rfl) (Nat.le_of_ble_eq_true rfl) dX10_init_60 K (fun H1 K => ?_)
  refine lv_dup hx hb dX10_init_63 rfl ?_
  refine mkA_call (n1 := 197) (mk_X3 l G (s.heap.size + 169) (s.heap.size + 169 + 1)) hn rfl (len_cs3 _ _) rfl (by decide) gx_ic_3 gx_ii_3 (Or.inl (by decide)) C hN hml hl.1 rfl rfl (Nat.le_of_ble_eq_true rfl) (Nat.le_of_ble_eq_true rfl) (Nat.le_of_ble_eq_true rfl) (Nat.le_of_ble_eq_true rfl) (Nat.le_of_ble_eq_true rfl) dX10_init_64 K (fun H1 locs1 L1 e64 hn K => ?_)
  refine mk_put 5 (fs1 := [.ref (s.heap.size + 0), .ref (s.heap.size + 2), .ref (s.heap.size + 35), .ref (s.heap.size + 41), .ref (s.heap.size + 47), .ref (s.heap.size + 169), .null, .null, .null, .null, .int 0, .int 0]) rfl C (by decide) (Nat.le_of_ble_eq_true rfl) gx_f_10_5 rfl ⟨rfl, rfl⟩ dX10_init_67 K (fun H1 locs1 K => ?_)
  refine lv_aload_n hx hb dX10_init_70 rfl (lv_at hl 0 rfl) ?_
  refine mkA_new 1 197 hn C (by decide) gx_cl_10_47 gx_is_1 (Nat.le_of_ble_eq_true rfl) (Nat.le_of_ble_eq_true rfl) dX10_init_71 K (fun H1 K => ?_)
  refine lv_dup hx hb dX10_init_74 rfl ?_
  refine mkA_call (n1 := 288) (mk_X1 l G (s.heap.size + 197) (s.heap.size + 197 + 1)) hn rfl (len_cs1 _ _) rfl (by decide) gx_ic_1 gx_ii_1 (Or.inl (by decide)) C hN hml hl.1 rfl rfl (Nat.le_of_ble_eq_true rfl) (Nat.le_of_ble_eq_true rfl) (Nat.le_of_ble_eq_true rfl) (Nat.le_of_ble_eq_true rfl) (Nat.le_of_ble_eq_true rfl) dX10_init_75 K (fun H1 locs1 L1 e75 hn K => ?_)
  refine mk_put 6 (fs1 := [.ref (s.heap.size + 0), .ref (s.heap.size + 2), .ref (s.heap.size + 35), .ref (s.heap.size + 41), .ref (s.heap.size + 47), .ref (s.heap.size + 169), .ref (s.heap.size + 197), .null, .null, .null, .int 0, .int 0]) rfl C (by decide) (Nat.le_of_ble_eq_true rfl) gx_f_10_6 rfl ⟨rfl, rfl⟩ dX10_init_78 K (fun H1 locs1 K => ?_)
  refine lv_aload_n hx hb dX10_init_81 rfl (lv_at hl 0 rfl) ?_
  refine mkA_new 2 288 hn C (by decide) gx_cl_10_54 gx_is_2 (Nat.le_of_ble_eq_true rfl) (Nat.le_of_ble_eq_true rfl) dX10_init_82 K (fun H1 K => ?_)
  refine lv_dup hx hb dX10_init_85 rfl ?_
  refine mkA_call (n1 := 292) (mk_X2 l G (s.heap.size + 288) (s.heap.size + 288 + 1)) hn rfl (len_cs2 _ _) rfl (by decide) gx_ic_2 gx_ii_2 (Or.inl (by decide)) C hN hml hl.1 rfl rfl (Nat.le_of_ble_eq_true rfl) (Nat.le_of_ble_eq_true rfl) (Nat.le_of_ble_eq_true rfl) (Nat.le_of_ble_eq_true rfl) (Nat.le_of_ble_eq_true rfl) dX10_init_86 K (fun H1 locs1 L1 e86 hn K => ?_)
  refine mk_put 7 (fs1 := [.ref (s.heap.size + 0), .ref (s.heap.size + 2), .ref (s.heap.size + 35), .ref (s.heap.size + 41), .ref (s.heap.size + 47), .ref (s.heap.size + 169), .ref (s.heap.size + 197), .ref (s.heap.size + 288), .null, .null, .int 0, .int 0]) rfl C (by decide) (Nat.le_of_ble_eq_true rfl) gx_f_10_7 rfl ⟨rfl, rfl⟩ dX10_init_89 K (fun H1 locs1 K => ?_)
  refine lv_aload_n hx hb dX10_init_92 rfl (lv_at hl 0 rfl) ?_
  refine lv_bipush hx hb (v := 6) dX10_init_93 (by decide +kernel) ?_
  refine mkA_arr 6 292 293 (z := (6, .inl fun _ => 0)) rfl hn C gx_ai rfl c20 (fun _ => rfl) (by decide +kernel) (by decide +kernel) (by decide +kernel) (Nat.le_of_ble_eq_true rfl) (Nat.le_of_ble_eq_true rfl) dX10_init_95 K (fun H1 L1 e95 hn K => ?_)
  refine mk_put 8 (fs1 := [.ref (s.heap.size + 0), .ref (s.heap.size + 2), .ref (s.heap.size + 35), .ref (s.heap.size + 41), .ref (s.heap.size + 47), .ref (s.heap.size + 169), .ref (s.heap.size + 197), .ref (s.heap.size + 288), .ref (s.heap.size + 292), .null, .int 0, .int 0]) rfl C (by decide) (Nat.le_of_ble_eq_true rfl) gx_f_10_8 rfl ⟨rfl, rfl⟩ dX10_init_97 K (fun H1 locs1 K => ?_)
  refine lv_aload_n hx hb dX10_init_100 rfl (lv_at hl 0 rfl) ?_
  refine lv_bipush hx hb (v := 63) dX10_init_101 (by decide +kernel) ?_
  refine mkA_arr 63 293 294 (z := (63, .inl fun _ => 0)) rfl hn C gx_ai rfl c20 (fun _ => rfl) (by decide +kernel) (by decide +kernel) (by decide +kernel) (Nat.le_of_ble_eq_true rfl) (Nat.le_of_ble_eq_true rfl) dX10_init_103 K (fun H1 L1 e103 hn K => ?_)
  refine mk_put 9 (fs1 := [.ref (s.heap.size + 0), .ref (s.heap.size + 2), .ref (s.heap.size + 35), .ref (s.heap.size + 41), .ref (s.heap.size + 47), .ref (s.heap.size + 169), .ref (s.heap.size + 197), .ref (s.heap.size + 288), .ref (s.heap.size + 292), .ref (s.heap.size + 293), .int 0, .int 0]) rfl C (by decide) (Nat.le_of_ble_eq_true rfl) gx_f_10_9 rfl ⟨rfl, rfl⟩ dX10_init_105 K (fun H1 locs1 K => ?_)
  refine lv_aload_n hx hb dX10_init_108 rfl (lv_at hl 0 rfl) ?_
  refine lv_iconst hx hb (v := 0) dX10_init_109 (by decide +kernel) ?_
  refine mk_put 10 (fs1 := [.ref (s.heap.size + 0), .ref (s.heap.size + 2), .ref (s.heap.size + 35), .ref (s.heap.size + 41), .ref (s.heap.size + 47), .ref (s.heap.size + 169), .ref (s.heap.size + 197), .ref (s.heap.size + 288), .ref (s.heap.size + 292), .ref (s.heap.size + 293), .int 0, .int 0]) rfl C (by decide) (Nat.le_of_ble_eq_true rfl) gx_f_10_10 rfl ⟨rfl, rfl⟩ dX10_init_110 K (fun H1 locs1 K => ?_)
  refine lv_aload_n hx hb dX10_init_113 rfl (lv_at hl 0 rfl) ?_
  refine lv_iconst hx hb (v := 1) dX10_init_114 (by decide +kernel) ?_
  refine mk_put 11 (fs1 := [.ref (s.heap.size + 0), .ref (s.heap.size + 2), .ref (s.heap.size + 35), .ref (s.heap.size + 41), .ref (s.heap.size + 47), .ref (s.heap.size + 169), .ref (s.heap.size + 197), .ref (s.heap.size + 288), .ref (s.heap.size + 292), .ref (s.heap.size + 293), .int 0, .int 1]) rfl C (by decide) (Nat.le_of_ble_eq_true rfl) gx_f_10_11 rfl ⟨rfl, rfl⟩ dX10_init_115 K (fun H1 locs1 K => ?_)
  have eL : L1 = csX10 G s.heap.size := by rw [e103, e95, e86, e75, e64, e53, e42, e31, e20, e9]; rfl
  rw [eL] at K
  exact W.vret hx hb hr (fun t ht hW => ⟨rfl, by rw [ht]; exact K.2.1, by rw [ht]; exact K.2.2.1, K.2.2.2.F ht⟩) K.2.2.2.2.2 dX10_init_118
