/-! The texts: String and Tokens.spelling. -/
theorem dJ0_length_8abf5_0 : decode cJ0_length_8abf5 0 = .ok (.aload_n 0, 1) := by decide +kernel
theorem dJ0_length_8abf5_1 : decode cJ0_length_8abf5 1 = .ok (.getfield 9, 3) := by decide +kernel
theorem dJ0_length_8abf5_4 : decode cJ0_length_8abf5 4 = .ok (.arraylength, 1) := by decide +kernel
theorem dJ0_length_8abf5_5 : decode cJ0_length_8abf5 5 = .ok (.aload_n 0, 1) := by decide +kernel
theorem dJ0_length_8abf5_6 : decode cJ0_length_8abf5 6 = .ok (.invokevirtual 335, 3) := by decide +kernel
theorem dJ0_length_8abf5_9 : decode cJ0_length_8abf5 9 = .ok (.ishr, 1) := by decide +kernel
theorem dJ0_length_8abf5_10 : decode cJ0_length_8abf5 10 = .ok (.ireturn, 1) := by decide +kernel
theorem dJ0_coder_7d493_0 : decode cJ0_coder_7d493 0 = .ok (.getstatic 38, 3) := by decide +kernel
theorem dJ0_coder_7d493_3 : decode cJ0_coder_7d493 3 = .ok (.ifCond .eq 10, 3) := by decide +kernel
theorem dJ0_coder_7d493_6 : decode cJ0_coder_7d493 6 = .ok (.aload_n 0, 1) := by decide +kernel
theorem dJ0_coder_7d493_7 : decode cJ0_coder_7d493 7 = .ok (.getfield 15, 3) := by decide +kernel
theorem dJ0_coder_7d493_10 : decode cJ0_coder_7d493 10 = .ok (.goto 4, 3) := by decide +kernel
theorem dJ0_coder_7d493_13 : decode cJ0_coder_7d493 13 = .ok (.iconst 1, 1) := by decide +kernel
theorem dJ0_coder_7d493_14 : decode cJ0_coder_7d493 14 = .ok (.ireturn, 1) := by decide +kernel
theorem dJ0_charAt_5068e_0 : decode cJ0_charAt_5068e 0 = .ok (.aload_n 0, 1) := by decide +kernel
theorem dJ0_charAt_5068e_1 : decode cJ0_charAt_5068e 1 = .ok (.invokevirtual 492, 3) := by decide +kernel
theorem dJ0_charAt_5068e_4 : decode cJ0_charAt_5068e 4 = .ok (.ifCond .eq 12, 3) := by decide +kernel
theorem dJ0_charAt_5068e_7 : decode cJ0_charAt_5068e 7 = .ok (.aload_n 0, 1) := by decide +kernel
theorem dJ0_charAt_5068e_8 : decode cJ0_charAt_5068e 8 = .ok (.getfield 9, 3) := by decide +kernel
theorem dJ0_charAt_5068e_11 : decode cJ0_charAt_5068e 11 = .ok (.iload_n 1, 1) := by decide +kernel
theorem dJ0_charAt_5068e_12 : decode cJ0_charAt_5068e 12 = .ok (.invokestatic 495, 3) := by decide +kernel
theorem dJ0_charAt_5068e_15 : decode cJ0_charAt_5068e 15 = .ok (.ireturn, 1) := by decide +kernel
theorem dJ0_charAt_5068e_16 : decode cJ0_charAt_5068e 16 = .ok (.aload_n 0, 1) := by decide +kernel
theorem dJ0_charAt_5068e_17 : decode cJ0_charAt_5068e 17 = .ok (.getfield 9, 3) := by decide +kernel
theorem dJ0_charAt_5068e_20 : decode cJ0_charAt_5068e 20 = .ok (.iload_n 1, 1) := by decide +kernel
theorem dJ0_charAt_5068e_21 : decode cJ0_charAt_5068e 21 = .ok (.invokestatic 498, 3) := by decide +kernel
theorem dJ0_charAt_5068e_24 : decode cJ0_charAt_5068e 24 = .ok (.ireturn, 1) := by decide +kernel
theorem dJ0_isLatin1_aae02_0 : decode cJ0_isLatin1_aae02 0 = .ok (.getstatic 38, 3) := by decide +kernel
theorem dJ0_isLatin1_aae02_3 : decode cJ0_isLatin1_aae02 3 = .ok (.ifCond .eq 14, 3) := by decide +kernel
theorem dJ0_isLatin1_aae02_6 : decode cJ0_isLatin1_aae02 6 = .ok (.aload_n 0, 1) := by decide +kernel
theorem dJ0_isLatin1_aae02_7 : decode cJ0_isLatin1_aae02 7 = .ok (.getfield 15, 3) := by decide +kernel
theorem dJ0_isLatin1_aae02_10 : decode cJ0_isLatin1_aae02 10 = .ok (.ifCond .ne 7, 3) := by decide +kernel
theorem dJ0_isLatin1_aae02_13 : decode cJ0_isLatin1_aae02 13 = .ok (.iconst 1, 1) := by decide +kernel
theorem dJ0_isLatin1_aae02_14 : decode cJ0_isLatin1_aae02 14 = .ok (.goto 4, 3) := by decide +kernel
theorem dJ0_isLatin1_aae02_17 : decode cJ0_isLatin1_aae02 17 = .ok (.iconst 0, 1) := by decide +kernel
theorem dJ0_isLatin1_aae02_18 : decode cJ0_isLatin1_aae02 18 = .ok (.ireturn, 1) := by decide +kernel
theorem dJ1_charAt_3b067_0 : decode cJ1_charAt_3b067 0 = .ok (.iload_n 1, 1) := by decide +kernel
theorem dJ1_charAt_3b067_1 : decode cJ1_charAt_3b067 1 = .ok (.aload_n 0, 1) := by decide +kernel
theorem dJ1_charAt_3b067_2 : decode cJ1_charAt_3b067 2 = .ok (.arraylength, 1) := by decide +kernel
theorem dJ1_charAt_3b067_3 : decode cJ1_charAt_3b067 3 = .ok (.invokestatic 9, 3) := by decide +kernel
theorem dJ1_charAt_3b067_6 : decode cJ1_charAt_3b067 6 = .ok (.aload_n 0, 1) := by decide +kernel
theorem dJ1_charAt_3b067_7 : decode cJ1_charAt_3b067 7 = .ok (.iload_n 1, 1) := by decide +kernel
theorem dJ1_charAt_3b067_8 : decode cJ1_charAt_3b067 8 = .ok (.baload, 1) := by decide +kernel
theorem dJ1_charAt_3b067_9 : decode cJ1_charAt_3b067 9 = .ok (.sipush 255, 3) := by decide +kernel
theorem dJ1_charAt_3b067_12 : decode cJ1_charAt_3b067 12 = .ok (.iand, 1) := by decide +kernel
theorem dJ1_charAt_3b067_13 : decode cJ1_charAt_3b067 13 = .ok (.i2c, 1) := by decide +kernel
theorem dJ1_charAt_3b067_14 : decode cJ1_charAt_3b067 14 = .ok (.ireturn, 1) := by decide +kernel
theorem dJ0_checkIndex_df160_0 : decode cJ0_checkIndex_df160 0 = .ok (.iload_n 0, 1) := by decide +kernel
theorem dJ0_checkIndex_df160_1 : decode cJ0_checkIndex_df160 1 = .ok (.iload_n 1, 1) := by decide +kernel
theorem dJ0_checkIndex_df160_2 : decode cJ0_checkIndex_df160 2 = .ok (.getstatic 1053, 3) := by decide +kernel
theorem dJ0_checkIndex_df160_5 : decode cJ0_checkIndex_df160 5 = .ok (.invokestatic 1059, 3) := by decide +kernel
theorem dJ0_checkIndex_df160_8 : decode cJ0_checkIndex_df160 8 = .ok (.pop, 1) := by decide +kernel
theorem dJ0_checkIndex_df160_9 : decode cJ0_checkIndex_df160 9 = .ok (.return_, 1) := by decide +kernel
theorem dJ3_checkIndex_8e157_0 : decode cJ3_checkIndex_8e157 0 = .ok (.iload_n 0, 1) := by decide +kernel
theorem dJ3_checkIndex_8e157_1 : decode cJ3_checkIndex_8e157 1 = .ok (.ifCond .lt 8, 3) := by decide +kernel
theorem dJ3_checkIndex_8e157_4 : decode cJ3_checkIndex_8e157 4 = .ok (.iload_n 0, 1) := by decide +kernel
theorem dJ3_checkIndex_8e157_5 : decode cJ3_checkIndex_8e157 5 = .ok (.iload_n 1, 1) := by decide +kernel
theorem dJ3_checkIndex_8e157_6 : decode cJ3_checkIndex_8e157 6 = .ok (.if_icmp .lt 10, 3) := by decide +kernel
theorem dJ3_checkIndex_8e157_9 : decode cJ3_checkIndex_8e157 9 = .ok (.aload_n 2, 1) := by decide +kernel
theorem dJ3_checkIndex_8e157_10 : decode cJ3_checkIndex_8e157 10 = .ok (.iload_n 0, 1) := by decide +kernel
theorem dJ3_checkIndex_8e157_11 : decode cJ3_checkIndex_8e157 11 = .ok (.iload_n 1, 1) := by decide +kernel
theorem dJ3_checkIndex_8e157_12 : decode cJ3_checkIndex_8e157 12 = .ok (.invokestatic 95, 3) := by decide +kernel
theorem dJ3_checkIndex_8e157_15 : decode cJ3_checkIndex_8e157 15 = .ok (.athrow, 1) := by decide +kernel
theorem dJ3_checkIndex_8e157_16 : decode cJ3_checkIndex_8e157 16 = .ok (.iload_n 0, 1) := by decide +kernel
theorem dJ3_checkIndex_8e157_17 : decode cJ3_checkIndex_8e157 17 = .ok (.ireturn, 1) := by decide +kernel
theorem dX9_spelling_0 : decode cX9_spelling 0 = .ok (.iload_n 0, 1) := by decide +kernel
theorem dX9_spelling_1 : decode cX9_spelling 1 = .ok (.tableswitch 99 1 12 #[63, 66, 69, 72, 75, 78, 81, 84, 87, 90, 93, 96], 63) := by decide +kernel
theorem dX9_spelling_64 : decode cX9_spelling 64 = .ok (.ldc 87, 2) := by decide +kernel
theorem dX9_spelling_66 : decode cX9_spelling 66 = .ok (.areturn, 1) := by decide +kernel
theorem dX9_spelling_67 : decode cX9_spelling 67 = .ok (.ldc 89, 2) := by decide +kernel
theorem dX9_spelling_69 : decode cX9_spelling 69 = .ok (.areturn, 1) := by decide +kernel
theorem dX9_spelling_70 : decode cX9_spelling 70 = .ok (.ldc 91, 2) := by decide +kernel
theorem dX9_spelling_72 : decode cX9_spelling 72 = .ok (.areturn, 1) := by decide +kernel
theorem dX9_spelling_73 : decode cX9_spelling 73 = .ok (.ldc 93, 2) := by decide +kernel
theorem dX9_spelling_75 : decode cX9_spelling 75 = .ok (.areturn, 1) := by decide +kernel
theorem dX9_spelling_76 : decode cX9_spelling 76 = .ok (.ldc 95, 2) := by decide +kernel
theorem dX9_spelling_78 : decode cX9_spelling 78 = .ok (.areturn, 1) := by decide +kernel
theorem dX9_spelling_79 : decode cX9_spelling 79 = .ok (.ldc 97, 2) := by decide +kernel
theorem dX9_spelling_81 : decode cX9_spelling 81 = .ok (.areturn, 1) := by decide +kernel
theorem dX9_spelling_82 : decode cX9_spelling 82 = .ok (.ldc 99, 2) := by decide +kernel
theorem dX9_spelling_84 : decode cX9_spelling 84 = .ok (.areturn, 1) := by decide +kernel
theorem dX9_spelling_85 : decode cX9_spelling 85 = .ok (.ldc 101, 2) := by decide +kernel
theorem dX9_spelling_87 : decode cX9_spelling 87 = .ok (.areturn, 1) := by decide +kernel
theorem dX9_spelling_88 : decode cX9_spelling 88 = .ok (.ldc 103, 2) := by decide +kernel
theorem dX9_spelling_90 : decode cX9_spelling 90 = .ok (.areturn, 1) := by decide +kernel
theorem dX9_spelling_91 : decode cX9_spelling 91 = .ok (.ldc 105, 2) := by decide +kernel
theorem dX9_spelling_93 : decode cX9_spelling 93 = .ok (.areturn, 1) := by decide +kernel
theorem dX9_spelling_94 : decode cX9_spelling 94 = .ok (.ldc 107, 2) := by decide +kernel
theorem dX9_spelling_96 : decode cX9_spelling 96 = .ok (.areturn, 1) := by decide +kernel
theorem dX9_spelling_97 : decode cX9_spelling 97 = .ok (.ldc 109, 2) := by decide +kernel
theorem dX9_spelling_99 : decode cX9_spelling 99 = .ok (.areturn, 1) := by decide +kernel
theorem dX9_spelling_100 : decode cX9_spelling 100 = .ok (.ldc 111, 2) := by decide +kernel
theorem dX9_spelling_102 : decode cX9_spelling 102 = .ok (.areturn, 1) := by decide +kernel
theorem dX9_ownWord_0 : decode cX9_ownWord 0 = .ok (.iconst 1, 1) := by decide +kernel
theorem dX9_ownWord_1 : decode cX9_ownWord 1 = .ok (.istore_n 3, 1) := by decide +kernel
theorem dX9_ownWord_2 : decode cX9_ownWord 2 = .ok (.iload_n 3, 1) := by decide +kernel
theorem dX9_ownWord_3 : decode cX9_ownWord 3 = .ok (.bipush 13, 2) := by decide +kernel
theorem dX9_ownWord_5 : decode cX9_ownWord 5 = .ok (.if_icmp .gt 84, 3) := by decide +kernel
theorem dX9_ownWord_8 : decode cX9_ownWord 8 = .ok (.iload_n 3, 1) := by decide +kernel
theorem dX9_ownWord_9 : decode cX9_ownWord 9 = .ok (.invokestatic 74, 3) := by decide +kernel
theorem dX9_ownWord_12 : decode cX9_ownWord 12 = .ok (.astore 4, 2) := by decide +kernel
theorem dX9_ownWord_14 : decode cX9_ownWord 14 = .ok (.aload 4, 2) := by decide +kernel
theorem dX9_ownWord_16 : decode cX9_ownWord 16 = .ok (.invokevirtual 78, 3) := by decide +kernel
theorem dX9_ownWord_19 : decode cX9_ownWord 19 = .ok (.iload_n 2, 1) := by decide +kernel
theorem dX9_ownWord_20 : decode cX9_ownWord 20 = .ok (.if_icmp .ne 7, 3) := by decide +kernel
theorem dX9_ownWord_23 : decode cX9_ownWord 23 = .ok (.iconst 1, 1) := by decide +kernel
theorem dX9_ownWord_24 : decode cX9_ownWord 24 = .ok (.goto 4, 3) := by decide +kernel
theorem dX9_ownWord_27 : decode cX9_ownWord 27 = .ok (.iconst 0, 1) := by decide +kernel
theorem dX9_ownWord_28 : decode cX9_ownWord 28 = .ok (.istore 5, 2) := by decide +kernel
theorem dX9_ownWord_30 : decode cX9_ownWord 30 = .ok (.iconst 0, 1) := by decide +kernel
theorem dX9_ownWord_31 : decode cX9_ownWord 31 = .ok (.istore 6, 2) := by decide +kernel
theorem dX9_ownWord_33 : decode cX9_ownWord 33 = .ok (.iload 5, 2) := by decide +kernel
theorem dX9_ownWord_35 : decode cX9_ownWord 35 = .ok (.ifCond .eq 41, 3) := by decide +kernel
theorem dX9_ownWord_38 : decode cX9_ownWord 38 = .ok (.iload 6, 2) := by decide +kernel
theorem dX9_ownWord_40 : decode cX9_ownWord 40 = .ok (.iload_n 2, 1) := by decide +kernel
theorem dX9_ownWord_41 : decode cX9_ownWord 41 = .ok (.if_icmp .ge 35, 3) := by decide +kernel
theorem dX9_ownWord_44 : decode cX9_ownWord 44 = .ok (.aload_n 0, 1) := by decide +kernel
theorem dX9_ownWord_45 : decode cX9_ownWord 45 = .ok (.getfield 47, 3) := by decide +kernel
theorem dX9_ownWord_48 : decode cX9_ownWord 48 = .ok (.iload_n 1, 1) := by decide +kernel
theorem dX9_ownWord_49 : decode cX9_ownWord 49 = .ok (.iload 6, 2) := by decide +kernel
theorem dX9_ownWord_51 : decode cX9_ownWord 51 = .ok (.iadd, 1) := by decide +kernel
theorem dX9_ownWord_52 : decode cX9_ownWord 52 = .ok (.iaload, 1) := by decide +kernel
theorem dX9_ownWord_53 : decode cX9_ownWord 53 = .ok (.aload 4, 2) := by decide +kernel
theorem dX9_ownWord_55 : decode cX9_ownWord 55 = .ok (.iload 6, 2) := by decide +kernel
theorem dX9_ownWord_57 : decode cX9_ownWord 57 = .ok (.invokevirtual 83, 3) := by decide +kernel
theorem dX9_ownWord_60 : decode cX9_ownWord 60 = .ok (.if_icmp .ne 7, 3) := by decide +kernel
theorem dX9_ownWord_63 : decode cX9_ownWord 63 = .ok (.iconst 1, 1) := by decide +kernel
theorem dX9_ownWord_64 : decode cX9_ownWord 64 = .ok (.goto 4, 3) := by decide +kernel
theorem dX9_ownWord_67 : decode cX9_ownWord 67 = .ok (.iconst 0, 1) := by decide +kernel
theorem dX9_ownWord_68 : decode cX9_ownWord 68 = .ok (.istore 5, 2) := by decide +kernel
theorem dX9_ownWord_70 : decode cX9_ownWord 70 = .ok (.iinc 6 1, 3) := by decide +kernel
theorem dX9_ownWord_73 : decode cX9_ownWord 73 = .ok (.goto (-40), 3) := by decide +kernel
theorem dX9_ownWord_76 : decode cX9_ownWord 76 = .ok (.iload 5, 2) := by decide +kernel
theorem dX9_ownWord_78 : decode cX9_ownWord 78 = .ok (.ifCond .eq 5, 3) := by decide +kernel
theorem dX9_ownWord_81 : decode cX9_ownWord 81 = .ok (.iload_n 3, 1) := by decide +kernel
theorem dX9_ownWord_82 : decode cX9_ownWord 82 = .ok (.ireturn, 1) := by decide +kernel
theorem dX9_ownWord_83 : decode cX9_ownWord 83 = .ok (.iinc 3 1, 3) := by decide +kernel
theorem dX9_ownWord_86 : decode cX9_ownWord 86 = .ok (.goto (-84), 3) := by decide +kernel
theorem dX9_ownWord_89 : decode cX9_ownWord 89 = .ok (.iconst (-1), 1) := by decide +kernel
theorem dX9_ownWord_90 : decode cX9_ownWord 90 = .ok (.ireturn, 1) := by decide +kernel
theorem ow_in {w : Cond} (i : Nat) (h : ownW[i]? = some w) : w ∈ GT := copyW_in (List.mem_append_right _ (List.mem_of_getElem? h))
def SX (adK adV : Nat → Nat) (A : Nat → Prop) (U : State) : Prop := vk_S 13 lnS byS adK adV A U U.heap ∧ (∀ i, i < 13 → vk_R "BornAboard$Tokens" (87 + 2 * i) (txS.getD i "") (adK i) U) ∧ va_Z "java/lang/String" "COMPACT_STRINGS" "Z" (.int 1) A U U.heap ∧ va_Zq "jdk/internal/util/Preconditions" "SIOOBE_FORMATTER" "Ljava/util/function/BiFunction;" A U U.heap
theorem SX.warm {adK adV : Nat → Nat} {A : Nat → Prop} {s U : State} (hU : U.heap = s.heap) (hW : s.WarmedH U.vm) (h : SX adK adV A s) : SX adK adV A U := by
  obtain ⟨h1, h2, h3, h4⟩ := h
  unfold SX
  rw [hU]
  exact ⟨h1.moved hW.alike, fun i hi => (h2 i hi).warm hW, h3.moved hW.alike, h4.moved hW.alike⟩
theorem SX.same {adK adV : Nat → Nat} {A : Nat → Prop} {s U : State} (hU : U.heap = s.heap) (hv : U.vm = s.vm) (h : SX adK adV A s) : SX adK adV A U := by
  obtain ⟨h1, h2, h3, h4⟩ := h
  have ha : s.vm.Alike U.vm := by rw [hv]; exact Vm.Alike.refl s.vm
  unfold SX
  rw [hU]
  exact ⟨h1.moved ha, fun i hi => vk_R.same hv (h2 i hi), h3.moved ha, h4.moved ha⟩
def SPre (av : List Value) (adK adV : Nat → Nat) (A : Nat → Prop) : Array Value → State → Prop := va_Pc av (SX adK adV A)
def SPost (v : Option Value) : Array Value → State → Outcome → State → Prop := fun _ st oc t => oc = .returned v ∧ t.heap = st.heap
def NF : Nat → Prop := fun _ => False
theorem blindS {av : List Value} {adK adV : Nat → Nat} {A : Nat → Prop} : FrameBlind (SPre av adK adV A) := fun a U g mk q => ⟨q.1, SX.same (s := U) (U := U.calling g mk a) rfl rfl q.2⟩
theorem good_in {w : Cond} (h : w ∈ GT) : GoodIn GT (w :: GT) := fun v hv => by
  rcases List.mem_cons.mp hv with rfl | hv
  · exact ⟨h, GT_good h⟩
  · exact ⟨hv, GT_good hv⟩
theorem good_S {own : String} {index : Nat} {y : MethodName} {w : Cond} (h1 : Cond.methodLink own index y ∈ GT) (h2 : Cond.static y ∈ GT) (h3 : Cond.initialized y.cls ∈ GT) (h : w ∈ GT) : GoodIn GT (va_wsS own index y (w :: GT)) := fun v hv => by
  unfold va_wsS at hv
  rcases List.mem_append.mp hv with hv | hv
  · simp only [List.mem_cons, List.not_mem_nil, or_false] at hv
    have key : v ∈ GT := by
      rcases hv with rfl | rfl | rfl
      · exact h1
      · exact h2
      · exact h3
    exact ⟨key, GT_good key⟩
  · exact good_in h v hv
theorem good_V {own C : String} {index : Nat} {y : MethodName} {w : Cond} (h1 : Cond.methodLink own index y ∈ GT) (h2 : Cond.instanceMethod y ∈ GT) (h4 : Cond.selects C y y ∈ GT) (h3 : Cond.initialized C ∈ GT) (h : w ∈ GT) : GoodIn GT (wsV own index C y (w :: GT)) := fun v hv => by
  unfold wsV at hv
  rcases List.mem_append.mp hv with hv | hv
  · simp only [List.mem_cons, List.not_mem_nil, or_false] at hv
    have key : v ∈ GT := by
      rcases hv with rfl | rfl | rfl | rfl
      · exact h1
      · exact h2
      · exact h4
      · exact h3
    exact ⟨key, GT_good key⟩
  · exact good_in h v hv
section Own
variable {p : Program} {l : Launch} {e : Env} {R : Room} {s : State} {m : MethodId} {args : Array Value} {below : List Frame} {meth : Method} {c : Code} {H : Heap} {locs : List Loc} {cells slots : Nat} {Q : State → Prop}
variable {pc : Nat} {ls : Array Slot} {rest : List Value}
/-- a call that changes nothing -/
theorem qcall {v : Option Value} {a : Array Value} {st0 : List Value} (run : va_Run p l e R s m args below meth c H locs cells slots 0 0 (F0 m pc ls st0) rest (SPost v a) NF) (kk : W p l e R s m args below meth c H locs cells slots Q (F0 m (pc + 3) ls (v.toList ++ rest))) : W p l e R s m args below meth c H locs cells slots Q (F0 m pc ls st0) := by
  intro T hT X
  obtain ⟨w, st₀, t, T', L, g0, X', hL, e1, e2, ⟨hv, hh⟩, st⟩ := run T hT X
  have hw : w = v := by cases hv; rfl
  subst hw
  have hL0 : L = [] := List.eq_nil_iff_forall_not_mem.mpr hL
  subst hL0
  rw [List.append_nil] at X'
  obtain ⟨t2, a1, b1⟩ := kk T' (by rw [e1, hh, g0]) X'
  exact ⟨t2, st t2 a1, b1⟩
end Own
theorem S_out : ∀ q ∈ ([] : List Loc), NF q.base := fun q h => by cases h
theorem lnS_by : ∀ i, i < 13 → lnS.getD i 0 = (byS.getD i []).length ∧ lnS.getD i 0 ≤ 7 := by decide +kernel
theorem by_and : ∀ i, i < 13 → ∀ k, k < lnS.getD i 0 → (((byS.getD i []).getD k 0 &&& 255).toUInt32 % 65536).toInt32 = (byS.getD i []).getD k 0 ∧ narrow .char (.int ((byS.getD i []).getD k 0)) = .int ((byS.getD i []).getD k 0) := by decide +kernel
theorem k_ok : ∀ k, k < 8 → ¬ Int32.ofNat k < 0 ∧ (Int32.ofNat k).toNatClampNeg = k := by decide +kernel
theorem k_lt : ∀ n, n < 8 → ∀ k, k < n → Int32.ofNat k < Int32.ofNat n := by decide +kernel
theorem shr0 : ∀ n, n < 8 → Int32.ofNat n >>> ((0 : Int32) &&& 31) = Int32.ofNat n := by decide +kernel
set_option maxRecDepth 100000 in
set_option maxHeartbeats 1000000 in
theorem mt_coder (l : Launch) (adK adV : Nat → Nat) (A : Nat → Prop) (i : Nat) (hi : i < 13) : Met l yJ0_coder_7d493 (.code yJ0_coder_7d493 cJ0_coder_7d493 1 (some .byte) :: GT) { frames := 0, cells := 0, slots := 0, locals := 0 } (SPre [.ref (adK i)] adK adV A) (SPost (some (.int 0))) 0 0 NF := by
  refine Met.ofW (cc := cJ0_coder_7d493) (maxL := 1) (ret := (some .byte)) (by decide) rfl ?_
  intro p e s m args below meth c s₁ B hml hv
  obtain ⟨rfl, hS⟩ := hv
  have hx := B.exec
  have hb := B.bytes
  have hr := B.returns
  have hts0 := atoms_spec (ws := .code yJ0_coder_7d493 cJ0_coder_7d493 1 (some .byte) :: GT) B.pre
  have hts : ∀ w ∈ GT, w.before _ s = true := fun w hw => hts0 w (List.mem_cons_of_mem _ hw)
  have hown : s.vm.findClass RJ0 = some m.cls := findClass_of_methodNamed B.named
  have hlocks := B.notSynchronized
  have hl := lv_entry ([.ref (adK i)]) (n := 1) (Nat.le_of_ble_eq_true rfl)
  rw [lg_entry_eq]
  generalize (lg_sl ([.ref (adK i)]) ++ List.replicate (1 - (lg_sl ([.ref (adK i)])).length) Slot.unset).toArray = ls at hl ⊢
  have hl : lv_has ls 1 [(0, .ref (adK i))] := hl
  refine va_gets hx hb hS.2.2.1 va_S.rf hown (hts _ (ow_in 14 rfl)) (fun _ h => h) dJ0_coder_7d493_0 ?_
  refine lv_if_eq hx hb (tgt := 13) dJ0_coder_7d493_3 rfl (fun h => absurd h (by decide)) (fun _ => ?_)
  refine lv_aload_n hx hb dJ0_coder_7d493_6 rfl (lv_at hl 0 rfl) ?_
  refine vk_getf hx hb (hS.1.1 i hi).2.1 va_S.rf hown (hts _ (ow_in 15 rfl)) (fun _ h => h) dJ0_coder_7d493_7 ?_
  refine lv_goto hx hb (tgt := 14) dJ0_coder_7d493_10 rfl ?_
  exact W.zret hx hb hr rfl (fun t ht hW => ⟨rfl, ht⟩) S_out dJ0_coder_7d493_14
set_option maxRecDepth 100000 in
set_option maxHeartbeats 1000000 in
theorem mt_isLatin1 (l : Launch) (adK adV : Nat → Nat) (A : Nat → Prop) (i : Nat) (hi : i < 13) : Met l yJ0_isLatin1_aae02 (.code yJ0_isLatin1_aae02 cJ0_isLatin1_aae02 1 (some .boolean) :: GT) { frames := 0, cells := 0, slots := 0, locals := 0 } (SPre [.ref (adK i)] adK adV A) (SPost (some (.int 1))) 0 0 NF := by
  refine Met.ofW (cc := cJ0_isLatin1_aae02) (maxL := 1) (ret := (some .boolean)) (by decide) rfl ?_
  intro p e s m args below meth c s₁ B hml hv
  obtain ⟨rfl, hS⟩ := hv
  have hx := B.exec
  have hb := B.bytes
  have hr := B.returns
  have hts0 := atoms_spec (ws := .code yJ0_isLatin1_aae02 cJ0_isLatin1_aae02 1 (some .boolean) :: GT) B.pre
  have hts : ∀ w ∈ GT, w.before _ s = true := fun w hw => hts0 w (List.mem_cons_of_mem _ hw)
  have hown : s.vm.findClass RJ0 = some m.cls := findClass_of_methodNamed B.named
  have hlocks := B.notSynchronized
  have hl := lv_entry ([.ref (adK i)]) (n := 1) (Nat.le_of_ble_eq_true rfl)
  rw [lg_entry_eq]
  generalize (lg_sl ([.ref (adK i)]) ++ List.replicate (1 - (lg_sl ([.ref (adK i)])).length) Slot.unset).toArray = ls at hl ⊢
  have hl : lv_has ls 1 [(0, .ref (adK i))] := hl
  refine va_gets hx hb hS.2.2.1 va_S.rf hown (hts _ (ow_in 14 rfl)) (fun _ h => h) dJ0_isLatin1_aae02_0 ?_
  refine lv_if_eq hx hb (tgt := 17) dJ0_isLatin1_aae02_3 rfl (fun h => absurd h (by decide)) (fun _ => ?_)
  refine lv_aload_n hx hb dJ0_isLatin1_aae02_6 rfl (lv_at hl 0 rfl) ?_
  refine vk_getf hx hb (hS.1.1 i hi).2.1 va_S.rf hown (hts _ (ow_in 15 rfl)) (fun _ h => h) dJ0_isLatin1_aae02_7 ?_
  refine lv_if_ne hx hb (tgt := 17) dJ0_isLatin1_aae02_10 rfl (fun h => absurd rfl h) (fun _ => ?_)
  refine lv_iconst hx hb (v := 1) dJ0_isLatin1_aae02_13 (by decide) ?_
  refine lv_goto hx hb (tgt := 18) dJ0_isLatin1_aae02_14 rfl ?_
  exact W.zret hx hb hr rfl (fun t ht hW => ⟨rfl, ht⟩) S_out dJ0_isLatin1_aae02_18
set_option maxRecDepth 100000 in
set_option maxHeartbeats 1000000 in
theorem mt_length (l : Launch) (adK adV : Nat → Nat) (A : Nat → Prop) (i : Nat) (hi : i < 13) : Met l yJ0_length_8abf5 (.code yJ0_length_8abf5 cJ0_length_8abf5 1 (some .int) :: GT) { frames := 1, cells := 0, slots := 0, locals := 20 } (SPre [.ref (adK i)] adK adV A) (SPost (some (.int (Int32.ofNat (lnS.getD i 0))))) 0 0 NF := by
  refine Met.ofW (cc := cJ0_length_8abf5) (maxL := 1) (ret := (some .int)) (by decide) rfl ?_
  intro p e s m args below meth c s₁ B hml hv
  obtain ⟨rfl, hS⟩ := hv
  have hx := B.exec
  have hb := B.bytes
  have hr := B.returns
  have hts0 := atoms_spec (ws := .code yJ0_length_8abf5 cJ0_length_8abf5 1 (some .int) :: GT) B.pre
  have hts : ∀ w ∈ GT, w.before _ s = true := fun w hw => hts0 w (List.mem_cons_of_mem _ hw)
  have hown : s.vm.findClass RJ0 = some m.cls := findClass_of_methodNamed B.named
  have hlocks := B.notSynchronized
  have hl := lv_entry ([.ref (adK i)]) (n := 1) (Nat.le_of_ble_eq_true rfl)
  rw [lg_entry_eq]
  generalize (lg_sl ([.ref (adK i)]) ++ List.replicate (1 - (lg_sl ([.ref (adK i)])).length) Slot.unset).toArray = ls at hl ⊢
  have hl : lv_has ls 1 [(0, .ref (adK i))] := hl
  have h7 := lnS_by i hi
  refine lv_aload_n hx hb dJ0_length_8abf5_0 rfl (lv_at hl 0 rfl) ?_
  refine vk_getf hx hb (hS.1.1 i hi).2.2.1 va_S.rf hown (hts _ (ow_in 9 rfl)) (fun _ h => h) dJ0_length_8abf5_1 ?_
  refine va_tlen hx hb (hS.1.1 i hi).2.2.2 va_S.rf rfl dJ0_length_8abf5_4 ?_
  refine lv_aload_n hx hb dJ0_length_8abf5_5 rfl (lv_at hl 0 rfl) ?_
  refine qcall (va_runV (As := []) (rest := [.int (Int32.ofNat (lnS.getD i 0))]) (b := adK i) (C := RJ0) ⟨hx, hb, hml, hown, hts⟩ (mt_coder l adK adV A i hi) (cwV 0 hts (good_V (ow_in 10 rfl) (ow_in 11 rfl) (ow_in 12 rfl) (ow_in 7 rfl) (ow_in 13 rfl)) rfl rfl rfl ⟨rfl, by decide +kernel, by decide +kernel, by decide +kernel⟩ ⟨Nat.le_of_ble_eq_true rfl, Nat.le_of_ble_eq_true rfl⟩) ⟨blindS, vk_recv hS.1 hi va_S.rf, fun U hU hW => ⟨rfl, SX.warm hU hW hS⟩⟩ rfl rfl hl.1 rfl (lv_room (Nat.le_of_ble_eq_true rfl)) dJ0_length_8abf5_6 ⟨Nat.le_refl _, Nat.le_refl _⟩) ?_
  refine lv_ishr hx hb dJ0_length_8abf5_9 ?_
  rw [shr0 _ (by omega)]
  exact W.iret hx hb hr (fun t ht hW => ⟨rfl, ht⟩) S_out dJ0_length_8abf5_10
set_option maxRecDepth 100000 in
set_option maxHeartbeats 1000000 in
theorem mt_check3 (l : Launch) (adK adV : Nat → Nat) (A : Nat → Prop) (n k : Nat) (q : Value) (hn : n < 8) (hk : k < n) (hq : q = .null ∨ ∃ a, q = .ref a) : Met l yJ3_checkIndex_8e157 (.code yJ3_checkIndex_8e157 cJ3_checkIndex_8e157 3 (some .int) :: GT) { frames := 0, cells := 0, slots := 0, locals := 0 } (SPre [.int (Int32.ofNat k), .int (Int32.ofNat n), q] adK adV A) (SPost (some (.int (Int32.ofNat k)))) 0 0 NF := by
  have hq1 : q = .null ∨ ∃ a, q = .ref a := hq
  rcases hq1 with rfl | ⟨a, rfl⟩
  · refine Met.ofW (cc := cJ3_checkIndex_8e157) (maxL := 3) (ret := (some .int)) (by decide) rfl ?_
    intro p e s m args below meth c s₁ B hml hv
    obtain ⟨rfl, hS⟩ := hv
    have hx := B.exec
    have hb := B.bytes
    have hr := B.returns
    have hts0 := atoms_spec (ws := .code yJ3_checkIndex_8e157 cJ3_checkIndex_8e157 3 (some .int) :: GT) B.pre
    have hts : ∀ w ∈ GT, w.before _ s = true := fun w hw => hts0 w (List.mem_cons_of_mem _ hw)
    have hown : s.vm.findClass RJ3 = some m.cls := findClass_of_methodNamed B.named
    have hlocks := B.notSynchronized
    have hl := lv_entry ([.int (Int32.ofNat k), .int (Int32.ofNat n), .null]) (n := 3) (Nat.le_of_ble_eq_true rfl)
    rw [lg_entry_eq]
    generalize (lg_sl ([.int (Int32.ofNat k), .int (Int32.ofNat n), .null]) ++ List.replicate (3 - (lg_sl ([.int (Int32.ofNat k), .int (Int32.ofNat n), .null])).length) Slot.unset).toArray = ls at hl ⊢
    have hl : lv_has ls 3 [(0, .int (Int32.ofNat k)), (1, .int (Int32.ofNat n)), (2, .null)] := hl
    refine lv_iload_n hx hb dJ3_checkIndex_8e157_0 rfl (lv_at hl 0 rfl) ?_
    refine lv_if_lt hx hb (tgt := 9) dJ3_checkIndex_8e157_1 rfl (fun h => absurd h (k_ok k (by omega)).1) (fun _ => ?_)
    refine lv_iload_n hx hb dJ3_checkIndex_8e157_4 rfl (lv_at hl 0 rfl) ?_
    refine lv_iload_n hx hb dJ3_checkIndex_8e157_5 rfl (lv_at hl 1 rfl) ?_
    refine lv_icmp_lt hx hb (tgt := 16) dJ3_checkIndex_8e157_6 rfl (fun _ => ?_) (fun h => absurd (k_lt n hn k hk) h)
    refine lv_iload_n hx hb dJ3_checkIndex_8e157_16 rfl (lv_at hl 0 rfl) ?_
    exact W.iret hx hb hr (fun t ht hW => ⟨rfl, ht⟩) S_out dJ3_checkIndex_8e157_17
  · refine Met.ofW (cc := cJ3_checkIndex_8e157) (maxL := 3) (ret := (some .int)) (by decide) rfl ?_
    intro p e s m args below meth c s₁ B hml hv
    obtain ⟨rfl, hS⟩ := hv
    have hx := B.exec
    have hb := B.bytes
    have hr := B.returns
    have hts0 := atoms_spec (ws := .code yJ3_checkIndex_8e157 cJ3_checkIndex_8e157 3 (some .int) :: GT) B.pre
    have hts : ∀ w ∈ GT, w.before _ s = true := fun w hw => hts0 w (List.mem_cons_of_mem _ hw)
    have hown : s.vm.findClass RJ3 = some m.cls := findClass_of_methodNamed B.named
    have hlocks := B.notSynchronized
    have hl := lv_entry ([.int (Int32.ofNat k), .int (Int32.ofNat n), .ref a]) (n := 3) (Nat.le_of_ble_eq_true rfl)
    rw [lg_entry_eq]
    generalize (lg_sl ([.int (Int32.ofNat k), .int (Int32.ofNat n), .ref a]) ++ List.replicate (3 - (lg_sl ([.int (Int32.ofNat k), .int (Int32.ofNat n), .ref a])).length) Slot.unset).toArray = ls at hl ⊢
    have hl : lv_has ls 3 [(0, .int (Int32.ofNat k)), (1, .int (Int32.ofNat n)), (2, .ref a)] := hl
    refine lv_iload_n hx hb dJ3_checkIndex_8e157_0 rfl (lv_at hl 0 rfl) ?_
    refine lv_if_lt hx hb (tgt := 9) dJ3_checkIndex_8e157_1 rfl (fun h => absurd h (k_ok k (by omega)).1) (fun _ => ?_)
    refine lv_iload_n hx hb dJ3_checkIndex_8e157_4 rfl (lv_at hl 0 rfl) ?_
    refine lv_iload_n hx hb dJ3_checkIndex_8e157_5 rfl (lv_at hl 1 rfl) ?_
    refine lv_icmp_lt hx hb (tgt := 16) dJ3_checkIndex_8e157_6 rfl (fun _ => ?_) (fun h => absurd (k_lt n hn k hk) h)
    refine lv_iload_n hx hb dJ3_checkIndex_8e157_16 rfl (lv_at hl 0 rfl) ?_
    exact W.iret hx hb hr (fun t ht hW => ⟨rfl, ht⟩) S_out dJ3_checkIndex_8e157_17
set_option maxRecDepth 100000 in
set_option maxHeartbeats 1000000 in
theorem mt_check0 (l : Launch) (adK adV : Nat → Nat) (A : Nat → Prop) (n k : Nat) (hn : n < 8) (hk : k < n) : Met l yJ0_checkIndex_df160 (.code yJ0_checkIndex_df160 cJ0_checkIndex_df160 2 none :: GT) { frames := 1, cells := 0, slots := 0, locals := 22 } (SPre [.int (Int32.ofNat k), .int (Int32.ofNat n)] adK adV A) (SPost none) 0 0 NF := by
  refine Met.ofW (cc := cJ0_checkIndex_df160) (maxL := 2) (ret := none) (by decide) rfl ?_
  intro p e s m args below meth c s₁ B hml hv
  obtain ⟨rfl, hS⟩ := hv
  have hx := B.exec
  have hb := B.bytes
  have hr := B.returns
  have hts0 := atoms_spec (ws := .code yJ0_checkIndex_df160 cJ0_checkIndex_df160 2 none :: GT) B.pre
  have hts : ∀ w ∈ GT, w.before _ s = true := fun w hw => hts0 w (List.mem_cons_of_mem _ hw)
  have hown : s.vm.findClass RJ0 = some m.cls := findClass_of_methodNamed B.named
  have hlocks := B.notSynchronized
  have hl := lv_entry ([.int (Int32.ofNat k), .int (Int32.ofNat n)]) (n := 2) (Nat.le_of_ble_eq_true rfl)
  rw [lg_entry_eq]
  generalize (lg_sl ([.int (Int32.ofNat k), .int (Int32.ofNat n)]) ++ List.replicate (2 - (lg_sl ([.int (Int32.ofNat k), .int (Int32.ofNat n)])).length) Slot.unset).toArray = ls at hl ⊢
  have hl : lv_has ls 2 [(0, .int (Int32.ofNat k)), (1, .int (Int32.ofNat n))] := hl
  refine lv_iload_n hx hb dJ0_checkIndex_df160_0 rfl (lv_at hl 0 rfl) ?_
  refine lv_iload_n hx hb dJ0_checkIndex_df160_1 rfl (lv_at hl 1 rfl) ?_
  obtain ⟨q, hq, hZ⟩ : ∃ q : Value, (q = .null ∨ ∃ a, q = .ref a) ∧ va_Z "jdk/internal/util/Preconditions" "SIOOBE_FORMATTER" "Ljava/util/function/BiFunction;" q A s s.heap := by
    rcases hS.2.2.2 with h | ⟨t, h⟩
    · exact ⟨_, Or.inl rfl, h⟩
    · exact ⟨_, Or.inr ⟨t, rfl⟩, h⟩
  refine va_gets hx hb hZ va_S.rf hown (hts _ (ow_in 31 rfl)) (fun _ h => h) dJ0_checkIndex_df160_2 ?_
  refine qcall (va_runS (As := [.int (Int32.ofNat k), .int (Int32.ofNat n), q]) (rest := []) ⟨hx, hb, hml, hown, hts⟩ (mt_check3 l adK adV A n k q hn hk hq) (va_cwS 3 hts (good_S (ow_in 32 rfl) (ow_in 33 rfl) (ow_in 34 rfl) (ow_in 35 rfl)) rfl rfl rfl ⟨by decide +kernel, by decide +kernel, by decide +kernel⟩ ⟨Nat.le_of_ble_eq_true rfl, Nat.le_of_ble_eq_true rfl⟩) ⟨blindS, fun U hU hW => ⟨rfl, SX.warm hU hW hS⟩⟩ rfl rfl hl.1 rfl (lv_room (Nat.le_of_ble_eq_true rfl)) dJ0_checkIndex_df160_5 ⟨Nat.le_refl _, Nat.le_refl _⟩) ?_
  refine lv_pop hx hb dJ0_checkIndex_df160_8 rfl ?_
  exact W.vret hx hb hr (fun t ht hW => ⟨rfl, ht⟩) S_out dJ0_checkIndex_df160_9
set_option maxRecDepth 100000 in
set_option maxHeartbeats 1000000 in
theorem mt_char1 (l : Launch) (adK adV : Nat → Nat) (A : Nat → Prop) (i k : Nat) (hi : i < 13) (hk : k < lnS.getD i 0) : Met l yJ1_charAt_3b067 (.code yJ1_charAt_3b067 cJ1_charAt_3b067 2 (some .char) :: GT) { frames := 2, cells := 0, slots := 0, locals := 43 } (SPre [.ref (adV i), .int (Int32.ofNat k)] adK adV A) (SPost (some (.int ((byS.getD i []).getD k 0)))) 0 0 NF := by
  refine Met.ofW (cc := cJ1_charAt_3b067) (maxL := 2) (ret := (some .char)) (by decide) rfl ?_
  intro p e s m args below meth c s₁ B hml hv
  obtain ⟨rfl, hS⟩ := hv
  have hx := B.exec
  have hb := B.bytes
  have hr := B.returns
  have hts0 := atoms_spec (ws := .code yJ1_charAt_3b067 cJ1_charAt_3b067 2 (some .char) :: GT) B.pre
  have hts : ∀ w ∈ GT, w.before _ s = true := fun w hw => hts0 w (List.mem_cons_of_mem _ hw)
  have hown : s.vm.findClass RJ1 = some m.cls := findClass_of_methodNamed B.named
  have hlocks := B.notSynchronized
  have hl := lv_entry ([.ref (adV i), .int (Int32.ofNat k)]) (n := 2) (Nat.le_of_ble_eq_true rfl)
  rw [lg_entry_eq]
  generalize (lg_sl ([.ref (adV i), .int (Int32.ofNat k)]) ++ List.replicate (2 - (lg_sl ([.ref (adV i), .int (Int32.ofNat k)])).length) Slot.unset).toArray = ls at hl ⊢
  have hl : lv_has ls 2 [(0, .ref (adV i)), (1, .int (Int32.ofNat k))] := hl
  have h7 := lnS_by i hi
  have hk8 := k_ok k (by omega)
  refine lv_iload_n hx hb dJ1_charAt_3b067_0 rfl (lv_at hl 1 rfl) ?_
  refine lv_aload_n hx hb dJ1_charAt_3b067_1 rfl (lv_at hl 0 rfl) ?_
  refine va_tlen hx hb (hS.1.1 i hi).2.2.2 va_S.rf rfl dJ1_charAt_3b067_2 ?_
  refine qcall (va_runS (As := [.int (Int32.ofNat k), .int (Int32.ofNat (lnS.getD i 0))]) (rest := []) ⟨hx, hb, hml, hown, hts⟩ (mt_check0 l adK adV A (lnS.getD i 0) k (by omega) hk) (va_cwS 2 hts (good_S (ow_in 28 rfl) (ow_in 29 rfl) (ow_in 7 rfl) (ow_in 30 rfl)) rfl rfl rfl ⟨by decide +kernel, by decide +kernel, by decide +kernel⟩ ⟨Nat.le_of_ble_eq_true rfl, Nat.le_of_ble_eq_true rfl⟩) ⟨blindS, fun U hU hW => ⟨rfl, SX.warm hU hW hS⟩⟩ rfl rfl hl.1 rfl (lv_room (Nat.le_of_ble_eq_true rfl)) dJ1_charAt_3b067_3 ⟨Nat.le_refl _, Nat.le_refl _⟩) ?_
  refine lv_aload_n hx hb dJ1_charAt_3b067_6 rfl (lv_at hl 0 rfl) ?_
  refine lv_iload_n hx hb dJ1_charAt_3b067_7 rfl (lv_at hl 1 rfl) ?_
  refine va_tb hx hb (hS.1.1 i hi).2.2.2 va_S.rf (fun h => by rcases h with h | h; exact hk8.1 h; rw [hk8.2] at h; omega) (by rw [hk8.2]) dJ1_charAt_3b067_8 ?_
  refine lv_sipush hx hb (v := 255) dJ1_charAt_3b067_9 (by decide +kernel) ?_
  refine lv_iand hx hb dJ1_charAt_3b067_12 ?_
  refine lv_i2c hx hb dJ1_charAt_3b067_13 (by_and i hi k hk).1 ?_
  exact W.zret hx hb hr (by_and i hi k hk).2 (fun t ht hW => ⟨rfl, ht⟩) S_out dJ1_charAt_3b067_14
set_option maxRecDepth 100000 in
set_option maxHeartbeats 1000000 in
theorem mt_charAt (l : Launch) (adK adV : Nat → Nat) (A : Nat → Prop) (i k : Nat) (hi : i < 13) (hk : k < lnS.getD i 0) : Met l yJ0_charAt_5068e (.code yJ0_charAt_5068e cJ0_charAt_5068e 2 (some .char) :: GT) { frames := 3, cells := 0, slots := 0, locals := 64 } (SPre [.ref (adK i), .int (Int32.ofNat k)] adK adV A) (SPost (some (.int ((byS.getD i []).getD k 0)))) 0 0 NF := by
  refine Met.ofW (cc := cJ0_charAt_5068e) (maxL := 2) (ret := (some .char)) (by decide) rfl ?_
  intro p e s m args below meth c s₁ B hml hv
  obtain ⟨rfl, hS⟩ := hv
  have hx := B.exec
  have hb := B.bytes
  have hr := B.returns
  have hts0 := atoms_spec (ws := .code yJ0_charAt_5068e cJ0_charAt_5068e 2 (some .char) :: GT) B.pre
  have hts : ∀ w ∈ GT, w.before _ s = true := fun w hw => hts0 w (List.mem_cons_of_mem _ hw)
  have hown : s.vm.findClass RJ0 = some m.cls := findClass_of_methodNamed B.named
  have hlocks := B.notSynchronized
  have hl := lv_entry ([.ref (adK i), .int (Int32.ofNat k)]) (n := 2) (Nat.le_of_ble_eq_true rfl)
  rw [lg_entry_eq]
  generalize (lg_sl ([.ref (adK i), .int (Int32.ofNat k)]) ++ List.replicate (2 - (lg_sl ([.ref (adK i), .int (Int32.ofNat k)])).length) Slot.unset).toArray = ls at hl ⊢
  have hl : lv_has ls 2 [(0, .ref (adK i)), (1, .int (Int32.ofNat k))] := hl
  refine lv_aload_n hx hb dJ0_charAt_5068e_0 rfl (lv_at hl 0 rfl) ?_
  refine qcall (va_runV (As := []) (rest := []) (b := adK i) (C := RJ0) ⟨hx, hb, hml, hown, hts⟩ (mt_isLatin1 l adK adV A i hi) (cwV 0 hts (good_V (ow_in 20 rfl) (ow_in 21 rfl) (ow_in 22 rfl) (ow_in 7 rfl) (ow_in 23 rfl)) rfl rfl rfl ⟨rfl, by decide +kernel, by decide +kernel, by decide +kernel⟩ ⟨Nat.le_of_ble_eq_true rfl, Nat.le_of_ble_eq_true rfl⟩) ⟨blindS, vk_recv hS.1 hi va_S.rf, fun U hU hW => ⟨rfl, SX.warm hU hW hS⟩⟩ rfl rfl hl.1 rfl (lv_room (Nat.le_of_ble_eq_true rfl)) dJ0_charAt_5068e_1 ⟨Nat.le_refl _, Nat.le_refl _⟩) ?_
  refine lv_if_eq hx hb (tgt := 16) dJ0_charAt_5068e_4 rfl (fun h => absurd h (by decide)) (fun _ => ?_)
  refine lv_aload_n hx hb dJ0_charAt_5068e_7 rfl (lv_at hl 0 rfl) ?_
  refine vk_getf hx hb (hS.1.1 i hi).2.2.1 va_S.rf hown (hts _ (ow_in 9 rfl)) (fun _ h => h) dJ0_charAt_5068e_8 ?_
  refine lv_iload_n hx hb dJ0_charAt_5068e_11 rfl (lv_at hl 1 rfl) ?_
  refine qcall (va_runS (As := [.ref (adV i), .int (Int32.ofNat k)]) (rest := []) ⟨hx, hb, hml, hown, hts⟩ (mt_char1 l adK adV A i k hi hk) (va_cwS 2 hts (good_S (ow_in 24 rfl) (ow_in 25 rfl) (ow_in 26 rfl) (ow_in 27 rfl)) rfl rfl rfl ⟨by decide +kernel, by decide +kernel, by decide +kernel⟩ ⟨Nat.le_of_ble_eq_true rfl, Nat.le_of_ble_eq_true rfl⟩) ⟨blindS, fun U hU hW => ⟨rfl, SX.warm hU hW hS⟩⟩ rfl rfl hl.1 rfl (lv_room (Nat.le_of_ble_eq_true rfl)) dJ0_charAt_5068e_12 ⟨Nat.le_refl _, Nat.le_refl _⟩) ?_
  exact W.zret hx hb hr (by_and i hi k hk).2 (fun t ht hW => ⟨rfl, ht⟩) S_out dJ0_charAt_5068e_15
set_option maxRecDepth 100000 in
set_option maxHeartbeats 1000000 in
theorem mt_spelling (l : Launch) (adK adV : Nat → Nat) (A : Nat → Prop) (i : Nat) (hi : i < 13) : Met l yX9_spelling (.code yX9_spelling cX9_spelling 1 (some (.object "java/lang/String")) :: GT) { frames := 0, cells := 0, slots := 0, locals := 0 } (SPre [.int (Int32.ofNat (i + 1))] adK adV A) (SPost (some (.ref (adK i)))) 0 0 NF := by
  refine Met.ofW (cc := cX9_spelling) (maxL := 1) (ret := (some (.object "java/lang/String"))) (by decide) rfl ?_
  intro p e s m args below meth c s₁ B hml hv
  obtain ⟨rfl, hS⟩ := hv
  have hx := B.exec
  have hb := B.bytes
  have hr := B.returns
  have hts0 := atoms_spec (ws := .code yX9_spelling cX9_spelling 1 (some (.object "java/lang/String")) :: GT) B.pre
  have hts : ∀ w ∈ GT, w.before _ s = true := fun w hw => hts0 w (List.mem_cons_of_mem _ hw)
  have hown : s.vm.findClass RX9 = some m.cls := findClass_of_methodNamed B.named
  have hlocks := B.notSynchronized
  have hl := lv_entry ([.int (Int32.ofNat (i + 1))]) (n := 1) (Nat.le_of_ble_eq_true rfl)
  rw [lg_entry_eq]
  generalize (lg_sl ([.int (Int32.ofNat (i + 1))]) ++ List.replicate (1 - (lg_sl ([.int (Int32.ofNat (i + 1))])).length) Slot.unset).toArray = ls at hl ⊢
  have hl : lv_has ls 1 [(0, .int (Int32.ofNat (i + 1)))] := hl
  refine lv_iload_n hx hb dX9_spelling_0 rfl (lv_at hl 0 rfl) ?_
  have h13 : i = 0 ∨ i = 1 ∨ i = 2 ∨ i = 3 ∨ i = 4 ∨ i = 5 ∨ i = 6 ∨ i = 7 ∨ i = 8 ∨ i = 9 ∨ i = 10 ∨ i = 11 ∨ i = 12 := by omega
  rcases h13 with rfl | rfl | rfl | rfl | rfl | rfl | rfl | rfl | rfl | rfl | rfl | rfl | rfl
  · refine lv_tableIn hx hb (tgt := 64) (off := 63) dX9_spelling_1 (by decide +kernel) (by decide +kernel) (by decide +kernel) rfl ?_
    refine va_ldcS hx hb hown (hS.2.1 0 (by decide)) dX9_spelling_64 ?_
    exact W.aret hx hb hr (Or.inl ⟨_, rfl⟩) (Or.inr ⟨_, rfl⟩) (fun t ht hW => ⟨rfl, ht⟩) S_out dX9_spelling_66
  · refine lv_tableIn hx hb (tgt := 67) (off := 66) dX9_spelling_1 (by decide +kernel) (by decide +kernel) (by decide +kernel) rfl ?_
    refine va_ldcS hx hb hown (hS.2.1 1 (by decide)) dX9_spelling_67 ?_
    exact W.aret hx hb hr (Or.inl ⟨_, rfl⟩) (Or.inr ⟨_, rfl⟩) (fun t ht hW => ⟨rfl, ht⟩) S_out dX9_spelling_69
  · refine lv_tableIn hx hb (tgt := 70) (off := 69) dX9_spelling_1 (by decide +kernel) (by decide +kernel) (by decide +kernel) rfl ?_
    refine va_ldcS hx hb hown (hS.2.1 2 (by decide)) dX9_spelling_70 ?_
    exact W.aret hx hb hr (Or.inl ⟨_, rfl⟩) (Or.inr ⟨_, rfl⟩) (fun t ht hW => ⟨rfl, ht⟩) S_out dX9_spelling_72
  · refine lv_tableIn hx hb (tgt := 73) (off := 72) dX9_spelling_1 (by decide +kernel) (by decide +kernel) (by decide +kernel) rfl ?_
    refine va_ldcS hx hb hown (hS.2.1 3 (by decide)) dX9_spelling_73 ?_
    exact W.aret hx hb hr (Or.inl ⟨_, rfl⟩) (Or.inr ⟨_, rfl⟩) (fun t ht hW => ⟨rfl, ht⟩) S_out dX9_spelling_75
  · refine lv_tableIn hx hb (tgt := 76) (off := 75) dX9_spelling_1 (by decide +kernel) (by decide +kernel) (by decide +kernel) rfl ?_
    refine va_ldcS hx hb hown (hS.2.1 4 (by decide)) dX9_spelling_76 ?_
    exact W.aret hx hb hr (Or.inl ⟨_, rfl⟩) (Or.inr ⟨_, rfl⟩) (fun t ht hW => ⟨rfl, ht⟩) S_out dX9_spelling_78
  · refine lv_tableIn hx hb (tgt := 79) (off := 78) dX9_spelling_1 (by decide +kernel) (by decide +kernel) (by decide +kernel) rfl ?_
    refine va_ldcS hx hb hown (hS.2.1 5 (by decide)) dX9_spelling_79 ?_
    exact W.aret hx hb hr (Or.inl ⟨_, rfl⟩) (Or.inr ⟨_, rfl⟩) (fun t ht hW => ⟨rfl, ht⟩) S_out dX9_spelling_81
  · refine lv_tableIn hx hb (tgt := 82) (off := 81) dX9_spelling_1 (by decide +kernel) (by decide +kernel) (by decide +kernel) rfl ?_
    refine va_ldcS hx hb hown (hS.2.1 6 (by decide)) dX9_spelling_82 ?_
    exact W.aret hx hb hr (Or.inl ⟨_, rfl⟩) (Or.inr ⟨_, rfl⟩) (fun t ht hW => ⟨rfl, ht⟩) S_out dX9_spelling_84
  · refine lv_tableIn hx hb (tgt := 85) (off := 84) dX9_spelling_1 (by decide +kernel) (by decide +kernel) (by decide +kernel) rfl ?_
    refine va_ldcS hx hb hown (hS.2.1 7 (by decide)) dX9_spelling_85 ?_
    exact W.aret hx hb hr (Or.inl ⟨_, rfl⟩) (Or.inr ⟨_, rfl⟩) (fun t ht hW => ⟨rfl, ht⟩) S_out dX9_spelling_87
  · refine lv_tableIn hx hb (tgt := 88) (off := 87) dX9_spelling_1 (by decide +kernel) (by decide +kernel) (by decide +kernel) rfl ?_
    refine va_ldcS hx hb hown (hS.2.1 8 (by decide)) dX9_spelling_88 ?_
    exact W.aret hx hb hr (Or.inl ⟨_, rfl⟩) (Or.inr ⟨_, rfl⟩) (fun t ht hW => ⟨rfl, ht⟩) S_out dX9_spelling_90
  · refine lv_tableIn hx hb (tgt := 91) (off := 90) dX9_spelling_1 (by decide +kernel) (by decide +kernel) (by decide +kernel) rfl ?_
    refine va_ldcS hx hb hown (hS.2.1 9 (by decide)) dX9_spelling_91 ?_
    exact W.aret hx hb hr (Or.inl ⟨_, rfl⟩) (Or.inr ⟨_, rfl⟩) (fun t ht hW => ⟨rfl, ht⟩) S_out dX9_spelling_93
  · refine lv_tableIn hx hb (tgt := 94) (off := 93) dX9_spelling_1 (by decide +kernel) (by decide +kernel) (by decide +kernel) rfl ?_
    refine va_ldcS hx hb hown (hS.2.1 10 (by decide)) dX9_spelling_94 ?_
    exact W.aret hx hb hr (Or.inl ⟨_, rfl⟩) (Or.inr ⟨_, rfl⟩) (fun t ht hW => ⟨rfl, ht⟩) S_out dX9_spelling_96
  · refine lv_tableIn hx hb (tgt := 97) (off := 96) dX9_spelling_1 (by decide +kernel) (by decide +kernel) (by decide +kernel) rfl ?_
    refine va_ldcS hx hb hown (hS.2.1 11 (by decide)) dX9_spelling_97 ?_
    exact W.aret hx hb hr (Or.inl ⟨_, rfl⟩) (Or.inr ⟨_, rfl⟩) (fun t ht hW => ⟨rfl, ht⟩) S_out dX9_spelling_99
  · refine lv_tableOut hx hb (tgt := 100) dX9_spelling_1 (by decide +kernel) rfl ?_
    refine va_ldcS hx hb hown (hS.2.1 12 (by decide)) dX9_spelling_100 ?_
    exact W.aret hx hb hr (Or.inl ⟨_, rfl⟩) (Or.inr ⟨_, rfl⟩) (fun t ht hW => ⟨rfl, ht⟩) S_out dX9_spelling_102
