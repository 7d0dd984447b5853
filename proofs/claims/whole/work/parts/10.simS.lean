/-! A run of the pure machine is a run of the machine: the steps together, calls, the whole. -/
section SimS
variable {p : Program} {l : Launch} {e : Env} {R : Room} {s : State} {mi : MethodId} {args : Array Value} {below : List Frame} {meth : Method} {c : Code} {H : Heap} {locs : List Loc} {cells slots : Nat} {Q : State → Prop}
variable {G : Geo} {X : AX} {m : Nat} {A : Nat → Prop} {H0 : Heap} {ls : Array Slot} {L st : List AV} {σ : AH} {k : Nat} {c' : ACfg} {rest : List Value}
theorem simS {en : Ent} (hE : chkE m k en = true) (hs : stepS X en k L st σ = some c') (C : CxA G X m A H0 p R s mi args c cells slots) (hR : RelA G m A H0 (k, L, st, σ) H locs ls)
    (kk : ∀ (H' : Heap) (locs' : List Loc) (ls' : Array Slot), RelA G m A H0 c' H' locs' ls' → W p l e R s mi args below meth c H' locs' cells slots Q (F0 mi (pcOf m c'.1) ls' (c'.2.2.1.map (cvA G)))) : W p l e R s mi args below meth c H locs cells slots Q (F0 mi en.1 ls (st.map (cvA G))) := by
  obtain ⟨pc, ins, len, u, v, w, ts⟩ := en
  simp only [chkE, Bool.and_eq_true, decide_eq_true_eq] at hE
  obtain ⟨⟨⟨hd, hl⟩, hn⟩, hp⟩ := hE
  unfold stepS at hs
  dsimp only at hs hd hl hn hp
  split at hs
  · unfold stepA at hs
    split at hs
    · exact sm_iconst C hd (by simpa [isSw] using hl) (by simpa [falls] using hn) hp hs hR kk
    · exact sm_bipush C hd (by simpa [isSw] using hl) (by simpa [falls] using hn) hp hs hR kk
    · exact sm_sipush C hd (by simpa [isSw] using hl) (by simpa [falls] using hn) hp hs hR kk
    · exact sm_ldc C hd (by simpa [isSw] using hl) (by simpa [falls] using hn) hp hs hR kk
    · exact sm_ldcw C hd (by simpa [isSw] using hl) (by simpa [falls] using hn) hp hs hR kk
    · exact sm_lconst C hd (by simpa [isSw] using hl) (by simpa [falls] using hn) hp hs hR kk
    · exact sm_ldc2 C hd (by simpa [isSw] using hl) (by simpa [falls] using hn) hp hs hR kk
    · exact sm_iload C hd (by simpa [isSw] using hl) (by simpa [falls] using hn) hp hs hR kk
    · exact sm_iload_n C hd (by simpa [isSw] using hl) (by simpa [falls] using hn) hp hs hR kk
    · exact sm_lload C hd (by simpa [isSw] using hl) (by simpa [falls] using hn) hp hs hR kk
    · exact sm_lload_n C hd (by simpa [isSw] using hl) (by simpa [falls] using hn) hp hs hR kk
    · exact sm_aload C hd (by simpa [isSw] using hl) (by simpa [falls] using hn) hp hs hR kk
    · exact sm_aload_n C hd (by simpa [isSw] using hl) (by simpa [falls] using hn) hp hs hR kk
    · exact sm_istore C hd (by simpa [isSw] using hl) (by simpa [falls] using hn) hp hs hR kk
    · exact sm_istore_n C hd (by simpa [isSw] using hl) (by simpa [falls] using hn) hp hs hR kk
    · exact sm_astore C hd (by simpa [isSw] using hl) (by simpa [falls] using hn) hp hs hR kk
    · exact sm_astore_n C hd (by simpa [isSw] using hl) (by simpa [falls] using hn) hp hs hR kk
    · exact sm_lstore C hd (by simpa [isSw] using hl) (by simpa [falls] using hn) hp hs hR kk
    · exact sm_lstore_n C hd (by simpa [isSw] using hl) (by simpa [falls] using hn) hp hs hR kk
    · exact sm_iinc C hd (by simpa [isSw] using hl) (by simpa [falls] using hn) hp hs hR kk
    · exact sm_dup C hd (by simpa [isSw] using hl) (by simpa [falls] using hn) hp hs hR kk
    · exact sm_dup2 C hd (by simpa [isSw] using hl) (by simpa [falls] using hn) hp hs hR kk
    · exact sm_pop C hd (by simpa [isSw] using hl) (by simpa [falls] using hn) hp hs hR kk
    · cases hs
  · unfold stepB at hs
    split at hs
    · exact sm_iadd C hd (by simpa [isSw] using hl) (by simpa [falls] using hn) hp hs hR kk
    · exact sm_isub C hd (by simpa [isSw] using hl) (by simpa [falls] using hn) hp hs hR kk
    · exact sm_imul C hd (by simpa [isSw] using hl) (by simpa [falls] using hn) hp hs hR kk
    · exact sm_idiv C hd (by simpa [isSw] using hl) (by simpa [falls] using hn) hp hs hR kk
    · exact sm_irem C hd (by simpa [isSw] using hl) (by simpa [falls] using hn) hp hs hR kk
    · exact sm_iand C hd (by simpa [isSw] using hl) (by simpa [falls] using hn) hp hs hR kk
    · exact sm_ior C hd (by simpa [isSw] using hl) (by simpa [falls] using hn) hp hs hR kk
    · exact sm_ixor C hd (by simpa [isSw] using hl) (by simpa [falls] using hn) hp hs hR kk
    · exact sm_ishl C hd (by simpa [isSw] using hl) (by simpa [falls] using hn) hp hs hR kk
    · exact sm_ishr C hd (by simpa [isSw] using hl) (by simpa [falls] using hn) hp hs hR kk
    · exact sm_iushr C hd (by simpa [isSw] using hl) (by simpa [falls] using hn) hp hs hR kk
    · exact sm_ladd C hd (by simpa [isSw] using hl) (by simpa [falls] using hn) hp hs hR kk
    · exact sm_lmul C hd (by simpa [isSw] using hl) (by simpa [falls] using hn) hp hs hR kk
    · exact sm_ldiv C hd (by simpa [isSw] using hl) (by simpa [falls] using hn) hp hs hR kk
    · exact sm_lrem C hd (by simpa [isSw] using hl) (by simpa [falls] using hn) hp hs hR kk
    · exact sm_land C hd (by simpa [isSw] using hl) (by simpa [falls] using hn) hp hs hR kk
    · exact sm_lor C hd (by simpa [isSw] using hl) (by simpa [falls] using hn) hp hs hR kk
    · exact sm_lshl C hd (by simpa [isSw] using hl) (by simpa [falls] using hn) hp hs hR kk
    · exact sm_lshr C hd (by simpa [isSw] using hl) (by simpa [falls] using hn) hp hs hR kk
    · exact sm_lcmp C hd (by simpa [isSw] using hl) (by simpa [falls] using hn) hp hs hR kk
    · exact sm_i2l C hd (by simpa [isSw] using hl) (by simpa [falls] using hn) hp hs hR kk
    · exact sm_l2i C hd (by simpa [isSw] using hl) (by simpa [falls] using hn) hp hs hR kk
    · cases hs
  · unfold stepC at hs
    split at hs
    · exact sm_goto C hd (by simpa [isSw] using hl) (Or.inl trivial) hp hs hR kk
    · exact sm_if_eq C hd (by simpa [isSw] using hl) (by simpa [falls] using hn) hp hs hR kk
    · exact sm_if_ne C hd (by simpa [isSw] using hl) (by simpa [falls] using hn) hp hs hR kk
    · exact sm_if_lt C hd (by simpa [isSw] using hl) (by simpa [falls] using hn) hp hs hR kk
    · exact sm_if_ge C hd (by simpa [isSw] using hl) (by simpa [falls] using hn) hp hs hR kk
    · exact sm_if_gt C hd (by simpa [isSw] using hl) (by simpa [falls] using hn) hp hs hR kk
    · exact sm_if_le C hd (by simpa [isSw] using hl) (by simpa [falls] using hn) hp hs hR kk
    · exact sm_ic_eq C hd (by simpa [isSw] using hl) (by simpa [falls] using hn) hp hs hR kk
    · exact sm_ic_ne C hd (by simpa [isSw] using hl) (by simpa [falls] using hn) hp hs hR kk
    · exact sm_ic_lt C hd (by simpa [isSw] using hl) (by simpa [falls] using hn) hp hs hR kk
    · exact sm_ic_ge C hd (by simpa [isSw] using hl) (by simpa [falls] using hn) hp hs hR kk
    · exact sm_ic_gt C hd (by simpa [isSw] using hl) (by simpa [falls] using hn) hp hs hR kk
    · exact sm_ic_le C hd (by simpa [isSw] using hl) (by simpa [falls] using hn) hp hs hR kk
    · exact sm_table C hd trivial (Or.inl trivial) hp hs hR kk
    · exact sm_lookup C hd trivial (Or.inl trivial) hp hs hR kk
    · exact sm_ifnull C hd (by simpa [isSw] using hl) (by simpa [falls] using hn) hp hs hR kk
    · exact sm_ifnonnull C hd (by simpa [isSw] using hl) (by simpa [falls] using hn) hp hs hR kk
    · cases hs
  · unfold stepD at hs
    split at hs
    · exact sm_get C hd (by simpa [isSw] using hl) (by simpa [falls] using hn) hp hs hR kk
    · exact sm_put C hd (by simpa [isSw] using hl) (by simpa [falls] using hn) hp hs hR kk
    · exact sm_iald C hd (by simpa [isSw] using hl) (by simpa [falls] using hn) hp hs hR kk
    · exact sm_lald C hd (by simpa [isSw] using hl) (by simpa [falls] using hn) hp hs hR kk
    · exact sm_zald C hd (by simpa [isSw] using hl) (by simpa [falls] using hn) hp hs hR kk
    · exact sm_iast C hd (by simpa [isSw] using hl) (by simpa [falls] using hn) hp hs hR kk
    · exact sm_last C hd (by simpa [isSw] using hl) (by simpa [falls] using hn) hp hs hR kk
    · exact sm_zast C hd (by simpa [isSw] using hl) (by simpa [falls] using hn) hp hs hR kk
    · exact sm_aald C hd (by simpa [isSw] using hl) (by simpa [falls] using hn) hp hs hR kk
    · exact sm_alen C hd (by simpa [isSw] using hl) (by simpa [falls] using hn) hp hs hR kk
    · split at hs
      · rename_i h1
        exact sm_copy h1 C hd (by simpa [isSw] using hl) (by simpa [falls] using hn) hp hs hR kk
      · split at hs
        · rename_i h1
          exact sm_max h1 C hd (by simpa [isSw] using hl) (by simpa [falls] using hn) hp hs hR kk
        · split at hs
          · rename_i h1
            exact sm_min h1 C hd (by simpa [isSw] using hl) (by simpa [falls] using hn) hp hs hR kk
          · cases hs
    · cases hs
  · cases hs
theorem callG {pc : Nat} {st0 : List Value} {r : Option AV} {σ' : AH} {a : Array Value} (hr : va_Run p l e R s mi args below meth c H locs cells slots 0 0 (F0 mi pc ls st0) rest (QcA G r σ' a) (AA G)) (hS : va_S A H0 H locs) (hAA : ∀ q, AA G q → A q)
    (kk : ∀ (H1 : Heap) (locs1 : List Loc), okH σ' → (∀ a, r = some a → okA 0 a) → va_P G.1 vwCl (wld G σ') H1 → va_S A H0 H1 locs1 → W p l e R s mi args below meth c H1 locs1 cells slots Q (F0 mi (pc + 3) ls ((r.map (cvA G)).toList ++ rest))) : W p l e R s mi args below meth c H locs cells slots Q (F0 mi pc ls st0) := by
  intro T hT Xs
  obtain ⟨v, st₀, t, T', Lc, h0, X', hL, e1, e2, ⟨hv, hok, hra, hP, hz, hk⟩, st⟩ := hr T hT Xs
  have hv' : v = r.map (cvA G) := by cases hv; rfl
  subst hv'
  rw [h0] at hz hk
  obtain ⟨t2, a1, b1⟩ := kk T'.heap (locs ++ Lc) hok hra (by rw [e1]; exact hP)
    ⟨Nat.le_trans hS.1 (by rw [e1]; exact hz), fun q h1 h2 => by rw [e1, hk q (Nat.lt_of_lt_of_le h1 hS.1) (fun z => h2 (hAA q z))]; exact hS.2.1 q h1 h2, fun q hq => by
      rcases List.mem_append.mp hq with h | h
      · exact hS.2.2 q h
      · exact hAA _ (hL q h)⟩ T' rfl X'
  exact ⟨t2, st t2 a1, b1⟩
end SimS
