/-! The law's beginning: its two objects. -/
def KL (G : Geo) (L : List va_E) (H0 H : Heap) (locs : List Loc) : Prop := H.size = H0.size + L.length ∧ va_P G.1 vwCl (ix H0.size L) H ∧ va_S (fun q => H0.size ≤ q) H0 H locs
theorem KL.push {G : Geo} {L : List va_E} {H0 H : Heap} {locs : List Loc} (K : KL G L H0 H locs) {e : va_E} {H1 : Heap} (z : H1.size = H.size + 1) (o : ∀ q, q < H.size → H1[q]? = H[q]?) (he : va_at G.1 vwCl (H.size, e) H1) : KL G (L ++ [e]) H0 H1 locs := by
  obtain ⟨hz, hP, hS⟩ := K
  refine ⟨by rw [z, hz]; simp; omega, ?_, ⟨by have := hS.1; omega, fun x h1 h2 => (o x (by have := hS.1; omega)).trans (hS.2.1 x h1 h2), hS.2.2⟩⟩
  rw [ix_app]
  refine (hP.kept (fun k x hx => o x.1 ((hP k x hx).lt))).app (fun k x hx => ?_)
  rw [ix_at] at hx
  match k, hx with
  | 0, hx =>
    cases hx
    show va_at G.1 vwCl (H0.size + L.length, e) H1
    rw [← hz]
    exact he
  | k + 1, hx => simp at hx
section Lw
variable {p : Program} {l : Launch} {e : Env} {R : Room} {s : State} {m : MethodId} {args : Array Value} {below : List Frame} {meth : Method} {c : Code} {H : Heap} {locs : List Loc} {cells slots : Nat} {Q : State → Prop}
variable {G : Geo} {L : List va_E} {H0 : Heap} {cc : ByteArray} {pc : Nat} {ls : Array Slot} {rest : List Value}
/-- what holds throughout the law -/
def LwX (G : Geo) (p : Program) (s : State) (m : MethodId) (args : Array Value) (c : Code) : Prop :=
  p.tables.exec = Jvm.exec ∧ c.code = code ∧ s.vm.findClass (clR 12) = some m.cls ∧ (∀ w ∈ GC, w.before args s = true) ∧ va_K G.1 vwCl (tysG G) s ∧ NWs s
theorem lwS_new {index : Nat} (cj n : Nat) (hn : L.length = n) (C : LwX G p s m args c) (hcj : cj < 12) (hcl : Cond.classLink (clR 12) index (clR cj) ∈ GC) (hinst : Cond.instantiable (clR cj) (nf cj) ∈ GC) (hcells : cells + 1 ≤ R.cells) (hslots : slots + nf cj ≤ R.slots) (hdg : decode code pc = .ok (.new index, 3)) (K : KL G L H0 H locs)
    (kk : ∀ (H1 : Heap), KL G (L ++ [.inr (cj, dfl cj)]) H0 H1 locs → W p l e R s m args below meth c H1 locs (cells + 1) (slots + nf cj) Q (F0 m (pc + 3) ls (.ref (H0.size + n) :: rest))) : W p l e R s m args below meth c H locs cells slots Q (F0 m pc ls rest) := by
  obtain ⟨hx, hb, hown, hts, hK, hN⟩ := C
  have hws : ∀ w ∈ u_ws (clR cj) (clT cj) (nf cj), w ∈ GC := fun w hw => GT_GC (cl_in cj hcj w hw)
  have hKn := hK.1 cj _ (cl_at cj hcj)
  refine W.newcK hx hb hown (hts _ hcl) (hts _ hinst) (hts _ (GT_GC (ini_in (by omega)))) rfl hdg hcells hslots hKn.2.1 rfl fun H1 kC hkC e1 z1 o1 => ?_
  have := kk H1 (K.push z1 o1 ⟨_, cl_at cj hcj, (u_born (clTy cj) hts hws hKn hkC e1 (cl_ty cj hcj)).to (dfl_at cj)⟩)
  rw [← hn, ← K.1] at this
  exact this
theorem KL.call {cj n ms b : Nat} {own : Nat → List Value} {cs : Nat → List va_E} {fs' : List Value} {a : Array Value} {st0 : List Value} (K : KL G (L ++ [.inr (cj, fs')]) H0 H locs) (hb : H0.size + L.length = b)
    (run : va_Run p l e R s m args below meth c H locs cells slots n ms (F0 m pc ls st0) rest (MPost G cj b (b + 1) own cs a) (fun q => q = b ∨ b + 1 ≤ q))
    (kk : ∀ (H1 : Heap) (locs1 : List Loc), KL G (L ++ .inr (cj, own (b + 1)) :: cs (b + 1)) H0 H1 locs1 → W p l e R s m args below meth c H1 locs1 (cells + n) (slots + ms) Q (F0 m (pc + 3) ls rest)) : W p l e R s m args below meth c H locs cells slots Q (F0 m pc ls st0) := by
  obtain ⟨hz, hP, hS⟩ := K
  intro T hT X
  obtain ⟨v, st₀, t, T', Lc, g0, X', hL, e1, e2, ⟨hv, hz', hP', hF1, hF2⟩, st⟩ := run T hT X
  have hv' : v = none := by cases hv; rfl
  subst hv'
  rw [g0] at hF1 hF2
  have hzH : H.size = b + 1 := by rw [hz]; simp; omega
  have old : ∀ q, q < b → t.heap[q]? = H[q]? := fun q hq => hF2 q (by omega) (by omega)
  have hle : H0.size ≤ b := by omega
  have hKL : KL G (L ++ .inr (cj, own (b + 1)) :: cs (b + 1)) H0 T'.heap (locs ++ Lc) := by
    refine ⟨by rw [e1, hz']; simp; omega, ?_, ⟨by rw [e1]; have := hS.1; omega, fun q h1 h2 => by rw [e1, old q (by omega)]; exact hS.2.1 q h1 h2, fun q hq => ?_⟩⟩
    · rw [e1, ix_app]
      have hP0 : va_P G.1 vwCl (ix H0.size L) H := fun k q hk => by
        refine hP k q ?_
        rw [ix_app, List.getElem?_append_left (List.getElem?_eq_some_iff.mp hk).1]
        exact hk
      refine va_P.app (hP0.kept (fun k q hk => old q.1 ?_)) ?_
      · rw [ix_at] at hk
        cases hx : L[k]? with
        | none => rw [hx] at hk; cases hk
        | some x =>
          rw [hx] at hk
          cases hk
          have := (List.getElem?_eq_some_iff.mp hx).1
          show H0.size + k < b
          omega
      · rw [hb]
        have e5 : ix b (.inr (cj, own (b + 1)) :: cs (b + 1)) = (b, .inr (cj, own (b + 1))) :: ix (b + 1) (cs (b + 1)) := by
          apply List.ext_getElem?
          intro i
          cases i with
          | zero => rw [ix_at, List.getElem?_cons_zero, List.getElem?_cons_zero]; rfl
          | succ i => rw [List.getElem?_cons_succ, ix_at, ix_at, List.getElem?_cons_succ, show b + (i + 1) = b + 1 + i by omega]
        rw [e5]
        exact hP'
    · rcases List.mem_append.mp hq with h | h
      · exact hS.2.2 q h
      · rcases hL q h with h9 | h9
        · exact Nat.le_trans hle (Nat.le_of_eq h9.symm)
        · exact Nat.le_trans hle (Nat.le_trans (Nat.le_succ b) h9)
  obtain ⟨t2, a1, b1⟩ := kk T'.heap (locs ++ Lc) hKL T' rfl X'
  exact ⟨t2, st t2 a1, b1⟩
theorem lwS_call {index cj n b mc ms nL : Nat} {own : Nat → List Value} {cs : Nat → List va_E} {bytes : ByteArray} {rm : Room} (hM : Met l (ctY cj) (.code (ctY cj) bytes 1 none :: GC) rm (MPre G cj b (b + 1)) (MPost G cj b (b + 1) own cs) mc ms (fun q => q = b ∨ b + 1 ≤ q)) (hn : L.length = n) (hb : H0.size + n = b) (hcj : cj < 12) (hic : Cond.code (ctY cj) bytes 1 none ∈ GC) (hii : Cond.instanceMethod (ctY cj) ∈ GC)
    (hlk : Cond.methodLink (clR 12) index (ctY cj) ∈ GC) (C : LwX G p s m args c) (hml : c.maxLocals = nL) (hsz : ls.size = nL) (hrc : rm.cells = mc) (hrs : rm.slots = ms) (hfr : rm.frames + 1 ≤ R.frames) (hlo : 8 + (1 + 11) + rm.locals ≤ R.locals) (hce : cells + mc ≤ R.cells) (hsl : slots + ms ≤ R.slots) (hroom : (((Value.ref b) :: rest).map fun v => v.category).sum ≤ 8) (hdg : decode code pc = .ok (.invokespecial index, 3)) (K : KL G (L ++ [.inr (cj, dfl cj)]) H0 H locs)
    (kk : ∀ (H1 : Heap) (locs1 : List Loc), KL G (L ++ .inr (cj, own (b + 1)) :: cs (b + 1)) H0 H1 locs1 → W p l e R s m args below meth c H1 locs1 (cells + mc) (slots + ms) Q (F0 m (pc + 3) ls (.ref b :: rest))) : W p l e R s m args below meth c H locs cells slots Q (F0 m pc ls (.ref b :: .ref b :: rest)) := by
  have hb' : H0.size + L.length = b := by rw [hn]; exact hb
  obtain ⟨hx, hbc, hown, hts, hK, hN⟩ := C
  have hz1 : H.size = b + 1 := by rw [K.1]; simp; omega
  have hP1 : va_P G.1 vwCl [(b, .inr (cj, dfl cj))] H := fun k q hk => by
    match k, hk with
    | 0, hk =>
      cases hk
      refine K.2.1 L.length _ ?_
      rw [ix_at, List.getElem?_append_right (Nat.le_refl _), Nat.sub_self, hb']
      rfl
    | k + 1, hk => simp at hk
  have hini : (Cond.initialized (ctY cj).cls).before args s = true := hts _ (GT_GC (ini_in (show cj < 14 by omega)))
  have hpre : PreS s H (MPre G cj b (b + 1)) (.ref b :: []) := ⟨blindM, fun U hU hW => ⟨rfl, by rw [hU]; exact hz1, by omega, by rw [hU]; exact hP1, va_K.moved hW.alike hK, NWs.warm hW hN⟩⟩
  exact K.call hb' (va_runI (As := []) (rest := .ref b :: rest) ⟨hx, hbc, hml, hown, hts⟩ hM (cwI 0 hts (good_ct hic) rfl hrc hrs hini (hts _ hlk) (hts _ hii) rfl (ctY_ok cj hcj) ⟨hfr, hlo⟩) hpre rfl rfl hsz rfl (lv_room hroom) hdg ⟨hce, hsl⟩) kk
end Lw
theorem is_in : ∀ c, c < 12 → Cond.instantiable (clR c) (nf c) ∈ GC := fun c h => by
  have hc : c = 0 ∨ c = 1 ∨ c = 2 ∨ c = 3 ∨ c = 4 ∨ c = 5 ∨ c = 6 ∨ c = 7 ∨ c = 8 ∨ c = 9 ∨ c = 10 ∨ c = 11 := by omega
  rcases hc with rfl | rfl | rfl | rfl | rfl | rfl | rfl | rfl | rfl | rfl | rfl | rfl
  · exact gx_is_0
  · exact gx_is_1
  · exact gx_is_2
  · exact gx_is_3
  · exact gx_is_4
  · exact gx_is_5
  · exact gx_is_6
  · exact gx_is_7
  · exact gx_is_8
  · exact gx_is_9
  · exact gx_is_10
  · exact gx_is_11
theorem ix_wld {G : Geo} {B : Nat} (hG : ∀ k, G.2.2.1 k = B + k) {σ : AH} : ix B ((List.range NC).map (cellA G σ)) = wld G σ := by
  apply List.ext_getElem?
  intro i
  rw [ix_at]
  by_cases h : i < NC
  · rw [wld_at h, hG i]
    simp [h]
  · simp [wld, h]
theorem wld_DB {G : Geo} {B : Nat} (hG : ∀ k, G.2.2.1 k = B + k) {σ : AH} : va_D (fun q => B ≤ q) (wld G σ) := by
  have key : ∀ (i : Nat) (q : Nat × va_E), (wld G σ)[i]? = some q → q.1 = B + i := by
    intro i q hq
    have hi : i < NC := by
      have := (List.getElem?_eq_some_iff.mp hq).1
      simpa [wld] using this
    rw [wld_at hi] at hq
    cases hq
    exact hG i
  refine ⟨fun i j a b ha hb hab => ?_, fun k q hq => ?_⟩
  · have e1 := key i a ha
    have e2 := key j b hb
    omega
  · show B ≤ q.1
    rw [key k q hq]
    omega
/-! What the start gives of the texts. -/
def tmS (i : Nat) : Term := .string "BornAboard$Tokens" (87 + 2 * i)
def fcS : List Cond := flatC (Jvm.Cond.and given_1 narrow_1)
set_option maxRecDepth 100000 in
theorem st_ex : ∀ i, i < 13 → Cond.exactly (tmS i) "java/lang/String" ∈ fcS := by decide +kernel
set_option maxRecDepth 100000 in
theorem st_co : ∀ i, i < 13 → Cond.eq (.field (tmS i) "java/lang/String" "coder" "B") (.int 0) ∈ fcS := by decide +kernel
set_option maxRecDepth 100000 in
theorem st_ar : ∀ i, i < 13 → Cond.arrayOf (.field (tmS i) "java/lang/String" "value" "[B") .byte ∈ fcS := by decide +kernel
set_option maxRecDepth 100000 in
theorem st_le : ∀ i, i < 13 → Cond.eq (.length (.field (tmS i) "java/lang/String" "value" "[B")) (.int (Int32.ofNat (lnS.getD i 0))) ∈ fcS := by decide +kernel
set_option maxRecDepth 100000 in
theorem st_el : ∀ i, i < 13 → ∀ j, j < lnS.getD i 0 → Cond.eq (.elem (.field (tmS i) "java/lang/String" "value" "[B") (.int (Int32.ofNat j))) (.int ((byS.getD i []).getD j 0)) ∈ fcS := by decide +kernel
set_option maxRecDepth 100000 in
theorem sn_0_1 : Cond.not (Cond.eq (tmS 0) (tmS 1)) ∈ fcS := List.mem_of_getElem? (i := 28) (by decide +kernel)
set_option maxRecDepth 100000 in
theorem sn_0_2 : Cond.not (Cond.eq (tmS 0) (tmS 2)) ∈ fcS := List.mem_of_getElem? (i := 38) (by decide +kernel)
set_option maxRecDepth 100000 in
theorem sn_1_2 : Cond.not (Cond.eq (tmS 1) (tmS 2)) ∈ fcS := List.mem_of_getElem? (i := 39) (by decide +kernel)
set_option maxRecDepth 100000 in
theorem sn_0_3 : Cond.not (Cond.eq (tmS 0) (tmS 3)) ∈ fcS := List.mem_of_getElem? (i := 48) (by decide +kernel)
set_option maxRecDepth 100000 in
theorem sn_1_3 : Cond.not (Cond.eq (tmS 1) (tmS 3)) ∈ fcS := List.mem_of_getElem? (i := 49) (by decide +kernel)
set_option maxRecDepth 100000 in
theorem sn_2_3 : Cond.not (Cond.eq (tmS 2) (tmS 3)) ∈ fcS := List.mem_of_getElem? (i := 50) (by decide +kernel)
set_option maxRecDepth 100000 in
theorem sn_0_4 : Cond.not (Cond.eq (tmS 0) (tmS 4)) ∈ fcS := List.mem_of_getElem? (i := 60) (by decide +kernel)
set_option maxRecDepth 100000 in
theorem sn_1_4 : Cond.not (Cond.eq (tmS 1) (tmS 4)) ∈ fcS := List.mem_of_getElem? (i := 61) (by decide +kernel)
set_option maxRecDepth 100000 in
theorem sn_2_4 : Cond.not (Cond.eq (tmS 2) (tmS 4)) ∈ fcS := List.mem_of_getElem? (i := 62) (by decide +kernel)
set_option maxRecDepth 100000 in
theorem sn_3_4 : Cond.not (Cond.eq (tmS 3) (tmS 4)) ∈ fcS := List.mem_of_getElem? (i := 63) (by decide +kernel)
set_option maxRecDepth 100000 in
theorem sn_0_5 : Cond.not (Cond.eq (tmS 0) (tmS 5)) ∈ fcS := List.mem_of_getElem? (i := 73) (by decide +kernel)
set_option maxRecDepth 100000 in
theorem sn_1_5 : Cond.not (Cond.eq (tmS 1) (tmS 5)) ∈ fcS := List.mem_of_getElem? (i := 74) (by decide +kernel)
set_option maxRecDepth 100000 in
theorem sn_2_5 : Cond.not (Cond.eq (tmS 2) (tmS 5)) ∈ fcS := List.mem_of_getElem? (i := 75) (by decide +kernel)
set_option maxRecDepth 100000 in
theorem sn_3_5 : Cond.not (Cond.eq (tmS 3) (tmS 5)) ∈ fcS := List.mem_of_getElem? (i := 76) (by decide +kernel)
set_option maxRecDepth 100000 in
theorem sn_4_5 : Cond.not (Cond.eq (tmS 4) (tmS 5)) ∈ fcS := List.mem_of_getElem? (i := 77) (by decide +kernel)
set_option maxRecDepth 100000 in
theorem sn_0_6 : Cond.not (Cond.eq (tmS 0) (tmS 6)) ∈ fcS := List.mem_of_getElem? (i := 87) (by decide +kernel)
set_option maxRecDepth 100000 in
theorem sn_1_6 : Cond.not (Cond.eq (tmS 1) (tmS 6)) ∈ fcS := List.mem_of_getElem? (i := 88) (by decide +kernel)
set_option maxRecDepth 100000 in
theorem sn_2_6 : Cond.not (Cond.eq (tmS 2) (tmS 6)) ∈ fcS := List.mem_of_getElem? (i := 89) (by decide +kernel)
set_option maxRecDepth 100000 in
theorem sn_3_6 : Cond.not (Cond.eq (tmS 3) (tmS 6)) ∈ fcS := List.mem_of_getElem? (i := 90) (by decide +kernel)
set_option maxRecDepth 100000 in
theorem sn_4_6 : Cond.not (Cond.eq (tmS 4) (tmS 6)) ∈ fcS := List.mem_of_getElem? (i := 91) (by decide +kernel)
set_option maxRecDepth 100000 in
theorem sn_5_6 : Cond.not (Cond.eq (tmS 5) (tmS 6)) ∈ fcS := List.mem_of_getElem? (i := 92) (by decide +kernel)
set_option maxRecDepth 100000 in
theorem sn_0_7 : Cond.not (Cond.eq (tmS 0) (tmS 7)) ∈ fcS := List.mem_of_getElem? (i := 103) (by decide +kernel)
set_option maxRecDepth 100000 in
theorem sn_1_7 : Cond.not (Cond.eq (tmS 1) (tmS 7)) ∈ fcS := List.mem_of_getElem? (i := 104) (by decide +kernel)
set_option maxRecDepth 100000 in
theorem sn_2_7 : Cond.not (Cond.eq (tmS 2) (tmS 7)) ∈ fcS := List.mem_of_getElem? (i := 105) (by decide +kernel)
set_option maxRecDepth 100000 in
theorem sn_3_7 : Cond.not (Cond.eq (tmS 3) (tmS 7)) ∈ fcS := List.mem_of_getElem? (i := 106) (by decide +kernel)
set_option maxRecDepth 100000 in
theorem sn_4_7 : Cond.not (Cond.eq (tmS 4) (tmS 7)) ∈ fcS := List.mem_of_getElem? (i := 107) (by decide +kernel)
set_option maxRecDepth 100000 in
theorem sn_5_7 : Cond.not (Cond.eq (tmS 5) (tmS 7)) ∈ fcS := List.mem_of_getElem? (i := 108) (by decide +kernel)
set_option maxRecDepth 100000 in
theorem sn_6_7 : Cond.not (Cond.eq (tmS 6) (tmS 7)) ∈ fcS := List.mem_of_getElem? (i := 109) (by decide +kernel)
set_option maxRecDepth 100000 in
theorem sn_0_8 : Cond.not (Cond.eq (tmS 0) (tmS 8)) ∈ fcS := List.mem_of_getElem? (i := 117) (by decide +kernel)
set_option maxRecDepth 100000 in
theorem sn_1_8 : Cond.not (Cond.eq (tmS 1) (tmS 8)) ∈ fcS := List.mem_of_getElem? (i := 118) (by decide +kernel)
set_option maxRecDepth 100000 in
theorem sn_2_8 : Cond.not (Cond.eq (tmS 2) (tmS 8)) ∈ fcS := List.mem_of_getElem? (i := 119) (by decide +kernel)
set_option maxRecDepth 100000 in
theorem sn_3_8 : Cond.not (Cond.eq (tmS 3) (tmS 8)) ∈ fcS := List.mem_of_getElem? (i := 120) (by decide +kernel)
set_option maxRecDepth 100000 in
theorem sn_4_8 : Cond.not (Cond.eq (tmS 4) (tmS 8)) ∈ fcS := List.mem_of_getElem? (i := 121) (by decide +kernel)
set_option maxRecDepth 100000 in
theorem sn_5_8 : Cond.not (Cond.eq (tmS 5) (tmS 8)) ∈ fcS := List.mem_of_getElem? (i := 122) (by decide +kernel)
set_option maxRecDepth 100000 in
theorem sn_6_8 : Cond.not (Cond.eq (tmS 6) (tmS 8)) ∈ fcS := List.mem_of_getElem? (i := 123) (by decide +kernel)
set_option maxRecDepth 100000 in
theorem sn_7_8 : Cond.not (Cond.eq (tmS 7) (tmS 8)) ∈ fcS := List.mem_of_getElem? (i := 124) (by decide +kernel)
set_option maxRecDepth 100000 in
theorem sn_0_9 : Cond.not (Cond.eq (tmS 0) (tmS 9)) ∈ fcS := List.mem_of_getElem? (i := 133) (by decide +kernel)
set_option maxRecDepth 100000 in
theorem sn_1_9 : Cond.not (Cond.eq (tmS 1) (tmS 9)) ∈ fcS := List.mem_of_getElem? (i := 134) (by decide +kernel)
set_option maxRecDepth 100000 in
theorem sn_2_9 : Cond.not (Cond.eq (tmS 2) (tmS 9)) ∈ fcS := List.mem_of_getElem? (i := 135) (by decide +kernel)
set_option maxRecDepth 100000 in
theorem sn_3_9 : Cond.not (Cond.eq (tmS 3) (tmS 9)) ∈ fcS := List.mem_of_getElem? (i := 136) (by decide +kernel)
set_option maxRecDepth 100000 in
theorem sn_4_9 : Cond.not (Cond.eq (tmS 4) (tmS 9)) ∈ fcS := List.mem_of_getElem? (i := 137) (by decide +kernel)
set_option maxRecDepth 100000 in
theorem sn_5_9 : Cond.not (Cond.eq (tmS 5) (tmS 9)) ∈ fcS := List.mem_of_getElem? (i := 138) (by decide +kernel)
set_option maxRecDepth 100000 in
theorem sn_6_9 : Cond.not (Cond.eq (tmS 6) (tmS 9)) ∈ fcS := List.mem_of_getElem? (i := 139) (by decide +kernel)
set_option maxRecDepth 100000 in
theorem sn_7_9 : Cond.not (Cond.eq (tmS 7) (tmS 9)) ∈ fcS := List.mem_of_getElem? (i := 140) (by decide +kernel)
set_option maxRecDepth 100000 in
theorem sn_8_9 : Cond.not (Cond.eq (tmS 8) (tmS 9)) ∈ fcS := List.mem_of_getElem? (i := 141) (by decide +kernel)
set_option maxRecDepth 100000 in
theorem sn_0_10 : Cond.not (Cond.eq (tmS 0) (tmS 10)) ∈ fcS := List.mem_of_getElem? (i := 148) (by decide +kernel)
set_option maxRecDepth 100000 in
theorem sn_1_10 : Cond.not (Cond.eq (tmS 1) (tmS 10)) ∈ fcS := List.mem_of_getElem? (i := 149) (by decide +kernel)
set_option maxRecDepth 100000 in
theorem sn_2_10 : Cond.not (Cond.eq (tmS 2) (tmS 10)) ∈ fcS := List.mem_of_getElem? (i := 150) (by decide +kernel)
set_option maxRecDepth 100000 in
theorem sn_3_10 : Cond.not (Cond.eq (tmS 3) (tmS 10)) ∈ fcS := List.mem_of_getElem? (i := 151) (by decide +kernel)
set_option maxRecDepth 100000 in
theorem sn_4_10 : Cond.not (Cond.eq (tmS 4) (tmS 10)) ∈ fcS := List.mem_of_getElem? (i := 152) (by decide +kernel)
set_option maxRecDepth 100000 in
theorem sn_5_10 : Cond.not (Cond.eq (tmS 5) (tmS 10)) ∈ fcS := List.mem_of_getElem? (i := 153) (by decide +kernel)
set_option maxRecDepth 100000 in
theorem sn_6_10 : Cond.not (Cond.eq (tmS 6) (tmS 10)) ∈ fcS := List.mem_of_getElem? (i := 154) (by decide +kernel)
set_option maxRecDepth 100000 in
theorem sn_7_10 : Cond.not (Cond.eq (tmS 7) (tmS 10)) ∈ fcS := List.mem_of_getElem? (i := 155) (by decide +kernel)
set_option maxRecDepth 100000 in
theorem sn_8_10 : Cond.not (Cond.eq (tmS 8) (tmS 10)) ∈ fcS := List.mem_of_getElem? (i := 156) (by decide +kernel)
set_option maxRecDepth 100000 in
theorem sn_9_10 : Cond.not (Cond.eq (tmS 9) (tmS 10)) ∈ fcS := List.mem_of_getElem? (i := 157) (by decide +kernel)
set_option maxRecDepth 100000 in
theorem sn_0_11 : Cond.not (Cond.eq (tmS 0) (tmS 11)) ∈ fcS := List.mem_of_getElem? (i := 164) (by decide +kernel)
set_option maxRecDepth 100000 in
theorem sn_1_11 : Cond.not (Cond.eq (tmS 1) (tmS 11)) ∈ fcS := List.mem_of_getElem? (i := 165) (by decide +kernel)
set_option maxRecDepth 100000 in
theorem sn_2_11 : Cond.not (Cond.eq (tmS 2) (tmS 11)) ∈ fcS := List.mem_of_getElem? (i := 166) (by decide +kernel)
set_option maxRecDepth 100000 in
theorem sn_3_11 : Cond.not (Cond.eq (tmS 3) (tmS 11)) ∈ fcS := List.mem_of_getElem? (i := 167) (by decide +kernel)
set_option maxRecDepth 100000 in
theorem sn_4_11 : Cond.not (Cond.eq (tmS 4) (tmS 11)) ∈ fcS := List.mem_of_getElem? (i := 168) (by decide +kernel)
set_option maxRecDepth 100000 in
theorem sn_5_11 : Cond.not (Cond.eq (tmS 5) (tmS 11)) ∈ fcS := List.mem_of_getElem? (i := 169) (by decide +kernel)
set_option maxRecDepth 100000 in
theorem sn_6_11 : Cond.not (Cond.eq (tmS 6) (tmS 11)) ∈ fcS := List.mem_of_getElem? (i := 170) (by decide +kernel)
set_option maxRecDepth 100000 in
theorem sn_7_11 : Cond.not (Cond.eq (tmS 7) (tmS 11)) ∈ fcS := List.mem_of_getElem? (i := 171) (by decide +kernel)
set_option maxRecDepth 100000 in
theorem sn_8_11 : Cond.not (Cond.eq (tmS 8) (tmS 11)) ∈ fcS := List.mem_of_getElem? (i := 172) (by decide +kernel)
set_option maxRecDepth 100000 in
theorem sn_9_11 : Cond.not (Cond.eq (tmS 9) (tmS 11)) ∈ fcS := List.mem_of_getElem? (i := 173) (by decide +kernel)
set_option maxRecDepth 100000 in
theorem sn_10_11 : Cond.not (Cond.eq (tmS 10) (tmS 11)) ∈ fcS := List.mem_of_getElem? (i := 174) (by decide +kernel)
set_option maxRecDepth 100000 in
theorem sn_0_12 : Cond.not (Cond.eq (tmS 0) (tmS 12)) ∈ fcS := List.mem_of_getElem? (i := 184) (by decide +kernel)
set_option maxRecDepth 100000 in
theorem sn_1_12 : Cond.not (Cond.eq (tmS 1) (tmS 12)) ∈ fcS := List.mem_of_getElem? (i := 185) (by decide +kernel)
set_option maxRecDepth 100000 in
theorem sn_2_12 : Cond.not (Cond.eq (tmS 2) (tmS 12)) ∈ fcS := List.mem_of_getElem? (i := 186) (by decide +kernel)
set_option maxRecDepth 100000 in
theorem sn_3_12 : Cond.not (Cond.eq (tmS 3) (tmS 12)) ∈ fcS := List.mem_of_getElem? (i := 187) (by decide +kernel)
set_option maxRecDepth 100000 in
theorem sn_4_12 : Cond.not (Cond.eq (tmS 4) (tmS 12)) ∈ fcS := List.mem_of_getElem? (i := 188) (by decide +kernel)
set_option maxRecDepth 100000 in
theorem sn_5_12 : Cond.not (Cond.eq (tmS 5) (tmS 12)) ∈ fcS := List.mem_of_getElem? (i := 189) (by decide +kernel)
set_option maxRecDepth 100000 in
theorem sn_6_12 : Cond.not (Cond.eq (tmS 6) (tmS 12)) ∈ fcS := List.mem_of_getElem? (i := 190) (by decide +kernel)
set_option maxRecDepth 100000 in
theorem sn_7_12 : Cond.not (Cond.eq (tmS 7) (tmS 12)) ∈ fcS := List.mem_of_getElem? (i := 191) (by decide +kernel)
set_option maxRecDepth 100000 in
theorem sn_8_12 : Cond.not (Cond.eq (tmS 8) (tmS 12)) ∈ fcS := List.mem_of_getElem? (i := 192) (by decide +kernel)
set_option maxRecDepth 100000 in
theorem sn_9_12 : Cond.not (Cond.eq (tmS 9) (tmS 12)) ∈ fcS := List.mem_of_getElem? (i := 193) (by decide +kernel)
set_option maxRecDepth 100000 in
theorem sn_10_12 : Cond.not (Cond.eq (tmS 10) (tmS 12)) ∈ fcS := List.mem_of_getElem? (i := 194) (by decide +kernel)
set_option maxRecDepth 100000 in
theorem sn_11_12 : Cond.not (Cond.eq (tmS 11) (tmS 12)) ∈ fcS := List.mem_of_getElem? (i := 195) (by decide +kernel)
theorem st_lt : ∀ i j, i < j → j < 13 → Cond.not (Cond.eq (tmS i) (tmS j)) ∈ fcS := by
  intro i j hij hj
  have hc : j = 1 ∨ j = 2 ∨ j = 3 ∨ j = 4 ∨ j = 5 ∨ j = 6 ∨ j = 7 ∨ j = 8 ∨ j = 9 ∨ j = 10 ∨ j = 11 ∨ j = 12 := by omega
  rcases hc with rfl | rfl | rfl | rfl | rfl | rfl | rfl | rfl | rfl | rfl | rfl | rfl
  · have hi : i = 0 := by omega
    subst hi
    exact sn_0_1
  · have hi : i = 0 ∨ i = 1 := by omega
    rcases hi with rfl | rfl
    · exact sn_0_2
    · exact sn_1_2
  · have hi : i = 0 ∨ i = 1 ∨ i = 2 := by omega
    rcases hi with rfl | rfl | rfl
    · exact sn_0_3
    · exact sn_1_3
    · exact sn_2_3
  · have hi : i = 0 ∨ i = 1 ∨ i = 2 ∨ i = 3 := by omega
    rcases hi with rfl | rfl | rfl | rfl
    · exact sn_0_4
    · exact sn_1_4
    · exact sn_2_4
    · exact sn_3_4
  · have hi : i = 0 ∨ i = 1 ∨ i = 2 ∨ i = 3 ∨ i = 4 := by omega
    rcases hi with rfl | rfl | rfl | rfl | rfl
    · exact sn_0_5
    · exact sn_1_5
    · exact sn_2_5
    · exact sn_3_5
    · exact sn_4_5
  · have hi : i = 0 ∨ i = 1 ∨ i = 2 ∨ i = 3 ∨ i = 4 ∨ i = 5 := by omega
    rcases hi with rfl | rfl | rfl | rfl | rfl | rfl
    · exact sn_0_6
    · exact sn_1_6
    · exact sn_2_6
    · exact sn_3_6
    · exact sn_4_6
    · exact sn_5_6
  · have hi : i = 0 ∨ i = 1 ∨ i = 2 ∨ i = 3 ∨ i = 4 ∨ i = 5 ∨ i = 6 := by omega
    rcases hi with rfl | rfl | rfl | rfl | rfl | rfl | rfl
    · exact sn_0_7
    · exact sn_1_7
    · exact sn_2_7
    · exact sn_3_7
    · exact sn_4_7
    · exact sn_5_7
    · exact sn_6_7
  · have hi : i = 0 ∨ i = 1 ∨ i = 2 ∨ i = 3 ∨ i = 4 ∨ i = 5 ∨ i = 6 ∨ i = 7 := by omega
    rcases hi with rfl | rfl | rfl | rfl | rfl | rfl | rfl | rfl
    · exact sn_0_8
    · exact sn_1_8
    · exact sn_2_8
    · exact sn_3_8
    · exact sn_4_8
    · exact sn_5_8
    · exact sn_6_8
    · exact sn_7_8
  · have hi : i = 0 ∨ i = 1 ∨ i = 2 ∨ i = 3 ∨ i = 4 ∨ i = 5 ∨ i = 6 ∨ i = 7 ∨ i = 8 := by omega
    rcases hi with rfl | rfl | rfl | rfl | rfl | rfl | rfl | rfl | rfl
    · exact sn_0_9
    · exact sn_1_9
    · exact sn_2_9
    · exact sn_3_9
    · exact sn_4_9
    · exact sn_5_9
    · exact sn_6_9
    · exact sn_7_9
    · exact sn_8_9
  · have hi : i = 0 ∨ i = 1 ∨ i = 2 ∨ i = 3 ∨ i = 4 ∨ i = 5 ∨ i = 6 ∨ i = 7 ∨ i = 8 ∨ i = 9 := by omega
    rcases hi with rfl | rfl | rfl | rfl | rfl | rfl | rfl | rfl | rfl | rfl
    · exact sn_0_10
    · exact sn_1_10
    · exact sn_2_10
    · exact sn_3_10
    · exact sn_4_10
    · exact sn_5_10
    · exact sn_6_10
    · exact sn_7_10
    · exact sn_8_10
    · exact sn_9_10
  · have hi : i = 0 ∨ i = 1 ∨ i = 2 ∨ i = 3 ∨ i = 4 ∨ i = 5 ∨ i = 6 ∨ i = 7 ∨ i = 8 ∨ i = 9 ∨ i = 10 := by omega
    rcases hi with rfl | rfl | rfl | rfl | rfl | rfl | rfl | rfl | rfl | rfl | rfl
    · exact sn_0_11
    · exact sn_1_11
    · exact sn_2_11
    · exact sn_3_11
    · exact sn_4_11
    · exact sn_5_11
    · exact sn_6_11
    · exact sn_7_11
    · exact sn_8_11
    · exact sn_9_11
    · exact sn_10_11
  · have hi : i = 0 ∨ i = 1 ∨ i = 2 ∨ i = 3 ∨ i = 4 ∨ i = 5 ∨ i = 6 ∨ i = 7 ∨ i = 8 ∨ i = 9 ∨ i = 10 ∨ i = 11 := by omega
    rcases hi with rfl | rfl | rfl | rfl | rfl | rfl | rfl | rfl | rfl | rfl | rfl | rfl
    · exact sn_0_12
    · exact sn_1_12
    · exact sn_2_12
    · exact sn_3_12
    · exact sn_4_12
    · exact sn_5_12
    · exact sn_6_12
    · exact sn_7_12
    · exact sn_8_12
    · exact sn_9_12
    · exact sn_10_12
    · exact sn_11_12
theorem st_ne : ∀ i, i < 13 → ∀ j, j < 13 → i ≠ j → Cond.not (Cond.eq (tmS i) (tmS j)) ∈ fcS ∨ Cond.not (Cond.eq (tmS j) (tmS i)) ∈ fcS := by
  intro i hi j hj hij
  rcases Nat.lt_or_ge i j with h | h
  · exact Or.inl (st_lt i j h hj)
  · exact Or.inr (st_lt j i (by omega) hi)
theorem st_cs : Cond.eq (.static "java/lang/String" "COMPACT_STRINGS" "Z") (.int 1) ∈ fcS := by decide +kernel
theorem st_fm : Cond.isRef (.static "jdk/internal/util/Preconditions" "SIOOBE_FORMATTER" "Ljava/util/function/BiFunction;") ∈ fcS := by decide +kernel
theorem ln_small : ∀ i, i < 13 → lnS.getD i 0 < 2 ^ 31 := by decide +kernel
theorem nw_in : ∀ e ∈ nwT, nwW e ∈ lw_tbl := List.forall_mem_cons.mpr ⟨List.mem_of_getElem? (i := 148) (by decide +kernel), List.forall_mem_cons.mpr ⟨List.mem_of_getElem? (i := 166) (by decide +kernel), List.forall_mem_cons.mpr ⟨List.mem_of_getElem? (i := 172) (by decide +kernel), List.forall_mem_cons.mpr ⟨List.mem_of_getElem? (i := 197) (by decide +kernel), List.forall_mem_cons.mpr ⟨List.mem_of_getElem? (i := 205) (by decide +kernel), List.forall_mem_cons.mpr ⟨List.mem_of_getElem? (i := 360) (by decide +kernel), List.forall_mem_cons.mpr ⟨List.mem_of_getElem? (i := 369) (by decide +kernel), List.forall_mem_cons.mpr ⟨List.mem_of_getElem? (i := 382) (by decide +kernel), List.forall_mem_cons.mpr ⟨List.mem_of_getElem? (i := 385) (by decide +kernel), List.forall_mem_cons.mpr ⟨List.mem_of_getElem? (i := 391) (by decide +kernel), List.forall_mem_cons.mpr ⟨List.mem_of_getElem? (i := 416) (by decide +kernel), List.forall_mem_cons.mpr ⟨List.mem_of_getElem? (i := 453) (by decide +kernel), List.forall_mem_cons.mpr ⟨List.mem_of_getElem? (i := 455) (by decide +kernel), List.forall_mem_cons.mpr ⟨List.mem_of_getElem? (i := 521) (by decide +kernel), fun _ h => absurd h List.not_mem_nil⟩⟩⟩⟩⟩⟩⟩⟩⟩⟩⟩⟩⟩⟩
theorem mn_in : ∀ e ∈ mnT, mnW e ∈ lw_tbl := List.forall_mem_cons.mpr ⟨List.mem_of_getElem? (i := 951) (by decide +kernel), List.forall_mem_cons.mpr ⟨List.mem_of_getElem? (i := 813) (by decide +kernel), List.forall_mem_cons.mpr ⟨List.mem_of_getElem? (i := 768) (by decide +kernel), fun _ h => absurd h List.not_mem_nil⟩⟩⟩
theorem ao_p : Cond.arrayOver (.object "BornAboard$People") ∈ lw_tbl := List.mem_of_getElem? (i := 368) (by decide +kernel)
theorem ao_i : Cond.arrayOver (.array .int) ∈ lw_tbl := List.mem_of_getElem? (i := 202) (by decide +kernel)
theorem st_ref0 : Cond.stringRef "BornAboard$Tokens" 87 "station" ∈ lw_tbl := List.mem_of_getElem? (i := 637) (by decide +kernel)
theorem st_ref1 : Cond.stringRef "BornAboard$Tokens" 89 "stop" ∈ lw_tbl := List.mem_of_getElem? (i := 638) (by decide +kernel)
theorem st_ref2 : Cond.stringRef "BornAboard$Tokens" 91 "train" ∈ lw_tbl := List.mem_of_getElem? (i := 639) (by decide +kernel)
theorem st_ref3 : Cond.stringRef "BornAboard$Tokens" 93 "from" ∈ lw_tbl := List.mem_of_getElem? (i := 640) (by decide +kernel)
theorem st_ref4 : Cond.stringRef "BornAboard$Tokens" 95 "seats" ∈ lw_tbl := List.mem_of_getElem? (i := 641) (by decide +kernel)
theorem st_ref5 : Cond.stringRef "BornAboard$Tokens" 97 "calls" ∈ lw_tbl := List.mem_of_getElem? (i := 642) (by decide +kernel)
theorem st_ref6 : Cond.stringRef "BornAboard$Tokens" 99 "after" ∈ lw_tbl := List.mem_of_getElem? (i := 643) (by decide +kernel)
theorem st_ref7 : Cond.stringRef "BornAboard$Tokens" 101 "person" ∈ lw_tbl := List.mem_of_getElem? (i := 644) (by decide +kernel)
theorem st_ref8 : Cond.stringRef "BornAboard$Tokens" 103 "age" ∈ lw_tbl := List.mem_of_getElem? (i := 645) (by decide +kernel)
theorem st_ref9 : Cond.stringRef "BornAboard$Tokens" 105 "born" ∈ lw_tbl := List.mem_of_getElem? (i := 646) (by decide +kernel)
theorem st_ref10 : Cond.stringRef "BornAboard$Tokens" 107 "at" ∈ lw_tbl := List.mem_of_getElem? (i := 647) (by decide +kernel)
theorem st_ref11 : Cond.stringRef "BornAboard$Tokens" 109 "to" ∈ lw_tbl := List.mem_of_getElem? (i := 648) (by decide +kernel)
theorem st_ref12 : Cond.stringRef "BornAboard$Tokens" 111 "price" ∈ lw_tbl := List.mem_of_getElem? (i := 649) (by decide +kernel)
theorem st_ref : ∀ i, i < 13 → Cond.stringRef "BornAboard$Tokens" (87 + 2 * i) (txS.getD i "") ∈ lw_tbl := fun i h => by
  have hc : i = 0 ∨ i = 1 ∨ i = 2 ∨ i = 3 ∨ i = 4 ∨ i = 5 ∨ i = 6 ∨ i = 7 ∨ i = 8 ∨ i = 9 ∨ i = 10 ∨ i = 11 ∨ i = 12 := by omega
  rcases hc with rfl | rfl | rfl | rfl | rfl | rfl | rfl | rfl | rfl | rfl | rfl | rfl | rfl
  · exact st_ref0
  · exact st_ref1
  · exact st_ref2
  · exact st_ref3
  · exact st_ref4
  · exact st_ref5
  · exact st_ref6
  · exact st_ref7
  · exact st_ref8
  · exact st_ref9
  · exact st_ref10
  · exact st_ref11
  · exact st_ref12
theorem st_ls1 : Cond.laysStatic "java/lang/String" "COMPACT_STRINGS" "Z" ∈ lw_tbl := List.mem_of_getElem? (i := 659) (by decide +kernel)
theorem st_ls2 : Cond.laysStatic "jdk/internal/util/Preconditions" "SIOOBE_FORMATTER" "Ljava/util/function/BiFunction;" ∈ lw_tbl := List.mem_of_getElem? (i := 675) (by decide +kernel)
theorem st_in1 : Cond.initialized "java/lang/String" ∈ lw_tbl := List.mem_of_getElem? (i := 131) (by decide +kernel)
theorem st_in2 : Cond.initialized "jdk/internal/util/Preconditions" ∈ lw_tbl := List.mem_of_getElem? (i := 133) (by decide +kernel)
theorem dL_law_0 : decode code 0 = .ok (.new 7, 3) := by decide +kernel
theorem dL_law_3 : decode code 3 = .ok (.dup, 1) := by decide +kernel
theorem dL_law_4 : decode code 4 = .ok (.invokespecial 9, 3) := by decide +kernel
theorem dL_law_7 : decode code 7 = .ok (.astore_n 1, 1) := by decide +kernel
theorem dL_law_8 : decode code 8 = .ok (.new 10, 3) := by decide +kernel
theorem dL_law_11 : decode code 11 = .ok (.dup, 1) := by decide +kernel
theorem dL_law_12 : decode code 12 = .ok (.invokespecial 12, 3) := by decide +kernel
theorem dL_law_15 : decode code 15 = .ok (.astore_n 2, 1) := by decide +kernel
theorem dL_law_16 : decode code 16 = .ok (.iconst 0, 1) := by decide +kernel
theorem dL_law_17 : decode code 17 = .ok (.istore_n 3, 1) := by decide +kernel
theorem st_A {s : State} {b : Nat} {G : Geo} (hts : ∀ w ∈ lw_tbl, w.before #[Value.ref b] s = true) (hgv : (Jvm.Cond.and given_1 narrow_1).before #[Value.ref b] s = true) : ExA G (fun q => s.heap.size ≤ q) s s.heap := by
  have hfl : ∀ w ∈ fcS, w.before #[Value.ref b] s = true := flat_of_before _ hgv
  have hA : ∀ a : Nat, a < s.heap.size → ¬ (fun q => s.heap.size ≤ q) a := fun a h => Nat.not_le.mpr h
  obtain ⟨adK, adV, h1, h2⟩ := vk_Sof (args := #[Value.ref b]) (s := s) (N := 13) (tm := tmS) (len := lnS) (byt := byS) (A := fun q => s.heap.size ≤ q) ln_small (fun i hi => hfl _ (st_ex i hi)) (fun i hi => hfl _ (st_co i hi)) (fun i hi => hfl _ (st_ar i hi)) (fun i hi => hfl _ (st_le i hi)) (fun i hi j hj => hfl _ (st_el i hi j hj)) (fun i j hi hj hij => (st_ne i hi j hj hij).elim (fun h => Or.inl (hfl _ h)) (fun h => Or.inr (hfl _ h))) hA
  exact ⟨adK, adV, h1, fun i hi => vk_R.of (hts _ (st_ref i hi)) (h2 i hi), va_Zof (hts _ st_ls1) (hts _ st_in1) (va_eqt (hfl _ st_cs)) hA, va_Zqof (hts _ st_ls2) (hts _ st_in2) (hfl _ st_fm) hA⟩
