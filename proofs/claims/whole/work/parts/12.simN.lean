theorem mPa_no3_all : (List.range NM).all (fun u => u == LAW || !(mPa u).contains 3) = true := by decide +kernel
theorem mPa_no3 {u : Nat} (h : u < NM) (h2 : u ≠ LAW) : 3 ∉ mPa u := by
  have := List.all_eq_true.mp mPa_no3_all u (List.mem_range.mpr h)
  simpa [h2] using this
theorem goodV {c i u : Nat} (hu : u < NM) (hu2 : u ≠ LAW) (hst : mSt u = false) (hml : mlT.elem (c, i, u) = true) (ho : (mY u).cls = clR (mcl u)) (hc : mcl u < 14) : GoodIn GT (wsV (clR c) i (mY u).cls (mY u) (wsM u)) := by
  intro w hw
  unfold wsV at hw
  rcases List.mem_append.mp hw with hw | hw
  · simp only [List.mem_cons, List.not_mem_nil, or_false] at hw
    have key : w ∈ GT := by
      rcases hw with rfl | rfl | rfl | rfl
      · exact ml_in hml
      · exact inst_in hu hu2 hst
      · exact sel_in hu hu2 hst
      · rw [ho]; exact ini_in hc
    exact ⟨key, GT_good key⟩
  · exact wsM_good hu hu2 w hw
theorem goodS {c i u : Nat} (hu : u < NM) (hu2 : u ≠ LAW) (hst : mSt u = true) (hml : mlT.elem (c, i, u) = true) (ho : (mY u).cls = clR (mcl u)) (hc : mcl u < 14) : GoodIn GT (va_wsS (clR c) i (mY u) (wsM u)) := by
  intro w hw
  unfold va_wsS at hw
  rcases List.mem_append.mp hw with hw | hw
  · simp only [List.mem_cons, List.not_mem_nil, or_false] at hw
    have key : w ∈ GT := by
      rcases hw with rfl | rfl | rfl
      · exact ml_in hml
      · exact stat_in hu hu2 hst
      · rw [ho]; exact ini_in hc
    exact ⟨key, GT_good key⟩
  · exact wsM_good hu hu2 w hw
set_option maxHeartbeats 1000000 in
theorem sim_main (l : Launch) (X : AX) (CK : CKd) (PM : OwnMet l) : ∀ n, SimN l X n := by
  intro n
  induction n with
  | zero => intro m c0 r _ h; simp [run] at h
  | succ n IH =>
    intro m c0 r hm h p e R s mi args below meth c H locs cells slots Q G A H0 ls C hR hAA K
    obtain ⟨k, L, st, σ⟩ := c0
    rw [run] at h
    dsimp only at h
    split at h
    · cases h
    · rename_i en he
      have hE := chk_at CK hm he
      rw [pcOf_at he]
      split at h
      · -- a call
        rename_i hcall
        split at h
        · cases h
        · rename_i a ha
          split at h
          · cases h
          · rename_i r1 hr1
            obtain ⟨pc, ins, len, u, v, w, ts⟩ := en
            have hE' := hE
            simp only [chkE, Bool.and_eq_true, decide_eq_true_eq] at hE'
            obtain ⟨⟨⟨hd, hl⟩, hn⟩, hp⟩ := hE'
            dsimp only at hr1 hd hl hn hp
            unfold callA at ha
            split at ha
            · rename_i hc
              cases ha
              obtain ⟨hv, hpa, hcat, hkd⟩ := hc
              dsimp only at hv hpa hcat hkd hr1 h
              generalize hvs : (st.take v).reverse = vs at hpa hkd hr1
              generalize hrs : st.drop v = rs at hcat h
              have hst : st = vs.reverse ++ rs := by rw [← hvs, ← hrs, List.reverse_reverse, List.take_append_drop]
              have hokv : ∀ a ∈ vs, okA m a := fun a ha => hR.2.1 a (by show a ∈ st; rw [hst]; simp [ha])
              have hokr : ∀ a ∈ rs, okA m a := fun a ha => hR.2.1 a (by show a ∈ st; rw [hst]; simp [ha])
              obtain ⟨hx, hb, hml, hown, hts, hfr, hlo, hK, hN, hce, hsl, hSc, hEx⟩ := id C
              have main : u < NM → u ≠ LAW → mFr u + 1 ≤ mFr m → 8 + (mL u + 11) + mLo u ≤ mLo m → (mPa u).length = v → len = 3 → pcOf m (k + 1) = pc + 3 → (∀ (IHm : Met l (mY u) (wsM u) (rmM u) (PcA G vs σ) (QcA G r1.1 r1.2) 0 0 (AA G)), (vs.map Prod.fst = mPa u) → va_Run p l e R s mi args below meth c H locs cells slots 0 0 (F0 mi pc ls (st.map (cvA G))) (rs.map (cvA G)) (QcA G r1.1 r1.2 (vs.map (cvA G)).toArray) (AA G)) → W p l e R s mi args below meth c H locs cells slots Q (F0 mi pc ls (st.map (cvA G))) := by
                intro hu hu2 hf1 hl1 hpl hlen hnx go
                have h3 : ∀ a ∈ vs, a.1 ≠ 3 := by
                  intro a ha h3
                  have hmo := mOk_at hu hu2
                  have : a.1 ∈ mPa u := by rw [← hpa]; exact List.mem_map_of_mem ha
                  rw [h3] at this
                  exact mPa_no3 hu hu2 this
                have hokv2 : ∀ a ∈ vs, okA u a := fun a ha => okA_m (hokv a ha) (h3 a ha)
                have IHm : Met l (mY u) (wsM u) (rmM u) (PcA G vs σ) (QcA G r1.1 r1.2) 0 0 (AA G) := by
                  by_cases hown' : u = OWN
                  · rw [if_pos hown'] at hr1
                    subst hown'
                    exact PM G vs σ r1 hr1 hokv2 hR.1
                  · rw [if_neg hown'] at hr1
                    exact met_of IH hu hu2 hr1 hokv2 hpa hR.1 G
                refine callG (go IHm hpa) hR.2.2.2.2.2 hAA (fun H1 locs1 hok hra hP hS1 => ?_)
                have := IH hm h (e := e) (below := below) (meth := meth) (Q := Q) (H := H1) (locs := locs1) (ls := ls) C ⟨hok, fun a ha => ?_, hR.2.2.1, hP, wld_D hR.2.2.2.2.1 (fun k hk => hAA _ ⟨k, hk, rfl⟩), hS1⟩ hAA K
                · dsimp only at this
                  rw [hnx] at this
                  rw [List.map_append] at this
                  have e1 : (r1.1.map (cvA G)).toList = r1.1.toList.map (cvA G) := by cases r1.1 <;> rfl
                  rw [e1]
                  exact this
                · rcases List.mem_append.mp ha with h4 | h4
                  · cases hr : r1.1 with
                    | none => rw [hr] at h4; cases h4
                    | some b =>
                      rw [hr] at h4
                      have : a = b := by simpa using h4
                      rw [this]
                      exact okA_0 (hra b hr)
                  · exact hokr a h4
              have hExH : ExA G (AA G) s H := (hEx.kept (fun a h1 h2 => hR.2.2.2.2.2.2.1 a h1 h2)).narrow hAA
              have hPre : ∀ (vv : List Value), vv = vs.map (cvA G) → ∀ U : State, U.heap = H → s.WarmedH U.vm → PcA G vs σ vv.toArray U := fun vv hvv U hU hW =>
                ⟨by rw [hvv], by rw [hU]; exact hR.2.2.2.1, va_K.moved hW.alike hK, hR.2.2.2.2.1.weaken (fun _ _ _ _ => trivial), fun e he => va_Nw.warmM hW (hN e he), by rw [hU]; exact hExH.warm hW⟩
              have hroom : ((rs.map (cvA G)).map fun v => v.category).sum ≤ 8 := by rw [cv_cats hokr]; exact hcat
              unfold isCall at hcall
              split at hcall
              · rename_i i hins
                dsimp only at hins
                subst hins
                simp only [chkP, calOk, Bool.and_eq_true, decide_eq_true_eq, bne_iff_ne, ne_eq, Bool.not_eq_true'] at hp
                obtain ⟨⟨⟨⟨p1, ⟨⟨⟨⟨p2, p3⟩, p4⟩, p5⟩, p6⟩⟩, p7⟩, p8⟩, p9⟩ := hp
                have hlen : len = 3 := by simpa [isSw, lenI] using hl
                subst hlen
                refine main p2 p3 p5 p6 p4 rfl (by simpa [falls] using hn) (fun IHm hpa => ?_)
                have hmo := mOk_at p2 p3
                simp only [mOk, Bool.and_eq_true, decide_eq_true_eq] at hmo
                obtain ⟨⟨⟨⟨⟨⟨⟨⟨⟨⟨⟨⟨⟨⟨o1, o2⟩, o3⟩, o4⟩, o5⟩, o6⟩, o7⟩, -⟩, -⟩, -⟩, -⟩, -⟩, -⟩, o14⟩, o15⟩ := hmo
                have hh := o14 p7
                cases vs with
                | nil => rw [← hpa] at hh; simp at hh
                | cons x As =>
                  rw [← hpa] at hh
                  have hx2 : x.1 = 2 := by simpa using hh
                  have okx := okA_ref (hokv x List.mem_cons_self) hx2
                  have hkx : kd x.2.toNat = mcl u := hkd p7
                  have hat := wld_at (G := G) (σ := σ) okx.2
                  rw [cell_obj hkx p9] at hat
                  have hlenA : (As.map (cvA G)).length = v - 1 := by
                    have : (x :: As).length = v := by rw [← p4, ← hpa]; simp
                    simp at this ⊢; omega
                  refine va_runV (As := As.map (cvA G)) (rest := rs.map (cvA G)) (b := G.2.2.1 x.2.toNat) (C := (mY u).cls) ⟨hx, hb, hml, hown, hts⟩ IHm (cwV (v - 1) hts (goodV p2 p3 p7 p1 o2 o6) rfl rfl rfl ⟨rfl, o3, o4, by rw [o1, p7]; simp [p4]⟩ ⟨by show mFr u + 1 ≤ R.frames; omega, by show 8 + (mL u + 11) + mLo u ≤ R.locals; omega⟩) ⟨blind, ?_, fun U hU hW => hPre _ (by rw [List.map_cons, cv_2 hx2]) U hU hW⟩ rfl hlenA hR.2.2.1.size (by show st.map (cvA G) = _; rw [hst]; simp [cv_2 hx2]) (lv_room hroom) hd ⟨hce, hsl⟩
                  rw [o2]
                  exact va_recv hK hR.2.2.2.1 (cl_at (mcl u) p9) hat
              · rename_i i hins
                dsimp only at hins hcall
                subst hins
                have hu1000 : u < 1000 := by simpa using hcall
                simp only [chkP, if_neg (show ¬ u = 1000 by omega), if_neg (show ¬ (u = 1002 ∨ u = 1003) by omega), calOk, Bool.and_eq_true, decide_eq_true_eq, bne_iff_ne, ne_eq] at hp
                obtain ⟨⟨p1, ⟨⟨⟨⟨p2, p3⟩, p4⟩, p5⟩, p6⟩⟩, p7⟩ := hp
                have hlen : len = 3 := by simpa [isSw, lenI] using hl
                subst hlen
                refine main p2 p3 p5 p6 p4 rfl (by simpa [falls] using hn) (fun IHm hpa => ?_)
                have hmo := mOk_at p2 p3
                simp only [mOk, Bool.and_eq_true, decide_eq_true_eq] at hmo
                obtain ⟨⟨⟨⟨⟨⟨⟨⟨⟨⟨⟨⟨⟨⟨o1, o2⟩, o3⟩, o4⟩, o5⟩, o6⟩, o7⟩, -⟩, -⟩, -⟩, -⟩, -⟩, -⟩, o14⟩, o15⟩ := hmo
                have hlenA : (vs.map (cvA G)).length = v := by
                  have : vs.length = v := by rw [← p4, ← hpa]; simp
                  simpa using this
                have hstk : st.map (cvA G) = (vs.map (cvA G)).reverse ++ rs.map (cvA G) := by rw [hst]; simp
                have hpar : (parseMethodDescriptor (mY u).desc).map (fun d => d.parameters.length) = some v := by rw [o1, if_pos p7, p4]
                rw [Bool.or_eq_true] at p1
                rcases p1 with p1 | p1
                · exact va_runS (As := vs.map (cvA G)) (rest := rs.map (cvA G)) ⟨hx, hb, hml, hown, hts⟩ IHm (va_cwS v hts (goodS p2 p3 p7 p1 o2 o6) rfl rfl rfl ⟨o3, o4, hpar⟩ ⟨by show mFr u + 1 ≤ R.frames; omega, by show 8 + (mL u + 11) + mLo u ≤ R.locals; omega⟩) ⟨blind, fun U hU hW => hPre _ rfl U hU hW⟩ rfl hlenA hR.2.2.1.size hstk (lv_room hroom) hd ⟨hce, hsl⟩
                · have hnw : va_Nw (mnW (mcl m, i, u)) s := hN _ (List.elem_iff.mp p1)
                  unfold mnW at hnw
                  dsimp only at hnw
                  have hcw := va_cnB (R := R) (args := args) v hts (wsM_good p2 p3) (rm := rmM u) (bytes := mC u) (maxL := mL u) (ret := mR u) (ws' := GT) rfl rfl rfl hnw (by rw [o2]; exact hts _ (ini_in o6)) ⟨o3, o4, hpar⟩ ⟨by show mFr u + 1 ≤ R.frames; omega, by show 8 + (mL u + 11) + mLo u ≤ R.locals; omega⟩
                  exact va_runSN (As := vs.map (cvA G)) (rest := rs.map (cvA G)) ⟨hx, hb, hml, hown, hts⟩ IHm ⟨hcw, hts _ (stat_in p2 p3 p7), trivial⟩ ⟨blind, fun U hU hW => hPre _ rfl U hU hW⟩ rfl hlenA hR.2.2.1.size hstk (lv_room hroom) hd ⟨hce, hsl⟩
              · cases hcall
            · cases ha
      · split at h
        · rename_i hg
          split at h
          · cases h
          · rename_i r0 hr0
            cases h
            exact K (k, L, st, σ) en H locs ls hE hr0 rfl hR
        · split at h
          · cases h
          · rename_i c' hs
            exact simS hE hs C hR (fun H' locs' ls' hR' => IH hm h C hR' hAA K)
