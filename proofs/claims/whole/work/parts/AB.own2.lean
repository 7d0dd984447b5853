/-! Tokens.ownWord. -/
theorem tape_1 : ∀ k, k < NC → kd k = 7 → k = 1 := by decide +kernel
theorem own_drop : ∀ i, i < 13 → ownWs.drop i = ownWs.getD i [] :: ownWs.drop (i + 1) := by decide +kernel
theorem own_len : ∀ i, i < 13 → (ownWs.getD i []).length = lnS.getD i 0 := by decide +kernel
theorem own_by : ∀ i, i < 13 → ∀ k, k < lnS.getD i 0 → (byS.getD i []).getD k 0 = Int32.ofInt ((ownWs.getD i []).getD k 0) ∧ (Int32.ofInt ((ownWs.getD i []).getD k 0)).toInt = (ownWs.getD i []).getD k 0 := by decide +kernel
theorem own_nat : ∀ i : Nat, i < 13 → Int32.ofInt ((i : Int) + 1) = Int32.ofNat (i + 1) ∧ (Int32.ofInt ((i : Int) + 1)).toInt = (i : Int) + 1 ∧ ¬ (13 : Int32) < Int32.ofNat (i + 1) ∧ Int32.ofNat (i + 1) + Int32.ofInt 1 = Int32.ofNat (i + 1 + 1) := by decide +kernel
theorem k_inc : ∀ k, k < 8 → Int32.ofNat k + Int32.ofInt 1 = Int32.ofNat (k + 1) := by decide +kernel
theorem nat_clamp {n : Nat} (h : n < 2147483648) : (Int32.ofNat n).toNatClampNeg = n := Int32.toNatClampNeg_ofNat_of_lt h
theorem nat_inj {a b : Nat} (ha : a < 2147483648) (hb : b < 2147483648) (h : Int32.ofNat a = Int32.ofNat b) : a = b := by
  have := congrArg Int32.toNatClampNeg h
  rwa [nat_clamp ha, nat_clamp hb] at this
theorem int_nat {x : Int} (h : 0 ≤ x) : Int32.ofInt x = Int32.ofNat x.toNat := by
  obtain ⟨n, rfl⟩ := Int.eq_ofNat_of_zero_le h
  first
    | rfl
    | simp [Int32.ofInt_eq_ofNat]
    | exact Int32.ofInt_eq_ofNat
theorem nat_nneg {n : Nat} (h : n < 2147483648) : ¬ Int32.ofNat n < 0 := by
  intro q
  have h1 := Int32.lt_iff_toInt_lt.mp q
  have h2 : (Int32.ofNat n).toInt = n := Int32.toInt_ofNat_of_lt h
  rw [h2] at h1
  have h3 : (0 : Int32).toInt = 0 := by decide
  rw [h3] at h1
  omega
theorem nat_le {a b : Nat} (ha : a < 2147483648) (hb : b < 2147483648) : Int32.ofNat a ≤ Int32.ofNat b ↔ a ≤ b := by
  have h2 : (Int32.ofNat a).toInt = a := Int32.toInt_ofNat_of_lt ha
  have h3 : (Int32.ofNat b).toInt = b := Int32.toInt_ofNat_of_lt hb
  rw [Int32.le_iff_toInt_le, h2, h3]
  omega
theorem ownI_cons (w : List Int) (ws : List (List Int)) (i : Int) (f : Nat → Int) (n : Nat) : ownI (w :: ws) i f n = if w.length = n ∧ (∀ k, k < n → f k = w.getD k 0) then i else ownI ws (i + 1) f n := rfl
theorem own_fl : flW (9, 47, 7, 0) ∈ GT := flT_in (by decide +kernel)
set_option maxRecDepth 100000 in
set_option maxHeartbeats 4000000 in
theorem own_met (l : Launch) : OwnMet l := by
  intro G vs σ r hr hok hH
  unfold ownA at hr
  split at hr
  · rename_i t st n
    split at hr
    · rename_i hc
      cases hr
      obtain ⟨t2, s0, n0, hkd, hs1, hn1, hsn⟩ := hc
      have eav : [t, st, n].map (cvA G) = [.ref (G.2.2.1 t.2.toNat), .int (Int32.ofInt st.2), .int (Int32.ofInt n.2)] := by simp [cv_2 t2, cv_0 s0, cv_0 n0]
      have ht1 : t.2.toNat = 1 := tape_1 _ (okA_ref (hok t (by simp)) t2).2 hkd
      unfold PcA
      rw [eav, ht1, int_nat hs1, int_nat hn1]
      have hfx : fx 1 0 - 1 = 2 := by decide +kernel
      rw [hfx]
      generalize hSn : st.2.toNat = S
      generalize hNn : n.2.toNat = N
      have hSN : S + N ≤ 1600 := by omega
      clear hSn hNn hsn hs1 hn1 s0 n0 eav hok hkd ht1 t2
      generalize hres : ownI ownWs 1 (fun k => σ 2 (S + k)) N = res
      refine Met.ofW (cc := cX9_ownWord) (maxL := 7) (ret := some .int) (by decide) rfl ?_
      intro p e s m args below meth c s₁ B hml hv
      obtain ⟨rfl, hP, hK, hD, hNw, hEx⟩ := hv
      obtain ⟨adK, adV, hS1, hS2, hS3, hS4⟩ := hEx
      have hS : SX adK adV (AA G) s := ⟨hS1, hS2, hS3, hS4⟩
      have hx := B.exec
      have hb := B.bytes
      have hr := B.returns
      have hts0 := atoms_spec (ws := wsM OWN) B.pre
      have hts : ∀ w ∈ GT, w.before _ s = true := fun w hw => hts0 w (List.mem_cons_of_mem _ hw)
      have hown : s.vm.findClass RX9 = some m.cls := findClass_of_methodNamed B.named
      have hlocks := B.notSynchronized
      have hl := lv_entry ([.ref (G.2.2.1 1), .int (Int32.ofNat S), .int (Int32.ofNat N)]) (n := 7) (Nat.le_of_ble_eq_true rfl)
      rw [lg_entry_eq]
      generalize (lg_sl ([.ref (G.2.2.1 1), .int (Int32.ofNat S), .int (Int32.ofNat N)]) ++ List.replicate (7 - (lg_sl ([.ref (G.2.2.1 1), .int (Int32.ofNat S), .int (Int32.ofNat N)])).length) Slot.unset).toArray = ls at hl ⊢
      have hl : lv_has ls 7 [(0, .ref (G.2.2.1 1)), (1, .int (Int32.ofNat S)), (2, .int (Int32.ofNat N))] := hl
      have hat1 : (wld G σ)[1]? = some (G.2.2.1 1, .inr (7, (List.range (nf 7)).map fun f => cvA G (fval 1 7 f σ))) := wld_at (by decide)
      have hat2 : (wld G σ)[2]? = some (G.2.2.1 2, .inl (G.2.1 20, 1600, .inl fun j => Int32.ofInt (σ 2 j))) := wld_at (by decide)
      have hby : ∀ x, (Int32.ofInt (σ 2 x)).toInt = σ 2 x := fun x => okA_int (hH 2 x) rfl
      have fin : ∀ v : Int32, v = Int32.ofInt res → (Int32.ofInt res).toInt = res → ∀ t : State, t.heap = s.heap → QcA G (some (0, res)) σ (#[.ref (G.2.2.1 1), .int (Int32.ofNat S), .int (Int32.ofNat N)]) s (.returned (some (.int v))) t := fun v hv hv2 t ht => ⟨by rw [hv]; rfl, hH, fun a ha => by cases ha; exact Or.inl ⟨rfl, hv2⟩, by rw [ht]; exact hP, va_S.rf.F ht⟩
      have outer : ∀ d i, i + d = 13 → ownI (ownWs.drop i) ((i : Int) + 1) (fun k => σ 2 (S + k)) N = res → ∀ ls, lv_has ls 7 [(3, .int (Int32.ofNat (i + 1))), (0, .ref (G.2.2.1 1)), (1, .int (Int32.ofNat S)), (2, .int (Int32.ofNat N))] → W p l e (headSpec (wsM OWN) (rmM OWN)).room s m (#[.ref (G.2.2.1 1), .int (Int32.ofNat S), .int (Int32.ofNat N)]) below meth c s.heap [] 0 0 (MQ below (QcA G (some (0, res)) σ) (#[.ref (G.2.2.1 1), .int (Int32.ofNat S), .int (Int32.ofNat N)]) s 0 0 (AA G)) (F0 m 2 ls []) := by
        intro d
        induction d with
        | zero =>
          intro i hi hres ls hl
          have : i = 13 := by omega
          subst this
          refine lv_iload_n hx hb dX9_ownWord_2 rfl (lv_at hl 0 rfl) ?_
          refine lv_bipush hx hb (v := 13) dX9_ownWord_3 (by decide +kernel) ?_
          refine lv_icmp_gt hx hb (tgt := 89) dX9_ownWord_5 rfl (fun _ => ?_) (fun h => absurd (by decide +kernel) h)
          refine lv_iconst hx hb (v := -1) dX9_ownWord_89 (by decide +kernel) ?_
          have hr1 : res = -1 := hres.symm
          exact W.iret hx hb hr (fun t ht _ => fin _ (by rw [hr1]; decide +kernel) (by rw [hr1]; decide +kernel) t ht) (fun q h => by cases h) dX9_ownWord_90
        | succ d ih =>
          intro i hi hres ls hl
          have hi13 : i < 13 := by omega
          obtain ⟨n1, n2, n3, n4⟩ := own_nat i hi13
          obtain ⟨hlb, hl7⟩ := lnS_by i hi13
          rw [own_drop i hi13, ownI_cons, own_len i hi13] at hres
          refine lv_iload_n hx hb dX9_ownWord_2 rfl (lv_at hl 0 rfl) ?_
          refine lv_bipush hx hb (v := 13) dX9_ownWord_3 (by decide +kernel) ?_
          refine lv_icmp_gt hx hb (tgt := 89) dX9_ownWord_5 rfl (fun h => absurd h n3) (fun _ => ?_)
          refine lv_iload_n hx hb dX9_ownWord_8 rfl (lv_at hl 0 rfl) ?_
          refine qcall (va_runS (As := [.int (Int32.ofNat (i + 1))]) (rest := []) ⟨hx, hb, hml, hown, hts⟩ (mt_spelling l adK adV (AA G) i hi13) (va_cwS 1 hts (good_S (ow_in 0 rfl) (ow_in 1 rfl) (ow_in 3 rfl) (ow_in 2 rfl)) rfl rfl rfl ⟨by decide +kernel, by decide +kernel, by decide +kernel⟩ ⟨Nat.le_of_ble_eq_true rfl, Nat.le_of_ble_eq_true rfl⟩) ⟨blindS, fun U hU hW => ⟨rfl, SX.warm hU hW hS⟩⟩ rfl rfl hl.1 rfl (lv_room (Nat.le_of_ble_eq_true rfl)) dX9_ownWord_9 ⟨Nat.zero_le _, Nat.zero_le _⟩) ?_
          refine lv_astore hx hb dX9_ownWord_12 hl (by decide) rfl (fun ls hl => ?_)
          refine lv_aload hx hb dX9_ownWord_14 (lv_at hl 0 rfl) ?_
          refine qcall (va_runV (As := []) (rest := []) (b := adK i) (C := RJ0) ⟨hx, hb, hml, hown, hts⟩ (mt_length l adK adV (AA G) i hi13) (cwV 0 hts (good_V (ow_in 4 rfl) (ow_in 5 rfl) (ow_in 6 rfl) (ow_in 7 rfl) (ow_in 8 rfl)) rfl rfl rfl ⟨rfl, by decide +kernel, by decide +kernel, by decide +kernel⟩ ⟨Nat.le_of_ble_eq_true rfl, Nat.le_of_ble_eq_true rfl⟩) ⟨blindS, vk_recv hS.1 hi13 va_S.rf, fun U hU hW => ⟨rfl, SX.warm hU hW hS⟩⟩ rfl rfl hl.1 rfl (lv_room (Nat.le_of_ble_eq_true rfl)) dX9_ownWord_16 ⟨Nat.zero_le _, Nat.zero_le _⟩) ?_
          refine lv_iload_n hx hb dX9_ownWord_19 rfl (lv_at hl 4 rfl) ?_
          -- behind a word that is not it
          have miss : ¬ (lnS.getD i 0 = N ∧ ∀ k, k < N → σ 2 (S + k) = (ownWs.getD i []).getD k 0) → ∀ (ls : Array Slot) (y : Int32), lv_has ls 7 [(5, .int 0), (6, .int y), (4, .ref (adK i)), (3, .int (Int32.ofNat (i + 1))), (0, .ref (G.2.2.1 1)), (1, .int (Int32.ofNat S)), (2, .int (Int32.ofNat N))] → W p l e (headSpec (wsM OWN) (rmM OWN)).room s m (#[.ref (G.2.2.1 1), .int (Int32.ofNat S), .int (Int32.ofNat N)]) below meth c s.heap [] 0 0 (MQ below (QcA G (some (0, res)) σ) (#[.ref (G.2.2.1 1), .int (Int32.ofNat S), .int (Int32.ofNat N)]) s 0 0 (AA G)) (F0 m 33 ls []) := by
            intro hno ls y hl
            rw [if_neg hno] at hres
            refine lv_iload hx hb dX9_ownWord_33 (lv_at hl 0 rfl) ?_
            refine lv_if_eq hx hb (tgt := 76) dX9_ownWord_35 rfl (fun _ => ?_) (fun h => absurd rfl h)
            refine lv_iload hx hb dX9_ownWord_76 (lv_at hl 0 rfl) ?_
            refine lv_if_eq hx hb (tgt := 83) dX9_ownWord_78 rfl (fun _ => ?_) (fun h => absurd rfl h)
            refine lv_iinc hx hb (k := 3) dX9_ownWord_83 hl rfl n4 (by decide) rfl (fun ls hl => ?_)
            refine lv_goto hx hb (tgt := 2) dX9_ownWord_86 rfl ?_
            exact ih (i + 1) (by omega) (by rw [← hres]; rfl) ls (lv_sub hl [0, 4, 5, 6] rfl)
          refine lv_icmp_ne hx hb (tgt := 27) dX9_ownWord_20 rfl (fun hne => ?_) (fun heq => ?_)
          · refine lv_iconst hx hb (v := 0) dX9_ownWord_27 (by decide) ?_
            refine lv_istore hx hb dX9_ownWord_28 hl (by decide) rfl (fun ls hl => ?_)
            refine lv_iconst hx hb (v := 0) dX9_ownWord_30 (by decide) ?_
            refine lv_istore hx hb dX9_ownWord_31 hl (by decide) rfl (fun ls hl => ?_)
            exact miss (fun h => hne (by rw [h.1])) ls 0 (lv_sub hl [1, 0, 2, 3, 4, 5, 6] rfl)
          · have hN : lnS.getD i 0 = N := nat_inj (by omega) (by omega) heq
            have inner : ∀ d k, k + d = N → (∀ j, j < k → σ 2 (S + j) = (ownWs.getD i []).getD j 0) → ∀ ls, lv_has ls 7 [(5, .int 1), (6, .int (Int32.ofNat k)), (4, .ref (adK i)), (3, .int (Int32.ofNat (i + 1))), (0, .ref (G.2.2.1 1)), (1, .int (Int32.ofNat S)), (2, .int (Int32.ofNat N))] → W p l e (headSpec (wsM OWN) (rmM OWN)).room s m (#[.ref (G.2.2.1 1), .int (Int32.ofNat S), .int (Int32.ofNat N)]) below meth c s.heap [] 0 0 (MQ below (QcA G (some (0, res)) σ) (#[.ref (G.2.2.1 1), .int (Int32.ofNat S), .int (Int32.ofNat N)]) s 0 0 (AA G)) (F0 m 33 ls []) := by
              intro d2
              induction d2 with
              | zero =>
                intro k hk hall ls hl
                have hkN : k = N := by omega
                subst hkN
                rw [if_pos ⟨hN, hall⟩] at hres
                refine lv_iload hx hb dX9_ownWord_33 (lv_at hl 0 rfl) ?_
                refine lv_if_eq hx hb (tgt := 76) dX9_ownWord_35 rfl (fun h => absurd h (by decide)) (fun _ => ?_)
                refine lv_iload hx hb dX9_ownWord_38 (lv_at hl 1 rfl) ?_
                refine lv_iload_n hx hb dX9_ownWord_40 rfl (lv_at hl 6 rfl) ?_
                refine lv_icmp_ge hx hb (tgt := 76) dX9_ownWord_41 rfl (fun _ => ?_) (fun h => absurd ((nat_le (by omega) (by omega)).mpr (Nat.le_refl _)) h)
                refine lv_iload hx hb dX9_ownWord_76 (lv_at hl 0 rfl) ?_
                refine lv_if_eq hx hb (tgt := 83) dX9_ownWord_78 rfl (fun h => absurd h (by decide)) (fun _ => ?_)
                refine lv_iload_n hx hb dX9_ownWord_81 rfl (lv_at hl 3 rfl) ?_
                exact W.iret hx hb hr (fun t ht _ => fin _ (by rw [← hres]; exact n1.symm) (by rw [← hres]; exact n2) t ht) (fun q h => by cases h) dX9_ownWord_82
              | succ d2 ih2 =>
                intro k hk hall ls hl
                have hkl : k < lnS.getD i 0 := by omega
                obtain ⟨b1, b2⟩ := own_by i hi13 k hkl
                have eix : Int32.ofNat S + Int32.ofNat k = Int32.ofNat (S + k) := (Int32.ofNat_add S k).symm
                refine lv_iload hx hb dX9_ownWord_33 (lv_at hl 0 rfl) ?_
                refine lv_if_eq hx hb (tgt := 76) dX9_ownWord_35 rfl (fun h => absurd h (by decide)) (fun _ => ?_)
                refine lv_iload hx hb dX9_ownWord_38 (lv_at hl 1 rfl) ?_
                refine lv_iload_n hx hb dX9_ownWord_40 rfl (lv_at hl 6 rfl) ?_
                refine lv_icmp_ge hx hb (tgt := 76) dX9_ownWord_41 rfl (fun h => absurd ((nat_le (by omega) (by omega)).mp h) (by omega)) (fun _ => ?_)
                refine lv_aload_n hx hb dX9_ownWord_44 rfl (lv_at hl 4 rfl) ?_
                refine va_get (D := G.1) (own := RX9) (index := 47) hx hb hts (fun w hw => cl_in 7 (by decide) w hw) hown hK hP 1 hat1 (cl_at 7 (by decide)) 0 (by decide) (hts _ own_fl) (fun _ h9 => h9) (v := .ref (G.2.2.1 2)) rfl dX9_ownWord_45 ?_
                refine lv_iload_n hx hb dX9_ownWord_48 rfl (lv_at hl 5 rfl) ?_
                refine lv_iload hx hb dX9_ownWord_49 (lv_at hl 1 rfl) ?_
                refine lv_iadd hx hb dX9_ownWord_51 ?_
                rw [eix]
                refine va_iald hx hb hK hP 2 0 hat2 rfl (fun h => by rcases h with h | h; exact nat_nneg (by omega) h; rw [nat_clamp (by omega)] at h; omega) dX9_ownWord_52 ?_
                rw [nat_clamp (by omega)]
                refine lv_aload hx hb dX9_ownWord_53 (lv_at hl 2 rfl) ?_
                refine lv_iload hx hb dX9_ownWord_55 (lv_at hl 1 rfl) ?_
                refine qcall (va_runV (As := [.int (Int32.ofNat k)]) (rest := [.int (Int32.ofInt (σ 2 (S + k)))]) (b := adK i) (C := RJ0) ⟨hx, hb, hml, hown, hts⟩ (mt_charAt l adK adV (AA G) i k hi13 hkl) (cwV 1 hts (good_V (ow_in 16 rfl) (ow_in 17 rfl) (ow_in 18 rfl) (ow_in 7 rfl) (ow_in 19 rfl)) rfl rfl rfl ⟨rfl, by decide +kernel, by decide +kernel, by decide +kernel⟩ ⟨Nat.le_of_ble_eq_true rfl, Nat.le_of_ble_eq_true rfl⟩) ⟨blindS, vk_recv hS.1 hi13 va_S.rf, fun U hU hW => ⟨rfl, SX.warm hU hW hS⟩⟩ rfl rfl hl.1 rfl (lv_room (Nat.le_of_ble_eq_true rfl)) dX9_ownWord_57 ⟨Nat.zero_le _, Nat.zero_le _⟩) ?_
                refine lv_icmp_ne hx hb (tgt := 67) dX9_ownWord_60 rfl (fun hne => ?_) (fun heq2 => ?_)
                · refine lv_iconst hx hb (v := 0) dX9_ownWord_67 (by decide) ?_
                  refine lv_istore hx hb dX9_ownWord_68 hl (by decide) rfl (fun ls hl => ?_)
                  refine lv_iinc hx hb (k := 1) dX9_ownWord_70 hl rfl (k_inc k (by omega)) (by decide) rfl (fun ls hl => ?_)
                  refine lv_goto hx hb (tgt := 33) dX9_ownWord_73 rfl ?_
                  exact miss (fun h => hne (by rw [h.2 k (by omega)]; exact b1.symm)) ls _ (lv_sub hl [1, 0, 2, 3, 4, 5, 6] rfl)
                · refine lv_iconst hx hb (v := 1) dX9_ownWord_63 (by decide) ?_
                  refine lv_goto hx hb (tgt := 68) dX9_ownWord_64 rfl ?_
                  refine lv_istore hx hb dX9_ownWord_68 hl (by decide) rfl (fun ls hl => ?_)
                  refine lv_iinc hx hb (k := 1) dX9_ownWord_70 hl rfl (k_inc k (by omega)) (by decide) rfl (fun ls hl => ?_)
                  refine lv_goto hx hb (tgt := 33) dX9_ownWord_73 rfl ?_
                  refine ih2 (k + 1) (by omega) (fun j hj => ?_) ls (lv_sub hl [1, 0, 2, 3, 4, 5, 6] rfl)
                  by_cases hjk : j = k
                  · subst hjk
                    have h9 := congrArg Int32.toInt heq2
                    rw [hby, b1, b2] at h9
                    exact h9
                  · exact hall j (by omega)
            refine lv_iconst hx hb (v := 1) dX9_ownWord_23 (by decide) ?_
            refine lv_goto hx hb (tgt := 28) dX9_ownWord_24 rfl ?_
            refine lv_istore hx hb dX9_ownWord_28 hl (by decide) rfl (fun ls hl => ?_)
            refine lv_iconst hx hb (v := 0) dX9_ownWord_30 (by decide) ?_
            refine lv_istore hx hb dX9_ownWord_31 hl (by decide) rfl (fun ls hl => ?_)
            exact inner N 0 (by omega) (fun j hj => absurd hj (by omega)) ls (lv_sub hl [1, 0, 2, 3, 4, 5, 6] rfl)
      refine lv_iconst hx hb (v := 1) dX9_ownWord_0 (by decide) ?_
      refine lv_istore_n hx hb dX9_ownWord_1 rfl hl (by decide) rfl (fun ls hl => ?_)
      exact outer 13 0 rfl hres ls hl
    · cases hr
  · cases hr
