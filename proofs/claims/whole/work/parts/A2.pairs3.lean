/-! Each call of the law: acts. -/
theorem PP_feed (X : AX) {σ : AH} (hI : INV σ) (a1 : Int) (a2 : Int) (a3 : Int) (a4 : Int) (a5 : Int) : PP X 181 [(2, 0), (0, a1), (0, a2), (0, a3), (0, a4), (0, a5)] 2 [(2, 295), (0, a1), (0, a2), (0, a3), (0, a4), (0, a5)] σ := by
  obtain ⟨⟨l, b, np, nt, ns, L, C, w, tp, u, tl, oc, h⟩, hJ⟩ := hI
  refine pairG h hJ (fun ρ h => ?_)
  obtain ⟨r1, r2, r3, r4, r5⟩ := IV_R h
  obtain ⟨-, hLT, hNT, hPT, hFL, hA, hTp, hO, hM, -⟩ := id h
  have t3 := hTp.2.2.1
  by_cases ht : 1600 < tl + 20
  · exact pgE (K_feed0 X h a1 a2 a3 a4 a5 ht) (t_feed0 X a1 a2 a3 a4 a5 tl ht t3 ρ hTp.2.1) (fun K j hK => up2_nq _ (by omega))
  · exact pgE (K_feed1 X h a1 a2 a3 a4 a5 (by omega)) (t_feed1 X a1 a2 a3 a4 a5 tl (by omega) ρ hTp.2.1) (fun K j hK => by rw [mPut_fr _ _ _ _ _ (by omega), mPut_fr _ _ _ _ _ (by omega), mPut_fr _ _ _ _ _ (by omega), mPut_fr _ _ _ _ _ (by omega), mPut_fr _ _ _ _ _ (by omega)])
theorem PP_end (X : AX) {σ : AH} (hI : INV σ) (a1 : Int) : PP X 182 [(2, 0), (0, a1)] 3 [(2, 295), (0, a1)] σ := by
  obtain ⟨⟨l, b, np, nt, ns, L, C, w, tp, u, tl, oc, h⟩, hJ⟩ := hI
  refine pairG h hJ (fun ρ h => ?_)
  obtain ⟨r1, r2, r3, r4, r5⟩ := IV_R h
  obtain ⟨-, hLT, hNT, hPT, hFL, hA, hTp, hO, hM, -⟩ := id h
  by_cases hc : a1 < 0 ∨ ρ 295 1 < a1
  · exact pgE ((K_end X h a1).mono (fun r σ' q => ⟨(q.1 hc).1, (q.1 hc).2, q.2.2⟩)) ((t_end X a1 ρ).mono (fun r σ' q => q.1 hc)) (fun K j hK => up2_nq _ (by omega))
  · exact pgE ((K_end X h a1).mono (fun r σ' q => ⟨(q.2.1 hc).1, (q.2.1 hc).2, q.2.2⟩)) ((t_end X a1 ρ).mono (fun r σ' q => q.2 hc)) (fun K j hK => up2_nq _ (by omega))
theorem PP_hire (X : AX) {σ : AH} (hI : INV σ) (a1 : Int) (z : Int) (hz : z = 0 ∨ z = 1) : PP X 190 [(2, 0), (0, a1), (0, z)] 69 [(2, 295), (0, a1), (0, z)] σ := by
  obtain ⟨⟨l, b, np, nt, ns, L, C, w, tp, u, tl, oc, h⟩, hJ⟩ := hI
  refine pairG h hJ (fun ρ h => ?_)
  obtain ⟨r1, r2, r3, r4, r5⟩ := IV_R h
  obtain ⟨-, hLT, hNT, hPT, hFL, hA, hTp, hO, hM, -⟩ := id h
  by_cases hp : 0 ≤ a1 ∧ a1 < (np : Int)
  · obtain ⟨p, rfl⟩ : ∃ n : Nat, a1 = (n : Int) := ⟨a1.toNat, by omega⟩
    by_cases hc : ρ 314 (10 * b + p) = 0 ∨ (ρ 322 p = 1 ∧ z = 1) ∨ (¬ ρ 322 p = 1 ∧ z = 0)
    · exact pgE ((K_hire1 X h p z hz (by omega)).mono (fun r σ' q => ⟨(q.1 hc).1, (q.1 hc).2, q.2.2⟩)) ((t_hire1 X p z hz np ns u w ρ r1.1 r1.2 r2.1 r2.2 r4.1 r4.2 hA.1.2.2.2 hA.2.1.2.2 hA.1.2.2.1 hA.2.1.1 (by omega)).mono (fun r σ' q => q.1 hc)) (fun K j hK => up2_nq _ (by omega))
    · exact pgE ((K_hire1 X h p z hz (by omega)).mono (fun r σ' q => ⟨(q.2.1 hc).1, (q.2.1 hc).2, q.2.2⟩)) ((t_hire1 X p z hz np ns u w ρ r1.1 r1.2 r2.1 r2.2 r4.1 r4.2 hA.1.2.2.2 hA.2.1.2.2 hA.1.2.2.1 hA.2.1.1 (by omega)).mono (fun r σ' q => q.2 hc)) (fun K j hK => by rw [up2_nq _ (by omega)]; exact mKeep_fr _ _ _ _ _ (by omega))
  · exact pgE (K_hire0 X h a1 z hp) (t_hire0 X a1 z np ns u w ρ r1.1 r1.2 r2.1 r2.2 r4.1 r4.2 hA.1.2.2.2 hA.2.1.2.2 hA.1.2.2.1 hA.2.1.1 hp) (fun K j hK => up2_nq _ (by omega))
theorem PP_wish (X : AX) {σ : AH} (hI : INV σ) (a1 : Int) (a2 : Int) : PP X 191 [(2, 0), (0, a1), (0, a2)] 70 [(2, 295), (0, a1), (0, a2)] σ := by
  obtain ⟨⟨l, b, np, nt, ns, L, C, w, tp, u, tl, oc, h⟩, hJ⟩ := hI
  refine pairG h hJ (fun ρ h => ?_)
  obtain ⟨r1, r2, r3, r4, r5⟩ := IV_R h
  obtain ⟨-, hLT, hNT, hPT, hFL, hA, hTp, hO, hM, -⟩ := id h
  by_cases hp : 0 ≤ a1 ∧ a1 < (np : Int)
  · obtain ⟨p, rfl⟩ : ∃ n : Nat, a1 = (n : Int) := ⟨a1.toNat, by omega⟩
    by_cases hs : 0 ≤ a2 ∧ a2 < (ns : Int)
    · skip
      by_cases hc : ρ 321 p = a2
      · exact pgE ((K_wish2 X h p a2 (by omega) hs).mono (fun r σ' q => ⟨(q.1 hc).1, (q.1 hc).2, q.2.2⟩)) ((t_wish1 X p a2 np ns u w ρ r1.1 r1.2 r2.1 r2.2 r4.1 r4.2 hA.1.2.2.2 hA.2.1.2.2 hA.1.2.2.1 hA.2.1.1 (by omega) hs).mono (fun r σ' q => q.1 hc)) (fun K j hK => up2_nq _ (by omega))
      · exact pgE ((K_wish2 X h p a2 (by omega) hs).mono (fun r σ' q => ⟨(q.2.1 hc).1, (q.2.1 hc).2, q.2.2⟩)) ((t_wish1 X p a2 np ns u w ρ r1.1 r1.2 r2.1 r2.2 r4.1 r4.2 hA.1.2.2.2 hA.2.1.2.2 hA.1.2.2.1 hA.2.1.1 (by omega) hs).mono (fun r σ' q => q.2 hc)) (fun K j hK => by rw [up2_nq _ (by omega)]; exact mKeep_fr _ _ _ _ _ (by omega))
    · exact pgE (K_wish1 X h p a2 (by omega) hs) (t_wish0 X ((p : Nat) : Int) a2 np ns u w ρ r1.1 r1.2 r2.1 r2.2 r4.1 r4.2 hA.1.2.2.2 hA.2.1.2.2 hA.1.2.2.1 hA.2.1.1 (Or.inr hs)) (fun K j hK => up2_nq _ (by omega))
  · exact pgE (K_wish0 X h a1 a2 hp) (t_wish0 X a1 a2 np ns u w ρ r1.1 r1.2 r2.1 r2.2 r4.1 r4.2 hA.1.2.2.2 hA.2.1.2.2 hA.1.2.2.1 hA.2.1.1 (Or.inl hp)) (fun K j hK => up2_nq _ (by omega))
theorem PP_move (X : AX) {σ : AH} (hI : INV σ) (a1 : Int) (a2 : Int) : PP X 192 [(2, 0), (0, a1), (0, a2)] 71 [(2, 295), (0, a1), (0, a2)] σ := by
  obtain ⟨⟨l, b, np, nt, ns, L, C, w, tp, u, tl, oc, h⟩, hJ⟩ := hI
  refine pairG h hJ (fun ρ h => ?_)
  obtain ⟨r1, r2, r3, r4, r5⟩ := IV_R h
  obtain ⟨-, hLT, hNT, hPT, hFL, hA, hTp, hO, hM, -⟩ := id h
  by_cases hp : 0 ≤ a1 ∧ a1 < (np : Int)
  · obtain ⟨p, rfl⟩ : ∃ n : Nat, a1 = (n : Int) := ⟨a1.toNat, by omega⟩
    by_cases hs : 0 ≤ a2 ∧ a2 < (ns : Int)
    · skip
      by_cases hc : ρ 320 p = a2
      · exact pgE ((K_move2 X h p a2 (by omega) hs).mono (fun r σ' q => ⟨(q.1 hc).1, (q.1 hc).2, q.2.2⟩)) ((t_move1 X p a2 np ns u w ρ r1.1 r1.2 r2.1 r2.2 r4.1 r4.2 hA.1.2.2.2 hA.2.1.2.2 hA.1.2.2.1 hA.2.1.1 (by omega) hs).mono (fun r σ' q => q.1 hc)) (fun K j hK => up2_nq _ (by omega))
      · exact pgE ((K_move2 X h p a2 (by omega) hs).mono (fun r σ' q => ⟨(q.2.1 hc).1, (q.2.1 hc).2, q.2.2⟩)) ((t_move1 X p a2 np ns u w ρ r1.1 r1.2 r2.1 r2.2 r4.1 r4.2 hA.1.2.2.2 hA.2.1.2.2 hA.1.2.2.1 hA.2.1.1 (by omega) hs).mono (fun r σ' q => q.2 hc)) (fun K j hK => by rw [up2_nq _ (by omega)]; exact mKeep_fr _ _ _ _ _ (by omega))
    · exact pgE (K_move1 X h p a2 (by omega) hs) (t_move0 X ((p : Nat) : Int) a2 np ns u w ρ r1.1 r1.2 r2.1 r2.2 r4.1 r4.2 hA.1.2.2.2 hA.2.1.2.2 hA.1.2.2.1 hA.2.1.1 (Or.inr hs)) (fun K j hK => up2_nq _ (by omega))
  · exact pgE (K_move0 X h a1 a2 hp) (t_move0 X a1 a2 np ns u w ρ r1.1 r1.2 r2.1 r2.2 r4.1 r4.2 hA.1.2.2.2 hA.2.1.2.2 hA.1.2.2.1 hA.2.1.1 (Or.inl hp)) (fun K j hK => up2_nq _ (by omega))
theorem PP_day (X : AX) {σ : AH} (hI : INV σ) : PP X 193 [(2, 0)] 72 [(2, 295), (9, 0)] σ := by
  obtain ⟨⟨l, b, np, nt, ns, L, C, w, tp, u, tl, oc, h⟩, hJ⟩ := hI
  refine pairG h hJ (fun ρ h => ?_)
  obtain ⟨r1, r2, r3, r4, r5⟩ := IV_R h
  obtain ⟨-, hLT, hNT, hPT, hFL, hA, hTp, hO, hM, -⟩ := id h
  exact pgE (K_day X h) (t_day X np nt u w L ρ r1.1 r1.2 r2.1 r2.2 r3.1 r3.2 r5 hA.1.2.2.2 hA.2.1.2.2 hA.1.2.2.1 hA.2.1.1) (fun K j hK => by rw [mAtN_fr _ _ _ _ (by omega), mDay_fr _ _ _ _ _ _ _ _ (by omega), mKeep_fr _ _ _ _ _ (by omega)])
theorem PP_years (X : AX) {σ : AH} (hI : INV σ) (a1 : Int) : PP X 194 [(2, 0), (0, a1)] 76 [(2, 295), (0, a1), (9, 0), (9, 0)] σ := by
  obtain ⟨⟨l, b, np, nt, ns, L, C, w, tp, u, tl, oc, h⟩, hJ⟩ := hI
  refine pairG h hJ (fun ρ h => ?_)
  obtain ⟨r1, r2, r3, r4, r5⟩ := IV_R h
  obtain ⟨-, hLT, hNT, hPT, hFL, hA, hTp, hO, hM, -⟩ := id h
  obtain ⟨yr, hyr⟩ : ∃ yr : Nat, ρ 316 0 = (yr : Int) := ⟨(ρ 316 0).toNat, by have := hPT.2.1.2; omega⟩
  have hyr2 : yr ≤ 9999 := by have := hPT.2.1.2; omega
  by_cases hn : ¬ (1 ≤ a1 ∧ a1 ≤ 40) ∨ 9999 < (yr : Int) + a1
  · exact pgE (K_years0 X h a1 (by rw [hyr]; exact hn)) (t_years0 X a1 yr ρ hyr hyr2 hn) (fun K j hK => up2_nq _ (by omega))
  · obtain ⟨m, rfl⟩ : ∃ n : Nat, a1 = (n : Int) := ⟨a1.toNat, by omega⟩
    exact pgE (K_years1 X h m yr (by omega) (by omega) hyr (by omega)) (t_years1 X m yr (by omega) (by omega) u w np nt L ρ r1.1 r1.2 r2.1 r2.2 r3.1 r3.2 r5 hA.1.2.2.2 hA.2.1.2.2 hA.1.2.2.1 hA.2.1.1 hyr (by omega)) (fun K j hK => by rw [mYrs_fr _ _ _ _ _ _ _ _ (by omega), mKeep_fr _ _ _ _ _ (by omega)])
theorem PP_undo (X : AX) {σ : AH} (hI : INV σ) : PP X 195 [(2, 0)] 44 [(2, 295)] σ := by
  obtain ⟨⟨l, b, np, nt, ns, L, C, w, tp, u, tl, oc, h⟩, hJ⟩ := hI
  refine pairG h hJ (fun ρ h => ?_)
  obtain ⟨r1, r2, r3, r4, r5⟩ := IV_R h
  obtain ⟨-, hLT, hNT, hPT, hFL, hA, hTp, hO, hM, -⟩ := id h
  by_cases hw0 : w = 0
  · exact pgE (K_undo0 X h hw0) (t_undo0 X ρ (by rw [hA.1.2.2.1, hw0]; rfl)) (fun K j hK => up2_nq _ (by omega))
  · exact pgE (K_undo1 X h (by omega)) (t_undo1 X u w ρ hA.1.2.2.2 hA.2.1.2.2 hA.1.2.2.1 hA.2.1.1 (by omega)) (fun K j hK => by rw [cpN_fr _ _ _ _ _ _ (by omega), up2_nq _ (by omega)])
theorem PP_seed (X : AX) {σ : AH} (hI : INV σ) (a1 : Int) (ha1 : a1 < 2147483648) : PP X 196 [(2, 0), (0, a1)] 77 [(2, 295), (0, a1)] σ := by
  obtain ⟨⟨l, b, np, nt, ns, L, C, w, tp, u, tl, oc, h⟩, hJ⟩ := hI
  refine pairG h hJ (fun ρ h => ?_)
  obtain ⟨r1, r2, r3, r4, r5⟩ := IV_R h
  obtain ⟨-, hLT, hNT, hPT, hFL, hA, hTp, hO, hM, -⟩ := id h
  by_cases hc : a1 < 0
  · exact pgE ((K_seed X h a1 ha1).mono (fun r σ' q => ⟨(q.1 hc).1, (q.1 hc).2, q.2.2⟩)) ((t_seed X a1 ρ).mono (fun r σ' q => q.1 hc)) (fun K j hK => up2_nq _ (by omega))
  · obtain ⟨n, rfl⟩ : ∃ n : Nat, a1 = (n : Int) := ⟨a1.toNat, by omega⟩
    exact pgE ((K_seed X h ((n : Nat) : Int) ha1).mono (fun r σ' q => ⟨(q.2.1 hc).1, (q.2.1 hc).2, q.2.2⟩)) ((t_seed X ((n : Nat) : Int) ρ).mono (fun r σ' q => ⟨(q.2 hc).1, by rw [(q.2 hc).2, bI2l_n (by omega)]⟩)) (fun K j hK => up2_nq _ (by omega))
theorem PP_hiring (X : AX) {σ : AH} (hI : INV σ) (a1 : Int) (ha1 : -2147483648 ≤ a1 ∧ a1 < 2147483648) : PP X 203 [(2, 0), (0, a1)] 97 [(2, 295), (0, a1), (9, 0), (9, 0)] σ := by
  obtain ⟨⟨l, b, np, nt, ns, L, C, w, tp, u, tl, oc, h⟩, hJ⟩ := hI
  refine pairG h hJ (fun ρ h => ?_)
  obtain ⟨r1, r2, r3, r4, r5⟩ := IV_R h
  obtain ⟨-, hLT, hNT, hPT, hFL, hA, hTp, hO, hM, -⟩ := id h
  by_cases hz : mCanC ρ b np a1
  · by_cases hs : mSame ρ a1 np = 1
    · exact pgE ((K_hiring1 X h a1 ha1 hz).mono (fun r σ' q => ⟨(q.1 hs).1, (q.1 hs).2, q.2.2⟩)) ((t_hiring1 X a1 np u w ρ r1.1 r1.2 r2.1 r2.2 hA.1.2.2.2 hA.2.1.2.2 hA.1.2.2.1 hA.2.1.1 hz).mono (fun r σ' q => q.1 hs)) (fun K j hK => rfl)
    · exact pgE ((K_hiring1 X h a1 ha1 hz).mono (fun r σ' q => ⟨(q.2.1 hs).1, (q.2.1 hs).2, q.2.2⟩)) ((t_hiring1 X a1 np u w ρ r1.1 r1.2 r2.1 r2.2 hA.1.2.2.2 hA.2.1.2.2 hA.1.2.2.1 hA.2.1.1 hz).mono (fun r σ' q => q.2 hs)) (fun K j hK => by rw [mHN_fr _ _ _ _ _ (by omega), mKeep_fr _ _ _ _ _ (by omega)])
  · exact pgE (K_hiring0 X h a1 ha1 hz) (t_hiring0 X a1 np u w ρ r1.1 r1.2 r2.1 r2.2 hA.1.2.2.2 hA.2.1.2.2 hA.1.2.2.1 hA.2.1.1 hz) (fun K j hK => up2_nq _ (by omega))
theorem PP_image (X : AX) {σ : AH} (hI : INV σ) : PP X 215 [(2, 0), (9, 0), (9, 0)] 106 [(2, 295), (9, 0), (9, 0)] σ := by
  obtain ⟨⟨l, b, np, nt, ns, L, C, w, tp, u, tl, oc, h⟩, hJ⟩ := hI
  refine pairG h hJ (fun ρ h => ?_)
  obtain ⟨r1, r2, r3, r4, r5⟩ := IV_R h
  obtain ⟨-, hLT, hNT, hPT, hFL, hA, hTp, hO, hM, -⟩ := id h
  exact pgE ((K_image X h).mono (fun r σ' q => ⟨q.1, ⟨_, _, _, _, _, _, _, _, _, _, _, _, q.2.1⟩, q.2.2⟩)) (t_image X np ρ r1.1 r1.2 r2.1 r2.2) (fun K j hK => by rw [mWr_fr _ _ _ _ _ (by omega), mImP_fr _ _ _ _ (by omega)]; unfold imR; rw [mWr_fr _ _ _ _ _ (by omega), mWr_fr _ _ _ _ _ (by omega), up2_nq _ (by omega)])
theorem PP_on (X : AX) {σ : AH} (hI : INV σ) : PP X 217 [(2, 0), (9, 0)] 110 [(2, 295), (9, 0), (9, 0), (9, 0)] σ := by
  obtain ⟨⟨l, b, np, nt, ns, L, C, w, tp, u, tl, oc, h⟩, hJ⟩ := hI
  refine pairG h hJ (fun ρ h => ?_)
  obtain ⟨r1, r2, r3, r4, r5⟩ := IV_R h
  obtain ⟨-, hLT, hNT, hPT, hFL, hA, hTp, hO, hM, -⟩ := id h
  have hlow : ∀ K j, K < 295 → up2 (up2 ρ 295 1 0) 315 5 (aAdd (ρ 315 5) 1) K j = ρ K j := fun K j hK => by rw [up2_nq _ (by omega), up2_nq _ (by omega)]
  by_cases htl : tl = 3 + 6 * np
  · by_cases hi : mImgC ρ b np ns tl
    · exact pgE (K_on1 X h htl hi) (t_on1 X tl np ns ρ r1.1 r1.2 r2.1 r2.2 r4.1 r4.2 hTp.2.1 ((on_iff _ _ _ _ _).mpr hi)) (fun K j hK => by rw [up2_nq _ (by omega), mOnP_fr _ _ _ _ (by omega), up2_nq _ (by omega), up2_nq _ (by omega)])
    · exact pgE (K_on0b X h htl hi) (t_on0 X tl np ns ρ r1.1 r1.2 r2.1 r2.2 r4.1 r4.2 hTp.2.1 (fun q => hi ((on_iff _ _ _ _ _).mp q))) hlow
  · exact pgE (K_on0a X h htl) (t_on0 X tl np ns ρ r1.1 r1.2 r2.1 r2.2 r4.1 r4.2 hTp.2.1 (fun q => htl q.1)) hlow
theorem PP_line (X : AX) {σ : AH} (hI : INV σ) : PP X 183 [(2, 0), (9, 0)] 29 [(2, 295), (9, 0)] σ := by
  obtain ⟨⟨l, b, np, nt, ns, L, C, w, tp, u, tl, oc, h⟩, hJ⟩ := hI
  refine (TT.all (P := fun ρ : AH => ∀ K j, 295 ≤ K → ρ K j = σ K j) σ (fun _ _ _ => rfl) (fun ρ hρ => K_line X (IV_r h hρ) hJ)).mono (fun r σ1 hq => ?_)
  obtain ⟨-, -, -, -, hQ, -, -⟩ := hq σ (fun _ _ _ => rfl)
  obtain ⟨ρ1, ⟨z, g0⟩, g2, g1, -, g5, g3⟩ := hq σ1 hQ
  refine g2.mono (fun r2 σ2 hq2 => ⟨⟨z, g0, hq2.1.trans g0⟩, ?_⟩)
  rw [hq2.2]
  obtain ⟨l', b', np', nt', ns', L', C', w', tp', u', tl', oc', g4⟩ := g1
  refine ⟨⟨l', b', np', nt', ns', L', C', w', tp', u', tl', oc', IV_l g4 g3⟩, JJ_mv hJ (fun K j a c => ?_)⟩
  rw [g3 K j (by omega)]
  rcases a with rfl | rfl
  · exact (g5 j c).1
  · exact (g5 j c).2
