/-! Each call of the law: days that would be, whom to hire. -/
theorem RSj {ρ ρ' : AH} (h : RS ρ ρ' ∧ ∀ K j, K < 295 → ρ' K j = ρ K j) (b np nt : Nat) (L : Nat → Nat) (j0 : Nat) (hj0 : j0 ≠ 46) (x : Int) (e : ρ 295 j0 = -1) : RS ρ (up2 (mDay (up2 ρ' 295 j0 x) b 0 np nt L) 295 j0 (-1)) ∧ ∀ K j, K < 295 → up2 (mDay (up2 ρ' 295 j0 x) b 0 np nt L) 295 j0 (-1) K j = ρ K j := by
  refine ⟨⟨fun K j hK => ?_, fun j hj => ?_, fun j hj => ?_, fun K j hK hj => ?_⟩, fun K j hK => ?_⟩
  · rw [up2_nq _ (by omega), mDay_fr _ _ _ _ _ _ _ _ (by omega), up2_nq _ (by omega)]; exact h.1.1 K j hK
  · by_cases q : j = j0
    · subst q; rw [up2_hit, e]
    · rw [up2_nq _ (by omega), mDay_5 _ _ _ _ _ _ _ hj, up2_nq _ (by omega)]; exact h.1.2.1 j hj
  · rw [up2_nq _ (by omega), mDay_fr _ _ _ _ _ _ _ _ (by omega), up2_nq _ (by omega)]; exact h.1.2.2.1 j hj
  · rw [up2_nq _ (by omega), mDay_fr _ _ _ _ _ _ _ _ (by omega), up2_nq _ (by omega)]; exact h.1.2.2.2 K j hK hj
  · rw [up2_nq _ (by omega), mDay_fr _ _ _ _ _ _ _ _ (by omega), up2_nq _ (by omega)]; exact h.2 K j hK
theorem PP_worth (X : AX) {σ : AH} (hI : INV σ) (a1 : Int) : PP X 204 [(2, 0), (0, a1), (9, 0)] 98 [(2, 295), (0, a1), (9, 0), (9, 0)] σ := by
  obtain ⟨⟨l, b, np, nt, ns, L, C, w, tp, u, tl, oc, h⟩, hJ⟩ := hI
  refine pairG h hJ (fun ρ h => ?_)
  obtain ⟨r1, r2, r3, r4, r5⟩ := IV_R h
  obtain ⟨-, hLT, hNT, hPT, hFL, hA, hTp, hO, hM, -⟩ := id h
  by_cases hp : 0 ≤ a1 ∧ a1 < (np : Int)
  · obtain ⟨p, rfl⟩ : ∃ n : Nat, a1 = (n : Int) := ⟨a1.toNat, by omega⟩
    exact pgQ h (K_worth1 X h p (by omega)) (t_worth1 X p np nt L ρ r1.1 r1.2 r2.1 r2.2 r3.1 r3.2 r5 (by omega)) (RSj (RSd ρ b np nt L) b np nt L 44 (by decide) _ hFL.1)
  · exact pgQ h (K_worth0 X h a1 hp) (t_worth0 X a1 np nt L ρ r1.1 r1.2 r2.1 r2.2 r3.1 r3.2 r5 hp) (RSid ρ)
theorem PP_stay (X : AX) {σ : AH} (hI : INV σ) (a1 : Int) : PP X 206 [(2, 0), (0, a1)] 100 [(2, 295), (0, a1), (9, 0)] σ := by
  obtain ⟨⟨l, b, np, nt, ns, L, C, w, tp, u, tl, oc, h⟩, hJ⟩ := hI
  refine pairG h hJ (fun ρ h => ?_)
  obtain ⟨r1, r2, r3, r4, r5⟩ := IV_R h
  obtain ⟨-, hLT, hNT, hPT, hFL, hA, hTp, hO, hM, -⟩ := id h
  by_cases hp : 0 ≤ a1 ∧ a1 < (np : Int)
  · obtain ⟨p, rfl⟩ : ∃ n : Nat, a1 = (n : Int) := ⟨a1.toNat, by omega⟩
    exact pgQ h (K_stay1 X h p (by omega)) (t_stay1 X p np nt L ρ r1.1 r1.2 r2.1 r2.2 r3.1 r3.2 r5 (by omega)) (RSj (RSid ρ) b np nt L 45 (by decide) _ hFL.2.1)
  · exact pgQ h (K_stay0 X h a1 hp) (t_stay0 X a1 np nt L ρ r1.1 r1.2 r2.1 r2.2 r3.1 r3.2 r5 hp) (RSid ρ)
theorem PP_bear (X : AX) {σ : AH} (hI : INV σ) (a1 : Int) (a2 : Int) : PP X 205 [(2, 0), (0, a1), (0, a2), (9, 0), (9, 0), (9, 0), (9, 0)] 99 [(2, 295), (0, a1), (0, a2), (9, 0), (9, 0), (9, 0), (9, 0)] σ := by
  obtain ⟨⟨l, b, np, nt, ns, L, C, w, tp, u, tl, oc, h⟩, hJ⟩ := hI
  refine pairG h hJ (fun ρ h => ?_)
  obtain ⟨r1, r2, r3, r4, r5⟩ := IV_R h
  obtain ⟨-, hLT, hNT, hPT, hFL, hA, hTp, hO, hM, -⟩ := id h
  by_cases hp : 0 ≤ a1 ∧ a1 < (np : Int)
  · obtain ⟨p, rfl⟩ : ∃ n : Nat, a1 = (n : Int) := ⟨a1.toNat, by omega⟩
    by_cases hw : 0 ≤ a2 ∧ a2 ≤ 1
    · obtain ⟨r0, σ0, hq0, -⟩ := TT.ex (K_bear1 X h p a2 (by omega) hw)
      exact pgQ h ((K_bear1 X h p a2 (by omega) hw).mono (fun r σ' q => ⟨q.1, q.2.1⟩)) (t_bear1 X p a2 hw np nt L ρ r1.1 r1.2 r2.1 r2.2 r3.1 r3.2 r5 ns r4.1 r4.2 (by omega)) ⟨hq0.2.2, fun K j hK => mBe_fr _ _ _ _ _ _ _ _ _ (by omega)⟩
    · exact pgQ h (K_bearN X h p a2 (by omega) hw) (t_bear0 X ((p : Nat) : Int) a2 np nt L ρ r1.1 r1.2 r2.1 r2.2 r3.1 r3.2 r5 ns r4.1 r4.2 (Or.inr hw)) (RSid ρ)
  · exact pgQ h (K_bear0 X h a1 a2 hp) (t_bear0 X a1 a2 np nt L ρ r1.1 r1.2 r2.1 r2.2 r3.1 r3.2 r5 ns r4.1 r4.2 (Or.inl hp)) (RSid ρ)
theorem PP_settles (X : AX) {σ : AH} (hI : INV σ) (a1 : Int) : PP X 213 [(2, 0), (0, a1), (9, 0), (9, 0), (9, 0), (9, 0), (9, 0)] 87 [(2, 295), (0, a1), (9, 0), (9, 0), (9, 0), (9, 0), (9, 0), (9, 0), (9, 0)] σ := by
  obtain ⟨⟨l, b, np, nt, ns, L, C, w, tp, u, tl, oc, h⟩, hJ⟩ := hI
  refine pairG h hJ (fun ρ h => ?_)
  obtain ⟨r1, r2, r3, r4, r5⟩ := IV_R h
  obtain ⟨-, hLT, hNT, hPT, hFL, hA, hTp, hO, hM, -⟩ := id h
  by_cases hw : 0 ≤ a1 ∧ a1 ≤ 3
  · obtain ⟨r0, σ0, hq0, -⟩ := TT.ex (K_settles1 X h a1 hw)
    exact pgQ h ((K_settles1 X h a1 hw).mono (fun r σ' q => ⟨q.1, q.2.1⟩)) (t_settles1 X a1 hw np nt L ρ r1.1 r1.2 r2.1 r2.2 r3.1 r3.2 r5) ⟨hq0.2.2, fun K j hK => (seF_fr b np nt L K j (by omega) 30 _).trans (cpN_fr _ _ _ _ _ _ (by omega))⟩
  · exact pgQ h (K_settles0 X h a1 hw) (t_settles0 X a1 np nt L ρ r1.1 r1.2 r2.1 r2.2 r3.1 r3.2 r5 hw) (RSid ρ)
theorem PP_runs (X : AX) {σ : AH} (hI : INV σ) (a1 : Int) (a2 : Int) (a3 : Int) (a4 : Int) : PP X 209 [(2, 0), (0, a1), (0, a2), (0, a3), (0, a4), (9, 0), (9, 0), (9, 0)] 104 [(2, 295), (0, a1), (0, a2), (0, a3), (0, a4), (9, 0), (9, 0), (9, 0), (9, 0)] σ := by
  obtain ⟨⟨l, b, np, nt, ns, L, C, w, tp, u, tl, oc, h⟩, hJ⟩ := hI
  refine pairG h hJ (fun ρ h => ?_)
  obtain ⟨r1, r2, r3, r4, r5⟩ := IV_R h
  obtain ⟨-, hLT, hNT, hPT, hFL, hA, hTp, hO, hM, -⟩ := id h
  by_cases hc : (1 ≤ a1 ∧ a1 ≤ 20) ∧ (1 ≤ a2 ∧ a2 ≤ 20) ∧ (0 ≤ a3 ∧ a3 < (ns : Int)) ∧ (0 ≤ a4 ∧ a4 ≤ 1)
  · obtain ⟨c1, c2, c3, c4⟩ := hc
    obtain ⟨m, rfl⟩ : ∃ n : Nat, a1 = (n : Int) := ⟨a1.toNat, by omega⟩
    obtain ⟨ys, rfl⟩ : ∃ n : Nat, a2 = (n : Int) := ⟨a2.toNat, by omega⟩
    exact pgE (K_runs1 X h m ys (by omega) (by omega) a3 a4 c3 c4) (t_runs1 X m ys (by omega) (by omega) a3 a4 c4 np nt L ρ r1.1 r1.2 r2.1 r2.2 r3.1 r3.2 r5 ns r4.1 r4.2 c3) (fun K j hK => ruF_fr _ _ _ _ _ _ _ _ _ _ (by omega))
  · exact pgQ h (K_runs0 X h a1 a2 a3 a4 (by omega)) (t_runs0 X a1 a2 a3 a4 np nt L ρ r1.1 r1.2 r2.1 r2.2 r3.1 r3.2 r5 ns r4.1 r4.2 (by omega)) (RSid ρ)
theorem PP_least (X : AX) {σ : AH} (hI : INV σ) (a1 : Int) (a2 : Int) : PP X 200 [(2, 0), (0, a1), (0, a2)] 92 [(2, 295), (0, a1), (0, a2), (9, 0), (9, 0), (9, 0)] σ := by
  obtain ⟨⟨l, b, np, nt, ns, L, C, w, tp, u, tl, oc, h⟩, hJ⟩ := hI
  refine pairG h hJ (fun ρ h => ?_)
  obtain ⟨r1, r2, r3, r4, r5⟩ := IV_R h
  obtain ⟨-, hLT, hNT, hPT, hFL, hA, hTp, hO, hM, -⟩ := id h
  by_cases hp : 0 ≤ a1 ∧ a1 < (np : Int)
  · obtain ⟨p, rfl⟩ : ∃ n : Nat, a1 = (n : Int) := ⟨a1.toNat, by omega⟩
    by_cases hw : 0 ≤ a2 ∧ a2 ≤ 1
    · exact pgI (K_least1 X h p a2 (by omega) hw) (t_least1 X p a2 hw np nt L ρ r1.1 r1.2 r2.1 r2.2 r3.1 r3.2 r5 (by omega)) (fun K j hK => mLs_fr _ _ _ _ _ _ _ _ _ (by omega))
    · exact pgQ h (K_leastN X h p a2 (by omega) hw) (t_least0 X ((p : Nat) : Int) a2 np nt L ρ r1.1 r1.2 r2.1 r2.2 r3.1 r3.2 r5 (Or.inr hw)) (RSid ρ)
  · exact pgQ h (K_least0 X h a1 a2 hp) (t_least0 X a1 a2 np nt L ρ r1.1 r1.2 r2.1 r2.2 r3.1 r3.2 r5 (Or.inl hp)) (RSid ρ)
theorem PP_both (X : AX) {σ : AH} (hI : INV σ) (a1 : Int) (a2 : Int) (a3 : Int) : PP X 214 [(2, 0), (0, a1), (0, a2), (0, a3)] 93 [(2, 295), (0, a1), (0, a2), (0, a3), (9, 0), (9, 0), (9, 0)] σ := by
  obtain ⟨⟨l, b, np, nt, ns, L, C, w, tp, u, tl, oc, h⟩, hJ⟩ := hI
  refine pairG h hJ (fun ρ h => ?_)
  obtain ⟨r1, r2, r3, r4, r5⟩ := IV_R h
  obtain ⟨-, hLT, hNT, hPT, hFL, hA, hTp, hO, hM, -⟩ := id h
  by_cases hp : 0 ≤ a1 ∧ a1 < (np : Int)
  · by_cases hq : 0 ≤ a2 ∧ a2 < (np : Int)
    · by_cases hpq : a1 = a2
      · exact pgQ h (K_both0c X h a1 a2 a3 hp hq hpq) (t_both0 X a1 a2 a3 np nt L ρ r1.1 r1.2 r2.1 r2.2 r3.1 r3.2 r5 (Or.inr (Or.inr (Or.inl hpq)))) (RSid ρ)
      · obtain ⟨p, rfl⟩ : ∃ n : Nat, a1 = (n : Int) := ⟨a1.toNat, by omega⟩
        obtain ⟨q, rfl⟩ : ∃ n : Nat, a2 = (n : Int) := ⟨a2.toNat, by omega⟩
        by_cases hw : 0 ≤ a3 ∧ a3 ≤ 1
        · exact pgI (K_both1 X h p q a3 (by omega) (by omega) (by omega) hw) (t_both1 X p q (by omega) a3 hw np nt L ρ r1.1 r1.2 r2.1 r2.2 r3.1 r3.2 r5 (by omega) (by omega)) (fun K j hK => mBo_fr _ _ _ _ _ _ _ _ _ _ (by omega))
        · exact pgQ h (K_bothN X h p q a3 (by omega) (by omega) (by omega) hw) (t_both0 X ((p : Nat) : Int) ((q : Nat) : Int) a3 np nt L ρ r1.1 r1.2 r2.1 r2.2 r3.1 r3.2 r5 (Or.inr (Or.inr (Or.inr hw)))) (RSid ρ)
    · exact pgQ h (K_both0b X h a1 a2 a3 hp hq) (t_both0 X a1 a2 a3 np nt L ρ r1.1 r1.2 r2.1 r2.2 r3.1 r3.2 r5 (Or.inr (Or.inl hq))) (RSid ρ)
  · exact pgQ h (K_both0a X h a1 a2 a3 hp) (t_both0 X a1 a2 a3 np nt L ρ r1.1 r1.2 r2.1 r2.2 r3.1 r3.2 r5 (Or.inl hp)) (RSid ρ)
theorem PP_most (X : AX) {σ : AH} (hI : INV σ) (a1 : Int) : PP X 201 [(2, 0), (0, a1), (9, 0)] 94 [(2, 295), (0, a1), (9, 0), (9, 0), (9, 0), (9, 0), (9, 0)] σ := by
  obtain ⟨⟨l, b, np, nt, ns, L, C, w, tp, u, tl, oc, h⟩, hJ⟩ := hI
  refine pairG h hJ (fun ρ h => ?_)
  obtain ⟨r1, r2, r3, r4, r5⟩ := IV_R h
  obtain ⟨-, hLT, hNT, hPT, hFL, hA, hTp, hO, hM, -⟩ := id h
  by_cases hw : 0 ≤ a1 ∧ a1 ≤ 2
  · exact pgI (K_most1 X h a1 hw) (t_most1 X a1 hw np nt L ρ r1.1 r1.2 r2.1 r2.2 r3.1 r3.2 r5) (fun K j hK => mMo_fr _ _ _ _ _ _ _ _ (by omega))
  · exact pgI ((K_most0 X h a1 hw).mono (fun r σ' q => ⟨q.1, RS.refl ρ, q.2.1, q.2.2⟩)) (t_most0 X a1 np nt L ρ r1.1 r1.2 r2.1 r2.2 r3.1 r3.2 r5 hw) (fun K j hK => rfl)
theorem PP_places (X : AX) {σ : AH} (hI : INV σ) (a1 : Int) : PP X 202 [(2, 0), (0, a1), (9, 0)] 96 [(2, 295), (0, a1), (9, 0), (9, 0), (9, 0), (9, 0)] σ := by
  obtain ⟨⟨l, b, np, nt, ns, L, C, w, tp, u, tl, oc, h⟩, hJ⟩ := hI
  refine pairG h hJ (fun ρ h => ?_)
  obtain ⟨r1, r2, r3, r4, r5⟩ := IV_R h
  obtain ⟨-, hLT, hNT, hPT, hFL, hA, hTp, hO, hM, -⟩ := id h
  by_cases hw : 0 ≤ a1 ∧ a1 ≤ 2
  · exact pgI (K_places1 X h a1 hw) (t_places1 X a1 hw ns np nt L ρ r1.1 r1.2 r2.1 r2.2 r3.1 r3.2 r5 r4.1 r4.2) (fun K j hK => mPl_fr _ _ _ _ _ _ _ _ _ (by omega))
  · exact pgI ((K_places0 X h a1 hw).mono (fun r σ' q => ⟨q.1, RS.refl ρ, q.2.1, q.2.2⟩)) (t_places0 X a1 np nt L ρ r1.1 r1.2 r2.1 r2.2 r3.1 r3.2 r5 hw) (fun K j hK => rfl)
theorem PP_seen (X : AX) {σ : AH} (hI : INV σ) (a1 : Int) (a2 : Int) (a3 : Int) : PP X 207 [(2, 0), (0, a1), (0, a2), (0, a3), (9, 0), (9, 0), (9, 0), (9, 0)] 102 [(2, 295), (0, a1), (0, a2), (0, a3), (9, 0), (9, 0), (9, 0), (9, 0)] σ := by
  obtain ⟨⟨l, b, np, nt, ns, L, C, w, tp, u, tl, oc, h⟩, hJ⟩ := hI
  refine pairG h hJ (fun ρ h => ?_)
  obtain ⟨r1, r2, r3, r4, r5⟩ := IV_R h
  obtain ⟨-, hLT, hNT, hPT, hFL, hA, hTp, hO, hM, -⟩ := id h
  by_cases ht : 0 ≤ a1 ∧ a1 < (nt : Int)
  · obtain ⟨t, rfl⟩ : ∃ n : Nat, a1 = (n : Int) := ⟨a1.toNat, by omega⟩
    have ht2 : t < nt := by omega
    by_cases hc : csC a2 (L t)
    · exact pgQ h (K_seen1 X h t a2 a3 ht2 hc) ((t_seen1 X a2 a3 t np nt L ρ r1.1 r1.2 r2.1 r2.2 r3.1 r3.2 r5 ht2).mono (fun r σ' q => q.1 (Or.inr hc))) (RSid ρ)
    · by_cases hw : 0 ≤ a3 ∧ a3 ≤ 2
      · refine pgQ h (K_seen3 X h t a2 a3 ht2 hc hw) ((t_seen1 X a2 a3 t np nt L ρ r1.1 r1.2 r2.1 r2.2 r3.1 r3.2 r5 ht2).mono (fun r σ' q => ?_)) (RS46 ρ 0)
        obtain ⟨q1, q2⟩ := q.2 (fun hh => by rcases hh with hh | hh; (exact hh hw); exact hc hh)
        refine ⟨?_, q2⟩
        rw [q1, mSn_c (ρ := ρ) (fun K j hK => up2_nq _ (by omega))]
      · exact pgQ h (K_seen2 X h t a2 a3 ht2 hc hw) ((t_seen1 X a2 a3 t np nt L ρ r1.1 r1.2 r2.1 r2.2 r3.1 r3.2 r5 ht2).mono (fun r σ' q => q.1 (Or.inl hw))) (RSid ρ)
  · exact pgQ h (K_seen0 X h a1 a2 a3 ht) (t_seen0 X a1 a2 a3 np nt L ρ r1.1 r1.2 r2.1 r2.2 r3.1 r3.2 r5 ht) (RSid ρ)
theorem PP_letter (X : AX) {σ : AH} (hI : INV σ) (a1 : Int) (a2 : Int) (a3 : Int) : PP X 186 [(2, 0), (0, a1), (0, a2), (0, a3)] 65 [(2, 295), (0, a1), (0, a2), (0, a3), (9, 0), (9, 0), (9, 0), (9, 0), (9, 0)] σ := by
  obtain ⟨⟨l, b, np, nt, ns, L, C, w, tp, u, tl, oc, h⟩, hJ⟩ := hI
  refine pairG h hJ (fun ρ h => ?_)
  obtain ⟨r1, r2, r3, r4, r5⟩ := IV_R h
  obtain ⟨-, hLT, hNT, hPT, hFL, hA, hTp, hO, hM, -⟩ := id h
  by_cases hN : ¬ (0 ≤ a3 ∧ a3 ≤ 5) ∨ ¬ (0 ≤ a1 ∧ a1 ≤ 2) ∨ (a1 = 0 ∧ ¬ (0 ≤ a2 ∧ a2 < (ns : Int))) ∨ (a1 = 1 ∧ ¬ (0 ≤ a2 ∧ a2 < (nt : Int))) ∨ (a1 = 2 ∧ ¬ (0 ≤ a2 ∧ a2 < (np : Int)))
  · obtain ⟨M, hM, hM2, hM3⟩ : ∃ M : Nat, (if a1 = 0 then ρ 297 b else if a1 = 1 then ρ 300 b else ρ 307 b) = (M : Int) ∧ M ≤ 14 ∧ (a1 = 0 → M = ns) ∧ (a1 = 1 → M = nt) ∧ (a1 = 2 → M = np) := by
      by_cases e0 : a1 = 0
      · exact ⟨ns, by rw [if_pos e0]; exact r4.1, by omega, by omega⟩
      · by_cases e1 : a1 = 1
        · exact ⟨nt, by rw [if_neg e0, if_pos e1]; exact r3.1, by omega, by omega⟩
        · exact ⟨np, by rw [if_neg e0, if_neg e1]; exact r2.1, by omega, by omega⟩
    exact pgQ h (K_letterA X h a1 a2 a3 hN) (t_letterN X a1 a2 a3 M ρ r1.1 r1.2 hM hM2 (by omega)) (RSid ρ)
  · obtain ⟨wh, rfl⟩ : ∃ n : Nat, a2 = (n : Int) := ⟨a2.toNat, by omega⟩
    obtain ⟨k, rfl⟩ : ∃ n : Nat, a3 = (n : Int) := ⟨a3.toNat, by omega⟩
    have e : a1 = 0 ∨ a1 = 1 ∨ a1 = 2 := by omega
    rcases e with rfl | rfl | rfl
    · obtain ⟨r0, σ0, ⟨m, f, hm, hf, hw, hr, hq⟩, dt⟩ := TT.ex (K_letter0 X h wh k (by omega) (by omega))
      exact pgQ h (dt.mono (fun r σ' q => ⟨q.1.trans hr, by rw [q.2]; exact hq⟩)) (t_letterY X 0 wh k ns (by decide) m f hm.2 hf (by omega) (by omega) ⟨fun q => by first | omega | exact absurd q (by decide), fun q => by first | omega | exact absurd q (by decide), fun q => by first | omega | exact absurd q (by decide)⟩ ρ r1.1 r1.2 (by rw [if_pos rfl]; exact r4.1) (by omega) (by rw [if_pos rfl]; exact hw)) (RSid ρ)
    · obtain ⟨r0, σ0, ⟨m, f, hm, hf, hw, hr, hq⟩, dt⟩ := TT.ex (K_letter1 X h wh k (by omega) (by omega))
      exact pgQ h (dt.mono (fun r σ' q => ⟨q.1.trans hr, by rw [q.2]; exact hq⟩)) (t_letterY X 1 wh k nt (by decide) m f hm.2 hf (by omega) (by omega) ⟨fun q => by first | omega | exact absurd q (by decide), fun q => by first | omega | exact absurd q (by decide), fun q => by first | omega | exact absurd q (by decide)⟩ ρ r1.1 r1.2 (by rw [if_neg (by decide), if_pos rfl]; exact r3.1) (by omega) (by rw [if_neg (by decide), if_pos rfl]; exact hw)) (RSid ρ)
    · obtain ⟨r0, σ0, ⟨m, f, hm, hf, hw, hr, hq⟩, dt⟩ := TT.ex (K_letter2 X h wh k (by omega) (by omega))
      exact pgQ h (dt.mono (fun r σ' q => ⟨q.1.trans hr, by rw [q.2]; exact hq⟩)) (t_letterY X 2 wh k np (by decide) m f hm.2 hf (by omega) (by omega) ⟨fun q => by first | omega | exact absurd q (by decide), fun q => by first | omega | exact absurd q (by decide), fun q => by first | omega | exact absurd q (by decide)⟩ ρ r1.1 r1.2 (by rw [if_neg (by decide), if_neg (by decide)]; exact r2.1) (by omega) (by rw [if_neg (by decide), if_neg (by decide)]; exact hw)) (RSid ρ)
theorem PP_child (X : AX) {σ : AH} (hI : INV σ) (a1 : Int) (a2 : Int) (a3 : Int) : PP X 212 [(2, 0), (0, a1), (0, a2), (0, a3), (9, 0), (9, 0)] 85 [(2, 295), (0, a1), (0, a2), (0, a3), (9, 0)] σ := by
  obtain ⟨⟨l, b, np, nt, ns, L, C, w, tp, u, tl, oc, h⟩, hJ⟩ := hI
  refine pairG h hJ (fun ρ h => ?_)
  obtain ⟨r1, r2, r3, r4, r5⟩ := IV_R h
  obtain ⟨-, hLT, hNT, hPT, hFL, hA, hTp, hO, hM, -⟩ := id h
  by_cases hN : ¬ (0 ≤ a1 ∧ a1 < (np : Int)) ∨ ¬ (0 ≤ a2 ∧ a2 ≤ 9999) ∨ ¬ (0 ≤ a3 ∧ a3 ≤ 1)
  · exact pgQ h (K_childN X h a1 a2 a3 hN) (t_childN X a1 a2 a3 np nt L ρ r1.1 r1.2 r2.1 r2.2 r3.1 r3.2 r5 hN) (RSid ρ)
  · obtain ⟨p, rfl⟩ : ∃ n : Nat, a1 = (n : Int) := ⟨a1.toNat, by omega⟩
    obtain ⟨m, rfl⟩ : ∃ n : Nat, a2 = (n : Int) := ⟨a2.toNat, by omega⟩
    have e : a3 = 0 ∨ a3 = 1 := by omega
    rcases e with rfl | rfl
    · obtain ⟨r0, σ0, ⟨hq, hc⟩, dt⟩ := TT.ex (K_child0 X h p m (by omega) (by omega))
      rcases hc with ⟨g1, g2⟩ | ⟨t, x, g1, g2, g3, g4, g5, g6⟩
      · exact pgQ h (dt.mono (fun r σ' q => ⟨q.1.trans g2, by rw [q.2]; exact hq⟩)) (t_childA0 X p m np nt L ρ r1.1 r1.2 r2.1 r2.2 r3.1 r3.2 r5 (by omega) (by omega) g1) (RSj (RSid ρ) b np nt L 57 (by decide) _ hFL.2.2)
      · exact pgQ h (dt.mono (fun r σ' q => ⟨q.1.trans g6, by rw [q.2]; exact hq⟩)) (t_childB0 X p m np nt L ρ r1.1 r1.2 r2.1 r2.2 r3.1 r3.2 r5 (by omega) (by omega) t x g1 g2 g3 g4 g5) (RSj (RSid ρ) b np nt L 57 (by decide) _ hFL.2.2)
    · obtain ⟨r0, σ0, ⟨hq, hc⟩, dt⟩ := TT.ex (K_child1 X h p m (by omega) (by omega))
      rcases hc with ⟨g1, g2⟩ | ⟨t, x, g1, g2, g3, g4, g5, g6⟩
      · exact pgQ h (dt.mono (fun r σ' q => ⟨q.1.trans g2, by rw [q.2]; exact hq⟩)) (t_childA1 X p m np nt L ρ r1.1 r1.2 r2.1 r2.2 r3.1 r3.2 r5 (by omega) (by omega) g1) (RSj (RSid ρ) b np nt L 57 (by decide) _ hFL.2.2)
      · exact pgQ h (dt.mono (fun r σ' q => ⟨q.1.trans g6, by rw [q.2]; exact hq⟩)) (t_childB1 X p m np nt L ρ r1.1 r1.2 r2.1 r2.2 r3.1 r3.2 r5 (by omega) (by omega) t x g1 g2 g3 g4 g5) (RSj (RSid ρ) b np nt L 57 (by decide) _ hFL.2.2)
