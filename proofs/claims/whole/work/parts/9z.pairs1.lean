/-! Each call of the law: questions. -/
theorem PP_fault (X : AX) {σ : AH} (hI : INV σ) (a1 : Int) : PP X 184 [(2, 0), (0, a1)] 30 [(2, 295), (0, a1)] σ := by
  obtain ⟨⟨l, b, np, nt, ns, L, C, w, tp, u, tl, oc, h⟩, hJ⟩ := hI
  refine pairG h hJ (fun ρ h => ?_)
  obtain ⟨r1, r2, r3, r4, r5⟩ := IV_R h
  obtain ⟨-, hLT, hNT, hPT, hFL, hA, hTp, hO, hM, -⟩ := id h
  exact pgQ0 h (K_fault X h a1) (t_fault X a1 ρ) (RSid ρ)
theorem PP_status (X : AX) {σ : AH} (hI : INV σ) (a1 : Int) : PP X 218 [(2, 0), (0, a1)] 32 [(2, 295), (0, a1)] σ := by
  obtain ⟨⟨l, b, np, nt, ns, L, C, w, tp, u, tl, oc, h⟩, hJ⟩ := hI
  refine pairG h hJ (fun ρ h => ?_)
  obtain ⟨r1, r2, r3, r4, r5⟩ := IV_R h
  obtain ⟨-, hLT, hNT, hPT, hFL, hA, hTp, hO, hM, -⟩ := id h
  by_cases hw : 0 ≤ a1 ∧ a1 ≤ 5
  · obtain ⟨n, rfl⟩ : ∃ n : Nat, a1 = (n : Int) := ⟨a1.toNat, by omega⟩
    exact pgQ0 h (K_status1 X h n (by omega)) (t_status1 X n ρ (by omega)) (RSid ρ)
  · exact pgQ0 h (K_status0 X h a1 hw) (t_status0 X a1 ρ hw) (RSid ρ)
theorem PP_octet (X : AX) {σ : AH} (hI : INV σ) (a1 : Int) : PP X 216 [(2, 0), (0, a1)] 107 [(2, 295), (0, a1)] σ := by
  obtain ⟨⟨l, b, np, nt, ns, L, C, w, tp, u, tl, oc, h⟩, hJ⟩ := hI
  refine pairG h hJ (fun ρ h => ?_)
  obtain ⟨r1, r2, r3, r4, r5⟩ := IV_R h
  obtain ⟨-, hLT, hNT, hPT, hFL, hA, hTp, hO, hM, -⟩ := id h
  have ho := hO.2.2.1
  by_cases hw : 0 ≤ a1 ∧ a1 < (oc : Int)
  · obtain ⟨n, rfl⟩ : ∃ n : Nat, a1 = (n : Int) := ⟨a1.toNat, by omega⟩
    exact pgQ0 h (K_octet1 X h n (by omega)) (t_octet1 X n oc (by omega) ρ hO.2.1 (by omega)) (RSid ρ)
  · exact pgQ0 h (K_octet0 X h a1 hw) (t_octet0 X a1 oc (by omega) ρ hO.2.1 hw) (RSid ρ)
theorem PP_person (X : AX) {σ : AH} (hI : INV σ) (a1 : Int) (a2 : Int) : PP X 189 [(2, 0), (0, a1), (0, a2)] 68 [(2, 295), (0, a1), (0, a2)] σ := by
  obtain ⟨⟨l, b, np, nt, ns, L, C, w, tp, u, tl, oc, h⟩, hJ⟩ := hI
  refine pairG h hJ (fun ρ h => ?_)
  obtain ⟨r1, r2, r3, r4, r5⟩ := IV_R h
  obtain ⟨-, hLT, hNT, hPT, hFL, hA, hTp, hO, hM, -⟩ := id h
  by_cases hp : 0 ≤ a1 ∧ a1 < (np : Int)
  · obtain ⟨p, rfl⟩ : ∃ n : Nat, a1 = (n : Int) := ⟨a1.toNat, by omega⟩
    exact pgQ0 h (K_person1 X h p a2 (by omega)) (t_person1 X p a2 np ρ r1.1 r1.2 r2.1 r2.2 (by omega)) (RSid ρ)
  · exact pgQ0 h (K_person0 X h a1 a2 hp) (t_person0 X a1 a2 np ρ r1.1 r1.2 r2.1 r2.2 hp) (RSid ρ)
theorem PP_has (X : AX) {σ : AH} (hI : INV σ) (a1 : Int) : PP X 185 [(2, 0), (0, a1)] 64 [(2, 295), (0, a1), (9, 0), (9, 0)] σ := by
  obtain ⟨⟨l, b, np, nt, ns, L, C, w, tp, u, tl, oc, h⟩, hJ⟩ := hI
  refine pairG h hJ (fun ρ h => ?_)
  obtain ⟨r1, r2, r3, r4, r5⟩ := IV_R h
  obtain ⟨-, hLT, hNT, hPT, hFL, hA, hTp, hO, hM, -⟩ := id h
  by_cases e0 : a1 = 0
  · subst e0; exact pgQ0 h (K_has0 X h) (t_has0 X np ns nt ρ r1.1 r1.2 r2.1 r2.2 r4.1 r4.2 r3.1 r3.2) (RSid ρ)
  by_cases e1 : a1 = 1
  · subst e1; exact pgQ0 h (K_has1 X h) (t_has1 X np ns nt ρ r1.1 r1.2 r2.1 r2.2 r4.1 r4.2 r3.1 r3.2) (RSid ρ)
  by_cases e2 : a1 = 2
  · subst e2; exact pgQ0 h (K_has2 X h) (t_has2 X np ns nt ρ r1.1 r1.2 r2.1 r2.2 r4.1 r4.2 r3.1 r3.2) (RSid ρ)
  by_cases e3 : a1 = 3
  · subst e3; exact pgQ0 h (K_has3 X h) (t_has3 X np ns nt ρ r1.1 r1.2 r2.1 r2.2 r4.1 r4.2 r3.1 r3.2) (RSid ρ)
  by_cases e4 : a1 = 4
  · subst e4; exact pgQ0 h (K_has4 X h) (t_has4 X np ns nt ρ r1.1 r1.2 r2.1 r2.2 r4.1 r4.2 r3.1 r3.2) (RSid ρ)
  by_cases e5 : a1 = 5
  · subst e5; exact pgQ0 h (K_has5 X h) (t_has5 X np ns nt ρ r1.1 r1.2 r2.1 r2.2 r4.1 r4.2 r3.1 r3.2) (RSid ρ)
  by_cases e6 : a1 = 6
  · subst e6; exact pgQ0 h (K_has6 X h) (t_has6 X np ns nt ρ r1.1 r1.2 r2.1 r2.2 r4.1 r4.2 r3.1 r3.2) (RSid ρ)
  by_cases e7 : a1 = 7
  · subst e7; exact pgQ0 h (K_has7 X h) (t_has7 X np ns nt ρ r1.1 r1.2 r2.1 r2.2 r4.1 r4.2 r3.1 r3.2) (RSL0 ρ ns)
  by_cases e8 : a1 = 8
  · subst e8; exact pgQ0 h (K_has8 X h) (t_has8 X np ns nt ρ r1.1 r1.2 r2.1 r2.2 r4.1 r4.2 r3.1 r3.2) (RSid ρ)
  by_cases e9 : a1 = 9
  · subst e9; exact pgQ0 h (K_has9 X h) (t_has9 X np ns nt ρ r1.1 r1.2 r2.1 r2.2 r4.1 r4.2 r3.1 r3.2) (RSid ρ)
  by_cases e10 : a1 = 10
  · subst e10; exact pgQ0 h (K_has10 X h) (t_has10 X np ns nt ρ r1.1 r1.2 r2.1 r2.2 r4.1 r4.2 r3.1 r3.2) (RSid ρ)
  exact pgQ0 h (K_hasN X h a1 (by omega)) (t_hasN X a1 (by omega) ρ) (RSid ρ)
theorem PP_station (X : AX) {σ : AH} (hI : INV σ) (a1 : Int) (a2 : Int) : PP X 187 [(2, 0), (0, a1), (0, a2)] 66 [(2, 295), (0, a1), (0, a2), (9, 0), (9, 0)] σ := by
  obtain ⟨⟨l, b, np, nt, ns, L, C, w, tp, u, tl, oc, h⟩, hJ⟩ := hI
  refine pairG h hJ (fun ρ h => ?_)
  obtain ⟨r1, r2, r3, r4, r5⟩ := IV_R h
  obtain ⟨-, hLT, hNT, hPT, hFL, hA, hTp, hO, hM, -⟩ := id h
  by_cases hs : 0 ≤ a1 ∧ a1 < (ns : Int)
  · skip
    by_cases e0 : a2 = 0
    · subst e0; exact pgQ0 h (K_station0 X h a1 hs) (t_station0 X a1 np ns ρ r1.1 r1.2 r2.1 r2.2 r4.1 r4.2 hs) (RS46 ρ 0)
    by_cases e1 : a2 = 1
    · subst e1; exact pgQ0 h (K_station1 X h a1 hs) (t_station1 X a1 np ns ρ r1.1 r1.2 r2.1 r2.2 r4.1 r4.2 hs) (RS46 ρ 0)
    by_cases e2 : a2 = 2
    · subst e2; exact pgQ0 h (K_station2 X h a1 hs) (t_station2 X a1 np ns ρ r1.1 r1.2 r2.1 r2.2 r4.1 r4.2 hs) (RS46 ρ 0)
    by_cases e3 : a2 = 3
    · subst e3; exact pgQ0 h (K_station3 X h a1 hs) (t_station3 X a1 nt ns L ρ r1.1 r1.2 r3.1 r3.2 r4.1 r4.2 r5 hs) (RS46 ρ 0)
    exact pgQ0 h (K_stationD X h a1 a2 hs (by omega)) (t_stationD X a2 (by omega) a1 np ns ρ r1.1 r1.2 r2.1 r2.2 r4.1 r4.2 hs) (RS46 ρ 0)
  · exact pgQ0 h (K_stationN X h a1 a2 hs) (t_stationN X a1 a2 ns ρ r1.1 r1.2 r4.1 r4.2 hs) (RSid ρ)
theorem PP_train (X : AX) {σ : AH} (hI : INV σ) (a1 : Int) (a2 : Int) (ha2 : a2 < 2147483648) : PP X 188 [(2, 0), (0, a1), (0, a2)] 67 [(2, 295), (0, a1), (0, a2)] σ := by
  obtain ⟨⟨l, b, np, nt, ns, L, C, w, tp, u, tl, oc, h⟩, hJ⟩ := hI
  refine pairG h hJ (fun ρ h => ?_)
  obtain ⟨r1, r2, r3, r4, r5⟩ := IV_R h
  obtain ⟨-, hLT, hNT, hPT, hFL, hA, hTp, hO, hM, -⟩ := id h
  by_cases ht : 0 ≤ a1 ∧ a1 < (nt : Int)
  · obtain ⟨t, rfl⟩ : ∃ n : Nat, a1 = (n : Int) := ⟨a1.toNat, by omega⟩
    have ht2 : t < nt := by omega
    have hL8 := (r5 t ht2).2.2
    by_cases hw : a2 < 0
    · exact pgQ0 h (K_trainN X h t a2 hw ht2) (t_trainN X t a2 hw np nt L ρ r1.1 r1.2 r2.1 r2.2 r3.1 r3.2 r5 ht2) (RSid ρ)
    · obtain ⟨n, rfl⟩ : ∃ n : Nat, a2 = (n : Int) := ⟨a2.toNat, by omega⟩
      by_cases hn : n < 100
      · exact pgQ0 h (K_train1 X h t n (by omega) ht2) (t_train1 X t n hn np nt L ρ r1.1 r1.2 r2.1 r2.2 r3.1 r3.2 r5 ht2) (RSid ρ)
      · exact pgQ0 h (z := -1) ((K_train1 X h t n (by omega) ht2).mono (fun r σ' q => ⟨by rw [q.1, if_neg (by omega), if_neg (by omega), if_neg (by omega), if_neg (by omega), if_neg (by omega)], q.2⟩)) (t_trainM X t ((n : Nat) : Int) (by omega) np nt L ρ r1.1 r1.2 r2.1 r2.2 r3.1 r3.2 r5 ht2) (RSid ρ)
  · exact pgQ0 h (K_train0 X h a1 a2 ht) (t_train0 X a1 a2 np nt L ρ r1.1 r1.2 r2.1 r2.2 r3.1 r3.2 r5 ht) (RSid ρ)
theorem PP_dead (X : AX) {σ : AH} (hI : INV σ) (a1 : Int) : PP X 208 [(2, 0), (0, a1), (9, 0), (9, 0)] 103 [(2, 295), (0, a1), (9, 0), (9, 0)] σ := by
  obtain ⟨⟨l, b, np, nt, ns, L, C, w, tp, u, tl, oc, h⟩, hJ⟩ := hI
  refine pairG h hJ (fun ρ h => ?_)
  obtain ⟨r1, r2, r3, r4, r5⟩ := IV_R h
  obtain ⟨-, hLT, hNT, hPT, hFL, hA, hTp, hO, hM, -⟩ := id h
  exact pgQ0 h (K_dead X h a1) (t_dead X a1 np ns ρ r1.1 r1.2 r2.1 r2.2 r4.1 r4.2) (RSL0 ρ ns)
theorem PP_stops (X : AX) {σ : AH} (hI : INV σ) (a1 : Int) (a2 : Int) (a3 : Int) : PP X 197 [(2, 0), (0, a1), (0, a2), (0, a3), (9, 0)] 78 [(2, 295), (0, a1), (0, a2), (0, a3), (9, 0)] σ := by
  obtain ⟨⟨l, b, np, nt, ns, L, C, w, tp, u, tl, oc, h⟩, hJ⟩ := hI
  refine pairG h hJ (fun ρ h => ?_)
  obtain ⟨r1, r2, r3, r4, r5⟩ := IV_R h
  obtain ⟨-, hLT, hNT, hPT, hFL, hA, hTp, hO, hM, -⟩ := id h
  by_cases ht : 0 ≤ a1 ∧ a1 < (nt : Int)
  · obtain ⟨t, rfl⟩ : ∃ n : Nat, a1 = (n : Int) := ⟨a1.toNat, by omega⟩
    have ht2 : t < nt := by omega
    by_cases hk : 0 ≤ a2 ∧ a2 < (L t : Int)
    · obtain ⟨k, rfl⟩ : ∃ n : Nat, a2 = (n : Int) := ⟨a2.toNat, by omega⟩
      exact pgQ h (K_stops2 X h t k a3 ht2 (by omega)) (t_stops2 X t k a3 np nt L ρ r1.1 r1.2 r2.1 r2.2 r3.1 r3.2 r5 ht2 (by omega)) (RSd ρ b np nt L)
    · exact pgQ h (K_stops1 X h t a2 a3 ht2 hk) (t_stops1 X t a2 a3 np nt L ρ r1.1 r1.2 r2.1 r2.2 r3.1 r3.2 r5 ht2 hk) (RSid ρ)
  · exact pgQ h (K_stops0 X h a1 a2 a3 ht) (t_stops0 X a1 a2 a3 np nt L ρ r1.1 r1.2 r2.1 r2.2 r3.1 r3.2 r5 ht) (RSid ρ)
theorem PP_because (X : AX) {σ : AH} (hI : INV σ) (a1 : Int) (a2 : Int) : PP X 210 [(2, 0), (0, a1), (0, a2)] 82 [(2, 295), (0, a1), (0, a2)] σ := by
  obtain ⟨⟨l, b, np, nt, ns, L, C, w, tp, u, tl, oc, h⟩, hJ⟩ := hI
  refine pairG h hJ (fun ρ h => ?_)
  obtain ⟨r1, r2, r3, r4, r5⟩ := IV_R h
  obtain ⟨-, hLT, hNT, hPT, hFL, hA, hTp, hO, hM, -⟩ := id h
  by_cases ht : 0 ≤ a1 ∧ a1 < (nt : Int)
  · obtain ⟨t, rfl⟩ : ∃ n : Nat, a1 = (n : Int) := ⟨a1.toNat, by omega⟩
    have ht2 : t < nt := by omega
    by_cases hk : 0 ≤ a2 ∧ a2 < (L t : Int)
    · obtain ⟨k, rfl⟩ : ∃ n : Nat, a2 = (n : Int) := ⟨a2.toNat, by omega⟩
      exact pgQ h (K_because X h t k ht2 (by omega)) (t_because2 X t k np nt L ρ r1.1 r1.2 r2.1 r2.2 r3.1 r3.2 r5 ht2 (by omega)) (RSd ρ b np nt L)
    · exact pgQ h (K_because1 X h t a2 ht2 hk) (t_because1 X t a2 np nt L ρ r1.1 r1.2 r2.1 r2.2 r3.1 r3.2 r5 ht2 hk) (RSid ρ)
  · exact pgQ h (K_because0 X h a1 a2 ht) (t_because0 X a1 a2 np nt L ρ r1.1 r1.2 r2.1 r2.2 r3.1 r3.2 r5 ht) (RSid ρ)
theorem PP_left (X : AX) {σ : AH} (hI : INV σ) (a1 : Int) (a2 : Int) : PP X 211 [(2, 0), (0, a1), (0, a2), (9, 0), (9, 0)] 83 [(2, 295), (0, a1), (0, a2), (9, 0), (9, 0)] σ := by
  obtain ⟨⟨l, b, np, nt, ns, L, C, w, tp, u, tl, oc, h⟩, hJ⟩ := hI
  refine pairG h hJ (fun ρ h => ?_)
  obtain ⟨r1, r2, r3, r4, r5⟩ := IV_R h
  obtain ⟨-, hLT, hNT, hPT, hFL, hA, hTp, hO, hM, -⟩ := id h
  by_cases ht : 0 ≤ a1 ∧ a1 < (nt : Int)
  · obtain ⟨t, rfl⟩ : ∃ n : Nat, a1 = (n : Int) := ⟨a1.toNat, by omega⟩
    have ht2 : t < nt := by omega
    by_cases hk : 0 ≤ a2 ∧ a2 < (L t : Int)
    · obtain ⟨k, rfl⟩ : ∃ n : Nat, a2 = (n : Int) := ⟨a2.toNat, by omega⟩
      exact pgQ h (K_left2 X h t k ht2 (by omega)) (t_left2 X t k np nt L ρ r1.1 r1.2 r2.1 r2.2 r3.1 r3.2 r5 ht2 (by omega)) (RSd ρ b np nt L)
    · exact pgQ h (K_left1 X h t a2 ht2 hk) (t_left1 X t a2 np nt L ρ r1.1 r1.2 r2.1 r2.2 r3.1 r3.2 r5 ht2 hk) (RSid ρ)
  · exact pgQ h (K_left0 X h a1 a2 ht) (t_left0 X a1 a2 np nt L ρ r1.1 r1.2 r2.1 r2.2 r3.1 r3.2 r5 ht) (RSid ρ)
theorem PP_fares (X : AX) {σ : AH} (hI : INV σ) (a1 : Int) (a2 : Int) : PP X 198 [(2, 0), (0, a1), (0, a2)] 79 [(2, 295), (0, a1), (0, a2)] σ := by
  obtain ⟨⟨l, b, np, nt, ns, L, C, w, tp, u, tl, oc, h⟩, hJ⟩ := hI
  refine pairG h hJ (fun ρ h => ?_)
  obtain ⟨r1, r2, r3, r4, r5⟩ := IV_R h
  obtain ⟨-, hLT, hNT, hPT, hFL, hA, hTp, hO, hM, -⟩ := id h
  by_cases hp : 0 ≤ a1 ∧ a1 < (np : Int)
  · obtain ⟨p, rfl⟩ : ∃ n : Nat, a1 = (n : Int) := ⟨a1.toNat, by omega⟩
    exact pgQ h (K_fares1 X h p a2 (by omega)) (t_fares1 X p a2 np nt L ρ r1.1 r1.2 r2.1 r2.2 r3.1 r3.2 r5 (by omega)) (RSd ρ b np nt L)
  · exact pgQ h (K_fares0 X h a1 a2 hp) (t_fares0 X a1 a2 np nt L ρ r1.1 r1.2 r2.1 r2.2 r3.1 r3.2 r5 hp) (RSid ρ)
theorem PP_whole (X : AX) {σ : AH} (hI : INV σ) (a1 : Int) : PP X 199 [(2, 0), (0, a1)] 81 [(2, 295), (0, a1), (9, 0), (9, 0)] σ := by
  obtain ⟨⟨l, b, np, nt, ns, L, C, w, tp, u, tl, oc, h⟩, hJ⟩ := hI
  refine pairG h hJ (fun ρ h => ?_)
  obtain ⟨r1, r2, r3, r4, r5⟩ := IV_R h
  obtain ⟨-, hLT, hNT, hPT, hFL, hA, hTp, hO, hM, -⟩ := id h
  by_cases e0 : a1 = 0
  · subst e0; exact pgQ h (K_whole0 X h) (t_whole0 X np nt L ρ r1.1 r1.2 r2.1 r2.2 r3.1 r3.2 r5) (RSd ρ b np nt L)
  by_cases e1 : a1 = 1
  · subst e1; exact pgQ h (K_whole1 X h) (t_whole1 X np nt L ρ r1.1 r1.2 r2.1 r2.2 r3.1 r3.2 r5) (RSd ρ b np nt L)
  by_cases e2 : a1 = 2
  · subst e2; exact pgQ h (K_whole2 X h) (t_whole2 X np nt L ρ r1.1 r1.2 r2.1 r2.2 r3.1 r3.2 r5) (RSd ρ b np nt L)
  by_cases e3 : a1 = 3
  · subst e3; exact pgQ h (K_whole3 X h) (t_whole3 X np nt L ρ r1.1 r1.2 r2.1 r2.2 r3.1 r3.2 r5) (RSd ρ b np nt L)
  by_cases e4 : a1 = 4
  · subst e4; exact pgQ h (K_whole4 X h) (t_whole4 X np nt L ρ r1.1 r1.2 r2.1 r2.2 r3.1 r3.2 r5) (RSd ρ b np nt L)
  by_cases e5 : a1 = 5
  · subst e5; exact pgQ h (K_whole5 X h) (t_whole5 X np nt L ρ r1.1 r1.2 r2.1 r2.2 r3.1 r3.2 r5) (RSd ρ b np nt L)
  exact pgQ h (K_wholeN X h a1 (by omega)) (t_wholeN X a1 (by omega) np nt L ρ r1.1 r1.2 r2.1 r2.2 r3.1 r3.2 r5) (RSd ρ b np nt L)
