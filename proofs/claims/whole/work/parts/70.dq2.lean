/-! Left, whole, worth, stay of the class. -/
theorem re_of {σ ρ : AH} {l b np nt ns : Nat} {L : Nat → Nat} {C : Nat → Nat → Nat} {w tp u tl oc : Nat} (h : IV σ ρ l b np nt ns L C w tp u tl oc) : ∃ τ : AH, DD σ τ ρ b 0 np nt ns L C := by
  obtain ⟨⟨hl, h05, h33⟩, hL, hN, hPT, hF, -⟩ := h
  obtain ⟨n, r, -, -, -, -, h1⟩ := w_tryDay_36 (0, fun _ => 0) hl h05 hL hPT.1 hPT.2.2.1 hF
  exact ⟨_, h1⟩
theorem K_because (X : AX) {l : Nat} {σ ρ : AH} {b np nt ns : Nat} {L : Nat → Nat} {C : Nat → Nat → Nat} {w tp u tl oc : Nat} (h : IV σ ρ l b np nt ns L C w tp u tl oc) (t k : Nat) (ht : t < nt) (hk : k < L t) : TT X k_X10_because (0, [(2, 0), (0, ((t : Nat) : Int)), (0, ((k : Nat) : Int))], [], σ) (fun r σ' => r = some (0, (mDay ρ b 0 np nt L) 331 (8 * t + k)) ∧ QS σ σ') := by
  refine K_because2 X h t k ht hk ⟨trivial, fun hz => ?_⟩
  obtain ⟨τ, ⟨n, -, hE⟩, hf, -⟩ := re_of h
  obtain ⟨Cm, Of, On, -, -, -, -, -, -, -, -, q9, -⟩ := hE.2.2.2.2.2.2.1 t k ht (by rw [hf h.2.2.2.2.1.2.2 t ht]; omega)
  rw [q9, if_neg hz]
theorem orA_set {f : Nat → Int} {n np : Nat} (hn : np ≤ 30) (h : ∀ j, j < n → ∃ F : Nat → Bool, f j = ((bs F np : Nat) : Int)) : ∃ A : Nat → Bool, orA f n = ((bs A np : Nat) : Int) := by
  induction n with
  | zero => exact ⟨fun _ => false, by rw [bs_zero]; rfl⟩
  | succ n ih =>
    obtain ⟨A, hA⟩ := ih (fun j hj => h j (by omega))
    obtain ⟨F, hF⟩ := h n (by omega)
    exact ⟨_, by rw [orA, hA, hF, bs_or _ _ hn]⟩
theorem mLft_set (ρ : AH) (v : Nat) (A : Nat → Bool) (s : Int) (np : Nat) (hn : np ≤ 10) : ∀ n, n ≤ np → mLft ρ v ((bs A np : Nat) : Int) s n = ((bs (fun p => A p && (decide (n ≤ p) || decide (mBA ρ v p s))) np : Nat) : Int) := by
  intro n
  induction n with
  | zero =>
    intro _
    rw [mLft]
    refine congrArg (fun x : Nat => (x : Int)) (bs_c (fun p _ => ?_))
    simp
  | succ n ih =>
    intro hl
    rw [mLft, ih (by omega)]
    by_cases e : mBA ρ v n s
    · rw [if_pos e]
      refine congrArg (fun x : Nat => (x : Int)) (bs_c (fun p _ => ?_))
      congr 1
      by_cases e2 : p = n
      · subst e2; rw [decide_eq_true e, Bool.or_true, Bool.or_true]
      · congr 1; exact decide_eq_decide.mpr (by omega)
    · rw [if_neg e, bs_shl (n := np) (p := n) (by omega) (by omega), bs_sub _ _ (by omega)]
      refine congrArg (fun x : Nat => (x : Int)) (bs_c (fun p _ => ?_))
      by_cases e2 : p = n
      · subst e2; rw [decide_eq_false e]; simp
      · simp only [e2, decide_false, Bool.not_false, Bool.and_true]
        congr 2
        exact decide_eq_decide.mpr (by omega)
theorem sumA_01 {f : Nat → Int} {n : Nat} (hn : n ≤ 1000000) (h : ∀ p, p < n → f p = 0 ∨ f p = 1) : sumA f n = ((cnt (fun p => decide (f p = 1)) n : Nat) : Int) := by
  rw [← sumA_cnt _ hn]
  apply sumA_c
  intro p hp
  rcases h p hp with e | e <;> simp [e]
theorem sumF_01 {f : Nat → Int} {a n : Nat} (h : ∀ k, k < n → f k = 0 ∨ f k = 1) (hb : a + n ≤ 1000000) : sumF (a : Int) f n = ((a + cnt (fun k => decide (f k = 1)) n : Nat) : Int) := by
  induction n with
  | zero => rfl
  | succ n ih =>
    rw [sumF, ih (fun k hk => h k (by omega)) (by omega), cnt]
    have := cnt_le (fun k => decide (f k = 1)) n
    rcases h n (by omega) with e | e
    · rw [e, aAdd_of (by omega) (by omega)]; simp
    · rw [e, aAdd_of (by omega) (by omega)]; simp; omega
theorem sumT_01 {f : Nat → Nat → Int} {L : Nat → Nat} {nt : Nat} (hn : nt ≤ 6) (hL : ∀ t, t < nt → L t ≤ 8) (h : ∀ t k, t < nt → k < L t → f t k = 0 ∨ f t k = 1) : ∃ m : Nat, m ≤ 8 * nt ∧ sumT f L nt = (m : Int) ∧ sumA (fun t => ((cnt (fun k => decide (k < L t ∧ f t k = 1)) 8 : Nat) : Int)) nt = (m : Int) := by
  induction nt with
  | zero => exact ⟨0, by omega, rfl, rfl⟩
  | succ n ih =>
    obtain ⟨m, h1, h2, h3⟩ := ih (by omega) (fun t ht => hL t (by omega)) (fun t k ht hk => h t k (by omega) hk)
    have hl := hL n (by omega)
    have e1 : cnt (fun k => decide (k < L n ∧ f n k = 1)) 8 = cnt (fun k => decide (f n k = 1)) (L n) := by
      rw [cnt_ext _ hl (fun p hp _ => decide_eq_false (by omega))]
      apply cnt_c
      intro p hp
      exact decide_eq_decide.mpr ⟨fun x => x.2, fun x => ⟨hp, x⟩⟩
    have hc := cnt_le (fun k => decide (f n k = 1)) (L n)
    refine ⟨m + cnt (fun k => decide (f n k = 1)) (L n), by omega, ?_, ?_⟩
    · rw [sumT, h2, sumF_01 (fun k hk => h n k (by omega) hk) (by omega)]
    · rw [sumA, h3, e1, aAdd_of (by omega) (by omega)]; omega
/-- the last coming's minute is where the train's clock stands -/
theorem mEvt_J (b v np nt : Nat) (L : Nat → Nat) (hn : np ≤ 10) (f : Nat) : ∀ ρ : AH, (∀ t, t < nt → ρ 304 (6 * b + t) = (L t : Int) ∧ L t ≤ 8 ∧ 1 ≤ L t ∧ 0 ≤ ρ 323 t) → (∀ t, t < nt → ρ 323 t = (L t : Int) → ρ 326 (8 * t + (L t - 1)) = ρ 324 t) → ∀ t, t < nt → mEvt b v np nt L f ρ 323 t = (L t : Int) → mEvt b v np nt L f ρ 326 (8 * t + (L t - 1)) = mEvt b v np nt L f ρ 324 t := by
  induction f with
  | zero => intro ρ _ h2; exact h2
  | succ f ih =>
    intro ρ h1 h2
    rw [mEvt]
    rcases mFst_spec ρ b nt with ⟨m1, -⟩ | ⟨j, m1, m2, m3, -, -⟩
    · rw [m1]; exact h2
    · rw [m1]
      dsimp only
      split
      · obtain ⟨g1, g2, g3, g4⟩ := h1 j m2
        have hk : ∃ k : Nat, (ρ 323 j).toNat = k ∧ ρ 323 j = (k : Int) ∧ k < L j := ⟨(ρ 323 j).toNat, rfl, by omega, by omega⟩
        obtain ⟨k, k1, k2, k3⟩ := hk
        rw [k1]
        refine ih _ (fun t ht => ?_) (fun t ht e => ?_)
        · rw [mHap_fr _ _ _ _ _ _ _ _ _ (by decide), mHap_nx]
          obtain ⟨e1, e2, e3, e4⟩ := h1 t ht
          exact ⟨e1, e2, e3, by split <;> omega⟩
        · obtain ⟨e1, e2, e3, e4⟩ := h1 t ht
          rw [mHap_nx] at e
          rw [(mHap_e ρ b v np j k (L j) _ hn).2.1, (mHap_t ρ b v np j k (L j) _).1]
          by_cases e5 : t = j
          · subst e5
            rw [if_pos rfl] at e
            rw [if_pos (by omega), if_neg (by omega)]
          · rw [if_neg e5] at e
            rw [if_neg (by omega), if_neg (by omega)]
            exact h2 t ht e
      · exact h2
theorem mDay_J {σ ρ : AH} {l b v np nt ns : Nat} {L : Nat → Nat} {C : Nat → Nat → Nat} (hL : LT σ ρ l b np nt ns L C) (t : Nat) (ht : t < nt) (h : mDay ρ b v np nt L 323 t = (L t : Int)) : mDay ρ b v np nt L 326 (8 * t + (L t - 1)) = mDay ρ b v np nt L 324 t := by
  obtain ⟨-, -, ⟨c1, -⟩, hTr, -⟩ := hL
  have g23 : ∀ t, t < nt → mD0 ρ b v np nt 323 t = 0 := fun t ht => (mPeN_fr _ _ _ _ _ (by decide)).trans (mTrN_nx _ _ _ _ ht)
  refine mEvt_J b v np nt L c1 49 (mD0 ρ b v np nt) (fun t ht => ?_) (fun t ht e => ?_) t ht h
  · obtain ⟨-, e1, e2, e3, -⟩ := hTr t ht
    refine ⟨?_, e3, by omega, by rw [g23 t ht]; omega⟩
    rw [← e1]
    exact (mPeN_fr _ _ _ _ _ (by decide)).trans ((mTrN_fr _ _ _ _ _ (by decide)).trans (up2_far _ _ _ _ (by decide)))
  · obtain ⟨-, e1, e2, e3, -⟩ := hTr t ht
    rw [g23 t ht] at e
    omega
theorem maxA_c {f g : Nat → Int} {n : Nat} (h : ∀ t, t < n → f t = g t) : maxA f n = maxA g n := by
  induction n with
  | zero => rfl
  | succ n ih => rw [maxA, maxA, ih (fun t ht => h t (by omega)), h n (by omega)]
theorem kl_left (X : AX) (Q : Option AV → AH → Prop) (t k : Nat) (M : Nat → Int) (ht6 : t < 6) (hk8 : k < 8) (σ : AH) (hof : ∀ j, j < k → σ (232 + t) j = M j)  (kk : TT X 211 (31, [(2, 0), (0, ((t : Nat) : Int)), (0, ((k : Nat) : Int)), (0, (orA M k)), (0, ((k : Nat) : Int))], [], σ) Q) : ∀ (d n : Nat), n + d = k → TT X 211 (15, [(2, 0), (0, ((t : Nat) : Int)), (0, ((k : Nat) : Int)), (0, (orA M n)), (0, ((n : Nat) : Int))], [], σ) Q := by
  intro d
  induction d with
  | zero =>
    intro n hn
    have hnn : n = k := by omega
    rw [hnn]
    refine TT.steps (cd := cd211) 3 (c' := ((if decide (((k : Nat) : Int) ≤ ((k : Nat) : Int)) = true then 31 else 18), [(2, 0), (0, ((t : Nat) : Int)), (0, ((k : Nat) : Int)), (0, (orA M k)), (0, ((k : Nat) : Int))], [], σ)) rfl rfl ?_
    refine TT.br (p := ((k : Nat) : Int) ≤ ((k : Nat) : Int)) (fun h1 => ?_) (fun h1 => absurd (show ((k : Nat) : Int) ≤ ((k : Nat) : Int) by omega) h1)
    exact kk
  | succ d ih =>
    intro n hn
    refine TT.steps (cd := cd211) 3 (c' := ((if decide (((k : Nat) : Int) ≤ ((n : Nat) : Int)) = true then 31 else 18), [(2, 0), (0, ((t : Nat) : Int)), (0, ((k : Nat) : Int)), (0, (orA M n)), (0, ((n : Nat) : Int))], [], σ)) rfl rfl ?_
    refine TT.br (p := ((k : Nat) : Int) ≤ ((n : Nat) : Int)) (fun h1 => absurd h1 (show ¬ (((k : Nat) : Int) ≤ ((n : Nat) : Int)) by omega)) (fun h1 => ?_)
    refine TT.steps (cd := cd211) 6 (c' := (24, [(2, 0), (0, ((t : Nat) : Int)), (0, ((k : Nat) : Int)), (0, (orA M n)), (0, ((n : Nat) : Int))], [(0, ((t : Nat) : Int)), (2, 231), (0, (orA M n))], σ)) rfl rfl ?_
    refine TT.aaldN (cd := cd211) 231 (t) (232 + t) rfl rfl rfl (Or.inr rfl) (show t < 6 by omega) (fxg_231 t (by omega)) ?_
    refine TT.steps (cd := cd211) 1 (c' := (26, [(2, 0), (0, ((t : Nat) : Int)), (0, ((k : Nat) : Int)), (0, (orA M n)), (0, ((n : Nat) : Int))], [(0, ((n : Nat) : Int)), (2, ((232 + t : Nat) : Int)), (0, (orA M n))], σ)) rfl rfl ?_
    refine TT.aldN (cd := cd211) (232 + t) (n) rfl rfl rfl (kdg_231 t (by omega)).1 (show n < ln (232 + t) by rw [(kdg_231 t (by omega)).2]; omega) ?_
    refine TT.top0 (z := (M n)) (hof n (by omega)) ?_
    refine TT.steps (cd := cd211) 2 (c' := (29, [(2, 0), (0, ((t : Nat) : Int)), (0, ((k : Nat) : Int)), (0, (aOr (orA M n) (M n))), (0, ((n : Nat) : Int))], [], σ)) rfl rfl ?_
    refine TT.inc (cd := cd211) ((n + 1 : Nat) : Int) rfl rfl rfl rfl (fun h => absurd h.2 (show ¬ (0 = 1) by decide)) (aAdd_n (a := n) (b := 1) (by omega)) (ls' := [(2, 0), (0, ((t : Nat) : Int)), (0, ((k : Nat) : Int)), (0, (aOr (orA M n) (M n))), (0, ((n + 1 : Nat) : Int))]) rfl ?_
    refine TT.steps (cd := cd211) 1 (c' := (15, [(2, 0), (0, ((t : Nat) : Int)), (0, ((k : Nat) : Int)), (0, (aOr (orA M n) (M n))), (0, ((n + 1 : Nat) : Int))], [], σ)) rfl rfl ?_
    have e3 : (aOr (orA M n) (M n)) = (orA M (n + 1)) := by rfl
    rw [e3]
    clear e3
    have e4 : ((n + 1 : Nat) : Int) = (((n + 1) : Nat) : Int) := by omega
    rw [e4]
    clear e4
    exact ih (n + 1) (by omega)
theorem K_left2_8 (X : AX) {σ ρ : AH} {b np nt ns : Nat} {L : Nat → Nat} {C : Nat → Nat → Nat} {w tp u tl oc : Nat} (h : IV σ ρ 8 b np nt ns L C w tp u tl oc) (t k : Nat) (ht : t < nt) (hk : k < L t)  : TT X 211 (0, [(2, 0), (0, ((t : Nat) : Int)), (0, ((k : Nat) : Int)), (9, 0), (9, 0)], [], σ) (fun r σ' => r = some (0, mLft (mDay ρ b 0 np nt L) 0 (orA (fun j => (mDay ρ b 0 np nt L) 332 (8 * t + j)) k) (ρ 305 (8 * (6 * b + t) + k)) np) ∧ QS σ σ') := by
  obtain ⟨⟨hl, h05, h33⟩, hL, hN, hPT, hF, hA, hTp, hO, hM, hH⟩ := id h
  obtain ⟨⟨a1, a2, a3, a4⟩, ⟨b1, b2, b3, b4, b5⟩, ⟨c1, c2, c3, c4, c5⟩, hTr, hCa, hAf, hPr, hDi⟩ := id hL
  obtain ⟨hPb, ⟨y1, y2, y3⟩, hhi, hPp⟩ := id hPT
  have hL8 := (hTr t ht).2.2.2.1
  have hCn := (hCa t k ht hk).2.2
  refine TT.steps (cd := cd211) 3 (c' := (3, [(2, 0), (0, ((t : Nat) : Int)), (0, ((k : Nat) : Int)), (9, 0), (9, 0)], [(0, ((k : Nat) : Int)), (0, ((t : Nat) : Int)), (2, 0)], σ)) rfl rfl ?_
  refine TT.call (cd := cd211) rfl rfl rfl (by decide) rfl (w_isCall X hl t ((k : Nat) : Int) σ h05 nt a2 c2 ht) (fun r1 σ1 hq => ?_)
  rw [hq.1, hq.2, (hTr t ht).1, if_pos ⟨by omega, by omega⟩]
  refine TT.steps (cd := cd211) 4 (c' := (10, [(2, 0), (0, ((t : Nat) : Int)), (0, ((k : Nat) : Int)), (9, 0), (9, 0)], [(2, 36), (2, 0)], σ)) rfl rfl ?_
  refine TT.call (cd := cd211) rfl rfl rfl (by decide) rfl (w_tryDay_36 X hl h05 hL hPb hhi hF) (fun r2 σ2 hq => ?_)
  obtain ⟨rfl, hFr, hPR, hDD⟩ := hq
  obtain ⟨⟨n1, hn1, hE⟩, hfull, h13⟩ := id hDD
  have hfu := hfull hF.2.2
  have hPb1 : PTb σ2 ρ 36 0 np ns := PTb_mv hPb (fun K j hK => hFr K j (by omega)) (fun _ _ _ => rfl)
  have hL1 : LT σ2 ρ _ b np nt ns L C := LT_mv hl hL (fun K j hK => hFr K j (by omega)) (fun _ _ _ => rfl) rfl
  have hQS : QS σ σ2 := fun K j hK => hFr K j (by omega)
  have qb : σ2 200 (C t k) = ((bs (fun p => decide (mBA ρ 0 p (C t k : Int))) np : Nat) : Int) := by rw [(hPR.2.1 (C t k) (by omega)).1]; refine congrArg (fun x : Nat => (x : Int)) (bs_c (fun p hp => ?_)); obtain ⟨⟨s1, -, e1, e2⟩, e3, -, -⟩ := hPb1.2 p hp; unfold mBA; rw [e1, e2, e3]
  have hOf : ∀ j, j < k → ∃ F : Nat → Bool, σ2 (232 + t) j = (mDay ρ b 0 np nt L) 332 (8 * t + j) ∧ (mDay ρ b 0 np nt L) 332 (8 * t + j) = ((bs F np : Nat) : Int) := fun j hj => by obtain ⟨Cm, Of, On, q1, q2, q3, q4, q5, q6, q7, q8, q9, q10⟩ := hE.2.2.2.2.2.2.1 t j ht (by rw [hfu t ht]; omega); exact ⟨Of, q3.trans q6.symm, q6⟩
  refine TT.steps (cd := cd211) 4 (c' := (15, [(2, 0), (0, ((t : Nat) : Int)), (0, ((k : Nat) : Int)), (0, 0), (0, 0)], [], σ2)) rfl rfl ?_
  refine kl_left X _ t k (fun j => (mDay ρ b 0 np nt L) 332 (8 * t + j)) (by omega) (by omega) σ2 (fun j hj => (hOf j hj).choose_spec.1) ?_ k 0 (by omega)
  refine TT.steps (cd := cd211) 7 (c' := (38, [(2, 0), (0, ((t : Nat) : Int)), (0, ((k : Nat) : Int)), (0, (orA (fun j => (mDay ρ b 0 np nt L) 332 (8 * t + j)) k)), (0, ((k : Nat) : Int))], [(2, (σ2 0 5)), (2, 200), (0, (orA (fun j => (mDay ρ b 0 np nt L) 332 (8 * t + j)) k))], σ2)) rfl rfl ?_
  refine TT.top0 (z := 8) ((hFr 0 (5) (by omega)).trans h05) ?_
  refine TT.steps (cd := cd211) 2 (c' := (40, [(2, 0), (0, ((t : Nat) : Int)), (0, ((k : Nat) : Int)), (0, (orA (fun j => (mDay ρ b 0 np nt L) 332 (8 * t + j)) k)), (0, ((k : Nat) : Int))], [(0, ((t : Nat) : Int)), (2, 16), (2, 200), (0, (orA (fun j => (mDay ρ b 0 np nt L) 332 (8 * t + j)) k))], σ2)) rfl rfl ?_
  refine TT.aaldN (cd := cd211) 16 (t) (17 + t) rfl rfl rfl (Or.inr rfl) (show t < 6 by omega) (fxg_16 t (by omega)) ?_
  refine TT.steps (cd := cd211) 1 (c' := (42, [(2, 0), (0, ((t : Nat) : Int)), (0, ((k : Nat) : Int)), (0, (orA (fun j => (mDay ρ b 0 np nt L) 332 (8 * t + j)) k)), (0, ((k : Nat) : Int))], [(0, ((k : Nat) : Int)), (2, ((17 + t : Nat) : Int)), (2, 200), (0, (orA (fun j => (mDay ρ b 0 np nt L) 332 (8 * t + j)) k))], σ2)) rfl rfl ?_
  refine TT.aldN (cd := cd211) (17 + t) (k) rfl rfl rfl (kdg_16 t (by omega)).1 (show k < ln (17 + t) by rw [(kdg_16 t (by omega)).2]; omega) ?_
  refine TT.top0 (z := (((C t k) : Nat) : Int)) ((hFr (17 + t) (k) (by omega)).trans (hCa t k ht hk).1) ?_
  refine TT.aldN (cd := cd211) (200) ((C t k)) rfl rfl rfl rfl (show (C t k) < 14 by omega) ?_
  refine TT.top0 (z := ((bs (fun p => decide (mBA ρ 0 p (C t k : Int))) np : Nat) : Int)) qb ?_
  refine TT.steps (cd := cd211) 1 (c' := (45, [(2, 0), (0, ((t : Nat) : Int)), (0, ((k : Nat) : Int)), (0, (orA (fun j => (mDay ρ b 0 np nt L) 332 (8 * t + j)) k)), (0, ((k : Nat) : Int))], [(0, (aAnd (orA (fun j => (mDay ρ b 0 np nt L) 332 (8 * t + j)) k) ((bs (fun p => decide (mBA ρ 0 p (C t k : Int))) np : Nat) : Int)))], σ2)) rfl rfl ?_
  refine TT.ret (cd := cd211) rfl rfl rfl rfl ⟨?_, hQS⟩
  obtain ⟨A, hA⟩ := orA_set (f := (fun j => (mDay ρ b 0 np nt L) 332 (8 * t + j))) (n := k) (np := np) (by omega) (fun j hj => ⟨_, (hOf j hj).choose_spec.2⟩)
  rw [hA, mLft_set _ _ _ _ _ c1 np (by omega), bs_and _ _ (by omega)]
  refine congrArg (fun x : Nat => some (0, (x : Int))) (bs_c (fun p hp => ?_))
  rw [show decide (np ≤ p) = false from decide_eq_false (by omega), Bool.false_or, (hCa t k ht hk).2.1]
  unfold mBA
  rw [mDay_fr _ _ _ _ _ _ 318 _ (by omega), mDay_fr _ _ _ _ _ _ 319 _ (by omega)]
theorem K_left2_170 (X : AX) {σ ρ : AH} {b np nt ns : Nat} {L : Nat → Nat} {C : Nat → Nat → Nat} {w tp u tl oc : Nat} (h : IV σ ρ 170 b np nt ns L C w tp u tl oc) (t k : Nat) (ht : t < nt) (hk : k < L t)  : TT X 211 (0, [(2, 0), (0, ((t : Nat) : Int)), (0, ((k : Nat) : Int)), (9, 0), (9, 0)], [], σ) (fun r σ' => r = some (0, mLft (mDay ρ b 0 np nt L) 0 (orA (fun j => (mDay ρ b 0 np nt L) 332 (8 * t + j)) k) (ρ 305 (8 * (6 * b + t) + k)) np) ∧ QS σ σ') := by
  obtain ⟨⟨hl, h05, h33⟩, hL, hN, hPT, hF, hA, hTp, hO, hM, hH⟩ := id h
  obtain ⟨⟨a1, a2, a3, a4⟩, ⟨b1, b2, b3, b4, b5⟩, ⟨c1, c2, c3, c4, c5⟩, hTr, hCa, hAf, hPr, hDi⟩ := id hL
  obtain ⟨hPb, ⟨y1, y2, y3⟩, hhi, hPp⟩ := id hPT
  have hL8 := (hTr t ht).2.2.2.1
  have hCn := (hCa t k ht hk).2.2
  refine TT.steps (cd := cd211) 3 (c' := (3, [(2, 0), (0, ((t : Nat) : Int)), (0, ((k : Nat) : Int)), (9, 0), (9, 0)], [(0, ((k : Nat) : Int)), (0, ((t : Nat) : Int)), (2, 0)], σ)) rfl rfl ?_
  refine TT.call (cd := cd211) rfl rfl rfl (by decide) rfl (w_isCall X hl t ((k : Nat) : Int) σ h05 nt a2 c2 ht) (fun r1 σ1 hq => ?_)
  rw [hq.1, hq.2, (hTr t ht).1, if_pos ⟨by omega, by omega⟩]
  refine TT.steps (cd := cd211) 4 (c' := (10, [(2, 0), (0, ((t : Nat) : Int)), (0, ((k : Nat) : Int)), (9, 0), (9, 0)], [(2, 36), (2, 0)], σ)) rfl rfl ?_
  refine TT.call (cd := cd211) rfl rfl rfl (by decide) rfl (w_tryDay_36 X hl h05 hL hPb hhi hF) (fun r2 σ2 hq => ?_)
  obtain ⟨rfl, hFr, hPR, hDD⟩ := hq
  obtain ⟨⟨n1, hn1, hE⟩, hfull, h13⟩ := id hDD
  have hfu := hfull hF.2.2
  have hPb1 : PTb σ2 ρ 36 0 np ns := PTb_mv hPb (fun K j hK => hFr K j (by omega)) (fun _ _ _ => rfl)
  have hL1 : LT σ2 ρ _ b np nt ns L C := LT_mv hl hL (fun K j hK => hFr K j (by omega)) (fun _ _ _ => rfl) rfl
  have hQS : QS σ σ2 := fun K j hK => hFr K j (by omega)
  have qb : σ2 200 (C t k) = ((bs (fun p => decide (mBA ρ 0 p (C t k : Int))) np : Nat) : Int) := by rw [(hPR.2.1 (C t k) (by omega)).1]; refine congrArg (fun x : Nat => (x : Int)) (bs_c (fun p hp => ?_)); obtain ⟨⟨s1, -, e1, e2⟩, e3, -, -⟩ := hPb1.2 p hp; unfold mBA; rw [e1, e2, e3]
  have hOf : ∀ j, j < k → ∃ F : Nat → Bool, σ2 (232 + t) j = (mDay ρ b 0 np nt L) 332 (8 * t + j) ∧ (mDay ρ b 0 np nt L) 332 (8 * t + j) = ((bs F np : Nat) : Int) := fun j hj => by obtain ⟨Cm, Of, On, q1, q2, q3, q4, q5, q6, q7, q8, q9, q10⟩ := hE.2.2.2.2.2.2.1 t j ht (by rw [hfu t ht]; omega); exact ⟨Of, q3.trans q6.symm, q6⟩
  refine TT.steps (cd := cd211) 4 (c' := (15, [(2, 0), (0, ((t : Nat) : Int)), (0, ((k : Nat) : Int)), (0, 0), (0, 0)], [], σ2)) rfl rfl ?_
  refine kl_left X _ t k (fun j => (mDay ρ b 0 np nt L) 332 (8 * t + j)) (by omega) (by omega) σ2 (fun j hj => (hOf j hj).choose_spec.1) ?_ k 0 (by omega)
  refine TT.steps (cd := cd211) 7 (c' := (38, [(2, 0), (0, ((t : Nat) : Int)), (0, ((k : Nat) : Int)), (0, (orA (fun j => (mDay ρ b 0 np nt L) 332 (8 * t + j)) k)), (0, ((k : Nat) : Int))], [(2, (σ2 0 5)), (2, 200), (0, (orA (fun j => (mDay ρ b 0 np nt L) 332 (8 * t + j)) k))], σ2)) rfl rfl ?_
  refine TT.top0 (z := 170) ((hFr 0 (5) (by omega)).trans h05) ?_
  refine TT.steps (cd := cd211) 2 (c' := (40, [(2, 0), (0, ((t : Nat) : Int)), (0, ((k : Nat) : Int)), (0, (orA (fun j => (mDay ρ b 0 np nt L) 332 (8 * t + j)) k)), (0, ((k : Nat) : Int))], [(0, ((t : Nat) : Int)), (2, 178), (2, 200), (0, (orA (fun j => (mDay ρ b 0 np nt L) 332 (8 * t + j)) k))], σ2)) rfl rfl ?_
  refine TT.aaldN (cd := cd211) 178 (t) (179 + t) rfl rfl rfl (Or.inr rfl) (show t < 6 by omega) (fxg_178 t (by omega)) ?_
  refine TT.steps (cd := cd211) 1 (c' := (42, [(2, 0), (0, ((t : Nat) : Int)), (0, ((k : Nat) : Int)), (0, (orA (fun j => (mDay ρ b 0 np nt L) 332 (8 * t + j)) k)), (0, ((k : Nat) : Int))], [(0, ((k : Nat) : Int)), (2, ((179 + t : Nat) : Int)), (2, 200), (0, (orA (fun j => (mDay ρ b 0 np nt L) 332 (8 * t + j)) k))], σ2)) rfl rfl ?_
  refine TT.aldN (cd := cd211) (179 + t) (k) rfl rfl rfl (kdg_178 t (by omega)).1 (show k < ln (179 + t) by rw [(kdg_178 t (by omega)).2]; omega) ?_
  refine TT.top0 (z := (((C t k) : Nat) : Int)) ((hFr (179 + t) (k) (by omega)).trans (hCa t k ht hk).1) ?_
  refine TT.aldN (cd := cd211) (200) ((C t k)) rfl rfl rfl rfl (show (C t k) < 14 by omega) ?_
  refine TT.top0 (z := ((bs (fun p => decide (mBA ρ 0 p (C t k : Int))) np : Nat) : Int)) qb ?_
  refine TT.steps (cd := cd211) 1 (c' := (45, [(2, 0), (0, ((t : Nat) : Int)), (0, ((k : Nat) : Int)), (0, (orA (fun j => (mDay ρ b 0 np nt L) 332 (8 * t + j)) k)), (0, ((k : Nat) : Int))], [(0, (aAnd (orA (fun j => (mDay ρ b 0 np nt L) 332 (8 * t + j)) k) ((bs (fun p => decide (mBA ρ 0 p (C t k : Int))) np : Nat) : Int)))], σ2)) rfl rfl ?_
  refine TT.ret (cd := cd211) rfl rfl rfl rfl ⟨?_, hQS⟩
  obtain ⟨A, hA⟩ := orA_set (f := (fun j => (mDay ρ b 0 np nt L) 332 (8 * t + j))) (n := k) (np := np) (by omega) (fun j hj => ⟨_, (hOf j hj).choose_spec.2⟩)
  rw [hA, mLft_set _ _ _ _ _ c1 np (by omega), bs_and _ _ (by omega)]
  refine congrArg (fun x : Nat => some (0, (x : Int))) (bs_c (fun p hp => ?_))
  rw [show decide (np ≤ p) = false from decide_eq_false (by omega), Bool.false_or, (hCa t k ht hk).2.1]
  unfold mBA
  rw [mDay_fr _ _ _ _ _ _ 318 _ (by omega), mDay_fr _ _ _ _ _ _ 319 _ (by omega)]
theorem K_left2 (X : AX) {l : Nat} {σ ρ : AH} {b np nt ns : Nat} {L : Nat → Nat} {C : Nat → Nat → Nat} {w tp u tl oc : Nat} (h : IV σ ρ l b np nt ns L C w tp u tl oc) (t k : Nat) (ht : t < nt) (hk : k < L t)  : TT X 211 (0, [(2, 0), (0, ((t : Nat) : Int)), (0, ((k : Nat) : Int)), (9, 0), (9, 0)], [], σ) (fun r σ' => r = some (0, mLft (mDay ρ b 0 np nt L) 0 (orA (fun j => (mDay ρ b 0 np nt L) 332 (8 * t + j)) k) (ρ 305 (8 * (6 * b + t) + k)) np) ∧ QS σ σ') := by
  rcases h.1.1 with rfl | rfl
  · exact K_left2_8 X h t k ht hk
  · exact K_left2_170 X h t k ht hk
theorem K_whole0_8 (X : AX) {σ ρ : AH} {b np nt ns : Nat} {L : Nat → Nat} {C : Nat → Nat → Nat} {w tp u tl oc : Nat} (h : IV σ ρ 8 b np nt ns L C w tp u tl oc)  : TT X 199 (0, [(2, 0), (0, 0)], [], σ) (fun r σ' => r = some (0, mArr (mDay ρ b 0 np nt L) np) ∧ QS σ σ') := by
  obtain ⟨⟨hl, h05, h33⟩, hL, hN, hPT, hF, hA, hTp, hO, hM, hH⟩ := id h
  obtain ⟨⟨a1, a2, a3, a4⟩, ⟨b1, b2, b3, b4, b5⟩, ⟨c1, c2, c3, c4, c5⟩, hTr, hCa, hAf, hPr, hDi⟩ := id hL
  obtain ⟨hPb, ⟨y1, y2, y3⟩, hhi, hPp⟩ := id hPT
  refine TT.steps (cd := cd199) 3 (c' := (3, [(2, 0), (0, 0)], [(2, 36), (2, 0)], σ)) rfl rfl ?_
  refine TT.call (cd := cd199) rfl rfl rfl (by decide) rfl (w_tryDay_36 X hl h05 hL hPb hhi hF) (fun r1 σ1 hq => ?_)
  obtain ⟨rfl, hFr, hPR, hDD⟩ := hq
  obtain ⟨⟨n1, hn1, hE⟩, hfull, h13⟩ := id hDD
  have hfu := hfull hF.2.2
  have hPb1 : PTb σ1 ρ 36 0 np ns := PTb_mv hPb (fun K j hK => hFr K j (by omega)) (fun _ _ _ => rfl)
  have hL1 : LT σ1 ρ _ b np nt ns L C := LT_mv hl hL (fun K j hK => hFr K j (by omega)) (fun _ _ _ => rfl) rfl
  have hQS : QS σ σ1 := fun K j hK => hFr K j (by omega)
  refine TT.steps (cd := cd199) 5 (c' := (9, [(2, 0), (0, 0)], [(0, (σ1 198 7))], σ1)) rfl rfl ?_
  refine TT.top0 (z := ((bs (fun p => decide ((mDay ρ b 0 np nt L) 337 p = 1)) np : Nat) : Int)) hE.2.2.2.2.1.1 ?_
  refine TT.call (cd := cd199) rfl rfl rfl (by decide) rfl (u_bitCount X ((bs (fun p => decide ((mDay ρ b 0 np nt L) 337 p = 1)) np : Nat) : Int) σ1) (fun r2 σ2 hq => ?_)
  rw [hq.1, hq.2, bs_count (fun p => decide ((mDay ρ b 0 np nt L) 337 p = 1)) (by omega)]
  refine TT.ret (cd := cd199) rfl rfl rfl rfl ⟨?_, hQS⟩
  unfold mArr
  rw [sumA_01 (by omega) (fun p hp => (hE.2.2.2.1 p hp).2.2.2.2.2.2.2)]
theorem K_whole0_170 (X : AX) {σ ρ : AH} {b np nt ns : Nat} {L : Nat → Nat} {C : Nat → Nat → Nat} {w tp u tl oc : Nat} (h : IV σ ρ 170 b np nt ns L C w tp u tl oc)  : TT X 199 (0, [(2, 0), (0, 0)], [], σ) (fun r σ' => r = some (0, mArr (mDay ρ b 0 np nt L) np) ∧ QS σ σ') := by
  obtain ⟨⟨hl, h05, h33⟩, hL, hN, hPT, hF, hA, hTp, hO, hM, hH⟩ := id h
  obtain ⟨⟨a1, a2, a3, a4⟩, ⟨b1, b2, b3, b4, b5⟩, ⟨c1, c2, c3, c4, c5⟩, hTr, hCa, hAf, hPr, hDi⟩ := id hL
  obtain ⟨hPb, ⟨y1, y2, y3⟩, hhi, hPp⟩ := id hPT
  refine TT.steps (cd := cd199) 3 (c' := (3, [(2, 0), (0, 0)], [(2, 36), (2, 0)], σ)) rfl rfl ?_
  refine TT.call (cd := cd199) rfl rfl rfl (by decide) rfl (w_tryDay_36 X hl h05 hL hPb hhi hF) (fun r1 σ1 hq => ?_)
  obtain ⟨rfl, hFr, hPR, hDD⟩ := hq
  obtain ⟨⟨n1, hn1, hE⟩, hfull, h13⟩ := id hDD
  have hfu := hfull hF.2.2
  have hPb1 : PTb σ1 ρ 36 0 np ns := PTb_mv hPb (fun K j hK => hFr K j (by omega)) (fun _ _ _ => rfl)
  have hL1 : LT σ1 ρ _ b np nt ns L C := LT_mv hl hL (fun K j hK => hFr K j (by omega)) (fun _ _ _ => rfl) rfl
  have hQS : QS σ σ1 := fun K j hK => hFr K j (by omega)
  refine TT.steps (cd := cd199) 5 (c' := (9, [(2, 0), (0, 0)], [(0, (σ1 198 7))], σ1)) rfl rfl ?_
  refine TT.top0 (z := ((bs (fun p => decide ((mDay ρ b 0 np nt L) 337 p = 1)) np : Nat) : Int)) hE.2.2.2.2.1.1 ?_
  refine TT.call (cd := cd199) rfl rfl rfl (by decide) rfl (u_bitCount X ((bs (fun p => decide ((mDay ρ b 0 np nt L) 337 p = 1)) np : Nat) : Int) σ1) (fun r2 σ2 hq => ?_)
  rw [hq.1, hq.2, bs_count (fun p => decide ((mDay ρ b 0 np nt L) 337 p = 1)) (by omega)]
  refine TT.ret (cd := cd199) rfl rfl rfl rfl ⟨?_, hQS⟩
  unfold mArr
  rw [sumA_01 (by omega) (fun p hp => (hE.2.2.2.1 p hp).2.2.2.2.2.2.2)]
theorem K_whole0 (X : AX) {l : Nat} {σ ρ : AH} {b np nt ns : Nat} {L : Nat → Nat} {C : Nat → Nat → Nat} {w tp u tl oc : Nat} (h : IV σ ρ l b np nt ns L C w tp u tl oc)  : TT X 199 (0, [(2, 0), (0, 0)], [], σ) (fun r σ' => r = some (0, mArr (mDay ρ b 0 np nt L) np) ∧ QS σ σ') := by
  rcases h.1.1 with rfl | rfl
  · exact K_whole0_8 X h 
  · exact K_whole0_170 X h 
theorem K_whole1_8 (X : AX) {σ ρ : AH} {b np nt ns : Nat} {L : Nat → Nat} {C : Nat → Nat → Nat} {w tp u tl oc : Nat} (h : IV σ ρ 8 b np nt ns L C w tp u tl oc)  : TT X 199 (0, [(2, 0), (0, 1)], [], σ) (fun r σ' => r = some (0, sumA (fun p => if mStrC (mDay ρ b 0 np nt L) 0 p then 1 else 0) np) ∧ QS σ σ') := by
  obtain ⟨⟨hl, h05, h33⟩, hL, hN, hPT, hF, hA, hTp, hO, hM, hH⟩ := id h
  obtain ⟨⟨a1, a2, a3, a4⟩, ⟨b1, b2, b3, b4, b5⟩, ⟨c1, c2, c3, c4, c5⟩, hTr, hCa, hAf, hPr, hDi⟩ := id hL
  obtain ⟨hPb, ⟨y1, y2, y3⟩, hhi, hPp⟩ := id hPT
  refine TT.steps (cd := cd199) 3 (c' := (3, [(2, 0), (0, 1)], [(2, 36), (2, 0)], σ)) rfl rfl ?_
  refine TT.call (cd := cd199) rfl rfl rfl (by decide) rfl (w_tryDay_36 X hl h05 hL hPb hhi hF) (fun r1 σ1 hq => ?_)
  obtain ⟨rfl, hFr, hPR, hDD⟩ := hq
  obtain ⟨⟨n1, hn1, hE⟩, hfull, h13⟩ := id hDD
  have hfu := hfull hF.2.2
  have hPb1 : PTb σ1 ρ 36 0 np ns := PTb_mv hPb (fun K j hK => hFr K j (by omega)) (fun _ _ _ => rfl)
  have hL1 : LT σ1 ρ _ b np nt ns L C := LT_mv hl hL (fun K j hK => hFr K j (by omega)) (fun _ _ _ => rfl) rfl
  have hQS : QS σ σ1 := fun K j hK => hFr K j (by omega)
  refine TT.steps (cd := cd199) 4 (c' := (13, [(2, 0), (0, 1)], [(2, 198)], σ1)) rfl rfl ?_
  refine TT.call (cd := cd199) rfl rfl rfl (by decide) rfl (v_stranded X (Or.inl rfl) hDD hPR c1 hPb1) (fun r2 σ2 hq => ?_)
  rw [hq.1, hq.2]
  refine TT.call (cd := cd199) rfl rfl rfl (by decide) rfl (u_bitCount X ((bs (fun p => decide (mStrC (mDay ρ b 0 np nt L) 0 p)) np : Nat) : Int) σ1) (fun r3 σ3 hq => ?_)
  rw [hq.1, hq.2, bs_count (fun p => decide (mStrC (mDay ρ b 0 np nt L) 0 p)) (by omega)]
  refine TT.ret (cd := cd199) rfl rfl rfl rfl ⟨?_, hQS⟩
  rw [← sumA_cnt _ (by omega)]
  simp only [decide_eq_true_eq]
theorem K_whole1_170 (X : AX) {σ ρ : AH} {b np nt ns : Nat} {L : Nat → Nat} {C : Nat → Nat → Nat} {w tp u tl oc : Nat} (h : IV σ ρ 170 b np nt ns L C w tp u tl oc)  : TT X 199 (0, [(2, 0), (0, 1)], [], σ) (fun r σ' => r = some (0, sumA (fun p => if mStrC (mDay ρ b 0 np nt L) 0 p then 1 else 0) np) ∧ QS σ σ') := by
  obtain ⟨⟨hl, h05, h33⟩, hL, hN, hPT, hF, hA, hTp, hO, hM, hH⟩ := id h
  obtain ⟨⟨a1, a2, a3, a4⟩, ⟨b1, b2, b3, b4, b5⟩, ⟨c1, c2, c3, c4, c5⟩, hTr, hCa, hAf, hPr, hDi⟩ := id hL
  obtain ⟨hPb, ⟨y1, y2, y3⟩, hhi, hPp⟩ := id hPT
  refine TT.steps (cd := cd199) 3 (c' := (3, [(2, 0), (0, 1)], [(2, 36), (2, 0)], σ)) rfl rfl ?_
  refine TT.call (cd := cd199) rfl rfl rfl (by decide) rfl (w_tryDay_36 X hl h05 hL hPb hhi hF) (fun r1 σ1 hq => ?_)
  obtain ⟨rfl, hFr, hPR, hDD⟩ := hq
  obtain ⟨⟨n1, hn1, hE⟩, hfull, h13⟩ := id hDD
  have hfu := hfull hF.2.2
  have hPb1 : PTb σ1 ρ 36 0 np ns := PTb_mv hPb (fun K j hK => hFr K j (by omega)) (fun _ _ _ => rfl)
  have hL1 : LT σ1 ρ _ b np nt ns L C := LT_mv hl hL (fun K j hK => hFr K j (by omega)) (fun _ _ _ => rfl) rfl
  have hQS : QS σ σ1 := fun K j hK => hFr K j (by omega)
  refine TT.steps (cd := cd199) 4 (c' := (13, [(2, 0), (0, 1)], [(2, 198)], σ1)) rfl rfl ?_
  refine TT.call (cd := cd199) rfl rfl rfl (by decide) rfl (v_stranded X (Or.inl rfl) hDD hPR c1 hPb1) (fun r2 σ2 hq => ?_)
  rw [hq.1, hq.2]
  refine TT.call (cd := cd199) rfl rfl rfl (by decide) rfl (u_bitCount X ((bs (fun p => decide (mStrC (mDay ρ b 0 np nt L) 0 p)) np : Nat) : Int) σ1) (fun r3 σ3 hq => ?_)
  rw [hq.1, hq.2, bs_count (fun p => decide (mStrC (mDay ρ b 0 np nt L) 0 p)) (by omega)]
  refine TT.ret (cd := cd199) rfl rfl rfl rfl ⟨?_, hQS⟩
  rw [← sumA_cnt _ (by omega)]
  simp only [decide_eq_true_eq]
theorem K_whole1 (X : AX) {l : Nat} {σ ρ : AH} {b np nt ns : Nat} {L : Nat → Nat} {C : Nat → Nat → Nat} {w tp u tl oc : Nat} (h : IV σ ρ l b np nt ns L C w tp u tl oc)  : TT X 199 (0, [(2, 0), (0, 1)], [], σ) (fun r σ' => r = some (0, sumA (fun p => if mStrC (mDay ρ b 0 np nt L) 0 p then 1 else 0) np) ∧ QS σ σ') := by
  rcases h.1.1 with rfl | rfl
  · exact K_whole1_8 X h 
  · exact K_whole1_170 X h 
theorem K_whole2_8 (X : AX) {σ ρ : AH} {b np nt ns : Nat} {L : Nat → Nat} {C : Nat → Nat → Nat} {w tp u tl oc : Nat} (h : IV σ ρ 8 b np nt ns L C w tp u tl oc)  : TT X 199 (0, [(2, 0), (0, 2)], [], σ) (fun r σ' => r = some (0, sumT (fun t k => (mDay ρ b 0 np nt L) 325 (8 * t + k)) L nt) ∧ QS σ σ') := by
  obtain ⟨⟨hl, h05, h33⟩, hL, hN, hPT, hF, hA, hTp, hO, hM, hH⟩ := id h
  obtain ⟨⟨a1, a2, a3, a4⟩, ⟨b1, b2, b3, b4, b5⟩, ⟨c1, c2, c3, c4, c5⟩, hTr, hCa, hAf, hPr, hDi⟩ := id hL
  obtain ⟨hPb, ⟨y1, y2, y3⟩, hhi, hPp⟩ := id hPT
  refine TT.steps (cd := cd199) 3 (c' := (3, [(2, 0), (0, 2)], [(2, 36), (2, 0)], σ)) rfl rfl ?_
  refine TT.call (cd := cd199) rfl rfl rfl (by decide) rfl (w_tryDay_36 X hl h05 hL hPb hhi hF) (fun r1 σ1 hq => ?_)
  obtain ⟨rfl, hFr, hPR, hDD⟩ := hq
  obtain ⟨⟨n1, hn1, hE⟩, hfull, h13⟩ := id hDD
  have hfu := hfull hF.2.2
  have hPb1 : PTb σ1 ρ 36 0 np ns := PTb_mv hPb (fun K j hK => hFr K j (by omega)) (fun _ _ _ => rfl)
  have hL1 : LT σ1 ρ _ b np nt ns L C := LT_mv hl hL (fun K j hK => hFr K j (by omega)) (fun _ _ _ => rfl) rfl
  have hQS : QS σ σ1 := fun K j hK => hFr K j (by omega)
  refine TT.steps (cd := cd199) 7 (c' := (21, [(2, 0), (0, 2)], [(2, (σ1 0 5)), (2, 216)], σ1)) rfl rfl ?_
  refine TT.top0 (z := 8) ((hFr 0 (5) (by omega)).trans h05) ?_
  refine TT.steps (cd := cd199) 1 (c' := (22, [(2, 0), (0, 2)], [(0, (σ1 8 2)), (2, 216)], σ1)) rfl rfl ?_
  refine TT.top0 (z := ((nt : Nat) : Int)) ((hFr 8 (2) (by omega)).trans a2) ?_
  refine TT.call (cd := cd199) rfl rfl rfl (by decide) rfl (u_countStops X nt _ σ1 c2 (fun t ht => (hE.2.2.2.2.2.2.2.1 t ht).1)) (fun r2 σ2 hq => ?_)
  rw [hq.1, hq.2]
  refine TT.ret (cd := cd199) rfl rfl rfl rfl ⟨?_, hQS⟩
  obtain ⟨m, -, e1, e2⟩ := sumT_01 (f := fun t k => (mDay ρ b 0 np nt L) 325 (8 * t + k)) (L := L) c2 (fun t ht => (hTr t ht).2.2.2.1) (fun t k ht hk => by obtain ⟨Cm, Of, On, q1, q2, q3, q4, q5, q6, q7, q8, q9, q10⟩ := hE.2.2.2.2.2.2.1 t k ht (by rw [hfu t ht]; omega); exact q10)
  rw [e1, ← e2]
  refine congrArg (fun x => some (0, x)) (sumA_c (fun t ht => congrArg (fun x : Nat => (x : Int)) (cnt_c (fun k hk => decide_eq_decide.mpr ?_))))
  rw [hfu t ht]
  omega
theorem K_whole2_170 (X : AX) {σ ρ : AH} {b np nt ns : Nat} {L : Nat → Nat} {C : Nat → Nat → Nat} {w tp u tl oc : Nat} (h : IV σ ρ 170 b np nt ns L C w tp u tl oc)  : TT X 199 (0, [(2, 0), (0, 2)], [], σ) (fun r σ' => r = some (0, sumT (fun t k => (mDay ρ b 0 np nt L) 325 (8 * t + k)) L nt) ∧ QS σ σ') := by
  obtain ⟨⟨hl, h05, h33⟩, hL, hN, hPT, hF, hA, hTp, hO, hM, hH⟩ := id h
  obtain ⟨⟨a1, a2, a3, a4⟩, ⟨b1, b2, b3, b4, b5⟩, ⟨c1, c2, c3, c4, c5⟩, hTr, hCa, hAf, hPr, hDi⟩ := id hL
  obtain ⟨hPb, ⟨y1, y2, y3⟩, hhi, hPp⟩ := id hPT
  refine TT.steps (cd := cd199) 3 (c' := (3, [(2, 0), (0, 2)], [(2, 36), (2, 0)], σ)) rfl rfl ?_
  refine TT.call (cd := cd199) rfl rfl rfl (by decide) rfl (w_tryDay_36 X hl h05 hL hPb hhi hF) (fun r1 σ1 hq => ?_)
  obtain ⟨rfl, hFr, hPR, hDD⟩ := hq
  obtain ⟨⟨n1, hn1, hE⟩, hfull, h13⟩ := id hDD
  have hfu := hfull hF.2.2
  have hPb1 : PTb σ1 ρ 36 0 np ns := PTb_mv hPb (fun K j hK => hFr K j (by omega)) (fun _ _ _ => rfl)
  have hL1 : LT σ1 ρ _ b np nt ns L C := LT_mv hl hL (fun K j hK => hFr K j (by omega)) (fun _ _ _ => rfl) rfl
  have hQS : QS σ σ1 := fun K j hK => hFr K j (by omega)
  refine TT.steps (cd := cd199) 7 (c' := (21, [(2, 0), (0, 2)], [(2, (σ1 0 5)), (2, 216)], σ1)) rfl rfl ?_
  refine TT.top0 (z := 170) ((hFr 0 (5) (by omega)).trans h05) ?_
  refine TT.steps (cd := cd199) 1 (c' := (22, [(2, 0), (0, 2)], [(0, (σ1 170 2)), (2, 216)], σ1)) rfl rfl ?_
  refine TT.top0 (z := ((nt : Nat) : Int)) ((hFr 170 (2) (by omega)).trans a2) ?_
  refine TT.call (cd := cd199) rfl rfl rfl (by decide) rfl (u_countStops X nt _ σ1 c2 (fun t ht => (hE.2.2.2.2.2.2.2.1 t ht).1)) (fun r2 σ2 hq => ?_)
  rw [hq.1, hq.2]
  refine TT.ret (cd := cd199) rfl rfl rfl rfl ⟨?_, hQS⟩
  obtain ⟨m, -, e1, e2⟩ := sumT_01 (f := fun t k => (mDay ρ b 0 np nt L) 325 (8 * t + k)) (L := L) c2 (fun t ht => (hTr t ht).2.2.2.1) (fun t k ht hk => by obtain ⟨Cm, Of, On, q1, q2, q3, q4, q5, q6, q7, q8, q9, q10⟩ := hE.2.2.2.2.2.2.1 t k ht (by rw [hfu t ht]; omega); exact q10)
  rw [e1, ← e2]
  refine congrArg (fun x => some (0, x)) (sumA_c (fun t ht => congrArg (fun x : Nat => (x : Int)) (cnt_c (fun k hk => decide_eq_decide.mpr ?_))))
  rw [hfu t ht]
  omega
theorem K_whole2 (X : AX) {l : Nat} {σ ρ : AH} {b np nt ns : Nat} {L : Nat → Nat} {C : Nat → Nat → Nat} {w tp u tl oc : Nat} (h : IV σ ρ l b np nt ns L C w tp u tl oc)  : TT X 199 (0, [(2, 0), (0, 2)], [], σ) (fun r σ' => r = some (0, sumT (fun t k => (mDay ρ b 0 np nt L) 325 (8 * t + k)) L nt) ∧ QS σ σ') := by
  rcases h.1.1 with rfl | rfl
  · exact K_whole2_8 X h 
  · exact K_whole2_170 X h 
theorem K_whole3_8 (X : AX) {σ ρ : AH} {b np nt ns : Nat} {L : Nat → Nat} {C : Nat → Nat → Nat} {w tp u tl oc : Nat} (h : IV σ ρ 8 b np nt ns L C w tp u tl oc)  : TT X 199 (0, [(2, 0), (0, 3)], [], σ) (fun r σ' => r = some (0, sumT (fun t k => (mDay ρ b 0 np nt L) 330 (8 * t + k)) L nt) ∧ QS σ σ') := by
  obtain ⟨⟨hl, h05, h33⟩, hL, hN, hPT, hF, hA, hTp, hO, hM, hH⟩ := id h
  obtain ⟨⟨a1, a2, a3, a4⟩, ⟨b1, b2, b3, b4, b5⟩, ⟨c1, c2, c3, c4, c5⟩, hTr, hCa, hAf, hPr, hDi⟩ := id hL
  obtain ⟨hPb, ⟨y1, y2, y3⟩, hhi, hPp⟩ := id hPT
  refine TT.steps (cd := cd199) 3 (c' := (3, [(2, 0), (0, 3)], [(2, 36), (2, 0)], σ)) rfl rfl ?_
  refine TT.call (cd := cd199) rfl rfl rfl (by decide) rfl (w_tryDay_36 X hl h05 hL hPb hhi hF) (fun r1 σ1 hq => ?_)
  obtain ⟨rfl, hFr, hPR, hDD⟩ := hq
  obtain ⟨⟨n1, hn1, hE⟩, hfull, h13⟩ := id hDD
  have hfu := hfull hF.2.2
  have hPb1 : PTb σ1 ρ 36 0 np ns := PTb_mv hPb (fun K j hK => hFr K j (by omega)) (fun _ _ _ => rfl)
  have hL1 : LT σ1 ρ _ b np nt ns L C := LT_mv hl hL (fun K j hK => hFr K j (by omega)) (fun _ _ _ => rfl) rfl
  have hQS : QS σ σ1 := fun K j hK => hFr K j (by omega)
  refine TT.steps (cd := cd199) 7 (c' := (29, [(2, 0), (0, 3)], [(2, (σ1 0 5)), (2, 216)], σ1)) rfl rfl ?_
  refine TT.top0 (z := 8) ((hFr 0 (5) (by omega)).trans h05) ?_
  refine TT.steps (cd := cd199) 1 (c' := (30, [(2, 0), (0, 3)], [(0, (σ1 8 2)), (2, 216)], σ1)) rfl rfl ?_
  refine TT.top0 (z := ((nt : Nat) : Int)) ((hFr 8 (2) (by omega)).trans a2) ?_
  refine TT.call (cd := cd199) rfl rfl rfl (by decide) rfl (u_countBetween X nt _ σ1 c2 (fun t ht => (hE.2.2.2.2.2.2.2.1 t ht).2)) (fun r2 σ2 hq => ?_)
  rw [hq.1, hq.2]
  refine TT.ret (cd := cd199) rfl rfl rfl rfl ⟨?_, hQS⟩
  obtain ⟨m, -, e1, e2⟩ := sumT_01 (f := fun t k => (mDay ρ b 0 np nt L) 330 (8 * t + k)) (L := L) c2 (fun t ht => (hTr t ht).2.2.2.1) (fun t k ht hk => hE.2.2.2.2.2.2.2.2.1 t k ht hk (by rw [hfu t ht]; omega))
  rw [e1, ← e2]
  refine congrArg (fun x => some (0, x)) (sumA_c (fun t ht => congrArg (fun x : Nat => (x : Int)) (cnt_c (fun k hk => decide_eq_decide.mpr ?_))))
  rw [hfu t ht]
  omega
theorem K_whole3_170 (X : AX) {σ ρ : AH} {b np nt ns : Nat} {L : Nat → Nat} {C : Nat → Nat → Nat} {w tp u tl oc : Nat} (h : IV σ ρ 170 b np nt ns L C w tp u tl oc)  : TT X 199 (0, [(2, 0), (0, 3)], [], σ) (fun r σ' => r = some (0, sumT (fun t k => (mDay ρ b 0 np nt L) 330 (8 * t + k)) L nt) ∧ QS σ σ') := by
  obtain ⟨⟨hl, h05, h33⟩, hL, hN, hPT, hF, hA, hTp, hO, hM, hH⟩ := id h
  obtain ⟨⟨a1, a2, a3, a4⟩, ⟨b1, b2, b3, b4, b5⟩, ⟨c1, c2, c3, c4, c5⟩, hTr, hCa, hAf, hPr, hDi⟩ := id hL
  obtain ⟨hPb, ⟨y1, y2, y3⟩, hhi, hPp⟩ := id hPT
  refine TT.steps (cd := cd199) 3 (c' := (3, [(2, 0), (0, 3)], [(2, 36), (2, 0)], σ)) rfl rfl ?_
  refine TT.call (cd := cd199) rfl rfl rfl (by decide) rfl (w_tryDay_36 X hl h05 hL hPb hhi hF) (fun r1 σ1 hq => ?_)
  obtain ⟨rfl, hFr, hPR, hDD⟩ := hq
  obtain ⟨⟨n1, hn1, hE⟩, hfull, h13⟩ := id hDD
  have hfu := hfull hF.2.2
  have hPb1 : PTb σ1 ρ 36 0 np ns := PTb_mv hPb (fun K j hK => hFr K j (by omega)) (fun _ _ _ => rfl)
  have hL1 : LT σ1 ρ _ b np nt ns L C := LT_mv hl hL (fun K j hK => hFr K j (by omega)) (fun _ _ _ => rfl) rfl
  have hQS : QS σ σ1 := fun K j hK => hFr K j (by omega)
  refine TT.steps (cd := cd199) 7 (c' := (29, [(2, 0), (0, 3)], [(2, (σ1 0 5)), (2, 216)], σ1)) rfl rfl ?_
  refine TT.top0 (z := 170) ((hFr 0 (5) (by omega)).trans h05) ?_
  refine TT.steps (cd := cd199) 1 (c' := (30, [(2, 0), (0, 3)], [(0, (σ1 170 2)), (2, 216)], σ1)) rfl rfl ?_
  refine TT.top0 (z := ((nt : Nat) : Int)) ((hFr 170 (2) (by omega)).trans a2) ?_
  refine TT.call (cd := cd199) rfl rfl rfl (by decide) rfl (u_countBetween X nt _ σ1 c2 (fun t ht => (hE.2.2.2.2.2.2.2.1 t ht).2)) (fun r2 σ2 hq => ?_)
  rw [hq.1, hq.2]
  refine TT.ret (cd := cd199) rfl rfl rfl rfl ⟨?_, hQS⟩
  obtain ⟨m, -, e1, e2⟩ := sumT_01 (f := fun t k => (mDay ρ b 0 np nt L) 330 (8 * t + k)) (L := L) c2 (fun t ht => (hTr t ht).2.2.2.1) (fun t k ht hk => hE.2.2.2.2.2.2.2.2.1 t k ht hk (by rw [hfu t ht]; omega))
  rw [e1, ← e2]
  refine congrArg (fun x => some (0, x)) (sumA_c (fun t ht => congrArg (fun x : Nat => (x : Int)) (cnt_c (fun k hk => decide_eq_decide.mpr ?_))))
  rw [hfu t ht]
  omega
theorem K_whole3 (X : AX) {l : Nat} {σ ρ : AH} {b np nt ns : Nat} {L : Nat → Nat} {C : Nat → Nat → Nat} {w tp u tl oc : Nat} (h : IV σ ρ l b np nt ns L C w tp u tl oc)  : TT X 199 (0, [(2, 0), (0, 3)], [], σ) (fun r σ' => r = some (0, sumT (fun t k => (mDay ρ b 0 np nt L) 330 (8 * t + k)) L nt) ∧ QS σ σ') := by
  rcases h.1.1 with rfl | rfl
  · exact K_whole3_8 X h 
  · exact K_whole3_170 X h 
theorem K_whole4_8 (X : AX) {σ ρ : AH} {b np nt ns : Nat} {L : Nat → Nat} {C : Nat → Nat → Nat} {w tp u tl oc : Nat} (h : IV σ ρ 8 b np nt ns L C w tp u tl oc)  : TT X 199 (0, [(2, 0), (0, 4)], [], σ) (fun r σ' => r = some (0, maxA (fun t => (mDay ρ b 0 np nt L) 324 t) nt) ∧ QS σ σ') := by
  obtain ⟨⟨hl, h05, h33⟩, hL, hN, hPT, hF, hA, hTp, hO, hM, hH⟩ := id h
  obtain ⟨⟨a1, a2, a3, a4⟩, ⟨b1, b2, b3, b4, b5⟩, ⟨c1, c2, c3, c4, c5⟩, hTr, hCa, hAf, hPr, hDi⟩ := id hL
  obtain ⟨hPb, ⟨y1, y2, y3⟩, hhi, hPp⟩ := id hPT
  refine TT.steps (cd := cd199) 3 (c' := (3, [(2, 0), (0, 4)], [(2, 36), (2, 0)], σ)) rfl rfl ?_
  refine TT.call (cd := cd199) rfl rfl rfl (by decide) rfl (w_tryDay_36 X hl h05 hL hPb hhi hF) (fun r1 σ1 hq => ?_)
  obtain ⟨rfl, hFr, hPR, hDD⟩ := hq
  obtain ⟨⟨n1, hn1, hE⟩, hfull, h13⟩ := id hDD
  have hfu := hfull hF.2.2
  have hPb1 : PTb σ1 ρ 36 0 np ns := PTb_mv hPb (fun K j hK => hFr K j (by omega)) (fun _ _ _ => rfl)
  have hL1 : LT σ1 ρ _ b np nt ns L C := LT_mv hl hL (fun K j hK => hFr K j (by omega)) (fun _ _ _ => rfl) rfl
  have hQS : QS σ σ1 := fun K j hK => hFr K j (by omega)
  refine TT.steps (cd := cd199) 7 (c' := (37, [(2, 0), (0, 4)], [(2, (σ1 0 5)), (2, 216)], σ1)) rfl rfl ?_
  refine TT.top0 (z := 8) ((hFr 0 (5) (by omega)).trans h05) ?_
  refine TT.call (cd := cd199) rfl rfl rfl (by decide) rfl (u_lastMinute_8 X nt L σ1 ((hFr _ _ (by omega)).trans a2) c2 (fun t ht => by rw [hFr _ _ (by omega)]; obtain ⟨e1, -, e2, e3, -⟩ := hTr t ht; exact ⟨e1, by omega, e3⟩)) (fun r2 σ2 hq => ?_)
  rw [hq.1, hq.2]
  refine TT.ret (cd := cd199) rfl rfl rfl rfl ⟨?_, hQS⟩
  refine congrArg (fun x => some (0, x)) (maxA_c (fun t ht => ?_))
  obtain ⟨-, -, e2, e3, -⟩ := hTr t ht
  obtain ⟨Cm, Of, On, q1, -⟩ := hE.2.2.2.2.2.2.1 t (L t - 1) ht (by rw [hfu t ht]; omega)
  rw [q1]
  exact mDay_J hL t ht (hfu t ht)
theorem K_whole4_170 (X : AX) {σ ρ : AH} {b np nt ns : Nat} {L : Nat → Nat} {C : Nat → Nat → Nat} {w tp u tl oc : Nat} (h : IV σ ρ 170 b np nt ns L C w tp u tl oc)  : TT X 199 (0, [(2, 0), (0, 4)], [], σ) (fun r σ' => r = some (0, maxA (fun t => (mDay ρ b 0 np nt L) 324 t) nt) ∧ QS σ σ') := by
  obtain ⟨⟨hl, h05, h33⟩, hL, hN, hPT, hF, hA, hTp, hO, hM, hH⟩ := id h
  obtain ⟨⟨a1, a2, a3, a4⟩, ⟨b1, b2, b3, b4, b5⟩, ⟨c1, c2, c3, c4, c5⟩, hTr, hCa, hAf, hPr, hDi⟩ := id hL
  obtain ⟨hPb, ⟨y1, y2, y3⟩, hhi, hPp⟩ := id hPT
  refine TT.steps (cd := cd199) 3 (c' := (3, [(2, 0), (0, 4)], [(2, 36), (2, 0)], σ)) rfl rfl ?_
  refine TT.call (cd := cd199) rfl rfl rfl (by decide) rfl (w_tryDay_36 X hl h05 hL hPb hhi hF) (fun r1 σ1 hq => ?_)
  obtain ⟨rfl, hFr, hPR, hDD⟩ := hq
  obtain ⟨⟨n1, hn1, hE⟩, hfull, h13⟩ := id hDD
  have hfu := hfull hF.2.2
  have hPb1 : PTb σ1 ρ 36 0 np ns := PTb_mv hPb (fun K j hK => hFr K j (by omega)) (fun _ _ _ => rfl)
  have hL1 : LT σ1 ρ _ b np nt ns L C := LT_mv hl hL (fun K j hK => hFr K j (by omega)) (fun _ _ _ => rfl) rfl
  have hQS : QS σ σ1 := fun K j hK => hFr K j (by omega)
  refine TT.steps (cd := cd199) 7 (c' := (37, [(2, 0), (0, 4)], [(2, (σ1 0 5)), (2, 216)], σ1)) rfl rfl ?_
  refine TT.top0 (z := 170) ((hFr 0 (5) (by omega)).trans h05) ?_
  refine TT.call (cd := cd199) rfl rfl rfl (by decide) rfl (u_lastMinute_170 X nt L σ1 ((hFr _ _ (by omega)).trans a2) c2 (fun t ht => by rw [hFr _ _ (by omega)]; obtain ⟨e1, -, e2, e3, -⟩ := hTr t ht; exact ⟨e1, by omega, e3⟩)) (fun r2 σ2 hq => ?_)
  rw [hq.1, hq.2]
  refine TT.ret (cd := cd199) rfl rfl rfl rfl ⟨?_, hQS⟩
  refine congrArg (fun x => some (0, x)) (maxA_c (fun t ht => ?_))
  obtain ⟨-, -, e2, e3, -⟩ := hTr t ht
  obtain ⟨Cm, Of, On, q1, -⟩ := hE.2.2.2.2.2.2.1 t (L t - 1) ht (by rw [hfu t ht]; omega)
  rw [q1]
  exact mDay_J hL t ht (hfu t ht)
theorem K_whole4 (X : AX) {l : Nat} {σ ρ : AH} {b np nt ns : Nat} {L : Nat → Nat} {C : Nat → Nat → Nat} {w tp u tl oc : Nat} (h : IV σ ρ l b np nt ns L C w tp u tl oc)  : TT X 199 (0, [(2, 0), (0, 4)], [], σ) (fun r σ' => r = some (0, maxA (fun t => (mDay ρ b 0 np nt L) 324 t) nt) ∧ QS σ σ') := by
  rcases h.1.1 with rfl | rfl
  · exact K_whole4_8 X h 
  · exact K_whole4_170 X h 
theorem K_whole5_8 (X : AX) {σ ρ : AH} {b np nt ns : Nat} {L : Nat → Nat} {C : Nat → Nat → Nat} {w tp u tl oc : Nat} (h : IV σ ρ 8 b np nt ns L C w tp u tl oc)  : TT X 199 (0, [(2, 0), (0, 5)], [], σ) (fun r σ' => r = some (0, mGood (mDay ρ b 0 np nt L) 0 np) ∧ QS σ σ') := by
  obtain ⟨⟨hl, h05, h33⟩, hL, hN, hPT, hF, hA, hTp, hO, hM, hH⟩ := id h
  obtain ⟨⟨a1, a2, a3, a4⟩, ⟨b1, b2, b3, b4, b5⟩, ⟨c1, c2, c3, c4, c5⟩, hTr, hCa, hAf, hPr, hDi⟩ := id hL
  obtain ⟨hPb, ⟨y1, y2, y3⟩, hhi, hPp⟩ := id hPT
  refine TT.steps (cd := cd199) 3 (c' := (3, [(2, 0), (0, 5)], [(2, 36), (2, 0)], σ)) rfl rfl ?_
  refine TT.call (cd := cd199) rfl rfl rfl (by decide) rfl (w_tryDay_36 X hl h05 hL hPb hhi hF) (fun r1 σ1 hq => ?_)
  obtain ⟨rfl, hFr, hPR, hDD⟩ := hq
  obtain ⟨⟨n1, hn1, hE⟩, hfull, h13⟩ := id hDD
  have hfu := hfull hF.2.2
  have hPb1 : PTb σ1 ρ 36 0 np ns := PTb_mv hPb (fun K j hK => hFr K j (by omega)) (fun _ _ _ => rfl)
  have hL1 : LT σ1 ρ _ b np nt ns L C := LT_mv hl hL (fun K j hK => hFr K j (by omega)) (fun _ _ _ => rfl) rfl
  have hQS : QS σ σ1 := fun K j hK => hFr K j (by omega)
  refine TT.steps (cd := cd199) 4 (c' := (41, [(2, 0), (0, 5)], [(2, 198)], σ1)) rfl rfl ?_
  refine TT.call (cd := cd199) rfl rfl rfl (by decide) rfl (v_countGood X hl hDD hF.2.2 hPR hL1 hPb1) (fun r2 σ2 hq => ?_)
  rw [hq.1, hq.2]
  exact TT.ret (cd := cd199) rfl rfl rfl rfl ⟨rfl, hQS⟩
theorem K_whole5_170 (X : AX) {σ ρ : AH} {b np nt ns : Nat} {L : Nat → Nat} {C : Nat → Nat → Nat} {w tp u tl oc : Nat} (h : IV σ ρ 170 b np nt ns L C w tp u tl oc)  : TT X 199 (0, [(2, 0), (0, 5)], [], σ) (fun r σ' => r = some (0, mGood (mDay ρ b 0 np nt L) 0 np) ∧ QS σ σ') := by
  obtain ⟨⟨hl, h05, h33⟩, hL, hN, hPT, hF, hA, hTp, hO, hM, hH⟩ := id h
  obtain ⟨⟨a1, a2, a3, a4⟩, ⟨b1, b2, b3, b4, b5⟩, ⟨c1, c2, c3, c4, c5⟩, hTr, hCa, hAf, hPr, hDi⟩ := id hL
  obtain ⟨hPb, ⟨y1, y2, y3⟩, hhi, hPp⟩ := id hPT
  refine TT.steps (cd := cd199) 3 (c' := (3, [(2, 0), (0, 5)], [(2, 36), (2, 0)], σ)) rfl rfl ?_
  refine TT.call (cd := cd199) rfl rfl rfl (by decide) rfl (w_tryDay_36 X hl h05 hL hPb hhi hF) (fun r1 σ1 hq => ?_)
  obtain ⟨rfl, hFr, hPR, hDD⟩ := hq
  obtain ⟨⟨n1, hn1, hE⟩, hfull, h13⟩ := id hDD
  have hfu := hfull hF.2.2
  have hPb1 : PTb σ1 ρ 36 0 np ns := PTb_mv hPb (fun K j hK => hFr K j (by omega)) (fun _ _ _ => rfl)
  have hL1 : LT σ1 ρ _ b np nt ns L C := LT_mv hl hL (fun K j hK => hFr K j (by omega)) (fun _ _ _ => rfl) rfl
  have hQS : QS σ σ1 := fun K j hK => hFr K j (by omega)
  refine TT.steps (cd := cd199) 4 (c' := (41, [(2, 0), (0, 5)], [(2, 198)], σ1)) rfl rfl ?_
  refine TT.call (cd := cd199) rfl rfl rfl (by decide) rfl (v_countGood X hl hDD hF.2.2 hPR hL1 hPb1) (fun r2 σ2 hq => ?_)
  rw [hq.1, hq.2]
  exact TT.ret (cd := cd199) rfl rfl rfl rfl ⟨rfl, hQS⟩
theorem K_whole5 (X : AX) {l : Nat} {σ ρ : AH} {b np nt ns : Nat} {L : Nat → Nat} {C : Nat → Nat → Nat} {w tp u tl oc : Nat} (h : IV σ ρ l b np nt ns L C w tp u tl oc)  : TT X 199 (0, [(2, 0), (0, 5)], [], σ) (fun r σ' => r = some (0, mGood (mDay ρ b 0 np nt L) 0 np) ∧ QS σ σ') := by
  rcases h.1.1 with rfl | rfl
  · exact K_whole5_8 X h 
  · exact K_whole5_170 X h 
theorem K_wholeN (X : AX) {l : Nat} {σ ρ : AH} {b np nt ns : Nat} {L : Nat → Nat} {C : Nat → Nat → Nat} {w tp u tl oc : Nat} (h : IV σ ρ l b np nt ns L C w tp u tl oc) (w0 : Int) (hw0 : w0 < 0 ∨ 5 < w0)  : TT X 199 (0, [(2, 0), (0, w0)], [], σ) (fun r σ' => r = some (0, -1) ∧ QS σ σ') := by
  obtain ⟨⟨hl, h05, h33⟩, hL, hN, hPT, hF, hA, hTp, hO, hM, hH⟩ := id h
  obtain ⟨⟨a1, a2, a3, a4⟩, ⟨b1, b2, b3, b4, b5⟩, ⟨c1, c2, c3, c4, c5⟩, hTr, hCa, hAf, hPr, hDi⟩ := id hL
  obtain ⟨hPb, ⟨y1, y2, y3⟩, hhi, hPp⟩ := id hPT
  refine TT.steps (cd := cd199) 3 (c' := (3, [(2, 0), (0, w0)], [(2, 36), (2, 0)], σ)) rfl rfl ?_
  refine TT.call (cd := cd199) rfl rfl rfl (by decide) rfl (w_tryDay_36 X hl h05 hL hPb hhi hF) (fun r1 σ1 hq => ?_)
  obtain ⟨rfl, hFr, hPR, hDD⟩ := hq
  obtain ⟨⟨n1, hn1, hE⟩, hfull, h13⟩ := id hDD
  have hfu := hfull hF.2.2
  have hPb1 : PTb σ1 ρ 36 0 np ns := PTb_mv hPb (fun K j hK => hFr K j (by omega)) (fun _ _ _ => rfl)
  have hL1 : LT σ1 ρ _ b np nt ns L C := LT_mv hl hL (fun K j hK => hFr K j (by omega)) (fun _ _ _ => rfl) rfl
  have hQS : QS σ σ1 := fun K j hK => hFr K j (by omega)
  refine TT.steps (cd := cd199) 2 (c' := ((swOf [(0, 6), (1, 11), (2, 16), (3, 24), (4, 32), (5, 39)] 43 w0), [(2, 0), (0, w0)], [], σ1)) rfl rfl ?_
  refine TT.swc (fun h2 => ?_) (fun h2 => ?_)
  · omega
  refine TT.swc (fun h3 => ?_) (fun h3 => ?_)
  · omega
  refine TT.swc (fun h4 => ?_) (fun h4 => ?_)
  · omega
  refine TT.swc (fun h5 => ?_) (fun h5 => ?_)
  · omega
  refine TT.swc (fun h6 => ?_) (fun h6 => ?_)
  · omega
  refine TT.swc (fun h7 => ?_) (fun h7 => ?_)
  · omega
  show TT X 199 (43, [(2, 0), (0, w0)], [], σ1) _
  refine TT.steps (cd := cd199) 1 (c' := (44, [(2, 0), (0, w0)], [(0, -1)], σ1)) rfl rfl ?_
  exact TT.ret (cd := cd199) rfl rfl rfl rfl (⟨rfl, hQS⟩)
theorem K_worth0 (X : AX) {l : Nat} {σ ρ : AH} {b np nt ns : Nat} {L : Nat → Nat} {C : Nat → Nat → Nat} {w tp u tl oc : Nat} (h : IV σ ρ l b np nt ns L C w tp u tl oc) (p : Int) (hp : ¬ (0 ≤ p ∧ p < (np : Int)))  : TT X 204 (0, [(2, 0), (0, p), (9, 0)], [], σ) (fun r σ' => r = some (0, -1) ∧ QS σ σ') := by
  obtain ⟨⟨hl, h05, h33⟩, hL, hN, hPT, hF, hA, hTp, hO, hM, hH⟩ := id h
  obtain ⟨⟨a1, a2, a3, a4⟩, ⟨b1, b2, b3, b4, b5⟩, ⟨c1, c2, c3, c4, c5⟩, hTr, hCa, hAf, hPr, hDi⟩ := id hL
  obtain ⟨hPb, ⟨y1, y2, y3⟩, hhi, hPp⟩ := id hPT
  refine TT.steps (cd := cd204) 2 (c' := (2, [(2, 0), (0, p), (9, 0)], [(0, p), (2, 0)], σ)) rfl rfl ?_
  refine TT.call (cd := cd204) rfl rfl rfl (by decide) rfl (w_isPerson X p σ) (fun r1 σ1 hq => ?_)
  rw [hq.1, hq.2, hPb.1, if_neg hp]
  refine TT.steps (cd := cd204) 2 (c' := (5, [(2, 0), (0, p), (9, 0)], [(0, -1)], σ)) rfl rfl ?_
  exact TT.ret (cd := cd204) rfl rfl rfl rfl (⟨rfl, QS.refl σ⟩)
theorem K_stay0 (X : AX) {l : Nat} {σ ρ : AH} {b np nt ns : Nat} {L : Nat → Nat} {C : Nat → Nat → Nat} {w tp u tl oc : Nat} (h : IV σ ρ l b np nt ns L C w tp u tl oc) (p : Int) (hp : ¬ (0 ≤ p ∧ p < (np : Int)))  : TT X 206 (0, [(2, 0), (0, p)], [], σ) (fun r σ' => r = some (0, -1) ∧ QS σ σ') := by
  obtain ⟨⟨hl, h05, h33⟩, hL, hN, hPT, hF, hA, hTp, hO, hM, hH⟩ := id h
  obtain ⟨⟨a1, a2, a3, a4⟩, ⟨b1, b2, b3, b4, b5⟩, ⟨c1, c2, c3, c4, c5⟩, hTr, hCa, hAf, hPr, hDi⟩ := id hL
  obtain ⟨hPb, ⟨y1, y2, y3⟩, hhi, hPp⟩ := id hPT
  refine TT.steps (cd := cd206) 2 (c' := (2, [(2, 0), (0, p)], [(0, p), (2, 0)], σ)) rfl rfl ?_
  refine TT.call (cd := cd206) rfl rfl rfl (by decide) rfl (w_isPerson X p σ) (fun r1 σ1 hq => ?_)
  rw [hq.1, hq.2, hPb.1, if_neg hp]
  refine TT.steps (cd := cd206) 2 (c' := (5, [(2, 0), (0, p)], [(0, -1)], σ)) rfl rfl ?_
  exact TT.ret (cd := cd206) rfl rfl rfl rfl (⟨rfl, QS.refl σ⟩)
theorem TT.st0 {X : AX} {m k : Nat} {ls st st' : List AV} {σ : AH} {Q : Option AV → AH → Prop} (h : st = st') (kk : TT X m (k, ls, st', σ) Q) : TT X m (k, ls, st, σ) Q := by rw [h]; exact kk
theorem K_worth1 (X : AX) {l : Nat} {σ ρ : AH} {b np nt ns : Nat} {L : Nat → Nat} {C : Nat → Nat → Nat} {w tp u tl oc : Nat} (h : IV σ ρ l b np nt ns L C w tp u tl oc) (p : Nat) (hp : p < np)  : TT X 204 (0, [(2, 0), (0, ((p : Nat) : Int)), (9, 0)], [], σ) (fun r σ' => r = some (0, aSub (aAdd 100 (mGood (mDay ρ b 0 np nt L) 0 np)) (mGood (mDay (up2 (mDay ρ b 0 np nt L) 295 44 ((p : Nat) : Int)) b 0 np nt L) 0 np)) ∧ QS σ σ') := by
  obtain ⟨⟨hl, h05, h33⟩, hL, hN, hPT, hF, hA, hTp, hO, hM, hH⟩ := id h
  obtain ⟨⟨a1, a2, a3, a4⟩, ⟨b1, b2, b3, b4, b5⟩, ⟨c1, c2, c3, c4, c5⟩, hTr, hCa, hAf, hPr, hDi⟩ := id hL
  obtain ⟨hPb, ⟨y1, y2, y3⟩, hhi, hPp⟩ := id hPT
  have hU2' : (up2 (mDay ρ b 0 np nt L) 295 44 ((p : Nat) : Int)) 295 57 = -1 := (up2_nq _ (by omega)).trans ((mDay_5 _ _ _ _ _ _ _ (by decide)).trans hF.2.2)
  refine TT.steps (cd := cd204) 2 (c' := (2, [(2, 0), (0, ((p : Nat) : Int)), (9, 0)], [(0, ((p : Nat) : Int)), (2, 0)], σ)) rfl rfl ?_
  refine TT.call (cd := cd204) rfl rfl rfl (by decide) rfl (w_isPerson X ((p : Nat) : Int) σ) (fun r1 σ1 hq => ?_)
  rw [hq.1, hq.2, hPb.1, if_pos ⟨by omega, by omega⟩]
  refine TT.steps (cd := cd204) 4 (c' := (9, [(2, 0), (0, ((p : Nat) : Int)), (9, 0)], [(2, 36), (2, 0)], σ)) rfl rfl ?_
  refine TT.call (cd := cd204) rfl rfl rfl (by decide) rfl (w_tryDay_36 X hl h05 hL hPb hhi hF) (fun r2 σ2 hq => ?_)
  obtain ⟨rfl, hFr, hPR, hDD⟩ := hq
  obtain ⟨⟨n1, hn1, hE⟩, hfull, h13⟩ := id hDD
  have hfu := hfull hF.2.2
  have hPb1 : PTb σ2 ρ 36 0 np ns := PTb_mv hPb (fun K j hK => hFr K j (by omega)) (fun _ _ _ => rfl)
  have hL1 : LT σ2 ρ _ b np nt ns L C := LT_mv hl hL (fun K j hK => hFr K j (by omega)) (fun _ _ _ => rfl) rfl
  have hQS : QS σ σ2 := fun K j hK => hFr K j (by omega)
  have hL2 : LT σ2 (up2 (mDay ρ b 0 np nt L) 295 44 ((p : Nat) : Int)) l b np nt ns L C := LT_mv hl hL1 (fun _ _ _ => rfl) (fun K j hK => (up2_far _ _ _ _ (by omega)).trans (mDay_fr _ _ _ _ _ _ _ _ (by omega))) ((up2_nq _ (by omega)).trans (mDay_5 _ _ _ _ _ _ _ (by decide)))
  have hPb2 : PTb σ2 (up2 (mDay ρ b 0 np nt L) 295 44 ((p : Nat) : Int)) 36 0 np ns := PTb_mv hPb1 (fun _ _ _ => rfl) (fun K j hK => (up2_far _ _ _ _ (by omega)).trans (mDay_fr _ _ _ _ _ _ _ _ (by omega)))
  have z1 : ((bs (zH ρ 0) np : Nat) : Int) = ((bs (zH (up2 (mDay ρ b 0 np nt L) 295 44 ((p : Nat) : Int)) 0) np : Nat) : Int) := congrArg (fun x : Nat => (x : Int)) (bs_c (fun p _ => by show decide _ = decide _; rw [up2_far _ _ _ _ (by decide), mDay_fr _ _ _ _ _ _ _ _ (by decide)]))
  have z2 : ((bs (fun q => decide (q = p)) np : Nat) : Int) = ((bs (zAb (up2 (mDay ρ b 0 np nt L) 295 44 ((p : Nat) : Int))) np : Nat) : Int) := congrArg (fun x : Nat => (x : Int)) (bs_c (fun q _ => by show decide _ = decide _; rw [up2_hit]; exact decide_eq_decide.mpr (by omega)))
  have z3 : (0 : Int) = ((bs (zK (up2 (mDay ρ b 0 np nt L) 295 44 ((p : Nat) : Int))) np : Nat) : Int) := (zK_no ((up2_nq _ (by omega)).trans ((mDay_5 _ _ _ _ _ _ _ (by decide)).trans hF.2.1)) np).symm
  have hU2 : UN (up2 (mDay ρ b 0 np nt L) 295 44 ((p : Nat) : Int)) 9999 := Or.inl ⟨(up2_nq _ (by omega)).trans ((mDay_5 _ _ _ _ _ _ _ (by decide)).trans hF.2.2), rfl⟩
  have hgo := v_go X hl (Or.inl rfl) hPR hL2 hPb2 hU2
  refine TT.steps (cd := cd204) 2 (c' := (12, [(2, 0), (0, ((p : Nat) : Int)), (9, 0)], [(2, 198)], σ2)) rfl rfl ?_
  refine TT.call (cd := cd204) rfl rfl rfl (by decide) rfl (v_countGood X hl hDD hF.2.2 hPR hL1 hPb1) (fun r3 σ3 hq => ?_)
  rw [hq.1, hq.2]
  refine TT.steps (cd := cd204) 6 (c' := (19, [(2, 0), (0, ((p : Nat) : Int)), (0, (mGood (mDay ρ b 0 np nt L) 0 np))], [(0, (σ2 36 2)), (2, 198)], σ2)) rfl rfl ?_
  refine TT.top0 (z := ((bs (zH ρ 0) np : Nat) : Int)) ((hFr 36 (2) (by omega)).trans hhi) ?_
  refine TT.steps (cd := cd204) 3 (c' := (22, [(2, 0), (0, ((p : Nat) : Int)), (0, (mGood (mDay ρ b 0 np nt L) 0 np))], [(0, (aShl 1 ((p : Nat) : Int))), (0, ((bs (zH ρ 0) np : Nat) : Int)), (2, 198)], σ2)) rfl rfl ?_
  refine TT.top0 (z := ((bs (fun q => decide (q = p)) np : Nat) : Int)) (bs_shl (n := np) (p := p) (by omega) (by omega)) ?_
  refine TT.steps (cd := cd204) 2 (c' := (24, [(2, 0), (0, ((p : Nat) : Int)), (0, (mGood (mDay ρ b 0 np nt L) 0 np))], [(0, 9999), (0, 0), (0, ((bs (fun q => decide (q = p)) np : Nat) : Int)), (0, ((bs (zH ρ 0) np : Nat) : Int)), (2, 198)], σ2)) rfl rfl ?_
  refine TT.st0 (st' := [(0, 9999), (0, ((bs (zK (up2 (mDay ρ b 0 np nt L) 295 44 ((p : Nat) : Int))) np : Nat) : Int)), (0, ((bs (zAb (up2 (mDay ρ b 0 np nt L) 295 44 ((p : Nat) : Int))) np : Nat) : Int)), (0, ((bs (zH (up2 (mDay ρ b 0 np nt L) 295 44 ((p : Nat) : Int)) 0) np : Nat) : Int)), (2, 198)]) (by rw [← z1, ← z2, ← z3]) ?_
  refine TT.call (cd := cd204) rfl rfl rfl (by decide) rfl (hgo) (fun r4 σ4 hq => ?_)
  obtain ⟨rfl, hG3, hD3⟩ := hq
  have hPR3 : PR σ4 l 36 np nt L := PR_mv hl (Or.inl rfl) c2 hPR (fun K j hK => hG3.1 K j (by omega)) hG3.2
  have hL3 : LT σ4 (up2 (mDay ρ b 0 np nt L) 295 44 ((p : Nat) : Int)) l b np nt ns L C := LT_mv hl hL2 (fun K j hK => hG3.1 K j (by omega)) (fun _ _ _ => rfl) rfl
  have hPb3 : PTb σ4 (up2 (mDay ρ b 0 np nt L) 295 44 ((p : Nat) : Int)) 36 0 np ns := PTb_mv hPb2 (fun K j hK => hG3.1 K j (by omega)) (fun _ _ _ => rfl)
  have hQ3 : QS σ σ4 := fun K j hK => (hG3.1 K j (by omega)).trans (hFr K j (by omega))
  refine TT.steps (cd := cd204) 3 (c' := (28, [(2, 0), (0, ((p : Nat) : Int)), (0, (mGood (mDay ρ b 0 np nt L) 0 np))], [(2, 198), (0, (mGood (mDay ρ b 0 np nt L) 0 np))], σ4)) rfl rfl ?_
  refine TT.call (cd := cd204) rfl rfl rfl (by decide) rfl (v_countGood X hl hD3 hU2' hPR3 hL3 hPb3) (fun r5 σ5 hq => ?_)
  rw [hq.1, hq.2]
  refine TT.steps (cd := cd204) 1 (c' := (30, [(2, 0), (0, ((p : Nat) : Int)), (0, (mGood (mDay ρ b 0 np nt L) 0 np))], [(0, (aSub (mGood (mDay ρ b 0 np nt L) 0 np) (mGood (mDay (up2 (mDay ρ b 0 np nt L) 295 44 ((p : Nat) : Int)) b 0 np nt L) 0 np)))], σ4)) rfl rfl ?_
  refine TT.steps (cd := cd204) 2 (c' := (32, [(2, 0), (0, ((p : Nat) : Int)), (0, (mGood (mDay ρ b 0 np nt L) 0 np))], [(0, (aAdd (aSub (mGood (mDay ρ b 0 np nt L) 0 np) (mGood (mDay (up2 (mDay ρ b 0 np nt L) 295 44 ((p : Nat) : Int)) b 0 np nt L) 0 np)) 100))], σ4)) rfl rfl ?_
  refine TT.ret (cd := cd204) rfl rfl rfl rfl ⟨?_, hQ3⟩
  rw [mGood_c _ _ c1, mGood_c _ _ c1]
  have n1 := cnt_le (gdS (mDay ρ b 0 np nt L) 0) np
  have n2 := cnt_le (gdS (mDay (up2 (mDay ρ b 0 np nt L) 295 44 ((p : Nat) : Int)) b 0 np nt L) 0) np
  rw [aSub_of (by omega) (by omega), aAdd_of (by omega) (by omega), aAdd_of (by omega) (by omega), aSub_of (by omega) (by omega)]
  refine congrArg (fun x => some (0, x)) ?_
  omega
theorem K_stay1 (X : AX) {l : Nat} {σ ρ : AH} {b np nt ns : Nat} {L : Nat → Nat} {C : Nat → Nat → Nat} {w tp u tl oc : Nat} (h : IV σ ρ l b np nt ns L C w tp u tl oc) (p : Nat) (hp : p < np)  : TT X 206 (0, [(2, 0), (0, ((p : Nat) : Int))], [], σ) (fun r σ' => r = some (0, mGood (mDay (up2 ρ 295 45 ((p : Nat) : Int)) b 0 np nt L) 0 np) ∧ QS σ σ') := by
  obtain ⟨⟨hl, h05, h33⟩, hL, hN, hPT, hF, hA, hTp, hO, hM, hH⟩ := id h
  obtain ⟨⟨a1, a2, a3, a4⟩, ⟨b1, b2, b3, b4, b5⟩, ⟨c1, c2, c3, c4, c5⟩, hTr, hCa, hAf, hPr, hDi⟩ := id hL
  obtain ⟨hPb, ⟨y1, y2, y3⟩, hhi, hPp⟩ := id hPT
  refine TT.steps (cd := cd206) 2 (c' := (2, [(2, 0), (0, ((p : Nat) : Int))], [(0, ((p : Nat) : Int)), (2, 0)], σ)) rfl rfl ?_
  refine TT.call (cd := cd206) rfl rfl rfl (by decide) rfl (w_isPerson X ((p : Nat) : Int) σ) (fun r1 σ1 hq => ?_)
  rw [hq.1, hq.2, hPb.1, if_pos ⟨by omega, by omega⟩]
  refine TT.steps (cd := cd206) 5 (c' := (10, [(2, 0), (0, ((p : Nat) : Int))], [(2, (σ 0 5)), (2, 198)], σ)) rfl rfl ?_
  refine TT.top0 (z := ((l : Nat) : Int)) h05 ?_
  refine TT.steps (cd := cd206) 2 (c' := (12, [(2, 0), (0, ((p : Nat) : Int))], [(2, 36), (2, ((l : Nat) : Int)), (2, 198)], σ)) rfl rfl ?_
  refine TT.call (cd := cd206) rfl rfl rfl (by decide) rfl (v_prep X hl (Or.inl rfl) hL hPb) (fun r2 σ2 hq => ?_)
  obtain ⟨rfl, hP1, hF1⟩ := hq
  have hL5 : LT σ2 (up2 ρ 295 45 ((p : Nat) : Int)) l b np nt ns L C := LT_mv hl hL (fun K j hK => hF1 K j (by omega)) (fun K j hK => up2_far _ _ _ _ (by omega)) (up2_nq _ (by omega))
  have hPb5 : PTb σ2 (up2 ρ 295 45 ((p : Nat) : Int)) 36 0 np ns := PTb_mv hPb (fun K j hK => hF1 K j (by omega)) (fun K j hK => up2_far _ _ _ _ (by omega))
  have z1 : ((bs (zH ρ 0) np : Nat) : Int) = ((bs (zH (up2 ρ 295 45 ((p : Nat) : Int)) 0) np : Nat) : Int) := congrArg (fun x : Nat => (x : Int)) (bs_c (fun p _ => by show decide _ = decide _; rw [up2_far _ _ _ _ (by decide)]))
  have z2 : ((bs (fun q => decide (q = p)) np : Nat) : Int) = ((bs (zK (up2 ρ 295 45 ((p : Nat) : Int))) np : Nat) : Int) := congrArg (fun x : Nat => (x : Int)) (bs_c (fun q _ => by show decide _ = decide _; rw [up2_hit]; exact decide_eq_decide.mpr (by omega)))
  have z3 : (0 : Int) = ((bs (zAb (up2 ρ 295 45 ((p : Nat) : Int))) np : Nat) : Int) := (zAb_no ((up2_nq _ (by omega)).trans hF.1) np).symm
  have hU5 : (up2 ρ 295 45 ((p : Nat) : Int)) 295 57 = -1 := (up2_nq _ (by omega)).trans hF.2.2
  have hgo := v_go X hl (Or.inl rfl) hP1 hL5 hPb5 (U := 9999) (Or.inl ⟨hU5, rfl⟩)
  refine TT.steps (cd := cd206) 5 (c' := (18, [(2, 0), (0, ((p : Nat) : Int))], [(0, (σ2 36 2)), (2, 198)], σ2)) rfl rfl ?_
  refine TT.top0 (z := ((bs (zH ρ 0) np : Nat) : Int)) ((hF1 _ _ (by omega)).trans hhi) ?_
  refine TT.steps (cd := cd206) 4 (c' := (22, [(2, 0), (0, ((p : Nat) : Int))], [(0, (aShl 1 ((p : Nat) : Int))), (0, 0), (0, ((bs (zH ρ 0) np : Nat) : Int)), (2, 198)], σ2)) rfl rfl ?_
  refine TT.top0 (z := ((bs (fun q => decide (q = p)) np : Nat) : Int)) (bs_shl (n := np) (p := p) (by omega) (by omega)) ?_
  refine TT.steps (cd := cd206) 1 (c' := (23, [(2, 0), (0, ((p : Nat) : Int))], [(0, 9999), (0, ((bs (fun q => decide (q = p)) np : Nat) : Int)), (0, 0), (0, ((bs (zH ρ 0) np : Nat) : Int)), (2, 198)], σ2)) rfl rfl ?_
  refine TT.st0 (st' := [(0, 9999), (0, ((bs (zK (up2 ρ 295 45 ((p : Nat) : Int))) np : Nat) : Int)), (0, ((bs (zAb (up2 ρ 295 45 ((p : Nat) : Int))) np : Nat) : Int)), (0, ((bs (zH (up2 ρ 295 45 ((p : Nat) : Int)) 0) np : Nat) : Int)), (2, 198)]) (by rw [← z1, ← z2, ← z3]) ?_
  refine TT.call (cd := cd206) rfl rfl rfl (by decide) rfl (hgo) (fun r3 σ3 hq => ?_)
  obtain ⟨rfl, hG3, hD3⟩ := hq
  have hPR3 : PR σ3 l 36 np nt L := PR_mv hl (Or.inl rfl) c2 hP1 (fun K j hK => hG3.1 K j (by omega)) hG3.2
  have hL3 : LT σ3 (up2 ρ 295 45 ((p : Nat) : Int)) l b np nt ns L C := LT_mv hl hL5 (fun K j hK => hG3.1 K j (by omega)) (fun _ _ _ => rfl) rfl
  have hPb3 : PTb σ3 (up2 ρ 295 45 ((p : Nat) : Int)) 36 0 np ns := PTb_mv hPb5 (fun K j hK => hG3.1 K j (by omega)) (fun _ _ _ => rfl)
  have hQ3 : QS σ σ3 := fun K j hK => (hG3.1 K j (by omega)).trans (hF1 K j (by omega))
  refine TT.steps (cd := cd206) 2 (c' := (26, [(2, 0), (0, ((p : Nat) : Int))], [(2, 198)], σ3)) rfl rfl ?_
  refine TT.call (cd := cd206) rfl rfl rfl (by decide) rfl (v_countGood X hl hD3 hU5 hPR3 hL3 hPb3) (fun r4 σ4 hq => ?_)
  rw [hq.1, hq.2]
  exact TT.ret (cd := cd206) rfl rfl rfl rfl (⟨rfl, hQ3⟩)
