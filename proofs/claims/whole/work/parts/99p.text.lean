/-! train of the reference, where nothing is asked. -/
theorem t_trainM (X : AX) (t : Nat) (w : Int) (hw : 100 ≤ w) (np nt : Nat) (L : Nat → Nat) (σ : AH) {b : Nat} (hb : σ 295 13 = (b : Int)) (hb2 : b < 2) (hnp : σ 307 b = (np : Int)) (hnp2 : np ≤ 10) (hnt : σ 300 b = (nt : Int)) (hnt2 : nt ≤ 6) (hL : ∀ t, t < nt → σ 304 (6 * b + t) = (L t : Int) ∧ 2 ≤ L t ∧ L t ≤ 8) (ht : t < nt)  : TT X 67 (0, [(2, 295), (0, ((t : Nat) : Int)), (0, w)], [], σ) (fun r σ' => r = some (0, -1) ∧ σ' = σ) := by
  have hL8 := (hL t ht).2.2
  refine TT.steps (cd := cd67) 2 (c' := (2, [(2, 295), (0, ((t : Nat) : Int)), (0, w)], [(0, ((t : Nat) : Int)), (2, 295)], σ)) rfl rfl ?_
  refine TT.call (cd := cd67) rfl rfl rfl (by decide) rfl (t_isTrain X ((t : Nat) : Int) σ hb hb2) (fun r1 σ1 hq => ?_)
  rw [hq.1, hq.2, hnt]
  refine TT.steps (cd := cd67) 1 (c' := ((if decide (¬ ((if 0 ≤ ((t : Nat) : Int) ∧ ((t : Nat) : Int) < ((nt : Nat) : Int) then 1 else 0) : Int) = 0) = true then 6 else 4), [(2, 295), (0, ((t : Nat) : Int)), (0, w)], [], σ)) rfl rfl ?_
  refine TT.br (p := ¬ ((if 0 ≤ ((t : Nat) : Int) ∧ ((t : Nat) : Int) < ((nt : Nat) : Int) then 1 else 0) : Int) = 0) (fun h2 => ?_) (fun h2 => absurd (show ¬ ((if 0 ≤ ((t : Nat) : Int) ∧ ((t : Nat) : Int) < ((nt : Nat) : Int) then 1 else 0) : Int) = 0 by (rw [if_pos (by omega)]; decide)) h2)
  refine TT.steps (cd := cd67) 5 (c' := (11, [(2, 295), (0, ((t : Nat) : Int)), (0, w)], [(0, ((t : Nat) : Int)), (2, 295), (0, 9), (0, 10), (0, w)], σ)) rfl rfl ?_
  refine TT.call (cd := cd67) rfl rfl rfl (by decide) rfl (t_callsOf X t (by omega) σ hb hb2) (fun r3 σ3 hq => ?_)
  rw [hq.1, hq.2, (hL t ht).1]
  refine TT.steps (cd := cd67) 1 (c' := (13, [(2, 295), (0, ((t : Nat) : Int)), (0, w)], [(0, (aAdd 9 (((L t) : Nat) : Int))), (0, 10), (0, w)], σ)) rfl rfl ?_
  refine TT.top0 (z := ((9 + ((L t)) : Nat) : Int)) (aAdd_n (a := 9) (b := (L t)) (by omega)) ?_
  refine TT.call (cd := cd67) rfl rfl rfl (by decide) rfl (t_is X w 10 ((9 + ((L t)) : Nat) : Int) σ) (fun r4 σ4 hq => ?_)
  rw [hq.1, hq.2]
  refine TT.steps (cd := cd67) 1 (c' := ((if decide (((if (10 : Int) ≤ w ∧ (w : Int) ≤ ((9 + ((L t)) : Nat) : Int) then 1 else 0) : Int) = 0) = true then 22 else 15), [(2, 295), (0, ((t : Nat) : Int)), (0, w)], [], σ)) rfl rfl ?_
  refine TT.br (p := ((if (10 : Int) ≤ w ∧ (w : Int) ≤ ((9 + ((L t)) : Nat) : Int) then 1 else 0) : Int) = 0) (fun h5 => ?_) (fun h5 => ?_)
  · replace h5 := ite_f h5
    refine TT.steps (cd := cd67) 5 (c' := (27, [(2, 295), (0, ((t : Nat) : Int)), (0, w)], [(0, ((t : Nat) : Int)), (2, 295), (0, 19), (0, 21), (0, w)], σ)) rfl rfl ?_
    refine TT.call (cd := cd67) rfl rfl rfl (by decide) rfl (t_callsOf X t (by omega) σ hb hb2) (fun r6 σ6 hq => ?_)
    rw [hq.1, hq.2, (hL t ht).1]
    refine TT.steps (cd := cd67) 1 (c' := (29, [(2, 295), (0, ((t : Nat) : Int)), (0, w)], [(0, (aAdd 19 (((L t) : Nat) : Int))), (0, 21), (0, w)], σ)) rfl rfl ?_
    refine TT.top0 (z := ((19 + ((L t)) : Nat) : Int)) (aAdd_n (a := 19) (b := (L t)) (by omega)) ?_
    refine TT.call (cd := cd67) rfl rfl rfl (by decide) rfl (t_is X w 21 ((19 + ((L t)) : Nat) : Int) σ) (fun r7 σ7 hq => ?_)
    rw [hq.1, hq.2]
    refine TT.steps (cd := cd67) 1 (c' := ((if decide (((if (21 : Int) ≤ w ∧ (w : Int) ≤ ((19 + ((L t)) : Nat) : Int) then 1 else 0) : Int) = 0) = true then 38 else 31), [(2, 295), (0, ((t : Nat) : Int)), (0, w)], [], σ)) rfl rfl ?_
    refine TT.br (p := ((if (21 : Int) ≤ w ∧ (w : Int) ≤ ((19 + ((L t)) : Nat) : Int) then 1 else 0) : Int) = 0) (fun h8 => ?_) (fun h8 => ?_)
    · replace h8 := ite_f h8
      refine TT.steps (cd := cd67) 2 (c' := ((if decide (¬ w = 0) = true then 50 else 40), [(2, 295), (0, ((t : Nat) : Int)), (0, w)], [], σ)) rfl rfl ?_
      refine TT.br (p := ¬ w = 0) (fun h9 => ?_) (fun h9 => ?_)
      · refine TT.steps (cd := cd67) 3 (c' := ((if decide (¬ w = 1) = true then 63 else 53), [(2, 295), (0, ((t : Nat) : Int)), (0, w)], [], σ)) rfl rfl ?_
        refine TT.br (p := ¬ w = 1) (fun h10 => ?_) (fun h10 => ?_)
        · refine TT.steps (cd := cd67) 3 (c' := ((if decide (¬ w = 2) = true then 70 else 66), [(2, 295), (0, ((t : Nat) : Int)), (0, w)], [], σ)) rfl rfl ?_
          refine TT.br (p := ¬ w = 2) (fun h11 => ?_) (fun h11 => ?_)
          · refine TT.steps (cd := cd67) 1 (c' := (71, [(2, 295), (0, ((t : Nat) : Int)), (0, w)], [(0, -1)], σ)) rfl rfl ?_
            exact TT.ret (cd := cd67) rfl rfl rfl rfl (⟨rfl, rfl⟩)
          · omega
        · omega
      · omega
    · replace h8 := ite_t h8
      omega
  · replace h5 := ite_t h5
    omega
/-! Texts: what a token is. -/
abbrev Bl (c : Int) : Prop := c = 32 ∨ c = 10
abbrev An (c : Int) : Prop := mLet c ∨ mDig c
def lgF (f : Nat → Int) (s : Nat) : Nat → Nat := fun i => (f (s + i)).toNat - 96
def nuF (f : Nat → Int) (s : Nat) : Nat → Nat
  | 0 => 0
  | n + 1 => nuF f s n * 10 + ((f (s + n)).toNat - 48)
abbrev ownN (f : Nat → Int) (s n : Nat) : Int := ownI ownWs 1 (fun i => f (s + i)) n
def SKP (f : Nat → Int) (N p s : Nat) : Prop := p ≤ s ∧ s ≤ N ∧ (∀ j, p ≤ j → j < s → Bl (f j)) ∧ (s < N → ¬ Bl (f s))
def WRD (f : Nat → Int) (N s n : Nat) : Prop := 1 ≤ n ∧ s + n ≤ N ∧ (∀ i, i < n → mLet (f (s + i))) ∧ (s + n < N → ¬ mLet (f (s + n)))
/-- what begins at s -/
def TK1 (f : Nat → Int) (N : Nat) (k : Int) (s : Nat) (v : Int) (p' : Nat) : Prop :=
  (s = N ∧ k = 0)
  ∨ (s < N ∧ k = 16 ∧ f s = 59 ∧ p' = s + 1)
  ∨ (s < N ∧ k = 17 ∧ v = 0 ∧ f s ≠ 59 ∧ ¬ mLet (f s) ∧ ¬ mDig (f s))
  ∨ (s < N ∧ k = 17 ∧ v = 0 ∧ An (f s) ∧ 0 < s ∧ An (f (s - 1)))
  ∨ (¬ (0 < s ∧ An (f (s - 1))) ∧ ∃ n, WRD f N s n ∧ ((1 ≤ k ∧ k ≤ 13 ∧ ownN f s n = k ∧ p' = s + n) ∨ (ownN f s n = -1 ∧ n ≤ 6 ∧ k = 14 ∧ v = ((e5 (lgF f s) n : Nat) : Int) ∧ p' = s + n) ∨ (ownN f s n = -1 ∧ 6 < n ∧ k = 17 ∧ v = 6)))
  ∨ (¬ (0 < s ∧ An (f (s - 1))) ∧ ∃ n, 1 ≤ n ∧ s + n ≤ N ∧ (∀ i, i < n → mDig (f (s + i))) ∧ ((n ≤ 4 ∧ (s + n < N → ¬ mDig (f (s + n))) ∧ k = 15 ∧ v = ((nuF f s n : Nat) : Int) ∧ p' = s + n) ∨ (n = 5 ∧ k = 17 ∧ v = 4)))
def TOK (f : Nat → Int) (N p : Nat) (k : Int) (s : Nat) (v : Int) (p' : Nat) : Prop := SKP f N p s ∧ TK1 f N k s v p'
theorem skipF_eq {f : Nat → Int} {N s : Nat} : ∀ (d p : Nat), p + d = N → SKP f N p s → skipF f d p = s
  | 0, p, h, ⟨h1, h2, h3, h4⟩ => by show p = s; omega
  | d + 1, p, h, ⟨h1, h2, h3, h4⟩ => by
    rw [skipF]
    by_cases e : s = p
    · subst e; rw [if_neg (h4 (by omega))]
    · rw [if_pos (h3 p (Nat.le_refl p) (by omega))]
      exact skipF_eq d (p + 1) (by omega) ⟨by omega, h2, fun j a c => h3 j (by omega) c, h4⟩
theorem run_ex (P : Int → Prop) [DecidablePred P] (f : Nat → Int) (N : Nat) : ∀ (d a : Nat), a + d = N → ∃ n, a + n ≤ N ∧ (∀ i, i < n → P (f (a + i))) ∧ (a + n < N → ¬ P (f (a + n)))
  | 0, a, h => ⟨0, by omega, fun i hi => by omega, fun h2 => by omega⟩
  | d + 1, a, h => by
    by_cases e : P (f a)
    · obtain ⟨n, h1, h2, h3⟩ := run_ex P f N d (a + 1) (by omega)
      refine ⟨n + 1, by omega, fun i hi => ?_, fun h4 => ?_⟩
      · by_cases e2 : i = 0
        · subst e2; exact e
        · have := h2 (i - 1) (by omega)
          rw [show a + 1 + (i - 1) = a + i by omega] at this; exact this
      · have := h3 (by omega)
        rw [show a + 1 + n = a + (n + 1) by omega] at this; exact this
    · exact ⟨0, by omega, fun i hi => by omega, fun _ => e⟩
/-- the own words' numbers in the reference -/
def wlE (w : List Int) : Nat := e8 (fun i => (w.getD i 0).toNat - 96) w.length
def OWl : List Int := [32497584235442030, 1937010544, 500135192942, 1718775661, 495622124659, 426836257907, 418330731890, 123581014175598, 6383461, 1651470958, 24948, 29807, 482955846501]
def OWi (k : Int) : Int := OWl.getD (k.toNat - 1) 0
theorem lgb {f : Nat → Int} {s n : Nat} (h : ∀ i, i < n → mLet (f (s + i))) : ∀ i, i < n → 1 ≤ lgF f s i ∧ lgF f s i ≤ 26 := fun i hi => by
  have := h i hi
  unfold mLet at this
  unfold lgF
  omega
theorem own_e8 {w : List Int} (hw : ∀ i, i < w.length → mLet (w.getD i 0)) {f : Nat → Int} {s n : Nat} (h : ∀ i, i < n → mLet (f (s + i))) : (w.length = n ∧ ∀ k, k < n → f (s + k) = w.getD k 0) ↔ e8 (lgF f s) n = wlE w := by
  constructor
  · rintro ⟨rfl, h2⟩
    exact e8_c (fun i hi => by show (f (s + i)).toNat - 96 = _; rw [h2 i hi])
  · intro e
    obtain ⟨h1, h2⟩ := e8_inj (lgb h) (fun i hi => by have := hw i hi; unfold mLet at this; omega) e
    subst h1
    refine ⟨rfl, fun k hk => ?_⟩
    have a := h2 k hk
    have b := h k hk
    have c := hw k hk
    unfold lgF at a
    unfold mLet at b c
    omega
theorem ownI_sp {f : Nat → Int} {s n : Nat} (h : ∀ i, i < n → mLet (f (s + i))) : ∀ (ws : List (List Int)) (i : Int), (∀ w, w ∈ ws → ∀ j, j < w.length → mLet (w.getD j 0)) → (ownI ws i (fun k => f (s + k)) n = -1 ∧ ∀ j, j < ws.length → e8 (lgF f s) n ≠ wlE (ws.getD j [])) ∨ (∃ j : Nat, j < ws.length ∧ ownI ws i (fun k => f (s + k)) n = i + (j : Int) ∧ e8 (lgF f s) n = wlE (ws.getD j []))
  | [], i, _ => Or.inl ⟨rfl, fun j hj => absurd hj (Nat.not_lt_zero j)⟩
  | w :: r, i, hw => by
    have hw1 := hw w (List.mem_cons_self)
    rw [ownI]
    by_cases e : w.length = n ∧ ∀ k, k < n → f (s + k) = w.getD k 0
    · rw [if_pos e]
      exact Or.inr ⟨0, by simp, by simp, (own_e8 hw1 h).mp e⟩
    · rw [if_neg e]
      rcases ownI_sp h r (i + 1) (fun w' h' => hw w' (List.mem_cons_of_mem _ h')) with ⟨a, b⟩ | ⟨j, a, b, c⟩
      · refine Or.inl ⟨a, fun j hj => ?_⟩
        cases j with
        | zero => exact fun g => e ((own_e8 hw1 h).mpr g)
        | succ j => exact b j (by simpa using hj)
      · exact Or.inr ⟨j + 1, by simpa using a, by rw [b]; omega, c⟩
theorem ownWs_let : ∀ w, w ∈ ownWs → ∀ j, j < w.length → mLet (w.getD j 0) := by decide
theorem ownWs_E : ∀ j, j < 13 → ((wlE (ownWs.getD j []) : Nat) : Int) = OWl.getD j 0 := by decide
theorem OWl_b : ∀ j, j < 13 → 0 ≤ OWl.getD j 0 ∧ OWl.getD j 0 < 9223372036854775808 := by decide
theorem own_k {f : Nat → Int} {s n : Nat} (h : ∀ i, i < n → mLet (f (s + i))) : (ownN f s n = -1 ∧ ∀ j, j < 13 → ((e8 (lgF f s) n : Nat) : Int) ≠ OWl.getD j 0) ∨ (1 ≤ ownN f s n ∧ ownN f s n ≤ 13 ∧ ((e8 (lgF f s) n : Nat) : Int) = OWi (ownN f s n)) := by
  rcases ownI_sp h ownWs 1 ownWs_let with ⟨a, b⟩ | ⟨j, a, b, c⟩
  · refine Or.inl ⟨a, fun j hj e => ?_⟩
    rw [← ownWs_E j hj] at e
    exact b j hj (by omega)
  · have hj : j < 13 := a
    refine Or.inr ⟨by unfold ownN; omega, by unfold ownN; omega, ?_⟩
    unfold OWi ownN
    rw [b, c, ownWs_E j hj]
    congr 1
    omega
theorem bCmp_z {x : Nat} {c : Int} (hx : x < 9223372036854775808) (hc : 0 ≤ c ∧ c < 9223372036854775808) : bCmp (x : Int) c = 0 ↔ (x : Int) = c := by
  obtain ⟨y, rfl⟩ : ∃ y : Nat, c = (y : Int) := ⟨c.toNat, by omega⟩
  rw [bCmp_n hx (by omega)]
  split
  · constructor <;> intro h <;> omega
  · split
    · constructor <;> intro h <;> omega
    · constructor <;> intro h <;> omega
theorem mOwn_iff {x : Nat} (hx : x < 9223372036854775808) : mOwn (x : Int) ↔ ∃ j, j < 13 ∧ (x : Int) = OWl.getD j 0 := by
  unfold mOwn
  rw [bCmp_z hx (by decide), bCmp_z hx (by decide), bCmp_z hx (by decide), bCmp_z hx (by decide), bCmp_z hx (by decide), bCmp_z hx (by decide), bCmp_z hx (by decide), bCmp_z hx (by decide), bCmp_z hx (by decide), bCmp_z hx (by decide), bCmp_z hx (by decide), bCmp_z hx (by decide), bCmp_z hx (by decide)]
  constructor
  · rintro (h | h | h | h | h | h | h | h | h | h | h | h | h)
    · exact ⟨0, by decide, h⟩
    · exact ⟨1, by decide, h⟩
    · exact ⟨2, by decide, h⟩
    · exact ⟨3, by decide, h⟩
    · exact ⟨4, by decide, h⟩
    · exact ⟨5, by decide, h⟩
    · exact ⟨6, by decide, h⟩
    · exact ⟨7, by decide, h⟩
    · exact ⟨8, by decide, h⟩
    · exact ⟨9, by decide, h⟩
    · exact ⟨10, by decide, h⟩
    · exact ⟨11, by decide, h⟩
    · exact ⟨12, by decide, h⟩
  · rintro ⟨j, hj, h⟩
    have : j = 0 ∨ j = 1 ∨ j = 2 ∨ j = 3 ∨ j = 4 ∨ j = 5 ∨ j = 6 ∨ j = 7 ∨ j = 8 ∨ j = 9 ∨ j = 10 ∨ j = 11 ∨ j = 12 := by omega
    rcases this with rfl | rfl | rfl | rfl | rfl | rfl | rfl | rfl | rfl | rfl | rfl | rfl | rfl
    · exact Or.inl h
    · exact Or.inr (Or.inl h)
    · exact Or.inr (Or.inr (Or.inl h))
    · exact Or.inr (Or.inr (Or.inr (Or.inl h)))
    · exact Or.inr (Or.inr (Or.inr (Or.inr (Or.inl h))))
    · exact Or.inr (Or.inr (Or.inr (Or.inr (Or.inr (Or.inl h)))))
    · exact Or.inr (Or.inr (Or.inr (Or.inr (Or.inr (Or.inr (Or.inl h))))))
    · exact Or.inr (Or.inr (Or.inr (Or.inr (Or.inr (Or.inr (Or.inr (Or.inl h)))))))
    · exact Or.inr (Or.inr (Or.inr (Or.inr (Or.inr (Or.inr (Or.inr (Or.inr (Or.inl h))))))))
    · exact Or.inr (Or.inr (Or.inr (Or.inr (Or.inr (Or.inr (Or.inr (Or.inr (Or.inr (Or.inl h)))))))))
    · exact Or.inr (Or.inr (Or.inr (Or.inr (Or.inr (Or.inr (Or.inr (Or.inr (Or.inr (Or.inr (Or.inl h))))))))))
    · exact Or.inr (Or.inr (Or.inr (Or.inr (Or.inr (Or.inr (Or.inr (Or.inr (Or.inr (Or.inr (Or.inr (Or.inl h)))))))))))
    · exact Or.inr (Or.inr (Or.inr (Or.inr (Or.inr (Or.inr (Or.inr (Or.inr (Or.inr (Or.inr (Or.inr (Or.inr h)))))))))))
theorem e8_lt8 {f : Nat → Nat} {n : Nat} (hn : n ≤ 8) (h : ∀ i, i < n → 1 ≤ f i ∧ f i ≤ 26) : e8 f n < 9223372036854775808 := by
  by_cases e : n = 8
  · subst e
    have h1 := e8_lt (f := f) (n := 7) (fun i hi => h i (by omega))
    have h2 := h 7 (by omega)
    have : e8 f 7 ≤ 123 * 256 ^ 6 := by
      have a := e8_lt (f := f) (n := 6) (fun i hi => h i (by omega))
      have b := h 6 (by omega)
      have h3 : ∀ m, m ≤ 6 → e8 f (m + 1) < 123 * 256 ^ m := by
        intro m
        induction m with
        | zero => intro _; have := h 0 (by omega); simp only [e8]; omega
        | succ m ih =>
          intro hm
          have i1 := ih (by omega)
          have i2 := h (m + 1) (by omega)
          rw [e8, Nat.pow_succ]
          omega
      exact Nat.le_of_lt (h3 6 (by omega))
    rw [e8]
    omega
  · have h1 := e8_lt h
    have h2 : 256 ^ n ≤ 256 ^ 7 := Nat.pow_le_pow_right (by decide) (by omega)
    omega
theorem aShl_n {x p : Nat} (hp : p ≤ 30) (h : x * 2 ^ p < 2147483648) : aShl (x : Int) (p : Int) = ((x * 2 ^ p : Nat) : Int) := by
  have hx : x < 2147483648 := by
    have : 1 ≤ 2 ^ p := Nat.one_le_two_pow
    have := Nat.mul_le_mul_left x this
    omega
  have e1 : ((Int32.ofInt ((p : Nat) : Int) &&& 31).toBitVec.smod 32).toNat = p := by
    have : ∀ k : Fin 32, ((Int32.ofInt ((k.val : Nat) : Int) &&& 31).toBitVec.smod 32).toNat = k.val := by decide
    exact this ⟨p, by omega⟩
  unfold aShl
  apply i32b _ h
  rw [Int32.toBitVec_shiftLeft, BitVec.shiftLeft_eq', e1, BitVec.toNat_shiftLeft, i32n hx, Nat.shiftLeft_eq, Nat.mod_eq_of_lt (by omega)]
theorem nm_s {g : Nat → Nat} {n : Nat} {c : Int} (hn : n < 6) (h : ∀ i, i < n → 1 ≤ g i ∧ g i ≤ 26) (hc : mLet c) (hg : g n = c.toNat - 96) : aOr ((e5 g n : Nat) : Int) (aShl (aAdd (aSub c 97) 1) ((5 * n : Nat) : Int)) = ((e5 g (n + 1) : Nat) : Int) := by
  unfold mLet at hc
  have e0 : aAdd (aSub c 97) 1 = ((g n : Nat) : Int) := by rw [aSub_of (by omega) (by omega), aAdd_of (by omega) (by omega)]; omega
  have h1 := e5_lt h
  have h2 := e5_lt6 (f := g) (n := n + 1) (by omega) (fun i hi => by by_cases e : i = n; (subst e; omega); exact h i (by omega))
  rw [e5] at h2
  have e1 : (2 : Nat) ^ (5 * n) = 32 ^ n := by rw [Nat.pow_mul]
  rw [e0, aShl_n (by omega) (by rw [e1]; omega), aOr_n (by omega) (by rw [e1]; omega), e5, e1]
  congr 1
  rw [Nat.or_comm, Nat.mul_comm (g n), ← e1, ← Nat.two_pow_add_eq_or_of_lt (by rw [e1]; exact h1)]
  omega
theorem nu_lt {f : Nat → Int} {s : Nat} : ∀ {n : Nat}, (∀ i, i < n → mDig (f (s + i))) → nuF f s n < 10 ^ n
  | 0, _ => by simp [nuF]
  | n + 1, h => by
    have h1 := nu_lt (n := n) (fun i hi => h i (by omega))
    have h2 := h n (by omega)
    unfold mDig at h2
    rw [nuF, Nat.pow_succ]
    omega
theorem nu_s {f : Nat → Int} {s n : Nat} (hn : n < 4) (h : ∀ i, i < n → mDig (f (s + i))) (hc : mDig (f (s + n))) : aSub (aAdd (aMul ((nuF f s n : Nat) : Int) 10) (f (s + n))) 48 = ((nuF f s (n + 1) : Nat) : Int) ∧ aSub (aAdd (aMul 10 ((nuF f s n : Nat) : Int)) (f (s + n))) 48 = ((nuF f s (n + 1) : Nat) : Int) := by
  have h1 := nu_lt h
  have h2 : 10 ^ n ≤ 10 ^ 3 := Nat.pow_le_pow_right (by decide) (by omega)
  unfold mDig at hc
  rw [aMul_of (by omega) (by omega), aMul_of (by omega) (by omega), aAdd_of (by omega) (by omega), aAdd_of (by omega) (by omega), aSub_of (by omega) (by omega), aSub_of (by omega) (by omega), nuF]
  omega
theorem ownI_c {f g : Nat → Int} {n : Nat} (h : ∀ k, k < n → f k = g k) : ∀ (ws : List (List Int)) (i : Int), ownI ws i f n = ownI ws i g n
  | [], i => rfl
  | w :: r, i => by
    rw [ownI, ownI, ownI_c h r (i + 1)]
    by_cases e : w.length = n ∧ ∀ k, k < n → f k = w.getD k 0
    · rw [if_pos e, if_pos ⟨e.1, fun k hk => by rw [← h k hk]; exact e.2 k hk⟩]
    · rw [if_neg e, if_neg (fun g' => e ⟨g'.1, fun k hk => by rw [h k hk]; exact g'.2 k hk⟩)]
