/-! Calls of both, one behind the other. -/
def JJ (σ : AH) : Prop := (σ 30 1 = 0 ∧ σ 30 2 = 0) ∧ (σ 192 1 = 0 ∧ σ 192 2 = 0)
/-- what holds ahead of each call of the law -/
def INV (σ : AH) : Prop := EX σ σ ∧ JJ σ
def ANS (r r2 : Option AV) : Prop := ∃ z : Int, r = some (0, z) ∧ r2 = some (0, z)
theorem JJ_mv {σ τ : AH} (h : JJ σ) (e : ∀ K j, (K = 30 ∨ K = 192) → (j = 1 ∨ j = 2) → τ K j = σ K j) : JJ τ := by
  unfold JJ
  rw [e 30 1 (by omega) (by omega), e 30 2 (by omega) (by omega), e 192 1 (by omega) (by omega), e 192 2 (by omega) (by omega)]
  exact h
theorem RSeq {σ τ : AH} (h : ∀ K j, 295 ≤ K → τ K j = σ K j) : RS σ τ := ⟨fun K j hK => h K j (by omega), fun j _ => h _ j (by omega), fun j _ => h _ j (by omega), fun K j hK _ => h K j (by omega)⟩
def PG (X : AX) (cm : Nat) (cl : List AV) (rm : Nat) (rl : List AV) (σ ρ : AH) : Prop := ∃ (z : Int) (R : AH), TT X cm (0, cl, [], σ) (fun r σ' => r = some (0, z) ∧ EX σ' R ∧ (∀ K j, (295 ≤ K ∨ K = 30 ∨ K = 192) → σ' K j = σ K j)) ∧ TT X rm (0, rl, [], ρ) (fun r σ' => r = some (0, z) ∧ σ' = R) ∧ (∀ K j, K < 295 → R K j = ρ K j)
def PP (X : AX) (cm : Nat) (cl : List AV) (rm : Nat) (rl : List AV) (σ : AH) : Prop := TT X cm (0, cl, [], σ) (fun r σ1 => TT X rm (0, rl, [], σ1) (fun r2 σ2 => ANS r r2 ∧ INV σ2))
theorem pairG {X : AX} {cm rm : Nat} {cl rl : List AV} {σ : AH} {l b np nt ns : Nat} {L : Nat → Nat} {C : Nat → Nat → Nat} {w tp u tl oc : Nat} (h : IV σ σ l b np nt ns L C w tp u tl oc) (hJ : JJ σ) (hP : ∀ ρ, IV σ ρ l b np nt ns L C w tp u tl oc → PG X cm cl rm rl σ ρ) : PP X cm cl rm rl σ := by
  have hA := TT.all (X := X) (m := cm) (c := (0, cl, [], σ)) (P := fun ρ : AH => ∀ K j, 295 ≤ K → ρ K j = σ K j) (Q := fun ρ r σ' => ∃ (z : Int) (R : AH), r = some (0, z) ∧ EX σ' R ∧ (∀ K j, (295 ≤ K ∨ K = 30 ∨ K = 192) → σ' K j = σ K j) ∧ TT X rm (0, rl, [], ρ) (fun r σ' => r = some (0, z) ∧ σ' = R) ∧ (∀ K j, K < 295 → R K j = ρ K j)) σ (fun _ _ _ => rfl) (fun ρ hρ => by
    obtain ⟨z, R, h1, h2, h3⟩ := hP ρ (IV_r h hρ)
    exact h1.mono (fun r σ' q => ⟨z, R, q.1, q.2.1, q.2.2, h2, h3⟩))
  refine hA.mono (fun r σ1 hq => ?_)
  obtain ⟨-, -, -, -, hQ, -⟩ := hq σ (fun _ _ _ => rfl)
  obtain ⟨z, R, g0, g1, -, g2, g3⟩ := hq σ1 (fun K j hk => hQ K j (Or.inl hk))
  refine g2.mono (fun r2 σ2 hq2 => ⟨⟨z, g0, hq2.1⟩, ?_⟩)
  rw [hq2.2]
  obtain ⟨l', b', np', nt', ns', L', C', w', tp', u', tl', oc', g4⟩ := g1
  exact ⟨⟨l', b', np', nt', ns', L', C', w', tp', u', tl', oc', IV_l g4 g3⟩, JJ_mv hJ (fun K j a _ => (g3 K j (by omega)).trans (hQ K j (by omega)))⟩
theorem pgQ {X : AX} {cm rm : Nat} {cl rl : List AV} {σ ρ : AH} {l b np nt ns : Nat} {L : Nat → Nat} {C : Nat → Nat → Nat} {w tp u tl oc : Nat} (h : IV σ ρ l b np nt ns L C w tp u tl oc) {z : Int} {R : AH} (hK : TT X cm (0, cl, [], σ) (fun r σ' => r = some (0, z) ∧ QS σ σ')) (hT : TT X rm (0, rl, [], ρ) (fun r σ' => r = some (0, z) ∧ σ' = R)) (hR : RS ρ R ∧ ∀ K j, K < 295 → R K j = ρ K j) : PG X cm cl rm rl σ ρ :=
  ⟨z, R, hK.mono (fun r σ' q => ⟨q.1, ⟨_, _, _, _, _, _, _, _, _, _, _, _, IV_q h q.2 hR.1⟩, fun K j hk => q.2 K j (by omega)⟩), hT, hR.2⟩
theorem pgQ0 {X : AX} {cm rm : Nat} {cl rl : List AV} {σ ρ : AH} {l b np nt ns : Nat} {L : Nat → Nat} {C : Nat → Nat → Nat} {w tp u tl oc : Nat} (h : IV σ ρ l b np nt ns L C w tp u tl oc) {z : Int} {R : AH} (hK : TT X cm (0, cl, [], σ) (fun r σ' => r = some (0, z) ∧ σ' = σ)) (hT : TT X rm (0, rl, [], ρ) (fun r σ' => r = some (0, z) ∧ σ' = R)) (hR : RS ρ R ∧ ∀ K j, K < 295 → R K j = ρ K j) : PG X cm cl rm rl σ ρ :=
  pgQ h (hK.mono (fun r σ' q => ⟨q.1, by rw [q.2]; exact QS.refl σ⟩)) hT hR
theorem pgE {X : AX} {cm rm : Nat} {cl rl : List AV} {σ ρ : AH} {z : Int} {R : AH} (hK : TT X cm (0, cl, [], σ) (fun r σ' => r = some (0, z) ∧ EX σ' R ∧ (∀ K j, (295 ≤ K ∨ K = 30 ∨ K = 192) → σ' K j = σ K j))) (hT : TT X rm (0, rl, [], ρ) (fun r σ' => r = some (0, z) ∧ σ' = R)) (hR : ∀ K j, K < 295 → R K j = ρ K j) : PG X cm cl rm rl σ ρ := ⟨z, R, hK, hT, hR⟩
theorem pgI {X : AX} {cm rm : Nat} {cl rl : List AV} {σ ρ : AH} {l b np nt ns : Nat} {L : Nat → Nat} {C : Nat → Nat → Nat} {w tp u tl oc : Nat} {z : Int} {R : AH} (hK : TT X cm (0, cl, [], σ) (fun r σ' => r = some (0, z) ∧ RS ρ R ∧ IV σ' ρ l b np nt ns L C w tp u tl oc ∧ (∀ K j, (K < 198 ∨ 254 < K) → ¬ (289 ≤ K ∧ K ≤ 292) → σ' K j = σ K j))) (hT : TT X rm (0, rl, [], ρ) (fun r σ' => r = some (0, z) ∧ σ' = R)) (hR : ∀ K j, K < 295 → R K j = ρ K j) : PG X cm cl rm rl σ ρ :=
  ⟨z, R, hK.mono (fun r σ' q => ⟨q.1, ⟨_, _, _, _, _, _, _, _, _, _, _, _, IV_q q.2.2.1 (QS.refl σ') q.2.1⟩, fun K j hk => q.2.2.2 K j (by omega) (by omega)⟩), hT, hR⟩
/-- what the reference's theorems ask for -/
theorem IV_R {σ ρ : AH} {l b np nt ns : Nat} {L : Nat → Nat} {C : Nat → Nat → Nat} {w tp u tl oc : Nat} (h : IV σ ρ l b np nt ns L C w tp u tl oc) : (ρ 295 13 = (b : Int) ∧ b < 2) ∧ (ρ 307 b = (np : Int) ∧ np ≤ 10) ∧ (ρ 300 b = (nt : Int) ∧ nt ≤ 6) ∧ (ρ 297 b = (ns : Int) ∧ ns ≤ 14) ∧ (∀ t, t < nt → ρ 304 (6 * b + t) = (L t : Int) ∧ 2 ≤ L t ∧ L t ≤ 8) := by
  obtain ⟨-, ⟨-, ⟨b1, b2, b3, b4, b5⟩, ⟨c1, c2, c3, -⟩, hTr, -⟩, -⟩ := h
  exact ⟨⟨b1, b2⟩, ⟨b5, c1⟩, ⟨b4, c2⟩, ⟨b3, c3⟩, fun t ht => ⟨(hTr t ht).2.1, (hTr t ht).2.2.1, (hTr t ht).2.2.2.1⟩⟩
theorem RSd (ρ : AH) (b np nt : Nat) (L : Nat → Nat) : RS ρ (mDay ρ b 0 np nt L) ∧ ∀ K j, K < 295 → mDay ρ b 0 np nt L K j = ρ K j := ⟨⟨fun K j hK => mDay_fr _ _ _ _ _ _ _ _ (by omega), fun j hj => mDay_5 _ _ _ _ _ _ _ hj, fun j _ => mDay_fr _ _ _ _ _ _ _ _ (by omega), fun K j hK _ => mDay_fr _ _ _ _ _ _ _ _ (by omega)⟩, fun K j hK => mDay_fr _ _ _ _ _ _ _ _ (by omega)⟩
theorem RSup {ρ ρ' : AH} (h : RS ρ ρ' ∧ ∀ K j, K < 295 → ρ' K j = ρ K j) (j : Nat) (x : Int) (e : ρ 295 j = x) : RS ρ (up2 ρ' 295 j x) ∧ ∀ K i, K < 295 → up2 ρ' 295 j x K i = ρ K i := by
  obtain ⟨⟨h1, h2, h3, h4⟩, h5⟩ := h
  refine ⟨⟨fun K i hK => by rw [up2_nq _ (by omega)]; exact h1 K i hK, fun i hi => ?_, fun i hi => by rw [up2_nq _ (by omega)]; exact h3 i hi, fun K i hK hi => by rw [up2_nq _ (by omega)]; exact h4 K i hK hi⟩, fun K i hK => by rw [up2_nq _ (by omega)]; exact h5 K i hK⟩
  by_cases q : i = j
  · subst q; rw [up2_hit, e]
  · rw [up2_nq _ (by omega)]; exact h2 i hi
theorem RS46 (ρ : AH) (x : Int) : RS ρ (up2 ρ 295 46 x) ∧ ∀ K j, K < 295 → up2 ρ 295 46 x K j = ρ K j := ⟨⟨fun K j hK => up2_nq _ (by omega), fun j hj => up2_nq _ (by omega), fun j _ => up2_nq _ (by omega), fun K j hK _ => up2_nq _ (by omega)⟩, fun K j hK => up2_nq _ (by omega)⟩
theorem RSid (ρ : AH) : RS ρ ρ ∧ ∀ K j, K < 295 → ρ K j = ρ K j := ⟨RS.refl ρ, fun _ _ _ => rfl⟩
theorem RS2 {ρ ρ' ρ'' : AH} (h : RS ρ ρ' ∧ ∀ K j, K < 295 → ρ' K j = ρ K j) (h2 : RS ρ' ρ'' ∧ ∀ K j, K < 295 → ρ'' K j = ρ' K j) : RS ρ ρ'' ∧ ∀ K j, K < 295 → ρ'' K j = ρ K j := ⟨h.1.trans h2.1, fun K j hK => (h2.2 K j hK).trans (h.2 K j hK)⟩
theorem RSL0 (ρ : AH) (n : Nat) : RS ρ (mL0 ρ n) ∧ ∀ K j, K < 295 → mL0 ρ n K j = ρ K j := by
  cases n with
  | zero => exact RSid ρ
  | succ n => exact RS46 ρ 0
theorem on_iff (ρ : AH) (b np ns tp : Nat) : mImgC (up2 ρ 295 1 0) b np ns tp ↔ mImgC ρ b np ns tp := by
  have e : ∀ K j, 296 ≤ K → up2 ρ 295 1 0 K j = ρ K j := fun K j hK => up2_nq _ (by omega)
  have e2 : ∀ p, mPOn (up2 ρ 295 1 0) b ns p ↔ mPOn ρ b ns p := fun p => by
    unfold mPOn
    simp only [e 296 _ (by omega), e 314 _ (by omega)]
  unfold mImgC
  rw [e 296 _ (by omega), e 296 _ (by omega), e 296 _ (by omega), show (fun k => up2 ρ 295 1 0 296 k) = (fun k => ρ 296 k) from funext (fun k => e _ _ (by omega)), show (fun p => decide (¬ mPOn (up2 ρ 295 1 0) b ns p)) = (fun p => decide (¬ mPOn ρ b ns p)) from funext (fun p => decide_eq_decide.mpr (not_congr (e2 p)))]
