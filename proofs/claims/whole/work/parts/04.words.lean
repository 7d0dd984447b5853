/-! The words of the tables that the methods need, and what is checked of each entry. -/
def mIds : List Nat := (List.range NM).filter (fun m => m != LAW)
def mIn : List Nat := mIds.filter (fun m => !mSt m)
def mSs : List Nat := mIds.filter (fun m => mSt m)
def codeW (m : Nat) : Cond := .code (mY m) (mC m) (mL m) (mR m)
def clW : List Cond := wsX00 ++ (wsX10 ++ (wsX20 ++ (wsX30 ++ (wsX40 ++ (wsX50 ++ (wsX60 ++ (wsX70 ++ (wsX80 ++ (wsX90 ++ (wsX100 ++ wsX110))))))))))
/-! Names of the JDK's methods that Tokens.ownWord reaches. -/
def RJ0 : String := "java/lang/String"
def RJ1 : String := "java/lang/StringLatin1"
def RJ3 : String := "jdk/internal/util/Preconditions"
abbrev cJ0_length_8abf5 : ByteArray := prog_16_method_54_code
def yJ0_length_8abf5 : MethodName := ⟨RJ0, "length", "()I"⟩
abbrev cJ0_coder_7d493 : ByteArray := prog_16_method_152_code
def yJ0_coder_7d493 : MethodName := ⟨RJ0, "coder", "()B"⟩
abbrev cJ0_charAt_5068e : ByteArray := prog_16_method_56_code
def yJ0_charAt_5068e : MethodName := ⟨RJ0, "charAt", "(I)C"⟩
abbrev cJ0_isLatin1_aae02 : ByteArray := prog_16_method_154_code
def yJ0_isLatin1_aae02 : MethodName := ⟨RJ0, "isLatin1", "()Z"⟩
abbrev cJ0_checkIndex_df160 : ByteArray := prog_16_method_155_code
def yJ0_checkIndex_df160 : MethodName := ⟨RJ0, "checkIndex", "(II)V"⟩
abbrev cJ1_charAt_3b067 : ByteArray := prog_17_method_2_code
def yJ1_charAt_3b067 : MethodName := ⟨RJ1, "charAt", "([BI)C"⟩
abbrev cJ3_checkIndex_8e157 : ByteArray := prog_20_method_11_code
def yJ3_checkIndex_8e157 : MethodName := ⟨RJ3, "checkIndex", "(IILjava/util/function/BiFunction;)I"⟩
def ownW : List Cond := [.methodLink RX9 74 yX9_spelling, .static yX9_spelling, .code yX9_spelling cX9_spelling 1 (some (.object "java/lang/String")), .initialized RX9,
  .methodLink RX9 78 yJ0_length_8abf5, .instanceMethod yJ0_length_8abf5, .selects RJ0 yJ0_length_8abf5 yJ0_length_8abf5, .initialized RJ0, .code yJ0_length_8abf5 cJ0_length_8abf5 1 (some .int), .fieldLink RJ0 9 "java/lang/String" "value" "[B",
  .methodLink RJ0 335 yJ0_coder_7d493, .instanceMethod yJ0_coder_7d493, .selects RJ0 yJ0_coder_7d493 yJ0_coder_7d493, .code yJ0_coder_7d493 cJ0_coder_7d493 1 (some .byte), .fieldLink RJ0 38 "java/lang/String" "COMPACT_STRINGS" "Z", .fieldLink RJ0 15 "java/lang/String" "coder" "B",
  .methodLink RX9 83 yJ0_charAt_5068e, .instanceMethod yJ0_charAt_5068e, .selects RJ0 yJ0_charAt_5068e yJ0_charAt_5068e, .code yJ0_charAt_5068e cJ0_charAt_5068e 2 (some .char),
  .methodLink RJ0 492 yJ0_isLatin1_aae02, .instanceMethod yJ0_isLatin1_aae02, .selects RJ0 yJ0_isLatin1_aae02 yJ0_isLatin1_aae02, .code yJ0_isLatin1_aae02 cJ0_isLatin1_aae02 1 (some .boolean),
  .methodLink RJ0 495 yJ1_charAt_3b067, .static yJ1_charAt_3b067, .initialized RJ1, .code yJ1_charAt_3b067 cJ1_charAt_3b067 2 (some .char),
  .methodLink RJ1 9 yJ0_checkIndex_df160, .static yJ0_checkIndex_df160, .code yJ0_checkIndex_df160 cJ0_checkIndex_df160 2 none, .fieldLink RJ0 1053 "jdk/internal/util/Preconditions" "SIOOBE_FORMATTER" "Ljava/util/function/BiFunction;",
  .methodLink RJ0 1059 yJ3_checkIndex_8e157, .static yJ3_checkIndex_8e157, .initialized RJ3, .code yJ3_checkIndex_8e157 cJ3_checkIndex_8e157 3 (some .int)]
def copyW : List Cond := [.native arraycopyName, .static arraycopyName, .initialized "java/lang/System", .methodLink RX6 37 arraycopyName] ++ ownW
def mathW : List Cond := mathT.map (fun e => .methodLink (clR e.1) e.2.1 (if e.2.2 = 1002 then Lib.Math.max.name else Lib.Math.min.name)) ++ [.static Lib.Math.max.name, .static Lib.Math.min.name, .initialized "java/lang/Math", .code Lib.Math.max.name Lib.Math.max.code 2 (some .int), .code Lib.Math.min.name Lib.Math.min.code 2 (some .int)]
def GT : List Cond := mIds.map codeW ++ (mIn.map (fun m => .instanceMethod (mY m)) ++ (mIn.map (fun m => .selects (mY m).cls (mY m) (mY m)) ++ (mSs.map (fun m => .static (mY m)) ++ ((List.range 14).map (fun c => .initialized (clR c)) ++ (flT.map flW ++ (mlT.map mlW ++ (csT.map csW ++ (clgT.map clgW ++ (copyW ++ (mathW ++ clW))))))))))
def pcOf (m k : Nat) : Nat := ((cod m).getD k (0, .nop, 0, 0, 0, 0, [])).1
def lenI (i : Instr) : Nat := match i with
  | .bipush _ => 2
  | .ldc _ => 2
  | .iload _ => 2
  | .lload _ => 2
  | .aload _ => 2
  | .istore _ => 2
  | .lstore _ => 2
  | .astore _ => 2
  | .sipush _ => 3
  | .ldc_w _ => 3
  | .ldc2_w _ => 3
  | .iinc _ _ => 3
  | .goto _ => 3
  | .ifCond _ _ => 3
  | .if_icmp _ _ => 3
  | .ifnull _ => 3
  | .ifnonnull _ => 3
  | .getfield _ => 3
  | .putfield _ => 3
  | .invokevirtual _ => 3
  | .invokestatic _ => 3
  | .invokespecial _ => 3
  | .new _ => 3
  | _ => 1
def jmp (m pc : Nat) (off : Int) (v : Nat) : Bool := decide ((pc : Int) + off = (pcOf m v : Int))
def sws (m pc : Nat) : List (Int × Int) → List (Int × Nat) → Bool
  | [], [] => true
  | a :: r, t :: q => decide (a.1 = t.1) && jmp m pc a.2 t.2 && sws m pc r q
  | _, _ => false
def zipLo (lo : Int) : List Int → List (Int × Int)
  | [] => []
  | a :: r => (lo, a) :: zipLo (lo + 1) r
def calOk (m u v : Nat) : Bool := decide (u < NM) && (u != LAW) && decide ((mPa u).length = v) && decide (mFr u + 1 ≤ mFr m) && decide (8 + (mL u + 11) + mLo u ≤ mLo m)
/-- what is checked of a method once -/
def mOk (u : Nat) : Bool := decide ((parseMethodDescriptor (mY u).desc).map (fun d => d.parameters.length) = some (if mSt u then (mPa u).length else (mPa u).length - 1)) && decide ((mY u).cls = clR (mcl u)) && decide ((mY u).cls ≠ "java/lang/invoke/MethodHandle") && decide ((mY u).cls ≠ "java/lang/invoke/VarHandle") && Jvm.plainName (mY u).cls && decide (mcl u < 14) && decide ((aExp ((mPa u).map fun t => (t, 0))).length ≤ mL u) && decide (mRt u = 0 → mR u = some .int) && decide (mRt u = 4 → mR u = some .boolean) && decide (mRt u = 1 → mR u = some .long) && decide (mRt u = 9 → mR u = none) && decide (mRt u = 2 → (match mR u with | some (.object _) => true | some (.array _) => true | _ => false) = true) && decide (pcOf u 0 = 0) && decide (mSt u = false → (mPa u).head? = some 2) && decide (mSt u = false → mcl u < 12)
def rng32 (w : Int) : Bool := decide ((Int32.ofInt w).toInt = w)
def rng64 (w : Int) : Bool := decide ((Int64.ofInt w).toInt = w)
def chkP (m : Nat) (e : Ent) : Bool := match e with
  | (pc, ins, _, u, v, w, ts) => match ins with
    | .iconst n => decide (n = w) && rng32 w
    | .bipush n => decide ((Int8.ofInt n).toInt32 = Int32.ofInt w) && rng32 w
    | .sipush n => decide ((Int16.ofInt n).toInt32 = Int32.ofInt w) && rng32 w
    | .ldc i => csT.elem (mcl m, i, w) && rng32 w
    | .ldc_w i => csT.elem (mcl m, i, w) && rng32 w
    | .lconst n => decide (Int64.ofNat n = Int64.ofInt w) && rng64 w
    | .ldc2_w i => clgT.elem (mcl m, i, w) && rng64 w
    | .iload i => i == u
    | .lload i => i == u
    | .aload i => i == u
    | .istore i => i == u
    | .lstore i => i == u
    | .astore i => i == u
    | .iload_n i => i.val == u
    | .lload_n i => i.val == u
    | .aload_n i => i.val == u
    | .istore_n i => i.val == u
    | .lstore_n i => i.val == u
    | .astore_n i => i.val == u
    | .iinc i n => i == u && decide (n = w)
    | .goto off => jmp m pc off v
    | .ifCond _ off => jmp m pc off v
    | .if_icmp _ off => jmp m pc off v
    | .ifnonnull off => jmp m pc off v
    | .tableswitch d lo hi offs => jmp m pc d v && decide (hi + 1 - lo = offs.size) && sws m pc (zipLo lo offs.toList) ts
    | .lookupswitch d ps => jmp m pc d v && (ps.toList.zip (ps.toList.drop 1)).all (fun (a, next) => a.1 < next.1) && sws m pc ps.toList ts
    | .getfield i => flT.elem (mcl m, i, u, v) && decide (u < 12) && decide (v < nf u)
    | .putfield i => flT.elem (mcl m, i, u, v) && decide (u < 12) && decide (v < nf u) && !(clT u v).2.2.2
    | .invokevirtual i => mlT.elem (mcl m, i, u) && calOk m u v && !mSt u && decide (v = (v - 1) + 1) && decide (mcl u < 12)
    | .invokestatic i => if u = 1000 then decide (mcl m = 6) && decide (i = 37) && decide (1 ≤ mFr m) && decide (60 ≤ mLo m) else if u = 1002 ∨ u = 1003 then mathT.elem (mcl m, i, u) && decide (1 ≤ mFr m) && decide (21 ≤ mLo m) else (mlT.elem (mcl m, i, u) || mnT.elem (mcl m, i, u)) && calOk m u v && mSt u
    | _ => true
/-- whether the instruction behind it is the next in the list -/
def falls (i : Instr) : Bool := match i with
  | .goto _ => false
  | .tableswitch _ _ _ _ => false
  | .lookupswitch _ _ => false
  | .ireturn => false
  | .lreturn => false
  | .areturn => false
  | .return_ => false
  | _ => true
def isSw (i : Instr) : Bool := match i with
  | .tableswitch _ _ _ _ => true
  | .lookupswitch _ _ => true
  | _ => false
def chkE (m k : Nat) (e : Ent) : Bool := decide (decode (mC m) e.1 = .ok (e.2.1, e.2.2.1)) && (isSw e.2.1 || e.2.2.1 == lenI e.2.1) && (!falls e.2.1 || pcOf m (k + 1) == e.1 + e.2.2.1) && chkP m e
def chkL (m : Nat) : Nat → List Ent → Bool
  | _, [] => true
  | k, e :: r => chkE m k e && chkL m (k + 1) r
theorem chkL_at {m : Nat} : ∀ (l : List Ent) (k0 k : Nat) (e : Ent), chkL m k0 l = true → l[k]? = some e → chkE m (k0 + k) e = true := by
  intro l
  induction l with
  | nil => intro k0 k e _ h; simp at h
  | cons a r ih =>
    intro k0 k e h he
    rw [chkL, Bool.and_eq_true] at h
    cases k with
    | zero => simp at he; subst he; exact h.1
    | succ k => 
      have := ih (k0 + 1) k e h.2 (by simpa using he)
      rw [show k0 + (k + 1) = k0 + 1 + k by omega]
      exact this
/-- method after method: all entries are as checked -/
def CKd : Prop := ∀ m, m < NM → chkL m 0 (cod m) = true
