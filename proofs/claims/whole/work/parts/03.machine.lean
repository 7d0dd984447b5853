/-! A pure machine over the cells of the layout: values are (tag, Int): 0 int, 1 long, 2 cell, 3 the script, 9 nothing. -/
abbrev ACfg : Type := Nat × List AV × List AV × AH
abbrev AX : Type := Nat × (Nat → Int)
def up2 (σ : AH) (k j : Nat) (x : Int) : AH := fun k' j' => if k' = k ∧ j' = j then x else σ k' j'
def cpy2 (σ : AH) (s d : Nat) (sp dp n : Nat) : AH := fun k' j' => if k' = d ∧ dp ≤ j' ∧ j' < dp + n then σ s (sp + (j' - dp)) else σ k' j'
def aAdd (x y : Int) : Int := (Int32.ofInt x + Int32.ofInt y).toInt
def aSub (x y : Int) : Int := (Int32.ofInt x - Int32.ofInt y).toInt
def aMul (x y : Int) : Int := (Int32.ofInt x * Int32.ofInt y).toInt
def aDiv (x y : Int) : Int := (Int32.ofInt x / Int32.ofInt y).toInt
def aRem (x y : Int) : Int := (Int32.ofInt x - Int32.ofInt x / Int32.ofInt y * Int32.ofInt y).toInt
def aAnd (x y : Int) : Int := (Int32.ofInt x &&& Int32.ofInt y).toInt
def aOr (x y : Int) : Int := (Int32.ofInt x ||| Int32.ofInt y).toInt
def aXor (x y : Int) : Int := (Int32.ofInt x ^^^ Int32.ofInt y).toInt
def aShl (x y : Int) : Int := (Int32.ofInt x <<< (Int32.ofInt y &&& 31)).toInt
def aShr (x y : Int) : Int := (Int32.ofInt x >>> (Int32.ofInt y &&& 31)).toInt
def aUsh (x y : Int) : Int := ((Int32.ofInt x).toUInt32 >>> ((Int32.ofInt y).toUInt32 &&& Int32.toUInt32 31)).toInt32.toInt
def bAdd (x y : Int) : Int := (Int64.ofInt x + Int64.ofInt y).toInt
def bMul (x y : Int) : Int := (Int64.ofInt x * Int64.ofInt y).toInt
def bDiv (x y : Int) : Int := (Int64.ofInt x / Int64.ofInt y).toInt
def bRem (x y : Int) : Int := (Int64.ofInt x - Int64.ofInt x / Int64.ofInt y * Int64.ofInt y).toInt
def bAnd (x y : Int) : Int := (Int64.ofInt x &&& Int64.ofInt y).toInt
def bOr (x y : Int) : Int := (Int64.ofInt x ||| Int64.ofInt y).toInt
def bShl (x y : Int) : Int := (Int64.ofInt x <<< ((Int32.ofInt y).toInt64 &&& 63)).toInt
def bShr (x y : Int) : Int := (Int64.ofInt x >>> ((Int32.ofInt y).toInt64 &&& 63)).toInt
def bCmp (x y : Int) : Int := (lg_cmp (Int64.ofInt x) (Int64.ofInt y)).toInt
def bI2l (x : Int) : Int := (Int32.ofInt x).toInt64.toInt
def bL2i (x : Int) : Int := (Int64.ofInt x).toInt32.toInt
def sPush (v : AV) (k : Nat) (ls st : List AV) (σ : AH) : Option ACfg := some (k + 1, ls, v :: st, σ)
def sLoad (t u k : Nat) (ls st : List AV) (σ : AH) : Option ACfg := match ls[u]? with
  | some v => if v.1 = t then some (k + 1, ls, v :: st, σ) else none
  | none => none
/-- the value above tag, the other one's tag being 2 or 3 -/
def sLoadA (u k : Nat) (ls st : List AV) (σ : AH) : Option ACfg := match ls[u]? with
  | some v => if v.1 = 2 ∨ v.1 = 3 then some (k + 1, ls, v :: st, σ) else none
  | none => none
def lTag (ls : List AV) (u : Nat) : Nat := (ls.getD u (9, 0)).1
def sStore (t u k : Nat) (ls st : List AV) (σ : AH) : Option ACfg := match st with
  | v :: st => if v.1 = t ∧ u < ls.length ∧ ¬ (0 < u ∧ lTag ls (u - 1) = 1) then some (k + 1, ls.set u v, st, σ) else none
  | _ => none
def sStoreL (u k : Nat) (ls st : List AV) (σ : AH) : Option ACfg := match st with
  | v :: st => if v.1 = 1 ∧ u + 1 < ls.length ∧ ¬ (0 < u ∧ lTag ls (u - 1) = 1) then some (k + 1, (ls.set u v).set (u + 1) (9, 0), st, σ) else none
  | _ => none
def sInc (u : Nat) (w : Int) (k : Nat) (ls st : List AV) (σ : AH) : Option ACfg := match ls[u]? with
  | some v => if v.1 = 0 ∧ ¬ (0 < u ∧ lTag ls (u - 1) = 1) then some (k + 1, ls.set u (0, aAdd v.2 w), st, σ) else none
  | none => none
def sBin (ta tb tr : Nat) (f : Int → Int → Int) (ok : Int → Bool) (k : Nat) (ls st : List AV) (σ : AH) : Option ACfg := match st with
  | y :: x :: st => if x.1 = ta ∧ y.1 = tb ∧ ok y.2 = true then some (k + 1, ls, (tr, f x.2 y.2) :: st, σ) else none
  | _ => none
def sUna (ta tr : Nat) (f : Int → Int) (k : Nat) (ls st : List AV) (σ : AH) : Option ACfg := match st with
  | x :: st => if x.1 = ta then some (k + 1, ls, (tr, f x.2) :: st, σ) else none
  | _ => none
def sBr1 (c : Int → Bool) (v k : Nat) (ls st : List AV) (σ : AH) : Option ACfg := match st with
  | x :: st => if x.1 = 0 then some (if c x.2 then v else k + 1, ls, st, σ) else none
  | _ => none
def sBr2 (c : Int → Int → Bool) (v k : Nat) (ls st : List AV) (σ : AH) : Option ACfg := match st with
  | y :: x :: st => if x.1 = 0 ∧ y.1 = 0 then some (if c x.2 y.2 then v else k + 1, ls, st, σ) else none
  | _ => none
/-- a field's value: a fixed cell, or what it holds -/
def fval (k c f : Nat) (σ : AH) : AV := if fx k f = 0 then (ft c f, σ k f) else (2, (fx k f - 1 : Nat))
def sGet (c f k : Nat) (ls st : List AV) (σ : AH) : Option ACfg := match st with
  | x :: st => if x.1 = 2 ∧ kd x.2.toNat = c then some (k + 1, ls, fval x.2.toNat c f σ :: st, σ) else none
  | _ => none
def sPut (c f k : Nat) (ls st : List AV) (σ : AH) : Option ACfg := match st with
  | v :: x :: st => if x.1 = 2 ∧ kd x.2.toNat = c ∧ fx x.2.toNat f = 0 ∧ v.1 = ft c f ∧ (fz c f = true → v.2 = 0 ∨ v.2 = 1) then some (k + 1, ls, st, up2 σ x.2.toNat f v.2) else none
  | _ => none
def sAld (X : AX) (kk tr k : Nat) (ls st : List AV) (σ : AH) : Option ACfg := match st with
  | i :: x :: st => if i.1 = 0 then (if x.1 = 2 then (if kd x.2.toNat = kk ∧ 0 ≤ i.2 ∧ i.2 < ln x.2.toNat then some (k + 1, ls, (tr, σ x.2.toNat i.2.toNat) :: st, σ) else none)
      else if x.1 = 3 ∧ kk = 20 ∧ 0 ≤ i.2 ∧ i.2 < X.1 then some (k + 1, ls, (0, X.2 i.2.toNat) :: st, σ) else none) else none
  | _ => none
def sAst (kk tv k : Nat) (ls st : List AV) (σ : AH) : Option ACfg := match st with
  | v :: i :: x :: st => if i.1 = 0 ∧ x.1 = 2 ∧ v.1 = tv ∧ kd x.2.toNat = kk ∧ 0 ≤ i.2 ∧ i.2 < ln x.2.toNat ∧ (kk = 22 → v.2 = 0 ∨ v.2 = 1) then some (k + 1, ls, st, up2 σ x.2.toNat i.2.toNat v.2) else none
  | _ => none
def sAald (k : Nat) (ls st : List AV) (σ : AH) : Option ACfg := match st with
  | i :: x :: st => if i.1 = 0 ∧ x.1 = 2 ∧ (kd x.2.toNat = 23 ∨ kd x.2.toNat = 24) ∧ 0 ≤ i.2 ∧ i.2 < ln x.2.toNat ∧ 0 < fx x.2.toNat i.2.toNat then some (k + 1, ls, (2, (fx x.2.toNat i.2.toNat - 1 : Nat)) :: st, σ) else none
  | _ => none
def sAlen (X : AX) (k : Nat) (ls st : List AV) (σ : AH) : Option ACfg := match st with
  | x :: st => if x.1 = 2 ∧ 20 ≤ kd x.2.toNat ∧ kd x.2.toNat ≤ 24 then some (k + 1, ls, (0, ln x.2.toNat) :: st, σ) else if x.1 = 3 then some (k + 1, ls, (0, X.1) :: st, σ) else none
  | _ => none
def swOf (ts : List (Int × Nat)) (d : Nat) (x : Int) : Nat := match ts with
  | [] => d
  | t :: r => if x = t.1 then t.2 else swOf r d x
def sSw (ts : List (Int × Nat)) (d k : Nat) (ls st : List AV) (σ : AH) : Option ACfg := match st with
  | x :: st => if x.1 = 0 then some (swOf ts d x.2, ls, st, σ) else none
  | _ => none
def sDup (ls st : List AV) (k : Nat) (σ : AH) : Option ACfg := match st with
  | x :: st => if x.1 = 1 then none else some (k + 1, ls, x :: x :: st, σ)
  | _ => none
def sDup2 (ls st : List AV) (k : Nat) (σ : AH) : Option ACfg := match st with
  | x :: y :: st => if x.1 = 1 ∨ y.1 = 1 then none else some (k + 1, ls, x :: y :: x :: y :: st, σ)
  | _ => none
def sPop (ls st : List AV) (k : Nat) (σ : AH) : Option ACfg := match st with
  | x :: st => if x.1 = 1 then none else some (k + 1, ls, st, σ)
  | _ => none
/-- a null test: no cell is null -/
def sNull (v k : Nat) (ls st : List AV) (σ : AH) : Option ACfg := match st with
  | x :: st => if x.1 = 2 then some (v, ls, st, σ) else none
  | _ => none
def aCat (v : AV) : Nat := if v.1 = 1 then 2 else 1
def aCats (st : List AV) : Nat := (st.map aCat).sum
def sCopy (k : Nat) (ls st : List AV) (σ : AH) : Option ACfg := match st with
  | n :: dp :: d :: sp :: s :: st => if n.1 = 0 ∧ dp.1 = 0 ∧ sp.1 = 0 ∧ d.1 = 2 ∧ s.1 = 2 ∧ kd d.2.toNat = 20 ∧ kd s.2.toNat = 20 ∧ 0 ≤ n.2 ∧ 0 ≤ dp.2 ∧ 0 ≤ sp.2 ∧ sp.2 + n.2 ≤ ln s.2.toNat ∧ dp.2 + n.2 ≤ ln d.2.toNat ∧ aCats st ≤ 8 then some (k + 1, ls, st, cpy2 σ s.2.toNat d.2.toNat sp.2.toNat dp.2.toNat n.2.toNat) else none
  | _ => none
def sMM (f : Int → Int → Int) (k : Nat) (ls st : List AV) (σ : AH) : Option ACfg := match st with
  | y :: x :: st => if x.1 = 0 ∧ y.1 = 0 ∧ aCats st ≤ 8 then some (k + 1, ls, (0, f x.2 y.2) :: st, σ) else none
  | _ => none
def aMax (x y : Int) : Int := if x < y then y else x
def aMin (x y : Int) : Int := if y < x then y else x
def stepA (u : Nat) (w : Int) (i : Instr) (k : Nat) (ls st : List AV) (σ : AH) : Option ACfg := match i with
  | .iconst _ => sPush (0, w) k ls st σ
  | .bipush _ => sPush (0, w) k ls st σ
  | .sipush _ => sPush (0, w) k ls st σ
  | .ldc _ => sPush (0, w) k ls st σ
  | .ldc_w _ => sPush (0, w) k ls st σ
  | .lconst _ => sPush (1, w) k ls st σ
  | .ldc2_w _ => sPush (1, w) k ls st σ
  | .iload _ => sLoad 0 u k ls st σ
  | .iload_n _ => sLoad 0 u k ls st σ
  | .lload _ => sLoad 1 u k ls st σ
  | .lload_n _ => sLoad 1 u k ls st σ
  | .aload _ => sLoadA u k ls st σ
  | .aload_n _ => sLoadA u k ls st σ
  | .istore _ => sStore 0 u k ls st σ
  | .istore_n _ => sStore 0 u k ls st σ
  | .astore _ => sStore 2 u k ls st σ
  | .astore_n _ => sStore 2 u k ls st σ
  | .lstore _ => sStoreL u k ls st σ
  | .lstore_n _ => sStoreL u k ls st σ
  | .iinc _ _ => sInc u w k ls st σ
  | .dup => sDup ls st k σ
  | .dup2 => sDup2 ls st k σ
  | .pop => sPop ls st k σ
  | _ => none
def stepB (i : Instr) (k : Nat) (ls st : List AV) (σ : AH) : Option ACfg := match i with
  | .iadd => sBin 0 0 0 aAdd (fun _ => true) k ls st σ
  | .isub => sBin 0 0 0 aSub (fun _ => true) k ls st σ
  | .imul => sBin 0 0 0 aMul (fun _ => true) k ls st σ
  | .idiv => sBin 0 0 0 aDiv (fun y => y != 0) k ls st σ
  | .irem => sBin 0 0 0 aRem (fun y => y != 0) k ls st σ
  | .iand => sBin 0 0 0 aAnd (fun _ => true) k ls st σ
  | .ior => sBin 0 0 0 aOr (fun _ => true) k ls st σ
  | .ixor => sBin 0 0 0 aXor (fun _ => true) k ls st σ
  | .ishl => sBin 0 0 0 aShl (fun _ => true) k ls st σ
  | .ishr => sBin 0 0 0 aShr (fun _ => true) k ls st σ
  | .iushr => sBin 0 0 0 aUsh (fun _ => true) k ls st σ
  | .ladd => sBin 1 1 1 bAdd (fun _ => true) k ls st σ
  | .lmul => sBin 1 1 1 bMul (fun _ => true) k ls st σ
  | .ldiv => sBin 1 1 1 bDiv (fun y => y != 0) k ls st σ
  | .lrem => sBin 1 1 1 bRem (fun y => y != 0) k ls st σ
  | .land => sBin 1 1 1 bAnd (fun _ => true) k ls st σ
  | .lor => sBin 1 1 1 bOr (fun _ => true) k ls st σ
  | .lshl => sBin 1 0 1 bShl (fun _ => true) k ls st σ
  | .lshr => sBin 1 0 1 bShr (fun _ => true) k ls st σ
  | .lcmp => sBin 1 1 0 bCmp (fun _ => true) k ls st σ
  | .i2l => sUna 0 1 bI2l k ls st σ
  | .l2i => sUna 1 0 bL2i k ls st σ
  | _ => none
def stepC (v : Nat) (ts : List (Int × Nat)) (i : Instr) (k : Nat) (ls st : List AV) (σ : AH) : Option ACfg := match i with
  | .goto _ => some (v, ls, st, σ)
  | .ifCond .eq _ => sBr1 (fun x => decide (x = 0)) v k ls st σ
  | .ifCond .ne _ => sBr1 (fun x => decide (¬ x = 0)) v k ls st σ
  | .ifCond .lt _ => sBr1 (fun x => decide (x < 0)) v k ls st σ
  | .ifCond .ge _ => sBr1 (fun x => decide (0 ≤ x)) v k ls st σ
  | .ifCond .gt _ => sBr1 (fun x => decide (0 < x)) v k ls st σ
  | .ifCond .le _ => sBr1 (fun x => decide (x ≤ 0)) v k ls st σ
  | .if_icmp .eq _ => sBr2 (fun x y => decide (x = y)) v k ls st σ
  | .if_icmp .ne _ => sBr2 (fun x y => decide (¬ x = y)) v k ls st σ
  | .if_icmp .lt _ => sBr2 (fun x y => decide (x < y)) v k ls st σ
  | .if_icmp .ge _ => sBr2 (fun x y => decide (y ≤ x)) v k ls st σ
  | .if_icmp .gt _ => sBr2 (fun x y => decide (y < x)) v k ls st σ
  | .if_icmp .le _ => sBr2 (fun x y => decide (x ≤ y)) v k ls st σ
  | .tableswitch _ _ _ _ => sSw ts v k ls st σ
  | .lookupswitch _ _ => sSw ts v k ls st σ
  | .ifnull _ => sNull (k + 1) k ls st σ
  | .ifnonnull _ => sNull v k ls st σ
  | _ => none
def stepD (X : AX) (u v : Nat) (i : Instr) (k : Nat) (ls st : List AV) (σ : AH) : Option ACfg := match i with
  | .getfield _ => sGet u v k ls st σ
  | .putfield _ => sPut u v k ls st σ
  | .iaload => sAld X 20 0 k ls st σ
  | .laload => sAld X 21 1 k ls st σ
  | .baload => sAld X 22 0 k ls st σ
  | .iastore => sAst 20 0 k ls st σ
  | .lastore => sAst 21 1 k ls st σ
  | .bastore => sAst 22 0 k ls st σ
  | .aaload => sAald k ls st σ
  | .arraylength => sAlen X k ls st σ
  | .invokestatic _ => if u = 1000 then sCopy k ls st σ else if u = 1002 then sMM aMax k ls st σ else if u = 1003 then sMM aMin k ls st σ else none
  | _ => none
/-- which of the four a step is: by its instruction alone -/
def grp (i : Instr) : Nat := match i with
  | .iconst _ => 0
  | .bipush _ => 0
  | .sipush _ => 0
  | .ldc _ => 0
  | .ldc_w _ => 0
  | .lconst _ => 0
  | .ldc2_w _ => 0
  | .iload _ => 0
  | .iload_n _ => 0
  | .lload _ => 0
  | .lload_n _ => 0
  | .aload _ => 0
  | .aload_n _ => 0
  | .istore _ => 0
  | .istore_n _ => 0
  | .astore _ => 0
  | .astore_n _ => 0
  | .lstore _ => 0
  | .lstore_n _ => 0
  | .iinc _ _ => 0
  | .dup => 0
  | .dup2 => 0
  | .pop => 0
  | .goto _ => 2
  | .ifCond _ _ => 2
  | .if_icmp _ _ => 2
  | .tableswitch _ _ _ _ => 2
  | .lookupswitch _ _ => 2
  | .ifnull _ => 2
  | .ifnonnull _ => 2
  | .getfield _ => 3
  | .putfield _ => 3
  | .iaload => 3
  | .laload => 3
  | .baload => 3
  | .iastore => 3
  | .lastore => 3
  | .bastore => 3
  | .aaload => 3
  | .arraylength => 3
  | .invokestatic _ => 3
  | .ireturn => 4
  | .lreturn => 4
  | .areturn => 4
  | .return_ => 4
  | .invokevirtual _ => 5
  | _ => 1
def stepS (X : AX) (e : Ent) (k : Nat) (ls st : List AV) (σ : AH) : Option ACfg := match grp e.2.1 with
  | 0 => stepA e.2.2.2.1 e.2.2.2.2.2.1 e.2.1 k ls st σ
  | 1 => stepB e.2.1 k ls st σ
  | 2 => stepC e.2.2.2.2.1 e.2.2.2.2.2.2 e.2.1 k ls st σ
  | 3 => stepD X e.2.2.2.1 e.2.2.2.2.1 e.2.1 k ls st σ
  | _ => none
/-- a return: what it answers -/
def retA (m : Nat) (i : Instr) (st : List AV) : Option (Option AV) := match i with
  | .ireturn => (match st with | [x] => if x.1 = 0 ∧ (mRt m = 0 ∨ mRt m = 4 ∧ (x.2 = 0 ∨ x.2 = 1)) then some (some x) else none | _ => none)
  | .lreturn => (match st with | [x] => if x.1 = 1 ∧ mRt m = 1 then some (some x) else none | _ => none)
  | .areturn => (match st with | [x] => if x.1 = 2 ∧ mRt m = 2 then some (some x) else none | _ => none)
  | .return_ => (match st with | [] => if mRt m = 9 then some none else none | _ => none)
  | _ => none
/-- a call: whom, with what, what stays on the stack -/
def callA (e : Ent) (st : List AV) : Option (List AV × List AV) :=
  if e.2.2.2.2.1 ≤ st.length ∧ ((st.take e.2.2.2.2.1).reverse.map Prod.fst) = mPa e.2.2.2.1 ∧ aCats (st.drop e.2.2.2.2.1) ≤ 8 ∧ (mSt e.2.2.2.1 = false → kd ((st.take e.2.2.2.2.1).reverse.headD (9, 0)).2.toNat = mcl e.2.2.2.1)
  then some ((st.take e.2.2.2.2.1).reverse, st.drop e.2.2.2.2.1) else none
def isCall (e : Ent) : Bool := match e.2.1 with
  | .invokevirtual _ => true
  | .invokestatic _ => decide (e.2.2.2.1 < 1000)
  | _ => false
def aExp (vs : List AV) : List AV := match vs with
  | [] => []
  | v :: r => if v.1 = 1 then v :: (9, 0) :: aExp r else v :: aExp r
def aEnt (m : Nat) (vs : List AV) : List AV := aExp vs ++ List.replicate (mL m - (aExp vs).length) (9, 0)
/-- the own words, as their bytes -/
def ownWs : List (List Int) := [[115, 116, 97, 116, 105, 111, 110], [115, 116, 111, 112], [116, 114, 97, 105, 110], [102, 114, 111, 109], [115, 101, 97, 116, 115], [99, 97, 108, 108, 115], [97, 102, 116, 101, 114], [112, 101, 114, 115, 111, 110], [97, 103, 101], [98, 111, 114, 110], [97, 116], [116, 111], [112, 114, 105, 99, 101]]
def ownI (ws : List (List Int)) (i : Int) (f : Nat → Int) (n : Nat) : Int := match ws with
  | [] => -1
  | w :: r => if w.length = n ∧ (∀ k, k < n → f k = w.getD k 0) then i else ownI r (i + 1) f n
/-- Tokens.ownWord, whose texts are walked apart -/
def ownA (vs : List AV) (σ : AH) : Option (Option AV × AH) := match vs with
  | [t, st, n] => if t.1 = 2 ∧ st.1 = 0 ∧ n.1 = 0 ∧ kd t.2.toNat = 7 ∧ 0 ≤ st.2 ∧ 0 ≤ n.2 ∧ st.2 + n.2 ≤ 1600 then some (some (0, ownI ownWs 1 (fun k => σ (fx t.2.toNat 0 - 1) (st.2.toNat + k)) n.2.toNat), σ) else none
  | _ => none
def run (X : AX) : Nat → Nat → ACfg → Option (Option AV × AH)
  | 0, _, _ => none
  | n + 1, m, c => match (cod m)[c.1]? with
    | none => none
    | some e => if isCall e = true then (match callA e c.2.2.1 with
        | none => none
        | some a => match (if e.2.2.2.1 = OWN then ownA a.1 c.2.2.2 else run X n e.2.2.2.1 (0, aEnt e.2.2.2.1 a.1, [], c.2.2.2)) with
          | none => none
          | some r => run X n m (c.1 + 1, c.2.1, r.1.toList ++ a.2, r.2))
      else if grp e.2.1 = 4 then (match retA m e.2.1 c.2.2.1 with
        | none => none
        | some r => some (r, c.2.2.2))
      else match stepS X e c.1 c.2.1 c.2.2.1 c.2.2.2 with
        | none => none
        | some c' => run X n m c'
/-- the method, here, comes to an end with this -/
def TT (X : AX) (m : Nat) (c : ACfg) (Q : Option AV → AH → Prop) : Prop := ∃ n r, run X n m c = some r ∧ Q r.1 r.2
