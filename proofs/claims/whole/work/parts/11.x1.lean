/-! one step of the abstract machine -/
def xN (n pc pc' : Nat) (ls ls' : List (Option Value)) (S S' : xS) : Prop := pc' = pc + n ∧ ls' = ls ∧ S' = S
def xPv (S : xS) (ci a k : Nat) (ty : FieldType) (v : Value) (S' : xS) : Prop := match v with
  | .int x => xfk ci k = 0 ∧ narrow ty (.int x) = .int x ∧ fits ty (.int x) = true ∧ S' = pI S a k x
  | .long x => xfk ci k = 1 ∧ ty = .long ∧ S' = pJ S a k x
  | .ref q => xfk ci k = 2 ∧ fits ty (.ref 0) = true ∧ S' = pP S a k (q + 1)
  | .null => xfk ci k = 2 ∧ fits ty .null = true ∧ S' = pP S a k 0
  | _ => False
def xat (t : ArrayType) : Option Nat := match t with
  | .int => some 0
  | .byte => some 1
  | .boolean => some 2
  | .long => some 3
  | _ => none
/-- java.lang.Math's own methods -/
def xMth (y : MethodName) (idx : Nat) (s0 s1 : List Value) : Prop :=
  (Cond.methodLink y.cls idx Lib.Math.max.name ∈ xgw ∧ ∃ x z r, s0 = .int z :: .int x :: r ∧ s1 = .int (if x < z then z else x) :: r ∧ (r.map fun v => v.category).sum ≤ 8) ∨
  (Cond.methodLink y.cls idx Lib.Math.min.name ∈ xgw ∧ ∃ x z r, s0 = .int z :: .int x :: r ∧ s1 = .int (if z < x then z else x) :: r ∧ (r.map fun v => v.category).sum ≤ 8) ∨
  (Cond.methodLink y.cls idx Lib.MathLoose.abs_long.x ∈ xgw ∧ ∃ x r, s0 = .long x :: r ∧ s1 = .long (if 0 < x then x else -x) :: r ∧ (r.map fun v => v.category).sum ≤ 8)
abbrev xCl : Type := MethodName → List Value → xS → Option Value → xS → Prop
def xSm (call : xCl) (ex : Bool) (X : Option (Nat × (Nat → Int32))) (y : MethodName) (pc len : Nat) (ls : List (Option Value)) (s0 : List Value) (S : xS) (pc' : Nat) (ls' : List (Option Value)) (s1 : List Value) (S' : xS) (i : Instr) : Prop := match i with
  | .iconst n => len = 1 ∧ xN 1 pc pc' ls ls' S S' ∧ s1 = .int (Int32.ofInt n) :: s0
  | .bipush n => len = 2 ∧ xN 2 pc pc' ls ls' S S' ∧ s1 = .int (Int8.ofInt n).toInt32 :: s0
  | .sipush n => len = 3 ∧ xN 3 pc pc' ls ls' S S' ∧ s1 = .int (Int16.ofInt n).toInt32 :: s0
  | .lconst n => len = 1 ∧ xN 1 pc pc' ls ls' S S' ∧ s1 = .long (Int64.ofNat (n : Nat)) :: s0
  | .ldc idx => len = 2 ∧ xN 2 pc pc' ls ls' S S' ∧ ∃ v, Cond.constant y.cls idx v ∈ xgw ∧ s1 = .int v :: s0
  | .ldc_w idx => len = 3 ∧ xN 3 pc pc' ls ls' S S' ∧ ∃ v, Cond.constant y.cls idx v ∈ xgw ∧ s1 = .int v :: s0
  | .ldc2_w idx => len = 3 ∧ xN 3 pc pc' ls ls' S S' ∧ ∃ v, Cond.constantLong y.cls idx v ∈ xgw ∧ s1 = .long v :: s0
  | .iload k => len = 2 ∧ xN 2 pc pc' ls ls' S S' ∧ ∃ x, ls[k]? = some (some (.int x)) ∧ s1 = .int x :: s0
  | .iload_n k => len = 1 ∧ xN 1 pc pc' ls ls' S S' ∧ ∃ x, ls[(k : Nat)]? = some (some (.int x)) ∧ s1 = .int x :: s0
  | .lload k => len = 2 ∧ xN 2 pc pc' ls ls' S S' ∧ ∃ x, ls[k]? = some (some (.long x)) ∧ s1 = .long x :: s0
  | .lload_n k => len = 1 ∧ xN 1 pc pc' ls ls' S S' ∧ ∃ x, ls[(k : Nat)]? = some (some (.long x)) ∧ s1 = .long x :: s0
  | .aload k => len = 2 ∧ xN 2 pc pc' ls ls' S S' ∧ ∃ v, (∃ a, v = .ref a ∨ v = .retAddr a) ∧ ls[k]? = some (some v) ∧ s1 = v :: s0
  | .aload_n k => len = 1 ∧ xN 1 pc pc' ls ls' S S' ∧ ∃ v, (∃ a, v = .ref a ∨ v = .retAddr a) ∧ ls[(k : Nat)]? = some (some v) ∧ s1 = v :: s0
  | .istore k => len = 2 ∧ pc' = pc + 2 ∧ S' = S ∧ k < ls.length ∧ ∃ x, s0 = .int x :: s1 ∧ ls' = xset ls k (.int x)
  | .istore_n k => len = 1 ∧ pc' = pc + 1 ∧ S' = S ∧ (k : Nat) < ls.length ∧ ∃ x, s0 = .int x :: s1 ∧ ls' = xset ls k (.int x)
  | .lstore k => len = 2 ∧ pc' = pc + 2 ∧ S' = S ∧ k + 1 < ls.length ∧ ∃ x, s0 = .long x :: s1 ∧ ls' = xset2 ls k (.long x)
  | .lstore_n k => len = 1 ∧ pc' = pc + 1 ∧ S' = S ∧ (k : Nat) + 1 < ls.length ∧ ∃ x, s0 = .long x :: s1 ∧ ls' = xset2 ls k (.long x)
  | .astore k => len = 2 ∧ pc' = pc + 2 ∧ S' = S ∧ k < ls.length ∧ ∃ x, s0 = .ref x :: s1 ∧ ls' = xset ls k (.ref x)
  | .astore_n k => len = 1 ∧ pc' = pc + 1 ∧ S' = S ∧ (k : Nat) < ls.length ∧ ∃ x, s0 = .ref x :: s1 ∧ ls' = xset ls k (.ref x)
  | .iinc k n => len = 3 ∧ pc' = pc + 3 ∧ S' = S ∧ s1 = s0 ∧ ∃ x, ls[k]? = some (some (.int x)) ∧ ls' = xset ls k (.int (x + Int32.ofInt n))
  | .iadd => len = 1 ∧ xN 1 pc pc' ls ls' S S' ∧ ∃ x z r, s0 = .int z :: .int x :: r ∧ s1 = .int (x + z) :: r
  | .isub => len = 1 ∧ xN 1 pc pc' ls ls' S S' ∧ ∃ x z r, s0 = .int z :: .int x :: r ∧ s1 = .int (x - z) :: r
  | .imul => len = 1 ∧ xN 1 pc pc' ls ls' S S' ∧ ∃ x z r, s0 = .int z :: .int x :: r ∧ s1 = .int (x * z) :: r
  | .iand => len = 1 ∧ xN 1 pc pc' ls ls' S S' ∧ ∃ x z r, s0 = .int z :: .int x :: r ∧ s1 = .int (x &&& z) :: r
  | .ior => len = 1 ∧ xN 1 pc pc' ls ls' S S' ∧ ∃ x z r, s0 = .int z :: .int x :: r ∧ s1 = .int (x ||| z) :: r
  | .ixor => len = 1 ∧ xN 1 pc pc' ls ls' S S' ∧ ∃ x z r, s0 = .int z :: .int x :: r ∧ s1 = .int (x ^^^ z) :: r
  | .idiv => len = 1 ∧ xN 1 pc pc' ls ls' S S' ∧ ∃ x z r, ¬ z = 0 ∧ s0 = .int z :: .int x :: r ∧ s1 = .int (x / z) :: r
  | .irem => len = 1 ∧ xN 1 pc pc' ls ls' S S' ∧ ∃ x z r, ¬ z = 0 ∧ s0 = .int z :: .int x :: r ∧ s1 = .int (x - x / z * z) :: r
  | .ishl => len = 1 ∧ xN 1 pc pc' ls ls' S S' ∧ ∃ x z r, s0 = .int z :: .int x :: r ∧ s1 = .int (x <<< (z &&& 31)) :: r
  | .ishr => len = 1 ∧ xN 1 pc pc' ls ls' S S' ∧ ∃ x z r, s0 = .int z :: .int x :: r ∧ s1 = .int (x >>> (z &&& 31)) :: r
  | .iushr => len = 1 ∧ xN 1 pc pc' ls ls' S S' ∧ ∃ x z r, s0 = .int z :: .int x :: r ∧ s1 = .int (x.toUInt32 >>> (z.toUInt32 &&& Int32.toUInt32 31)).toInt32 :: r
  | .ladd => len = 1 ∧ xN 1 pc pc' ls ls' S S' ∧ ∃ x z r, s0 = .long z :: .long x :: r ∧ s1 = .long (x + z) :: r
  | .lsub => len = 1 ∧ xN 1 pc pc' ls ls' S S' ∧ ∃ x z r, s0 = .long z :: .long x :: r ∧ s1 = .long (x - z) :: r
  | .lmul => len = 1 ∧ xN 1 pc pc' ls ls' S S' ∧ ∃ x z r, s0 = .long z :: .long x :: r ∧ s1 = .long (x * z) :: r
  | .land => len = 1 ∧ xN 1 pc pc' ls ls' S S' ∧ ∃ x z r, s0 = .long z :: .long x :: r ∧ s1 = .long (x &&& z) :: r
  | .ldiv => len = 1 ∧ xN 1 pc pc' ls ls' S S' ∧ ∃ x z r, ¬ z = 0 ∧ s0 = .long z :: .long x :: r ∧ s1 = .long (x / z) :: r
  | .lrem => len = 1 ∧ xN 1 pc pc' ls ls' S S' ∧ ∃ x z r, ¬ z = 0 ∧ s0 = .long z :: .long x :: r ∧ s1 = .long (x - x / z * z) :: r
  | .lneg => len = 1 ∧ xN 1 pc pc' ls ls' S S' ∧ ∃ x r, s0 = .long x :: r ∧ s1 = .long (-x) :: r
  | .lcmp => len = 1 ∧ xN 1 pc pc' ls ls' S S' ∧ ∃ x z r, s0 = .long z :: .long x :: r ∧ s1 = .int (lg_cmp x z) :: r
  | .i2l => len = 1 ∧ xN 1 pc pc' ls ls' S S' ∧ ∃ x r, s0 = .int x :: r ∧ s1 = .long x.toInt64 :: r
  | .l2i => len = 1 ∧ xN 1 pc pc' ls ls' S S' ∧ ∃ x r, s0 = .long x :: r ∧ s1 = .int x.toInt32 :: r
  | .i2b => len = 1 ∧ xN 1 pc pc' ls ls' S S' ∧ ∃ x r, s0 = .int x :: r ∧ s1 = .int x.toInt8.toInt32 :: r
  | .dup => len = 1 ∧ xN 1 pc pc' ls ls' S S' ∧ ∃ v r, v.category = 1 ∧ s0 = v :: r ∧ s1 = v :: v :: r
  | .dup2 => len = 1 ∧ xN 1 pc pc' ls ls' S S' ∧ ((∃ v u r, v.category = 1 ∧ u.category = 1 ∧ s0 = v :: u :: r ∧ s1 = v :: u :: v :: u :: r) ∨ ∃ v r, v.category = 2 ∧ s0 = v :: r ∧ s1 = v :: v :: r)
  | .pop => len = 1 ∧ xN 1 pc pc' ls ls' S S' ∧ ∃ v, v.category = 1 ∧ s0 = v :: s1
  | .goto off => len = 3 ∧ ls' = ls ∧ S' = S ∧ s1 = s0 ∧ xtg pc off pc'
  | .ifCond c off => len = 3 ∧ ls' = ls ∧ S' = S ∧ ∃ x, s0 = .int x :: s1 ∧ ((xcond c x 0 ∧ xtg pc off pc') ∨ (¬ xcond c x 0 ∧ (∃ tgt, xtg pc off tgt) ∧ pc' = pc + 3))
  | .if_icmp c off => len = 3 ∧ ls' = ls ∧ S' = S ∧ ∃ x z, s0 = .int z :: .int x :: s1 ∧ ((xcond c x z ∧ xtg pc off pc') ∨ (¬ xcond c x z ∧ (∃ tgt, xtg pc off tgt) ∧ pc' = pc + 3))
  | .tableswitch d lo hi offs => ls' = ls ∧ S' = S ∧ ∃ x, s0 = .int x :: s1 ∧ (((x.toInt < lo ∨ hi < x.toInt) ∧ xtg pc d pc') ∨ (¬ x.toInt < lo ∧ ¬ hi < x.toInt ∧ ∃ off, offs[(x.toInt - lo).toNat]? = some off ∧ xtg pc off pc'))
  | .getfield idx => len = 3 ∧ xN 3 pc pc' ls ls' S S' ∧ ∃ ci k ty N a r, xFl y.cls idx ci k ty ∧ S.1[a]? = some (.inl ci, N) ∧ k < N ∧ s0 = .ref a :: r ∧ s1 = xav S ci a k :: r
  | .putfield idx => len = 3 ∧ pc' = pc + 3 ∧ ls' = ls ∧ ∃ ci k ty N a v, xFl y.cls idx ci k ty ∧ xFin y ci k ∧ S.1[a]? = some (.inl ci, N) ∧ k < N ∧ s0 = v :: .ref a :: s1 ∧ xPv S ci a k ty v S'
  | .iaload => len = 1 ∧ xN 1 pc pc' ls ls' S S' ∧ ∃ i r, (∃ a n, s0 = .int i :: .ref a :: r ∧ S.1[a]? = some (.inr 0, n) ∧ vp_in i n ∧ s1 = .int (gI S a i.toNatClampNeg) :: r) ∨ ∃ z L xs, X = some (L, xs) ∧ s0 = .int i :: .retAddr z :: r ∧ vp_in i L ∧ s1 = .int (xs i.toNatClampNeg) :: r
  | .baload => len = 1 ∧ xN 1 pc pc' ls ls' S S' ∧ ∃ i r a n j, (j = 1 ∨ j = 2) ∧ s0 = .int i :: .ref a :: r ∧ S.1[a]? = some (.inr j, n) ∧ vp_in i n ∧ s1 = .int (gI S a i.toNatClampNeg) :: r
  | .laload => len = 1 ∧ xN 1 pc pc' ls ls' S S' ∧ ∃ i r a n, s0 = .int i :: .ref a :: r ∧ S.1[a]? = some (.inr 3, n) ∧ vp_in i n ∧ s1 = .long (gJ S a i.toNatClampNeg) :: r
  | .aaload => len = 1 ∧ xN 1 pc pc' ls ls' S S' ∧ ∃ i r a n, s0 = .int i :: .ref a :: r ∧ S.1[a]? = some (.inr 4, n) ∧ vp_in i n ∧ s1 = xrv (gP S a i.toNatClampNeg) :: r
  | .iastore => len = 1 ∧ pc' = pc + 1 ∧ ls' = ls ∧ ∃ x i a n, s0 = .int x :: .int i :: .ref a :: s1 ∧ S.1[a]? = some (.inr 0, n) ∧ vp_in i n ∧ S' = pI S a i.toNatClampNeg x
  | .bastore => len = 1 ∧ pc' = pc + 1 ∧ ls' = ls ∧ ∃ x i a n, s0 = .int x :: .int i :: .ref a :: s1 ∧ vp_in i n ∧ ((S.1[a]? = some (.inr 1, n) ∧ S' = pI S a i.toNatClampNeg (vp_nar .byte x)) ∨ (S.1[a]? = some (.inr 2, n) ∧ S' = pI S a i.toNatClampNeg (vp_nar .boolean x)))
  | .lastore => len = 1 ∧ pc' = pc + 1 ∧ ls' = ls ∧ ∃ x i a n, s0 = .long x :: .int i :: .ref a :: s1 ∧ S.1[a]? = some (.inr 3, n) ∧ vp_in i n ∧ S' = pJ S a i.toNatClampNeg x
  | .aastore => len = 1 ∧ pc' = pc + 1 ∧ ls' = ls ∧ ∃ q i a n N, s0 = .ref q :: .int i :: .ref a :: s1 ∧ S.1[a]? = some (.inr 4, n) ∧ S.1[q]? = some (.inl 0, N) ∧ vp_in i n ∧ S' = pP S a i.toNatClampNeg (q + 1)
  | .arraylength => len = 1 ∧ xN 1 pc pc' ls ls' S S' ∧ ∃ r, (∃ a j n, s0 = .ref a :: r ∧ S.1[a]? = some (.inr j, n) ∧ s1 = .int (Int32.ofNat n) :: r) ∨ ∃ z L xs, X = some (L, xs) ∧ s0 = .retAddr z :: r ∧ s1 = .int (Int32.ofNat L) :: r
  | .new idx => len = 3 ∧ pc' = pc + 3 ∧ ls' = ls ∧ ex = true ∧ ∃ ci N, xNl y.cls idx ci N ∧ s1 = .ref S.1.length :: s0 ∧ S' = pN S (.inl ci) N
  | .newarray t => len = 2 ∧ pc' = pc + 2 ∧ ls' = ls ∧ ex = true ∧ ∃ n r j, s0 = .int n :: r ∧ ¬ n < 0 ∧ n.toNatClampNeg ≤ 1000000 ∧ xat t = some j ∧ s1 = .ref S.1.length :: r ∧ S' = pN S (.inr j) n.toNatClampNeg
  | .anewarray idx => len = 3 ∧ pc' = pc + 3 ∧ ls' = ls ∧ ex = true ∧ Cond.classLink y.cls idx RX0 ∈ xgw ∧ ∃ n r, s0 = .int n :: r ∧ ¬ n < 0 ∧ n.toNatClampNeg ≤ 1000000 ∧ s1 = .ref S.1.length :: r ∧ S' = pN S (.inr 4) n.toNatClampNeg
  | .invokevirtual idx => len = 3 ∧ pc' = pc + 3 ∧ ls' = ls ∧ ∃ y2 n ci vs a N r q, xVl y.cls idx y2 n ci ∧ S.1[a]? = some (.inl ci, N) ∧ vs.length = n ∧ s0 = vs.reverse ++ .ref a :: r ∧ (r.map fun v => v.category).sum ≤ 8 ∧ call y2 (.ref a :: vs) S q S' ∧ s1 = q.toList ++ r
  | .invokestatic idx => len = 3 ∧ pc' = pc + 3 ∧ ls' = ls ∧ ((∃ y2 n vs r q, xSl y.cls idx y2 n ∧ vs.length = n ∧ s0 = vs.reverse ++ r ∧ (r.map fun v => v.category).sum ≤ 8 ∧ call y2 vs S q S' ∧ s1 = q.toList ++ r) ∨
      (Cond.methodLink y.cls idx arraycopyName ∈ xgw ∧ ∃ n dp sp a0 a1 n0 n1, s0 = .int n :: .int dp :: .ref a1 :: .int sp :: .ref a0 :: s1 ∧ S.1[a0]? = some (.inr 0, n0) ∧ S.1[a1]? = some (.inr 0, n1) ∧ ¬ sp < 0 ∧ ¬ dp < 0 ∧ ¬ n < 0 ∧ sp.toNatClampNeg + n.toNatClampNeg ≤ n0 ∧ dp.toNatClampNeg + n.toNatClampNeg ≤ n1 ∧ (s1.map fun v => v.category).sum ≤ 8 ∧ S' = pC S a0 sp.toNatClampNeg a1 dp.toNatClampNeg n.toNatClampNeg) ∨ (S' = S ∧ xMth y idx s0 s1))
  | .invokespecial idx => len = 3 ∧ pc' = pc + 3 ∧ ls' = ls ∧ ((∃ y2 n vs a r, xIl y.cls idx y2 n ∧ vs.length = n ∧ s0 = vs.reverse ++ .ref a :: r ∧ (r.map fun v => v.category).sum ≤ 8 ∧ call y2 (.ref a :: vs) S none S' ∧ s1 = r) ∨
      (Cond.methodLink y.cls idx objectInit ∈ xgw ∧ S' = S ∧ ∃ a, s0 = .ref a :: s1 ∧ (s1.map fun v => v.category).sum ≤ 8))
  | _ => False
def xSt (call : xCl) (ex : Bool) (X : Option (Nat × (Nat → Int32))) (y : MethodName) (cc : ByteArray) (pc : Nat) (ls : List (Option Value)) (s0 : List Value) (S : xS) (pc' : Nat) (ls' : List (Option Value)) (s1 : List Value) (S' : xS) : Prop :=
  ∃ (i : Instr) (len : Nat), decode cc pc = .ok (i, len) ∧ xSm call ex X y pc len ls s0 S pc' ls' s1 S' i
def xRt (cc : ByteArray) (ret : Option FieldType) (pc : Nat) (s0 : List Value) (r : Option Value) : Prop :=
  ∃ (i : Instr) (len : Nat), decode cc pc = .ok (i, len) ∧ len = 1 ∧ match i with
    | .ireturn => ∃ x ty, s0 = [.int x] ∧ ret = some ty ∧ narrow ty (.int x) = .int x ∧ r = some (.int x)
    | .lreturn => ∃ x, s0 = [.long x] ∧ ret = some .long ∧ r = some (.long x)
    | .return_ => s0 = [] ∧ ret = none ∧ r = none
    | _ => False
/-- n steps, then a return -/
def xRn (call : xCl) (ex : Bool) (X : Option (Nat × (Nat → Int32))) (y : MethodName) (cc : ByteArray) (ret : Option FieldType) : Nat → Nat → List (Option Value) → List Value → xS → Option Value → xS → Prop
  | 0, pc, _, s0, S, r, S' => xRt cc ret pc s0 r ∧ S' = S
  | n + 1, pc, ls, s0, S, r, S' => ∃ pc1 ls1 s1 S1, xSt call ex X y cc pc ls s0 S pc1 ls1 s1 S1 ∧ xRn call ex X y cc ret n pc1 ls1 s1 S1 r S'
/-- a call, at most d deep -/
def xEx (E : xCl) (ex : Bool) : Nat → xCl
  | 0 => fun _ _ _ _ _ => False
  | d + 1 => fun y vs S r S' => (∃ cc nL ret n, Cond.code y cc nL ret ∈ xgw ∧ plainName y.cls = true ∧ nL ≤ 40 ∧ (lg_sl vs).length ≤ nL ∧ xRn (xEx E ex d) ex none y cc ret n 0 (xent vs nL) [] S r S') ∨ E y vs S r S' ∨ xEx E ex d y vs S r S'
theorem xPv_sh {S : xS} {ci a k : Nat} {ty : FieldType} {v : Value} {S' : xS} (h : xPv S ci a k ty v S') : S'.1 = S.1 := by
  cases v with
  | int x => obtain ⟨-, -, -, rfl⟩ := h; rfl
  | long x => obtain ⟨-, -, rfl⟩ := h; rfl
  | ref x => obtain ⟨-, -, rfl⟩ := h; rfl
  | null => obtain ⟨-, -, rfl⟩ := h; rfl
  | _ => exact h.elim
/-- a step only adds cells -/
theorem xSt_sh {call : xCl} {ex : Bool} {X : Option (Nat × (Nat → Int32))} {y : MethodName} {cc : ByteArray} {pc pc' : Nat} {ls ls' : List (Option Value)} {s0 s1 : List Value} {S S' : xS} (hc : ∀ y vs S r S', call y vs S r S' → S.1 <+: S'.1) (h : xSt call ex X y cc pc ls s0 S pc' ls' s1 S') : S.1 <+: S'.1 := by
  obtain ⟨i, len, -, h⟩ := h
  have hr : ∀ {A : xS}, A = S → S.1 <+: A.1 := fun h => by rw [h]; exact List.prefix_refl _
  have hq : ∀ {A : xS}, A.1 = S.1 → S.1 <+: A.1 := fun h => by rw [h]; exact List.prefix_refl _
  have hp : ∀ {A : xS} {c n}, A = pN S c n → S.1 <+: A.1 := fun h => by rw [h]; exact List.prefix_append _ _
  cases i with
  | putfield idx => obtain ⟨-, -, -, ci, k, ty, N, a, v, -, -, -, -, -, h⟩ := h; exact hq (xPv_sh h)
  | iastore => obtain ⟨-, -, -, x, i, a, n, -, -, -, h⟩ := h; exact hq (by rw [h]; rfl)
  | bastore => obtain ⟨-, -, -, x, i, a, n, -, -, ⟨-, h⟩ | ⟨-, h⟩⟩ := h <;> exact hq (by rw [h]; rfl)
  | lastore => obtain ⟨-, -, -, x, i, a, n, -, -, -, h⟩ := h; exact hq (by rw [h]; rfl)
  | aastore => obtain ⟨-, -, -, q, i, a, n, N, -, -, -, -, h⟩ := h; exact hq (by rw [h]; rfl)
  | new idx => obtain ⟨-, -, -, -, ci, N, -, -, h⟩ := h; exact hp h
  | newarray t => obtain ⟨-, -, -, -, n, r, j, -, -, -, -, -, h⟩ := h; exact hp h
  | anewarray t => obtain ⟨-, -, -, -, -, n, r, -, -, -, -, h⟩ := h; exact hp h
  | invokevirtual idx => obtain ⟨-, -, -, y2, n, ci, vs, a, N, r, q, -, -, -, -, -, h, -⟩ := h; exact hc _ _ _ _ _ h
  | invokestatic idx =>
    obtain ⟨-, -, -, ⟨y2, n, vs, r, q, -, -, -, -, h, -⟩ | ⟨-, n, dp, sp, a0, a1, n0, n1, -, -, -, -, -, -, -, -, -, h⟩ | ⟨h, -⟩⟩ := h
    · exact hc _ _ _ _ _ h
    · exact hq (by rw [h]; rfl)
    · exact hr h
  | invokespecial idx =>
    obtain ⟨-, -, -, ⟨y2, n, vs, a, r, -, -, -, -, h, -⟩ | ⟨-, h, -⟩⟩ := h
    · exact hc _ _ _ _ _ h
    · exact hr h
  | goto off => exact hr h.2.2.1
  | ifCond c off => exact hr h.2.2.1
  | if_icmp c off => exact hr h.2.2.1
  | tableswitch d lo hi offs => exact hr h.2.1
  | istore k => exact hr h.2.2.1
  | istore_n k => exact hr h.2.2.1
  | lstore k => exact hr h.2.2.1
  | lstore_n k => exact hr h.2.2.1
  | astore k => exact hr h.2.2.1
  | astore_n k => exact hr h.2.2.1
  | iinc k n => exact hr h.2.2.1
  | _ => first | exact h.elim | exact hr h.2.1.2.2
theorem xRn_sh {call : xCl} {ex : Bool} {X : Option (Nat × (Nat → Int32))} {y : MethodName} {cc : ByteArray} {ret : Option FieldType} (hc : ∀ y vs S r S', call y vs S r S' → S.1 <+: S'.1) : ∀ (n pc : Nat) (ls : List (Option Value)) (s0 : List Value) (S : xS) (r : Option Value) (S' : xS), xRn call ex X y cc ret n pc ls s0 S r S' → S.1 <+: S'.1
  | 0, _, _, _, _, _, _, h => by rw [h.2]; exact List.prefix_refl _
  | n + 1, _, _, _, _, _, _, ⟨_, _, _, _, h1, h2⟩ => (xSt_sh hc h1).trans (xRn_sh hc n _ _ _ _ _ _ h2)
theorem xEx_sh {E : xCl} {ex : Bool} (hE : ∀ y vs S r S', E y vs S r S' → S.1 <+: S'.1) : ∀ (d : Nat) (y : MethodName) (vs : List Value) (S : xS) (r : Option Value) (S' : xS), xEx E ex d y vs S r S' → S.1 <+: S'.1
  | 0, _, _, _, _, _, h => h.elim
  | d + 1, y, vs, S, r, S', h => by
    rcases h with ⟨cc, nL, ret, n, -, -, -, -, h⟩ | h | h
    · exact xRn_sh (xEx_sh hE d) n _ _ _ _ _ _ h
    · exact hE _ _ _ _ _ h
    · exact xEx_sh hE d _ _ _ _ _ h
