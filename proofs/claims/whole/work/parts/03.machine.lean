/-! an abstract machine over the program's bytecode: cells by number, ints and references apart; what it comes to, the JVM comes to (part 04) -/
abbrev xG : Type := Nat → Nat → Nat
abbrev xH : Type := Nat → Nat → Int32
abbrev xS : Type := xG × xH × Nat
def xp {α : Type} (f : Nat → α) (k : Nat) (v : α) : Nat → α := fun j => if j = k then v else f j
def xu {α : Type} (f : Nat → Nat → α) (a k : Nat) (v : α) : Nat → Nat → α := xp f a (xp (f a) k v)
def xk (a : Nat) : Nat := (xLay.getD a (99, 0)).1
def xz (a : Nat) : Nat := (xLay.getD a (99, 0)).2
def xfk (ci k : Nat) : Nat := match xty ci k with
  | .int => 0
  | .boolean => 1
  | .object _ => 2
  | .array _ => 2
  | _ => 3
def xgf (S : xS) (a ci k : Nat) : Option Value := if xfk ci k = 2 then (match S.1 a k with | 0 => none | j + 1 => if j = 1000 then none else some (.ref j)) else some (.int (S.2.1 a k))
abbrev xRes : Type := (Option Value × xS) ⊕ ((Nat × List Value × List Value × xS × Nat × Nat) ⊕ (xM × List Value × Nat × List Value × Nat × Nat))
def xN (pc : Nat) (ls st : List Value) (S : xS) (kc ks : Nat) : Option xRes := some (.inr (.inl (pc, ls, st, S, kc, ks)))
def xJ (pc : Nat) (off : Int) (ls st : List Value) (S : xS) (kc ks : Nat) : Option xRes := if 0 ≤ (pc : Int) + off then xN ((pc : Int) + off).toNat ls st S kc ks else none
def xI (len k : Nat) (r : Option xRes) : Option xRes := if len = k then r else none
def xlg : Value → Bool
  | .long _ => true
  | .double _ => true
  | _ => false
def xc2 (v : Value) : Nat := v.category
/-- a store of one slot -/
def xs1 (M : xM) (i : Nat) (v : Value) (pc : Nat) (ls st : List Value) (S : xS) (kc ks : Nat) : Option xRes := if i < ls.length ∧ (mG M = false ∨ xlg (ls.getD (i - 1) .null) = false) then xN pc (ls.set i v) st S kc ks else none
def xfl (as : List Value) : List Value := as.flatMap (fun v => if xlg v then [v, .null] else [v])
def xent (as : List Value) (n : Nat) : List Value := xfl as ++ List.replicate (n - (xfl as).length) .null
/-- does a call fit -/
def xfit (M N : xM) (as rest : List Value) (kc ks : Nat) : Bool := decide (mF N + 1 ≤ mF M) && decide (8 + (mL N + 11) + mW N ≤ mW M) && decide (kc + mC N ≤ mC M) && decide (ks + mS N ≤ mS M) && decide ((rest.map xc2).sum ≤ 8) && (mG N || as.all (fun v => !xlg v)) && decide ((xfl as).length ≤ mL N)
def xcl (M N : xM) (as : List Value) (pc : Nat) (rest : List Value) (kc ks : Nat) : Option xRes := if xfit M N as rest kc ks = true then some (.inr (.inr (N, as, pc, rest, kc + mC N, ks + mS N))) else none
def xcm (c : ClassFile.Cond) (x y : Int32) : Bool := match c with
  | .eq => decide (x = y)
  | .ne => decide (¬ x = y)
  | .lt => decide (x < y)
  | .ge => decide (y ≤ x)
  | .gt => decide (y < x)
  | .le => decide (x ≤ y)
def xsi (X : (Nat → Int32) × Nat) (M : xM) (pc : Nat) (ls st : List Value) (S : xS) (kc ks : Nat) (i : Instr) (len : Nat) : Option xRes := match i with
  | .iconst n => xI len 1 (xN (pc + 1) ls (.int (Int32.ofInt n) :: st) S kc ks)
  | .bipush n => xI len 2 (xN (pc + 2) ls (.int (Int8.ofInt n).toInt32 :: st) S kc ks)
  | .sipush n => xI len 3 (xN (pc + 3) ls (.int (Int16.ofInt n).toInt32 :: st) S kc ks)
  | .lconst n => xI len 1 (xN (pc + 1) ls (.long (Int64.ofNat (n : Nat)) :: st) S kc ks)
  | .ldc k => xI len 2 (match xCo (mO M) k with | some v => xN (pc + 2) ls (.int v :: st) S kc ks | none => none)
  | .ldc_w k => xI len 3 (match xCo (mO M) k with | some v => xN (pc + 3) ls (.int v :: st) S kc ks | none => none)
  | .ldc2_w k => xI len 3 (match xCoL (mO M) k with | some v => xN (pc + 3) ls (.long v :: st) S kc ks | none => none)
  | .iload_n k => xI len 1 (match ls[(k : Nat)]? with | some (.int x) => xN (pc + 1) ls (.int x :: st) S kc ks | _ => none)
  | .iload k => xI len 2 (match ls[k]? with | some (.int x) => xN (pc + 2) ls (.int x :: st) S kc ks | _ => none)
  | .lload_n k => xI len 1 (match ls[(k : Nat)]? with | some (.long x) => xN (pc + 1) ls (.long x :: st) S kc ks | _ => none)
  | .lload k => xI len 2 (match ls[k]? with | some (.long x) => xN (pc + 2) ls (.long x :: st) S kc ks | _ => none)
  | .aload_n k => xI len 1 (match ls[(k : Nat)]? with | some (.ref x) => xN (pc + 1) ls (.ref x :: st) S kc ks | _ => none)
  | .istore_n k => xI len 1 (match st with | .int x :: r => xs1 M k (.int x) (pc + 1) ls r S kc ks | _ => none)
  | .istore k => xI len 2 (match st with | .int x :: r => xs1 M k (.int x) (pc + 2) ls r S kc ks | _ => none)
  | .astore_n k => xI len 1 (match st with | .ref x :: r => xs1 M k (.ref x) (pc + 1) ls r S kc ks | _ => none)
  | .lstore_n k => xI len 1 (match st with | .long x :: r => if (k : Nat) + 1 < ls.length ∧ mG M = true ∧ xlg (ls.getD ((k : Nat) - 1) .null) = false then xN (pc + 1) ((ls.set (k : Nat) (.long x)).set ((k : Nat) + 1) .null) r S kc ks else none | _ => none)
  | .iinc k n => xI len 3 (match ls[k]? with | some (.int x) => xs1 M k (.int (x + Int32.ofInt n)) (pc + 3) ls st S kc ks | _ => none)
  | .iadd => xI len 1 (match st with | .int y :: .int x :: r => xN (pc + 1) ls (.int (x + y) :: r) S kc ks | _ => none)
  | .isub => xI len 1 (match st with | .int y :: .int x :: r => xN (pc + 1) ls (.int (x - y) :: r) S kc ks | _ => none)
  | .imul => xI len 1 (match st with | .int y :: .int x :: r => xN (pc + 1) ls (.int (x * y) :: r) S kc ks | _ => none)
  | .iand => xI len 1 (match st with | .int y :: .int x :: r => xN (pc + 1) ls (.int (x &&& y) :: r) S kc ks | _ => none)
  | .ior => xI len 1 (match st with | .int y :: .int x :: r => xN (pc + 1) ls (.int (x ||| y) :: r) S kc ks | _ => none)
  | .ishl => xI len 1 (match st with | .int y :: .int x :: r => xN (pc + 1) ls (.int (x <<< (y &&& 31)) :: r) S kc ks | _ => none)
  | .iushr => xI len 1 (match st with | .int y :: .int x :: r => xN (pc + 1) ls (.int (x.toUInt32 >>> (y.toUInt32 &&& Int32.toUInt32 31)).toInt32 :: r) S kc ks | _ => none)
  | .idiv => xI len 1 (match st with | .int y :: .int x :: r => if y = 0 then none else xN (pc + 1) ls (.int (x / y) :: r) S kc ks | _ => none)
  | .irem => xI len 1 (match st with | .int y :: .int x :: r => if y = 0 then none else xN (pc + 1) ls (.int (x - x / y * y) :: r) S kc ks | _ => none)
  | .ladd => xI len 1 (match st with | .long y :: .long x :: r => xN (pc + 1) ls (.long (x + y) :: r) S kc ks | _ => none)
  | .lmul => xI len 1 (match st with | .long y :: .long x :: r => xN (pc + 1) ls (.long (x * y) :: r) S kc ks | _ => none)
  | .ldiv => xI len 1 (match st with | .long y :: .long x :: r => if y = 0 then none else xN (pc + 1) ls (.long (x / y) :: r) S kc ks | _ => none)
  | .lrem => xI len 1 (match st with | .long y :: .long x :: r => if y = 0 then none else xN (pc + 1) ls (.long (x - x / y * y) :: r) S kc ks | _ => none)
  | .lcmp => xI len 1 (match st with | .long y :: .long x :: r => xN (pc + 1) ls (.int (lg_cmp x y) :: r) S kc ks | _ => none)
  | .i2l => xI len 1 (match st with | .int x :: r => xN (pc + 1) ls (.long x.toInt64 :: r) S kc ks | _ => none)
  | .l2i => xI len 1 (match st with | .long x :: r => xN (pc + 1) ls (.int x.toInt32 :: r) S kc ks | _ => none)
  | .dup => xI len 1 (match st with | v :: r => if xlg v = false then xN (pc + 1) ls (v :: v :: r) S kc ks else none | _ => none)
  | .pop => xI len 1 (match st with | v :: r => if xlg v = false then xN (pc + 1) ls r S kc ks else none | _ => none)
  | .dup2 => xI len 1 (match st with | v :: w :: r => if xlg v = false ∧ xlg w = false then xN (pc + 1) ls (v :: w :: v :: w :: r) S kc ks else none | _ => none)
  | .goto off => xI len 3 (xJ pc off ls st S kc ks)
  | .ifCond c off => xI len 3 (match st with | .int x :: r => if 0 ≤ (pc : Int) + off then (if xcm c x 0 = true then xN ((pc : Int) + off).toNat ls r S kc ks else xN (pc + 3) ls r S kc ks) else none | _ => none)
  | .if_icmp c off => xI len 3 (match st with | .int y :: .int x :: r => if 0 ≤ (pc : Int) + off then (if xcm c x y = true then xN ((pc : Int) + off).toNat ls r S kc ks else xN (pc + 3) ls r S kc ks) else none | _ => none)
  | .tableswitch d lo hi offs => (match st with | .int x :: r => if x.toInt < lo ∨ hi < x.toInt then xJ pc d ls r S kc ks else (match offs[(x.toInt - lo).toNat]? with | some off => xJ pc off ls r S kc ks | none => none) | _ => none)
  | .lookupswitch d ps => (match st with | .int x :: r => if (ps.toList.zip (ps.toList.drop 1)).all (fun (a, next) => a.1 < next.1) = true then xJ pc (Op.lookupswitch.offset ps.toList d x.toInt) ls r S kc ks else none | _ => none)
  | .getfield idx => xI len 3 (match xFl (mO M) idx, st with | some (ci, k), .ref a :: r => if xk a = ci ∧ a < S.2.2 then (match xgf S a ci k with | some v => xN (pc + 3) ls (v :: r) S kc ks | none => none) else none | _, _ => none)
  | .putfield idx => xI len 3 (match xFl (mO M) idx, st with
    | some (ci, k), .int x :: .ref a :: r => if xk a = ci ∧ a < S.2.2 ∧ ((xT ci k).2.2.2 = false ∨ ((mY M).name = "<init>" ∧ ci = mO M)) ∧ (xfk ci k = 0 ∨ (xfk ci k = 1 ∧ (x = 0 ∨ x = 1))) then xN (pc + 3) ls r (S.1, xu S.2.1 a k x, S.2.2) kc ks else none
    | some (ci, k), .ref j :: .ref a :: r => if xk a = ci ∧ a < S.2.2 ∧ ((xT ci k).2.2.2 = false ∨ ((mY M).name = "<init>" ∧ ci = mO M)) ∧ xfk ci k = 2 ∧ j < S.2.2 then xN (pc + 3) ls r (xu S.1 a k (j + 1), S.2.1, S.2.2) kc ks else none
    | _, _ => none)
  | .iaload => xI len 1 (match st with | .int i :: .ref a :: r => if a = 1000 then (if i < 0 ∨ X.2 ≤ i.toNatClampNeg then none else xN (pc + 1) ls (.int (X.1 i.toNatClampNeg) :: r) S kc ks) else if xk a = 7 ∧ a < S.2.2 ∧ ¬ (i < 0 ∨ xz a ≤ i.toNatClampNeg) then xN (pc + 1) ls (.int (S.2.1 a i.toNatClampNeg) :: r) S kc ks else none | _ => none)
  | .baload => xI len 1 (match st with | .int i :: .ref a :: r => if xk a = 8 ∧ a < S.2.2 ∧ ¬ (i < 0 ∨ xz a ≤ i.toNatClampNeg) then xN (pc + 1) ls (.int (S.2.1 a i.toNatClampNeg) :: r) S kc ks else none | _ => none)
  | .aaload => xI len 1 (match st with | .int i :: .ref a :: r => if xk a = 9 ∧ a < S.2.2 ∧ ¬ (i < 0 ∨ xz a ≤ i.toNatClampNeg) then (match S.1 a i.toNatClampNeg with | 0 => none | j + 1 => if j = 1000 then none else xN (pc + 1) ls (.ref j :: r) S kc ks) else none | _ => none)
  | .iastore => xI len 1 (match st with | .int x :: .int i :: .ref a :: r => if xk a = 7 ∧ a < S.2.2 ∧ ¬ (i < 0 ∨ xz a ≤ i.toNatClampNeg) then xN (pc + 1) ls r (S.1, xu S.2.1 a i.toNatClampNeg x, S.2.2) kc ks else none | _ => none)
  | .bastore => xI len 1 (match st with | .int x :: .int i :: .ref a :: r => if xk a = 8 ∧ a < S.2.2 ∧ ¬ (i < 0 ∨ xz a ≤ i.toNatClampNeg) ∧ (x = 0 ∨ x = 1) then xN (pc + 1) ls r (S.1, xu S.2.1 a i.toNatClampNeg x, S.2.2) kc ks else none | _ => none)
  | .aastore => xI len 1 (match st with | .ref v :: .int i :: .ref a :: r => if xk a = 9 ∧ a < S.2.2 ∧ ¬ (i < 0 ∨ xz a ≤ i.toNatClampNeg) ∧ xk v = 3 ∧ v < S.2.2 then xN (pc + 1) ls r (xu S.1 a i.toNatClampNeg (v + 1), S.2.1, S.2.2) kc ks else none | _ => none)
  | .arraylength => xI len 1 (match st with | .ref a :: r => if a = 1000 then xN (pc + 1) ls (.int (Int32.ofNat X.2) :: r) S kc ks else none | _ => none)
  | .new idx => xI len 3 (match xNl (mO M) idx with | some ci => if xk S.2.2 = ci ∧ S.2.2 < 162 ∧ kc + 1 ≤ mC M ∧ ks + xz S.2.2 ≤ mS M then xN (pc + 3) ls (.ref S.2.2 :: st) (xp S.1 S.2.2 (fun _ => 0), xp S.2.1 S.2.2 (fun _ => 0), S.2.2 + 1) (kc + 1) (ks + xz S.2.2) else none | none => none)
  | .newarray ty => xI len 2 (match st with | .int x :: r => if ((newarray.typeOf ty = .int ∧ xk S.2.2 = 7) ∨ (newarray.typeOf ty = .boolean ∧ xk S.2.2 = 8)) ∧ S.2.2 < 162 ∧ ¬ x < 0 ∧ x.toNatClampNeg = xz S.2.2 ∧ kc + 1 ≤ mC M ∧ ks + xz S.2.2 ≤ mS M then xN (pc + 2) ls (.ref S.2.2 :: r) (xp S.1 S.2.2 (fun _ => 0), xp S.2.1 S.2.2 (fun _ => 0), S.2.2 + 1) (kc + 1) (ks + xz S.2.2) else none | _ => none)
  | .anewarray idx => xI len 3 (match xNl (mO M) idx, st with | some ci, .int x :: r => if ci = 3 ∧ xk S.2.2 = 9 ∧ S.2.2 < 162 ∧ ¬ x < 0 ∧ x.toNatClampNeg = xz S.2.2 ∧ kc + 1 ≤ mC M ∧ ks + xz S.2.2 ≤ mS M then xN (pc + 3) ls (.ref S.2.2 :: r) (xp S.1 S.2.2 (fun _ => 0), xp S.2.1 S.2.2 (fun _ => 0), S.2.2 + 1) (kc + 1) (ks + xz S.2.2) else none | _, _ => none)
  | .invokestatic idx => xI len 3 (match xMl (mO M) idx with
    | some (mi, nst) =>
      if mi = 1001 then (match st with | .int y :: .int x :: r => if nst = 0 ∧ 1 ≤ mF M ∧ (r.map xc2).sum + 13 ≤ mW M ∧ kc ≤ mC M ∧ ks ≤ mS M then xN (pc + 3) ls (.int (if x < y then y else x) :: r) S kc ks else none | _ => none)
      else if mi = 1002 then (match st with | .int y :: .int x :: r => if nst = 0 ∧ 1 ≤ mF M ∧ (r.map xc2).sum + 13 ≤ mW M ∧ kc ≤ mC M ∧ ks ≤ mS M then xN (pc + 3) ls (.int (if y < x then y else x) :: r) S kc ks else none | _ => none)
      else if mi = 1000 then none
      else (match xMT[mi]? with | some N => if mK N = 0 ∧ mN N ≤ st.length then xcl M N (st.take (mN N)).reverse (pc + 3) (st.drop (mN N)) kc ks else none | none => none)
    | none => none)
  | .invokevirtual idx => xI len 3 (match xMl (mO M) idx with
    | some (mi, nst) => if mi = 1000 ∨ mi = 1001 ∨ mi = 1002 then none else (match xMT[mi]? with | some N => (match st.drop (mN N) with | .ref a :: rest => if nst = 0 ∧ mK N = 1 ∧ mN N ≤ st.length ∧ xk a = mO N ∧ a < S.2.2 then xcl M N (.ref a :: (st.take (mN N)).reverse) (pc + 3) rest kc ks else none | _ => none) | none => none)
    | none => none)
  | .invokespecial idx => xI len 3 (match xMl (mO M) idx with
    | some (mi, nst) =>
      if mi = 1000 then (match st with | .ref _ :: r => if nst = 0 ∧ 1 ≤ mF M ∧ (r.map xc2).sum + 12 ≤ mW M then xN (pc + 3) ls r S kc ks else none | _ => none)
      else if mi = 1001 ∨ mi = 1002 then none
      else (match xMT[mi]? with | some N => (match st.drop (mN N) with | .ref a :: rest => if nst = 0 ∧ mK N = 2 ∧ mN N ≤ st.length then xcl M N (.ref a :: (st.take (mN N)).reverse) (pc + 3) rest kc ks else none | _ => none) | none => none)
    | none => none)
  | .ireturn => xI len 1 (match st with | [.int v] => if kc ≤ mC M ∧ ks ≤ mS M ∧ (mR M = some .int ∨ (mR M = some .boolean ∧ (v = 0 ∨ v = 1))) then some (.inl (some (.int v), S)) else none | _ => none)
  | .return_ => xI len 1 (match st with | [] => if kc ≤ mC M ∧ ks ≤ mS M ∧ mR M = none then some (.inl (none, S)) else none | _ => none)
  | _ => none
def xst (X : (Nat → Int32) × Nat) (M : xM) (pc : Nat) (ls st : List Value) (S : xS) (kc ks : Nat) : Option xRes := match decode (mB M) pc with
  | .ok (i, len) => xsi X M pc ls st S kc ks i len
  | .error _ => none
def xrun (X : (Nat → Int32) × Nat) : Nat → xM → Nat → List Value → List Value → xS → Nat → Nat → Option (Option Value × xS)
  | 0, _, _, _, _, _, _, _ => none
  | f + 1, M, pc, ls, st, S, kc, ks => match xst X M pc ls st S kc ks with
    | none => none
    | some (.inl r) => some r
    | some (.inr (.inl n)) => xrun X f M n.1 n.2.1 n.2.2.1 n.2.2.2.1 n.2.2.2.2.1 n.2.2.2.2.2
    | some (.inr (.inr n)) => match xrun X f n.1 0 (xent n.2.1 (mL n.1)) [] S 0 0 with
      | none => none
      | some q => xrun X f M n.2.2.1 ls (q.1.toList ++ n.2.2.2.1) q.2 n.2.2.2.2.1 n.2.2.2.2.2
