/-! a plain machine: ints as Int, memory as a function; its soundness over the model is in the parts behind it -/
abbrev AV : Type := Nat × Int
abbrev AM : Type := (Int → Int → Int) × (Int → Nat × Int) × Int × Nat × (Int → Int) × Int
def mrd (h : AM) (a i : Int) : Int := h.1 a i
def mkn (h : AM) (a : Int) : Nat := (h.2.1 a).1
def mln (h : AM) (a : Int) : Int := (h.2.1 a).2
def mnx (h : AM) : Int := h.2.2.1
def msl (h : AM) : Nat := h.2.2.2.1
def msc (h : AM) (i : Int) : Int := h.2.2.2.2.1 i
def mscl (h : AM) : Int := h.2.2.2.2.2
def mwr (h : AM) (a i v : Int) : AM := (fun b j => if b = a ∧ j = i then v else h.1 b j, h.2)
/-- a new cell of kind k, n slots, filled by dv -/
def mal (h : AM) (k : Nat) (n : Int) (dv : Int → Int) : AM := (fun b j => if b = h.2.2.1 then dv j else h.1 b j, fun b => if b = h.2.2.1 then (k, n) else h.2.1 b, h.2.2.1 + 1, h.2.2.2.1 + n.toNat, h.2.2.2.2)
def mcp (h : AM) (a i b j n : Int) : AM := (fun c q => if c = b ∧ j ≤ q ∧ q < j + n then h.1 a (i + (q - j)) else h.1 c q, h.2)
def isK (h : AM) (r : Int) (k : Nat) : Prop := 0 ≤ r ∧ r < mnx h ∧ mkn h r = k
def inA (h : AM) (r : Int) (k : Nat) (j : Int) : Prop := isK h r k ∧ 0 ≤ j ∧ j < mln h r
def isKb (h : AM) (r : Int) (k : Nat) : Bool := decide (0 ≤ r) && (decide (r < mnx h) && decide (mkn h r = k))
def inAb (h : AM) (r : Int) (k : Nat) (j : Int) : Bool := isKb h r k && (decide (0 ≤ j) && decide (j < mln h r))
theorem isKb_iff {h : AM} {r : Int} {k : Nat} : isKb h r k = true ↔ isK h r k := by simp [isKb, isK]
theorem inAb_iff {h : AM} {r : Int} {k : Nat} {j : Int} : inAb h r k j = true ↔ inA h r k j := by simp [inAb, inA, isKb_iff]
-- values
def in32 (x : Int) : Prop := -2147483648 ≤ x ∧ x < 2147483648
def in64 (x : Int) : Prop := -9223372036854775808 ≤ x ∧ x < 9223372036854775808
def w32 (x : Int) : Int := (Int32.ofInt x).toInt
def w64 (x : Int) : Int := (Int64.ofInt x).toInt
def i2 (f : Int32 → Int32 → Int32) (a b : Int) : Int := (f (Int32.ofInt a) (Int32.ofInt b)).toInt
def l2 (f : Int64 → Int64 → Int64) (a b : Int) : Int := (f (Int64.ofInt a) (Int64.ofInt b)).toInt
def i1 (f : Int32 → Int32) (a : Int) : Int := (f (Int32.ofInt a)).toInt
def si2 (f : Int32 → Int32 → Int32) : List AV → Option (List AV)
  | (0, b) :: (0, a) :: st => some ((0, i2 f a b) :: st)
  | _ => none
def si2n (f : Int32 → Int32 → Int32) : List AV → Option (List AV)
  | (0, b) :: (0, a) :: st => if b = 0 then none else some ((0, i2 f a b) :: st)
  | _ => none
def sl2 (f : Int64 → Int64 → Int64) : List AV → Option (List AV)
  | (1, b) :: (1, a) :: st => some ((1, l2 f a b) :: st)
  | _ => none
def sl2n (f : Int64 → Int64 → Int64) : List AV → Option (List AV)
  | (1, b) :: (1, a) :: st => if b = 0 then none else some ((1, l2 f a b) :: st)
  | _ => none
def si1 (f : Int32 → Int32) : List AV → Option (List AV)
  | (0, a) :: st => some ((0, i1 f a) :: st)
  | _ => none
def cmp3 (a b : Int) : Int := if b < a then 1 else if a = b then 0 else -1
/-- what touches the operand stack alone -/
def pu_ (k : Nat) (i : Instr) (st : List AV) : Option (List AV) := match i with
  | .iconst n => if -1 ≤ n ∧ n ≤ 5 then some ((0, n) :: st) else none
  | .bipush n => if -128 ≤ n ∧ n < 128 then some ((0, n) :: st) else none
  | .sipush n => if -32768 ≤ n ∧ n < 32768 then some ((0, n) :: st) else none
  | .lconst n => some ((1, (n.val : Int)) :: st)
  | .ldc ix => if own k = 5 ∧ ix = 19 then some ((2, -3) :: st) else match tcst (own k) ix with
    | some v => some ((0, w32 v) :: st)
    | none => none
  | .ldc_w ix => match tcst (own k) ix with
    | some v => some ((0, w32 v) :: st)
    | none => none
  | .ldc2_w ix => match tcsl (own k) ix with
    | some v => some ((1, w64 v) :: st)
    | none => none
  | .iadd => si2 (fun x y => x + y) st
  | .isub => si2 (fun x y => x - y) st
  | .imul => si2 (fun x y => x * y) st
  | .iand => si2 (fun x y => x &&& y) st
  | .ior => si2 (fun x y => x ||| y) st
  | .ixor => si2 (fun x y => x ^^^ y) st
  | .ishl => si2 (fun x y => x <<< (y &&& 31)) st
  | .ishr => si2 (fun x y => x >>> (y &&& 31)) st
  | .iushr => si2 (fun x y => (x.toUInt32 >>> (y.toUInt32 &&& Int32.toUInt32 31)).toInt32) st
  | .idiv => si2n (fun x y => x / y) st
  | .irem => si2n (fun x y => x - x / y * y) st
  | .ladd => sl2 (fun x y => x + y) st
  | .lsub => sl2 (fun x y => x - y) st
  | .lmul => sl2 (fun x y => x * y) st
  | .land => sl2 (fun x y => x &&& y) st
  | .lor => sl2 (fun x y => x ||| y) st
  | .ldiv => sl2n (fun x y => x / y) st
  | .lrem => sl2n (fun x y => x - x / y * y) st
  | .lneg => match st with
    | (1, a) :: st => some ((1, (-(Int64.ofInt a)).toInt) :: st)
    | _ => none
  | .lshl => match st with
    | (0, b) :: (1, a) :: st => some ((1, (Int64.ofInt a <<< ((Int32.ofInt b).toInt64 &&& 63)).toInt) :: st)
    | _ => none
  | .i2l => match st with
    | (0, a) :: st => some ((1, a) :: st)
    | _ => none
  | .l2i => match st with
    | (1, a) :: st => some ((0, w32 a) :: st)
    | _ => none
  | .i2b => si1 (fun x => x.toInt8.toInt32) st
  | .i2s => si1 (fun x => x.toInt16.toInt32) st
  | .i2c => si1 (fun x => (x.toUInt32 % 65536).toInt32) st
  | .lcmp => match st with
    | (1, b) :: (1, a) :: st => some ((0, cmp3 a b) :: st)
    | _ => none
  | .dup => match st with
    | (0, a) :: st => some ((0, a) :: (0, a) :: st)
    | (2, a) :: st => some ((2, a) :: (2, a) :: st)
    | _ => none
  | .dup2 => match st with
    | (0, a) :: (2, b) :: st => some ((0, a) :: (2, b) :: (0, a) :: (2, b) :: st)
    | _ => none
  | .pop => match st with
    | (0, _) :: st => some st
    | (2, _) :: st => some st
    | _ => none
  | .pop2 => match st with
    | (1, _) :: st => some st
    | _ => none
  | _ => none
def lld (t : Nat) (i : Nat) (L st : List AV) : Option (List AV × List AV) := match L[i]? with
  | some v => if v.1 = t then some (L, (t, v.2) :: st) else none
  | none => none
def lst1 (t : Nat) (i : Nat) (L st : List AV) : Option (List AV × List AV) := match st with
  | v :: st => if v.1 = t ∧ i < L.length then some (L.set i (t, v.2), st) else none
  | [] => none
def lldl (i : Nat) (L st : List AV) : Option (List AV × List AV) := match L[i]?, L[i + 1]? with
  | some v, some w => if v.1 = 1 ∧ w = (3, 1) then some (L, (1, v.2) :: st) else none
  | _, _ => none
def lst2 (i : Nat) (L st : List AV) : Option (List AV × List AV) := match st with
  | v :: st => if v.1 = 1 ∧ i + 1 < L.length then some ((L.set i (1, v.2)).set (i + 1) (3, 1), st) else none
  | [] => none
/-- what touches the locals -/
def lo_ (i : Instr) (L st : List AV) : Option (List AV × List AV) := match i with
  | .iload j => lld 0 j L st
  | .iload_n j => lld 0 j.val L st
  | .aload j => lld 2 j L st
  | .aload_n j => lld 2 j.val L st
  | .lload j => lldl j L st
  | .lload_n j => lldl j.val L st
  | .istore j => lst1 0 j L st
  | .istore_n j => lst1 0 j.val L st
  | .astore j => lst1 2 j L st
  | .astore_n j => lst1 2 j.val L st
  | .lstore j => lst2 j L st
  | .lstore_n j => lst2 j.val L st
  | .iinc j n => match L[j]? with
    | some v => if v.1 = 0 then some (L.set j (0, i2 (fun x y => x + y) v.2 n), st) else none
    | none => none
  | _ => none
def ccmp (c : ClassFile.Cond) (a b : Int) : Bool := match c with
  | .eq => decide (a = b)
  | .ne => !decide (a = b)
  | .lt => decide (a < b)
  | .ge => decide (b ≤ a)
  | .gt => decide (b < a)
  | .le => decide (a ≤ b)
def tgt (pc : Nat) (off : Int) : Option Nat := if 0 ≤ (pc : Int) + off then some ((pc : Int) + off).toNat else none
/-- jumps: where to, and what is left on the stack -/
def br_ (i : Instr) (pc : Nat) (st : List AV) : Option (Nat × List AV) := match i with
  | .goto off => (tgt pc off).map (fun t => (t, st))
  | .ifCond c off => match st with
    | (0, a) :: st => (tgt pc off).map (fun t => (bif ccmp c a 0 then t else pc + 3, st))
    | _ => none
  | .if_icmp c off => match st with
    | (0, b) :: (0, a) :: st => (tgt pc off).map (fun t => (bif ccmp c a b then t else pc + 3, st))
    | _ => none
  | .tableswitch dflt lo hi offs => match st with
    | (0, a) :: st => if a < lo ∨ hi < a then (tgt pc dflt).map (fun t => (t, st)) else match offs[(a - lo).toNat]? with
      | some off => (tgt pc off).map (fun t => (t, st))
      | none => none
    | _ => none
  | .lookupswitch dflt ps => match st with
    | (0, a) :: st => if (ps.toList.zip (ps.toList.drop 1)).all (fun (a, next) => a.1 < next.1) then (tgt pc (Op.lookupswitch.offset ps.toList dflt a)).map (fun t => (t, st)) else none
    | _ => none
  | _ => none
def dflt (c : Nat) (j : Int) : Int := if ftag c j.toNat = 2 then -1 else 0
def elemK (a : Nat) : Nat := if a = 20 then 8 else if a = 21 then 6 else if a = 22 then 2 else 1
/-- the text of the words that are kept -/
def wtx : List Int := [109, 97, 115, 116, 101, 114, 32, 108, 101, 115, 115, 111, 110, 32, 103, 105, 118, 101, 115, 32, 116, 97, 107, 101, 115, 32, 99, 111, 115, 116, 115, 32, 98, 121, 32, 110, 101, 101, 100, 115, 32, 99, 104, 105, 108, 100, 32, 103, 105, 102, 116, 32, 112, 117, 114, 115, 101, 32, 115, 111, 117, 110, 100, 115, 32, 108, 101, 97, 114, 110, 32, 108, 111, 115, 101, 32, 102, 97, 116, 101, 32, 114, 101, 115, 116, 32, 112, 97, 121, 32, 119, 104, 101, 110, 32, 108, 111, 110, 103, 32, 115, 97, 121, 115, 32, 107, 110, 111, 119, 115, 32, 108, 111, 111, 112, 32, 101, 110, 100, 32, 115, 116, 111, 112, 32]
/-- what touches memory -/
def me_ (d k : Nat) (i : Instr) (st : List AV) (h : AM) : Option (List AV × AM) := match i with
  | .getfield ix => match st with
    | (2, r) :: st => match tfld (own k) ix with
      | some (c, j) => bif isKb h r c then some ((ftag c j, mrd h r j) :: st, h) else none
      | none => none
    | _ => none
  | .putfield ix => match st with
    | v :: (2, r) :: st => match tfld (own k) ix with
      | some (c, j) => bif isKb h r c && (decide (v.1 = ftag c j) && ((!(cT c j).2.2.2 || (decide (tb_d k = 2) && decide (own k = c))) && (!decide (cty c j = .boolean) || (decide (v.2 = 0) || decide (v.2 = 1))))) then some (st, mwr h r j v.2) else none
      | none => none
    | _ => none
  | .iaload => match st with
    | (0, j) :: (2, r) :: st => bif decide (r = -2) then (bif decide (0 ≤ j) && decide (j < mscl h) then some ((0, msc h j) :: st, h) else none) else (bif inAb h r 16 j then some ((0, mrd h r j) :: st, h) else none)
    | _ => none
  | .baload => match st with
    | (0, j) :: (2, r) :: st => bif inAb h r 17 j || inAb h r 18 j then some ((0, mrd h r j) :: st, h) else none
    | _ => none
  | .laload => match st with
    | (0, j) :: (2, r) :: st => bif inAb h r 19 j then some ((1, mrd h r j) :: st, h) else none
    | _ => none
  | .aaload => match st with
    | (0, j) :: (2, r) :: st => bif inAb h r 20 j || (inAb h r 21 j || (inAb h r 22 j || (inAb h r 23 j || inAb h r 24 j))) then some ((2, mrd h r j) :: st, h) else none
    | _ => none
  | .iastore => match st with
    | (0, v) :: (0, j) :: (2, r) :: st => bif inAb h r 16 j then some (st, mwr h r j v) else none
    | _ => none
  | .bastore => match st with
    | (0, v) :: (0, j) :: (2, r) :: st => bif inAb h r 17 j then some (st, mwr h r j (i1 (fun x => x.toInt8.toInt32) v)) else (bif inAb h r 18 j && (decide (v = 0) || decide (v = 1)) then some (st, mwr h r j v) else none)
    | _ => none
  | .lastore => match st with
    | (1, v) :: (0, j) :: (2, r) :: st => bif inAb h r 19 j then some (st, mwr h r j v) else none
    | _ => none
  | .aastore => match st with
    | (2, v) :: (0, j) :: (2, r) :: st => bif (decide (20 ≤ mkn h r) && decide (mkn h r < 24)) && (inAb h r (mkn h r) j && isKb h v (elemK (mkn h r))) then some (st, mwr h r j v) else none
    | _ => none
  | .arraylength => match st with
    | (2, r) :: st => bif decide (r = -2) then some ((0, mscl h) :: st, h) else (bif isKb h r 19 then some ((0, mln h r) :: st, h) else none)
    | _ => none
  | .new ix => match tcls (own k) ix with
    | some c => if c < 12 then some ((2, mnx h) :: st, mal h c (cNF c) (dflt c)) else none
    | none => none
  | .newarray t => match st with
    | (0, n) :: st => if 0 ≤ n ∧ n ≤ 1000000 then (match t with
      | .int => some ((2, mnx h) :: st, mal h 16 n (fun _ => 0))
      | .byte => some ((2, mnx h) :: st, mal h 17 n (fun _ => 0))
      | .boolean => some ((2, mnx h) :: st, mal h 18 n (fun _ => 0))
      | .long => some ((2, mnx h) :: st, mal h 19 n (fun _ => 0))
      | _ => none) else none
    | _ => none
  | .anewarray ix => match st with
    | (0, n) :: st => if 0 ≤ n ∧ n ≤ 1000000 then (match tcls (own k) ix with
      | some 8 => some ((2, mnx h) :: st, mal h 20 n (fun _ => -1))
      | some 6 => some ((2, mnx h) :: st, mal h 21 n (fun _ => -1))
      | some 2 => some ((2, mnx h) :: st, mal h 22 n (fun _ => -1))
      | some 1 => some ((2, mnx h) :: st, mal h 23 n (fun _ => -1))
      | _ => none) else none
    | _ => none
  | .multianewarray ix dm => match st with
    | (0, 12) :: (0, 4) :: st => if own k = 4 ∧ ix = 18 ∧ dm = 2 then
        some ((2, mnx h) :: st, mal (mal (mal (mal (mal h 24 4 (fun j => mnx h + 1 + j)) 16 12 (fun _ => 0)) 16 12 (fun _ => 0)) 16 12 (fun _ => 0)) 16 12 (fun _ => 0)) else none
    | _ => none
  | .invokespecial ix => match st with
    | (2, r) :: st => bif decide (tref (own k) ix = some (1000, 0)) && (decide (0 < d) && (decide (st.length ≤ 4) && decide (0 ≤ r))) then some (st, h) else none
    | _ => none
  | .invokevirtual ix => match st with
    | (2, r) :: st => bif (decide (r = -3) && decide (own k = 5)) && (decide (tref (own k) ix = some (1002, 0)) && (decide (9 < d) && decide (st.length ≤ 4))) then some ((0, (wtx.length : Int)) :: st, h) else none
    | (0, j) :: (2, r) :: st => bif (decide (r = -3) && decide (own k = 5)) && (decide (tref (own k) ix = some (1003, 0)) && ((decide (9 < d) && decide (st.length ≤ 4)) && (decide (0 ≤ j) && decide (j < (wtx.length : Int))))) then some ((0, wtx.getD j.toNat 0) :: st, h) else none
    | _ => none
  | .invokestatic ix => match st with
    | (1, b) :: (1, a) :: st => bif decide (tref (own k) ix = some (1006, 0)) && (decide (0 < d) && decide (st.length ≤ 4)) then some ((1, if b < a then b else a) :: st, h) else none
    | (1, a) :: st => bif decide (tref (own k) ix = some (1007, 0)) && (decide (0 < d) && decide (st.length ≤ 4)) then some ((1, if 0 < a then a else w64 (-a)) :: st, h) else none
    | (0, n) :: (0, j) :: (2, b) :: (0, i) :: (2, a) :: st => bif (decide (tref (own k) ix = some (1001, 0)) && (decide (0 < d) && decide (st.length ≤ 4))) && (((isKb h a 16 && isKb h b 16) || (isKb h a 19 && isKb h b 19)) && ((decide (0 ≤ i) && (decide (0 ≤ j) && decide (0 ≤ n))) && (decide (i + n ≤ mln h a) && decide (j + n ≤ mln h b)))) then some (st, mcp h a i b j n) else none
    | (0, b) :: (0, a) :: st => bif decide (tref (own k) ix = some (1004, 0)) && (decide (0 < d) && decide (st.length ≤ 4)) then some ((0, if a < b then b else a) :: st, h) else (bif decide (tref (own k) ix = some (1005, 0)) && (decide (0 < d) && decide (st.length ≤ 4)) then some ((0, if b < a then b else a) :: st, h) else none)
    | _ => none
  | _ => none
/-- the locals of a call -/
def lsl : List AV → List AV
  | [] => []
  | v :: vs => if v.1 = 1 then v :: (3, 1) :: lsl vs else v :: lsl vs
def mkl (k : Nat) (as : List AV) : List AV := lsl as ++ List.replicate (mmaxL k - (lsl as).length) (3, 0)
/-- what may stand below a static call's arguments: at most 8 words -/
def rst4 (st : List AV) : Bool := decide (st.length ≤ 4) || (decide (st.length ≤ 8) && st.all (fun v => decide (v.1 ≠ 1)))
/-- a call: the method, its arguments, the rest of the stack -/
def ca_ (k : Nat) (i : Instr) (st : List AV) (h : AM) : Option (Nat × List AV × List AV) := match i with
  | .invokevirtual ix => match tref (own k) ix with
    | some (k', 0) => match st.drop (mnp k') with
      | (2, r) :: rest => bif ((decide (tb_d k' = 0) && isKb h r (own k')) && decide (rest.length ≤ 4)) && (decide (k' < 328) && (decide ((lsl ((2, r) :: (st.take (mnp k')).reverse)).length ≤ mmaxL k') && ((2, r) :: (st.take (mnp k')).reverse).all (fun v => decide (v.1 < 3)))) then some (k', (2, r) :: (st.take (mnp k')).reverse, rest) else none
      | _ => none
    | _ => none
  | .invokestatic ix => match tref (own k) ix with
    | some (k', 0) => bif ((decide (tb_d k' = 1) && decide (mnp k' ≤ st.length)) && rst4 (st.drop (mnp k'))) && (decide (k' < 328) && (decide ((lsl (st.take (mnp k')).reverse).length ≤ mmaxL k') && (st.take (mnp k')).reverse.all (fun v => decide (v.1 < 3)))) then some (k', (st.take (mnp k')).reverse, st.drop (mnp k')) else none
    | _ => none
  | .invokespecial ix => match tref (own k) ix with
    | some (k', _) => match st.drop (mnp k') with
      | (2, r) :: rest => bif ((decide (tb_d k' = 2) && decide (0 ≤ r)) && decide (rest.length ≤ 4)) && (decide (k' < 328) && (decide ((lsl ((2, r) :: (st.take (mnp k')).reverse)).length ≤ mmaxL k') && ((2, r) :: (st.take (mnp k')).reverse).all (fun v => decide (v.1 < 3)))) then some (k', (2, r) :: (st.take (mnp k')).reverse, rest) else none
      | _ => none
    | _ => none
  | _ => none
def rok (t : Option FieldType) (v : Int) : Bool := match t with
  | some .int => true
  | some .boolean => decide (v = 0) || decide (v = 1)
  | some .char => decide (0 ≤ v) && decide (v < 65536)
  | _ => false
/-- the end -/
def re_ (k : Nat) (i : Instr) (st : List AV) (h : AM) : Option (AV × AM) := match i with
  | .ireturn => match st with
    | [(0, v)] => bif rok (mret k) v then some ((0, v), h) else none
    | _ => none
  | .lreturn => match st with
    | [(1, v)] => bif decide (mret k = some .long) then some ((1, v), h) else none
    | _ => none
  | .return_ => match st with
    | [] => bif decide (mret k = none) then some ((3, 0), h) else none
    | _ => none
  | _ => none
def psh (r : AV) (st : List AV) : List AV := if r.1 = 3 then st else r :: st
/-- how long an instruction is; 0: a switch -/
def ilen (i : Instr) : Nat := match i with
  | .bipush _ => 2 | .iload _ => 2 | .lload _ => 2 | .aload _ => 2 | .istore _ => 2 | .lstore _ => 2 | .astore _ => 2 | .ldc _ => 2 | .newarray _ => 2
  | .sipush _ => 3 | .ldc_w _ => 3 | .ldc2_w _ => 3 | .getfield _ => 3 | .putfield _ => 3 | .iinc _ _ => 3 | .goto _ => 3 | .ifCond _ _ => 3 | .if_icmp _ _ => 3 | .new _ => 3 | .anewarray _ => 3
  | .invokevirtual _ => 3 | .invokespecial _ => 3 | .invokestatic _ => 3 | .multianewarray _ _ => 4 | .tableswitch _ _ _ _ => 0 | .lookupswitch _ _ => 0
  | _ => 1
def lenok (i : Instr) (len : Nat) : Bool := decide (ilen i = 0) || decide (ilen i = len)
/-- n: steps, d: frames; method k at pc with locals L, stack st, memory h: what it answers, and memory then -/
def ex_ : Nat → Nat → Nat → Nat → List AV → List AV → AM → Option (AV × AM)
  | 0, _, _, _, _, _, _ => none
  | n + 1, d, k, pc, L, st, h => match decode (mcode k) pc with
    | .ok (i, len) => bif lenok i len then (match pu_ k i st with
      | some st' => ex_ n d k (pc + len) L st' h
      | none => match lo_ i L st with
        | some (L', st') => ex_ n d k (pc + len) L' st' h
        | none => match br_ i pc st with
          | some (pc', st') => ex_ n d k pc' L st' h
          | none => match me_ d k i st h with
            | some (st', h') => ex_ n d k (pc + len) L st' h'
            | none => match ca_ k i st h with
              | some (k', as, st') => match d with
                | 0 => none
                | d' + 1 => match ex_ n d' k' 0 (mkl k' as) [] h with
                  | some r => ex_ n (d' + 1) k (pc + 3) L (psh r.1 st') r.2
                  | none => none
              | none => re_ k i st h) else none
    | .error _ => none
