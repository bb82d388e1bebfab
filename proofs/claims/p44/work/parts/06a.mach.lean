/-! the abstract machine: values are (0, an int) (1, a long) (2, the number of an object); memory is a function; object 0 is the script -/
abbrev AV : Type := Nat × Int
abbrev Mm : Type := Nat → Nat → Int
abbrev Kd : Type := Nat × Nat
def nu_up (m : Mm) (o i : Nat) (v : Int) : Mm := fun p j => if p = o then (if j = i then v else m p j) else m p j
def w32 (x : Int) : Int := x.bmod 4294967296
def w64 (x : Int) : Int := x.bmod 18446744073709551616
def b8 (x : Int) : Int := x.bmod 256
def b16 (x : Int) : Int := x.bmod 65536
/-- the code of a field's type -/
def fty (ci k : Nat) : Nat := match clF[ci]? with
  | some C => match C.2.2.2[k]? with
    | some f => f.2.2.2.1
    | none => 0
  | none => 0
def mL (j : Nat) : Nat := match mins[j]? with | some q => q.1 | none => 0
def mA (j : Nat) : Nat := match mins[j]? with | some q => q.2.1 | none => 0
def mS (j : Nat) : Nat := match mins[j]? with | some q => q.2.2.1 | none => 0
def mK (j : Nat) : Nat := match mins[j]? with | some q => q.2.2.2.1 | none => 0
def mB (j : Nat) : Nat := match mins[j]? with | some q => q.2.2.2.2 | none => 0
def pp (t : Nat) (S : List AV) : Option (Int × List AV) := match S with
  | v :: S' => if v.1 = t then some (v.2, S') else none
  | [] => none
def kl1 (L : List AV) (i : Nat) : List AV := match i with
  | 0 => L
  | k + 1 => match L[k]? with
    | some q => if q.1 = 1 then L.set k (9, 0) else L
    | none => L
def st1 (L : List AV) (i : Nat) (v : AV) : List AV := (kl1 L i).set i v
def st2 (L : List AV) (i : Nat) (v : AV) : List AV := (st1 L i v).set (i + 1) (9, 0)
def gl (L : List AV) (t i : Nat) : Option Int := match L[i]? with
  | some v => if v.1 = t then some v.2 else none
  | none => none
def lay : List AV → List AV
  | [] => []
  | v :: vs => if v.1 = 1 then v :: (9, 0) :: lay vs else v :: lay vs
def layp (As : List AV) (n : Nat) : List AV := lay As ++ List.replicate (n - (lay As).length) (9, 0)
def ctg (v : AV) : Nat := if v.1 = 1 then 2 else 1
def csum (S : List AV) : Nat := (S.map ctg).sum
def iand (x y : Int) : Int := (Int32.ofInt x &&& Int32.ofInt y).toInt
def ior (x y : Int) : Int := (Int32.ofInt x ||| Int32.ofInt y).toInt
def ixor (x y : Int) : Int := (Int32.ofInt x ^^^ Int32.ofInt y).toInt
def ishl (x y : Int) : Int := (Int32.ofInt x <<< (Int32.ofInt y &&& 31)).toInt
def ishr (x y : Int) : Int := (Int32.ofInt x >>> (Int32.ofInt y &&& 31)).toInt
def land (x y : Int) : Int := (Int64.ofInt x &&& Int64.ofInt y).toInt
def lor (x y : Int) : Int := (Int64.ofInt x ||| Int64.ofInt y).toInt
def lshl (x y : Int) : Int := (Int64.ofInt x <<< ((Int32.ofInt y).toInt64 &&& 63)).toInt
def lshr (x y : Int) : Int := (Int64.ofInt x >>> ((Int32.ofInt y).toInt64 &&& 63)).toInt
def cnd (c : ClassFile.Cond) (x y : Int) : Bool := match c with
  | .eq => decide (x = y)
  | .ne => decide (¬ x = y)
  | .lt => decide (x < y)
  | .ge => decide (y ≤ x)
  | .gt => decide (y < x)
  | .le => decide (x ≤ y)
/-- an index within object o's row -/
def inb (o i : Int) (n : Nat) : Bool := decide (0 < o) && decide (0 ≤ i) && decide (i.toNat < n)
abbrev St5 : Type := Nat × List AV × List AV × List Kd × Mm
def arK : ArrayType → Option Nat
  | .int => some 100
  | .long => some 101
  | .byte => some 102
  | .boolean => some 103
  | _ => none
def ecl (k : Nat) : Nat := if k = 104 then 6 else if k = 105 then 3 else if k = 106 then 0 else if k = 107 then 4 else 99
def slen (k : Nat) : Option Nat := (strF[k]?).map String.length
def sch (k i : Nat) : Option Int := match strF[k]? with
  | some t => (t.toList[i]?).map (fun c => (c.toNat : Int))
  | none => none
/-- the calls of the JDK's own methods, by their numbers -/
def spc (nx : Nat) (a : Int) (L S : List AV) (sh : List Kd) (m : Mm) : Option St5 :=
  if a = -1 then do
    let (_, S) ← pp 2 S
    if csum S ≤ 8 then some (nx, L, S, sh, m) else none
  else if a = -2 then do
    let (n, S) ← pp 0 S
    let (dp, S) ← pp 0 S
    let (g, S) ← pp 2 S
    let (sp, S) ← pp 0 S
    let (f, S) ← pp 2 S
    let kf ← sh[f.toNat]?
    let kg ← sh[g.toNat]?
    if csum S ≤ 8 ∧ 0 < f ∧ 0 < g ∧ kf.1 = kg.1 ∧ (kf.1 = 100 ∨ kf.1 = 101) ∧ 0 ≤ n ∧ 0 ≤ sp ∧ 0 ≤ dp ∧ sp.toNat + n.toNat ≤ kf.2 ∧ dp.toNat + n.toNat ≤ kg.2 then
      some (nx, L, S, sh, fun p j => if p = g.toNat then (if dp.toNat ≤ j ∧ j < dp.toNat + n.toNat then m f.toNat (sp.toNat + (j - dp.toNat)) else m p j) else m p j)
    else none
  else if a = -3 then do
    let (y, S) ← pp 0 S
    let (x, S) ← pp 0 S
    if csum S ≤ 8 then some (nx, L, (0, max x y) :: S, sh, m) else none
  else if a = -4 then do
    let (y, S) ← pp 0 S
    let (x, S) ← pp 0 S
    if csum S ≤ 8 then some (nx, L, (0, min x y) :: S, sh, m) else none
  else if a = -5 then do
    let (y, S) ← pp 1 S
    let (x, S) ← pp 1 S
    if csum S ≤ 8 then some (nx, L, (1, max x y) :: S, sh, m) else none
  else if a = -6 then do
    let (o, S) ← pp 2 S
    let n ← slen (o.toNat - 1000000)
    if csum S ≤ 8 ∧ 1000000 ≤ o then some (nx, L, (0, (n : Int)) :: S, sh, m) else none
  else if a = -7 then do
    let (i, S) ← pp 0 S
    let (o, S) ← pp 2 S
    let c ← sch (o.toNat - 1000000) i.toNat
    if csum S ≤ 8 ∧ 1000000 ≤ o ∧ 0 ≤ i then some (nx, L, (0, c) :: S, sh, m) else none
  else none
/-- one instruction that is no call of an own method and no return -/
def stp (pc : Nat) (r : Row) (L S : List AV) (sh : List Kd) (m : Mm) : Option St5 :=
  match r with
  | (ins, nx, a, b, c, _) =>
    match ins with
    | .iconst _ => some (nx, L, (0, a) :: S, sh, m)
    | .bipush _ => some (nx, L, (0, a) :: S, sh, m)
    | .sipush _ => some (nx, L, (0, a) :: S, sh, m)
    | .lconst _ => some (nx, L, (1, a) :: S, sh, m)
    | .ldc _ => some (nx, L, (if b = 0 then 0 else 2, a) :: S, sh, m)
    | .ldc_w _ => if b = 0 then some (nx, L, (0, a) :: S, sh, m) else none
    | .ldc2_w _ => some (nx, L, (1, a) :: S, sh, m)
    | .iload i => do let x ← gl L 0 i; some (nx, L, (0, x) :: S, sh, m)
    | .iload_n i => do let x ← gl L 0 i.val; some (nx, L, (0, x) :: S, sh, m)
    | .lload i => do let x ← gl L 1 i; some (nx, L, (1, x) :: S, sh, m)
    | .lload_n i => do let x ← gl L 1 i.val; some (nx, L, (1, x) :: S, sh, m)
    | .aload i => do let x ← gl L 2 i; some (nx, L, (2, x) :: S, sh, m)
    | .aload_n i => do let x ← gl L 2 i.val; some (nx, L, (2, x) :: S, sh, m)
    | .istore i => do let (x, S) ← pp 0 S; if i < L.length then some (nx, st1 L i (0, x), S, sh, m) else none
    | .istore_n i => do let (x, S) ← pp 0 S; if i.val < L.length then some (nx, st1 L i.val (0, x), S, sh, m) else none
    | .lstore i => do let (x, S) ← pp 1 S; if i + 1 < L.length then some (nx, st2 L i (1, x), S, sh, m) else none
    | .lstore_n i => do let (x, S) ← pp 1 S; if i.val + 1 < L.length then some (nx, st2 L i.val (1, x), S, sh, m) else none
    | .astore i => do let (x, S) ← pp 2 S; if i < L.length then some (nx, st1 L i (2, x), S, sh, m) else none
    | .astore_n i => do let (x, S) ← pp 2 S; if i.val < L.length then some (nx, st1 L i.val (2, x), S, sh, m) else none
    | .iinc i n => do let x ← gl L 0 i; some (nx, st1 L i (0, w32 (x + n)), S, sh, m)
    | .iadd => do let (y, S) ← pp 0 S; let (x, S) ← pp 0 S; some (nx, L, (0, w32 (x + y)) :: S, sh, m)
    | .isub => do let (y, S) ← pp 0 S; let (x, S) ← pp 0 S; some (nx, L, (0, w32 (x - y)) :: S, sh, m)
    | .imul => do let (y, S) ← pp 0 S; let (x, S) ← pp 0 S; some (nx, L, (0, w32 (x * y)) :: S, sh, m)
    | .idiv => do let (y, S) ← pp 0 S; let (x, S) ← pp 0 S; if y = 0 then none else some (nx, L, (0, w32 (x.tdiv y)) :: S, sh, m)
    | .irem => do let (y, S) ← pp 0 S; let (x, S) ← pp 0 S; if y = 0 then none else some (nx, L, (0, x.tmod y) :: S, sh, m)
    | .ineg => do let (x, S) ← pp 0 S; some (nx, L, (0, w32 (-x)) :: S, sh, m)
    | .iand => do let (y, S) ← pp 0 S; let (x, S) ← pp 0 S; some (nx, L, (0, iand x y) :: S, sh, m)
    | .ior => do let (y, S) ← pp 0 S; let (x, S) ← pp 0 S; some (nx, L, (0, ior x y) :: S, sh, m)
    | .ixor => do let (y, S) ← pp 0 S; let (x, S) ← pp 0 S; some (nx, L, (0, ixor x y) :: S, sh, m)
    | .ishl => do let (y, S) ← pp 0 S; let (x, S) ← pp 0 S; some (nx, L, (0, ishl x y) :: S, sh, m)
    | .ishr => do let (y, S) ← pp 0 S; let (x, S) ← pp 0 S; some (nx, L, (0, ishr x y) :: S, sh, m)
    | .ladd => do let (y, S) ← pp 1 S; let (x, S) ← pp 1 S; some (nx, L, (1, w64 (x + y)) :: S, sh, m)
    | .lsub => do let (y, S) ← pp 1 S; let (x, S) ← pp 1 S; some (nx, L, (1, w64 (x - y)) :: S, sh, m)
    | .lmul => do let (y, S) ← pp 1 S; let (x, S) ← pp 1 S; some (nx, L, (1, w64 (x * y)) :: S, sh, m)
    | .ldiv => do let (y, S) ← pp 1 S; let (x, S) ← pp 1 S; if y = 0 then none else some (nx, L, (1, w64 (x.tdiv y)) :: S, sh, m)
    | .lrem => do let (y, S) ← pp 1 S; let (x, S) ← pp 1 S; if y = 0 then none else some (nx, L, (1, x.tmod y) :: S, sh, m)
    | .land => do let (y, S) ← pp 1 S; let (x, S) ← pp 1 S; some (nx, L, (1, land x y) :: S, sh, m)
    | .lor => do let (y, S) ← pp 1 S; let (x, S) ← pp 1 S; some (nx, L, (1, lor x y) :: S, sh, m)
    | .lshl => do let (y, S) ← pp 0 S; let (x, S) ← pp 1 S; some (nx, L, (1, lshl x y) :: S, sh, m)
    | .lshr => do let (y, S) ← pp 0 S; let (x, S) ← pp 1 S; some (nx, L, (1, lshr x y) :: S, sh, m)
    | .lcmp => do let (y, S) ← pp 1 S; let (x, S) ← pp 1 S; some (nx, L, (0, if x < y then -1 else if x = y then 0 else 1) :: S, sh, m)
    | .i2l => do let (x, S) ← pp 0 S; some (nx, L, (1, x) :: S, sh, m)
    | .l2i => do let (x, S) ← pp 1 S; some (nx, L, (0, w32 x) :: S, sh, m)
    | .i2b => do let (x, S) ← pp 0 S; some (nx, L, (0, b8 x) :: S, sh, m)
    | .i2s => do let (x, S) ← pp 0 S; some (nx, L, (0, b16 x) :: S, sh, m)
    | .goto _ => some (a.toNat, L, S, sh, m)
    | .ifCond cn _ => do let (x, S) ← pp 0 S; some (if cnd cn x 0 then a.toNat else nx, L, S, sh, m)
    | .if_icmp cn _ => do let (y, S) ← pp 0 S; let (x, S) ← pp 0 S; some (if cnd cn x y then a.toNat else nx, L, S, sh, m)
    | .tableswitch d lo hi offs => do
      let (x, S) ← pp 0 S
      if x < lo ∨ hi < x then (if 0 ≤ (pc : Int) + d then some (((pc : Int) + d).toNat, L, S, sh, m) else none)
      else do
        let off ← offs[(x - lo).toNat]?
        if 0 ≤ (pc : Int) + off then some (((pc : Int) + off).toNat, L, S, sh, m) else none
    | .dup => match S with
      | v :: S' => if v.1 = 1 then none else some (nx, L, v :: v :: S', sh, m)
      | [] => none
    | .dup2 => match S with
      | v :: w :: S' => if v.1 = 1 ∨ w.1 = 1 then none else some (nx, L, v :: w :: v :: w :: S', sh, m)
      | _ => none
    | .pop => match S with
      | v :: S' => if v.1 = 1 then none else some (nx, L, S', sh, m)
      | [] => none
    | .pop2 => match S with
      | v :: S' => if v.1 = 1 then some (nx, L, S', sh, m) else none
      | [] => none
    | .getfield _ => do
      let (o, S) ← pp 2 S
      let kd ← sh[o.toNat]?
      if 0 < o ∧ kd.1 = a.toNat ∧ kd.1 < 100 ∧ b < kd.2 then
        (if c % 10 = 2 then (if m o.toNat b < 0 then none else some (nx, L, (2, m o.toNat b) :: S, sh, m))
         else some (nx, L, (if c % 10 = 1 then 1 else 0, m o.toNat b) :: S, sh, m))
      else none
    | .putfield _ => do
      let (v, S) ← pp (if c % 10 = 2 then 2 else if c % 10 = 1 then 1 else 0) S
      let (o, S) ← pp 2 S
      let kd ← sh[o.toNat]?
      if 0 < o ∧ kd.1 = a.toNat ∧ kd.1 < 100 ∧ b < kd.2 ∧ (c % 10 = 3 → v = 0 ∨ v = 1) ∧ (c % 10 = 2 → 0 ≤ v) then some (nx, L, S, sh, nu_up m o.toNat b v) else none
    | .arraylength => do
      let (o, S) ← pp 2 S
      let kd ← sh[o.toNat]?
      if 100 ≤ kd.1 ∧ kd.2 < 2147483648 ∧ kd.1 < 108 then some (nx, L, (0, (kd.2 : Int)) :: S, sh, m) else none
    | .iaload => do
      let (i, S) ← pp 0 S
      let (o, S) ← pp 2 S
      let kd ← sh[o.toNat]?
      if kd.1 = 100 ∧ 0 ≤ i ∧ i.toNat < kd.2 then some (nx, L, (0, m o.toNat i.toNat) :: S, sh, m) else none
    | .laload => do
      let (i, S) ← pp 0 S
      let (o, S) ← pp 2 S
      let kd ← sh[o.toNat]?
      if 0 < o ∧ kd.1 = 101 ∧ 0 ≤ i ∧ i.toNat < kd.2 then some (nx, L, (1, m o.toNat i.toNat) :: S, sh, m) else none
    | .baload => do
      let (i, S) ← pp 0 S
      let (o, S) ← pp 2 S
      let kd ← sh[o.toNat]?
      if 0 < o ∧ (kd.1 = 102 ∨ kd.1 = 103) ∧ 0 ≤ i ∧ i.toNat < kd.2 then some (nx, L, (0, m o.toNat i.toNat) :: S, sh, m) else none
    | .aaload => do
      let (i, S) ← pp 0 S
      let (o, S) ← pp 2 S
      let kd ← sh[o.toNat]?
      if 0 < o ∧ 104 ≤ kd.1 ∧ kd.1 < 108 ∧ 0 ≤ i ∧ i.toNat < kd.2 ∧ 0 ≤ m o.toNat i.toNat then some (nx, L, (2, m o.toNat i.toNat) :: S, sh, m) else none
    | .iastore => do
      let (v, S) ← pp 0 S
      let (i, S) ← pp 0 S
      let (o, S) ← pp 2 S
      let kd ← sh[o.toNat]?
      if 0 < o ∧ kd.1 = 100 ∧ 0 ≤ i ∧ i.toNat < kd.2 then some (nx, L, S, sh, nu_up m o.toNat i.toNat v) else none
    | .lastore => do
      let (v, S) ← pp 1 S
      let (i, S) ← pp 0 S
      let (o, S) ← pp 2 S
      let kd ← sh[o.toNat]?
      if 0 < o ∧ kd.1 = 101 ∧ 0 ≤ i ∧ i.toNat < kd.2 then some (nx, L, S, sh, nu_up m o.toNat i.toNat v) else none
    | .bastore => do
      let (v, S) ← pp 0 S
      let (i, S) ← pp 0 S
      let (o, S) ← pp 2 S
      let kd ← sh[o.toNat]?
      if 0 < o ∧ 0 ≤ i ∧ i.toNat < kd.2 ∧ (kd.1 = 102 ∨ (kd.1 = 103 ∧ (v = 0 ∨ v = 1))) then some (nx, L, S, sh, nu_up m o.toNat i.toNat (if kd.1 = 102 then b8 v else v)) else none
    | .aastore => do
      let (v, S) ← pp 2 S
      let (i, S) ← pp 0 S
      let (o, S) ← pp 2 S
      let kd ← sh[o.toNat]?
      let kv ← sh[v.toNat]?
      if 0 < o ∧ 104 ≤ kd.1 ∧ kd.1 < 108 ∧ 0 ≤ i ∧ i.toNat < kd.2 ∧ 0 < v ∧ kv.1 = ecl kd.1 then some (nx, L, S, sh, nu_up m o.toNat i.toNat v) else none
    | .newarray t => do
      let (n, S) ← pp 0 S
      let k ← arK t
      if 0 ≤ n ∧ n ≤ 100000 ∧ sh.length < 1000000 then some (nx, L, (2, (sh.length : Int)) :: S, sh ++ [(k, n.toNat)], fun p j => if p = sh.length then 0 else m p j) else none
    | .anewarray _ => do
      let (n, S) ← pp 0 S
      if 0 ≤ n ∧ n ≤ 100000 ∧ sh.length < 1000000 ∧ 104 ≤ a ∧ a < 108 then some (nx, L, (2, (sh.length : Int)) :: S, sh ++ [(a.toNat, n.toNat)], fun p j => if p = sh.length then -1 else m p j) else none
    | .new _ => if a.toNat < 100 ∧ sh.length < 1000000 then some (nx, L, (2, (sh.length : Int)) :: S, sh ++ [(a.toNat, b)], fun p j => if p = sh.length then (if fty a.toNat j = 2 then -1 else 0) else m p j) else none
    | .invokestatic _ => if -5 ≤ a ∧ a ≤ -2 then spc nx a L S sh m else none
    | .invokespecial _ => if a = -1 then spc nx a L S sh m else none
    | .invokevirtual _ => if a = -6 ∨ a = -7 then spc nx a L S sh m else none
    | _ => none
def isRet : Instr → Bool
  | .ireturn => true
  | .lreturn => true
  | .areturn => true
  | .return_ => true
  | _ => false
def isCall : Instr → Bool
  | .invokestatic _ => true
  | .invokespecial _ => true
  | .invokevirtual _ => true
  | _ => false
/-- what is returned, (9, 0) for nothing; mB: 0 nothing, 1 int, 2 long, 3 boolean (0 or 1), 4 a reference -/
def retv (j : Nat) (i : Instr) (S : List AV) : Option AV := match i with
  | .ireturn => match S with
    | [v] => if v.1 = 0 ∧ (mB j = 1 ∨ (mB j = 3 ∧ (v.2 = 0 ∨ v.2 = 1))) then some v else none
    | _ => none
  | .lreturn => match S with
    | [v] => if v.1 = 1 ∧ mB j = 2 then some v else none
    | _ => none
  | .areturn => match S with
    | [v] => if v.1 = 2 ∧ mB j = 4 then some v else none
    | _ => none
  | .return_ => match S with
    | [] => if mB j = 0 then some (9, 0) else none
    | _ => none
  | _ => none
def pushv (v : AV) (S : List AV) : List AV := if v.1 = 9 then S else v :: S
/-- the receiver of a virtual call is an object of the method's class -/
def rcv (k : Nat) (As : List AV) (sh : List Kd) : Bool := if mS k = 1 then (match As with
  | v :: _ => v.1 == 2 && decide (0 < v.2) && (match sh[v.2.toNat]? with
    | some kd => kd.1 == mK k && decide (kd.1 < 100)
    | none => false)
  | [] => false) else if mS k = 2 then (match As with
  | v :: _ => v.1 == 2
  | [] => false) else true
def styOk (i : Instr) (k : Nat) : Bool := match i with
  | .invokestatic _ => mS k == 0
  | .invokespecial _ => mS k == 2
  | .invokevirtual _ => mS k == 1
  | _ => false
def run : Nat → Nat → Nat → Nat → List AV → List AV → List Kd → Mm → Option (AV × List Kd × Mm)
  | 0, _, _, _, _, _, _, _ => none
  | n + 1, d, j, pc, L, S, sh, m =>
    match row j pc with
    | none => none
    | some r =>
      if isRet r.1 then (match retv j r.1 S with
        | some v => some (v, sh, m)
        | none => none)
      else if isCall r.1 && decide (0 ≤ r.2.2.1) then
        (match d with
        | 0 => none
        | d' + 1 =>
          if mA r.2.2.1.toNat ≤ S.length ∧ csum (S.drop (mA r.2.2.1.toNat)) ≤ 8 ∧ (lay (S.take (mA r.2.2.1.toNat)).reverse).length ≤ mL r.2.2.1.toNat ∧ rcv r.2.2.1.toNat (S.take (mA r.2.2.1.toNat)).reverse sh = true ∧ styOk r.1 r.2.2.1.toNat = true then
            (match run n d' r.2.2.1.toNat 0 (layp (S.take (mA r.2.2.1.toNat)).reverse (mL r.2.2.1.toNat)) [] sh m with
            | none => none
            | some q => run n (d' + 1) j r.2.1 L (pushv q.1 (S.drop (mA r.2.2.1.toNat))) q.2.1 q.2.2)
          else none)
      else (match stp pc r L S sh m with
        | none => none
        | some q => run n d j q.1 q.2.1 q.2.2.1 q.2.2.2.1 q.2.2.2.2)
