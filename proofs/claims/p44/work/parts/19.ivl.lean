/-! the abstract machine over bounds: a value is known by its bounds, or not at all (none); the shape is a part of a given list T -/
abbrev VI : Type := Option (Int × Int)
abbrev AI : Type := Nat × VI
/-- a tree of 2 ^ k leaves -/
def Tr (α : Type) : Nat → Type
  | 0 => α
  | k + 1 => Tr α k × Tr α k
def tl {α : Type} {k : Nat} (t : Tr α (k + 1)) : Tr α k := Prod.fst (α := Tr α k) (β := Tr α k) t
def tr {α : Type} {k : Nat} (t : Tr α (k + 1)) : Tr α k := Prod.snd (α := Tr α k) (β := Tr α k) t
def tp {α : Type} {k : Nat} (a b : Tr α k) : Tr α (k + 1) := Prod.mk (α := Tr α k) (β := Tr α k) a b
def tg {α : Type} : (k : Nat) → Tr α k → Nat → α
  | 0, t, _ => t
  | k + 1, t, o => if o % 2 = 0 then tg k (tl t) (o / 2) else tg k (tr t) (o / 2)
def ts {α : Type} : (k : Nat) → Tr α k → Nat → α → Tr α k
  | 0, _, _, f => f
  | k + 1, t, o, f => if o % 2 = 0 then tp (ts k (tl t) (o / 2) f) (tr t) else tp (tl t) (ts k (tr t) (o / 2) f)
def tc {α : Type} (f : α) : (k : Nat) → Tr α k
  | 0 => f
  | k + 1 => tp (tc f k) (tc f k)
abbrev MI : Type := Tr (Nat → VI) 8
def rd (m : MI) (o i : Nat) : VI := tg 8 m o i
abbrev SI5 : Type := Nat × List AI × List AI × Nat × MI
def cst (v : VI) : Option Int := match v with
  | some q => if q.1 = q.2 then some q.1 else none
  | none => none
def one (c : Int) : VI := some (c, c)
def binI (f : Int → Int → Int) (x y : VI) : VI := match cst x with
  | some a => (match cst y with
    | some b => one (f a b)
    | none => none)
  | none => none
def unI (f : Int → Int) (x : VI) : VI := match cst x with
  | some a => one (f a)
  | none => none
def ltI (x y : VI) : Option Bool := match x with
  | some q => (match y with
    | some r => if q.2 < r.1 then some true else if r.2 ≤ q.1 then some false else none
    | none => none)
  | none => none
def eqI (x y : VI) : Option Bool := match x with
  | some q => (match y with
    | some r => if q.2 < r.1 then some false else if r.2 < q.1 then some false else if q.1 = q.2 ∧ r.1 = r.2 ∧ q.1 = r.1 then some true else none
    | none => none)
  | none => none
def cndI (c : ClassFile.Cond) (x y : VI) : Option Bool := match c with
  | .eq => eqI x y
  | .ne => (eqI x y).map not
  | .lt => ltI x y
  | .ge => (ltI x y).map not
  | .gt => ltI y x
  | .le => (ltI y x).map not
def lcI (x y : VI) : VI := match x with
  | some q => (match y with
    | some r => some (if r.2 < q.1 then 1 else if r.2 ≤ q.1 then 0 else -1, if q.2 < r.1 then -1 else if q.2 ≤ r.1 then 0 else 1)
    | none => none)
  | none => none
def in01 (v : VI) : Bool := match v with
  | some q => decide (0 ≤ q.1) && decide (q.2 ≤ 1)
  | none => false
def nnI (v : VI) : Bool := match v with
  | some q => decide (0 ≤ q.1)
  | none => false
def ppI (t : Nat) (S : List AI) : Option (VI × List AI) := match S with
  | v :: S' => if v.1 = t then some (v.2, S') else none
  | [] => none
def pcI (t : Nat) (S : List AI) : Option (Int × List AI) := match S with
  | v :: S' => if v.1 = t then (match cst v.2 with
    | some c => some (c, S')
    | none => none) else none
  | [] => none
def kl1I (L : List AI) (i : Nat) : List AI := match i with
  | 0 => L
  | k + 1 => match L[k]? with
    | some q => if q.1 = 1 then L.set k (9, none) else L
    | none => L
def st1I (L : List AI) (i : Nat) (v : AI) : List AI := (kl1I L i).set i v
def st2I (L : List AI) (i : Nat) (v : AI) : List AI := (st1I L i v).set (i + 1) (9, none)
def glI (L : List AI) (t i : Nat) : Option VI := match L[i]? with
  | some v => if v.1 = t then some v.2 else none
  | none => none
def layI : List AI → List AI
  | [] => []
  | v :: vs => if v.1 = 1 then v :: (9, none) :: layI vs else v :: layI vs
def laypI (As : List AI) (n : Nat) : List AI := layI As ++ List.replicate (n - (layI As).length) (9, none)
def csumI (S : List AI) : Nat := (S.map (fun v => if v.1 = 1 then 2 else 1)).sum
def lk (F : Nat → Option Kd) (c : Nat) (o : Nat) : Option Kd := if o < c then F o else none
def upI (m : MI) (o i : Nat) (v : VI) : MI := ts 8 m o (fun j => if j = i then v else tg 8 m o j)
def nwI (m : MI) (c : Nat) (f : Nat → VI) : MI := ts 8 m c f
def cpI (m : MI) (g dp n f sp : Nat) : MI := ts 8 m g (fun j => if dp ≤ j ∧ j < dp + n then tg 8 m f (sp + (j - dp)) else tg 8 m g j)
def spcI (F : Nat → Option Kd) (nx : Nat) (a : Int) (L S : List AI) (c : Nat) (m : MI) : Option SI5 :=
  if a = -1 then do
    let (_, S) ← ppI 2 S
    if csumI S ≤ 8 then some (nx, L, S, c, m) else none
  else if a = -2 then do
    let (n, S) ← pcI 0 S
    let (dp, S) ← pcI 0 S
    let (g, S) ← pcI 2 S
    let (sp, S) ← pcI 0 S
    let (f, S) ← pcI 2 S
    let kf ← lk F c f.toNat
    let kg ← lk F c g.toNat
    if csumI S ≤ 8 ∧ 0 < f ∧ 0 < g ∧ kf.1 = kg.1 ∧ (kf.1 = 100 ∨ kf.1 = 101) ∧ 0 ≤ n ∧ 0 ≤ sp ∧ 0 ≤ dp ∧ sp.toNat + n.toNat ≤ kf.2 ∧ dp.toNat + n.toNat ≤ kg.2 then
      some (nx, L, S, c, cpI m g.toNat dp.toNat n.toNat f.toNat sp.toNat)
    else none
  else if a = -3 then do
    let (y, S) ← ppI 0 S
    let (x, S) ← ppI 0 S
    if csumI S ≤ 8 then some (nx, L, (0, binI max x y) :: S, c, m) else none
  else if a = -4 then do
    let (y, S) ← ppI 0 S
    let (x, S) ← ppI 0 S
    if csumI S ≤ 8 then some (nx, L, (0, binI min x y) :: S, c, m) else none
  else if a = -5 then do
    let (y, S) ← ppI 1 S
    let (x, S) ← ppI 1 S
    if csumI S ≤ 8 then some (nx, L, (1, binI max x y) :: S, c, m) else none
  else if a = -6 then do
    let (o, S) ← pcI 2 S
    let n ← slen (o.toNat - 1000000)
    if csumI S ≤ 8 ∧ 1000000 ≤ o then some (nx, L, (0, one (n : Int)) :: S, c, m) else none
  else if a = -7 then do
    let (i, S) ← pcI 0 S
    let (o, S) ← pcI 2 S
    let ch ← sch (o.toNat - 1000000) i.toNat
    if csumI S ≤ 8 ∧ 1000000 ≤ o ∧ 0 ≤ i then some (nx, L, (0, one ch) :: S, c, m) else none
  else none
/-- one instruction that is no call of an own method and no return -/
def stpI (F : Nat → Option Kd) (pc : Nat) (r : Row) (L S : List AI) (c : Nat) (m : MI) : Option SI5 :=
  match r with
  | (ins, nx, a, b, cw, _) =>
    match ins with
    | .iconst _ => some (nx, L, (0, one a) :: S, c, m)
    | .bipush _ => some (nx, L, (0, one a) :: S, c, m)
    | .sipush _ => some (nx, L, (0, one a) :: S, c, m)
    | .lconst _ => some (nx, L, (1, one a) :: S, c, m)
    | .ldc _ => some (nx, L, (if b = 0 then 0 else 2, one a) :: S, c, m)
    | .ldc_w _ => if b = 0 then some (nx, L, (0, one a) :: S, c, m) else none
    | .ldc2_w _ => some (nx, L, (1, one a) :: S, c, m)
    | .iload i => do let x ← glI L 0 i; some (nx, L, (0, x) :: S, c, m)
    | .iload_n i => do let x ← glI L 0 i.val; some (nx, L, (0, x) :: S, c, m)
    | .lload i => do let x ← glI L 1 i; some (nx, L, (1, x) :: S, c, m)
    | .lload_n i => do let x ← glI L 1 i.val; some (nx, L, (1, x) :: S, c, m)
    | .aload i => do let x ← glI L 2 i; some (nx, L, (2, x) :: S, c, m)
    | .aload_n i => do let x ← glI L 2 i.val; some (nx, L, (2, x) :: S, c, m)
    | .istore i => do let (x, S) ← ppI 0 S; if i < L.length then some (nx, st1I L i (0, x), S, c, m) else none
    | .istore_n i => do let (x, S) ← ppI 0 S; if i.val < L.length then some (nx, st1I L i.val (0, x), S, c, m) else none
    | .lstore i => do let (x, S) ← ppI 1 S; if i + 1 < L.length then some (nx, st2I L i (1, x), S, c, m) else none
    | .lstore_n i => do let (x, S) ← ppI 1 S; if i.val + 1 < L.length then some (nx, st2I L i.val (1, x), S, c, m) else none
    | .astore i => do let (x, S) ← ppI 2 S; if i < L.length then some (nx, st1I L i (2, x), S, c, m) else none
    | .astore_n i => do let (x, S) ← ppI 2 S; if i.val < L.length then some (nx, st1I L i.val (2, x), S, c, m) else none
    | .iinc i n => do let x ← glI L 0 i; some (nx, st1I L i (0, unI (fun x => w32 (x + n)) x), S, c, m)
    | .iadd => do let (y, S) ← ppI 0 S; let (x, S) ← ppI 0 S; some (nx, L, (0, binI (fun x y => w32 (x + y)) x y) :: S, c, m)
    | .isub => do let (y, S) ← ppI 0 S; let (x, S) ← ppI 0 S; some (nx, L, (0, binI (fun x y => w32 (x - y)) x y) :: S, c, m)
    | .imul => do let (y, S) ← ppI 0 S; let (x, S) ← ppI 0 S; some (nx, L, (0, binI (fun x y => w32 (x * y)) x y) :: S, c, m)
    | .idiv => do let (y, S) ← pcI 0 S; let (x, S) ← ppI 0 S; if y = 0 then none else some (nx, L, (0, unI (fun x => w32 (x.tdiv y)) x) :: S, c, m)
    | .irem => do let (y, S) ← pcI 0 S; let (x, S) ← ppI 0 S; if y = 0 then none else some (nx, L, (0, unI (fun x => x.tmod y) x) :: S, c, m)
    | .ineg => do let (x, S) ← ppI 0 S; some (nx, L, (0, unI (fun x => w32 (-x)) x) :: S, c, m)
    | .iand => do let (y, S) ← ppI 0 S; let (x, S) ← ppI 0 S; some (nx, L, (0, binI iand x y) :: S, c, m)
    | .ior => do let (y, S) ← ppI 0 S; let (x, S) ← ppI 0 S; some (nx, L, (0, binI ior x y) :: S, c, m)
    | .ixor => do let (y, S) ← ppI 0 S; let (x, S) ← ppI 0 S; some (nx, L, (0, binI ixor x y) :: S, c, m)
    | .ishl => do let (y, S) ← ppI 0 S; let (x, S) ← ppI 0 S; some (nx, L, (0, binI ishl x y) :: S, c, m)
    | .ishr => do let (y, S) ← ppI 0 S; let (x, S) ← ppI 0 S; some (nx, L, (0, binI ishr x y) :: S, c, m)
    | .ladd => do let (y, S) ← ppI 1 S; let (x, S) ← ppI 1 S; some (nx, L, (1, binI (fun x y => w64 (x + y)) x y) :: S, c, m)
    | .lsub => do let (y, S) ← ppI 1 S; let (x, S) ← ppI 1 S; some (nx, L, (1, binI (fun x y => w64 (x - y)) x y) :: S, c, m)
    | .lmul => do let (y, S) ← ppI 1 S; let (x, S) ← ppI 1 S; some (nx, L, (1, binI (fun x y => w64 (x * y)) x y) :: S, c, m)
    | .ldiv => do let (y, S) ← pcI 1 S; let (x, S) ← ppI 1 S; if y = 0 then none else some (nx, L, (1, unI (fun x => w64 (x.tdiv y)) x) :: S, c, m)
    | .lrem => do let (y, S) ← pcI 1 S; let (x, S) ← ppI 1 S; if y = 0 then none else some (nx, L, (1, unI (fun x => x.tmod y) x) :: S, c, m)
    | .land => do let (y, S) ← ppI 1 S; let (x, S) ← ppI 1 S; some (nx, L, (1, binI land x y) :: S, c, m)
    | .lor => do let (y, S) ← ppI 1 S; let (x, S) ← ppI 1 S; some (nx, L, (1, binI lor x y) :: S, c, m)
    | .lshl => do let (y, S) ← ppI 0 S; let (x, S) ← ppI 1 S; some (nx, L, (1, binI lshl x y) :: S, c, m)
    | .lshr => do let (y, S) ← ppI 0 S; let (x, S) ← ppI 1 S; some (nx, L, (1, binI lshr x y) :: S, c, m)
    | .lcmp => do let (y, S) ← ppI 1 S; let (x, S) ← ppI 1 S; some (nx, L, (0, lcI x y) :: S, c, m)
    | .i2l => do let (x, S) ← ppI 0 S; some (nx, L, (1, x) :: S, c, m)
    | .l2i => do let (x, S) ← ppI 1 S; some (nx, L, (0, unI w32 x) :: S, c, m)
    | .i2b => do let (x, S) ← ppI 0 S; some (nx, L, (0, unI b8 x) :: S, c, m)
    | .i2s => do let (x, S) ← ppI 0 S; some (nx, L, (0, unI b16 x) :: S, c, m)
    | .goto _ => some (a.toNat, L, S, c, m)
    | .ifCond cn _ => do let (x, S) ← ppI 0 S; let t ← cndI cn x (one 0); some (if t then a.toNat else nx, L, S, c, m)
    | .if_icmp cn _ => do let (y, S) ← ppI 0 S; let (x, S) ← ppI 0 S; let t ← cndI cn x y; some (if t then a.toNat else nx, L, S, c, m)
    | .tableswitch d lo hi offs => do
      let (x, S) ← ppI 0 S
      match x with
      | none => none
      | some q =>
        if q.2 < lo ∨ hi < q.1 then (if 0 ≤ (pc : Int) + d then some (((pc : Int) + d).toNat, L, S, c, m) else none)
        else if q.1 = q.2 then do
          let off ← offs[(q.1 - lo).toNat]?
          if 0 ≤ (pc : Int) + off then some (((pc : Int) + off).toNat, L, S, c, m) else none
        else none
    | .dup => match S with
      | v :: S' => if v.1 = 1 then none else some (nx, L, v :: v :: S', c, m)
      | [] => none
    | .dup2 => match S with
      | v :: w :: S' => if v.1 = 1 ∨ w.1 = 1 then none else some (nx, L, v :: w :: v :: w :: S', c, m)
      | _ => none
    | .pop => match S with
      | v :: S' => if v.1 = 1 then none else some (nx, L, S', c, m)
      | [] => none
    | .getfield _ => do
      let (o, S) ← pcI 2 S
      let kd ← lk F c o.toNat
      if 0 < o ∧ kd.1 = a.toNat ∧ kd.1 < 100 ∧ b < kd.2 then
        (if cw % 10 = 2 then (if nnI (rd m o.toNat b) = true then some (nx, L, (2, rd m o.toNat b) :: S, c, m) else none)
         else some (nx, L, (if cw % 10 = 1 then 1 else 0, rd m o.toNat b) :: S, c, m))
      else none
    | .putfield _ => do
      let (v, S) ← ppI (if cw % 10 = 2 then 2 else if cw % 10 = 1 then 1 else 0) S
      let (o, S) ← pcI 2 S
      let kd ← lk F c o.toNat
      if 0 < o ∧ kd.1 = a.toNat ∧ kd.1 < 100 ∧ b < kd.2 ∧ (cw % 10 = 3 → in01 v = true) ∧ (cw % 10 = 2 → nnI v = true) then some (nx, L, S, c, upI m o.toNat b v) else none
    | .arraylength => do
      let (o, S) ← pcI 2 S
      let kd ← lk F c o.toNat
      if 100 ≤ kd.1 ∧ kd.2 < 2147483648 ∧ kd.1 < 108 then some (nx, L, (0, one (kd.2 : Int)) :: S, c, m) else none
    | .iaload => do
      let (i, S) ← pcI 0 S
      let (o, S) ← pcI 2 S
      let kd ← lk F c o.toNat
      if kd.1 = 100 ∧ 0 ≤ i ∧ i.toNat < kd.2 then some (nx, L, (0, rd m o.toNat i.toNat) :: S, c, m) else none
    | .laload => do
      let (i, S) ← pcI 0 S
      let (o, S) ← pcI 2 S
      let kd ← lk F c o.toNat
      if 0 < o ∧ kd.1 = 101 ∧ 0 ≤ i ∧ i.toNat < kd.2 then some (nx, L, (1, rd m o.toNat i.toNat) :: S, c, m) else none
    | .baload => do
      let (i, S) ← pcI 0 S
      let (o, S) ← pcI 2 S
      let kd ← lk F c o.toNat
      if 0 < o ∧ (kd.1 = 102 ∨ kd.1 = 103) ∧ 0 ≤ i ∧ i.toNat < kd.2 then some (nx, L, (0, rd m o.toNat i.toNat) :: S, c, m) else none
    | .aaload => do
      let (i, S) ← pcI 0 S
      let (o, S) ← pcI 2 S
      let kd ← lk F c o.toNat
      if 0 < o ∧ 104 ≤ kd.1 ∧ kd.1 < 108 ∧ 0 ≤ i ∧ i.toNat < kd.2 ∧ nnI (rd m o.toNat i.toNat) = true then some (nx, L, (2, rd m o.toNat i.toNat) :: S, c, m) else none
    | .iastore => do
      let (v, S) ← ppI 0 S
      let (i, S) ← pcI 0 S
      let (o, S) ← pcI 2 S
      let kd ← lk F c o.toNat
      if 0 < o ∧ kd.1 = 100 ∧ 0 ≤ i ∧ i.toNat < kd.2 then some (nx, L, S, c, upI m o.toNat i.toNat v) else none
    | .lastore => do
      let (v, S) ← ppI 1 S
      let (i, S) ← pcI 0 S
      let (o, S) ← pcI 2 S
      let kd ← lk F c o.toNat
      if 0 < o ∧ kd.1 = 101 ∧ 0 ≤ i ∧ i.toNat < kd.2 then some (nx, L, S, c, upI m o.toNat i.toNat v) else none
    | .bastore => do
      let (v, S) ← ppI 0 S
      let (i, S) ← pcI 0 S
      let (o, S) ← pcI 2 S
      let kd ← lk F c o.toNat
      if 0 < o ∧ 0 ≤ i ∧ i.toNat < kd.2 ∧ (kd.1 = 102 ∨ (kd.1 = 103 ∧ in01 v = true)) then some (nx, L, S, c, upI m o.toNat i.toNat (if kd.1 = 102 then unI b8 v else v)) else none
    | .aastore => do
      let (v, S) ← pcI 2 S
      let (i, S) ← pcI 0 S
      let (o, S) ← pcI 2 S
      let kd ← lk F c o.toNat
      let kv ← lk F c v.toNat
      if 0 < o ∧ 104 ≤ kd.1 ∧ kd.1 < 108 ∧ 0 ≤ i ∧ i.toNat < kd.2 ∧ 0 < v ∧ kv.1 = ecl kd.1 then some (nx, L, S, c, upI m o.toNat i.toNat (one v)) else none
    | .newarray t => do
      let (n, S) ← pcI 0 S
      let k ← arK t
      if 0 ≤ n ∧ n ≤ 100000 ∧ c < 1000000 ∧ F c = some (k, n.toNat) then some (nx, L, (2, one (c : Int)) :: S, c + 1, nwI m c (fun _ => one 0)) else none
    | .anewarray _ => do
      let (n, S) ← pcI 0 S
      if 0 ≤ n ∧ n ≤ 100000 ∧ c < 1000000 ∧ 104 ≤ a ∧ a < 108 ∧ F c = some (a.toNat, n.toNat) then some (nx, L, (2, one (c : Int)) :: S, c + 1, nwI m c (fun _ => one (-1))) else none
    | .new _ => if a.toNat < 100 ∧ c < 1000000 ∧ F c = some (a.toNat, b) then some (nx, L, (2, one (c : Int)) :: S, c + 1, nwI m c (fun j => one (if fty a.toNat j = 2 then -1 else 0))) else none
    | .invokestatic _ => if -5 ≤ a ∧ a ≤ -2 then spcI F nx a L S c m else none
    | .invokespecial _ => if a = -1 then spcI F nx a L S c m else none
    | .invokevirtual _ => if a = -6 ∨ a = -7 then spcI F nx a L S c m else none
    | _ => none
def retvI (j : Nat) (i : Instr) (S : List AI) : Option AI := match i with
  | .ireturn => match S with
    | [v] => if v.1 = 0 ∧ (mB j = 1 ∨ (mB j = 3 ∧ in01 v.2 = true)) then some v else none
    | _ => none
  | .lreturn => match S with
    | [v] => if v.1 = 1 ∧ mB j = 2 then some v else none
    | _ => none
  | .areturn => match S with
    | [v] => if v.1 = 2 ∧ mB j = 4 then some v else none
    | _ => none
  | .return_ => match S with
    | [] => if mB j = 0 then some (9, none) else none
    | _ => none
  | _ => none
def pushI (v : AI) (S : List AI) : List AI := if v.1 = 9 then S else v :: S
def rcvI (F : Nat → Option Kd) (k : Nat) (As : List AI) (c : Nat) : Bool := if mS k = 1 then (match As with
  | v :: _ => v.1 == 2 && (match cst v.2 with
    | some o => decide (0 < o) && (match lk F c o.toNat with
      | some kd => kd.1 == mK k && decide (kd.1 < 100)
      | none => false)
    | none => false)
  | [] => false) else if mS k = 2 then (match As with
  | v :: _ => v.1 == 2
  | [] => false) else true
def runI (F : Nat → Option Kd) : Nat → Nat → Nat → Nat → List AI → List AI → Nat → MI → Option (AI × Nat × MI)
  | 0, _, _, _, _, _, _, _ => none
  | n + 1, d, j, pc, L, S, c, m =>
    match row j pc with
    | none => none
    | some r =>
      if isRet r.1 then (match retvI j r.1 S with
        | some v => some (v, c, m)
        | none => none)
      else if isCall r.1 && decide (0 ≤ r.2.2.1) then
        (match d with
        | 0 => none
        | d' + 1 =>
          if mA r.2.2.1.toNat ≤ S.length ∧ csumI (S.drop (mA r.2.2.1.toNat)) ≤ 8 ∧ (layI (S.take (mA r.2.2.1.toNat)).reverse).length ≤ mL r.2.2.1.toNat ∧ rcvI F r.2.2.1.toNat (S.take (mA r.2.2.1.toNat)).reverse c = true ∧ styOk r.1 r.2.2.1.toNat = true then
            (match runI F n d' r.2.2.1.toNat 0 (laypI (S.take (mA r.2.2.1.toNat)).reverse (mL r.2.2.1.toNat)) [] c m with
            | none => none
            | some q => runI F n (d' + 1) j r.2.1 L (pushI q.1 (S.drop (mA r.2.2.1.toNat))) q.2.1 q.2.2)
          else none)
      else (match stpI F pc r L S c m with
        | none => none
        | some q => runI F n d j q.1 q.2.1 q.2.2.1 q.2.2.2.1 q.2.2.2.2)
/-- to a place of one frame -/
def toI (F : Nat → Option Kd) (stop : Nat) : Nat → Nat → Nat → Nat → List AI → List AI → Nat → MI → Option SI5
  | 0, _, _, _, _, _, _, _ => none
  | n + 1, d, j, pc, L, S, c, m =>
    if pc = stop then some (pc, L, S, c, m) else
    match row j pc with
    | none => none
    | some r =>
      if isRet r.1 then none
      else if isCall r.1 && decide (0 ≤ r.2.2.1) then
        (match d with
        | 0 => none
        | d' + 1 =>
          if mA r.2.2.1.toNat ≤ S.length ∧ csumI (S.drop (mA r.2.2.1.toNat)) ≤ 8 ∧ (layI (S.take (mA r.2.2.1.toNat)).reverse).length ≤ mL r.2.2.1.toNat ∧ rcvI F r.2.2.1.toNat (S.take (mA r.2.2.1.toNat)).reverse c = true ∧ styOk r.1 r.2.2.1.toNat = true then
            (match runI F n d' r.2.2.1.toNat 0 (laypI (S.take (mA r.2.2.1.toNat)).reverse (mL r.2.2.1.toNat)) [] c m with
            | none => none
            | some q => toI F stop n (d' + 1) j r.2.1 L (pushI q.1 (S.drop (mA r.2.2.1.toNat))) q.2.1 q.2.2)
          else none)
      else (match stpI F pc r L S c m with
        | none => none
        | some q => toI F stop n d j q.1 q.2.1 q.2.2.1 q.2.2.2.1 q.2.2.2.2)
