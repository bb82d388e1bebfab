/-! a checker of bounds for all runs: objects have types, cells of a type have bounds for good, loops a measure -/
/-- an abstract value: 0 an int, 1 a long (by bounds), 2 an object of a type, 3 a text, else anything -/
abbrev Q : Type := Nat × Int × Int
/-- with a symbol and a difference: the value is the symbol's and the difference; symbol 0: none -/
abbrev SV : Type := Q × Nat × Int
abbrev StA : Type := Nat × List SV × List SV × List SV × Nat
/-- a contract: method, arguments, result (9: none), cells that it may write, depth -/
abbrev Con : Type := Nat × List Q × Q × List Nat × Nat
def sv0 (q : Q) : SV := (q, 0, 0)
abbrev q32 : Q := (0, -2147483648, 2147483647)
abbrev q64 : Q := (1, -9223372036854775808, 9223372036854775807)
def leQ (x y : Q) : Bool := if y.1 = 0 ∨ y.1 = 1 then x.1 == y.1 && decide (y.2.1 ≤ x.2.1) && decide (x.2.2 ≤ y.2.2) else if y.1 = 2 ∨ y.1 = 3 then x.1 == y.1 && decide (x.2.1 = y.2.1) else true
def ppS (t : Nat) (S : List SV) : Option (SV × List SV) := match S with
  | v :: S' => if v.1.1 = t then some (v, S') else none
  | [] => none
def glS (L : List SV) (t i : Nat) : Option SV := match L[i]? with
  | some v => if v.1.1 = t then some v else none
  | none => none
def fil : SV := ((9, 0, 0), 0, 0)
def kl1S (L : List SV) (i : Nat) : List SV := match i with
  | 0 => L
  | k + 1 => match L[k]? with
    | some q => if q.1.1 = 1 then L.set k fil else L
    | none => L
def st1S (L : List SV) (i : Nat) (v : SV) : List SV := (kl1S L i).set i v
def st2S (L : List SV) (i : Nat) (v : SV) : List SV := (st1S L i v).set (i + 1) fil
def layS : List SV → List SV
  | [] => []
  | v :: vs => if v.1.1 = 1 then v :: fil :: layS vs else v :: layS vs
def laypS (As : List SV) (n : Nat) : List SV := layS As ++ List.replicate (n - (layS As).length) fil
def csumS (S : List SV) : Nat := (S.map (fun v => if v.1.1 = 1 ∨ 3 < v.1.1 then 2 else 1)).sum
/-- an interval of ints, or all -/
def iv (lo hi : Int) : Q := if -2147483648 ≤ lo ∧ hi ≤ 2147483647 then (0, lo, hi) else q32
def addS (x y : SV) : SV :=
  if -2147483648 ≤ x.1.2.1 + y.1.2.1 ∧ x.1.2.2 + y.1.2.2 ≤ 2147483647 then
    ((0, x.1.2.1 + y.1.2.1, x.1.2.2 + y.1.2.2), if y.1.2.1 = y.1.2.2 then (x.2.1, x.2.2 + y.1.2.1) else if x.1.2.1 = x.1.2.2 then (y.2.1, y.2.2 + x.1.2.1) else (0, 0))
  else sv0 q32
def subS (x y : SV) : SV :=
  if -2147483648 ≤ x.1.2.1 - y.1.2.2 ∧ x.1.2.2 - y.1.2.1 ≤ 2147483647 then
    ((0, x.1.2.1 - y.1.2.2, x.1.2.2 - y.1.2.1), if y.1.2.1 = y.1.2.2 then (x.2.1, x.2.2 - y.1.2.1) else (0, 0))
  else sv0 q32
def mulS (x y : SV) : SV :=
  if x.1.2.1 = x.1.2.2 ∧ 0 ≤ x.1.2.1 then sv0 (iv (x.1.2.1 * y.1.2.1) (x.1.2.1 * y.1.2.2))
  else if y.1.2.1 = y.1.2.2 ∧ 0 ≤ y.1.2.1 then sv0 (iv (y.1.2.1 * x.1.2.1) (y.1.2.1 * x.1.2.2))
  else sv0 q32
/-- behind learning that v lies between lo and hi -/
def rfV (v : SV) (lo hi : Int) (X : List SV) : List SV := if v.2.1 = 0 then X else X.map (fun s => if s.2.1 = v.2.1 then ((s.1.1, max s.1.2.1 (lo - v.2.2 + s.2.2), min s.1.2.2 (hi - v.2.2 + s.2.2)), s.2) else s)
def ltQ (x y : Q) : Option Bool := if x.2.2 < y.2.1 then some true else if y.2.2 ≤ x.2.1 then some false else none
def eqQ (x y : Q) : Option Bool := if x.2.2 < y.2.1 then some false else if y.2.2 < x.2.1 then some false else if x.2.1 = x.2.2 ∧ y.2.1 = y.2.2 ∧ x.2.1 = y.2.1 then some true else none
def cnQ (c : ClassFile.Cond) (x y : Q) : Option Bool := match c with
  | .eq => eqQ x y
  | .ne => (eqQ x y).map not
  | .lt => ltQ x y
  | .ge => (ltQ x y).map not
  | .gt => ltQ y x
  | .le => (ltQ y x).map not
def rLt (x y : SV) (X : List SV) : List SV := rfV y (x.1.2.1 + 1) y.1.2.2 (rfV x x.1.2.1 (y.1.2.2 - 1) X)
def rLe (x y : SV) (X : List SV) : List SV := rfV y x.1.2.1 y.1.2.2 (rfV x x.1.2.1 y.1.2.2 X)
def rEq (x y : SV) (X : List SV) : List SV := rfV y x.1.2.1 x.1.2.2 (rfV x y.1.2.1 y.1.2.2 X)
def rNe (x y : SV) (X : List SV) : List SV := if y.1.2.1 = y.1.2.2 then (if x.1.2.1 = y.1.2.1 then rfV x (x.1.2.1 + 1) x.1.2.2 X else if x.1.2.2 = y.1.2.1 then rfV x x.1.2.1 (x.1.2.2 - 1) X else X) else X
def rfC (c : ClassFile.Cond) (t : Bool) (x y : SV) (X : List SV) : List SV := match c with
  | .eq => if t then rEq x y X else rNe x y X
  | .ne => if t then rNe x y X else rEq x y X
  | .lt => if t then rLt x y X else rLe y x X
  | .ge => if t then rLe y x X else rLt x y X
  | .gt => if t then rLt y x X else rLe x y X
  | .le => if t then rLe x y X else rLt y x X
def brS (c : ClassFile.Cond) (x y : SV) (p1 p2 : Nat) (L S G : List SV) (nid : Nat) : List StA := match cnQ c x.1 y.1 with
  | some t => [(if t then p1 else p2, L, S, G, nid)]
  | none => [(p1, rfC c true x y L, rfC c true x y S, rfC c true x y G, nid), (p2, rfC c false x y L, rfC c false x y S, rfC c false x y G, nid)]
/-- a value with a symbol -/
def sym (v : SV) (nid : Nat) : SV := if v.2.1 = 0 ∧ (v.1.1 = 0 ∨ v.1.1 = 1) then (v.1, nid, 0) else v
/-- bounds of a part of a row -/
def jn2 (x y : Q) : Q := if x.1 = y.1 ∧ x.1 ≤ 1 then (x.1, min x.2.1 y.2.1, max x.2.2 y.2.2) else (9, 0, 0)
def jnQ (t : Nat) (lo : Nat) : Nat → Q
  | 0 => cT t lo
  | n + 1 => jn2 (jnQ t lo n) (cT t (lo + n + 1))
def ldQ (t : Nat) (lo hi : Int) : Q := match cU t with
  | some q => q
  | none => jnQ t lo.toNat (hi - lo).toNat
def leC (q c : Q) : Bool := leQ q c && Nat.ble c.1 2
def allQ (t : Nat) (lo : Nat) (q : Q) : Nat → Bool
  | 0 => leC q (cT t lo)
  | n + 1 => allQ t lo q n && leC q (cT t (lo + n + 1))
def sdQ (t : Nat) (lo hi : Int) (q : Q) : Bool := match cU t with
  | some q' => leC q q'
  | none => allQ t lo.toNat q (hi - lo).toNat
def isN (q : Q) : Bool := decide (1 ≤ q.2.1) || decide (q.2.2 ≤ -1)
def spS (W : List Nat) (nx : Nat) (a : Int) (L S G : List SV) (nid : Nat) : Option (List StA) :=
  if a = -2 then do
    let (n, S) ← ppS 0 S
    let (dp, S) ← ppS 0 S
    let (g, S) ← ppS 2 S
    let (sp, S) ← ppS 0 S
    let (f, S) ← ppS 2 S
    if csumS S ≤ 8 ∧ (tyK f.1.2.1.toNat).1 = (tyK g.1.2.1.toNat).1 ∧ ((tyK f.1.2.1.toNat).1 = 100 ∨ (tyK f.1.2.1.toNat).1 = 101) ∧ 0 ≤ n.1.2.1 ∧ 0 ≤ sp.1.2.1 ∧ 0 ≤ dp.1.2.1 ∧ sp.1.2.2 + n.1.2.2 ≤ ((tyK f.1.2.1.toNat).2 : Int) ∧ dp.1.2.2 + n.1.2.2 ≤ ((tyK g.1.2.1.toNat).2 : Int) ∧ W.contains (g.1.2.1.toNat * 1000 + 999) = true
        ∧ (match cU f.1.2.1.toNat with | some q => (match cU g.1.2.1.toNat with | some q' => leC q q' | none => false) | none => false) = true then some [(nx, L, S, G, nid)] else none
  else if a = -3 then do
    let (y, S) ← ppS 0 S
    let (x, S) ← ppS 0 S
    if csumS S ≤ 8 then some [(nx, L, sv0 (0, max x.1.2.1 y.1.2.1, max x.1.2.2 y.1.2.2) :: S, G, nid)] else none
  else if a = -4 then do
    let (y, S) ← ppS 0 S
    let (x, S) ← ppS 0 S
    if csumS S ≤ 8 then some [(nx, L, sv0 (0, min x.1.2.1 y.1.2.1, min x.1.2.2 y.1.2.2) :: S, G, nid)] else none
  else if a = -5 then do
    let (y, S) ← ppS 1 S
    let (x, S) ← ppS 1 S
    if csumS S ≤ 8 then some [(nx, L, sv0 (1, max x.1.2.1 y.1.2.1, max x.1.2.2 y.1.2.2) :: S, G, nid)] else none
  else if a = -6 then do
    let (o, S) ← ppS 3 S
    let n ← slen o.1.2.1.toNat
    if csumS S ≤ 8 ∧ 0 ≤ o.1.2.1 then some [(nx, L, sv0 (0, (n : Int), (n : Int)) :: S, G, nid)] else none
  else if a = -7 then do
    let (i, S) ← ppS 0 S
    let (o, S) ← ppS 3 S
    let n ← slen o.1.2.1.toNat
    if csumS S ≤ 8 ∧ 0 ≤ o.1.2.1 ∧ 0 ≤ i.1.2.1 ∧ i.1.2.2 < (n : Int) then some [(nx, L, sv0 (0, 0, 65535) :: S, G, nid)] else none
  else none
def one1 (nx : Nat) (L S G : List SV) (nid : Nat) : Option (List StA) := some [(nx, L, S, G, nid)]
def bin2 (t : Nat) (f : SV → SV → SV) (nx : Nat) (L S G : List SV) (nid : Nat) : Option (List StA) := do
  let (y, S) ← ppS t S
  let (x, S) ← ppS t S
  one1 nx L (f x y :: S) G nid
def un1 (t : Nat) (f : SV → SV) (nx : Nat) (L S G : List SV) (nid : Nat) : Option (List StA) := do
  let (x, S) ← ppS t S
  one1 nx L (f x :: S) G nid
def ld1 (t i nx : Nat) (L S G : List SV) (nid : Nat) : Option (List StA) := do
  let x ← glS L t i
  one1 nx L (x :: S) G nid
def str1 (t i nx : Nat) (L S G : List SV) (nid : Nat) : Option (List StA) := do
  let (x, S) ← ppS t S
  if i < L.length then one1 nx (st1S L i (sym x nid)) S G (nid + 1) else none
def str2 (i nx : Nat) (L S G : List SV) (nid : Nat) : Option (List StA) := do
  let (x, S) ← ppS 1 S
  if i + 1 < L.length then one1 nx (st2S L i (sym x nid)) S G (nid + 1) else none
def gf1 (nx : Nat) (a : Int) (b cw : Nat) (L S G : List SV) (nid : Nat) : Option (List StA) := do
  let (o, S) ← ppS 2 S
  if (tyK o.1.2.1.toNat).1 = a.toNat ∧ (tyK o.1.2.1.toNat).1 < 100 ∧ b < (tyK o.1.2.1.toNat).2 ∧ (cT o.1.2.1.toNat b).1 = (if cw % 10 = 2 then 2 else if cw % 10 = 1 then 1 else 0) then one1 nx L (sv0 (cT o.1.2.1.toNat b) :: S) G nid else none
def pf1 (W : List Nat) (nx : Nat) (a : Int) (b cw : Nat) (L S G : List SV) (nid : Nat) : Option (List StA) := do
  let (v, S) ← ppS (if cw % 10 = 2 then 2 else if cw % 10 = 1 then 1 else 0) S
  let (o, S) ← ppS 2 S
  if (tyK o.1.2.1.toNat).1 = a.toNat ∧ (tyK o.1.2.1.toNat).1 < 100 ∧ b < (tyK o.1.2.1.toNat).2 ∧ leC v.1 (cT o.1.2.1.toNat b) = true ∧ (cw % 10 = 3 → 0 ≤ v.1.2.1 ∧ v.1.2.2 ≤ 1) ∧ W.contains (o.1.2.1.toNat * 1000 + b) = true then one1 nx L S G nid else none
def al1 (nx : Nat) (L S G : List SV) (nid : Nat) : Option (List StA) := do
  let (o, S) ← ppS 2 S
  if 100 ≤ (tyK o.1.2.1.toNat).1 ∧ (tyK o.1.2.1.toNat).2 < 2147483648 ∧ (tyK o.1.2.1.toNat).1 < 108 then one1 nx L (sv0 (0, ((tyK o.1.2.1.toNat).2 : Int), ((tyK o.1.2.1.toNat).2 : Int)) :: S) G nid else none
/-- reading a row of kind k, k2 or k3; tag t -/
def rd1 (k k2 t nx : Nat) (L S G : List SV) (nid : Nat) : Option (List StA) := do
  let (i, S) ← ppS 0 S
  let (o, S) ← ppS 2 S
  if k ≤ (tyK o.1.2.1.toNat).1 ∧ (tyK o.1.2.1.toNat).1 ≤ k2 ∧ 0 ≤ i.1.2.1 ∧ i.1.2.2 < ((tyK o.1.2.1.toNat).2 : Int) ∧ (ldQ o.1.2.1.toNat i.1.2.1 i.1.2.2).1 = t then one1 nx L (sv0 (ldQ o.1.2.1.toNat i.1.2.1 i.1.2.2) :: S) G nid else none
def wr1 (k t : Nat) (W : List Nat) (nx : Nat) (L S G : List SV) (nid : Nat) : Option (List StA) := do
  let (v, S) ← ppS t S
  let (i, S) ← ppS 0 S
  let (o, S) ← ppS 2 S
  if (tyK o.1.2.1.toNat).1 = k ∧ 0 ≤ i.1.2.1 ∧ i.1.2.2 < ((tyK o.1.2.1.toNat).2 : Int) ∧ sdQ o.1.2.1.toNat i.1.2.1 i.1.2.2 v.1 = true ∧ W.contains (o.1.2.1.toNat * 1000 + 999) = true then one1 nx L S G nid else none
def bs1 (W : List Nat) (nx : Nat) (L S G : List SV) (nid : Nat) : Option (List StA) := do
  let (v, S) ← ppS 0 S
  let (i, S) ← ppS 0 S
  let (o, S) ← ppS 2 S
  if 0 ≤ i.1.2.1 ∧ i.1.2.2 < ((tyK o.1.2.1.toNat).2 : Int) ∧ W.contains (o.1.2.1.toNat * 1000 + 999) = true ∧ (((tyK o.1.2.1.toNat).1 = 102 ∧ sdQ o.1.2.1.toNat i.1.2.1 i.1.2.2 (0, -128, 127) = true) ∨ ((tyK o.1.2.1.toNat).1 = 103 ∧ 0 ≤ v.1.2.1 ∧ v.1.2.2 ≤ 1 ∧ sdQ o.1.2.1.toNat i.1.2.1 i.1.2.2 v.1 = true)) then one1 nx L S G nid else none
def tsw (pc : Nat) (L S G : List SV) (nid : Nat) : List Int → Option (List StA)
  | [] => some []
  | off :: l => if 0 ≤ (pc : Int) + off then (match tsw pc L S G nid l with
    | some r => some ((((pc : Int) + off).toNat, L, S, G, nid) :: r)
    | none => none) else none
def ts1 (pc : Nat) (d lo hi : Int) (offs : Array Int) (L S G : List SV) (nid : Nat) : Option (List StA) := do
  let (x, S) ← ppS 0 S
  if x.1.2.1 = x.1.2.2 then (if x.1.2.1 < lo ∨ hi < x.1.2.1 then tsw pc L S G nid [d] else (match offs[(x.1.2.1 - lo).toNat]? with
    | some off => tsw pc L S G nid [off]
    | none => none))
  else if hi - lo < (offs.toList.length : Int) then tsw pc L S G nid (d :: offs.toList) else none
/-- one instruction that is no call of an own method and no return: where it may go -/
def stA1 (W : List Nat) (pc : Nat) (r : Row) (L S G : List SV) (nid : Nat) : Option (List StA) :=
  match r with
  | (ins, nx, a, b, cw, _) =>
    match ins with
    | .iconst _ => one1 nx L (sv0 (0, a, a) :: S) G nid
    | .bipush _ => one1 nx L (sv0 (0, a, a) :: S) G nid
    | .sipush _ => one1 nx L (sv0 (0, a, a) :: S) G nid
    | .lconst _ => one1 nx L (sv0 (1, a, a) :: S) G nid
    | .ldc _ => if b = 0 then one1 nx L (sv0 (0, a, a) :: S) G nid else if 1000000 ≤ a then one1 nx L (sv0 (3, a - 1000000, 0) :: S) G nid else none
    | .ldc_w _ => if b = 0 then one1 nx L (sv0 (0, a, a) :: S) G nid else none
    | .ldc2_w _ => one1 nx L (sv0 (1, a, a) :: S) G nid
    | .iload i => ld1 0 i nx L S G nid
    | .iload_n i => ld1 0 i.val nx L S G nid
    | .lload i => ld1 1 i nx L S G nid
    | .lload_n i => ld1 1 i.val nx L S G nid
    | .aload i => (match L[i]? with
      | some v => if v.1.1 = 3 then one1 nx L (v :: S) G nid else ld1 2 i nx L S G nid
      | none => none)
    | .aload_n i => (match L[i.val]? with
      | some v => if v.1.1 = 3 then one1 nx L (v :: S) G nid else ld1 2 i.val nx L S G nid
      | none => none)
    | .istore i => str1 0 i nx L S G nid
    | .istore_n i => str1 0 i.val nx L S G nid
    | .lstore i => str2 i nx L S G nid
    | .lstore_n i => str2 i.val nx L S G nid
    | .astore i => str1 2 i nx L S G nid
    | .astore_n i => str1 2 i.val nx L S G nid
    | .iinc i n => (match glS L 0 i with
      | some x => if i < L.length then one1 nx (st1S L i (addS x (sv0 (0, n, n)))) S G nid else none
      | none => none)
    | .iadd => bin2 0 addS nx L S G nid
    | .isub => bin2 0 subS nx L S G nid
    | .imul => bin2 0 mulS nx L S G nid
    | .idiv => (match S with
      | y :: x :: S' => if y.1.1 = 0 ∧ x.1.1 = 0 ∧ 1 ≤ y.1.2.1 ∧ y.1.2.1 = y.1.2.2 then one1 nx L (sv0 (if 0 ≤ x.1.2.1 then iv (x.1.2.1 / y.1.2.1) (x.1.2.2 / y.1.2.1) else q32) :: S') G nid else none
      | _ => none)
    | .irem => (match S with
      | y :: x :: S' => if y.1.1 = 0 ∧ x.1.1 = 0 ∧ 1 ≤ y.1.2.1 ∧ y.1.2.1 = y.1.2.2 then one1 nx L (sv0 (0, if 0 ≤ x.1.2.1 then 0 else 1 - y.1.2.1, y.1.2.1 - 1) :: S') G nid else none
      | _ => none)
    | .ineg => un1 0 (fun x => sv0 (iv (-x.1.2.2) (-x.1.2.1))) nx L S G nid
    | .iand => bin2 0 (fun _ _ => sv0 q32) nx L S G nid
    | .ior => bin2 0 (fun _ _ => sv0 q32) nx L S G nid
    | .ixor => bin2 0 (fun _ _ => sv0 q32) nx L S G nid
    | .ishl => bin2 0 (fun _ _ => sv0 q32) nx L S G nid
    | .ishr => bin2 0 (fun _ _ => sv0 q32) nx L S G nid
    | .ladd => bin2 1 (fun _ _ => sv0 q64) nx L S G nid
    | .lsub => bin2 1 (fun _ _ => sv0 q64) nx L S G nid
    | .lmul => bin2 1 (fun _ _ => sv0 q64) nx L S G nid
    | .land => bin2 1 (fun _ _ => sv0 q64) nx L S G nid
    | .lor => bin2 1 (fun _ _ => sv0 q64) nx L S G nid
    | .ldiv => (match S with
      | y :: x :: S' => if y.1.1 = 1 ∧ x.1.1 = 1 ∧ isN y.1 = true then one1 nx L (sv0 q64 :: S') G nid else none
      | _ => none)
    | .lrem => (match S with
      | y :: x :: S' => if y.1.1 = 1 ∧ x.1.1 = 1 ∧ isN y.1 = true ∧ leQ x.1 q64 = true then one1 nx L (sv0 q64 :: S') G nid else none
      | _ => none)
    | .lshl => (match S with
      | y :: x :: S' => if y.1.1 = 0 ∧ x.1.1 = 1 then one1 nx L (sv0 q64 :: S') G nid else none
      | _ => none)
    | .lshr => (match S with
      | y :: x :: S' => if y.1.1 = 0 ∧ x.1.1 = 1 then one1 nx L (sv0 q64 :: S') G nid else none
      | _ => none)
    | .lcmp => bin2 1 (fun x y => sv0 (0, if y.1.2.2 < x.1.2.1 then 1 else if y.1.2.2 ≤ x.1.2.1 then 0 else -1, if x.1.2.2 < y.1.2.1 then -1 else if x.1.2.2 ≤ y.1.2.1 then 0 else 1)) nx L S G nid
    | .i2l => un1 0 (fun x => ((1, x.1.2), 0, 0)) nx L S G nid
    | .l2i => un1 1 (fun x => sv0 (iv x.1.2.1 x.1.2.2)) nx L S G nid
    | .i2b => un1 0 (fun _ => sv0 (0, -128, 127)) nx L S G nid
    | .i2s => un1 0 (fun _ => sv0 (0, -32768, 32767)) nx L S G nid
    | .goto _ => one1 a.toNat L S G nid
    | .ifCond cn _ => (match S with
      | x :: S' => if x.1.1 = 0 then some (brS cn x (sv0 (0, 0, 0)) a.toNat nx L S' G nid) else none
      | _ => none)
    | .if_icmp cn _ => (match S with
      | y :: x :: S' => if y.1.1 = 0 ∧ x.1.1 = 0 then some (brS cn x y a.toNat nx L S' G nid) else none
      | _ => none)
    | .tableswitch d lo hi offs => ts1 pc d lo hi offs L S G nid
    | .dup => (match S with
      | v :: S' => if v.1.1 = 1 ∨ 3 < v.1.1 then none else one1 nx L (v :: v :: S') G nid
      | [] => none)
    | .dup2 => (match S with
      | v :: w :: S' => if v.1.1 = 1 ∨ w.1.1 = 1 ∨ 3 < v.1.1 ∨ 3 < w.1.1 then none else one1 nx L (v :: w :: v :: w :: S') G nid
      | _ => none)
    | .pop => (match S with
      | v :: S' => if v.1.1 = 0 ∨ v.1.1 = 2 then one1 nx L S' G nid else none
      | [] => none)
    | .pop2 => (match S with
      | v :: S' => if v.1.1 = 1 then one1 nx L S' G nid else none
      | [] => none)
    | .getfield _ => gf1 nx a b cw L S G nid
    | .putfield _ => pf1 W nx a b cw L S G nid
    | .arraylength => al1 nx L S G nid
    | .iaload => rd1 100 100 0 nx L S G nid
    | .laload => rd1 101 101 1 nx L S G nid
    | .baload => rd1 102 103 0 nx L S G nid
    | .aaload => rd1 104 107 2 nx L S G nid
    | .iastore => wr1 100 0 W nx L S G nid
    | .lastore => wr1 101 1 W nx L S G nid
    | .bastore => bs1 W nx L S G nid
    | .invokestatic _ => if -5 ≤ a ∧ a ≤ -2 then spS W nx a L S G nid else none
    | .invokevirtual _ => if a = -6 ∨ a = -7 then spS W nx a L S G nid else none
    | _ => none
