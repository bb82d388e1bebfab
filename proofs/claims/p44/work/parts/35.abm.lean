/-! a method by its certificate -/
/-- an annotation: place, locals, stack, and its measure: base and a factor a local -/
abbrev AnA : Type := Nat × List Q × List Q × Int × List Int
/-- a certificate: annotations (the first at 0), the contracts of its calls by place -/
abbrev Cer : Type := List AnA × List (Nat × Nat)
def fdA (an : List AnA) (pc : Nat) : Option AnA := an.find? (fun A => A.1 == pc)
def fdC (cl : List (Nat × Nat)) (pc : Nat) : Option Nat := (cl.find? (fun A => A.1 == pc)).map (fun A => A.2)
def leL : List SV → List Q → Bool
  | [], [] => true
  | x :: xs, y :: ys => leQ x.1 y && leL xs ys
  | _, _ => false
def ubm (c : Int) (q : Q) : Int := if 0 ≤ c then c * q.2.2 else c * q.2.1
def lbm (c : Int) (q : Q) : Int := if 0 ≤ c then c * q.2.1 else c * q.2.2
/-- how much the measure grows at most -/
def dif : List Int → List Int → List SV → List SV → Int
  | c' :: cs', c :: cs, l :: L, g :: G => (if c' = c ∧ l.2.1 = g.2.1 ∧ ¬ l.2.1 = 0 then c * (l.2.2 - g.2.2) else ubm c' l.1 - lbm c g.1) + dif cs' cs L G
  | _, _, _, _ => 0
/-- factors speak of numbers alone -/
def cfk : List Int → List SV → Bool
  | [], [] => true
  | c :: cs, l :: L => (decide (c = 0) || decide (l.1.1 = 0) || decide (l.1.1 = 1)) && cfk cs L
  | _, _ => false
/-- how many places the arguments take at most -/
def layN (L : List SV) : Nat := (L.map (fun v => if v.1.1 = 1 ∨ 3 < v.1.1 then 2 else 1)).sum
def entA (A : AnA) (b0 : Int) (cs0 : List Int) (L S G : List SV) : Bool := (L.length == G.length) && leL L A.2.1 && leL S A.2.2.1 && cfk A.2.2.2.2 L && cfk cs0 G && decide (A.2.2.2.1 - b0 + dif A.2.2.2.2 cs0 L G < 0)
def rtS (j : Nat) (i : Instr) (S : List SV) (ret : Q) : Bool := match i with
  | .ireturn => (match S with
    | [v] => decide (v.1.1 = 0) && decide (ret.1 = 0) && leQ v.1 ret && (decide (mB j = 1) || (decide (mB j = 3) && decide (0 ≤ v.1.2.1) && decide (v.1.2.2 ≤ 1)))
    | _ => false)
  | .lreturn => (match S with
    | [v] => decide (v.1.1 = 1) && decide (ret.1 = 1) && leQ v.1 ret && decide (mB j = 2)
    | _ => false)
  | .areturn => (match S with
    | [v] => decide (v.1.1 = 2) && decide (ret.1 = 2) && leQ v.1 ret && decide (mB j = 4)
    | _ => false)
  | .return_ => (match S with
    | [] => decide (ret.1 = 9) && decide (mB j = 0)
    | _ => false)
  | _ => false
def rcS (k : Nat) (As : List SV) : Bool := if mS k = 1 then (match As with
  | v :: _ => decide (v.1.1 = 2) && decide ((tyK v.1.2.1.toNat).1 = mK k) && decide ((tyK v.1.2.1.toNat).1 < 100)
  | [] => false) else decide (mS k = 0)
def seg (Z : Nat → Bool) (C : List Con) (j : Nat) (W : List Nat) (ret : Q) (dep idx : Nat) (an : List AnA) (cl : List (Nat × Nat)) (b0 : Int) (cs0 : List Int) : Nat → Nat → List SV → List SV → List SV → Nat → Bool
  | 0, _, _, _, _, _ => false
  | n + 1, pc, L, S, G, nid =>
    match row j pc with
    | none => false
    | some r =>
      if isRet r.1 then rtS j r.1 S ret
      else if isCall r.1 && decide (0 ≤ r.2.2.1) then
        (match fdC cl pc with
        | none => false
        | some k => (match C[k]? with
          | none => false
          | some c => Nat.blt k idx && !Z k && (c.1 == r.2.2.1.toNat) && Nat.blt c.2.2.2.2 dep && c.2.2.2.1.all (fun x => W.contains x) && Nat.ble (mA c.1) S.length && Nat.ble (csumS (S.drop (mA c.1))) 8 && Nat.ble (layN (S.take (mA c.1)).reverse) (mL c.1) && rcS c.1 (S.take (mA c.1)).reverse && styOk r.1 c.1 && leL (S.take (mA c.1)).reverse c.2.1
            && (match fdA an r.2.1 with
              | some A => entA A b0 cs0 L (if c.2.2.1.1 = 9 then S.drop (mA c.1) else sv0 c.2.2.1 :: S.drop (mA c.1)) G
              | none => seg Z C j W ret dep idx an cl b0 cs0 n r.2.1 L (if c.2.2.1.1 = 9 then S.drop (mA c.1) else sv0 c.2.2.1 :: S.drop (mA c.1)) G nid)))
      else (match stA1 W pc r L S G nid with
        | none => false
        | some ss => ss.all (fun s => match fdA an s.1 with
          | some A => entA A b0 cs0 s.2.1 s.2.2.1 s.2.2.2.1
          | none => seg Z C j W ret dep idx an cl b0 cs0 n s.1 s.2.1 s.2.2.1 s.2.2.2.1 s.2.2.2.2))
/-- the locals of an annotation, each number with its symbol -/
def iniL : List Q → Nat → List SV
  | [], _ => []
  | q :: l, i => (if q.1 = 0 ∨ q.1 = 1 then (q, i, 0) else sv0 q) :: iniL l (i + 1)
def lbr : List Int → List SV → Int
  | c :: cs, l :: L => lbm c l.1 + lbr cs L
  | _, _ => 0
def okA1 (Z : Nat → Bool) (C : List Con) (j : Nat) (W : List Nat) (ret : Q) (dep idx : Nat) (an : List AnA) (cl : List (Nat × Nat)) (A : AnA) : Bool :=
  cfk A.2.2.2.2 (iniL A.2.1 1) && decide (0 ≤ A.2.2.2.1 + lbr A.2.2.2.2 (iniL A.2.1 1)) && seg Z C j W ret dep idx an cl A.2.2.2.1 A.2.2.2.2 600 A.1 (iniL A.2.1 1) (A.2.2.1.map sv0) (iniL A.2.1 1) (A.2.1.length + 1)
def okC (Z : Nat → Bool) (C : List Con) (idx : Nat) (e : Cer) : Bool := match C[idx]? with
  | none => false
  | some c => (match fdA e.1 0 with
    | some A => leL (laypS (c.2.1.map sv0) (mL c.1)) A.2.1 && A.2.2.1.isEmpty && c.2.1.all (fun q => Nat.ble q.1 3)
    | none => false) && e.1.all (fun A => okA1 Z C c.1 c.2.2.2.1 c.2.2.1 c.2.2.2.2 idx e.1 e.2 A)
