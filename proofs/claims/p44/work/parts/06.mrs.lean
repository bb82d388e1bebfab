/-- a method's words -/
def codeAt (w : Nat) (y : MethodName) (ml : Nat) (rt : Option FieldType) : Bool := match (wlk (w / 1000))[w % 1000]? with
  | some (.code y' _ ml' rt') => decide (y' = y) && decide (ml' = ml) && decide (rt' = rt)
  | _ => false
theorem codeAt_in {w : Nat} {y : MethodName} {ml : Nat} {rt : Option FieldType} (h : codeAt w y ml rt = true) : Cond.code y (cwd w) ml rt ∈ lw_tbl := by
  unfold codeAt at h
  unfold cwd
  split at h
  · rename_i y' b ml' rt' e
    simp only [Bool.and_eq_true, decide_eq_true_eq] at h
    obtain ⟨⟨rfl, rfl⟩, rfl⟩ := h
    rw [e]
    exact wlk_in _ _ (List.mem_of_getElem? e)
  · cases h
def mrOk (q : Nat × Nat × Nat × Nat × Nat) (M : MR) : Bool :=
  match M with
  | (y, _, ml, rt, (np, sty, ci, bo), (p1, p2, p3, p4)) =>
    q == (ml, (if sty = 0 then np else np + 1), sty, ci, bo) && codeAt p1 y ml rt && wAt p2 (if sty = 0 then .static y else .instanceMethod y) && (if sty = 1 then wAt p3 (.selects y.cls y y) else true) && wAt p4 (.initialized y.cls)
      && decide (y.cls ≠ "java/lang/invoke/MethodHandle") && decide (y.cls ≠ "java/lang/invoke/VarHandle") && decide ((parseMethodDescriptor y.desc).map (fun d => d.parameters.length) = some np) && plainName y.cls && decide (ml ≤ 40)
      && (if sty = 2 then decide (y.name = "<init>") && decide (rt = none) else true) && (match rt with
        | none => bo == 0
        | some .int => bo == 1
        | some .long => bo == 2
        | some .boolean => bo == 3
        | some (.object _) => bo == 4
        | _ => false) && (if sty = 1 then (match clF[ci]? with
        | some C => decide (C.1 = y.cls)
        | none => false) else true)
def mrA : List (Nat × Nat × Nat × Nat × Nat) → List MR → Bool
  | q :: qs, M :: Ms => mrOk q M && mrA qs Ms
  | _, _ => true
set_option maxRecDepth 100000 in
set_option maxHeartbeats 0 in
theorem mr_all : mrA (mins.take 316) mtab = true := by decide +kernel
/-- the classes' words -/
def clOk (C : String × Nat × Nat × List CF) : Bool :=
  wAt C.2.1 (.instantiable C.1 C.2.2.2.length) && wAt C.2.2.1 (.initialized C.1) && C.2.2.2.all (fun f => wAt f.2.2.2.2 (if f.2.2.1 = true then .laysFinal C.1 C.1 f.1 f.2.1 else .lays C.1 C.1 f.1 f.2.1) && (match parseFieldDescriptor f.2.1 with
    | some .int => f.2.2.2.1 == 0
    | some .long => f.2.2.2.1 == 1
    | some .boolean => f.2.2.2.1 == 3
    | some (.object _) => f.2.2.2.1 == 2
    | some (.array _) => f.2.2.2.1 == 2
    | _ => false)) && decide ((C.2.2.2.map (fun f => f.1)).Nodup)
set_option maxRecDepth 100000 in
set_option maxHeartbeats 0 in
theorem cl_all : clF.all clOk = true := by decide +kernel
/-- words of the JDK's own methods -/
def spOk : Bool := match spW with
  | [w0, w1, w2, w3, w4, w5, w6, w7, w8, w9, w10, w11, w12, w13, w14, w15, w16, w17, w18, w19] =>
    wAt w0 (.arrayClass .int) && wAt w1 (.arrayClass .long) && wAt w2 (.arrayClass .byte) && wAt w3 (.arrayClass .boolean)
    && wAt w4 (.arrayOver (.object (ecn 104))) && wAt w5 (.arrayOver (.object (ecn 105))) && wAt w6 (.arrayOver (.object (ecn 106))) && wAt w7 (.arrayOver (.object (ecn 107)))
    && wAt w8 (.instanceMethod Lib.objectInit) && wAt w9 (.code Lib.objectInit ⟨#[0xb1]⟩ 1 none)
    && wAt w10 (.native arraycopyName) && wAt w11 (.static arraycopyName) && wAt w12 (.initialized "java/lang/System")
    && wAt w13 (.static Lib.Math.max.name) && wAt w14 (.code Lib.Math.max.name Lib.Math.max.code 2 (some .int))
    && wAt w15 (.static Lib.Math.min.name) && wAt w16 (.code Lib.Math.min.name Lib.Math.min.code 2 (some .int))
    && wAt w17 (.static Lib.MathLoose.max_long.x) && wAt w18 (.code Lib.MathLoose.max_long.x Lib.MathLoose.max_long.code 4 (some .long)) && wAt w19 (.initialized "java/lang/Math")
    && decide (spY (-1) = Lib.objectInit) && decide (spY (-2) = arraycopyName) && decide (spY (-3) = Lib.Math.max.name) && decide (spY (-4) = Lib.Math.min.name) && decide (spY (-5) = Lib.MathLoose.max_long.x)
    && goodWord (.native arraycopyName) && decide (nativeFrameWords "java/lang/System" "arraycopy" 5 ≤ 60)
  | _ => false
set_option maxRecDepth 100000 in
set_option maxHeartbeats 0 in
theorem sp_all : spOk = true := by decide +kernel
