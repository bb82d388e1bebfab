/-- a method's words -/
def codeAt (w : Nat) (y : MethodName) (ml : Nat) (rt : Option FieldType) : Bool := match (wlk (w / 1000))[w % 1000]? with
  | some (.code y' _ ml' rt') => decide (y' = y) && decide (ml' = ml) && decide (rt' = rt)
  | _ => false
theorem codeAt_in {w : Nat} {y : MethodName} {ml : Nat} {rt : Option FieldType} (h : codeAt w y ml rt = true) : Cond.code y (cwd w) ml rt ∈ lw_tbl := by
  unfold codeAt at h
  unfold cwd
  split at h
  · rename_i y' b ml' rt' e
    simp only [Bool.and_eq_true, decide_eq_true_eq] at h
    obtain ⟨⟨rfl, rfl⟩, rfl⟩ := h
    rw [e]
    exact wlk_in _ _ (List.mem_of_getElem? e)
  · cases h
def mrOk (q : Nat × Nat × Nat × Nat × Nat) (M : MR) : Bool :=
  match M with
  | (y, _, ml, rt, (np, sty, ci, bo), (p1, p2, p3, p4)) =>
    q == (ml, (if sty = 0 then np else np + 1), sty, ci, bo) && codeAt p1 y ml rt && wAt p2 (if sty = 0 then .static y else .instanceMethod y) && (if sty = 1 then wAt p3 (.selects y.cls y y) else true) && wAt p4 (.initialized y.cls)
      && decide (y.cls ≠ "java/lang/invoke/MethodHandle") && decide (y.cls ≠ "java/lang/invoke/VarHandle") && decide ((parseMethodDescriptor y.desc).map (fun d => d.parameters.length) = some np) && plainName y.cls && decide (ml ≤ 40)
      && (if sty = 2 then decide (y.name = "<init>") else true) && (match rt with
        | none => bo == 0
        | some .int => bo == 0
        | some .long => bo == 0
        | some .boolean => bo == 1
        | some (.object _) => bo == 0
        | _ => false) && (if sty = 1 then (match clF[ci]? with
        | some C => decide (C.1 = y.cls)
        | none => false) else true)
def mrA : List (Nat × Nat × Nat × Nat × Nat) → List MR → Bool
  | q :: qs, M :: Ms => mrOk q M && mrA qs Ms
  | _, _ => true
set_option maxRecDepth 100000 in
set_option maxHeartbeats 0 in
theorem mr_all : mrA (mins.take 316) mtab = true := by decide +kernel
/-- the classes' words -/
def clOk (C : String × Nat × Nat × List CF) : Bool :=
  wAt C.2.1 (.instantiable C.1 C.2.2.2.length) && wAt C.2.2.1 (.initialized C.1) && C.2.2.2.all (fun f => wAt f.2.2.2.2 (if f.2.2.1 = true then .laysFinal C.1 C.1 f.1 f.2.1 else .lays C.1 C.1 f.1 f.2.1) && (match parseFieldDescriptor f.2.1 with
    | some .int => f.2.2.2.1 == 0
    | some .long => f.2.2.2.1 == 1
    | some .boolean => f.2.2.2.1 == 3
    | some (.object _) => f.2.2.2.1 == 2
    | some (.array _) => f.2.2.2.1 == 2
    | _ => false)) && decide ((C.2.2.2.map (fun f => f.1)).Nodup)
set_option maxRecDepth 100000 in
set_option maxHeartbeats 0 in
theorem cl_all : clF.all clOk = true := by decide +kernel
