/-! one instruction of the abstract machine is one of the machine -/
def lwG : List Jvm.Cond := lw_tbl.filter goodWord
theorem lwG_in {w : Jvm.Cond} (h : w ∈ lw_tbl) (hg : goodWord w = true) : w ∈ lwG := List.mem_filter.mpr ⟨h, hg⟩
/-- what holds of the machine's tables in every state -/
def EN (G : GG) (U : State) : Prop :=
  va_K G.2.2.2.1 cls (tys G) U ∧ (∀ k, 104 ≤ k → k < 108 → va_AO (ecn k) U) ∧
  (∀ own i rf n d h, Cond.fieldLinkNest own i rf n d h ∈ lw_tbl → va_Nw (.fieldLinkNest own i rf n d h) U) ∧
  (∀ own i y h, Cond.methodLinkNest own i y h ∈ lw_tbl → va_Nw (.methodLinkNest own i y h) U) ∧
  (∀ own i t k, Cond.stringRef own i t ∈ lw_tbl → strF[k]? = some t → vk_R own i t (G.2.2.1 k) U)
theorem EN.warm {G : GG} {s U : State} (hW : s.WarmedH U.vm) (h : EN G s) : EN G U :=
  ⟨va_K.moved hW.alike h.1, fun k h1 h2 => va_AO.moved hW.alike (h.2.1 k h1 h2), fun own i rf n d q hq => va_Nw.warmF hW (h.2.2.1 own i rf n d q hq), fun own i y q hq => va_Nw.warmM hW (h.2.2.2.1 own i y q hq), fun own i t k h1 h2 => vk_R.warm hW (h.2.2.2.2 own i t k h1 h2)⟩
theorem EN.same {G : GG} {s U : State} (hv : U.vm = s.vm) (h : EN G s) : EN G U :=
  have ha : s.vm.Alike U.vm := by rw [hv]; exact Vm.Alike.refl _
  ⟨va_K.moved ha h.1, fun k h1 h2 => va_AO.moved ha (h.2.1 k h1 h2), fun own i rf n d q hq => va_Nw.same rfl hv.symm (h.2.2.1 own i rf n d q hq), fun own i y q hq => va_Nw.same rfl hv.symm (h.2.2.2.1 own i y q hq), fun own i t k h1 h2 => vk_R.same hv (h.2.2.2.2 own i t k h1 h2)⟩
/-- the strings' cells and the JDK's statics -/
def lenS : List Nat := strF.map String.length
def bytS : List (List Int32) := strF.map (fun t => t.toList.map (fun c => Int32.ofNat c.toNat))
def AZ (G : GG) : Nat → Prop := fun q => G.1 ≤ q
def sK (ad adV : Nat → Nat) (A : Nat → Prop) (U : State) (H : Heap) : Prop :=
  ∀ i : Nat, i < 15 → va_O "java/lang/String" (ad i) A U H ∧ va_OF "java/lang/String" "coder" "B" (.int 0) (ad i) A U H ∧ va_OF "java/lang/String" "value" "[B" (.ref (adV i)) (ad i) A U H ∧ va_T .byte (adV i) (lenS.getD i 0) (fun j => .int ((bytS.getD i []).getD j 0)) A U H
theorem sK.moved {ad adV : Nat → Nat} {A : Nat → Prop} {u U : State} {H : Heap} (hvm : u.vm.Alike U.vm) (h : sK ad adV A u H) : sK ad adV A U H :=
  fun i hi => ⟨va_O.moved hvm (h i hi).1, va_OF.moved hvm (h i hi).2.1, va_OF.moved hvm (h i hi).2.2.1, va_T.moved hvm (h i hi).2.2.2⟩
theorem sK.kept {ad adV : Nat → Nat} {A : Nat → Prop} {U : State} {H H1 : Heap} (h : sK ad adV A U H) (hq : ∀ a : Nat, a < H.size → ¬ A a → H1[a]? = H[a]?) : sK ad adV A U H1 :=
  fun i hi => ⟨(h i hi).1.kept hq, (h i hi).2.1.kept hq, (h i hi).2.2.1.kept hq, (h i hi).2.2.2.kept hq⟩
theorem sK_recv {ad adV : Nat → Nat} {A : Nat → Prop} {s : State} {H : Heap} {locs : List Loc} {i : Nat} (hE : sK ad adV A s s.heap) (hi : i < 15) (hS : va_S A s.heap H locs) : ∃ cell : Cell, H[ad i]? = some cell ∧ cell.vm.isStatics = false ∧ s.vm.findClass "java/lang/String" = some cell.cls := by
  obtain ⟨cell, h1, h2, h3, -⟩ := (hE i hi).1.kept hS.2.1
  exact ⟨cell, h1, h2, h3⟩
def SO (G : GG) (U : State) (H : Heap) : Prop :=
  (∃ adV : Nat → Nat, sK G.2.2.1 adV (AZ G) U H) ∧ va_Z "java/lang/String" "COMPACT_STRINGS" "Z" (.int 1) (AZ G) U H ∧ va_Zq "jdk/internal/util/Preconditions" "SIOOBE_FORMATTER" "Ljava/util/function/BiFunction;" (AZ G) U H
theorem SO.moved {G : GG} {u U : State} {H : Heap} (hvm : u.vm.Alike U.vm) (h : SO G u H) : SO G U H := by
  obtain ⟨⟨adV, h1⟩, h2, h3⟩ := h
  exact ⟨⟨adV, h1.moved hvm⟩, h2.moved hvm, h3.moved hvm⟩
theorem SO.kept {G : GG} {U : State} {H H1 : Heap} (h : SO G U H) (hq : ∀ a : Nat, a < H.size → ¬ AZ G a → H1[a]? = H[a]?) : SO G U H1 := by
  obtain ⟨⟨adV, h1⟩, h2, h3⟩ := h
  exact ⟨⟨adV, h1.kept hq⟩, h2.kept hq, h3.kept hq⟩
/-- the script is object 0 -/
def XR (G : GG) (sh : List Kd) (m : Mm) (U : State) (H : Heap) : Prop :=
  ∃ (L : Nat) (xs : Nat → Int32), sh[0]? = some (100, L) ∧ va_X G.2.1 L xs U H ∧ (∀ j, j < L → m 0 j = (xs j).toInt) ∧ G.2.1 < G.1 ∧ G.1 ≤ H.size
theorem XR.moved {G : GG} {sh : List Kd} {m : Mm} {u U : State} {H : Heap} (hvm : u.vm.Alike U.vm) (h : XR G sh m u H) : XR G sh m U H := by
  obtain ⟨L, xs, h1, h2, h3⟩ := h
  exact ⟨L, xs, h1, h2.moved hvm, h3⟩
theorem XR.kept {G : GG} {sh : List Kd} {m : Mm} {U : State} {H H1 : Heap} (h : XR G sh m U H) (hz : H.size ≤ H1.size) (hq : ∀ a : Nat, a < H.size → ¬ AZ G a → H1[a]? = H[a]?) : XR G sh m U H1 := by
  obtain ⟨L, xs, h1, h2, h3, h4, h5⟩ := h
  exact ⟨L, xs, h1, h2.kept (hq _ (by omega) (by unfold AZ; omega)), h3, h4, by omega⟩
theorem XR.to {G : GG} {sh sh' : List Kd} {m m' : Mm} {U : State} {H : Heap} (h : XR G sh m U H) (h1 : sh'[0]? = sh[0]?) (h2 : ∀ j, m' 0 j = m 0 j) : XR G sh' m' U H := by
  obtain ⟨L, xs, q1, q2, q3, q4⟩ := h
  exact ⟨L, xs, by rw [h1]; exact q1, q2, fun j hj => by rw [h2]; exact q3 j hj, q4⟩
/-- the relation of the worlds inside a method that began at s -/
def HR (G : GG) (sh : List Kd) (m : Mm) (s : State) (H : Heap) (locs : List Loc) : Prop :=
  va_P G.2.2.2.1 cls (wsO G sh m) H ∧ va_S (AZ G) s.heap H locs ∧ 1 ≤ sh.length ∧ okm sh m ∧ XR G sh m s s.heap ∧ sh.length ≤ 1000000
theorem mkT_lay {C : String × Nat × Nat × List CF} {k : Nat} {f : CF} (hf : C.2.2.2[k]? = some f) : u_lay C.1 (mkT C) k = (if f.2.2.1 = true then Cond.laysFinal C.1 C.1 f.1 f.2.1 else Cond.lays C.1 C.1 f.1 f.2.1) := by
  unfold u_lay mkT
  rw [hf]
theorem cl_of {ci : Nat} {C : String × Nat × Nat × List CF} (h : clF[ci]? = some C) : clOk C = true := List.all_eq_true.mp cl_all C (List.mem_of_getElem? h)
theorem cl_hin {ci : Nat} {C : String × Nat × Nat × List CF} (h : clF[ci]? = some C) : ∀ w ∈ u_ws C.1 (mkT C) C.2.2.2.length, w ∈ lwG := by
  intro w hw
  have hc := cl_of h
  unfold clOk at hc
  simp only [Bool.and_eq_true] at hc
  unfold u_ws at hw
  obtain ⟨k, hk, rfl⟩ := List.mem_map.mp hw
  rw [List.mem_range] at hk
  have hf : C.2.2.2[k]? = some C.2.2.2[k] := List.getElem?_eq_getElem hk
  rw [mkT_lay hf]
  have h2 := List.all_eq_true.mp hc.1.2 C.2.2.2[k] (List.getElem_mem hk)
  simp only [Bool.and_eq_true] at h2
  have h3 := wAt_in h2.1
  refine lwG_in h3 ?_
  split <;> rfl
theorem cls_at {ci : Nat} {C : String × Nat × Nat × List CF} (h : clF[ci]? = some C) : cls[ci]? = some (C.1, mkT C, C.2.2.2.length) := by
  unfold cls
  rw [List.getElem?_map, h]; rfl
theorem mkT_at {C : String × Nat × Nat × List CF} {k : Nat} {f : CF} (hf : C.2.2.2[k]? = some f) : mkT C k = (C.1, f.1, f.2.1, f.2.2.1) := by
  unfold mkT
  rw [hf]
theorem fty_at {ci k : Nat} {C : String × Nat × Nat × List CF} {f : CF} (h : clF[ci]? = some C) (hf : C.2.2.2[k]? = some f) : fty ci k = f.2.2.2.1 := by
  unfold fty
  rw [h]
  dsimp only
  rw [hf]
/-- a field's type -/
def fT (C : String × Nat × Nat × List CF) (k : Nat) : FieldType := (parseFieldDescriptor (mkT C k).2.2.1).getD .int
theorem cl_hty {ci : Nat} {C : String × Nat × Nat × List CF} (h : clF[ci]? = some C) : ∀ k, k < C.2.2.2.length → parseFieldDescriptor (mkT C k).2.2.1 = some (fT C k) := by
  intro k hk
  have hc := cl_of h
  unfold clOk at hc
  simp only [Bool.and_eq_true] at hc
  have hf : C.2.2.2[k]? = some C.2.2.2[k] := List.getElem?_eq_getElem hk
  have h2 := List.all_eq_true.mp hc.1.2 C.2.2.2[k] (List.getElem_mem hk)
  simp only [Bool.and_eq_true] at h2
  unfold fT
  rw [mkT_at hf]
  dsimp only
  cases hp : parseFieldDescriptor C.2.2.2[k].2.1 with
  | none => rw [hp] at h2; simp at h2
  | some t => rfl
theorem cl_hnm {ci : Nat} {C : String × Nat × Nat × List CF} (h : clF[ci]? = some C) : ∀ a, a < C.2.2.2.length → ∀ b, b < C.2.2.2.length → a ≠ b → (mkT C a).2.1 ≠ (mkT C b).2.1 := by
  intro a ha b hb hab he
  have hc := cl_of h
  unfold clOk at hc
  simp only [Bool.and_eq_true, decide_eq_true_eq] at hc
  have hfa : C.2.2.2[a]? = some C.2.2.2[a] := List.getElem?_eq_getElem ha
  have hfb : C.2.2.2[b]? = some C.2.2.2[b] := List.getElem?_eq_getElem hb
  rw [mkT_at hfa, mkT_at hfb] at he
  dsimp only at he
  refine hab ((List.getElem_inj (h₀ := by simpa using ha) (h₁ := by simpa using hb) hc.2).mp ?_)
  rw [List.getElem_map, List.getElem_map]
  exact he
/-- the code of a type, and the type -/
theorem cl_code {ci k : Nat} {C : String × Nat × Nat × List CF} (h : clF[ci]? = some C) (hk : k < C.2.2.2.length) :
    (fty ci k = 0 ∧ fT C k = .int) ∨ (fty ci k = 1 ∧ fT C k = .long) ∨ (fty ci k = 3 ∧ fT C k = .boolean) ∨ (fty ci k = 2 ∧ ((∃ n, fT C k = .object n) ∨ ∃ t, fT C k = .array t)) := by
  have hc := cl_of h
  unfold clOk at hc
  simp only [Bool.and_eq_true] at hc
  have hf : C.2.2.2[k]? = some C.2.2.2[k] := List.getElem?_eq_getElem hk
  have h2 := List.all_eq_true.mp hc.1.2 C.2.2.2[k] (List.getElem_mem hk)
  simp only [Bool.and_eq_true] at h2
  rw [fty_at h hf]
  unfold fT
  rw [mkT_at hf]
  dsimp only
  have h3 := h2.2
  cases hp : parseFieldDescriptor C.2.2.2[k].2.1 with
  | none => rw [hp] at h3; simp at h3
  | some t =>
    rw [hp] at h3
    cases t <;> simp at h3 <;> simp [h3]
theorem tys_at (G : GG) : (tys G)[0]? = some (G.2.2.2.2 0, .int) ∧ (tys G)[1]? = some (G.2.2.2.2 1, .long) ∧ (tys G)[2]? = some (G.2.2.2.2 2, .byte) ∧ (tys G)[3]? = some (G.2.2.2.2 3, .boolean) ∧ (∀ k, 104 ≤ k → k < 108 → (tys G)[k - 100]? = some (G.2.2.2.2 (k - 100), .object (ecn k))) := by
  refine ⟨rfl, rfl, rfl, rfl, fun k h1 h2 => ?_⟩
  rcases (show k = 104 ∨ k = 105 ∨ k = 106 ∨ k = 107 by omega) with rfl | rfl | rfl | rfl <;> rfl
def CX (p : Program) (s : State) (m : MethodId) (args : Array Value) (meth : Method) (c : Code) (M : MR) : Prop :=
  p.tables.exec = Jvm.exec ∧ c.code = M.2.1 ∧ c.maxLocals = M.2.2.1 ∧ s.vm.findClass M.1.cls = some m.cls ∧ (∀ w ∈ lwG, w.before args s = true) ∧ (M.1.name = "<init>" → meth.name = M.1.name)
section ST
variable {p : Program} {l : Launch} {e : Env} {R : Room} {s : State} {m : MethodId} {args : Array Value} {below : List Frame} {meth : Method} {c : Code} {H : Heap} {locs : List Loc} {cells slots : Nat} {Q : State → Prop}
variable {G : GG} {M : MR} {pc nx b cw w : Nat} {a : Int} {L S : List AV} {sh : List Kd} {mm : Mm} {ls : Array Slot} {q : St5} {k0 s0 : Nat}
/-- the goal ahead of an instruction, out of the goals behind it -/
abbrev KK (p : Program) (l : Launch) (e : Env) (R : Room) (s : State) (m : MethodId) (args : Array Value) (below : List Frame) (meth : Method) (c : Code) (Q : State → Prop) (G : GG) (M : MR) (k0 s0 : Nat) (q : St5) : Prop :=
  ∀ (ls : Array Slot) (H : Heap) (locs : List Loc) (cells slots : Nat), LvOk G ls M.2.2.1 q.2.1 → okS q.2.1 → okS q.2.2.1 → HR G q.2.2.2.1 q.2.2.2.2 s H locs → cells + k0 = q.2.2.2.1.length → slots + s0 = tot q.2.2.2.1 →
    W p l e R s m args below meth c H locs cells slots Q (F0 m q.1 ls (q.2.2.1.map (tv G)))
abbrev RM (R : Room) (k0 s0 : Nat) (q : St5) : Prop := 4 ≤ R.frames ∧ 200 ≤ R.locals ∧ q.2.2.2.1.length ≤ R.cells + k0 ∧ tot q.2.2.2.1 ≤ R.slots + s0
abbrev SG (p : Program) (l : Launch) (e : Env) (R : Room) (s : State) (m : MethodId) (args : Array Value) (below : List Frame) (meth : Method) (c : Code) (H : Heap) (locs : List Loc) (cells slots : Nat) (Q : State → Prop) (G : GG) (M : MR) (pc : Nat) (r : Row) (L S : List AV) (sh : List Kd) (mm : Mm) (ls : Array Slot) (q : St5) (k0 s0 : Nat) : Prop :=
  CX p s m args meth c M → EN G s → SO G s s.heap → rowOk M.1.cls (decide (M.1.name = "<init>")) M.2.1 pc (M.2.1.data.toList.drop pc) r = true → stp pc r L S sh mm = some q → LvOk G ls M.2.2.1 L → okS L → okS S → HR G sh mm s H locs → cells + k0 = sh.length → slots + s0 = tot sh → RM R k0 s0 q →
  KK p l e R s m args below meth c Q G M k0 s0 q → W p l e R s m args below meth c H locs cells slots Q (F0 m pc ls (S.map (tv G)))
theorem row_dg {cc : ByteArray} {own : String} {ini : Bool} {pc n : Nat} {r : Row} (h : rowOk own ini cc pc (cc.data.toList.drop pc) r = true) (h1 : ilen r.1 = n + 1) : decode cc pc = .ok (r.1, n + 1) ∧ r.2.1 = pc + (n + 1) ∧ rowL own ini pc r = true := by
  unfold rowOk at h
  simp only [Bool.and_eq_true, decide_eq_true_eq] at h
  have h2 := fdc_len h.1.1 (by rw [h1]; omega)
  have h3 := fdc_ok h.1.1 rfl
  rw [h2, h1] at h3
  exact ⟨h3, by omega, h.2⟩

theorem il_lconst : ∀ n : Fin 2, ilen (.lconst n) = 0 + 1 := by decide
theorem il_iload_n : ∀ n : Fin 4, ilen (.iload_n n) = 0 + 1 := by decide
theorem il_lload_n : ∀ n : Fin 4, ilen (.lload_n n) = 0 + 1 := by decide
theorem il_aload_n : ∀ n : Fin 4, ilen (.aload_n n) = 0 + 1 := by decide
theorem il_istore_n : ∀ n : Fin 4, ilen (.istore_n n) = 0 + 1 := by decide
theorem il_lstore_n : ∀ n : Fin 4, ilen (.lstore_n n) = 0 + 1 := by decide
theorem il_astore_n : ∀ n : Fin 4, ilen (.astore_n n) = 0 + 1 := by decide
theorem in64_0 : in64 0 := ⟨by decide, by decide⟩
theorem i64_0 : Int64.ofInt 0 = 0 := by decide
theorem lcmp_in (x y : Int) : in32 (if x < y then -1 else if x = y then 0 else 1) := by
  unfold in32
  split
  · omega
  · split <;> omega
theorem lcmp_w {x y : Int} (hx : in64 x) (hy : in64 y) : lg_cmp (Int64.ofInt x) (Int64.ofInt y) = Int32.ofInt (if x < y then -1 else if x = y then 0 else 1) := by
  unfold lg_cmp
  by_cases h1 : y < x
  · rw [if_pos ((i64_lt hy hx).mpr h1), if_neg (by omega), if_neg (by omega)]; decide
  · rw [if_neg (fun z => h1 ((i64_lt hy hx).mp z))]
    by_cases h2 : x = y
    · rw [if_pos ((i64_eq hx hy).mpr h2), if_neg (by omega), if_pos h2]; decide
    · rw [if_neg (fun z => h2 ((i64_eq hx hy).mp z)), if_pos (by omega)]; decide
theorem s_iconst {n : Int} : SG p l e R s m args below meth c H locs cells slots Q G M pc (.iconst n, nx, a, b, cw, w) L S sh mm ls q k0 s0 := by
  intro hC hE hO hr hs hL hLo hSo hH hc1 hc2 hR hk
  obtain ⟨hdg, hnx, hr⟩ := row_dg (n := 0) hr rfl
  change decode M.2.1 pc = .ok (_, 1) at hdg
  change nx = pc + 1 at hnx
  subst hnx
  unfold rowL at hr
  simp only [Bool.and_eq_true, decide_eq_true_eq] at hr
  have hv := hr
  simp only [stp, Option.some.injEq] at hs
  subst hs
  refine lv_iconst (v := Int32.ofInt a) hC.1 hC.2.1 hdg (by rw [hv.1]) ?_
  exact hk _ _ _ _ _ hL hLo (okS_cons (ok_i (by have := hv.2; unfold inR at this; simp only [Bool.and_eq_true, decide_eq_true_eq] at this; exact this)) hSo) hH hc1 hc2
theorem s_bipush {n : Int} : SG p l e R s m args below meth c H locs cells slots Q G M pc (.bipush n, nx, a, b, cw, w) L S sh mm ls q k0 s0 := by
  intro hC hE hO hr hs hL hLo hSo hH hc1 hc2 hR hk
  obtain ⟨hdg, hnx, hr⟩ := row_dg (n := 1) hr rfl
  change decode M.2.1 pc = .ok (_, 2) at hdg
  change nx = pc + 2 at hnx
  subst hnx
  unfold rowL at hr
  simp only [Bool.and_eq_true, decide_eq_true_eq] at hr
  have hv := hr
  simp only [stp, Option.some.injEq] at hs
  subst hs
  refine lv_bipush (v := Int32.ofInt a) hC.1 hC.2.1 hdg (i8_w n hv) ?_
  exact hk _ _ _ _ _ hL hLo (okS_cons (ok_i (i8_in hv)) hSo) hH hc1 hc2
theorem s_sipush {n : Int} : SG p l e R s m args below meth c H locs cells slots Q G M pc (.sipush n, nx, a, b, cw, w) L S sh mm ls q k0 s0 := by
  intro hC hE hO hr hs hL hLo hSo hH hc1 hc2 hR hk
  obtain ⟨hdg, hnx, hr⟩ := row_dg (n := 2) hr rfl
  change decode M.2.1 pc = .ok (_, 3) at hdg
  change nx = pc + 3 at hnx
  subst hnx
  unfold rowL at hr
  simp only [Bool.and_eq_true, decide_eq_true_eq] at hr
  have hv := hr
  simp only [stp, Option.some.injEq] at hs
  subst hs
  refine lv_sipush (v := Int32.ofInt a) hC.1 hC.2.1 hdg (i16_w n hv) ?_
  exact hk _ _ _ _ _ hL hLo (okS_cons (ok_i (i16_in hv)) hSo) hH hc1 hc2
theorem s_lconst {n : Fin 2} : SG p l e R s m args below meth c H locs cells slots Q G M pc (.lconst n, nx, a, b, cw, w) L S sh mm ls q k0 s0 := by
  intro hC hE hO hr hs hL hLo hSo hH hc1 hc2 hR hk
  obtain ⟨hdg, hnx, hr⟩ := row_dg (n := 0) hr (il_lconst n)
  change decode M.2.1 pc = .ok (_, 1) at hdg
  change nx = pc + 1 at hnx
  subst hnx
  unfold rowL at hr
  simp only [Bool.and_eq_true, decide_eq_true_eq] at hr
  have hv := hr
  simp only [stp, Option.some.injEq] at hs
  subst hs
  refine lv_lconst (v := Int64.ofInt a) hC.1 hC.2.1 hdg (by rw [← hv]; exact (Int64.ofInt_eq_ofNat).symm) ?_
  exact hk _ _ _ _ _ hL hLo (okS_cons (ok_l (by rw [← hv]; unfold in64; omega)) hSo) hH hc1 hc2
theorem s_ldc {n : Nat} : SG p l e R s m args below meth c H locs cells slots Q G M pc (.ldc n, nx, a, b, cw, w) L S sh mm ls q k0 s0 := by
  intro hC hE hO hr hs hL hLo hSo hH hc1 hc2 hR hk
  obtain ⟨hdg, hnx, hr⟩ := row_dg (n := 1) hr rfl
  change decode M.2.1 pc = .ok (_, 2) at hdg
  change nx = pc + 2 at hnx
  subst hnx
  unfold rowL at hr
  dsimp only at hr
  have hv := hr
  simp only [stp, Option.some.injEq] at hs
  subst hs
  by_cases hb : b = 0
  · rw [if_pos hb] at hv
    simp only [Bool.and_eq_true] at hv
    have hw := lwG_in (wAt_in hv.2) rfl
    refine lv_ldc hC.1 hC.2.1 hC.2.2.2.1 (hC.2.2.2.2.1 _ hw) hdg ?_
    have ht : tv G (if b = 0 then 0 else 2, a) = .int (Int32.ofInt a) := by rw [if_pos hb]; rfl
    rw [← ht]
    refine hk _ _ _ _ _ hL hLo (okS_cons ?_ hSo) hH hc1 hc2
    rw [if_pos hb]
    exact ok_i (by have := hv.1; unfold inR at this; simp only [Bool.and_eq_true, decide_eq_true_eq] at this; exact this)
  · rw [if_neg hb] at hv
    split at hv
    · rename_i t ht
      simp only [Bool.and_eq_true, decide_eq_true_eq] at hv
      have hz := hE.2.2.2.2 _ _ _ _ (wAt_in hv.2) ht
      refine va_ldcS hC.1 hC.2.1 hC.2.2.2.1 hz hdg ?_
      have h2 : tv G (if b = 0 then 0 else 2, a) = .ref (G.2.2.1 (a.toNat - 1000000)) := by
        rw [if_neg hb]
        show Value.ref (adr G a.toNat) = _
        unfold adr
        rw [if_pos (by omega)]
      rw [← h2]
      refine hk _ _ _ _ _ hL hLo (okS_cons ?_ hSo) hH hc1 hc2
      rw [if_neg hb]
      exact ok_r a
    · cases hv
theorem s_ldc_w {n : Nat} : SG p l e R s m args below meth c H locs cells slots Q G M pc (.ldc_w n, nx, a, b, cw, w) L S sh mm ls q k0 s0 := by
  intro hC hE hO hr hs hL hLo hSo hH hc1 hc2 hR hk
  obtain ⟨hdg, hnx, hr⟩ := row_dg (n := 2) hr rfl
  change decode M.2.1 pc = .ok (_, 3) at hdg
  change nx = pc + 3 at hnx
  subst hnx
  unfold rowL at hr
  dsimp only at hr
  have hv := hr
  by_cases hb : b = 0
  · simp only [stp, if_pos hb, Option.some.injEq] at hs
    subst hs
    rw [if_pos hb] at hv
    simp only [Bool.and_eq_true] at hv
    have hw := lwG_in (wAt_in hv.2) rfl
    refine lv_ldcw hC.1 hC.2.1 hC.2.2.2.1 (hC.2.2.2.2.1 _ hw) hdg ?_
    refine hk _ _ _ _ _ hL hLo (okS_cons ?_ hSo) hH hc1 hc2
    exact ok_i (by have := hv.1; unfold inR at this; simp only [Bool.and_eq_true, decide_eq_true_eq] at this; exact this)
  · simp only [stp, if_neg hb] at hs
    cases hs
theorem s_ldc2_w {n : Nat} : SG p l e R s m args below meth c H locs cells slots Q G M pc (.ldc2_w n, nx, a, b, cw, w) L S sh mm ls q k0 s0 := by
  intro hC hE hO hr hs hL hLo hSo hH hc1 hc2 hR hk
  obtain ⟨hdg, hnx, hr⟩ := row_dg (n := 2) hr rfl
  change decode M.2.1 pc = .ok (_, 3) at hdg
  change nx = pc + 3 at hnx
  subst hnx
  unfold rowL at hr
  dsimp only at hr
  have hv := hr
  simp only [Bool.and_eq_true] at hv
  simp only [stp, Option.some.injEq] at hs
  subst hs
  have hw := lwG_in (wAt_in hv.2) rfl
  refine lv_ldc2 hC.1 hC.2.1 hC.2.2.2.1 (hC.2.2.2.2.1 _ hw) hdg ?_
  exact hk _ _ _ _ _ hL hLo (okS_cons (ok_l (by have := hv.1; unfold inQ at this; simp only [Bool.and_eq_true, decide_eq_true_eq] at this; exact this)) hSo) hH hc1 hc2
theorem s_iload {n : Nat} : SG p l e R s m args below meth c H locs cells slots Q G M pc (.iload n, nx, a, b, cw, w) L S sh mm ls q k0 s0 := by
  intro hC hE hO hr hs hL hLo hSo hH hc1 hc2 hR hk
  obtain ⟨hdg, hnx, hr⟩ := row_dg (n := 1) hr rfl
  change decode M.2.1 pc = .ok (_, 2) at hdg
  change nx = pc + 2 at hnx
  subst hnx
  simp only [stp, Option.bind_eq_bind, Option.bind_eq_some_iff, Prod.exists] at hs
  obtain ⟨x, h1, hs⟩ := hs
  simp only [Option.some.injEq] at hs
  subst hs
  refine lv_iload hC.1 hC.2.1 hdg (lv_read hL h1 (by decide)) ?_
  exact hk _ _ _ _ _ hL hLo (okS_cons (okS_gl hLo h1) hSo) hH hc1 hc2
theorem s_iload_n {n : Fin 4} : SG p l e R s m args below meth c H locs cells slots Q G M pc (.iload_n n, nx, a, b, cw, w) L S sh mm ls q k0 s0 := by
  intro hC hE hO hr hs hL hLo hSo hH hc1 hc2 hR hk
  obtain ⟨hdg, hnx, hr⟩ := row_dg (n := 0) hr (il_iload_n n)
  change decode M.2.1 pc = .ok (_, 1) at hdg
  change nx = pc + 1 at hnx
  subst hnx
  simp only [stp, Option.bind_eq_bind, Option.bind_eq_some_iff, Prod.exists] at hs
  obtain ⟨x, h1, hs⟩ := hs
  simp only [Option.some.injEq] at hs
  subst hs
  refine lv_iload_n hC.1 hC.2.1 hdg rfl (lv_read hL h1 (by decide)) ?_
  exact hk _ _ _ _ _ hL hLo (okS_cons (okS_gl hLo h1) hSo) hH hc1 hc2
theorem s_lload {n : Nat} : SG p l e R s m args below meth c H locs cells slots Q G M pc (.lload n, nx, a, b, cw, w) L S sh mm ls q k0 s0 := by
  intro hC hE hO hr hs hL hLo hSo hH hc1 hc2 hR hk
  obtain ⟨hdg, hnx, hr⟩ := row_dg (n := 1) hr rfl
  change decode M.2.1 pc = .ok (_, 2) at hdg
  change nx = pc + 2 at hnx
  subst hnx
  simp only [stp, Option.bind_eq_bind, Option.bind_eq_some_iff, Prod.exists] at hs
  obtain ⟨x, h1, hs⟩ := hs
  simp only [Option.some.injEq] at hs
  subst hs
  refine lv_lload hC.1 hC.2.1 hdg (lv_read hL h1 (by decide)) ?_
  exact hk _ _ _ _ _ hL hLo (okS_cons (okS_gl hLo h1) hSo) hH hc1 hc2
theorem s_lload_n {n : Fin 4} : SG p l e R s m args below meth c H locs cells slots Q G M pc (.lload_n n, nx, a, b, cw, w) L S sh mm ls q k0 s0 := by
  intro hC hE hO hr hs hL hLo hSo hH hc1 hc2 hR hk
  obtain ⟨hdg, hnx, hr⟩ := row_dg (n := 0) hr (il_lload_n n)
  change decode M.2.1 pc = .ok (_, 1) at hdg
  change nx = pc + 1 at hnx
  subst hnx
  simp only [stp, Option.bind_eq_bind, Option.bind_eq_some_iff, Prod.exists] at hs
  obtain ⟨x, h1, hs⟩ := hs
  simp only [Option.some.injEq] at hs
  subst hs
  refine lv_lload_n hC.1 hC.2.1 hdg rfl (lv_read hL h1 (by decide)) ?_
  exact hk _ _ _ _ _ hL hLo (okS_cons (okS_gl hLo h1) hSo) hH hc1 hc2
theorem s_aload {n : Nat} : SG p l e R s m args below meth c H locs cells slots Q G M pc (.aload n, nx, a, b, cw, w) L S sh mm ls q k0 s0 := by
  intro hC hE hO hr hs hL hLo hSo hH hc1 hc2 hR hk
  obtain ⟨hdg, hnx, hr⟩ := row_dg (n := 1) hr rfl
  change decode M.2.1 pc = .ok (_, 2) at hdg
  change nx = pc + 2 at hnx
  subst hnx
  simp only [stp, Option.bind_eq_bind, Option.bind_eq_some_iff, Prod.exists] at hs
  obtain ⟨x, h1, hs⟩ := hs
  simp only [Option.some.injEq] at hs
  subst hs
  refine lv_aload hC.1 hC.2.1 hdg (lv_read hL h1 (by decide)) ?_
  exact hk _ _ _ _ _ hL hLo (okS_cons (okS_gl hLo h1) hSo) hH hc1 hc2
theorem s_aload_n {n : Fin 4} : SG p l e R s m args below meth c H locs cells slots Q G M pc (.aload_n n, nx, a, b, cw, w) L S sh mm ls q k0 s0 := by
  intro hC hE hO hr hs hL hLo hSo hH hc1 hc2 hR hk
  obtain ⟨hdg, hnx, hr⟩ := row_dg (n := 0) hr (il_aload_n n)
  change decode M.2.1 pc = .ok (_, 1) at hdg
  change nx = pc + 1 at hnx
  subst hnx
  simp only [stp, Option.bind_eq_bind, Option.bind_eq_some_iff, Prod.exists] at hs
  obtain ⟨x, h1, hs⟩ := hs
  simp only [Option.some.injEq] at hs
  subst hs
  refine lv_aload_n hC.1 hC.2.1 hdg rfl (lv_read hL h1 (by decide)) ?_
  exact hk _ _ _ _ _ hL hLo (okS_cons (okS_gl hLo h1) hSo) hH hc1 hc2
theorem s_istore {n : Nat} : SG p l e R s m args below meth c H locs cells slots Q G M pc (.istore n, nx, a, b, cw, w) L S sh mm ls q k0 s0 := by
  intro hC hE hO hr hs hL hLo hSo hH hc1 hc2 hR hk
  obtain ⟨hdg, hnx, hr⟩ := row_dg (n := 1) hr rfl
  change decode M.2.1 pc = .ok (_, 2) at hdg
  change nx = pc + 2 at hnx
  subst hnx
  simp only [stp, Option.bind_eq_bind, Option.bind_eq_some_iff, Prod.exists] at hs
  obtain ⟨x, S1, h1, hs⟩ := hs
  obtain rfl := pp_some h1
  split at hs
  · rename_i hlt
    simp only [Option.some.injEq] at hs
    subst hs
    rw [hL.1] at hlt
    refine lv_istore hC.1 hC.2.1 hdg hL.2 hlt rfl (fun ls' hl' => ?_)
    exact hk _ _ _ _ _ (lv_st1 (v := (0, x)) hL.1 (by show (0 : Nat) ≠ 9; decide) hl') (okS_st1 hLo (okS_hd hSo)) (okS_tl hSo) hH hc1 hc2
  · cases hs
theorem s_istore_n {n : Fin 4} : SG p l e R s m args below meth c H locs cells slots Q G M pc (.istore_n n, nx, a, b, cw, w) L S sh mm ls q k0 s0 := by
  intro hC hE hO hr hs hL hLo hSo hH hc1 hc2 hR hk
  obtain ⟨hdg, hnx, hr⟩ := row_dg (n := 0) hr (il_istore_n n)
  change decode M.2.1 pc = .ok (_, 1) at hdg
  change nx = pc + 1 at hnx
  subst hnx
  simp only [stp, Option.bind_eq_bind, Option.bind_eq_some_iff, Prod.exists] at hs
  obtain ⟨x, S1, h1, hs⟩ := hs
  obtain rfl := pp_some h1
  split at hs
  · rename_i hlt
    simp only [Option.some.injEq] at hs
    subst hs
    rw [hL.1] at hlt
    refine lv_istore_n hC.1 hC.2.1 hdg rfl hL.2 hlt rfl (fun ls' hl' => ?_)
    exact hk _ _ _ _ _ (lv_st1 (v := (0, x)) hL.1 (by show (0 : Nat) ≠ 9; decide) hl') (okS_st1 hLo (okS_hd hSo)) (okS_tl hSo) hH hc1 hc2
  · cases hs
theorem s_lstore {n : Nat} : SG p l e R s m args below meth c H locs cells slots Q G M pc (.lstore n, nx, a, b, cw, w) L S sh mm ls q k0 s0 := by
  intro hC hE hO hr hs hL hLo hSo hH hc1 hc2 hR hk
  obtain ⟨hdg, hnx, hr⟩ := row_dg (n := 1) hr rfl
  change decode M.2.1 pc = .ok (_, 2) at hdg
  change nx = pc + 2 at hnx
  subst hnx
  simp only [stp, Option.bind_eq_bind, Option.bind_eq_some_iff, Prod.exists] at hs
  obtain ⟨x, S1, h1, hs⟩ := hs
  obtain rfl := pp_some h1
  split at hs
  · rename_i hlt
    simp only [Option.some.injEq] at hs
    subst hs
    rw [hL.1] at hlt
    refine lv_lstore hC.1 hC.2.1 hdg hL.2 hlt rfl (fun ls' hl' => ?_)
    exact hk _ _ _ _ _ (lv_st2 (v := (1, x)) hL.1 (by show (1 : Nat) ≠ 9; decide) hl') (okS_st2 hLo (okS_hd hSo)) (okS_tl hSo) hH hc1 hc2
  · cases hs
theorem s_lstore_n {n : Fin 4} : SG p l e R s m args below meth c H locs cells slots Q G M pc (.lstore_n n, nx, a, b, cw, w) L S sh mm ls q k0 s0 := by
  intro hC hE hO hr hs hL hLo hSo hH hc1 hc2 hR hk
  obtain ⟨hdg, hnx, hr⟩ := row_dg (n := 0) hr (il_lstore_n n)
  change decode M.2.1 pc = .ok (_, 1) at hdg
  change nx = pc + 1 at hnx
  subst hnx
  simp only [stp, Option.bind_eq_bind, Option.bind_eq_some_iff, Prod.exists] at hs
  obtain ⟨x, S1, h1, hs⟩ := hs
  obtain rfl := pp_some h1
  split at hs
  · rename_i hlt
    simp only [Option.some.injEq] at hs
    subst hs
    rw [hL.1] at hlt
    refine lv_lstore_n hC.1 hC.2.1 hdg rfl hL.2 hlt rfl (fun ls' hl' => ?_)
    exact hk _ _ _ _ _ (lv_st2 (v := (1, x)) hL.1 (by show (1 : Nat) ≠ 9; decide) hl') (okS_st2 hLo (okS_hd hSo)) (okS_tl hSo) hH hc1 hc2
  · cases hs
theorem s_astore {n : Nat} : SG p l e R s m args below meth c H locs cells slots Q G M pc (.astore n, nx, a, b, cw, w) L S sh mm ls q k0 s0 := by
  intro hC hE hO hr hs hL hLo hSo hH hc1 hc2 hR hk
  obtain ⟨hdg, hnx, hr⟩ := row_dg (n := 1) hr rfl
  change decode M.2.1 pc = .ok (_, 2) at hdg
  change nx = pc + 2 at hnx
  subst hnx
  simp only [stp, Option.bind_eq_bind, Option.bind_eq_some_iff, Prod.exists] at hs
  obtain ⟨x, S1, h1, hs⟩ := hs
  obtain rfl := pp_some h1
  split at hs
  · rename_i hlt
    simp only [Option.some.injEq] at hs
    subst hs
    rw [hL.1] at hlt
    refine lv_astore hC.1 hC.2.1 hdg hL.2 hlt rfl (fun ls' hl' => ?_)
    exact hk _ _ _ _ _ (lv_st1 (v := (2, x)) hL.1 (by show (2 : Nat) ≠ 9; decide) hl') (okS_st1 hLo (okS_hd hSo)) (okS_tl hSo) hH hc1 hc2
  · cases hs
theorem s_astore_n {n : Fin 4} : SG p l e R s m args below meth c H locs cells slots Q G M pc (.astore_n n, nx, a, b, cw, w) L S sh mm ls q k0 s0 := by
  intro hC hE hO hr hs hL hLo hSo hH hc1 hc2 hR hk
  obtain ⟨hdg, hnx, hr⟩ := row_dg (n := 0) hr (il_astore_n n)
  change decode M.2.1 pc = .ok (_, 1) at hdg
  change nx = pc + 1 at hnx
  subst hnx
  simp only [stp, Option.bind_eq_bind, Option.bind_eq_some_iff, Prod.exists] at hs
  obtain ⟨x, S1, h1, hs⟩ := hs
  obtain rfl := pp_some h1
  split at hs
  · rename_i hlt
    simp only [Option.some.injEq] at hs
    subst hs
    rw [hL.1] at hlt
    refine lv_astore_n hC.1 hC.2.1 hdg rfl hL.2 hlt rfl (fun ls' hl' => ?_)
    exact hk _ _ _ _ _ (lv_st1 (v := (2, x)) hL.1 (by show (2 : Nat) ≠ 9; decide) hl') (okS_st1 hLo (okS_hd hSo)) (okS_tl hSo) hH hc1 hc2
  · cases hs
theorem s_iinc {n : Nat} {k : Int} : SG p l e R s m args below meth c H locs cells slots Q G M pc (.iinc n k, nx, a, b, cw, w) L S sh mm ls q k0 s0 := by
  intro hC hE hO hr hs hL hLo hSo hH hc1 hc2 hR hk
  obtain ⟨hdg, hnx, hr⟩ := row_dg (n := 2) hr rfl
  change decode M.2.1 pc = .ok (_, 3) at hdg
  change nx = pc + 3 at hnx
  subst hnx
  simp only [stp, Option.bind_eq_bind, Option.bind_eq_some_iff, Prod.exists] at hs
  obtain ⟨x, h1, hs⟩ := hs
  simp only [Option.some.injEq] at hs
  subst hs
  have hm : (n, tv G (0, x)) ∈ lvl G L := by
    unfold gl at h1
    split at h1
    · rename_i v hv
      split at h1
      · rename_i hv1
        cases h1
        exact lvl_mem.mpr ⟨v, hv, by rw [hv1]; decide, by rw [← hv1]⟩
      · cases h1
    · cases h1
  obtain ⟨kk, hkk⟩ := List.getElem?_of_mem hm
  have hn : n < M.2.2.1 := by
    obtain ⟨v, hv, -⟩ := lvl_mem.mp hm
    have := (List.getElem?_eq_some_iff.mp hv).1
    rw [hL.1] at this
    exact this
  refine lv_iinc (v := Int32.ofInt (w32 (x + k))) hC.1 hC.2.1 hdg hL.2 hkk (by rw [i32_w, Int32.ofInt_add]) hn rfl (fun ls' hl' => ?_)
  exact hk _ _ _ _ _ (lv_st1 (v := (0, w32 (x + k))) hL.1 (by show (0 : Nat) ≠ 9; decide) hl') (okS_st1 hLo (ok_i (w32_in _))) hSo hH hc1 hc2
theorem s_iadd : SG p l e R s m args below meth c H locs cells slots Q G M pc (.iadd, nx, a, b, cw, w) L S sh mm ls q k0 s0 := by
  intro hC hE hO hr hs hL hLo hSo hH hc1 hc2 hR hk
  obtain ⟨hdg, hnx, hr⟩ := row_dg (n := 0) hr rfl
  change decode M.2.1 pc = .ok (_, 1) at hdg
  change nx = pc + 1 at hnx
  subst hnx
  simp only [stp, Option.bind_eq_bind, Option.bind_eq_some_iff, Prod.exists] at hs
  obtain ⟨y, S1, h1, x, S2, h2, hs⟩ := hs
  obtain rfl := pp_some h1
  obtain rfl := pp_some h2
  have hy := (okS_hd hSo).1 rfl
  have hx := (okS_hd (okS_tl hSo)).1 rfl
  simp only [Option.some.injEq] at hs
  subst hs
  refine lv_iadd hC.1 hC.2.1 hdg ?_
  have ht : Value.int (Int32.ofInt x + Int32.ofInt y) = tv G (0, w32 (x + y)) := congrArg Value.int (i32_add x y)
  dsimp only [F0]
  first | rw [ht] | (erw [ht])
  exact hk _ _ _ _ _ hL hLo (okS_cons (ok_i (w32_in _)) (okS_tl (okS_tl hSo))) hH hc1 hc2
theorem s_isub : SG p l e R s m args below meth c H locs cells slots Q G M pc (.isub, nx, a, b, cw, w) L S sh mm ls q k0 s0 := by
  intro hC hE hO hr hs hL hLo hSo hH hc1 hc2 hR hk
  obtain ⟨hdg, hnx, hr⟩ := row_dg (n := 0) hr rfl
  change decode M.2.1 pc = .ok (_, 1) at hdg
  change nx = pc + 1 at hnx
  subst hnx
  simp only [stp, Option.bind_eq_bind, Option.bind_eq_some_iff, Prod.exists] at hs
  obtain ⟨y, S1, h1, x, S2, h2, hs⟩ := hs
  obtain rfl := pp_some h1
  obtain rfl := pp_some h2
  have hy := (okS_hd hSo).1 rfl
  have hx := (okS_hd (okS_tl hSo)).1 rfl
  simp only [Option.some.injEq] at hs
  subst hs
  refine lv_isub hC.1 hC.2.1 hdg ?_
  have ht : Value.int (Int32.ofInt x - Int32.ofInt y) = tv G (0, w32 (x - y)) := congrArg Value.int (i32_sub x y)
  dsimp only [F0]
  first | rw [ht] | (erw [ht])
  exact hk _ _ _ _ _ hL hLo (okS_cons (ok_i (w32_in _)) (okS_tl (okS_tl hSo))) hH hc1 hc2
theorem s_imul : SG p l e R s m args below meth c H locs cells slots Q G M pc (.imul, nx, a, b, cw, w) L S sh mm ls q k0 s0 := by
  intro hC hE hO hr hs hL hLo hSo hH hc1 hc2 hR hk
  obtain ⟨hdg, hnx, hr⟩ := row_dg (n := 0) hr rfl
  change decode M.2.1 pc = .ok (_, 1) at hdg
  change nx = pc + 1 at hnx
  subst hnx
  simp only [stp, Option.bind_eq_bind, Option.bind_eq_some_iff, Prod.exists] at hs
  obtain ⟨y, S1, h1, x, S2, h2, hs⟩ := hs
  obtain rfl := pp_some h1
  obtain rfl := pp_some h2
  have hy := (okS_hd hSo).1 rfl
  have hx := (okS_hd (okS_tl hSo)).1 rfl
  simp only [Option.some.injEq] at hs
  subst hs
  refine lv_imul hC.1 hC.2.1 hdg ?_
  have ht : Value.int (Int32.ofInt x * Int32.ofInt y) = tv G (0, w32 (x * y)) := congrArg Value.int (i32_mul x y)
  dsimp only [F0]
  first | rw [ht] | (erw [ht])
  exact hk _ _ _ _ _ hL hLo (okS_cons (ok_i (w32_in _)) (okS_tl (okS_tl hSo))) hH hc1 hc2
theorem s_ladd : SG p l e R s m args below meth c H locs cells slots Q G M pc (.ladd, nx, a, b, cw, w) L S sh mm ls q k0 s0 := by
  intro hC hE hO hr hs hL hLo hSo hH hc1 hc2 hR hk
  obtain ⟨hdg, hnx, hr⟩ := row_dg (n := 0) hr rfl
  change decode M.2.1 pc = .ok (_, 1) at hdg
  change nx = pc + 1 at hnx
  subst hnx
  simp only [stp, Option.bind_eq_bind, Option.bind_eq_some_iff, Prod.exists] at hs
  obtain ⟨y, S1, h1, x, S2, h2, hs⟩ := hs
  obtain rfl := pp_some h1
  obtain rfl := pp_some h2
  have hy := (okS_hd hSo).2 rfl
  have hx := (okS_hd (okS_tl hSo)).2 rfl
  simp only [Option.some.injEq] at hs
  subst hs
  refine lv_ladd hC.1 hC.2.1 hdg ?_
  have ht : Value.long (Int64.ofInt x + Int64.ofInt y) = tv G (1, w64 (x + y)) := congrArg Value.long (i64_add x y)
  dsimp only [F0]
  first | rw [ht] | (erw [ht])
  exact hk _ _ _ _ _ hL hLo (okS_cons (ok_l (w64_in _)) (okS_tl (okS_tl hSo))) hH hc1 hc2
theorem s_lsub : SG p l e R s m args below meth c H locs cells slots Q G M pc (.lsub, nx, a, b, cw, w) L S sh mm ls q k0 s0 := by
  intro hC hE hO hr hs hL hLo hSo hH hc1 hc2 hR hk
  obtain ⟨hdg, hnx, hr⟩ := row_dg (n := 0) hr rfl
  change decode M.2.1 pc = .ok (_, 1) at hdg
  change nx = pc + 1 at hnx
  subst hnx
  simp only [stp, Option.bind_eq_bind, Option.bind_eq_some_iff, Prod.exists] at hs
  obtain ⟨y, S1, h1, x, S2, h2, hs⟩ := hs
  obtain rfl := pp_some h1
  obtain rfl := pp_some h2
  have hy := (okS_hd hSo).2 rfl
  have hx := (okS_hd (okS_tl hSo)).2 rfl
  simp only [Option.some.injEq] at hs
  subst hs
  refine lv_lsub hC.1 hC.2.1 hdg ?_
  have ht : Value.long (Int64.ofInt x - Int64.ofInt y) = tv G (1, w64 (x - y)) := congrArg Value.long (i64_sub x y)
  dsimp only [F0]
  first | rw [ht] | (erw [ht])
  exact hk _ _ _ _ _ hL hLo (okS_cons (ok_l (w64_in _)) (okS_tl (okS_tl hSo))) hH hc1 hc2
theorem s_lmul : SG p l e R s m args below meth c H locs cells slots Q G M pc (.lmul, nx, a, b, cw, w) L S sh mm ls q k0 s0 := by
  intro hC hE hO hr hs hL hLo hSo hH hc1 hc2 hR hk
  obtain ⟨hdg, hnx, hr⟩ := row_dg (n := 0) hr rfl
  change decode M.2.1 pc = .ok (_, 1) at hdg
  change nx = pc + 1 at hnx
  subst hnx
  simp only [stp, Option.bind_eq_bind, Option.bind_eq_some_iff, Prod.exists] at hs
  obtain ⟨y, S1, h1, x, S2, h2, hs⟩ := hs
  obtain rfl := pp_some h1
  obtain rfl := pp_some h2
  have hy := (okS_hd hSo).2 rfl
  have hx := (okS_hd (okS_tl hSo)).2 rfl
  simp only [Option.some.injEq] at hs
  subst hs
  refine lv_lmul hC.1 hC.2.1 hdg ?_
  have ht : Value.long (Int64.ofInt x * Int64.ofInt y) = tv G (1, w64 (x * y)) := congrArg Value.long (i64_mul x y)
  dsimp only [F0]
  first | rw [ht] | (erw [ht])
  exact hk _ _ _ _ _ hL hLo (okS_cons (ok_l (w64_in _)) (okS_tl (okS_tl hSo))) hH hc1 hc2
theorem s_iand : SG p l e R s m args below meth c H locs cells slots Q G M pc (.iand, nx, a, b, cw, w) L S sh mm ls q k0 s0 := by
  intro hC hE hO hr hs hL hLo hSo hH hc1 hc2 hR hk
  obtain ⟨hdg, hnx, hr⟩ := row_dg (n := 0) hr rfl
  change decode M.2.1 pc = .ok (_, 1) at hdg
  change nx = pc + 1 at hnx
  subst hnx
  simp only [stp, Option.bind_eq_bind, Option.bind_eq_some_iff, Prod.exists] at hs
  obtain ⟨y, S1, h1, x, S2, h2, hs⟩ := hs
  obtain rfl := pp_some h1
  obtain rfl := pp_some h2
  have hy := (okS_hd hSo).1 rfl
  have hx := (okS_hd (okS_tl hSo)).1 rfl
  simp only [Option.some.injEq] at hs
  subst hs
  refine lv_iand hC.1 hC.2.1 hdg ?_
  have ht : Value.int (Int32.ofInt x &&& Int32.ofInt y) = tv G (0, iand x y) := congrArg Value.int (by unfold iand; rw [i32_of])
  dsimp only [F0]
  first | rw [ht] | (erw [ht])
  exact hk _ _ _ _ _ hL hLo (okS_cons (ok_i (i32_in _)) (okS_tl (okS_tl hSo))) hH hc1 hc2
theorem s_ior : SG p l e R s m args below meth c H locs cells slots Q G M pc (.ior, nx, a, b, cw, w) L S sh mm ls q k0 s0 := by
  intro hC hE hO hr hs hL hLo hSo hH hc1 hc2 hR hk
  obtain ⟨hdg, hnx, hr⟩ := row_dg (n := 0) hr rfl
  change decode M.2.1 pc = .ok (_, 1) at hdg
  change nx = pc + 1 at hnx
  subst hnx
  simp only [stp, Option.bind_eq_bind, Option.bind_eq_some_iff, Prod.exists] at hs
  obtain ⟨y, S1, h1, x, S2, h2, hs⟩ := hs
  obtain rfl := pp_some h1
  obtain rfl := pp_some h2
  have hy := (okS_hd hSo).1 rfl
  have hx := (okS_hd (okS_tl hSo)).1 rfl
  simp only [Option.some.injEq] at hs
  subst hs
  refine lv_ior hC.1 hC.2.1 hdg ?_
  have ht : Value.int (Int32.ofInt x ||| Int32.ofInt y) = tv G (0, ior x y) := congrArg Value.int (by unfold ior; rw [i32_of])
  dsimp only [F0]
  first | rw [ht] | (erw [ht])
  exact hk _ _ _ _ _ hL hLo (okS_cons (ok_i (i32_in _)) (okS_tl (okS_tl hSo))) hH hc1 hc2
theorem s_ixor : SG p l e R s m args below meth c H locs cells slots Q G M pc (.ixor, nx, a, b, cw, w) L S sh mm ls q k0 s0 := by
  intro hC hE hO hr hs hL hLo hSo hH hc1 hc2 hR hk
  obtain ⟨hdg, hnx, hr⟩ := row_dg (n := 0) hr rfl
  change decode M.2.1 pc = .ok (_, 1) at hdg
  change nx = pc + 1 at hnx
  subst hnx
  simp only [stp, Option.bind_eq_bind, Option.bind_eq_some_iff, Prod.exists] at hs
  obtain ⟨y, S1, h1, x, S2, h2, hs⟩ := hs
  obtain rfl := pp_some h1
  obtain rfl := pp_some h2
  have hy := (okS_hd hSo).1 rfl
  have hx := (okS_hd (okS_tl hSo)).1 rfl
  simp only [Option.some.injEq] at hs
  subst hs
  refine lv_ixor hC.1 hC.2.1 hdg ?_
  have ht : Value.int (Int32.ofInt x ^^^ Int32.ofInt y) = tv G (0, ixor x y) := congrArg Value.int (by unfold ixor; rw [i32_of])
  dsimp only [F0]
  first | rw [ht] | (erw [ht])
  exact hk _ _ _ _ _ hL hLo (okS_cons (ok_i (i32_in _)) (okS_tl (okS_tl hSo))) hH hc1 hc2
theorem s_land : SG p l e R s m args below meth c H locs cells slots Q G M pc (.land, nx, a, b, cw, w) L S sh mm ls q k0 s0 := by
  intro hC hE hO hr hs hL hLo hSo hH hc1 hc2 hR hk
  obtain ⟨hdg, hnx, hr⟩ := row_dg (n := 0) hr rfl
  change decode M.2.1 pc = .ok (_, 1) at hdg
  change nx = pc + 1 at hnx
  subst hnx
  simp only [stp, Option.bind_eq_bind, Option.bind_eq_some_iff, Prod.exists] at hs
  obtain ⟨y, S1, h1, x, S2, h2, hs⟩ := hs
  obtain rfl := pp_some h1
  obtain rfl := pp_some h2
  have hy := (okS_hd hSo).2 rfl
  have hx := (okS_hd (okS_tl hSo)).2 rfl
  simp only [Option.some.injEq] at hs
  subst hs
  refine lv_land hC.1 hC.2.1 hdg ?_
  have ht : Value.long (Int64.ofInt x &&& Int64.ofInt y) = tv G (1, land x y) := congrArg Value.long (by unfold land; rw [i64_of])
  dsimp only [F0]
  first | rw [ht] | (erw [ht])
  exact hk _ _ _ _ _ hL hLo (okS_cons (ok_l (i64_in _)) (okS_tl (okS_tl hSo))) hH hc1 hc2
theorem s_lor : SG p l e R s m args below meth c H locs cells slots Q G M pc (.lor, nx, a, b, cw, w) L S sh mm ls q k0 s0 := by
  intro hC hE hO hr hs hL hLo hSo hH hc1 hc2 hR hk
  obtain ⟨hdg, hnx, hr⟩ := row_dg (n := 0) hr rfl
  change decode M.2.1 pc = .ok (_, 1) at hdg
  change nx = pc + 1 at hnx
  subst hnx
  simp only [stp, Option.bind_eq_bind, Option.bind_eq_some_iff, Prod.exists] at hs
  obtain ⟨y, S1, h1, x, S2, h2, hs⟩ := hs
  obtain rfl := pp_some h1
  obtain rfl := pp_some h2
  have hy := (okS_hd hSo).2 rfl
  have hx := (okS_hd (okS_tl hSo)).2 rfl
  simp only [Option.some.injEq] at hs
  subst hs
  refine lv_lor hC.1 hC.2.1 hdg ?_
  have ht : Value.long (Int64.ofInt x ||| Int64.ofInt y) = tv G (1, lor x y) := congrArg Value.long (by unfold lor; rw [i64_of])
  dsimp only [F0]
  first | rw [ht] | (erw [ht])
  exact hk _ _ _ _ _ hL hLo (okS_cons (ok_l (i64_in _)) (okS_tl (okS_tl hSo))) hH hc1 hc2
theorem s_ishl : SG p l e R s m args below meth c H locs cells slots Q G M pc (.ishl, nx, a, b, cw, w) L S sh mm ls q k0 s0 := by
  intro hC hE hO hr hs hL hLo hSo hH hc1 hc2 hR hk
  obtain ⟨hdg, hnx, hr⟩ := row_dg (n := 0) hr rfl
  change decode M.2.1 pc = .ok (_, 1) at hdg
  change nx = pc + 1 at hnx
  subst hnx
  simp only [stp, Option.bind_eq_bind, Option.bind_eq_some_iff, Prod.exists] at hs
  obtain ⟨y, S1, h1, x, S2, h2, hs⟩ := hs
  obtain rfl := pp_some h1
  obtain rfl := pp_some h2
  have hy := (okS_hd hSo).1 rfl
  have hx := (okS_hd (okS_tl hSo)).1 rfl
  simp only [Option.some.injEq] at hs
  subst hs
  refine lv_ishl hC.1 hC.2.1 hdg ?_
  have ht : Value.int (Int32.ofInt x <<< (Int32.ofInt y &&& 31)) = tv G (0, ishl x y) := congrArg Value.int (by unfold ishl; rw [i32_of])
  dsimp only [F0]
  first | rw [ht] | (erw [ht])
  exact hk _ _ _ _ _ hL hLo (okS_cons (ok_i (i32_in _)) (okS_tl (okS_tl hSo))) hH hc1 hc2
theorem s_ishr : SG p l e R s m args below meth c H locs cells slots Q G M pc (.ishr, nx, a, b, cw, w) L S sh mm ls q k0 s0 := by
  intro hC hE hO hr hs hL hLo hSo hH hc1 hc2 hR hk
  obtain ⟨hdg, hnx, hr⟩ := row_dg (n := 0) hr rfl
  change decode M.2.1 pc = .ok (_, 1) at hdg
  change nx = pc + 1 at hnx
  subst hnx
  simp only [stp, Option.bind_eq_bind, Option.bind_eq_some_iff, Prod.exists] at hs
  obtain ⟨y, S1, h1, x, S2, h2, hs⟩ := hs
  obtain rfl := pp_some h1
  obtain rfl := pp_some h2
  have hy := (okS_hd hSo).1 rfl
  have hx := (okS_hd (okS_tl hSo)).1 rfl
  simp only [Option.some.injEq] at hs
  subst hs
  refine lv_ishr hC.1 hC.2.1 hdg ?_
  have ht : Value.int (Int32.ofInt x >>> (Int32.ofInt y &&& 31)) = tv G (0, ishr x y) := congrArg Value.int (by unfold ishr; rw [i32_of])
  dsimp only [F0]
  first | rw [ht] | (erw [ht])
  exact hk _ _ _ _ _ hL hLo (okS_cons (ok_i (i32_in _)) (okS_tl (okS_tl hSo))) hH hc1 hc2
theorem s_lshl : SG p l e R s m args below meth c H locs cells slots Q G M pc (.lshl, nx, a, b, cw, w) L S sh mm ls q k0 s0 := by
  intro hC hE hO hr hs hL hLo hSo hH hc1 hc2 hR hk
  obtain ⟨hdg, hnx, hr⟩ := row_dg (n := 0) hr rfl
  change decode M.2.1 pc = .ok (_, 1) at hdg
  change nx = pc + 1 at hnx
  subst hnx
  simp only [stp, Option.bind_eq_bind, Option.bind_eq_some_iff, Prod.exists] at hs
  obtain ⟨y, S1, h1, x, S2, h2, hs⟩ := hs
  obtain rfl := pp_some h1
  obtain rfl := pp_some h2
  have hy := (okS_hd hSo).1 rfl
  have hx := (okS_hd (okS_tl hSo)).2 rfl
  simp only [Option.some.injEq] at hs
  subst hs
  refine lv_lshl (v := Int64.ofInt (lshl x y)) hC.1 hC.2.1 hdg (by unfold lshl; rw [i64_of]) ?_
  have ht : Value.long (Int64.ofInt (lshl x y)) = tv G (1, lshl x y) := rfl
  dsimp only [F0]
  first | rw [ht] | (erw [ht])
  exact hk _ _ _ _ _ hL hLo (okS_cons (ok_l (i64_in _)) (okS_tl (okS_tl hSo))) hH hc1 hc2
theorem s_lshr : SG p l e R s m args below meth c H locs cells slots Q G M pc (.lshr, nx, a, b, cw, w) L S sh mm ls q k0 s0 := by
  intro hC hE hO hr hs hL hLo hSo hH hc1 hc2 hR hk
  obtain ⟨hdg, hnx, hr⟩ := row_dg (n := 0) hr rfl
  change decode M.2.1 pc = .ok (_, 1) at hdg
  change nx = pc + 1 at hnx
  subst hnx
  simp only [stp, Option.bind_eq_bind, Option.bind_eq_some_iff, Prod.exists] at hs
  obtain ⟨y, S1, h1, x, S2, h2, hs⟩ := hs
  obtain rfl := pp_some h1
  obtain rfl := pp_some h2
  have hy := (okS_hd hSo).1 rfl
  have hx := (okS_hd (okS_tl hSo)).2 rfl
  simp only [Option.some.injEq] at hs
  subst hs
  refine lv_lshr (v := Int64.ofInt (lshr x y)) hC.1 hC.2.1 hdg (by unfold lshr; rw [i64_of]) ?_
  have ht : Value.long (Int64.ofInt (lshr x y)) = tv G (1, lshr x y) := rfl
  dsimp only [F0]
  first | rw [ht] | (erw [ht])
  exact hk _ _ _ _ _ hL hLo (okS_cons (ok_l (i64_in _)) (okS_tl (okS_tl hSo))) hH hc1 hc2
theorem s_idiv : SG p l e R s m args below meth c H locs cells slots Q G M pc (.idiv, nx, a, b, cw, w) L S sh mm ls q k0 s0 := by
  intro hC hE hO hr hs hL hLo hSo hH hc1 hc2 hR hk
  obtain ⟨hdg, hnx, hr⟩ := row_dg (n := 0) hr rfl
  change decode M.2.1 pc = .ok (_, 1) at hdg
  change nx = pc + 1 at hnx
  subst hnx
  simp only [stp, Option.bind_eq_bind, Option.bind_eq_some_iff, Prod.exists] at hs
  obtain ⟨y, S1, h1, x, S2, h2, hs⟩ := hs
  obtain rfl := pp_some h1
  obtain rfl := pp_some h2
  have hy := (okS_hd hSo).1 rfl
  have hx := (okS_hd (okS_tl hSo)).1 rfl
  split at hs
  · cases hs
  rename_i hne
  simp only [Option.some.injEq] at hs
  subst hs
  refine lv_idiv hC.1 hC.2.1 hdg (fun z => hne ((i32_eq hy in32_0).mp (z.trans i32_0.symm))) ?_
  have ht : Value.int (Int32.ofInt x / Int32.ofInt y) = tv G (0, w32 (x.tdiv y)) := congrArg Value.int (i32_div hx hy)
  dsimp only [F0]
  first | rw [ht] | (erw [ht])
  exact hk _ _ _ _ _ hL hLo (okS_cons (ok_i (w32_in _)) (okS_tl (okS_tl hSo))) hH hc1 hc2
theorem s_irem : SG p l e R s m args below meth c H locs cells slots Q G M pc (.irem, nx, a, b, cw, w) L S sh mm ls q k0 s0 := by
  intro hC hE hO hr hs hL hLo hSo hH hc1 hc2 hR hk
  obtain ⟨hdg, hnx, hr⟩ := row_dg (n := 0) hr rfl
  change decode M.2.1 pc = .ok (_, 1) at hdg
  change nx = pc + 1 at hnx
  subst hnx
  simp only [stp, Option.bind_eq_bind, Option.bind_eq_some_iff, Prod.exists] at hs
  obtain ⟨y, S1, h1, x, S2, h2, hs⟩ := hs
  obtain rfl := pp_some h1
  obtain rfl := pp_some h2
  have hy := (okS_hd hSo).1 rfl
  have hx := (okS_hd (okS_tl hSo)).1 rfl
  split at hs
  · cases hs
  rename_i hne
  simp only [Option.some.injEq] at hs
  subst hs
  refine lv_irem hC.1 hC.2.1 hdg (fun z => hne ((i32_eq hy in32_0).mp (z.trans i32_0.symm))) ?_
  have ht : Value.int (Int32.ofInt x - Int32.ofInt x / Int32.ofInt y * Int32.ofInt y) = tv G (0, x.tmod y) := congrArg Value.int (i32_rem hx hy)
  dsimp only [F0]
  first | rw [ht] | (erw [ht])
  exact hk _ _ _ _ _ hL hLo (okS_cons (ok_i (tmod_in (by decide) (by decide) hx)) (okS_tl (okS_tl hSo))) hH hc1 hc2
theorem s_ldiv : SG p l e R s m args below meth c H locs cells slots Q G M pc (.ldiv, nx, a, b, cw, w) L S sh mm ls q k0 s0 := by
  intro hC hE hO hr hs hL hLo hSo hH hc1 hc2 hR hk
  obtain ⟨hdg, hnx, hr⟩ := row_dg (n := 0) hr rfl
  change decode M.2.1 pc = .ok (_, 1) at hdg
  change nx = pc + 1 at hnx
  subst hnx
  simp only [stp, Option.bind_eq_bind, Option.bind_eq_some_iff, Prod.exists] at hs
  obtain ⟨y, S1, h1, x, S2, h2, hs⟩ := hs
  obtain rfl := pp_some h1
  obtain rfl := pp_some h2
  have hy := (okS_hd hSo).2 rfl
  have hx := (okS_hd (okS_tl hSo)).2 rfl
  split at hs
  · cases hs
  rename_i hne
  simp only [Option.some.injEq] at hs
  subst hs
  refine lv_ldiv hC.1 hC.2.1 hdg (fun z => hne ((i64_eq hy in64_0).mp (z.trans i64_0.symm))) ?_
  have ht : Value.long (Int64.ofInt x / Int64.ofInt y) = tv G (1, w64 (x.tdiv y)) := congrArg Value.long (i64_div hx hy)
  dsimp only [F0]
  first | rw [ht] | (erw [ht])
  exact hk _ _ _ _ _ hL hLo (okS_cons (ok_l (w64_in _)) (okS_tl (okS_tl hSo))) hH hc1 hc2
theorem s_lrem : SG p l e R s m args below meth c H locs cells slots Q G M pc (.lrem, nx, a, b, cw, w) L S sh mm ls q k0 s0 := by
  intro hC hE hO hr hs hL hLo hSo hH hc1 hc2 hR hk
  obtain ⟨hdg, hnx, hr⟩ := row_dg (n := 0) hr rfl
  change decode M.2.1 pc = .ok (_, 1) at hdg
  change nx = pc + 1 at hnx
  subst hnx
  simp only [stp, Option.bind_eq_bind, Option.bind_eq_some_iff, Prod.exists] at hs
  obtain ⟨y, S1, h1, x, S2, h2, hs⟩ := hs
  obtain rfl := pp_some h1
  obtain rfl := pp_some h2
  have hy := (okS_hd hSo).2 rfl
  have hx := (okS_hd (okS_tl hSo)).2 rfl
  split at hs
  · cases hs
  rename_i hne
  simp only [Option.some.injEq] at hs
  subst hs
  refine lv_lrem hC.1 hC.2.1 hdg (fun z => hne ((i64_eq hy in64_0).mp (z.trans i64_0.symm))) ?_
  have ht : Value.long (Int64.ofInt x - Int64.ofInt x / Int64.ofInt y * Int64.ofInt y) = tv G (1, x.tmod y) := congrArg Value.long (i64_rem hx hy)
  dsimp only [F0]
  first | rw [ht] | (erw [ht])
  exact hk _ _ _ _ _ hL hLo (okS_cons (ok_l (tmod_in (by decide) (by decide) hx)) (okS_tl (okS_tl hSo))) hH hc1 hc2
theorem s_lcmp : SG p l e R s m args below meth c H locs cells slots Q G M pc (.lcmp, nx, a, b, cw, w) L S sh mm ls q k0 s0 := by
  intro hC hE hO hr hs hL hLo hSo hH hc1 hc2 hR hk
  obtain ⟨hdg, hnx, hr⟩ := row_dg (n := 0) hr rfl
  change decode M.2.1 pc = .ok (_, 1) at hdg
  change nx = pc + 1 at hnx
  subst hnx
  simp only [stp, Option.bind_eq_bind, Option.bind_eq_some_iff, Prod.exists] at hs
  obtain ⟨y, S1, h1, x, S2, h2, hs⟩ := hs
  obtain rfl := pp_some h1
  obtain rfl := pp_some h2
  have hy := (okS_hd hSo).2 rfl
  have hx := (okS_hd (okS_tl hSo)).2 rfl
  simp only [Option.some.injEq] at hs
  subst hs
  refine W.lcmp hC.1 hC.2.1 hdg ?_
  have ht : Value.int (lg_cmp (Int64.ofInt x) (Int64.ofInt y)) = tv G (0, if x < y then -1 else if x = y then 0 else 1) := congrArg Value.int (lcmp_w hx hy)
  dsimp only [F0]
  first | rw [ht] | (erw [ht])
  exact hk _ _ _ _ _ hL hLo (okS_cons (ok_i (lcmp_in x y)) (okS_tl (okS_tl hSo))) hH hc1 hc2
theorem s_ineg : SG p l e R s m args below meth c H locs cells slots Q G M pc (.ineg, nx, a, b, cw, w) L S sh mm ls q k0 s0 := by
  intro hC hE hO hr hs hL hLo hSo hH hc1 hc2 hR hk
  obtain ⟨hdg, hnx, hr⟩ := row_dg (n := 0) hr rfl
  change decode M.2.1 pc = .ok (_, 1) at hdg
  change nx = pc + 1 at hnx
  subst hnx
  simp only [stp, Option.bind_eq_bind, Option.bind_eq_some_iff, Prod.exists] at hs
  obtain ⟨x, S1, h1, hs⟩ := hs
  obtain rfl := pp_some h1
  have hx := (okS_hd hSo).1 rfl
  simp only [Option.some.injEq] at hs
  subst hs
  refine lv_ineg hC.1 hC.2.1 hdg ?_
  have ht : Value.int (-Int32.ofInt x) = tv G (0, w32 (-x)) := congrArg Value.int (i32_neg x)
  first | rw [ht] | (erw [ht])
  exact hk _ _ _ _ _ hL hLo (okS_cons (ok_i (w32_in _)) (okS_tl hSo)) hH hc1 hc2
theorem s_i2l : SG p l e R s m args below meth c H locs cells slots Q G M pc (.i2l, nx, a, b, cw, w) L S sh mm ls q k0 s0 := by
  intro hC hE hO hr hs hL hLo hSo hH hc1 hc2 hR hk
  obtain ⟨hdg, hnx, hr⟩ := row_dg (n := 0) hr rfl
  change decode M.2.1 pc = .ok (_, 1) at hdg
  change nx = pc + 1 at hnx
  subst hnx
  simp only [stp, Option.bind_eq_bind, Option.bind_eq_some_iff, Prod.exists] at hs
  obtain ⟨x, S1, h1, hs⟩ := hs
  obtain rfl := pp_some h1
  have hx := (okS_hd hSo).1 rfl
  simp only [Option.some.injEq] at hs
  subst hs
  refine lv_i2l (v := Int64.ofInt x) hC.1 hC.2.1 hdg (i32_64 hx) ?_
  have ht : Value.long (Int64.ofInt x) = tv G (1, x) := rfl
  first | rw [ht] | (erw [ht])
  exact hk _ _ _ _ _ hL hLo (okS_cons (ok_l (by unfold in32 at hx; unfold in64; omega)) (okS_tl hSo)) hH hc1 hc2
theorem s_l2i : SG p l e R s m args below meth c H locs cells slots Q G M pc (.l2i, nx, a, b, cw, w) L S sh mm ls q k0 s0 := by
  intro hC hE hO hr hs hL hLo hSo hH hc1 hc2 hR hk
  obtain ⟨hdg, hnx, hr⟩ := row_dg (n := 0) hr rfl
  change decode M.2.1 pc = .ok (_, 1) at hdg
  change nx = pc + 1 at hnx
  subst hnx
  simp only [stp, Option.bind_eq_bind, Option.bind_eq_some_iff, Prod.exists] at hs
  obtain ⟨x, S1, h1, hs⟩ := hs
  obtain rfl := pp_some h1
  have hx := (okS_hd hSo).2 rfl
  simp only [Option.some.injEq] at hs
  subst hs
  refine lv_l2i (v := Int32.ofInt (w32 x)) hC.1 hC.2.1 hdg (i64_32 x hx) ?_
  have ht : Value.int (Int32.ofInt (w32 x)) = tv G (0, w32 x) := rfl
  first | rw [ht] | (erw [ht])
  exact hk _ _ _ _ _ hL hLo (okS_cons (ok_i (w32_in _)) (okS_tl hSo)) hH hc1 hc2
theorem s_i2b : SG p l e R s m args below meth c H locs cells slots Q G M pc (.i2b, nx, a, b, cw, w) L S sh mm ls q k0 s0 := by
  intro hC hE hO hr hs hL hLo hSo hH hc1 hc2 hR hk
  obtain ⟨hdg, hnx, hr⟩ := row_dg (n := 0) hr rfl
  change decode M.2.1 pc = .ok (_, 1) at hdg
  change nx = pc + 1 at hnx
  subst hnx
  simp only [stp, Option.bind_eq_bind, Option.bind_eq_some_iff, Prod.exists] at hs
  obtain ⟨x, S1, h1, hs⟩ := hs
  obtain rfl := pp_some h1
  have hx := (okS_hd hSo).1 rfl
  simp only [Option.some.injEq] at hs
  subst hs
  refine lv_i2b (v := Int32.ofInt (b8 x)) hC.1 hC.2.1 hdg (i32_b8 hx) ?_
  have ht : Value.int (Int32.ofInt (b8 x)) = tv G (0, b8 x) := rfl
  first | rw [ht] | (erw [ht])
  exact hk _ _ _ _ _ hL hLo (okS_cons (ok_i (by have := b8_in x; unfold in32; omega)) (okS_tl hSo)) hH hc1 hc2
theorem s_i2s : SG p l e R s m args below meth c H locs cells slots Q G M pc (.i2s, nx, a, b, cw, w) L S sh mm ls q k0 s0 := by
  intro hC hE hO hr hs hL hLo hSo hH hc1 hc2 hR hk
  obtain ⟨hdg, hnx, hr⟩ := row_dg (n := 0) hr rfl
  change decode M.2.1 pc = .ok (_, 1) at hdg
  change nx = pc + 1 at hnx
  subst hnx
  simp only [stp, Option.bind_eq_bind, Option.bind_eq_some_iff, Prod.exists] at hs
  obtain ⟨x, S1, h1, hs⟩ := hs
  obtain rfl := pp_some h1
  have hx := (okS_hd hSo).1 rfl
  simp only [Option.some.injEq] at hs
  subst hs
  refine lv_i2s (v := Int32.ofInt (b16 x)) hC.1 hC.2.1 hdg (i32_b16 hx) ?_
  have ht : Value.int (Int32.ofInt (b16 x)) = tv G (0, b16 x) := rfl
  first | rw [ht] | (erw [ht])
  exact hk _ _ _ _ _ hL hLo (okS_cons (ok_i (by have := b16_in x; unfold in32; omega)) (okS_tl hSo)) hH hc1 hc2
theorem s_goto {n : Int} : SG p l e R s m args below meth c H locs cells slots Q G M pc (.goto n, nx, a, b, cw, w) L S sh mm ls q k0 s0 := by
  intro hC hE hO hr hs hL hLo hSo hH hc1 hc2 hR hk
  obtain ⟨hdg, hnx, hr⟩ := row_dg (n := 2) hr rfl
  change decode M.2.1 pc = .ok (_, 3) at hdg
  change nx = pc + 3 at hnx
  subst hnx
  unfold rowL at hr
  simp only [Bool.and_eq_true, decide_eq_true_eq] at hr
  simp only [stp, Option.some.injEq] at hs
  subst hs
  refine lv_goto (tgt := a.toNat) hC.1 hC.2.1 hdg (by have := hr.1; have := hr.2; omega) ?_
  exact hk _ _ _ _ _ hL hLo hSo hH hc1 hc2
theorem s_if_eq {n : Int} : SG p l e R s m args below meth c H locs cells slots Q G M pc (.ifCond .eq n, nx, a, b, cw, w) L S sh mm ls q k0 s0 := by
  intro hC hE hO hr hs hL hLo hSo hH hc1 hc2 hR hk
  obtain ⟨hdg, hnx, hr⟩ := row_dg (n := 2) hr rfl
  change decode M.2.1 pc = .ok (_, 3) at hdg
  change nx = pc + 3 at hnx
  subst hnx
  unfold rowL at hr
  simp only [Bool.and_eq_true, decide_eq_true_eq] at hr
  simp only [stp, Option.bind_eq_bind, Option.bind_eq_some_iff, Prod.exists] at hs
  obtain ⟨x, S1, h1, hs⟩ := hs
  obtain rfl := pp_some h1
  have hx := (okS_hd hSo).1 rfl
  simp only [Option.some.injEq] at hs
  subst hs
  have e0 := i32_eq hx in32_0
  rw [i32_0] at e0
  refine lv_if_eq (tgt := a.toNat) hC.1 hC.2.1 hdg (by have := hr.1; have := hr.2; omega) (fun z => ?_) (fun z => ?_)
  · have hz := e0.mp z
    have hq : (if cnd .eq x 0 then a.toNat else pc + 3) = a.toNat := if_pos (decide_eq_true hz)
    rw [← hq]
    exact hk _ _ _ _ _ hL hLo (okS_tl hSo) hH hc1 hc2
  · have hz := fun q => z (e0.mpr q)
    have hq : (if cnd .eq x 0 then a.toNat else pc + 3) = pc + 3 := if_neg (fun q => hz (of_decide_eq_true q))
    rw [← hq]
    exact hk _ _ _ _ _ hL hLo (okS_tl hSo) hH hc1 hc2
theorem s_icmp_eq {n : Int} : SG p l e R s m args below meth c H locs cells slots Q G M pc (.if_icmp .eq n, nx, a, b, cw, w) L S sh mm ls q k0 s0 := by
  intro hC hE hO hr hs hL hLo hSo hH hc1 hc2 hR hk
  obtain ⟨hdg, hnx, hr⟩ := row_dg (n := 2) hr rfl
  change decode M.2.1 pc = .ok (_, 3) at hdg
  change nx = pc + 3 at hnx
  subst hnx
  unfold rowL at hr
  simp only [Bool.and_eq_true, decide_eq_true_eq] at hr
  simp only [stp, Option.bind_eq_bind, Option.bind_eq_some_iff, Prod.exists] at hs
  obtain ⟨y, S1, h1, x, S2, h2, hs⟩ := hs
  obtain rfl := pp_some h1
  obtain rfl := pp_some h2
  have hy := (okS_hd hSo).1 rfl
  have hx := (okS_hd (okS_tl hSo)).1 rfl
  simp only [Option.some.injEq] at hs
  subst hs
  have e0 := i32_eq hx hy
  refine lv_icmp_eq (tgt := a.toNat) hC.1 hC.2.1 hdg (by have := hr.1; have := hr.2; omega) (fun z => ?_) (fun z => ?_)
  · have hz := e0.mp z
    have hq : (if cnd .eq x y then a.toNat else pc + 3) = a.toNat := if_pos (decide_eq_true hz)
    rw [← hq]
    exact hk _ _ _ _ _ hL hLo (okS_tl (okS_tl hSo)) hH hc1 hc2
  · have hz := fun q => z (e0.mpr q)
    have hq : (if cnd .eq x y then a.toNat else pc + 3) = pc + 3 := if_neg (fun q => hz (of_decide_eq_true q))
    rw [← hq]
    exact hk _ _ _ _ _ hL hLo (okS_tl (okS_tl hSo)) hH hc1 hc2
theorem s_if_ne {n : Int} : SG p l e R s m args below meth c H locs cells slots Q G M pc (.ifCond .ne n, nx, a, b, cw, w) L S sh mm ls q k0 s0 := by
  intro hC hE hO hr hs hL hLo hSo hH hc1 hc2 hR hk
  obtain ⟨hdg, hnx, hr⟩ := row_dg (n := 2) hr rfl
  change decode M.2.1 pc = .ok (_, 3) at hdg
  change nx = pc + 3 at hnx
  subst hnx
  unfold rowL at hr
  simp only [Bool.and_eq_true, decide_eq_true_eq] at hr
  simp only [stp, Option.bind_eq_bind, Option.bind_eq_some_iff, Prod.exists] at hs
  obtain ⟨x, S1, h1, hs⟩ := hs
  obtain rfl := pp_some h1
  have hx := (okS_hd hSo).1 rfl
  simp only [Option.some.injEq] at hs
  subst hs
  have e0 := not_congr (i32_eq hx in32_0)
  rw [i32_0] at e0
  refine lv_if_ne (tgt := a.toNat) hC.1 hC.2.1 hdg (by have := hr.1; have := hr.2; omega) (fun z => ?_) (fun z => ?_)
  · have hz := e0.mp z
    have hq : (if cnd .ne x 0 then a.toNat else pc + 3) = a.toNat := if_pos (decide_eq_true hz)
    rw [← hq]
    exact hk _ _ _ _ _ hL hLo (okS_tl hSo) hH hc1 hc2
  · have hz := fun q => (e0.mpr q) z
    have hq : (if cnd .ne x 0 then a.toNat else pc + 3) = pc + 3 := if_neg (fun q => hz (of_decide_eq_true q))
    rw [← hq]
    exact hk _ _ _ _ _ hL hLo (okS_tl hSo) hH hc1 hc2
theorem s_icmp_ne {n : Int} : SG p l e R s m args below meth c H locs cells slots Q G M pc (.if_icmp .ne n, nx, a, b, cw, w) L S sh mm ls q k0 s0 := by
  intro hC hE hO hr hs hL hLo hSo hH hc1 hc2 hR hk
  obtain ⟨hdg, hnx, hr⟩ := row_dg (n := 2) hr rfl
  change decode M.2.1 pc = .ok (_, 3) at hdg
  change nx = pc + 3 at hnx
  subst hnx
  unfold rowL at hr
  simp only [Bool.and_eq_true, decide_eq_true_eq] at hr
  simp only [stp, Option.bind_eq_bind, Option.bind_eq_some_iff, Prod.exists] at hs
  obtain ⟨y, S1, h1, x, S2, h2, hs⟩ := hs
  obtain rfl := pp_some h1
  obtain rfl := pp_some h2
  have hy := (okS_hd hSo).1 rfl
  have hx := (okS_hd (okS_tl hSo)).1 rfl
  simp only [Option.some.injEq] at hs
  subst hs
  have e0 := not_congr (i32_eq hx hy)
  refine lv_icmp_ne (tgt := a.toNat) hC.1 hC.2.1 hdg (by have := hr.1; have := hr.2; omega) (fun z => ?_) (fun z => ?_)
  · have hz := e0.mp z
    have hq : (if cnd .ne x y then a.toNat else pc + 3) = a.toNat := if_pos (decide_eq_true hz)
    rw [← hq]
    exact hk _ _ _ _ _ hL hLo (okS_tl (okS_tl hSo)) hH hc1 hc2
  · have hz := fun q => (e0.mpr q) z
    have hq : (if cnd .ne x y then a.toNat else pc + 3) = pc + 3 := if_neg (fun q => hz (of_decide_eq_true q))
    rw [← hq]
    exact hk _ _ _ _ _ hL hLo (okS_tl (okS_tl hSo)) hH hc1 hc2
theorem s_if_lt {n : Int} : SG p l e R s m args below meth c H locs cells slots Q G M pc (.ifCond .lt n, nx, a, b, cw, w) L S sh mm ls q k0 s0 := by
  intro hC hE hO hr hs hL hLo hSo hH hc1 hc2 hR hk
  obtain ⟨hdg, hnx, hr⟩ := row_dg (n := 2) hr rfl
  change decode M.2.1 pc = .ok (_, 3) at hdg
  change nx = pc + 3 at hnx
  subst hnx
  unfold rowL at hr
  simp only [Bool.and_eq_true, decide_eq_true_eq] at hr
  simp only [stp, Option.bind_eq_bind, Option.bind_eq_some_iff, Prod.exists] at hs
  obtain ⟨x, S1, h1, hs⟩ := hs
  obtain rfl := pp_some h1
  have hx := (okS_hd hSo).1 rfl
  simp only [Option.some.injEq] at hs
  subst hs
  have e0 := i32_lt hx in32_0
  rw [i32_0] at e0
  refine lv_if_lt (tgt := a.toNat) hC.1 hC.2.1 hdg (by have := hr.1; have := hr.2; omega) (fun z => ?_) (fun z => ?_)
  · have hz := e0.mp z
    have hq : (if cnd .lt x 0 then a.toNat else pc + 3) = a.toNat := if_pos (decide_eq_true hz)
    rw [← hq]
    exact hk _ _ _ _ _ hL hLo (okS_tl hSo) hH hc1 hc2
  · have hz := fun q => z (e0.mpr q)
    have hq : (if cnd .lt x 0 then a.toNat else pc + 3) = pc + 3 := if_neg (fun q => hz (of_decide_eq_true q))
    rw [← hq]
    exact hk _ _ _ _ _ hL hLo (okS_tl hSo) hH hc1 hc2
theorem s_icmp_lt {n : Int} : SG p l e R s m args below meth c H locs cells slots Q G M pc (.if_icmp .lt n, nx, a, b, cw, w) L S sh mm ls q k0 s0 := by
  intro hC hE hO hr hs hL hLo hSo hH hc1 hc2 hR hk
  obtain ⟨hdg, hnx, hr⟩ := row_dg (n := 2) hr rfl
  change decode M.2.1 pc = .ok (_, 3) at hdg
  change nx = pc + 3 at hnx
  subst hnx
  unfold rowL at hr
  simp only [Bool.and_eq_true, decide_eq_true_eq] at hr
  simp only [stp, Option.bind_eq_bind, Option.bind_eq_some_iff, Prod.exists] at hs
  obtain ⟨y, S1, h1, x, S2, h2, hs⟩ := hs
  obtain rfl := pp_some h1
  obtain rfl := pp_some h2
  have hy := (okS_hd hSo).1 rfl
  have hx := (okS_hd (okS_tl hSo)).1 rfl
  simp only [Option.some.injEq] at hs
  subst hs
  have e0 := i32_lt hx hy
  refine lv_icmp_lt (tgt := a.toNat) hC.1 hC.2.1 hdg (by have := hr.1; have := hr.2; omega) (fun z => ?_) (fun z => ?_)
  · have hz := e0.mp z
    have hq : (if cnd .lt x y then a.toNat else pc + 3) = a.toNat := if_pos (decide_eq_true hz)
    rw [← hq]
    exact hk _ _ _ _ _ hL hLo (okS_tl (okS_tl hSo)) hH hc1 hc2
  · have hz := fun q => z (e0.mpr q)
    have hq : (if cnd .lt x y then a.toNat else pc + 3) = pc + 3 := if_neg (fun q => hz (of_decide_eq_true q))
    rw [← hq]
    exact hk _ _ _ _ _ hL hLo (okS_tl (okS_tl hSo)) hH hc1 hc2
theorem s_if_ge {n : Int} : SG p l e R s m args below meth c H locs cells slots Q G M pc (.ifCond .ge n, nx, a, b, cw, w) L S sh mm ls q k0 s0 := by
  intro hC hE hO hr hs hL hLo hSo hH hc1 hc2 hR hk
  obtain ⟨hdg, hnx, hr⟩ := row_dg (n := 2) hr rfl
  change decode M.2.1 pc = .ok (_, 3) at hdg
  change nx = pc + 3 at hnx
  subst hnx
  unfold rowL at hr
  simp only [Bool.and_eq_true, decide_eq_true_eq] at hr
  simp only [stp, Option.bind_eq_bind, Option.bind_eq_some_iff, Prod.exists] at hs
  obtain ⟨x, S1, h1, hs⟩ := hs
  obtain rfl := pp_some h1
  have hx := (okS_hd hSo).1 rfl
  simp only [Option.some.injEq] at hs
  subst hs
  have e0 := i32_le in32_0 hx
  rw [i32_0] at e0
  refine lv_if_ge (tgt := a.toNat) hC.1 hC.2.1 hdg (by have := hr.1; have := hr.2; omega) (fun z => ?_) (fun z => ?_)
  · have hz := e0.mp z
    have hq : (if cnd .ge x 0 then a.toNat else pc + 3) = a.toNat := if_pos (decide_eq_true hz)
    rw [← hq]
    exact hk _ _ _ _ _ hL hLo (okS_tl hSo) hH hc1 hc2
  · have hz := fun q => z (e0.mpr q)
    have hq : (if cnd .ge x 0 then a.toNat else pc + 3) = pc + 3 := if_neg (fun q => hz (of_decide_eq_true q))
    rw [← hq]
    exact hk _ _ _ _ _ hL hLo (okS_tl hSo) hH hc1 hc2
theorem s_icmp_ge {n : Int} : SG p l e R s m args below meth c H locs cells slots Q G M pc (.if_icmp .ge n, nx, a, b, cw, w) L S sh mm ls q k0 s0 := by
  intro hC hE hO hr hs hL hLo hSo hH hc1 hc2 hR hk
  obtain ⟨hdg, hnx, hr⟩ := row_dg (n := 2) hr rfl
  change decode M.2.1 pc = .ok (_, 3) at hdg
  change nx = pc + 3 at hnx
  subst hnx
  unfold rowL at hr
  simp only [Bool.and_eq_true, decide_eq_true_eq] at hr
  simp only [stp, Option.bind_eq_bind, Option.bind_eq_some_iff, Prod.exists] at hs
  obtain ⟨y, S1, h1, x, S2, h2, hs⟩ := hs
  obtain rfl := pp_some h1
  obtain rfl := pp_some h2
  have hy := (okS_hd hSo).1 rfl
  have hx := (okS_hd (okS_tl hSo)).1 rfl
  simp only [Option.some.injEq] at hs
  subst hs
  have e0 := i32_le hy hx
  refine lv_icmp_ge (tgt := a.toNat) hC.1 hC.2.1 hdg (by have := hr.1; have := hr.2; omega) (fun z => ?_) (fun z => ?_)
  · have hz := e0.mp z
    have hq : (if cnd .ge x y then a.toNat else pc + 3) = a.toNat := if_pos (decide_eq_true hz)
    rw [← hq]
    exact hk _ _ _ _ _ hL hLo (okS_tl (okS_tl hSo)) hH hc1 hc2
  · have hz := fun q => z (e0.mpr q)
    have hq : (if cnd .ge x y then a.toNat else pc + 3) = pc + 3 := if_neg (fun q => hz (of_decide_eq_true q))
    rw [← hq]
    exact hk _ _ _ _ _ hL hLo (okS_tl (okS_tl hSo)) hH hc1 hc2
theorem s_if_gt {n : Int} : SG p l e R s m args below meth c H locs cells slots Q G M pc (.ifCond .gt n, nx, a, b, cw, w) L S sh mm ls q k0 s0 := by
  intro hC hE hO hr hs hL hLo hSo hH hc1 hc2 hR hk
  obtain ⟨hdg, hnx, hr⟩ := row_dg (n := 2) hr rfl
  change decode M.2.1 pc = .ok (_, 3) at hdg
  change nx = pc + 3 at hnx
  subst hnx
  unfold rowL at hr
  simp only [Bool.and_eq_true, decide_eq_true_eq] at hr
  simp only [stp, Option.bind_eq_bind, Option.bind_eq_some_iff, Prod.exists] at hs
  obtain ⟨x, S1, h1, hs⟩ := hs
  obtain rfl := pp_some h1
  have hx := (okS_hd hSo).1 rfl
  simp only [Option.some.injEq] at hs
  subst hs
  have e0 := i32_lt in32_0 hx
  rw [i32_0] at e0
  refine lv_if_gt (tgt := a.toNat) hC.1 hC.2.1 hdg (by have := hr.1; have := hr.2; omega) (fun z => ?_) (fun z => ?_)
  · have hz := e0.mp z
    have hq : (if cnd .gt x 0 then a.toNat else pc + 3) = a.toNat := if_pos (decide_eq_true hz)
    rw [← hq]
    exact hk _ _ _ _ _ hL hLo (okS_tl hSo) hH hc1 hc2
  · have hz := fun q => z (e0.mpr q)
    have hq : (if cnd .gt x 0 then a.toNat else pc + 3) = pc + 3 := if_neg (fun q => hz (of_decide_eq_true q))
    rw [← hq]
    exact hk _ _ _ _ _ hL hLo (okS_tl hSo) hH hc1 hc2
theorem s_icmp_gt {n : Int} : SG p l e R s m args below meth c H locs cells slots Q G M pc (.if_icmp .gt n, nx, a, b, cw, w) L S sh mm ls q k0 s0 := by
  intro hC hE hO hr hs hL hLo hSo hH hc1 hc2 hR hk
  obtain ⟨hdg, hnx, hr⟩ := row_dg (n := 2) hr rfl
  change decode M.2.1 pc = .ok (_, 3) at hdg
  change nx = pc + 3 at hnx
  subst hnx
  unfold rowL at hr
  simp only [Bool.and_eq_true, decide_eq_true_eq] at hr
  simp only [stp, Option.bind_eq_bind, Option.bind_eq_some_iff, Prod.exists] at hs
  obtain ⟨y, S1, h1, x, S2, h2, hs⟩ := hs
  obtain rfl := pp_some h1
  obtain rfl := pp_some h2
  have hy := (okS_hd hSo).1 rfl
  have hx := (okS_hd (okS_tl hSo)).1 rfl
  simp only [Option.some.injEq] at hs
  subst hs
  have e0 := i32_lt hy hx
  refine lv_icmp_gt (tgt := a.toNat) hC.1 hC.2.1 hdg (by have := hr.1; have := hr.2; omega) (fun z => ?_) (fun z => ?_)
  · have hz := e0.mp z
    have hq : (if cnd .gt x y then a.toNat else pc + 3) = a.toNat := if_pos (decide_eq_true hz)
    rw [← hq]
    exact hk _ _ _ _ _ hL hLo (okS_tl (okS_tl hSo)) hH hc1 hc2
  · have hz := fun q => z (e0.mpr q)
    have hq : (if cnd .gt x y then a.toNat else pc + 3) = pc + 3 := if_neg (fun q => hz (of_decide_eq_true q))
    rw [← hq]
    exact hk _ _ _ _ _ hL hLo (okS_tl (okS_tl hSo)) hH hc1 hc2
theorem s_if_le {n : Int} : SG p l e R s m args below meth c H locs cells slots Q G M pc (.ifCond .le n, nx, a, b, cw, w) L S sh mm ls q k0 s0 := by
  intro hC hE hO hr hs hL hLo hSo hH hc1 hc2 hR hk
  obtain ⟨hdg, hnx, hr⟩ := row_dg (n := 2) hr rfl
  change decode M.2.1 pc = .ok (_, 3) at hdg
  change nx = pc + 3 at hnx
  subst hnx
  unfold rowL at hr
  simp only [Bool.and_eq_true, decide_eq_true_eq] at hr
  simp only [stp, Option.bind_eq_bind, Option.bind_eq_some_iff, Prod.exists] at hs
  obtain ⟨x, S1, h1, hs⟩ := hs
  obtain rfl := pp_some h1
  have hx := (okS_hd hSo).1 rfl
  simp only [Option.some.injEq] at hs
  subst hs
  have e0 := i32_le hx in32_0
  rw [i32_0] at e0
  refine lv_if_le (tgt := a.toNat) hC.1 hC.2.1 hdg (by have := hr.1; have := hr.2; omega) (fun z => ?_) (fun z => ?_)
  · have hz := e0.mp z
    have hq : (if cnd .le x 0 then a.toNat else pc + 3) = a.toNat := if_pos (decide_eq_true hz)
    rw [← hq]
    exact hk _ _ _ _ _ hL hLo (okS_tl hSo) hH hc1 hc2
  · have hz := fun q => z (e0.mpr q)
    have hq : (if cnd .le x 0 then a.toNat else pc + 3) = pc + 3 := if_neg (fun q => hz (of_decide_eq_true q))
    rw [← hq]
    exact hk _ _ _ _ _ hL hLo (okS_tl hSo) hH hc1 hc2
theorem s_icmp_le {n : Int} : SG p l e R s m args below meth c H locs cells slots Q G M pc (.if_icmp .le n, nx, a, b, cw, w) L S sh mm ls q k0 s0 := by
  intro hC hE hO hr hs hL hLo hSo hH hc1 hc2 hR hk
  obtain ⟨hdg, hnx, hr⟩ := row_dg (n := 2) hr rfl
  change decode M.2.1 pc = .ok (_, 3) at hdg
  change nx = pc + 3 at hnx
  subst hnx
  unfold rowL at hr
  simp only [Bool.and_eq_true, decide_eq_true_eq] at hr
  simp only [stp, Option.bind_eq_bind, Option.bind_eq_some_iff, Prod.exists] at hs
  obtain ⟨y, S1, h1, x, S2, h2, hs⟩ := hs
  obtain rfl := pp_some h1
  obtain rfl := pp_some h2
  have hy := (okS_hd hSo).1 rfl
  have hx := (okS_hd (okS_tl hSo)).1 rfl
  simp only [Option.some.injEq] at hs
  subst hs
  have e0 := i32_le hx hy
  refine lv_icmp_le (tgt := a.toNat) hC.1 hC.2.1 hdg (by have := hr.1; have := hr.2; omega) (fun z => ?_) (fun z => ?_)
  · have hz := e0.mp z
    have hq : (if cnd .le x y then a.toNat else pc + 3) = a.toNat := if_pos (decide_eq_true hz)
    rw [← hq]
    exact hk _ _ _ _ _ hL hLo (okS_tl (okS_tl hSo)) hH hc1 hc2
  · have hz := fun q => z (e0.mpr q)
    have hq : (if cnd .le x y then a.toNat else pc + 3) = pc + 3 := if_neg (fun q => hz (of_decide_eq_true q))
    rw [← hq]
    exact hk _ _ _ _ _ hL hLo (okS_tl (okS_tl hSo)) hH hc1 hc2
theorem s_dup : SG p l e R s m args below meth c H locs cells slots Q G M pc (.dup, nx, a, b, cw, w) L S sh mm ls q k0 s0 := by
  intro hC hE hO hr hs hL hLo hSo hH hc1 hc2 hR hk
  obtain ⟨hdg, hnx, hr⟩ := row_dg (n := 0) hr rfl
  change decode M.2.1 pc = .ok (_, 1) at hdg
  change nx = pc + 1 at hnx
  subst hnx
  simp only [stp] at hs
  split at hs
  · rename_i v S1
    split at hs
    · cases hs
    · rename_i hv
      simp only [Option.some.injEq] at hs
      subst hs
      refine lv_dup hC.1 hC.2.1 hdg (by rw [cat_tv]; unfold ctg; rw [if_neg hv]) ?_
      exact hk _ _ _ _ _ hL hLo (okS_cons (okS_hd hSo) hSo) hH hc1 hc2
  · cases hs
theorem s_dup2 : SG p l e R s m args below meth c H locs cells slots Q G M pc (.dup2, nx, a, b, cw, w) L S sh mm ls q k0 s0 := by
  intro hC hE hO hr hs hL hLo hSo hH hc1 hc2 hR hk
  obtain ⟨hdg, hnx, hr⟩ := row_dg (n := 0) hr rfl
  change decode M.2.1 pc = .ok (_, 1) at hdg
  change nx = pc + 1 at hnx
  subst hnx
  simp only [stp] at hs
  split at hs
  · rename_i v v2 S1
    split at hs
    · cases hs
    · rename_i hv
      have hv1 : ¬ v.1 = 1 := fun z => hv (Or.inl z)
      have hv2 : ¬ v2.1 = 1 := fun z => hv (Or.inr z)
      simp only [Option.some.injEq] at hs
      subst hs
      refine lv_dup2_11 hC.1 hC.2.1 hdg (by rw [cat_tv]; unfold ctg; rw [if_neg hv1]) (by rw [cat_tv]; unfold ctg; rw [if_neg hv2]) ?_
      exact hk _ _ _ _ _ hL hLo (okS_cons (okS_hd hSo) (okS_cons (okS_hd (okS_tl hSo)) hSo)) hH hc1 hc2
  · cases hs
theorem s_pop : SG p l e R s m args below meth c H locs cells slots Q G M pc (.pop, nx, a, b, cw, w) L S sh mm ls q k0 s0 := by
  intro hC hE hO hr hs hL hLo hSo hH hc1 hc2 hR hk
  obtain ⟨hdg, hnx, hr⟩ := row_dg (n := 0) hr rfl
  change decode M.2.1 pc = .ok (_, 1) at hdg
  change nx = pc + 1 at hnx
  subst hnx
  simp only [stp] at hs
  split at hs
  · rename_i v S1
    split at hs
    · cases hs
    · rename_i hv
      simp only [Option.some.injEq] at hs
      subst hs
      refine lv_pop hC.1 hC.2.1 hdg (by rw [cat_tv]; unfold ctg; rw [if_neg hv]) ?_
      exact hk _ _ _ _ _ hL hLo (okS_tl hSo) hH hc1 hc2
  · cases hs
theorem s_pop2 : SG p l e R s m args below meth c H locs cells slots Q G M pc (.pop2, nx, a, b, cw, w) L S sh mm ls q k0 s0 := by
  intro hC hE hO hr hs hL hLo hSo hH hc1 hc2 hR hk
  obtain ⟨hdg, hnx, hr⟩ := row_dg (n := 0) hr rfl
  change decode M.2.1 pc = .ok (_, 1) at hdg
  change nx = pc + 1 at hnx
  subst hnx
  simp only [stp] at hs
  split at hs
  · rename_i v S1
    split at hs
    · rename_i hv
      simp only [Option.some.injEq] at hs
      subst hs
      refine lv_pop2_2 hC.1 hC.2.1 hdg (by rw [cat_tv]; unfold ctg; rw [if_pos hv]) ?_
      exact hk _ _ _ _ _ hL hLo (okS_tl hSo) hH hc1 hc2
    · cases hs
  · cases hs
end ST
