/-! calls -/
theorem lwG_good : ∀ w ∈ lwG, w ∈ lw_tbl ∧ goodWord w = true := fun w h => List.mem_filter.mp h
theorem goodG {ws : List Jvm.Cond} (h : ∀ w ∈ ws, w ∈ lwG) : GoodIn lwG ws := fun w hw => ⟨h w hw, good_of_word (lwG_good w (h w hw)).2⟩
/-- a callee's words: its code, and all good ones -/
def wsM (M : MR) : List Jvm.Cond := Cond.code M.1 M.2.1 M.2.2.1 M.2.2.2.1 :: lwG
theorem wsM_in {M : MR} (h : Cond.code M.1 M.2.1 M.2.2.1 M.2.2.2.1 ∈ lw_tbl) : ∀ w ∈ wsM M, w ∈ lwG := by
  intro w hw
  rcases List.mem_cons.mp hw with rfl | hw
  · exact lwG_in h rfl
  · exact hw
def rvl (G : GG) (v : AV) : Option Value := if v.1 = 9 then none else some (tv G v)
def Pin (G : GG) (sh : List Kd) (m : Mm) (U : State) : Prop :=
  EN G U ∧ SO G U U.heap ∧ va_P G.2.2.2.1 cls (wsO G sh m) U.heap ∧ U.heap.size + 1 = G.1 + sh.length ∧ 1 ≤ sh.length ∧ okm sh m ∧ XR G sh m U U.heap ∧ sh.length ≤ 1000000
def Pou (G : GG) (sh : List Kd) (m : Mm) (sh' : List Kd) (m' : Mm) (v : AV) (st t : State) : Prop :=
  va_P G.2.2.2.1 cls (wsO G sh' m') t.heap ∧ va_F (AZ G) st t ∧ okm sh' m' ∧ okv v ∧ 1 ≤ sh'.length ∧ sh'.length ≤ 1000000 ∧ sh'[0]? = sh[0]? ∧ (∀ j, m' 0 j = m 0 j) ∧ sh.length ≤ sh'.length ∧ tot sh ≤ tot sh'
theorem Pin.call {G : GG} {sh : List Kd} {m : Mm} {U : State} {g : JFrame} {mk : MethodId} {a : Array Value} (h : Pin G sh m U) : Pin G sh m (U.calling g mk a) := by
  obtain ⟨h1, h2, h3, h4, h5, h6, h7, h8⟩ := h
  have ha : U.vm.Alike (U.calling g mk a).vm := Vm.Alike.refl U.vm
  exact ⟨EN.same (s := U) rfl h1, (SO.moved ha h2 : SO G (U.calling g mk a) U.heap), h3, h4, h5, h6, (XR.moved ha h7 : XR G sh m (U.calling g mk a) U.heap), h8⟩
theorem FB_pin {G : GG} {sh : List Kd} {m : Mm} {av : List Value} : FrameBlind (va_Pc av (Pin G sh m)) := fun _ _ _ _ q => ⟨q.1, q.2.call⟩
def Ctr (l : Launch) (G : GG) (d : Nat) (M : MR) (As : List AV) (sh : List Kd) (m : Mm) (v : AV) (sh' : List Kd) (m' : Mm) : Prop :=
  Met l M.1 (wsM M) { frames := d + 5, cells := sh'.length - sh.length, slots := tot sh' - tot sh, locals := 60 * (d + 5) } (va_Pc (As.map (tv G)) (Pin G sh m)) (fun _ st oc t => oc = .returned (rvl G v) ∧ Pou G sh m sh' m' v st t) (sh'.length - sh.length) (tot sh' - tot sh) (AZ G)
section SC
variable {p : Program} {l : Launch} {e : Env} {R : Room} {s : State} {m : MethodId} {args : Array Value} {below : List Frame} {meth : Method} {c : Code} {H : Heap} {locs : List Loc} {cells slots : Nat} {Q : State → Prop}
variable {G : GG} {M : MR} {pc nx b cw w : Nat} {a : Int} {L S : List AV} {sh : List Kd} {mm : Mm} {ls : Array Slot} {q : St5} {k0 s0 : Nat}
theorem HR_pin {U : State} (hE : EN G s) (hO : SO G s s.heap) (hH : HR G sh mm s H locs) (hz : H.size + 1 = G.1 + sh.length) (hU : U.heap = H) (hW : s.WarmedH U.vm) : Pin G sh mm U := by
  obtain ⟨hP, hS, h4, h5, h6, h7⟩ := hH
  have kp : ∀ a : Nat, a < s.heap.size → ¬ AZ G a → H[a]? = s.heap[a]? := hS.2.1
  refine ⟨hE.warm hW, ?_, by rw [hU]; exact hP, by rw [hU]; exact hz, h4, h5, ?_, h7⟩
  · rw [hU]
    exact (hO.kept kp).moved hW.alike
  · rw [hU]
    exact (h6.kept hS.1 kp).moved hW.alike
/-- behind any call -/
theorem run_on {mc ms : Nat} {st0 : List Value} {rest : List AV} {v : AV} {sh' : List Kd} {mm' : Mm}
    (hH : HR G sh mm s H locs)
    (hr : va_Run p l e R s m args below meth c H locs cells slots mc ms (F0 m pc ls st0) (rest.map (tv G)) (fun st oc t => oc = .returned (rvl G v) ∧ Pou G sh mm sh' mm' v st t) (AZ G))
    (kk : ∀ (H1 : Heap) (locs1 : List Loc), okv v → HR G sh' mm' s H1 locs1 → W p l e R s m args below meth c H1 locs1 (cells + mc) (slots + ms) Q (F0 m (pc + 3) ls ((pushv v rest).map (tv G)))) :
    W p l e R s m args below meth c H locs cells slots Q (F0 m pc ls st0) := by
  intro T hT X
  obtain ⟨v', st₀, t, T', L, h0, X', hL, e1, e2, ⟨hv, h1, h2, h3, h4, h5, h6, h7, h8, h9, h10⟩, st⟩ := hr T hT X
  cases hv
  obtain ⟨hP, hS, q1, q2, q3, q4⟩ := hH
  have hS1 : va_S (AZ G) s.heap T'.heap (locs ++ L) := by
    refine ⟨Nat.le_trans hS.1 (by rw [e1, ← h0]; exact h2.1), fun y y1 y2 => ?_, fun y hy => ?_⟩
    · rw [e1, h2.2 y (by rw [h0]; exact Nat.lt_of_lt_of_le y1 hS.1) y2, h0]
      exact hS.2.1 y y1 y2
    · rcases List.mem_append.mp hy with z | z
      · exact hS.2.2 y z
      · exact hL y z
  obtain ⟨t2, a1, b1⟩ := kk T'.heap (locs ++ L) h4 ⟨by rw [e1]; exact h1, hS1, h5, h3, q3.to h7 h8, h6⟩ T' rfl X'
  refine ⟨t2, st t2 ?_, b1⟩
  have e3 : (rvl G v).toList ++ rest.map (tv G) = (pushv v rest).map (tv G) := by
    unfold rvl pushv
    by_cases z : v.1 = 9
    · rw [if_pos z, if_pos z]; rfl
    · rw [if_neg z, if_neg z]; rfl
  show Steps p.tables e below (T'.setTop { F0 m pc ls st0 with pc := pc + 3, stack := (rvl G v).toList ++ rest.map (tv G) }) t2
  rw [e3]
  exact a1
/-- a method's row and words -/
theorem mr_of {q : Nat × Nat × Nat × Nat × Nat} {qs : List (Nat × Nat × Nat × Nat × Nat)} {Ms : List MR} (h : mrA qs Ms = true) : ∀ (k : Nat) (M : MR), qs[k]? = some q → Ms[k]? = some M → mrOk q M = true := by
  induction qs generalizing Ms with
  | nil => intro k M h1; simp at h1
  | cons x xs ih =>
    intro k M h1 h2
    cases Ms with
    | nil => simp at h2
    | cons y ys =>
      simp only [mrA, Bool.and_eq_true] at h
      cases k with
      | zero =>
        simp only [List.getElem?_cons_zero, Option.some.injEq] at h1 h2
        subst h1; subst h2
        exact h.1
      | succ k =>
        simp only [List.getElem?_cons_succ] at h1 h2
        exact ih h.2 k M h1 h2
set_option maxRecDepth 100000 in
theorem mins_len : 316 < mins.length := by decide +kernel
theorem codeAt_0 (y : MethodName) (ml : Nat) (rt : Option FieldType) : codeAt 0 y ml rt = false := rfl
/-- what is known of a method that may be called -/
theorem mr_facts {k : Nat} {M : MR} (hk : k < 316) (h : mtab[k]? = some M) :
    Cond.code M.1 M.2.1 M.2.2.1 M.2.2.2.1 ∈ lw_tbl ∧ (if mS k = 0 then Cond.static M.1 ∈ lw_tbl else Cond.instanceMethod M.1 ∈ lw_tbl) ∧ (mS k = 1 → Cond.selects M.1.cls M.1 M.1 ∈ lw_tbl) ∧ Cond.initialized M.1.cls ∈ lw_tbl
    ∧ M.1.cls ≠ "java/lang/invoke/MethodHandle" ∧ M.1.cls ≠ "java/lang/invoke/VarHandle" ∧ (parseMethodDescriptor M.1.desc).map (fun d => d.parameters.length) = some M.2.2.2.2.1.1 ∧ plainName M.1.cls = true ∧ M.2.2.1 ≤ 40 ∧ mL k = M.2.2.1 ∧ mA k = (if mS k = 0 then M.2.2.2.2.1.1 else M.2.2.2.2.1.1 + 1)
    ∧ (mS k = 2 → M.1.name = "<init>" ∧ M.2.2.2.1 = none) ∧ ((M.2.2.2.1 = none ∧ mB k = 0) ∨ (M.2.2.2.1 = some .int ∧ mB k = 1) ∨ (M.2.2.2.1 = some .long ∧ mB k = 2) ∨ (M.2.2.2.1 = some .boolean ∧ mB k = 3) ∨ ∃ n, (M.2.2.2.1 = some (.object n) ∧ mB k = 4)) ∧ (mS k = 1 → ∃ C, clF[mK k]? = some C ∧ C.1 = M.1.cls) := by
  have hlen : k < mins.length := Nat.lt_trans hk mins_len
  have hq : mins[k]? = some mins[k] := List.getElem?_eq_getElem hlen
  have hq2 : (mins.take 316)[k]? = some mins[k] := by rw [List.getElem?_take_of_lt hk]; exact hq
  have h1 := mr_of mr_all k M hq2 h
  obtain ⟨y, bb, ml, rt, ⟨np, sty, ci, bo⟩, p1, p2, p3, p4⟩ := M
  unfold mrOk at h1
  simp only [Bool.and_eq_true, beq_iff_eq, decide_eq_true_eq] at h1
  obtain ⟨⟨⟨⟨⟨⟨⟨⟨⟨⟨⟨⟨h1, h2⟩, h3⟩, h4⟩, h5⟩, h6⟩, h7⟩, h8⟩, h9⟩, h10⟩, h11⟩, h12⟩, h13⟩ := h1
  have e1 : mS k = sty := by unfold mS; rw [hq]; show mins[k].2.2.1 = sty; rw [h1]
  have e2 : mK k = ci := by unfold mK; rw [hq]; show mins[k].2.2.2.1 = ci; rw [h1]
  have e3 : mB k = bo := by unfold mB; rw [hq]; show mins[k].2.2.2.2 = bo; rw [h1]
  have e4 : mL k = ml := by unfold mL; rw [hq]; show mins[k].1 = ml; rw [h1]
  have e5 : mA k = (if sty = 0 then np else np + 1) := by unfold mA; rw [hq]; show mins[k].2.1 = _; rw [h1]
  rw [e1, e2, e3, e4, e5]
  dsimp only
  have hcode : bb = cwd p1 := by
    obtain ⟨x, hx⟩ := mtab_R (List.mem_of_getElem? h)
    unfold mkR at hx
    simp only [Prod.mk.injEq] at hx
    obtain ⟨-, x2, -, -, -, x6⟩ := hx
    have x7 : x.2.2.2.2.1 = p1 := by rw [← x6]
    rw [x7] at x2
    by_cases z : p1 = 0
    · subst z
      rw [codeAt_0] at h2
      cases h2
    · rw [if_neg z] at x2
      exact x2
  refine ⟨by rw [hcode]; exact codeAt_in h2, ?_, fun z => ?_, wAt_in h5, h6, h7, h8, h9, h10, rfl, rfl, fun z => ?_, ?_, fun z => ?_⟩
  · have := wAt_in h3
    by_cases z : sty = 0
    · rw [if_pos z] at this ⊢; exact this
    · rw [if_neg z] at this ⊢; exact this
  · rw [if_pos z] at h4
    exact wAt_in h4
  · rw [if_pos z] at h11
    simp only [Bool.and_eq_true, decide_eq_true_eq] at h11
    exact h11
  · cases rt with
    | none => simp at h12; exact Or.inl ⟨rfl, h12⟩
    | some t =>
      cases t <;> simp at h12 <;> simp [h12]
  · rw [if_pos z] at h13
    split at h13
    · rename_i C hC
      exact ⟨C, hC, of_decide_eq_true h13⟩
    · cases h13
end SC
