/-! the JDK's own methods: Object.<init>, arraycopy, max, min; of texts: length, charAt by their contracts -/
def jOk (M : MR) : Bool :=
  match M with
  | (y, _, ml, rt, (np, sty, _, _), (p1, p2, p3, p4)) =>
    codeAt p1 y ml rt && wAt p2 (if sty = 0 then .static y else .instanceMethod y) && (if sty = 1 then wAt p3 (.selects y.cls y y) else true) && wAt p4 (.initialized y.cls)
      && decide (y.cls ≠ "java/lang/invoke/MethodHandle") && decide (y.cls ≠ "java/lang/invoke/VarHandle") && decide ((parseMethodDescriptor y.desc).map (fun d => d.parameters.length) = some np) && plainName y.cls && decide (ml ≤ 20)
set_option maxRecDepth 100000 in
set_option maxHeartbeats 0 in
theorem j_all : jtab.all jOk = true := by decide +kernel
theorem j_cwd : ∀ M ∈ jtab, M.2.1 = cwd M.2.2.2.2.2.1 := by
  unfold jtab
  intro M h
  simp only [List.mem_cons, List.not_mem_nil, or_false] at h
  rcases h with rfl | rfl | rfl | rfl | rfl | rfl | rfl <;> rfl
theorem j_facts {M : MR} (h : M ∈ jtab) : Cond.code M.1 M.2.1 M.2.2.1 M.2.2.2.1 ∈ lw_tbl ∧ (if M.2.2.2.2.1.2.1 = 0 then Cond.static M.1 ∈ lw_tbl else Cond.instanceMethod M.1 ∈ lw_tbl) ∧ (M.2.2.2.2.1.2.1 = 1 → Cond.selects M.1.cls M.1 M.1 ∈ lw_tbl) ∧ Cond.initialized M.1.cls ∈ lw_tbl
    ∧ M.1.cls ≠ "java/lang/invoke/MethodHandle" ∧ M.1.cls ≠ "java/lang/invoke/VarHandle" ∧ (parseMethodDescriptor M.1.desc).map (fun d => d.parameters.length) = some M.2.2.2.2.1.1 ∧ plainName M.1.cls = true ∧ M.2.2.1 ≤ 20 := by
  have h1 := List.all_eq_true.mp j_all M h
  have h2 := j_cwd M h
  obtain ⟨y, bb, ml, rt, ⟨np, sty, ci, bo⟩, p1, p2, p3, p4⟩ := M
  unfold jOk at h1
  simp only [Bool.and_eq_true, decide_eq_true_eq] at h1
  obtain ⟨⟨⟨⟨⟨⟨⟨⟨a1, a2⟩, a3⟩, a4⟩, a5⟩, a6⟩, a7⟩, a8⟩, a9⟩ := h1
  dsimp only at h2 ⊢
  refine ⟨by rw [h2]; exact codeAt_in a1, ?_, fun z => ?_, wAt_in a4, a5, a6, a7, a8, a9⟩
  · have := wAt_in a2
    by_cases z : sty = 0
    · rw [if_pos z] at this ⊢; exact this
    · rw [if_neg z] at this ⊢; exact this
  · rw [if_pos z] at a3
    exact wAt_in a3
def jM (k : Nat) : MR := jtab.getD k (⟨"", "", ""⟩, code, 0, none, (0, 0, 0, 0), (0, 0, 0, 0))
theorem jM_in : ∀ k, k < 7 → jM k ∈ jtab := by
  intro k hk
  unfold jM
  have h7 : jtab.length = 7 := rfl
  rw [List.getD_eq_getElem?_getD, List.getElem?_eq_getElem (by omega)]
  exact List.getElem_mem (by omega)
def rmJ (n : Nat) : Room := { frames := n, cells := 0, slots := 0, locals := 40 * n }
def SLH (l : Launch) (G : GG) : Prop := ∀ (k n : Nat), slen k = some n → Met l (jM 0).1 (wsM (jM 0)) (rmJ 3) (va_Pc [.ref (G.2.2.1 k)] (fun U => SO G U U.heap)) (QcRead (Int32.ofInt (n : Int))) 0 0 (fun _ => False)
def SCH (l : Launch) (G : GG) : Prop := ∀ (k i : Nat) (c : Int), sch k i = some c → i < 2147483648 → Met l (jM 1).1 (wsM (jM 1)) (rmJ 3) (va_Pc [.ref (G.2.2.1 k), .int (Int32.ofInt (i : Int))] (fun U => SO G U U.heap)) (QcRead (Int32.ofInt c)) 0 0 (fun _ => False)
theorem SO_calling {G : GG} {U : State} {g : JFrame} {mk : MethodId} {a : Array Value} (h : SO G U U.heap) : SO G (U.calling g mk a) (U.calling g mk a).heap := (SO.moved (Vm.Alike.refl U.vm) h : SO G (U.calling g mk a) U.heap)
section SP
variable {p : Program} {l : Launch} {e : Env} {R : Room} {s : State} {m : MethodId} {args : Array Value} {below : List Frame} {meth : Method} {c : Code} {H : Heap} {locs : List Loc} {cells slots : Nat} {Q : State → Prop}
variable {G : GG} {M : MR} {pc nx b cw w : Nat} {a : Int} {L S : List AV} {sh : List Kd} {mm : Mm} {ls : Array Slot} {q : St5} {k0 s0 : Nat}
/-- a whole object written anew -/
theorem HR_set {o : Nat} {kd : Kd} {en : va_E} {m' : Mm} {H1 : Heap} {locs1 : List Loc} (hH : HR G sh mm s H locs) (h0 : 0 < o) (ho : sh[o]? = some kd) (hm : ∀ p j, p ≠ o → m' p j = mm p j) (he : en = ent G kd (m' o)) (hv : ∀ i, i < kd.2 → okc kd i (m' o i))
    (hP : va_P G.2.2.2.1 cls ((wsO G sh mm).set (o - 1) (G.1 + (o - 1), en)) H1) (hS : va_S (AZ G) s.heap H1 locs1) : HR G sh m' s H1 locs1 := by
  obtain ⟨-, -, h4, h5, h6, h7⟩ := hH
  have hl : o < sh.length := (List.getElem?_eq_some_iff.mp ho).1
  refine ⟨?_, hS, h4, fun p kd' hk i hi => ?_, h6.to rfl (fun j => hm 0 j (by omega)), h7⟩
  · subst he
    have e1 : (wsO G sh mm).set (o - 1) (G.1 + (o - 1), ent G kd (m' o)) = wsO G sh m' := by
      apply List.ext_getElem?
      intro k
      rw [List.getElem?_set]
      by_cases hk : o - 1 = k
      · subst hk
        rw [if_pos rfl, if_pos (by rw [wsO_len]; omega), wsO_get G _ h0 ho]
      · rw [if_neg hk]
        unfold wsO
        rw [List.getElem?_map, List.getElem?_map]
        cases hr : (List.range (sh.length - 1))[k]? with
        | none => rfl
        | some i2 =>
          obtain ⟨h1, h2⟩ := List.getElem?_eq_some_iff.mp hr
          rw [List.getElem_range] at h2
          subst h2
          have e2 : m' (k + 1) = mm (k + 1) := by
            funext j
            exact hm _ j (by omega)
          simp only [Option.map_some, e2]
    rw [e1] at hP
    exact hP
  · by_cases hp : p = o
    · subst hp
      cases ho.symm.trans hk
      exact hv i hi
    · rw [hm p i hp]
      exact h5 p kd' hk i hi
theorem lk_sp {own : String} {i : Nat} {a : Int} {b cw w : Nat} (h : mtdOk own i a b cw w = true) (h0 : a < 0) : Cond.methodLink own i (spY a) ∈ lw_tbl := by
  unfold mtdOk at h
  rw [if_neg (by omega)] at h
  exact wAt_in h
theorem s_objinit {i : Nat} : SG p l e R s m args below meth c H locs cells slots Q G M pc (.invokespecial i, nx, a, b, cw, w) L S sh mm ls q k0 s0 := by
  intro hC hE hO hr hs hL hLo hSo hH hc1 hc2 hR hk
  obtain ⟨hdg, hnx, hrl⟩ := row_dg (n := 2) hr rfl
  change decode M.2.1 pc = .ok (_, 3) at hdg
  change nx = pc + 3 at hnx
  subst hnx
  simp only [stp] at hs
  split at hs
  rotate_left
  · cases hs
  rename_i ha
  subst ha
  unfold spc at hs
  rw [if_pos rfl] at hs
  simp only [Option.bind_eq_bind, Option.bind_eq_some_iff, Prod.exists] at hs
  obtain ⟨o, S1, h1, hs⟩ := hs
  obtain rfl := pp_some h1
  split at hs
  rotate_left
  · cases hs
  rename_i hcs
  simp only [Option.some.injEq] at hs
  subst hs
  have hi := sp_in
  have hl := lk_sp (show mtdOk M.1.cls i (-1) b cw w = true from hrl) (by decide)
  rw [hi.2.2.2.2.2.2.2.2.2.2.2.2.2.2.2.2.2.2.2.2.1] at hl
  refine W.objInit hC.1 hC.2.1 hC.2.2.2.1 (hC.2.2.2.2.1 _ (lwG_in hl rfl)) (hC.2.2.2.2.1 _ (lwG_in hi.2.2.2.2.2.2.2.2.1 rfl)) (hC.2.2.2.2.1 _ (lwG_in hi.2.2.2.2.2.2.2.2.2.1 rfl)) (g := F0 m pc ls (((2, o) :: S1).map (tv G))) (rest := S1.map (tv G)) rfl (hL.2.1.trans hC.2.2.1.symm) rfl hdg (by have := hR.1; omega) ?_ ?_
  · have h2 := csum_tv G S1
    have h3 := hR.2.1
    show 2 * 0 + (List.map (fun v => v.category) (S1.map (tv G))).sum + 12 ≤ R.locals
    rw [h2]
    omega
  · exact hk _ _ _ _ _ hL hLo (okS_tl hSo) hH hc1 hc2
theorem cpy_i {m : Mm} {f g sp dp n : Nat} : va_cpy (fun j => Int32.ofInt (m f j)) (fun j => Int32.ofInt (m g j)) sp dp n = fun j => Int32.ofInt (if dp ≤ j ∧ j < dp + n then m f (sp + (j - dp)) else m g j) := by
  funext j
  unfold va_cpy
  split <;> rfl
theorem cpy_l {m : Mm} {f g sp dp n : Nat} : va_cpy (fun j => Int64.ofInt (m f j)) (fun j => Int64.ofInt (m g j)) sp dp n = fun j => Int64.ofInt (if dp ≤ j ∧ j < dp + n then m f (sp + (j - dp)) else m g j) := by
  funext j
  unfold va_cpy
  split <;> rfl
set_option maxHeartbeats 2000000 in
theorem s_static {i : Nat} : SG p l e R s m args below meth c H locs cells slots Q G M pc (.invokestatic i, nx, a, b, cw, w) L S sh mm ls q k0 s0 := by
  intro hC hE hO hr hs hL hLo hSo hH hc1 hc2 hR hk
  obtain ⟨hdg, hnx, hrl⟩ := row_dg (n := 2) hr rfl
  change decode M.2.1 pc = .ok (_, 3) at hdg
  change nx = pc + 3 at hnx
  subst hnx
  simp only [stp] at hs
  split at hs
  rotate_left
  · cases hs
  rename_i ha
  have hi := sp_in
  have hl := lk_sp (show mtdOk M.1.cls i a b cw w = true from hrl) (by omega)
  have hml : c.maxLocals = ls.size := hC.2.2.1.trans hL.2.1.symm
  have hr1 := hR.1
  have hr2 := hR.2.1
  have hcR : cells ≤ R.cells ∨ True := Or.inr trivial
  unfold spc at hs
  rw [if_neg (by omega)] at hs
  by_cases a2 : a = -2
  · subst a2
    rw [if_pos rfl] at hs
    simp only [Option.bind_eq_bind, Option.bind_eq_some_iff, Prod.exists] at hs
    obtain ⟨n, S1, h1, dp, S2, h2, g, S3, h3, sp, S4, h4, f, S5, h5, k1, k2, h6, k3, k4, h7, hs⟩ := hs
    obtain rfl := pp_some h1
    obtain rfl := pp_some h2
    obtain rfl := pp_some h3
    obtain rfl := pp_some h4
    obtain rfl := pp_some h5
    split at hs
    rotate_left
    · simp at hs
    rename_i hcond
    obtain ⟨g1, g2, g3, g4, g5, g6, g7, g8, g9, g10⟩ := hcond
    simp only [Option.some.injEq] at hs
    subst hs
    have hn := (okS_hd hSo).1 rfl
    have hdp := (okS_hd (okS_tl hSo)).1 rfl
    have hsp := (okS_hd (okS_tl (okS_tl (okS_tl hSo)))).1 rfl
    have hSt := okS_tl (okS_tl (okS_tl (okS_tl (okS_tl hSo))))
    have rf := ref_adr (G := G) g2 h6 hH.2.2.2.2.2
    have rg := ref_adr (G := G) g3 h7 hH.2.2.2.2.2
    have hWf := wsO_get G mm (o := f.toNat) (by omega) h6
    have hWg := wsO_get G mm (o := g.toNat) (by omega) h7
    rw [hi.2.2.2.2.2.2.2.2.2.2.2.2.2.2.2.2.2.2.2.2.2.1] at hl
    rw [List.map_cons, List.map_cons, List.map_cons, List.map_cons, List.map_cons, rf, rg]
    have nn := i32_nat hn
    have nd := i32_nat hdp
    have ns := i32_nat hsp
    dsimp only at nn nd ns
    have hwd : (List.map (fun v => v.category) (S5.map (tv G))).sum + (nativeFrameWords "java/lang/System" "arraycopy" 5 + 11) ≤ R.locals := by
      have := hi.2.2.2.2.2.2.2.2.2.2.2.2.2.2.2.2.2.2.2.2.2.2.2.2.2.2
      rw [csum_tv]
      omega
    have hw1 := hC.2.2.2.2.1 _ (lwG_in hi.2.2.2.2.2.2.2.2.2.2.1 hi.2.2.2.2.2.2.2.2.2.2.2.2.2.2.2.2.2.2.2.2.2.2.2.2.2.1)
    have hw2 := hC.2.2.2.2.1 _ (lwG_in hi.2.2.2.2.2.2.2.2.2.2.2.1 rfl)
    have hw3 := hC.2.2.2.2.1 _ (lwG_in hi.2.2.2.2.2.2.2.2.2.2.2.2.1 rfl)
    subst g4
    rcases g5 with rfl | rfl
    · rw [ent_int] at hWf hWg
      refine va_copyi hC.1 hC.2.1 hml hC.2.2.2.1 (hC.2.2.2.2.1 _ (lwG_in hl rfl)) hw1 hw2 hw3 hE.1 hH.1 (wsO_D G sh mm) hH.2.1 _ _ 0 0 hWf hWg (tys_at G).1 (tys_at G).1 rfl (sp := Int32.ofInt sp) (dp := Int32.ofInt dp) (n := Int32.ofInt n) (i32_nlt hsp g7) (i32_nlt hdp g8) (i32_nlt hn g6) (by rw [ns, nn]; exact g9) (by rw [nd, nn]; exact g10) (fun _ _ => rfl) (by omega) hwd hdg (fun H1 locs1 hP _ hS => ?_)
      refine hk _ _ _ _ _ hL hLo hSt (HR_set hH (by omega) h7 (fun p j hp => if_neg hp) ?_ ?_ hP hS) hc1 hc2
      · rw [ns, nd, nn, ent_int, cpy_i]
        simp only [↓reduceIte]
      · intro i2 hi2
        dsimp only
        rw [if_pos rfl]
        split
        · exact hH.2.2.2.1 _ _ h6 _ (by dsimp only; omega)
        · exact hH.2.2.2.1 _ _ h7 _ hi2
    · rw [ent_long] at hWf hWg
      refine va_copyl hC.1 hC.2.1 hml hC.2.2.2.1 (hC.2.2.2.2.1 _ (lwG_in hl rfl)) hw1 hw2 hw3 hE.1 hH.1 (wsO_D G sh mm) hH.2.1 _ _ 1 1 hWf hWg (tys_at G).2.1 (tys_at G).2.1 rfl (sp := Int32.ofInt sp) (dp := Int32.ofInt dp) (n := Int32.ofInt n) (i32_nlt hsp g7) (i32_nlt hdp g8) (i32_nlt hn g6) (by rw [ns, nn]; exact g9) (by rw [nd, nn]; exact g10) (fun _ _ => rfl) (by omega) hwd hdg (fun H1 locs1 hP _ hS => ?_)
      refine hk _ _ _ _ _ hL hLo hSt (HR_set hH (by omega) h7 (fun p j hp => if_neg hp) ?_ ?_ hP hS) hc1 hc2
      · rw [ns, nd, nn, ent_long, cpy_l]
        simp only [↓reduceIte]
      · intro i2 hi2
        dsimp only
        rw [if_pos rfl]
        split
        · exact hH.2.2.2.1 _ _ h6 _ (by dsimp only; omega)
        · exact hH.2.2.2.1 _ _ h7 _ hi2
  rw [if_neg a2] at hs
  have hcl : ∀ q : St5, RM R k0 s0 q → q.2.2.2.1 = sh → cells ≤ R.cells ∧ slots ≤ R.slots := by
    intro q hq he
    have h1 := hq.2.2.1
    have h2 := hq.2.2.2
    rw [he] at h1 h2
    omega
  by_cases a3 : a = -3
  · subst a3
    rw [if_pos rfl] at hs
    simp only [Option.bind_eq_bind, Option.bind_eq_some_iff, Prod.exists] at hs
    obtain ⟨y, S1, h1, x, S2, h2, hs⟩ := hs
    obtain rfl := pp_some h1
    obtain rfl := pp_some h2
    split at hs
    rotate_left
    · cases hs
    rename_i hcs
    simp only [Option.some.injEq] at hs
    subst hs
    have hy := (okS_hd hSo).1 rfl
    have hx := (okS_hd (okS_tl hSo)).1 rfl
    have hq := hcl _ hR rfl
    rw [hi.2.2.2.2.2.2.2.2.2.2.2.2.2.2.2.2.2.2.2.2.2.2.1] at hl
    refine va_mmax hC.1 hC.2.1 hml hC.2.2.2.1 (hC.2.2.2.2.1 _ (lwG_in hl rfl)) (hC.2.2.2.2.1 _ (lwG_in hi.2.2.2.2.2.2.2.2.2.2.2.2.2.1 rfl)) (hC.2.2.2.2.1 _ (lwG_in hi.2.2.2.2.2.2.2.2.2.2.2.2.2.2.2.2.2.2.2.1 rfl)) (hC.2.2.2.2.1 _ (lwG_in hi.2.2.2.2.2.2.2.2.2.2.2.2.2.2.1 rfl)) (by omega) (by rw [csum_tv]; omega) hq.1 hq.2 (x := Int32.ofInt x) (y := Int32.ofInt y) hdg ?_
    rw [i32_max hx hy]
    refine hk _ _ _ _ _ hL hLo (okS_cons (ok_i ?_) (okS_tl (okS_tl hSo))) hH hc1 hc2
    dsimp only at hx hy
    unfold in32 at hx hy ⊢
    omega
  rw [if_neg a3] at hs
  by_cases a4 : a = -4
  · subst a4
    rw [if_pos rfl] at hs
    simp only [Option.bind_eq_bind, Option.bind_eq_some_iff, Prod.exists] at hs
    obtain ⟨y, S1, h1, x, S2, h2, hs⟩ := hs
    obtain rfl := pp_some h1
    obtain rfl := pp_some h2
    split at hs
    rotate_left
    · cases hs
    rename_i hcs
    simp only [Option.some.injEq] at hs
    subst hs
    have hy := (okS_hd hSo).1 rfl
    have hx := (okS_hd (okS_tl hSo)).1 rfl
    have hq := hcl _ hR rfl
    rw [hi.2.2.2.2.2.2.2.2.2.2.2.2.2.2.2.2.2.2.2.2.2.2.2.1] at hl
    refine va_mmin hC.1 hC.2.1 hml hC.2.2.2.1 (hC.2.2.2.2.1 _ (lwG_in hl rfl)) (hC.2.2.2.2.1 _ (lwG_in hi.2.2.2.2.2.2.2.2.2.2.2.2.2.2.2.1 rfl)) (hC.2.2.2.2.1 _ (lwG_in hi.2.2.2.2.2.2.2.2.2.2.2.2.2.2.2.2.2.2.2.1 rfl)) (hC.2.2.2.2.1 _ (lwG_in hi.2.2.2.2.2.2.2.2.2.2.2.2.2.2.2.2.1 rfl)) (by omega) (by rw [csum_tv]; omega) hq.1 hq.2 (x := Int32.ofInt x) (y := Int32.ofInt y) hdg ?_
    rw [i32_min hx hy]
    refine hk _ _ _ _ _ hL hLo (okS_cons (ok_i ?_) (okS_tl (okS_tl hSo))) hH hc1 hc2
    dsimp only at hx hy
    unfold in32 at hx hy ⊢
    omega
  rw [if_neg a4] at hs
  by_cases a5 : a = -5
  · subst a5
    rw [if_pos rfl] at hs
    simp only [Option.bind_eq_bind, Option.bind_eq_some_iff, Prod.exists] at hs
    obtain ⟨y, S1, h1, x, S2, h2, hs⟩ := hs
    obtain rfl := pp_some h1
    obtain rfl := pp_some h2
    split at hs
    rotate_left
    · cases hs
    rename_i hcs
    simp only [Option.some.injEq] at hs
    subst hs
    have hy := (okS_hd hSo).2 rfl
    have hx := (okS_hd (okS_tl hSo)).2 rfl
    have hq := hcl _ hR rfl
    rw [hi.2.2.2.2.2.2.2.2.2.2.2.2.2.2.2.2.2.2.2.2.2.2.2.2.1] at hl
    refine va_mmax_long hC.1 hC.2.1 hml hC.2.2.2.1 (hC.2.2.2.2.1 _ (lwG_in hl rfl)) (hC.2.2.2.2.1 _ (lwG_in hi.2.2.2.2.2.2.2.2.2.2.2.2.2.2.2.2.2.1 rfl)) (hC.2.2.2.2.1 _ (lwG_in hi.2.2.2.2.2.2.2.2.2.2.2.2.2.2.2.2.2.2.2.1 rfl)) (hC.2.2.2.2.1 _ (lwG_in hi.2.2.2.2.2.2.2.2.2.2.2.2.2.2.2.2.2.2.1 rfl)) (by omega) (by rw [csum_tv]; omega) hq.1 hq.2 (x := Int64.ofInt x) (y := Int64.ofInt y) hdg ?_
    rw [i64_max hx hy]
    refine hk _ _ _ _ _ hL hLo (okS_cons (ok_l ?_) (okS_tl (okS_tl hSo))) hH hc1 hc2
    dsimp only at hx hy
    unfold in64 at hx hy ⊢
    omega
  · exact absurd ha (by omega)
theorem cw_virt {M' : MR} {idx n : Nat} {own : String} {np : Nat} (hts : ∀ w ∈ lwG, w.before args s = true) (hl : Cond.methodLink own idx M'.1 ∈ lw_tbl) (h1 : Cond.code M'.1 M'.2.1 M'.2.2.1 M'.2.2.2.1 ∈ lw_tbl) (h2 : Cond.instanceMethod M'.1 ∈ lw_tbl) (hsel : Cond.selects M'.1.cls M'.1 M'.1 ∈ lw_tbl) (h3 : Cond.initialized M'.1.cls ∈ lw_tbl)
    (hd : M'.1.cls ≠ "java/lang/invoke/MethodHandle" ∧ M'.1.cls ≠ "java/lang/invoke/VarHandle" ∧ (parseMethodDescriptor M'.1.desc).map (fun d => d.parameters.length) = some np) (hR : n + 1 ≤ R.frames ∧ 8 + (M'.2.2.1 + 11) + 40 * n ≤ R.locals) :
    CallW R s args own M'.1.cls idx M'.1 M'.2.1 M'.2.2.1 M'.2.2.2.1 (wsM M') (rmJ n) 0 0 np :=
  cwV np hts (goodG (fun w hw => by
    unfold wsV at hw
    rcases List.mem_append.mp hw with hw | hw
    · simp only [List.mem_cons, List.not_mem_nil, or_false] at hw
      rcases hw with rfl | rfl | rfl | rfl
      · exact lwG_in hl rfl
      · exact lwG_in h2 rfl
      · exact lwG_in hsel rfl
      · exact lwG_in h3 rfl
    · exact wsM_in h1 w hw)) rfl rfl rfl ⟨rfl, hd⟩ hR
theorem slen_lt {k n : Nat} (h : slen k = some n) : k < 15 := by
  unfold slen at h
  cases hk : strF[k]? with
  | none => rw [hk] at h; cases h
  | some t => exact (List.getElem?_eq_some_iff.mp hk).1
theorem sch_lt {k n : Nat} {c : Int} (h : sch k n = some c) : k < 15 := by
  unfold sch at h
  cases hk : strF[k]? with
  | none => rw [hk] at h; cases h
  | some t => exact (List.getElem?_eq_some_iff.mp hk).1
theorem sch_in : ∀ (k i : Nat) (c : Int), sch k i = some c → 0 ≤ c ∧ c < 256 := by
  intro k i c h
  unfold sch at h
  cases hk : strF[k]? with
  | none => rw [hk] at h; cases h
  | some t =>
    rw [hk] at h
    dsimp only at h
    cases hc : t.toList[i]? with
    | none => rw [hc] at h; cases h
    | some ch =>
      rw [hc] at h
      simp only [Option.map_some, Option.some.injEq] at h
      have h1 : ∀ t ∈ strF, ∀ ch ∈ t.toList, ch.toNat < 256 := by decide +kernel
      have h2 := h1 t (List.mem_of_getElem? hk) ch (List.mem_of_getElem? hc)
      omega
theorem slen_in {k n : Nat} (h : slen k = some n) : n < 100 := by
  have h1 : ∀ t ∈ strF, t.length < 100 := by decide +kernel
  unfold slen at h
  cases hk : strF[k]? with
  | none => rw [hk] at h; cases h
  | some t =>
    rw [hk] at h
    simp only [Option.map_some, Option.some.injEq] at h
    rw [← h]
    exact h1 t (List.mem_of_getElem? hk)
theorem adr_str (G : GG) {o : Int} (h : 1000000 ≤ o) : tv G (2, o) = .ref (G.2.2.1 (o.toNat - 1000000)) := by
  show Value.ref (adr G o.toNat) = _
  unfold adr
  rw [if_pos (by omega)]
theorem s_virtual {i : Nat} (hSL : SLH l G) (hSC : SCH l G) : SG p l e R s m args below meth c H locs cells slots Q G M pc (.invokevirtual i, nx, a, b, cw, w) L S sh mm ls q k0 s0 := by
  intro hC hE hO hr hs hL hLo hSo hH hc1 hc2 hR hk
  obtain ⟨hdg, hnx, hrl⟩ := row_dg (n := 2) hr rfl
  change decode M.2.1 pc = .ok (_, 3) at hdg
  change nx = pc + 3 at hnx
  subst hnx
  simp only [stp] at hs
  split at hs
  rotate_left
  · cases hs
  rename_i ha
  have hl := lk_sp (show mtdOk M.1.cls i a b cw w = true from hrl) (by omega)
  have hr1 := hR.1
  have hr2 := hR.2.1
  have hcl : ∀ q : St5, RM R k0 s0 q → q.2.2.2.1 = sh → cells ≤ R.cells ∧ slots ≤ R.slots := by
    intro q hq he
    have h1 := hq.2.2.1
    have h2 := hq.2.2.2
    rw [he] at h1 h2
    omega
  unfold spc at hs
  rw [if_neg (by omega), if_neg (by omega), if_neg (by omega), if_neg (by omega), if_neg (by omega)] at hs
  obtain ⟨⟨adV, hO1⟩, -⟩ := id hO
  have hpin : ∀ av : List Value, ∀ U : State, U.heap = H → s.WarmedH U.vm → va_Pc av (fun U => SO G U U.heap) av.toArray U := fun av U hU hW => ⟨rfl, by show SO G U U.heap; rw [hU]; exact (hO.kept hH.2.1.2.1).moved hW.alike⟩
  have hfb : ∀ av : List Value, FrameBlind (va_Pc av (fun U => SO G U U.heap)) := fun av _ _ _ _ q => ⟨q.1, SO_calling q.2⟩
  rcases ha with rfl | rfl
  · rw [if_pos rfl] at hs
    simp only [Option.bind_eq_bind, Option.bind_eq_some_iff, Prod.exists] at hs
    obtain ⟨o, S1, h1, n, h2, hs⟩ := hs
    obtain rfl := pp_some h1
    split at hs
    rotate_left
    · cases hs
    rename_i hcond
    simp only [Option.some.injEq] at hs
    subst hs
    obtain ⟨f1, f2, f3, f4, f5, f6, f7, f8, f9⟩ := j_facts (jM_in 0 (by decide))
    have hcell := sK_recv hO1 (slen_lt h2) hH.2.1
    have hroom : (List.map (fun v => v.category) (S1.map (tv G))).sum ≤ 8 := by rw [csum_tv]; exact hcond.1
    rw [List.map_cons, adr_str G hcond.2]
    have hn := slen_in h2
    exact W.callR (W.runV (b := G.2.2.1 (o.toNat - 1000000)) (As := []) (rest := S1.map (tv G)) (C := (jM 0).1.cls) ⟨hC.1, hC.2.1, hC.2.2.1, hC.2.2.2.1, hC.2.2.2.2.1⟩ (hSL _ _ h2) (cw_virt (np := 0) hC.2.2.2.2.1 hl f1 f2 (f3 rfl) f4 ⟨f5, f6, f7⟩ ⟨by omega, by omega⟩) ⟨hfb _, hcell, hpin _⟩ (g := F0 m pc ls (.ref (G.2.2.1 (o.toNat - 1000000)) :: S1.map (tv G))) rfl rfl hL.2.1 rfl (lv_room hroom) hdg (hcl _ hR rfl)) (hk _ _ _ _ _ hL hLo (okS_cons (ok_i (show in32 (n : Int) by unfold in32; omega)) (okS_tl hSo)) hH hc1 hc2)
  · rw [if_neg (by decide), if_pos rfl] at hs
    simp only [Option.bind_eq_bind, Option.bind_eq_some_iff, Prod.exists] at hs
    obtain ⟨j, S0, h0, o, S1, h1, ch, h2, hs⟩ := hs
    obtain rfl := pp_some h0
    obtain rfl := pp_some h1
    split at hs
    rotate_left
    · cases hs
    rename_i hcond
    simp only [Option.some.injEq] at hs
    subst hs
    obtain ⟨g1, g2, g3⟩ := hcond
    have hj := (okS_hd hSo).1 rfl
    obtain ⟨f1, f2, f3, f4, f5, f6, f7, f8, f9⟩ := j_facts (jM_in 1 (by decide))
    have hcell := sK_recv hO1 (sch_lt h2) hH.2.1
    have hroom : (List.map (fun v => v.category) (S1.map (tv G))).sum ≤ 8 := by rw [csum_tv]; exact g1
    rw [List.map_cons, List.map_cons, adr_str G g2]
    have hjn : ((j.toNat : Nat) : Int) = j := by omega
    have hM := hSC _ j.toNat _ h2 (by dsimp only at hj; unfold in32 at hj; omega)
    rw [hjn] at hM
    have hn := sch_in _ _ _ h2
    exact W.callR (W.runV (b := G.2.2.1 (o.toNat - 1000000)) (As := [.int (Int32.ofInt j)]) (rest := S1.map (tv G)) (C := (jM 1).1.cls) ⟨hC.1, hC.2.1, hC.2.2.1, hC.2.2.2.1, hC.2.2.2.2.1⟩ hM (cw_virt (np := 1) hC.2.2.2.2.1 hl f1 f2 (f3 rfl) f4 ⟨f5, f6, f7⟩ ⟨by omega, by omega⟩) ⟨hfb _, hcell, hpin _⟩ (g := F0 m pc ls (.int (Int32.ofInt j) :: .ref (G.2.2.1 (o.toNat - 1000000)) :: S1.map (tv G))) rfl rfl hL.2.1 rfl (lv_room hroom) hdg (hcl _ hR rfl)) (hk _ _ _ _ _ hL hLo (okS_cons (ok_i (show in32 ch by unfold in32; omega)) (okS_tl (okS_tl hSo))) hH hc1 hc2)
end SP
