/-! the JDK's own methods of texts: their contracts, out of their bytes -/
abbrev jStr : String := "java/lang/String"
def jlOk : Bool := match jlk with
  | [w0, w1, w2, w3, w4, w5, w6, w7, w8, w9, w10] =>
    wAt w0 (.fieldLink jStr 9 jStr "value" "[B") && wAt w1 (.fieldLink jStr 15 jStr "coder" "B") && wAt w2 (.fieldLink jStr 38 jStr "COMPACT_STRINGS" "Z") && wAt w3 (.fieldLink jStr 1053 "jdk/internal/util/Preconditions" "SIOOBE_FORMATTER" "Ljava/util/function/BiFunction;")
    && wAt w4 (.methodLink jStr 335 (jM 2).1) && wAt w5 (.methodLink jStr 492 (jM 3).1) && wAt w6 (.methodLink jStr 495 (jM 5).1) && wAt w7 (.methodLink jStr 1059 (jM 6).1) && wAt w8 (.methodLink "java/lang/StringLatin1" 9 (jM 4).1)
    && wAt w9 (.laysStatic jStr "COMPACT_STRINGS" "Z") && wAt w10 (.laysStatic "jdk/internal/util/Preconditions" "SIOOBE_FORMATTER" "Ljava/util/function/BiFunction;")
  | _ => false
set_option maxRecDepth 100000 in
set_option maxHeartbeats 0 in
theorem jl_ok : jlOk = true := by decide +kernel
theorem jl_in : Cond.fieldLink jStr 9 jStr "value" "[B" ∈ lw_tbl ∧ Cond.fieldLink jStr 15 jStr "coder" "B" ∈ lw_tbl ∧ Cond.fieldLink jStr 38 jStr "COMPACT_STRINGS" "Z" ∈ lw_tbl ∧ Cond.fieldLink jStr 1053 "jdk/internal/util/Preconditions" "SIOOBE_FORMATTER" "Ljava/util/function/BiFunction;" ∈ lw_tbl
    ∧ Cond.methodLink jStr 335 (jM 2).1 ∈ lw_tbl ∧ Cond.methodLink jStr 492 (jM 3).1 ∈ lw_tbl ∧ Cond.methodLink jStr 495 (jM 5).1 ∈ lw_tbl ∧ Cond.methodLink jStr 1059 (jM 6).1 ∈ lw_tbl ∧ Cond.methodLink "java/lang/StringLatin1" 9 (jM 4).1 ∈ lw_tbl
    ∧ Cond.laysStatic jStr "COMPACT_STRINGS" "Z" ∈ lw_tbl ∧ Cond.laysStatic "jdk/internal/util/Preconditions" "SIOOBE_FORMATTER" "Ljava/util/function/BiFunction;" ∈ lw_tbl := by
  have h := jl_ok
  unfold jlOk at h
  split at h
  · simp only [Bool.and_eq_true] at h
    obtain ⟨⟨⟨⟨⟨⟨⟨⟨⟨⟨h0, h1⟩, h2⟩, h3⟩, h4⟩, h5⟩, h6⟩, h7⟩, h8⟩, h9⟩, h10⟩ := h
    exact ⟨wAt_in h0, wAt_in h1, wAt_in h2, wAt_in h3, wAt_in h4, wAt_in h5, wAt_in h6, wAt_in h7, wAt_in h8, wAt_in h9, wAt_in h10⟩
  · cases h
theorem j_met {l : Launch} {k n : Nat} (hk : k < 7) {Pc : Array Value → State → Prop} {Qc : Array Value → State → Outcome → State → Prop}
    (body : ∀ (p : Program) (e : Env) (s : State) (m : MethodId) (args : Array Value) (below : List Frame) (meth : Method) (c : Code), p.tables.exec = Jvm.exec → c.code = (jM k).2.1 → meth.sig.returnType = (jM k).2.2.2.1 → c.maxLocals = (jM k).2.2.1 → s.vm.findClass (jM k).1.cls = some m.cls → (∀ w ∈ lwG, w.before args s = true) → meth.locks = false → Pc args s →
      W p l e (rmJ n) s m args below meth c s.heap [] 0 0 (MQ below Qc args s 0 0 (fun _ => False)) (entryFrame m args (jM k).2.2.1)) :
    Met l (jM k).1 (wsM (jM k)) (rmJ n) Pc Qc 0 0 (fun _ => False) := by
  obtain ⟨f1, f2, f3, f4, f5, f6, f7, f8, f9⟩ := j_facts (jM_in k hk)
  refine Met.ofW (cc := (jM k).2.1) (maxL := (jM k).2.2.1) (ret := (jM k).2.2.2.1) f8 rfl ?_
  intro p e s m args below meth c s₁ B hml hv
  have hts := atoms_spec (ws := wsM (jM k)) B.pre
  exact body p e s m args below meth c B.exec B.bytes B.returns hml (findClass_of_methodNamed B.named) (fun w hw => hts w (List.mem_cons_of_mem _ hw)) B.notSynchronized hv
theorem cw_stat {R : Room} {s : State} {args : Array Value} {M' : MR} {idx n : Nat} {own : String} {np : Nat} (hts : ∀ w ∈ lwG, w.before args s = true) (hl : Cond.methodLink own idx M'.1 ∈ lw_tbl) (h1 : Cond.code M'.1 M'.2.1 M'.2.2.1 M'.2.2.2.1 ∈ lw_tbl) (h2 : Cond.static M'.1 ∈ lw_tbl) (h3 : Cond.initialized M'.1.cls ∈ lw_tbl)
    (hd : M'.1.cls ≠ "java/lang/invoke/MethodHandle" ∧ M'.1.cls ≠ "java/lang/invoke/VarHandle" ∧ (parseMethodDescriptor M'.1.desc).map (fun d => d.parameters.length) = some np) (hR : n + 1 ≤ R.frames ∧ 8 + (M'.2.2.1 + 11) + 40 * n ≤ R.locals) :
    CallB R s args own idx M'.1 M'.2.1 M'.2.2.1 M'.2.2.2.1 (wsM M') (rmJ n) 0 0 np ∧ (Cond.static M'.1).before args s = true :=
  va_cwS np hts (goodG (fun w hw => by
    unfold va_wsS at hw
    rcases List.mem_append.mp hw with hw | hw
    · simp only [List.mem_cons, List.not_mem_nil, or_false] at hw
      rcases hw with rfl | rfl | rfl
      · exact lwG_in hl rfl
      · exact lwG_in h2 rfl
      · exact lwG_in h3 rfl
    · exact wsM_in h1 w hw)) rfl rfl rfl hd hR
/-! the bytes -/
theorem j0_0 : decode (jM 0).2.1 0 = .ok (.aload_n 0, 1) := by decide +kernel
theorem j0_1 : decode (jM 0).2.1 1 = .ok (.getfield 9, 3) := by decide +kernel
theorem j0_4 : decode (jM 0).2.1 4 = .ok (.arraylength, 1) := by decide +kernel
theorem j0_5 : decode (jM 0).2.1 5 = .ok (.aload_n 0, 1) := by decide +kernel
theorem j0_6 : decode (jM 0).2.1 6 = .ok (.invokevirtual 335, 3) := by decide +kernel
theorem j0_9 : decode (jM 0).2.1 9 = .ok (.ishr, 1) := by decide +kernel
theorem j0_10 : decode (jM 0).2.1 10 = .ok (.ireturn, 1) := by decide +kernel
theorem j1_0 : decode (jM 1).2.1 0 = .ok (.aload_n 0, 1) := by decide +kernel
theorem j1_1 : decode (jM 1).2.1 1 = .ok (.invokevirtual 492, 3) := by decide +kernel
theorem j1_4 : decode (jM 1).2.1 4 = .ok (.ifCond .eq 12, 3) := by decide +kernel
theorem j1_7 : decode (jM 1).2.1 7 = .ok (.aload_n 0, 1) := by decide +kernel
theorem j1_8 : decode (jM 1).2.1 8 = .ok (.getfield 9, 3) := by decide +kernel
theorem j1_11 : decode (jM 1).2.1 11 = .ok (.iload_n 1, 1) := by decide +kernel
theorem j1_12 : decode (jM 1).2.1 12 = .ok (.invokestatic 495, 3) := by decide +kernel
theorem j1_15 : decode (jM 1).2.1 15 = .ok (.ireturn, 1) := by decide +kernel
theorem j2_0 : decode (jM 2).2.1 0 = .ok (.getstatic 38, 3) := by decide +kernel
theorem j2_3 : decode (jM 2).2.1 3 = .ok (.ifCond .eq 10, 3) := by decide +kernel
theorem j2_6 : decode (jM 2).2.1 6 = .ok (.aload_n 0, 1) := by decide +kernel
theorem j2_7 : decode (jM 2).2.1 7 = .ok (.getfield 15, 3) := by decide +kernel
theorem j2_10 : decode (jM 2).2.1 10 = .ok (.goto 4, 3) := by decide +kernel
theorem j2_14 : decode (jM 2).2.1 14 = .ok (.ireturn, 1) := by decide +kernel
theorem j3_0 : decode (jM 3).2.1 0 = .ok (.getstatic 38, 3) := by decide +kernel
theorem j3_3 : decode (jM 3).2.1 3 = .ok (.ifCond .eq 14, 3) := by decide +kernel
theorem j3_6 : decode (jM 3).2.1 6 = .ok (.aload_n 0, 1) := by decide +kernel
theorem j3_7 : decode (jM 3).2.1 7 = .ok (.getfield 15, 3) := by decide +kernel
theorem j3_10 : decode (jM 3).2.1 10 = .ok (.ifCond .ne 7, 3) := by decide +kernel
theorem j3_13 : decode (jM 3).2.1 13 = .ok (.iconst 1, 1) := by decide +kernel
theorem j3_14 : decode (jM 3).2.1 14 = .ok (.goto 4, 3) := by decide +kernel
theorem j3_18 : decode (jM 3).2.1 18 = .ok (.ireturn, 1) := by decide +kernel
theorem j4_0 : decode (jM 4).2.1 0 = .ok (.iload_n 0, 1) := by decide +kernel
theorem j4_1 : decode (jM 4).2.1 1 = .ok (.iload_n 1, 1) := by decide +kernel
theorem j4_2 : decode (jM 4).2.1 2 = .ok (.getstatic 1053, 3) := by decide +kernel
theorem j4_5 : decode (jM 4).2.1 5 = .ok (.invokestatic 1059, 3) := by decide +kernel
theorem j4_8 : decode (jM 4).2.1 8 = .ok (.pop, 1) := by decide +kernel
theorem j4_9 : decode (jM 4).2.1 9 = .ok (.return_, 1) := by decide +kernel
theorem j5_0 : decode (jM 5).2.1 0 = .ok (.iload_n 1, 1) := by decide +kernel
theorem j5_1 : decode (jM 5).2.1 1 = .ok (.aload_n 0, 1) := by decide +kernel
theorem j5_2 : decode (jM 5).2.1 2 = .ok (.arraylength, 1) := by decide +kernel
theorem j5_3 : decode (jM 5).2.1 3 = .ok (.invokestatic 9, 3) := by decide +kernel
theorem j5_6 : decode (jM 5).2.1 6 = .ok (.aload_n 0, 1) := by decide +kernel
theorem j5_7 : decode (jM 5).2.1 7 = .ok (.iload_n 1, 1) := by decide +kernel
theorem j5_8 : decode (jM 5).2.1 8 = .ok (.baload, 1) := by decide +kernel
theorem j5_9 : decode (jM 5).2.1 9 = .ok (.sipush 255, 3) := by decide +kernel
theorem j5_12 : decode (jM 5).2.1 12 = .ok (.iand, 1) := by decide +kernel
theorem j5_13 : decode (jM 5).2.1 13 = .ok (.i2c, 1) := by decide +kernel
theorem j5_14 : decode (jM 5).2.1 14 = .ok (.ireturn, 1) := by decide +kernel
theorem j6_0 : decode (jM 6).2.1 0 = .ok (.iload_n 0, 1) := by decide +kernel
theorem j6_1 : decode (jM 6).2.1 1 = .ok (.ifCond .lt 8, 3) := by decide +kernel
theorem j6_4 : decode (jM 6).2.1 4 = .ok (.iload_n 0, 1) := by decide +kernel
theorem j6_5 : decode (jM 6).2.1 5 = .ok (.iload_n 1, 1) := by decide +kernel
theorem j6_6 : decode (jM 6).2.1 6 = .ok (.if_icmp .lt 10, 3) := by decide +kernel
theorem j6_16 : decode (jM 6).2.1 16 = .ok (.iload_n 0, 1) := by decide +kernel
theorem j6_17 : decode (jM 6).2.1 17 = .ok (.ireturn, 1) := by decide +kernel
abbrev SOp (G : GG) : State → Prop := fun U => SO G U U.heap
theorem FB_so {G : GG} {av : List Value} : FrameBlind (va_Pc av (SOp G)) := fun _ _ _ _ q => ⟨q.1, SO_calling q.2⟩
/-- String.coder -/
theorem jc_coder {l : Launch} {G : GG} {k : Nat} (n : Nat) (hk : k < 15) : Met l (jM 2).1 (wsM (jM 2)) (rmJ n) (va_Pc [.ref (G.2.2.1 k)] (SOp G)) (QcRead 0) 0 0 (fun _ => False) := by
  refine j_met (by decide) ?_
  intro p e s m args below meth c hx hb hr hml ho hts hlk hP
  obtain ⟨rfl, hO⟩ := hP
  obtain ⟨⟨adV, hV⟩, hCS, hSI⟩ := id hO
  have ho : s.vm.findClass jStr = some m.cls := ho
  rw [lg_entry_eq]
  have hlv := lv_entry [Value.ref (G.2.2.1 k)] (n := (jM 2).2.2.1) (by simp [lg_sl, Value.category]; decide)
  generalize (lg_sl [Value.ref (G.2.2.1 k)] ++ List.replicate ((jM 2).2.2.1 - (lg_sl [Value.ref (G.2.2.1 k)]).length) Slot.unset).toArray = ls at hlv ⊢
  have l0 : ls[0]? = some (.val (.ref (G.2.2.1 k))) := hlv.2.2 (0, .ref _) (by simp [lv_args])
  refine va_gets hx hb hCS va_S.rf ho (hts _ (lwG_in jl_in.2.2.1 rfl)) (fun _ h => h) j2_0 ?_
  refine lv_if_eq (tgt := 13) hx hb j2_3 (by decide) (fun z => absurd z (by decide)) (fun _ => ?_)
  refine lv_aload_n hx hb j2_6 rfl l0 ?_
  refine vk_getf hx hb (hV k hk).2.1 va_S.rf ho (hts _ (lwG_in jl_in.2.1 rfl)) (fun _ h => h) j2_7 ?_
  refine lv_goto (tgt := 14) hx hb j2_10 (by decide) ?_
  exact W.zret (ty := .byte) hx hb hr (by decide) (fun t ht _ => ⟨rfl, ht⟩) (fun _ h => by cases h) j2_14 (hlocks := hlk)
/-- String.isLatin1 -/
theorem jc_latin {l : Launch} {G : GG} {k : Nat} (n : Nat) (hk : k < 15) : Met l (jM 3).1 (wsM (jM 3)) (rmJ n) (va_Pc [.ref (G.2.2.1 k)] (SOp G)) (QcRead 1) 0 0 (fun _ => False) := by
  refine j_met (by decide) ?_
  intro p e s m args below meth c hx hb hr hml ho hts hlk hP
  obtain ⟨rfl, hO⟩ := hP
  obtain ⟨⟨adV, hV⟩, hCS, hSI⟩ := id hO
  have ho : s.vm.findClass jStr = some m.cls := ho
  rw [lg_entry_eq]
  have hlv := lv_entry [Value.ref (G.2.2.1 k)] (n := (jM 3).2.2.1) (by simp [lg_sl, Value.category]; decide)
  generalize (lg_sl [Value.ref (G.2.2.1 k)] ++ List.replicate ((jM 3).2.2.1 - (lg_sl [Value.ref (G.2.2.1 k)]).length) Slot.unset).toArray = ls at hlv ⊢
  have l0 : ls[0]? = some (.val (.ref (G.2.2.1 k))) := hlv.2.2 (0, .ref _) (by simp [lv_args])
  refine va_gets hx hb hCS va_S.rf ho (hts _ (lwG_in jl_in.2.2.1 rfl)) (fun _ h => h) j3_0 ?_
  refine lv_if_eq (tgt := 17) hx hb j3_3 (by decide) (fun z => absurd z (by decide)) (fun _ => ?_)
  refine lv_aload_n hx hb j3_6 rfl l0 ?_
  refine vk_getf hx hb (hV k hk).2.1 va_S.rf ho (hts _ (lwG_in jl_in.2.1 rfl)) (fun _ h => h) j3_7 ?_
  refine lv_if_ne (tgt := 17) hx hb j3_10 (by decide) (fun z => absurd rfl z) (fun _ => ?_)
  refine lv_iconst (v := 1) hx hb j3_13 (by decide) ?_
  refine lv_goto (tgt := 18) hx hb j3_14 (by decide) ?_
  exact W.zret (ty := .boolean) hx hb hr (by decide) (fun t ht _ => ⟨rfl, ht⟩) (fun _ h => by cases h) j3_18 (hlocks := hlk)
/-- Preconditions.checkIndex -/
theorem jc_pre {l : Launch} {G : GG} {i N : Int32} {v : Value} (n : Nat) (hv : v.category = 1) (h0 : ¬ i < 0) (h1 : i < N) : Met l (jM 6).1 (wsM (jM 6)) (rmJ n) (va_Pc [.int i, .int N, v] (SOp G)) (QcRead i) 0 0 (fun _ => False) := by
  refine j_met (by decide) ?_
  intro p e s m args below meth c hx hb hr hml ho hts hlk hP
  obtain ⟨rfl, hO⟩ := hP
  rw [lg_entry_eq]
  have hlv := lv_entry [Value.int i, .int N, v] (n := (jM 6).2.2.1) (by simp [lg_sl, hv]; simp [Value.category]; decide)
  generalize (lg_sl [Value.int i, .int N, v] ++ List.replicate ((jM 6).2.2.1 - (lg_sl [Value.int i, .int N, v]).length) Slot.unset).toArray = ls at hlv ⊢
  have l0 : ls[0]? = some (.val (.int i)) := hlv.2.2 (0, .int i) (by simp [lv_args, Value.category])
  have l1 : ls[1]? = some (.val (.int N)) := hlv.2.2 (1, .int N) (by simp [lv_args, Value.category])
  refine lv_iload_n hx hb j6_0 rfl l0 ?_
  refine lv_if_lt (tgt := 9) hx hb j6_1 (by decide) (fun z => absurd z h0) (fun _ => ?_)
  refine lv_iload_n hx hb j6_4 rfl l0 ?_
  refine lv_iload_n hx hb j6_5 rfl l1 ?_
  refine lv_icmp_lt (tgt := 16) hx hb j6_6 (by decide) (fun _ => ?_) (fun z => absurd h1 z)
  refine lv_iload_n hx hb j6_16 rfl l0 ?_
  exact W.iret hx hb hr (fun t ht _ => ⟨rfl, ht⟩) (fun _ h => by cases h) j6_17 (hlocks := hlk)
def QcVoid : Array Value → State → Outcome → State → Prop := fun _ st o t => o = .returned none ∧ t.heap = st.heap
/-- String.checkIndex -/
theorem jc_check {l : Launch} {G : GG} {i N : Int32} (h0 : ¬ i < 0) (h1 : i < N) : Met l (jM 4).1 (wsM (jM 4)) (rmJ 1) (va_Pc [.int i, .int N] (SOp G)) QcVoid 0 0 (fun _ => False) := by
  refine j_met (by decide) ?_
  intro p e s m args below meth c hx hb hr hml ho hts hlk hP
  obtain ⟨rfl, hO⟩ := hP
  obtain ⟨⟨adV, hV⟩, hCS, hSI⟩ := id hO
  have ho : s.vm.findClass jStr = some m.cls := ho
  rw [lg_entry_eq]
  have hlv := lv_entry [Value.int i, .int N] (n := (jM 4).2.2.1) (by simp [lg_sl, Value.category]; decide)
  generalize (lg_sl [Value.int i, .int N] ++ List.replicate ((jM 4).2.2.1 - (lg_sl [Value.int i, .int N]).length) Slot.unset).toArray = ls at hlv ⊢
  have l0 : ls[0]? = some (.val (.int i)) := hlv.2.2 (0, .int i) (by simp [lv_args, Value.category])
  have l1 : ls[1]? = some (.val (.int N)) := hlv.2.2 (1, .int N) (by simp [lv_args, Value.category])
  obtain ⟨f1, f2, f3, f4, f5, f6, f7, f8, f9⟩ := j_facts (jM_in 6 (by decide))
  refine lv_iload_n hx hb j4_0 rfl l0 ?_
  refine lv_iload_n hx hb j4_1 rfl l1 ?_
  have key : ∃ v : Value, v.category = 1 ∧ va_Z "jdk/internal/util/Preconditions" "SIOOBE_FORMATTER" "Ljava/util/function/BiFunction;" v (AZ G) s s.heap := by
    rcases hSI with z | ⟨q, z⟩
    · exact ⟨_, rfl, z⟩
    · exact ⟨_, rfl, z⟩
  obtain ⟨v, hv, hSI⟩ := key
  refine va_gets hx hb hSI va_S.rf ho (hts _ (lwG_in jl_in.2.2.2.1 rfl)) (fun _ h => h) j4_2 ?_
  refine W.callR (W.runS (As := [.int i, .int N, v]) (rest := []) ⟨hx, hb, hml, ho, hts⟩ (jc_pre 0 hv h0 h1) (cw_stat (np := 3) hts jl_in.2.2.2.2.2.2.2.1 f1 f2 f4 ⟨f5, f6, f7⟩ ⟨by decide, by decide⟩) ⟨FB_so, fun U hU hW => ⟨rfl, by show SO G U U.heap; rw [hU]; exact hO.moved hW.alike⟩⟩ rfl rfl hlv.1 rfl (lv_room (by decide)) j4_5 ⟨by decide, by decide⟩) ?_
  refine lv_pop hx hb j4_8 rfl ?_
  exact W.vret hx hb hr (fun t ht _ => ⟨rfl, ht⟩) (fun _ h => by cases h) j4_9 (hlocks := hlk)
/-- StringLatin1.charAt -/
theorem jc_char1 {l : Launch} {G : GG} {i v x : Int32} {t N : Nat} {f : Nat → Value} (h0 : ¬ i < 0) (h1 : i < Int32.ofNat N) (h2 : vp_in i N) (hv : f i.toNatClampNeg = .int v) (hx1 : ((v &&& 255).toUInt32 % 65536).toInt32 = x) (hn : narrow .char (.int x) = .int x) :
    Met l (jM 5).1 (wsM (jM 5)) (rmJ 2) (va_Pc [.ref t, .int i] (fun U => SOp G U ∧ va_T .byte t N f (AZ G) U U.heap)) (QcRead x) 0 0 (fun _ => False) := by
  refine j_met (by decide) ?_
  intro p e s m args below meth c hx hb hr hml ho hts hlk hP
  obtain ⟨rfl, hO, hT⟩ := hP
  obtain ⟨⟨adV, hV⟩, hCS, hSI⟩ := id hO
  have ho : s.vm.findClass "java/lang/StringLatin1" = some m.cls := ho
  rw [lg_entry_eq]
  have hlv := lv_entry [Value.ref t, .int i] (n := (jM 5).2.2.1) (by simp [lg_sl, Value.category]; decide)
  generalize (lg_sl [Value.ref t, .int i] ++ List.replicate ((jM 5).2.2.1 - (lg_sl [Value.ref t, .int i]).length) Slot.unset).toArray = ls at hlv ⊢
  have l0 : ls[0]? = some (.val (.ref t)) := hlv.2.2 (0, .ref t) (by simp [lv_args, Value.category])
  have l1 : ls[1]? = some (.val (.int i)) := hlv.2.2 (1, .int i) (by simp [lv_args, Value.category])
  obtain ⟨f1, f2, f3, f4, f5, f6, f7, f8, f9⟩ := j_facts (jM_in 4 (by decide))
  refine lv_iload_n hx hb j5_0 rfl l1 ?_
  refine lv_aload_n hx hb j5_1 rfl l0 ?_
  refine va_tlen hx hb hT va_S.rf rfl j5_2 ?_
  refine W.callX (W.runS (As := [.int i, .int (Int32.ofNat N)]) (rest := []) ⟨hx, hb, hml, ho, hts⟩ (jc_check h0 h1) (cw_stat (np := 2) hts jl_in.2.2.2.2.2.2.2.2.1 f1 f2 f4 ⟨f5, f6, f7⟩ ⟨by decide, by decide⟩) ⟨FB_so, fun U hU hW => ⟨rfl, by show SO G U U.heap; rw [hU]; exact hO.moved hW.alike⟩⟩ rfl rfl hlv.1 rfl (lv_room (by decide)) j5_3 ⟨by decide, by decide⟩) (fun _ h => h.elim) (fun v' st₀ t' hst hq => ?_)
  obtain ⟨q1, q2⟩ := hq
  cases q1
  rw [q2, hst]
  refine lv_aload_n hx hb j5_6 rfl l0 ?_
  refine lv_iload_n hx hb j5_7 rfl l1 ?_
  refine va_tb hx hb hT va_S.rf h2 hv j5_8 ?_
  refine lv_sipush (v := 255) hx hb j5_9 (by decide) ?_
  refine lv_iand hx hb j5_12 ?_
  refine lv_i2c hx hb j5_13 hx1 ?_
  exact W.zret (ty := .char) hx hb hr hn (fun t ht _ => ⟨rfl, ht⟩) (fun _ h => by cases h) j5_14 (hlocks := hlk)
theorem slen_S {k n : Nat} (h : slen k = some n) : lenS.getD k 0 = n := by
  unfold slen at h
  unfold lenS
  rw [List.getD_eq_getElem?_getD, List.getElem?_map, h]
  rfl
/-- String.length -/
theorem jc_len {l : Launch} {G : GG} : SLH l G := by
  intro k n hn
  have hk := slen_lt hn
  have hln := slen_S hn
  refine j_met (by decide) ?_
  intro p e s m args below meth c hx hb hr hml ho hts hlk hP
  obtain ⟨rfl, hO⟩ := hP
  obtain ⟨⟨adV, hV⟩, hCS, hSI⟩ := id hO
  have ho : s.vm.findClass jStr = some m.cls := ho
  rw [lg_entry_eq]
  have hlv := lv_entry [Value.ref (G.2.2.1 k)] (n := (jM 0).2.2.1) (by simp [lg_sl, Value.category]; decide)
  generalize (lg_sl [Value.ref (G.2.2.1 k)] ++ List.replicate ((jM 0).2.2.1 - (lg_sl [Value.ref (G.2.2.1 k)]).length) Slot.unset).toArray = ls at hlv ⊢
  have l0 : ls[0]? = some (.val (.ref (G.2.2.1 k))) := hlv.2.2 (0, .ref _) (by simp [lv_args])
  obtain ⟨f1, f2, f3, f4, f5, f6, f7, f8, f9⟩ := j_facts (jM_in 2 (by decide))
  have hcell := sK_recv (locs := []) hV hk va_S.rf
  refine lv_aload_n hx hb j0_0 rfl l0 ?_
  refine vk_getf hx hb (hV k hk).2.2.1 va_S.rf ho (hts _ (lwG_in jl_in.1 rfl)) (fun _ h => h) j0_1 ?_
  refine va_tlen hx hb (hV k hk).2.2.2 va_S.rf (v := Int32.ofInt (n : Int)) (by rw [hln]; exact Int32.ofInt_eq_ofNat.symm) j0_4 ?_
  refine lv_aload_n hx hb j0_5 rfl l0 ?_
  refine W.callR (W.runV (b := G.2.2.1 k) (As := []) (rest := [.int (Int32.ofInt (n : Int))]) (C := jStr) ⟨hx, hb, hml, ho, hts⟩ (jc_coder 2 hk) (cw_virt (M' := jM 2) (np := 0) hts jl_in.2.2.2.2.1 f1 f2 (f3 rfl) f4 ⟨f5, f6, f7⟩ ⟨by decide, by decide⟩) ⟨FB_so, hcell, fun U hU hW => ⟨rfl, by show SO G U U.heap; rw [hU]; exact hO.moved hW.alike⟩⟩ rfl rfl hlv.1 rfl (lv_room (by simp [Value.category])) j0_6 ⟨by decide, by decide⟩) ?_
  refine lv_ishr hx hb j0_9 ?_
  rw [show (0 : Int32) &&& 31 = 0 by decide, show Int32.ofInt (n : Int) >>> (0 : Int32) = Int32.ofInt (n : Int) by simp]
  exact W.iret hx hb hr (fun t ht _ => ⟨rfl, ht⟩) (fun _ h => by cases h) j0_10 (hlocks := hlk)
theorem sch_S {k i : Nat} {ch : Int} (h : sch k i = some ch) : i < lenS.getD k 0 ∧ lenS.getD k 0 < 100 ∧ (bytS.getD k []).getD i 0 = Int32.ofInt ch := by
  unfold sch at h
  split at h
  · rename_i t ht
    have h1 : lenS.getD k 0 = t.length := slen_S (by unfold slen; rw [ht]; rfl)
    rw [h1]
    cases hc : t.toList[i]? with
    | none => rw [hc] at h; cases h
    | some c0 =>
      rw [hc] at h
      cases h
      refine ⟨?_, slen_in (k := k) (by unfold slen; rw [ht]; rfl), ?_⟩
      · have := (List.getElem?_eq_some_iff.mp hc).1
        rw [String.length_toList] at this
        exact this
      · unfold bytS
        rw [List.getD_eq_getElem?_getD, List.getD_eq_getElem?_getD, List.getElem?_map, ht, Option.map_some, Option.getD_some, List.getElem?_map, hc, Option.map_some, Option.getD_some]
        exact Int32.ofInt_eq_ofNat.symm
  · cases h
theorem sch_n {k i : Nat} {ch : Int} (h : sch k i = some ch) : ((Int32.ofInt ch &&& 255).toUInt32 % 65536).toInt32 = Int32.ofInt ch ∧ narrow .char (.int (Int32.ofInt ch)) = .int (Int32.ofInt ch) := by
  have h1 := sch_in _ _ _ h
  have h2 : ∀ n : Nat, n < 256 → ((Int32.ofInt (n : Int) &&& 255).toUInt32 % 65536).toInt32 = Int32.ofInt (n : Int) ∧ narrow .char (.int (Int32.ofInt (n : Int))) = .int (Int32.ofInt (n : Int)) := by decide +kernel
  have h3 := h2 ch.toNat (by omega)
  rw [show ((ch.toNat : Nat) : Int) = ch by omega] at h3
  exact h3
/-- String.charAt -/
theorem jc_char {l : Launch} {G : GG} : SCH l G := by
  intro k i ch hch hi
  have hk := sch_lt hch
  obtain ⟨q1, q2, q3⟩ := sch_S hch
  obtain ⟨q4, q5⟩ := sch_n hch
  refine j_met (by decide) ?_
  intro p e s m args below meth c hx hb hr hml ho hts hlk hP
  obtain ⟨rfl, hO⟩ := hP
  obtain ⟨⟨adV, hV⟩, hCS, hSI⟩ := id hO
  have ho : s.vm.findClass jStr = some m.cls := ho
  rw [lg_entry_eq]
  have hlv := lv_entry [Value.ref (G.2.2.1 k), .int (Int32.ofInt (i : Int))] (n := (jM 1).2.2.1) (by simp [lg_sl, Value.category]; decide)
  generalize (lg_sl [Value.ref (G.2.2.1 k), .int (Int32.ofInt (i : Int))] ++ List.replicate ((jM 1).2.2.1 - (lg_sl [Value.ref (G.2.2.1 k), .int (Int32.ofInt (i : Int))]).length) Slot.unset).toArray = ls at hlv ⊢
  have l0 : ls[0]? = some (.val (.ref (G.2.2.1 k))) := hlv.2.2 (0, .ref _) (by simp [lv_args])
  have l1 : ls[1]? = some (.val (.int (Int32.ofInt (i : Int)))) := hlv.2.2 (1, .int _) (by simp [lv_args, Value.category])
  obtain ⟨f1, f2, f3, f4, f5, f6, f7, f8, f9⟩ := j_facts (jM_in 3 (by decide))
  obtain ⟨g1, g2, g3, g4, g5, g6, g7, g8, g9⟩ := j_facts (jM_in 5 (by decide))
  have hcell := sK_recv (locs := []) hV hk va_S.rf
  have hi32 : in32 (i : Int) := by unfold in32; omega
  have hT := (hV k hk).2.2.2
  refine lv_aload_n hx hb j1_0 rfl l0 ?_
  refine W.callR (W.runV (b := G.2.2.1 k) (As := []) (rest := []) (C := jStr) ⟨hx, hb, hml, ho, hts⟩ (jc_latin 2 hk) (cw_virt (M' := jM 3) (np := 0) hts jl_in.2.2.2.2.2.1 f1 f2 (f3 rfl) f4 ⟨f5, f6, f7⟩ ⟨by decide, by decide⟩) ⟨FB_so, hcell, fun U hU hW => ⟨rfl, by show SO G U U.heap; rw [hU]; exact hO.moved hW.alike⟩⟩ rfl rfl hlv.1 rfl (lv_room (by decide)) j1_1 ⟨by decide, by decide⟩) ?_
  refine lv_if_eq (tgt := 16) hx hb j1_4 rfl (fun z => absurd z (by decide)) (fun _ => ?_)
  refine lv_aload_n hx hb j1_7 rfl l0 ?_
  refine vk_getf hx hb (hV k hk).2.2.1 va_S.rf ho (hts _ (lwG_in jl_in.1 rfl)) (fun _ h => h) j1_8 ?_
  refine lv_iload_n hx hb j1_11 rfl l1 ?_
  have hn1 : (Int32.ofInt (i : Int)).toNatClampNeg = i := i32_nat hi32
  refine W.callR (W.runS (As := [.ref (adV k), .int (Int32.ofInt (i : Int))]) (rest := []) ⟨hx, hb, hml, ho, hts⟩
    (jc_char1 (G := G) (t := adV k) (N := lenS.getD k 0) (f := fun j => .int ((bytS.getD k []).getD j 0)) (v := Int32.ofInt ch) (i32_nlt hi32 (by omega)) ?_ (i32_vin hi32 (by omega) (by omega)) (by show Value.int ((bytS.getD k []).getD (Int32.ofInt (i : Int)).toNatClampNeg 0) = _; rw [hn1, q3]) q4 q5) (cw_stat (np := 2) hts jl_in.2.2.2.2.2.2.1 g1 g2 g4 ⟨g5, g6, g7⟩ ⟨by decide, by decide⟩) ⟨fun _ _ _ _ z => ⟨z.1, SO_calling z.2.1, (va_T.moved (Vm.Alike.refl _) z.2.2 :)⟩, fun U hU hW => ⟨rfl, by show SO G U U.heap; rw [hU]; exact hO.moved hW.alike, by rw [hU]; exact hT.moved hW.alike⟩⟩ rfl rfl hlv.1 rfl (lv_room (by decide)) j1_12 ⟨by decide, by decide⟩) ?_
  · have e1 : (Int32.ofNat (lenS.getD k 0)) = Int32.ofInt ((lenS.getD k 0 : Nat) : Int) := Int32.ofInt_eq_ofNat.symm
    rw [e1]
    exact (i32_lt hi32 (by unfold in32; omega)).mpr (by omega)
  · exact W.zret (ty := .char) hx hb hr q5 (fun t ht _ => ⟨rfl, ht⟩) (fun _ h => by cases h) j1_15 (hlocks := hlk)
