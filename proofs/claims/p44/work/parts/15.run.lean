/-! a run of the abstract machine is a run of the machine -/
section RU
variable {p : Program} {l : Launch} {e : Env} {R : Room} {s : State} {m : MethodId} {args : Array Value} {below : List Frame} {meth : Method} {c : Code} {H : Heap} {locs : List Loc} {cells slots : Nat} {Q : State → Prop}
variable {G : GG} {M : MR} {pc nx b cw w : Nat} {a : Int} {L S : List AV} {sh : List Kd} {mm : Mm} {ls : Array Slot} {q : St5} {k0 s0 : Nat}
theorem step_all {r : Row} (h0 : s.heap.size + 1 = G.1 + k0) (hk0 : 1 ≤ k0) (hSL : SLH l G) (hSC : SCH l G) : SG p l e R s m args below meth c H locs cells slots Q G M pc r L S sh mm ls q k0 s0 := by
  obtain ⟨ins, nx, a, b, cw, w⟩ := r
  cases ins

  case aconst_null => intro _ _ _ _ hs; cases hs
  case areturn => intro _ _ _ _ hs; cases hs
  case athrow => intro _ _ _ _ hs; cases hs
  case caload => intro _ _ _ _ hs; cases hs
  case castore => intro _ _ _ _ hs; cases hs
  case checkcast => intro _ _ _ _ hs; cases hs
  case d2f => intro _ _ _ _ hs; cases hs
  case d2i => intro _ _ _ _ hs; cases hs
  case d2l => intro _ _ _ _ hs; cases hs
  case dadd => intro _ _ _ _ hs; cases hs
  case daload => intro _ _ _ _ hs; cases hs
  case dastore => intro _ _ _ _ hs; cases hs
  case dcmp => intro _ _ _ _ hs; cases hs
  case dconst => intro _ _ _ _ hs; cases hs
  case ddiv => intro _ _ _ _ hs; cases hs
  case dload => intro _ _ _ _ hs; cases hs
  case dload_n => intro _ _ _ _ hs; cases hs
  case dmul => intro _ _ _ _ hs; cases hs
  case dneg => intro _ _ _ _ hs; cases hs
  case drem => intro _ _ _ _ hs; cases hs
  case dreturn => intro _ _ _ _ hs; cases hs
  case dstore => intro _ _ _ _ hs; cases hs
  case dstore_n => intro _ _ _ _ hs; cases hs
  case dsub => intro _ _ _ _ hs; cases hs
  case dup_x1 => intro _ _ _ _ hs; cases hs
  case dup_x2 => intro _ _ _ _ hs; cases hs
  case dup2_x1 => intro _ _ _ _ hs; cases hs
  case dup2_x2 => intro _ _ _ _ hs; cases hs
  case f2d => intro _ _ _ _ hs; cases hs
  case f2i => intro _ _ _ _ hs; cases hs
  case f2l => intro _ _ _ _ hs; cases hs
  case fadd => intro _ _ _ _ hs; cases hs
  case faload => intro _ _ _ _ hs; cases hs
  case fastore => intro _ _ _ _ hs; cases hs
  case fcmp => intro _ _ _ _ hs; cases hs
  case fconst => intro _ _ _ _ hs; cases hs
  case fdiv => intro _ _ _ _ hs; cases hs
  case fload => intro _ _ _ _ hs; cases hs
  case fload_n => intro _ _ _ _ hs; cases hs
  case fmul => intro _ _ _ _ hs; cases hs
  case fneg => intro _ _ _ _ hs; cases hs
  case frem => intro _ _ _ _ hs; cases hs
  case freturn => intro _ _ _ _ hs; cases hs
  case fstore => intro _ _ _ _ hs; cases hs
  case fstore_n => intro _ _ _ _ hs; cases hs
  case fsub => intro _ _ _ _ hs; cases hs
  case getstatic => intro _ _ _ _ hs; cases hs
  case goto_w => intro _ _ _ _ hs; cases hs
  case i2c => intro _ _ _ _ hs; cases hs
  case i2d => intro _ _ _ _ hs; cases hs
  case i2f => intro _ _ _ _ hs; cases hs
  case if_acmp => intro _ _ _ _ hs; cases hs
  case ifnonnull => intro _ _ _ _ hs; cases hs
  case ifnull => intro _ _ _ _ hs; cases hs
  case instanceof => intro _ _ _ _ hs; cases hs
  case invokedynamic => intro _ _ _ _ hs; cases hs
  case invokeinterface => intro _ _ _ _ hs; cases hs
  case ireturn => intro _ _ _ _ hs; cases hs
  case iushr => intro _ _ _ _ hs; cases hs
  case jsr => intro _ _ _ _ hs; cases hs
  case jsr_w => intro _ _ _ _ hs; cases hs
  case l2d => intro _ _ _ _ hs; cases hs
  case l2f => intro _ _ _ _ hs; cases hs
  case lneg => intro _ _ _ _ hs; cases hs
  case lookupswitch => intro _ _ _ _ hs; cases hs
  case lreturn => intro _ _ _ _ hs; cases hs
  case lushr => intro _ _ _ _ hs; cases hs
  case lxor => intro _ _ _ _ hs; cases hs
  case monitorenter => intro _ _ _ _ hs; cases hs
  case monitorexit => intro _ _ _ _ hs; cases hs
  case multianewarray => intro _ _ _ _ hs; cases hs
  case nop => intro _ _ _ _ hs; cases hs
  case putstatic => intro _ _ _ _ hs; cases hs
  case ret => intro _ _ _ _ hs; cases hs
  case return_ => intro _ _ _ _ hs; cases hs
  case saload => intro _ _ _ _ hs; cases hs
  case sastore => intro _ _ _ _ hs; cases hs
  case swap => intro _ _ _ _ hs; cases hs
  case bipush => exact s_bipush
  case sipush => exact s_sipush
  case lconst => exact s_lconst
  case ldc => exact s_ldc
  case ldc_w => exact s_ldc_w
  case ldc2_w => exact s_ldc2_w
  case iload => exact s_iload
  case lload => exact s_lload
  case aload => exact s_aload
  case iload_n => exact s_iload_n
  case lload_n => exact s_lload_n
  case aload_n => exact s_aload_n
  case istore => exact s_istore
  case lstore => exact s_lstore
  case astore => exact s_astore
  case istore_n => exact s_istore_n
  case lstore_n => exact s_lstore_n
  case astore_n => exact s_astore_n
  case iinc => exact s_iinc
  case iadd => exact s_iadd
  case isub => exact s_isub
  case imul => exact s_imul
  case iand => exact s_iand
  case ior => exact s_ior
  case ixor => exact s_ixor
  case ishl => exact s_ishl
  case ishr => exact s_ishr
  case ladd => exact s_ladd
  case lsub => exact s_lsub
  case lmul => exact s_lmul
  case land => exact s_land
  case lor => exact s_lor
  case lshl => exact s_lshl
  case lshr => exact s_lshr
  case idiv => exact s_idiv
  case irem => exact s_irem
  case ldiv => exact s_ldiv
  case lrem => exact s_lrem
  case lcmp => exact s_lcmp
  case ineg => exact s_ineg
  case i2l => exact s_i2l
  case l2i => exact s_l2i
  case i2b => exact s_i2b
  case i2s => exact s_i2s
  case goto => exact s_goto
  case dup => exact s_dup
  case dup2 => exact s_dup2
  case pop => exact s_pop
  case pop2 => exact s_pop2
  case getfield => exact s_getfield
  case putfield => exact s_putfield
  case arraylength => exact s_arraylength
  case iaload => exact s_iaload
  case laload => exact s_laload
  case baload => exact s_baload
  case aaload => exact s_aaload
  case iastore => exact s_iastore
  case lastore => exact s_lastore
  case bastore => exact s_bastore
  case aastore => exact s_aastore
  case tableswitch => exact s_tableswitch
  case iconst => exact s_iconst
  case ifCond cn n => cases cn <;> first | exact s_if_eq | exact s_if_ne | exact s_if_lt | exact s_if_ge | exact s_if_gt | exact s_if_le
  case if_icmp cn n => cases cn <;> first | exact s_icmp_eq | exact s_icmp_ne | exact s_icmp_lt | exact s_icmp_ge | exact s_icmp_gt | exact s_icmp_le
  case new => exact s_new h0 hk0
  case newarray => exact s_newarray h0 hk0
  case anewarray => exact s_anewarray h0 hk0
  case invokespecial => exact s_objinit
  case invokestatic => exact s_static
  case invokevirtual => exact s_virtual hSL hSC
end RU
def Sh (sh : List Kd) (o : Option St5) : Prop := ∀ q, o = some q → q.2.2.2.1 = sh ∨ ∃ kd, q.2.2.2.1 = sh ++ [kd]
theorem Sh_n {sh : List Kd} : Sh sh none := fun _ h => by cases h
theorem Sh_s {sh : List Kd} {a : Nat} {b c : List AV} {m : Mm} : Sh sh (some (a, b, c, sh, m)) := fun _ h => by cases h; exact Or.inl rfl
theorem Sh_p {sh : List Kd} {a : Nat} {b c : List AV} {kd : Kd} {m : Mm} : Sh sh (some (a, b, c, sh ++ [kd], m)) := fun _ h => by cases h; exact Or.inr ⟨_, rfl⟩
theorem Sh_b {α : Type} {sh : List Kd} {o : Option α} {f : α → Option St5} (h : ∀ x, Sh sh (f x)) : Sh sh (o.bind f) := by
  intro q hq
  cases o with
  | none => cases hq
  | some x => exact h x q hq
theorem Sh_i {c : Prop} [Decidable c] {sh : List Kd} {a b : Option St5} (h1 : Sh sh a) (h2 : Sh sh b) : Sh sh (if c then a else b) := by
  by_cases h : c
  · rw [if_pos h]; exact h1
  · rw [if_neg h]; exact h2
theorem spc_sh (nx : Nat) (a : Int) (L S : List AV) (sh : List Kd) (mm : Mm) : Sh sh (spc nx a L S sh mm) := by
  unfold spc
  simp only [Option.bind_eq_bind]
  by_cases a1 : a = -1
  · rw [if_pos a1]; exact Sh_b fun _ => Sh_i Sh_s Sh_n
  rw [if_neg a1]
  by_cases a2 : a = -2
  · rw [if_pos a2]; exact Sh_b fun _ => Sh_b fun _ => Sh_b fun _ => Sh_b fun _ => Sh_b fun _ => Sh_b fun _ => Sh_b fun _ => Sh_i Sh_s Sh_n
  rw [if_neg a2]
  by_cases a3 : a = -3
  · rw [if_pos a3]; exact Sh_b fun _ => Sh_b fun _ => Sh_i Sh_s Sh_n
  rw [if_neg a3]
  by_cases a4 : a = -4
  · rw [if_pos a4]; exact Sh_b fun _ => Sh_b fun _ => Sh_i Sh_s Sh_n
  rw [if_neg a4]
  by_cases a5 : a = -5
  · rw [if_pos a5]; exact Sh_b fun _ => Sh_b fun _ => Sh_i Sh_s Sh_n
  rw [if_neg a5]
  by_cases a6 : a = -6
  · rw [if_pos a6]; exact Sh_b fun _ => Sh_b fun _ => Sh_i Sh_s Sh_n
  rw [if_neg a6]
  by_cases a7 : a = -7
  · rw [if_pos a7]; exact Sh_b fun _ => Sh_b fun _ => Sh_b fun _ => Sh_i Sh_s Sh_n
  rw [if_neg a7]
  exact Sh_n
theorem stp_Sh (r : Row) (pc : Nat) (L S : List AV) (sh : List Kd) (mm : Mm) : Sh sh (stp pc r L S sh mm) := by
  obtain ⟨ins, nx, a, b, cw, w⟩ := r
  cases ins

  case aconst_null => exact Sh_n
  case areturn => exact Sh_n
  case athrow => exact Sh_n
  case caload => exact Sh_n
  case castore => exact Sh_n
  case checkcast => exact Sh_n
  case d2f => exact Sh_n
  case d2i => exact Sh_n
  case d2l => exact Sh_n
  case dadd => exact Sh_n
  case daload => exact Sh_n
  case dastore => exact Sh_n
  case dcmp => exact Sh_n
  case dconst => exact Sh_n
  case ddiv => exact Sh_n
  case dload => exact Sh_n
  case dload_n => exact Sh_n
  case dmul => exact Sh_n
  case dneg => exact Sh_n
  case drem => exact Sh_n
  case dreturn => exact Sh_n
  case dstore => exact Sh_n
  case dstore_n => exact Sh_n
  case dsub => exact Sh_n
  case dup_x1 => exact Sh_n
  case dup_x2 => exact Sh_n
  case dup2_x1 => exact Sh_n
  case dup2_x2 => exact Sh_n
  case f2d => exact Sh_n
  case f2i => exact Sh_n
  case f2l => exact Sh_n
  case fadd => exact Sh_n
  case faload => exact Sh_n
  case fastore => exact Sh_n
  case fcmp => exact Sh_n
  case fconst => exact Sh_n
  case fdiv => exact Sh_n
  case fload => exact Sh_n
  case fload_n => exact Sh_n
  case fmul => exact Sh_n
  case fneg => exact Sh_n
  case frem => exact Sh_n
  case freturn => exact Sh_n
  case fstore => exact Sh_n
  case fstore_n => exact Sh_n
  case fsub => exact Sh_n
  case getstatic => exact Sh_n
  case goto_w => exact Sh_n
  case i2c => exact Sh_n
  case i2d => exact Sh_n
  case i2f => exact Sh_n
  case if_acmp => exact Sh_n
  case ifnonnull => exact Sh_n
  case ifnull => exact Sh_n
  case instanceof => exact Sh_n
  case invokedynamic => exact Sh_n
  case invokeinterface => exact Sh_n
  case ireturn => exact Sh_n
  case iushr => exact Sh_n
  case jsr => exact Sh_n
  case jsr_w => exact Sh_n
  case l2d => exact Sh_n
  case l2f => exact Sh_n
  case lneg => exact Sh_n
  case lookupswitch => exact Sh_n
  case lreturn => exact Sh_n
  case lushr => exact Sh_n
  case lxor => exact Sh_n
  case monitorenter => exact Sh_n
  case monitorexit => exact Sh_n
  case multianewarray => exact Sh_n
  case nop => exact Sh_n
  case putstatic => exact Sh_n
  case ret => exact Sh_n
  case return_ => exact Sh_n
  case saload => exact Sh_n
  case sastore => exact Sh_n
  case swap => exact Sh_n
  case bipush => simp only [stp, Option.bind_eq_bind]; repeat (first | exact Sh_n | exact Sh_s | exact Sh_p | apply Sh_i | (apply Sh_b; intro _))
  case sipush => simp only [stp, Option.bind_eq_bind]; repeat (first | exact Sh_n | exact Sh_s | exact Sh_p | apply Sh_i | (apply Sh_b; intro _))
  case lconst => simp only [stp, Option.bind_eq_bind]; repeat (first | exact Sh_n | exact Sh_s | exact Sh_p | apply Sh_i | (apply Sh_b; intro _))
  case ldc => simp only [stp, Option.bind_eq_bind]; repeat (first | exact Sh_n | exact Sh_s | exact Sh_p | apply Sh_i | (apply Sh_b; intro _))
  case ldc_w => simp only [stp, Option.bind_eq_bind]; repeat (first | exact Sh_n | exact Sh_s | exact Sh_p | apply Sh_i | (apply Sh_b; intro _))
  case ldc2_w => simp only [stp, Option.bind_eq_bind]; repeat (first | exact Sh_n | exact Sh_s | exact Sh_p | apply Sh_i | (apply Sh_b; intro _))
  case iload => simp only [stp, Option.bind_eq_bind]; repeat (first | exact Sh_n | exact Sh_s | exact Sh_p | apply Sh_i | (apply Sh_b; intro _))
  case lload => simp only [stp, Option.bind_eq_bind]; repeat (first | exact Sh_n | exact Sh_s | exact Sh_p | apply Sh_i | (apply Sh_b; intro _))
  case aload => simp only [stp, Option.bind_eq_bind]; repeat (first | exact Sh_n | exact Sh_s | exact Sh_p | apply Sh_i | (apply Sh_b; intro _))
  case iload_n => simp only [stp, Option.bind_eq_bind]; repeat (first | exact Sh_n | exact Sh_s | exact Sh_p | apply Sh_i | (apply Sh_b; intro _))
  case lload_n => simp only [stp, Option.bind_eq_bind]; repeat (first | exact Sh_n | exact Sh_s | exact Sh_p | apply Sh_i | (apply Sh_b; intro _))
  case aload_n => simp only [stp, Option.bind_eq_bind]; repeat (first | exact Sh_n | exact Sh_s | exact Sh_p | apply Sh_i | (apply Sh_b; intro _))
  case istore => simp only [stp, Option.bind_eq_bind]; repeat (first | exact Sh_n | exact Sh_s | exact Sh_p | apply Sh_i | (apply Sh_b; intro _))
  case lstore => simp only [stp, Option.bind_eq_bind]; repeat (first | exact Sh_n | exact Sh_s | exact Sh_p | apply Sh_i | (apply Sh_b; intro _))
  case astore => simp only [stp, Option.bind_eq_bind]; repeat (first | exact Sh_n | exact Sh_s | exact Sh_p | apply Sh_i | (apply Sh_b; intro _))
  case istore_n => simp only [stp, Option.bind_eq_bind]; repeat (first | exact Sh_n | exact Sh_s | exact Sh_p | apply Sh_i | (apply Sh_b; intro _))
  case lstore_n => simp only [stp, Option.bind_eq_bind]; repeat (first | exact Sh_n | exact Sh_s | exact Sh_p | apply Sh_i | (apply Sh_b; intro _))
  case astore_n => simp only [stp, Option.bind_eq_bind]; repeat (first | exact Sh_n | exact Sh_s | exact Sh_p | apply Sh_i | (apply Sh_b; intro _))
  case iinc => simp only [stp, Option.bind_eq_bind]; repeat (first | exact Sh_n | exact Sh_s | exact Sh_p | apply Sh_i | (apply Sh_b; intro _))
  case iadd => simp only [stp, Option.bind_eq_bind]; repeat (first | exact Sh_n | exact Sh_s | exact Sh_p | apply Sh_i | (apply Sh_b; intro _))
  case isub => simp only [stp, Option.bind_eq_bind]; repeat (first | exact Sh_n | exact Sh_s | exact Sh_p | apply Sh_i | (apply Sh_b; intro _))
  case imul => simp only [stp, Option.bind_eq_bind]; repeat (first | exact Sh_n | exact Sh_s | exact Sh_p | apply Sh_i | (apply Sh_b; intro _))
  case iand => simp only [stp, Option.bind_eq_bind]; repeat (first | exact Sh_n | exact Sh_s | exact Sh_p | apply Sh_i | (apply Sh_b; intro _))
  case ior => simp only [stp, Option.bind_eq_bind]; repeat (first | exact Sh_n | exact Sh_s | exact Sh_p | apply Sh_i | (apply Sh_b; intro _))
  case ixor => simp only [stp, Option.bind_eq_bind]; repeat (first | exact Sh_n | exact Sh_s | exact Sh_p | apply Sh_i | (apply Sh_b; intro _))
  case ishl => simp only [stp, Option.bind_eq_bind]; repeat (first | exact Sh_n | exact Sh_s | exact Sh_p | apply Sh_i | (apply Sh_b; intro _))
  case ishr => simp only [stp, Option.bind_eq_bind]; repeat (first | exact Sh_n | exact Sh_s | exact Sh_p | apply Sh_i | (apply Sh_b; intro _))
  case ladd => simp only [stp, Option.bind_eq_bind]; repeat (first | exact Sh_n | exact Sh_s | exact Sh_p | apply Sh_i | (apply Sh_b; intro _))
  case lsub => simp only [stp, Option.bind_eq_bind]; repeat (first | exact Sh_n | exact Sh_s | exact Sh_p | apply Sh_i | (apply Sh_b; intro _))
  case lmul => simp only [stp, Option.bind_eq_bind]; repeat (first | exact Sh_n | exact Sh_s | exact Sh_p | apply Sh_i | (apply Sh_b; intro _))
  case land => simp only [stp, Option.bind_eq_bind]; repeat (first | exact Sh_n | exact Sh_s | exact Sh_p | apply Sh_i | (apply Sh_b; intro _))
  case lor => simp only [stp, Option.bind_eq_bind]; repeat (first | exact Sh_n | exact Sh_s | exact Sh_p | apply Sh_i | (apply Sh_b; intro _))
  case lshl => simp only [stp, Option.bind_eq_bind]; repeat (first | exact Sh_n | exact Sh_s | exact Sh_p | apply Sh_i | (apply Sh_b; intro _))
  case lshr => simp only [stp, Option.bind_eq_bind]; repeat (first | exact Sh_n | exact Sh_s | exact Sh_p | apply Sh_i | (apply Sh_b; intro _))
  case idiv => simp only [stp, Option.bind_eq_bind]; repeat (first | exact Sh_n | exact Sh_s | exact Sh_p | apply Sh_i | (apply Sh_b; intro _))
  case irem => simp only [stp, Option.bind_eq_bind]; repeat (first | exact Sh_n | exact Sh_s | exact Sh_p | apply Sh_i | (apply Sh_b; intro _))
  case ldiv => simp only [stp, Option.bind_eq_bind]; repeat (first | exact Sh_n | exact Sh_s | exact Sh_p | apply Sh_i | (apply Sh_b; intro _))
  case lrem => simp only [stp, Option.bind_eq_bind]; repeat (first | exact Sh_n | exact Sh_s | exact Sh_p | apply Sh_i | (apply Sh_b; intro _))
  case lcmp => simp only [stp, Option.bind_eq_bind]; repeat (first | exact Sh_n | exact Sh_s | exact Sh_p | apply Sh_i | (apply Sh_b; intro _))
  case ineg => simp only [stp, Option.bind_eq_bind]; repeat (first | exact Sh_n | exact Sh_s | exact Sh_p | apply Sh_i | (apply Sh_b; intro _))
  case i2l => simp only [stp, Option.bind_eq_bind]; repeat (first | exact Sh_n | exact Sh_s | exact Sh_p | apply Sh_i | (apply Sh_b; intro _))
  case l2i => simp only [stp, Option.bind_eq_bind]; repeat (first | exact Sh_n | exact Sh_s | exact Sh_p | apply Sh_i | (apply Sh_b; intro _))
  case i2b => simp only [stp, Option.bind_eq_bind]; repeat (first | exact Sh_n | exact Sh_s | exact Sh_p | apply Sh_i | (apply Sh_b; intro _))
  case i2s => simp only [stp, Option.bind_eq_bind]; repeat (first | exact Sh_n | exact Sh_s | exact Sh_p | apply Sh_i | (apply Sh_b; intro _))
  case goto => simp only [stp, Option.bind_eq_bind]; repeat (first | exact Sh_n | exact Sh_s | exact Sh_p | apply Sh_i | (apply Sh_b; intro _))
  case dup => simp only [stp]; split <;> first | exact Sh_n | exact Sh_i Sh_n Sh_s | exact Sh_i Sh_s Sh_n
  case dup2 => simp only [stp]; split <;> first | exact Sh_n | exact Sh_i Sh_n Sh_s | exact Sh_i Sh_s Sh_n
  case pop => simp only [stp]; split <;> first | exact Sh_n | exact Sh_i Sh_n Sh_s | exact Sh_i Sh_s Sh_n
  case pop2 => simp only [stp]; split <;> first | exact Sh_n | exact Sh_i Sh_n Sh_s | exact Sh_i Sh_s Sh_n
  case getfield => simp only [stp, Option.bind_eq_bind]; repeat (first | exact Sh_n | exact Sh_s | exact Sh_p | apply Sh_i | (apply Sh_b; intro _))
  case putfield => simp only [stp, Option.bind_eq_bind]; repeat (first | exact Sh_n | exact Sh_s | exact Sh_p | apply Sh_i | (apply Sh_b; intro _))
  case arraylength => simp only [stp, Option.bind_eq_bind]; repeat (first | exact Sh_n | exact Sh_s | exact Sh_p | apply Sh_i | (apply Sh_b; intro _))
  case iaload => simp only [stp, Option.bind_eq_bind]; repeat (first | exact Sh_n | exact Sh_s | exact Sh_p | apply Sh_i | (apply Sh_b; intro _))
  case laload => simp only [stp, Option.bind_eq_bind]; repeat (first | exact Sh_n | exact Sh_s | exact Sh_p | apply Sh_i | (apply Sh_b; intro _))
  case baload => simp only [stp, Option.bind_eq_bind]; repeat (first | exact Sh_n | exact Sh_s | exact Sh_p | apply Sh_i | (apply Sh_b; intro _))
  case aaload => simp only [stp, Option.bind_eq_bind]; repeat (first | exact Sh_n | exact Sh_s | exact Sh_p | apply Sh_i | (apply Sh_b; intro _))
  case iastore => simp only [stp, Option.bind_eq_bind]; repeat (first | exact Sh_n | exact Sh_s | exact Sh_p | apply Sh_i | (apply Sh_b; intro _))
  case lastore => simp only [stp, Option.bind_eq_bind]; repeat (first | exact Sh_n | exact Sh_s | exact Sh_p | apply Sh_i | (apply Sh_b; intro _))
  case bastore => simp only [stp, Option.bind_eq_bind]; repeat (first | exact Sh_n | exact Sh_s | exact Sh_p | apply Sh_i | (apply Sh_b; intro _))
  case aastore => simp only [stp, Option.bind_eq_bind]; repeat (first | exact Sh_n | exact Sh_s | exact Sh_p | apply Sh_i | (apply Sh_b; intro _))
  case tableswitch => simp only [stp, Option.bind_eq_bind]; repeat (first | exact Sh_n | exact Sh_s | exact Sh_p | apply Sh_i | (apply Sh_b; intro _))
  case iconst => simp only [stp, Option.bind_eq_bind]; repeat (first | exact Sh_n | exact Sh_s | exact Sh_p | apply Sh_i | (apply Sh_b; intro _))
  case ifCond => simp only [stp, Option.bind_eq_bind]; repeat (first | exact Sh_n | exact Sh_s | exact Sh_p | apply Sh_i | (apply Sh_b; intro _))
  case if_icmp => simp only [stp, Option.bind_eq_bind]; repeat (first | exact Sh_n | exact Sh_s | exact Sh_p | apply Sh_i | (apply Sh_b; intro _))
  case new => simp only [stp, Option.bind_eq_bind]; repeat (first | exact Sh_n | exact Sh_s | exact Sh_p | apply Sh_i | (apply Sh_b; intro _))
  case newarray => simp only [stp, Option.bind_eq_bind]; repeat (first | exact Sh_n | exact Sh_s | exact Sh_p | apply Sh_i | (apply Sh_b; intro _))
  case anewarray => simp only [stp, Option.bind_eq_bind]; repeat (first | exact Sh_n | exact Sh_s | exact Sh_p | apply Sh_i | (apply Sh_b; intro _))
  case invokespecial => simp only [stp]; exact Sh_i (spc_sh _ _ _ _ _ _) Sh_n
  case invokestatic => simp only [stp]; exact Sh_i (spc_sh _ _ _ _ _ _) Sh_n
  case invokevirtual => simp only [stp]; exact Sh_i (spc_sh _ _ _ _ _ _) Sh_n
theorem stp_sh {r : Row} {pc : Nat} {L S : List AV} {sh : List Kd} {mm : Mm} {q : St5} (h : stp pc r L S sh mm = some q) : q.2.2.2.1 = sh ∨ ∃ kd, q.2.2.2.1 = sh ++ [kd] := stp_Sh r pc L S sh mm q h
theorem stp_mono {r : Row} {pc : Nat} {L S : List AV} {sh : List Kd} {mm : Mm} {q : St5} (h : stp pc r L S sh mm = some q) : sh.length ≤ q.2.2.2.1.length ∧ tot sh ≤ tot q.2.2.2.1 := by
  rcases stp_sh h with h1 | ⟨kd, h1⟩
  · rw [h1]; exact ⟨Nat.le_refl _, Nat.le_refl _⟩
  · rw [h1, tot_push, List.length_append]; exact ⟨by omega, by omega⟩
theorem run_mono : ∀ (n d j pc : Nat) (L S : List AV) (sh : List Kd) (mm : Mm) (v : AV) (sh' : List Kd) (mm' : Mm), run n d j pc L S sh mm = some (v, sh', mm') → sh.length ≤ sh'.length ∧ tot sh ≤ tot sh' := by
  intro n
  induction n with
  | zero => intro d j pc L S sh mm v sh' mm' h; cases h
  | succ n ih =>
    intro d j pc L S sh mm v sh' mm' h
    unfold run at h
    split at h
    · cases h
    · rename_i r hr
      split at h
      · split at h
        · cases h; exact ⟨Nat.le_refl _, Nat.le_refl _⟩
        · cases h
      · split at h
        · split at h
          · cases h
          · split at h
            · split at h
              · cases h
              · rename_i q hq
                obtain ⟨v1, sh1, mm1⟩ := q
                have h1 := ih _ _ _ _ _ _ _ _ _ _ hq
                have h2 := ih _ _ _ _ _ _ _ _ _ _ h
                dsimp only at h1 h2
                exact ⟨by omega, by omega⟩
            · cases h
        · split at h
          · cases h
          · rename_i q hq
            have h1 := stp_mono hq
            have h2 := ih _ _ _ _ _ _ _ _ _ _ h
            exact ⟨by omega, by omega⟩
def M0 (sh : List Kd) (mm : Mm) (o : Option St5) : Prop := 1 ≤ sh.length → ∀ q, o = some q → ∀ j, q.2.2.2.2 0 j = mm 0 j
theorem M0_n {sh : List Kd} {mm : Mm} : M0 sh mm none := fun _ _ h => by cases h
theorem M0_s {sh sh' : List Kd} {a : Nat} {b c : List AV} {m : Mm} : M0 sh m (some (a, b, c, sh', m)) := fun _ _ h _ => by cases h; rfl
theorem M0_u {sh sh' : List Kd} {a i : Nat} {o v : Int} {b c : List AV} {m : Mm} (h : 0 < o) : M0 sh m (some (a, b, c, sh', nu_up m o.toNat i v)) := fun _ _ h1 j => by
  cases h1
  show nu_up m o.toNat i v 0 j = m 0 j
  unfold nu_up
  rw [if_neg (by omega)]
theorem M0_p {sh sh' : List Kd} {a : Nat} {f : Nat → Int} {b c : List AV} {m : Mm} : M0 sh m (some (a, b, c, sh', fun p j => if p = sh.length then f j else m p j)) := fun h0 _ h1 j => by
  cases h1
  show (if 0 = sh.length then f j else m 0 j) = m 0 j
  rw [if_neg (by omega)]
theorem M0_c {sh sh' : List Kd} {a : Nat} {g : Int} {f : Nat → Int} {b c : List AV} {m : Mm} {C : Nat → Prop} [DecidablePred C] (h : 0 < g) : M0 sh m (some (a, b, c, sh', fun p j => if p = g.toNat then (if C j then f j else m p j) else m p j)) := fun h0 _ h1 j => by
  cases h1
  show (if 0 = g.toNat then (if C j then f j else m 0 j) else m 0 j) = m 0 j
  rw [if_neg (by omega)]
theorem M0_b {α : Type} {sh : List Kd} {mm : Mm} {o : Option α} {f : α → Option St5} (h : ∀ x, M0 sh mm (f x)) : M0 sh mm (o.bind f) := by
  intro h0 q hq
  cases o with
  | none => cases hq
  | some x => exact h x h0 q hq
theorem M0_i {c : Prop} [Decidable c] {sh : List Kd} {mm : Mm} {a b : Option St5} (h1 : c → M0 sh mm a) (h2 : M0 sh mm b) : M0 sh mm (if c then a else b) := by
  by_cases h : c
  · rw [if_pos h]; exact h1 h
  · rw [if_neg h]; exact h2
theorem spc_m0 (nx : Nat) (a : Int) (L S : List AV) (sh : List Kd) (mm : Mm) : M0 sh mm (spc nx a L S sh mm) := by
  unfold spc
  simp only [Option.bind_eq_bind]
  by_cases a1 : a = -1
  · rw [if_pos a1]; exact M0_b fun _ => M0_i (fun _ => M0_s) M0_n
  rw [if_neg a1]
  by_cases a2 : a = -2
  · rw [if_pos a2]; exact M0_b fun _ => M0_b fun _ => M0_b fun _ => M0_b fun _ => M0_b fun _ => M0_b fun _ => M0_b fun _ => M0_i (fun h => M0_c h.2.2.1) M0_n
  rw [if_neg a2]
  by_cases a3 : a = -3
  · rw [if_pos a3]; exact M0_b fun _ => M0_b fun _ => M0_i (fun _ => M0_s) M0_n
  rw [if_neg a3]
  by_cases a4 : a = -4
  · rw [if_pos a4]; exact M0_b fun _ => M0_b fun _ => M0_i (fun _ => M0_s) M0_n
  rw [if_neg a4]
  by_cases a5 : a = -5
  · rw [if_pos a5]; exact M0_b fun _ => M0_b fun _ => M0_i (fun _ => M0_s) M0_n
  rw [if_neg a5]
  by_cases a6 : a = -6
  · rw [if_pos a6]; exact M0_b fun _ => M0_b fun _ => M0_i (fun _ => M0_s) M0_n
  rw [if_neg a6]
  by_cases a7 : a = -7
  · rw [if_pos a7]; exact M0_b fun _ => M0_b fun _ => M0_b fun _ => M0_i (fun _ => M0_s) M0_n
  rw [if_neg a7]
  exact M0_n
theorem stp_M0 (r : Row) (pc : Nat) (L S : List AV) (sh : List Kd) (mm : Mm) : M0 sh mm (stp pc r L S sh mm) := by
  obtain ⟨ins, nx, a, b, cw, w⟩ := r
  cases ins

  case aconst_null => exact M0_n
  case areturn => exact M0_n
  case athrow => exact M0_n
  case caload => exact M0_n
  case castore => exact M0_n
  case checkcast => exact M0_n
  case d2f => exact M0_n
  case d2i => exact M0_n
  case d2l => exact M0_n
  case dadd => exact M0_n
  case daload => exact M0_n
  case dastore => exact M0_n
  case dcmp => exact M0_n
  case dconst => exact M0_n
  case ddiv => exact M0_n
  case dload => exact M0_n
  case dload_n => exact M0_n
  case dmul => exact M0_n
  case dneg => exact M0_n
  case drem => exact M0_n
  case dreturn => exact M0_n
  case dstore => exact M0_n
  case dstore_n => exact M0_n
  case dsub => exact M0_n
  case dup_x1 => exact M0_n
  case dup_x2 => exact M0_n
  case dup2_x1 => exact M0_n
  case dup2_x2 => exact M0_n
  case f2d => exact M0_n
  case f2i => exact M0_n
  case f2l => exact M0_n
  case fadd => exact M0_n
  case faload => exact M0_n
  case fastore => exact M0_n
  case fcmp => exact M0_n
  case fconst => exact M0_n
  case fdiv => exact M0_n
  case fload => exact M0_n
  case fload_n => exact M0_n
  case fmul => exact M0_n
  case fneg => exact M0_n
  case frem => exact M0_n
  case freturn => exact M0_n
  case fstore => exact M0_n
  case fstore_n => exact M0_n
  case fsub => exact M0_n
  case getstatic => exact M0_n
  case goto_w => exact M0_n
  case i2c => exact M0_n
  case i2d => exact M0_n
  case i2f => exact M0_n
  case if_acmp => exact M0_n
  case ifnonnull => exact M0_n
  case ifnull => exact M0_n
  case instanceof => exact M0_n
  case invokedynamic => exact M0_n
  case invokeinterface => exact M0_n
  case ireturn => exact M0_n
  case iushr => exact M0_n
  case jsr => exact M0_n
  case jsr_w => exact M0_n
  case l2d => exact M0_n
  case l2f => exact M0_n
  case lneg => exact M0_n
  case lookupswitch => exact M0_n
  case lreturn => exact M0_n
  case lushr => exact M0_n
  case lxor => exact M0_n
  case monitorenter => exact M0_n
  case monitorexit => exact M0_n
  case multianewarray => exact M0_n
  case nop => exact M0_n
  case putstatic => exact M0_n
  case ret => exact M0_n
  case return_ => exact M0_n
  case saload => exact M0_n
  case sastore => exact M0_n
  case swap => exact M0_n
  case bipush => simp only [stp, Option.bind_eq_bind]; repeat (first | exact M0_n | exact M0_s | exact M0_p | (refine M0_i (fun _ => ?_) ?_) | (apply M0_b; intro _))
  case sipush => simp only [stp, Option.bind_eq_bind]; repeat (first | exact M0_n | exact M0_s | exact M0_p | (refine M0_i (fun _ => ?_) ?_) | (apply M0_b; intro _))
  case lconst => simp only [stp, Option.bind_eq_bind]; repeat (first | exact M0_n | exact M0_s | exact M0_p | (refine M0_i (fun _ => ?_) ?_) | (apply M0_b; intro _))
  case ldc => simp only [stp, Option.bind_eq_bind]; repeat (first | exact M0_n | exact M0_s | exact M0_p | (refine M0_i (fun _ => ?_) ?_) | (apply M0_b; intro _))
  case ldc_w => simp only [stp, Option.bind_eq_bind]; repeat (first | exact M0_n | exact M0_s | exact M0_p | (refine M0_i (fun _ => ?_) ?_) | (apply M0_b; intro _))
  case ldc2_w => simp only [stp, Option.bind_eq_bind]; repeat (first | exact M0_n | exact M0_s | exact M0_p | (refine M0_i (fun _ => ?_) ?_) | (apply M0_b; intro _))
  case iload => simp only [stp, Option.bind_eq_bind]; repeat (first | exact M0_n | exact M0_s | exact M0_p | (refine M0_i (fun _ => ?_) ?_) | (apply M0_b; intro _))
  case lload => simp only [stp, Option.bind_eq_bind]; repeat (first | exact M0_n | exact M0_s | exact M0_p | (refine M0_i (fun _ => ?_) ?_) | (apply M0_b; intro _))
  case aload => simp only [stp, Option.bind_eq_bind]; repeat (first | exact M0_n | exact M0_s | exact M0_p | (refine M0_i (fun _ => ?_) ?_) | (apply M0_b; intro _))
  case iload_n => simp only [stp, Option.bind_eq_bind]; repeat (first | exact M0_n | exact M0_s | exact M0_p | (refine M0_i (fun _ => ?_) ?_) | (apply M0_b; intro _))
  case lload_n => simp only [stp, Option.bind_eq_bind]; repeat (first | exact M0_n | exact M0_s | exact M0_p | (refine M0_i (fun _ => ?_) ?_) | (apply M0_b; intro _))
  case aload_n => simp only [stp, Option.bind_eq_bind]; repeat (first | exact M0_n | exact M0_s | exact M0_p | (refine M0_i (fun _ => ?_) ?_) | (apply M0_b; intro _))
  case istore => simp only [stp, Option.bind_eq_bind]; repeat (first | exact M0_n | exact M0_s | exact M0_p | (refine M0_i (fun _ => ?_) ?_) | (apply M0_b; intro _))
  case lstore => simp only [stp, Option.bind_eq_bind]; repeat (first | exact M0_n | exact M0_s | exact M0_p | (refine M0_i (fun _ => ?_) ?_) | (apply M0_b; intro _))
  case astore => simp only [stp, Option.bind_eq_bind]; repeat (first | exact M0_n | exact M0_s | exact M0_p | (refine M0_i (fun _ => ?_) ?_) | (apply M0_b; intro _))
  case istore_n => simp only [stp, Option.bind_eq_bind]; repeat (first | exact M0_n | exact M0_s | exact M0_p | (refine M0_i (fun _ => ?_) ?_) | (apply M0_b; intro _))
  case lstore_n => simp only [stp, Option.bind_eq_bind]; repeat (first | exact M0_n | exact M0_s | exact M0_p | (refine M0_i (fun _ => ?_) ?_) | (apply M0_b; intro _))
  case astore_n => simp only [stp, Option.bind_eq_bind]; repeat (first | exact M0_n | exact M0_s | exact M0_p | (refine M0_i (fun _ => ?_) ?_) | (apply M0_b; intro _))
  case iinc => simp only [stp, Option.bind_eq_bind]; repeat (first | exact M0_n | exact M0_s | exact M0_p | (refine M0_i (fun _ => ?_) ?_) | (apply M0_b; intro _))
  case iadd => simp only [stp, Option.bind_eq_bind]; repeat (first | exact M0_n | exact M0_s | exact M0_p | (refine M0_i (fun _ => ?_) ?_) | (apply M0_b; intro _))
  case isub => simp only [stp, Option.bind_eq_bind]; repeat (first | exact M0_n | exact M0_s | exact M0_p | (refine M0_i (fun _ => ?_) ?_) | (apply M0_b; intro _))
  case imul => simp only [stp, Option.bind_eq_bind]; repeat (first | exact M0_n | exact M0_s | exact M0_p | (refine M0_i (fun _ => ?_) ?_) | (apply M0_b; intro _))
  case iand => simp only [stp, Option.bind_eq_bind]; repeat (first | exact M0_n | exact M0_s | exact M0_p | (refine M0_i (fun _ => ?_) ?_) | (apply M0_b; intro _))
  case ior => simp only [stp, Option.bind_eq_bind]; repeat (first | exact M0_n | exact M0_s | exact M0_p | (refine M0_i (fun _ => ?_) ?_) | (apply M0_b; intro _))
  case ixor => simp only [stp, Option.bind_eq_bind]; repeat (first | exact M0_n | exact M0_s | exact M0_p | (refine M0_i (fun _ => ?_) ?_) | (apply M0_b; intro _))
  case ishl => simp only [stp, Option.bind_eq_bind]; repeat (first | exact M0_n | exact M0_s | exact M0_p | (refine M0_i (fun _ => ?_) ?_) | (apply M0_b; intro _))
  case ishr => simp only [stp, Option.bind_eq_bind]; repeat (first | exact M0_n | exact M0_s | exact M0_p | (refine M0_i (fun _ => ?_) ?_) | (apply M0_b; intro _))
  case ladd => simp only [stp, Option.bind_eq_bind]; repeat (first | exact M0_n | exact M0_s | exact M0_p | (refine M0_i (fun _ => ?_) ?_) | (apply M0_b; intro _))
  case lsub => simp only [stp, Option.bind_eq_bind]; repeat (first | exact M0_n | exact M0_s | exact M0_p | (refine M0_i (fun _ => ?_) ?_) | (apply M0_b; intro _))
  case lmul => simp only [stp, Option.bind_eq_bind]; repeat (first | exact M0_n | exact M0_s | exact M0_p | (refine M0_i (fun _ => ?_) ?_) | (apply M0_b; intro _))
  case land => simp only [stp, Option.bind_eq_bind]; repeat (first | exact M0_n | exact M0_s | exact M0_p | (refine M0_i (fun _ => ?_) ?_) | (apply M0_b; intro _))
  case lor => simp only [stp, Option.bind_eq_bind]; repeat (first | exact M0_n | exact M0_s | exact M0_p | (refine M0_i (fun _ => ?_) ?_) | (apply M0_b; intro _))
  case lshl => simp only [stp, Option.bind_eq_bind]; repeat (first | exact M0_n | exact M0_s | exact M0_p | (refine M0_i (fun _ => ?_) ?_) | (apply M0_b; intro _))
  case lshr => simp only [stp, Option.bind_eq_bind]; repeat (first | exact M0_n | exact M0_s | exact M0_p | (refine M0_i (fun _ => ?_) ?_) | (apply M0_b; intro _))
  case idiv => simp only [stp, Option.bind_eq_bind]; repeat (first | exact M0_n | exact M0_s | exact M0_p | (refine M0_i (fun _ => ?_) ?_) | (apply M0_b; intro _))
  case irem => simp only [stp, Option.bind_eq_bind]; repeat (first | exact M0_n | exact M0_s | exact M0_p | (refine M0_i (fun _ => ?_) ?_) | (apply M0_b; intro _))
  case ldiv => simp only [stp, Option.bind_eq_bind]; repeat (first | exact M0_n | exact M0_s | exact M0_p | (refine M0_i (fun _ => ?_) ?_) | (apply M0_b; intro _))
  case lrem => simp only [stp, Option.bind_eq_bind]; repeat (first | exact M0_n | exact M0_s | exact M0_p | (refine M0_i (fun _ => ?_) ?_) | (apply M0_b; intro _))
  case lcmp => simp only [stp, Option.bind_eq_bind]; repeat (first | exact M0_n | exact M0_s | exact M0_p | (refine M0_i (fun _ => ?_) ?_) | (apply M0_b; intro _))
  case ineg => simp only [stp, Option.bind_eq_bind]; repeat (first | exact M0_n | exact M0_s | exact M0_p | (refine M0_i (fun _ => ?_) ?_) | (apply M0_b; intro _))
  case i2l => simp only [stp, Option.bind_eq_bind]; repeat (first | exact M0_n | exact M0_s | exact M0_p | (refine M0_i (fun _ => ?_) ?_) | (apply M0_b; intro _))
  case l2i => simp only [stp, Option.bind_eq_bind]; repeat (first | exact M0_n | exact M0_s | exact M0_p | (refine M0_i (fun _ => ?_) ?_) | (apply M0_b; intro _))
  case i2b => simp only [stp, Option.bind_eq_bind]; repeat (first | exact M0_n | exact M0_s | exact M0_p | (refine M0_i (fun _ => ?_) ?_) | (apply M0_b; intro _))
  case i2s => simp only [stp, Option.bind_eq_bind]; repeat (first | exact M0_n | exact M0_s | exact M0_p | (refine M0_i (fun _ => ?_) ?_) | (apply M0_b; intro _))
  case goto => simp only [stp, Option.bind_eq_bind]; repeat (first | exact M0_n | exact M0_s | exact M0_p | (refine M0_i (fun _ => ?_) ?_) | (apply M0_b; intro _))
  case dup => simp only [stp]; split <;> first | exact M0_n | exact M0_i (fun _ => M0_n) M0_s | exact M0_i (fun _ => M0_s) M0_n
  case dup2 => simp only [stp]; split <;> first | exact M0_n | exact M0_i (fun _ => M0_n) M0_s | exact M0_i (fun _ => M0_s) M0_n
  case pop => simp only [stp]; split <;> first | exact M0_n | exact M0_i (fun _ => M0_n) M0_s | exact M0_i (fun _ => M0_s) M0_n
  case pop2 => simp only [stp]; split <;> first | exact M0_n | exact M0_i (fun _ => M0_n) M0_s | exact M0_i (fun _ => M0_s) M0_n
  case getfield => simp only [stp, Option.bind_eq_bind]; repeat (first | exact M0_n | exact M0_s | exact M0_p | (refine M0_i (fun _ => ?_) ?_) | (apply M0_b; intro _))
  case putfield => simp only [stp, Option.bind_eq_bind]; repeat (first | exact M0_n | (refine M0_i (fun h => M0_u h.1) ?_) | (apply M0_b; intro _))
  case arraylength => simp only [stp, Option.bind_eq_bind]; repeat (first | exact M0_n | exact M0_s | exact M0_p | (refine M0_i (fun _ => ?_) ?_) | (apply M0_b; intro _))
  case iaload => simp only [stp, Option.bind_eq_bind]; repeat (first | exact M0_n | exact M0_s | exact M0_p | (refine M0_i (fun _ => ?_) ?_) | (apply M0_b; intro _))
  case laload => simp only [stp, Option.bind_eq_bind]; repeat (first | exact M0_n | exact M0_s | exact M0_p | (refine M0_i (fun _ => ?_) ?_) | (apply M0_b; intro _))
  case baload => simp only [stp, Option.bind_eq_bind]; repeat (first | exact M0_n | exact M0_s | exact M0_p | (refine M0_i (fun _ => ?_) ?_) | (apply M0_b; intro _))
  case aaload => simp only [stp, Option.bind_eq_bind]; repeat (first | exact M0_n | exact M0_s | exact M0_p | (refine M0_i (fun _ => ?_) ?_) | (apply M0_b; intro _))
  case iastore => simp only [stp, Option.bind_eq_bind]; repeat (first | exact M0_n | (refine M0_i (fun h => M0_u h.1) ?_) | (apply M0_b; intro _))
  case lastore => simp only [stp, Option.bind_eq_bind]; repeat (first | exact M0_n | (refine M0_i (fun h => M0_u h.1) ?_) | (apply M0_b; intro _))
  case bastore => simp only [stp, Option.bind_eq_bind]; repeat (first | exact M0_n | (refine M0_i (fun h => M0_u h.1) ?_) | (apply M0_b; intro _))
  case aastore => simp only [stp, Option.bind_eq_bind]; repeat (first | exact M0_n | (refine M0_i (fun h => M0_u h.1) ?_) | (apply M0_b; intro _))
  case tableswitch => simp only [stp, Option.bind_eq_bind]; repeat (first | exact M0_n | exact M0_s | exact M0_p | (refine M0_i (fun _ => ?_) ?_) | (apply M0_b; intro _))
  case iconst => simp only [stp, Option.bind_eq_bind]; repeat (first | exact M0_n | exact M0_s | exact M0_p | (refine M0_i (fun _ => ?_) ?_) | (apply M0_b; intro _))
  case ifCond => simp only [stp, Option.bind_eq_bind]; repeat (first | exact M0_n | exact M0_s | exact M0_p | (refine M0_i (fun _ => ?_) ?_) | (apply M0_b; intro _))
  case if_icmp => simp only [stp, Option.bind_eq_bind]; repeat (first | exact M0_n | exact M0_s | exact M0_p | (refine M0_i (fun _ => ?_) ?_) | (apply M0_b; intro _))
  case new => simp only [stp, Option.bind_eq_bind]; repeat (first | exact M0_n | exact M0_s | exact M0_p | (refine M0_i (fun _ => ?_) ?_) | (apply M0_b; intro _))
  case newarray => simp only [stp, Option.bind_eq_bind]; repeat (first | exact M0_n | exact M0_s | exact M0_p | (refine M0_i (fun _ => ?_) ?_) | (apply M0_b; intro _))
  case anewarray => simp only [stp, Option.bind_eq_bind]; repeat (first | exact M0_n | exact M0_s | exact M0_p | (refine M0_i (fun _ => ?_) ?_) | (apply M0_b; intro _))
  case invokespecial => simp only [stp]; exact M0_i (fun _ => spc_m0 _ _ _ _ _ _) M0_n
  case invokestatic => simp only [stp]; exact M0_i (fun _ => spc_m0 _ _ _ _ _ _) M0_n
  case invokevirtual => simp only [stp]; exact M0_i (fun _ => spc_m0 _ _ _ _ _ _) M0_n
theorem run_m0 : ∀ (n d j pc : Nat) (L S : List AV) (sh : List Kd) (mm : Mm) (v : AV) (sh' : List Kd) (mm' : Mm), 1 ≤ sh.length → run n d j pc L S sh mm = some (v, sh', mm') → sh'[0]? = sh[0]? ∧ ∀ j, mm' 0 j = mm 0 j := by
  intro n
  induction n with
  | zero => intro d j pc L S sh mm v sh' mm' h0 h; cases h
  | succ n ih =>
    intro d j pc L S sh mm v sh' mm' h0 h
    unfold run at h
    split at h
    · cases h
    · rename_i r hr
      split at h
      · split at h
        · cases h; exact ⟨rfl, fun _ => rfl⟩
        · cases h
      · split at h
        · split at h
          · cases h
          · split at h
            · split at h
              · cases h
              · rename_i q hq
                obtain ⟨v1, sh1, mm1⟩ := q
                have hm := run_mono _ _ _ _ _ _ _ _ _ _ _ hq
                have h1 := ih _ _ _ _ _ _ _ _ _ _ h0 hq
                have h2 := ih _ _ _ _ _ _ _ _ _ _ (Nat.le_trans h0 hm.1) h
                dsimp only at h1 h2
                exact ⟨h2.1.trans h1.1, fun i => (h2.2 i).trans (h1.2 i)⟩
            · cases h
        · split at h
          · cases h
          · rename_i q hq
            have hm := stp_mono hq
            have h1 := stp_M0 r pc L S sh mm h0 q hq
            have h2 := ih _ _ _ _ _ _ _ _ _ _ (Nat.le_trans h0 hm.1) h
            refine ⟨h2.1.trans ?_, fun i => (h2.2 i).trans (h1 i)⟩
            rcases stp_sh hq with h3 | ⟨kd, h3⟩
            · rw [h3]
            · rw [h3, List.getElem?_append_left (by omega)]
