/-! a fast check of 'decode': by the list of the bytes -/
theorem rb {α β : Type} {m : ClassFile.Decoder α} {f : α → ClassFile.Decoder β} {cc : ByteArray} {pc p : Nat} {a : α} (h : m cc pc = Except.ok (a, p)) : (m >>= f) cc pc = f a cc p := by
  simp only [bind, ReaderT.bind, StateT.bind, Except.bind, h]
theorem u1_at {cc : ByteArray} {pc : Nat} {b : UInt8} {t : List UInt8} (h : cc.data.toList.drop pc = b :: t) :
    (ClassFile.Reader.u1 : ClassFile.Decoder Nat) cc pc = Except.ok (b.toNat, pc + 1) := by
  have hl : pc < cc.data.toList.length := by
    rcases Nat.lt_or_ge pc cc.data.toList.length with q | q
    · exact q
    · rw [List.drop_eq_nil_iff.mpr q] at h; cases h
  have hs : pc < cc.size := by
    have : cc.size = cc.data.toList.length := by rw [Array.length_toList]; rfl
    omega
  have hb : cc[pc] = b := by
    have h1 : cc.data.toList[pc]? = some b := by
      have := congrArg List.head? h
      rw [List.head?_drop] at this
      exact this
    rw [List.getElem?_eq_getElem hl] at h1
    exact Option.some.inj h1
  show (if h : pc < cc.size then (do set (pc + 1); pure cc[pc].toNat : ClassFile.Decoder Nat) else throw (ClassFile.HasTruncated.truncated pc)) cc pc = _
  rw [dif_pos hs, hb]
  rfl
theorem dr_1 {l t : List UInt8} {pc : Nat} {b : UInt8} (h : l.drop pc = b :: t) : l.drop (pc + 1) = t := by
  rw [← List.drop_drop, h]; rfl
theorem u2_at {cc : ByteArray} {pc : Nat} {b1 b2 : UInt8} {t : List UInt8} (h : cc.data.toList.drop pc = b1 :: b2 :: t) :
    (ClassFile.Reader.u2 : ClassFile.Decoder Nat) cc pc = Except.ok (b1.toNat * 256 + b2.toNat, pc + 2) :=
  (rb (u1_at h)).trans ((rb (u1_at (dr_1 h))).trans rfl)
theorem s1_at {cc : ByteArray} {pc : Nat} {b : UInt8} {t : List UInt8} (h : cc.data.toList.drop pc = b :: t) :
    (ClassFile.Reader.s1 : ClassFile.Decoder Int) cc pc = Except.ok (ClassFile.Reader.signed 8 b.toNat, pc + 1) := by
  have e := u1_at h
  simp only [ClassFile.Reader.s1, Functor.map, ReaderT.bind, StateT.bind, StateT.map, bind, StateT.pure, Except.bind, Except.pure, e]
  rfl
theorem s2_at {cc : ByteArray} {pc : Nat} {b1 b2 : UInt8} {t : List UInt8} (h : cc.data.toList.drop pc = b1 :: b2 :: t) :
    (ClassFile.Reader.s2 : ClassFile.Decoder Int) cc pc = Except.ok (ClassFile.Reader.signed 16 (b1.toNat * 256 + b2.toNat), pc + 2) := by
  have e := u2_at h
  simp only [ClassFile.Reader.s2, Functor.map, ReaderT.bind, StateT.bind, StateT.map, bind, StateT.pure, Except.bind, Except.pure, e]
  rfl
theorem de_of {cc : ByteArray} {pc n : Nat} {i : Instr} (h : (ClassFile.Decoder.instr pc) cc pc = Except.ok (i, pc + n)) : decode cc pc = Except.ok (i, n) := by
  simp only [decode, ClassFile.Reader.runAt, ReaderT.run, StateT.run, bind, Except.bind, h, Except.pure]
  rw [Nat.add_sub_cancel_left]
  rfl
set_option maxRecDepth 100000 in
theorem de_46 {cc : ByteArray} {pc : Nat} {t : List UInt8} (h : cc.data.toList.drop pc = 46 :: t) : decode cc pc = .ok (.iaload, 1) := de_of ((rb (u1_at h)).trans rfl)
set_option maxRecDepth 100000 in
theorem de_47 {cc : ByteArray} {pc : Nat} {t : List UInt8} (h : cc.data.toList.drop pc = 47 :: t) : decode cc pc = .ok (.laload, 1) := de_of ((rb (u1_at h)).trans rfl)
set_option maxRecDepth 100000 in
theorem de_50 {cc : ByteArray} {pc : Nat} {t : List UInt8} (h : cc.data.toList.drop pc = 50 :: t) : decode cc pc = .ok (.aaload, 1) := de_of ((rb (u1_at h)).trans rfl)
set_option maxRecDepth 100000 in
theorem de_51 {cc : ByteArray} {pc : Nat} {t : List UInt8} (h : cc.data.toList.drop pc = 51 :: t) : decode cc pc = .ok (.baload, 1) := de_of ((rb (u1_at h)).trans rfl)
set_option maxRecDepth 100000 in
theorem de_79 {cc : ByteArray} {pc : Nat} {t : List UInt8} (h : cc.data.toList.drop pc = 79 :: t) : decode cc pc = .ok (.iastore, 1) := de_of ((rb (u1_at h)).trans rfl)
set_option maxRecDepth 100000 in
theorem de_80 {cc : ByteArray} {pc : Nat} {t : List UInt8} (h : cc.data.toList.drop pc = 80 :: t) : decode cc pc = .ok (.lastore, 1) := de_of ((rb (u1_at h)).trans rfl)
set_option maxRecDepth 100000 in
theorem de_83 {cc : ByteArray} {pc : Nat} {t : List UInt8} (h : cc.data.toList.drop pc = 83 :: t) : decode cc pc = .ok (.aastore, 1) := de_of ((rb (u1_at h)).trans rfl)
set_option maxRecDepth 100000 in
theorem de_84 {cc : ByteArray} {pc : Nat} {t : List UInt8} (h : cc.data.toList.drop pc = 84 :: t) : decode cc pc = .ok (.bastore, 1) := de_of ((rb (u1_at h)).trans rfl)
set_option maxRecDepth 100000 in
theorem de_87 {cc : ByteArray} {pc : Nat} {t : List UInt8} (h : cc.data.toList.drop pc = 87 :: t) : decode cc pc = .ok (.pop, 1) := de_of ((rb (u1_at h)).trans rfl)
set_option maxRecDepth 100000 in
theorem de_88 {cc : ByteArray} {pc : Nat} {t : List UInt8} (h : cc.data.toList.drop pc = 88 :: t) : decode cc pc = .ok (.pop2, 1) := de_of ((rb (u1_at h)).trans rfl)
set_option maxRecDepth 100000 in
theorem de_89 {cc : ByteArray} {pc : Nat} {t : List UInt8} (h : cc.data.toList.drop pc = 89 :: t) : decode cc pc = .ok (.dup, 1) := de_of ((rb (u1_at h)).trans rfl)
set_option maxRecDepth 100000 in
theorem de_92 {cc : ByteArray} {pc : Nat} {t : List UInt8} (h : cc.data.toList.drop pc = 92 :: t) : decode cc pc = .ok (.dup2, 1) := de_of ((rb (u1_at h)).trans rfl)
set_option maxRecDepth 100000 in
theorem de_96 {cc : ByteArray} {pc : Nat} {t : List UInt8} (h : cc.data.toList.drop pc = 96 :: t) : decode cc pc = .ok (.iadd, 1) := de_of ((rb (u1_at h)).trans rfl)
set_option maxRecDepth 100000 in
theorem de_97 {cc : ByteArray} {pc : Nat} {t : List UInt8} (h : cc.data.toList.drop pc = 97 :: t) : decode cc pc = .ok (.ladd, 1) := de_of ((rb (u1_at h)).trans rfl)
set_option maxRecDepth 100000 in
theorem de_100 {cc : ByteArray} {pc : Nat} {t : List UInt8} (h : cc.data.toList.drop pc = 100 :: t) : decode cc pc = .ok (.isub, 1) := de_of ((rb (u1_at h)).trans rfl)
set_option maxRecDepth 100000 in
theorem de_101 {cc : ByteArray} {pc : Nat} {t : List UInt8} (h : cc.data.toList.drop pc = 101 :: t) : decode cc pc = .ok (.lsub, 1) := de_of ((rb (u1_at h)).trans rfl)
set_option maxRecDepth 100000 in
theorem de_104 {cc : ByteArray} {pc : Nat} {t : List UInt8} (h : cc.data.toList.drop pc = 104 :: t) : decode cc pc = .ok (.imul, 1) := de_of ((rb (u1_at h)).trans rfl)
set_option maxRecDepth 100000 in
theorem de_105 {cc : ByteArray} {pc : Nat} {t : List UInt8} (h : cc.data.toList.drop pc = 105 :: t) : decode cc pc = .ok (.lmul, 1) := de_of ((rb (u1_at h)).trans rfl)
set_option maxRecDepth 100000 in
theorem de_108 {cc : ByteArray} {pc : Nat} {t : List UInt8} (h : cc.data.toList.drop pc = 108 :: t) : decode cc pc = .ok (.idiv, 1) := de_of ((rb (u1_at h)).trans rfl)
set_option maxRecDepth 100000 in
theorem de_109 {cc : ByteArray} {pc : Nat} {t : List UInt8} (h : cc.data.toList.drop pc = 109 :: t) : decode cc pc = .ok (.ldiv, 1) := de_of ((rb (u1_at h)).trans rfl)
set_option maxRecDepth 100000 in
theorem de_112 {cc : ByteArray} {pc : Nat} {t : List UInt8} (h : cc.data.toList.drop pc = 112 :: t) : decode cc pc = .ok (.irem, 1) := de_of ((rb (u1_at h)).trans rfl)
set_option maxRecDepth 100000 in
theorem de_113 {cc : ByteArray} {pc : Nat} {t : List UInt8} (h : cc.data.toList.drop pc = 113 :: t) : decode cc pc = .ok (.lrem, 1) := de_of ((rb (u1_at h)).trans rfl)
set_option maxRecDepth 100000 in
theorem de_116 {cc : ByteArray} {pc : Nat} {t : List UInt8} (h : cc.data.toList.drop pc = 116 :: t) : decode cc pc = .ok (.ineg, 1) := de_of ((rb (u1_at h)).trans rfl)
set_option maxRecDepth 100000 in
theorem de_120 {cc : ByteArray} {pc : Nat} {t : List UInt8} (h : cc.data.toList.drop pc = 120 :: t) : decode cc pc = .ok (.ishl, 1) := de_of ((rb (u1_at h)).trans rfl)
set_option maxRecDepth 100000 in
theorem de_121 {cc : ByteArray} {pc : Nat} {t : List UInt8} (h : cc.data.toList.drop pc = 121 :: t) : decode cc pc = .ok (.lshl, 1) := de_of ((rb (u1_at h)).trans rfl)
set_option maxRecDepth 100000 in
theorem de_122 {cc : ByteArray} {pc : Nat} {t : List UInt8} (h : cc.data.toList.drop pc = 122 :: t) : decode cc pc = .ok (.ishr, 1) := de_of ((rb (u1_at h)).trans rfl)
set_option maxRecDepth 100000 in
theorem de_123 {cc : ByteArray} {pc : Nat} {t : List UInt8} (h : cc.data.toList.drop pc = 123 :: t) : decode cc pc = .ok (.lshr, 1) := de_of ((rb (u1_at h)).trans rfl)
set_option maxRecDepth 100000 in
theorem de_126 {cc : ByteArray} {pc : Nat} {t : List UInt8} (h : cc.data.toList.drop pc = 126 :: t) : decode cc pc = .ok (.iand, 1) := de_of ((rb (u1_at h)).trans rfl)
set_option maxRecDepth 100000 in
theorem de_127 {cc : ByteArray} {pc : Nat} {t : List UInt8} (h : cc.data.toList.drop pc = 127 :: t) : decode cc pc = .ok (.land, 1) := de_of ((rb (u1_at h)).trans rfl)
set_option maxRecDepth 100000 in
theorem de_128 {cc : ByteArray} {pc : Nat} {t : List UInt8} (h : cc.data.toList.drop pc = 128 :: t) : decode cc pc = .ok (.ior, 1) := de_of ((rb (u1_at h)).trans rfl)
set_option maxRecDepth 100000 in
theorem de_129 {cc : ByteArray} {pc : Nat} {t : List UInt8} (h : cc.data.toList.drop pc = 129 :: t) : decode cc pc = .ok (.lor, 1) := de_of ((rb (u1_at h)).trans rfl)
set_option maxRecDepth 100000 in
theorem de_130 {cc : ByteArray} {pc : Nat} {t : List UInt8} (h : cc.data.toList.drop pc = 130 :: t) : decode cc pc = .ok (.ixor, 1) := de_of ((rb (u1_at h)).trans rfl)
set_option maxRecDepth 100000 in
theorem de_133 {cc : ByteArray} {pc : Nat} {t : List UInt8} (h : cc.data.toList.drop pc = 133 :: t) : decode cc pc = .ok (.i2l, 1) := de_of ((rb (u1_at h)).trans rfl)
set_option maxRecDepth 100000 in
theorem de_136 {cc : ByteArray} {pc : Nat} {t : List UInt8} (h : cc.data.toList.drop pc = 136 :: t) : decode cc pc = .ok (.l2i, 1) := de_of ((rb (u1_at h)).trans rfl)
set_option maxRecDepth 100000 in
theorem de_145 {cc : ByteArray} {pc : Nat} {t : List UInt8} (h : cc.data.toList.drop pc = 145 :: t) : decode cc pc = .ok (.i2b, 1) := de_of ((rb (u1_at h)).trans rfl)
set_option maxRecDepth 100000 in
theorem de_147 {cc : ByteArray} {pc : Nat} {t : List UInt8} (h : cc.data.toList.drop pc = 147 :: t) : decode cc pc = .ok (.i2s, 1) := de_of ((rb (u1_at h)).trans rfl)
set_option maxRecDepth 100000 in
theorem de_148 {cc : ByteArray} {pc : Nat} {t : List UInt8} (h : cc.data.toList.drop pc = 148 :: t) : decode cc pc = .ok (.lcmp, 1) := de_of ((rb (u1_at h)).trans rfl)
set_option maxRecDepth 100000 in
theorem de_172 {cc : ByteArray} {pc : Nat} {t : List UInt8} (h : cc.data.toList.drop pc = 172 :: t) : decode cc pc = .ok (.ireturn, 1) := de_of ((rb (u1_at h)).trans rfl)
set_option maxRecDepth 100000 in
theorem de_173 {cc : ByteArray} {pc : Nat} {t : List UInt8} (h : cc.data.toList.drop pc = 173 :: t) : decode cc pc = .ok (.lreturn, 1) := de_of ((rb (u1_at h)).trans rfl)
set_option maxRecDepth 100000 in
theorem de_176 {cc : ByteArray} {pc : Nat} {t : List UInt8} (h : cc.data.toList.drop pc = 176 :: t) : decode cc pc = .ok (.areturn, 1) := de_of ((rb (u1_at h)).trans rfl)
set_option maxRecDepth 100000 in
theorem de_177 {cc : ByteArray} {pc : Nat} {t : List UInt8} (h : cc.data.toList.drop pc = 177 :: t) : decode cc pc = .ok (.return_, 1) := de_of ((rb (u1_at h)).trans rfl)
set_option maxRecDepth 100000 in
theorem de_190 {cc : ByteArray} {pc : Nat} {t : List UInt8} (h : cc.data.toList.drop pc = 190 :: t) : decode cc pc = .ok (.arraylength, 1) := de_of ((rb (u1_at h)).trans rfl)
set_option maxRecDepth 100000 in
theorem de_2 {cc : ByteArray} {pc : Nat} {t : List UInt8} (h : cc.data.toList.drop pc = 2 :: t) : decode cc pc = .ok (.iconst (-1), 1) := de_of ((rb (u1_at h)).trans rfl)
set_option maxRecDepth 100000 in
theorem de_3 {cc : ByteArray} {pc : Nat} {t : List UInt8} (h : cc.data.toList.drop pc = 3 :: t) : decode cc pc = .ok (.iconst 0, 1) := de_of ((rb (u1_at h)).trans rfl)
set_option maxRecDepth 100000 in
theorem de_4 {cc : ByteArray} {pc : Nat} {t : List UInt8} (h : cc.data.toList.drop pc = 4 :: t) : decode cc pc = .ok (.iconst 1, 1) := de_of ((rb (u1_at h)).trans rfl)
set_option maxRecDepth 100000 in
theorem de_5 {cc : ByteArray} {pc : Nat} {t : List UInt8} (h : cc.data.toList.drop pc = 5 :: t) : decode cc pc = .ok (.iconst 2, 1) := de_of ((rb (u1_at h)).trans rfl)
set_option maxRecDepth 100000 in
theorem de_6 {cc : ByteArray} {pc : Nat} {t : List UInt8} (h : cc.data.toList.drop pc = 6 :: t) : decode cc pc = .ok (.iconst 3, 1) := de_of ((rb (u1_at h)).trans rfl)
set_option maxRecDepth 100000 in
theorem de_7 {cc : ByteArray} {pc : Nat} {t : List UInt8} (h : cc.data.toList.drop pc = 7 :: t) : decode cc pc = .ok (.iconst 4, 1) := de_of ((rb (u1_at h)).trans rfl)
set_option maxRecDepth 100000 in
theorem de_8 {cc : ByteArray} {pc : Nat} {t : List UInt8} (h : cc.data.toList.drop pc = 8 :: t) : decode cc pc = .ok (.iconst 5, 1) := de_of ((rb (u1_at h)).trans rfl)
set_option maxRecDepth 100000 in
theorem de_9 {cc : ByteArray} {pc : Nat} {t : List UInt8} (h : cc.data.toList.drop pc = 9 :: t) : decode cc pc = .ok (.lconst 0, 1) := de_of ((rb (u1_at h)).trans rfl)
set_option maxRecDepth 100000 in
theorem de_10 {cc : ByteArray} {pc : Nat} {t : List UInt8} (h : cc.data.toList.drop pc = 10 :: t) : decode cc pc = .ok (.lconst 1, 1) := de_of ((rb (u1_at h)).trans rfl)
set_option maxRecDepth 100000 in
theorem de_26 {cc : ByteArray} {pc : Nat} {t : List UInt8} (h : cc.data.toList.drop pc = 26 :: t) : decode cc pc = .ok (.iload_n 0, 1) := de_of ((rb (u1_at h)).trans rfl)
set_option maxRecDepth 100000 in
theorem de_27 {cc : ByteArray} {pc : Nat} {t : List UInt8} (h : cc.data.toList.drop pc = 27 :: t) : decode cc pc = .ok (.iload_n 1, 1) := de_of ((rb (u1_at h)).trans rfl)
set_option maxRecDepth 100000 in
theorem de_28 {cc : ByteArray} {pc : Nat} {t : List UInt8} (h : cc.data.toList.drop pc = 28 :: t) : decode cc pc = .ok (.iload_n 2, 1) := de_of ((rb (u1_at h)).trans rfl)
set_option maxRecDepth 100000 in
theorem de_29 {cc : ByteArray} {pc : Nat} {t : List UInt8} (h : cc.data.toList.drop pc = 29 :: t) : decode cc pc = .ok (.iload_n 3, 1) := de_of ((rb (u1_at h)).trans rfl)
set_option maxRecDepth 100000 in
theorem de_30 {cc : ByteArray} {pc : Nat} {t : List UInt8} (h : cc.data.toList.drop pc = 30 :: t) : decode cc pc = .ok (.lload_n 0, 1) := de_of ((rb (u1_at h)).trans rfl)
set_option maxRecDepth 100000 in
theorem de_31 {cc : ByteArray} {pc : Nat} {t : List UInt8} (h : cc.data.toList.drop pc = 31 :: t) : decode cc pc = .ok (.lload_n 1, 1) := de_of ((rb (u1_at h)).trans rfl)
set_option maxRecDepth 100000 in
theorem de_32 {cc : ByteArray} {pc : Nat} {t : List UInt8} (h : cc.data.toList.drop pc = 32 :: t) : decode cc pc = .ok (.lload_n 2, 1) := de_of ((rb (u1_at h)).trans rfl)
set_option maxRecDepth 100000 in
theorem de_33 {cc : ByteArray} {pc : Nat} {t : List UInt8} (h : cc.data.toList.drop pc = 33 :: t) : decode cc pc = .ok (.lload_n 3, 1) := de_of ((rb (u1_at h)).trans rfl)
set_option maxRecDepth 100000 in
theorem de_42 {cc : ByteArray} {pc : Nat} {t : List UInt8} (h : cc.data.toList.drop pc = 42 :: t) : decode cc pc = .ok (.aload_n 0, 1) := de_of ((rb (u1_at h)).trans rfl)
set_option maxRecDepth 100000 in
theorem de_43 {cc : ByteArray} {pc : Nat} {t : List UInt8} (h : cc.data.toList.drop pc = 43 :: t) : decode cc pc = .ok (.aload_n 1, 1) := de_of ((rb (u1_at h)).trans rfl)
set_option maxRecDepth 100000 in
theorem de_44 {cc : ByteArray} {pc : Nat} {t : List UInt8} (h : cc.data.toList.drop pc = 44 :: t) : decode cc pc = .ok (.aload_n 2, 1) := de_of ((rb (u1_at h)).trans rfl)
set_option maxRecDepth 100000 in
theorem de_45 {cc : ByteArray} {pc : Nat} {t : List UInt8} (h : cc.data.toList.drop pc = 45 :: t) : decode cc pc = .ok (.aload_n 3, 1) := de_of ((rb (u1_at h)).trans rfl)
set_option maxRecDepth 100000 in
theorem de_59 {cc : ByteArray} {pc : Nat} {t : List UInt8} (h : cc.data.toList.drop pc = 59 :: t) : decode cc pc = .ok (.istore_n 0, 1) := de_of ((rb (u1_at h)).trans rfl)
set_option maxRecDepth 100000 in
theorem de_60 {cc : ByteArray} {pc : Nat} {t : List UInt8} (h : cc.data.toList.drop pc = 60 :: t) : decode cc pc = .ok (.istore_n 1, 1) := de_of ((rb (u1_at h)).trans rfl)
set_option maxRecDepth 100000 in
theorem de_61 {cc : ByteArray} {pc : Nat} {t : List UInt8} (h : cc.data.toList.drop pc = 61 :: t) : decode cc pc = .ok (.istore_n 2, 1) := de_of ((rb (u1_at h)).trans rfl)
set_option maxRecDepth 100000 in
theorem de_62 {cc : ByteArray} {pc : Nat} {t : List UInt8} (h : cc.data.toList.drop pc = 62 :: t) : decode cc pc = .ok (.istore_n 3, 1) := de_of ((rb (u1_at h)).trans rfl)
set_option maxRecDepth 100000 in
theorem de_63 {cc : ByteArray} {pc : Nat} {t : List UInt8} (h : cc.data.toList.drop pc = 63 :: t) : decode cc pc = .ok (.lstore_n 0, 1) := de_of ((rb (u1_at h)).trans rfl)
set_option maxRecDepth 100000 in
theorem de_64 {cc : ByteArray} {pc : Nat} {t : List UInt8} (h : cc.data.toList.drop pc = 64 :: t) : decode cc pc = .ok (.lstore_n 1, 1) := de_of ((rb (u1_at h)).trans rfl)
set_option maxRecDepth 100000 in
theorem de_65 {cc : ByteArray} {pc : Nat} {t : List UInt8} (h : cc.data.toList.drop pc = 65 :: t) : decode cc pc = .ok (.lstore_n 2, 1) := de_of ((rb (u1_at h)).trans rfl)
set_option maxRecDepth 100000 in
theorem de_66 {cc : ByteArray} {pc : Nat} {t : List UInt8} (h : cc.data.toList.drop pc = 66 :: t) : decode cc pc = .ok (.lstore_n 3, 1) := de_of ((rb (u1_at h)).trans rfl)
set_option maxRecDepth 100000 in
theorem de_75 {cc : ByteArray} {pc : Nat} {t : List UInt8} (h : cc.data.toList.drop pc = 75 :: t) : decode cc pc = .ok (.astore_n 0, 1) := de_of ((rb (u1_at h)).trans rfl)
set_option maxRecDepth 100000 in
theorem de_76 {cc : ByteArray} {pc : Nat} {t : List UInt8} (h : cc.data.toList.drop pc = 76 :: t) : decode cc pc = .ok (.astore_n 1, 1) := de_of ((rb (u1_at h)).trans rfl)
set_option maxRecDepth 100000 in
theorem de_77 {cc : ByteArray} {pc : Nat} {t : List UInt8} (h : cc.data.toList.drop pc = 77 :: t) : decode cc pc = .ok (.astore_n 2, 1) := de_of ((rb (u1_at h)).trans rfl)
set_option maxRecDepth 100000 in
theorem de_78 {cc : ByteArray} {pc : Nat} {t : List UInt8} (h : cc.data.toList.drop pc = 78 :: t) : decode cc pc = .ok (.astore_n 3, 1) := de_of ((rb (u1_at h)).trans rfl)
set_option maxRecDepth 100000 in
theorem de_18 {cc : ByteArray} {pc : Nat} {b1 : UInt8} {t : List UInt8} (h : cc.data.toList.drop pc = 18 :: b1 :: t) : decode cc pc = .ok (.ldc b1.toNat, 2) := de_of ((rb (u1_at h)).trans ((rb (u1_at (dr_1 h))).trans rfl))
set_option maxRecDepth 100000 in
theorem de_21 {cc : ByteArray} {pc : Nat} {b1 : UInt8} {t : List UInt8} (h : cc.data.toList.drop pc = 21 :: b1 :: t) : decode cc pc = .ok (.iload b1.toNat, 2) := de_of ((rb (u1_at h)).trans ((rb (u1_at (dr_1 h))).trans rfl))
set_option maxRecDepth 100000 in
theorem de_22 {cc : ByteArray} {pc : Nat} {b1 : UInt8} {t : List UInt8} (h : cc.data.toList.drop pc = 22 :: b1 :: t) : decode cc pc = .ok (.lload b1.toNat, 2) := de_of ((rb (u1_at h)).trans ((rb (u1_at (dr_1 h))).trans rfl))
set_option maxRecDepth 100000 in
theorem de_25 {cc : ByteArray} {pc : Nat} {b1 : UInt8} {t : List UInt8} (h : cc.data.toList.drop pc = 25 :: b1 :: t) : decode cc pc = .ok (.aload b1.toNat, 2) := de_of ((rb (u1_at h)).trans ((rb (u1_at (dr_1 h))).trans rfl))
set_option maxRecDepth 100000 in
theorem de_54 {cc : ByteArray} {pc : Nat} {b1 : UInt8} {t : List UInt8} (h : cc.data.toList.drop pc = 54 :: b1 :: t) : decode cc pc = .ok (.istore b1.toNat, 2) := de_of ((rb (u1_at h)).trans ((rb (u1_at (dr_1 h))).trans rfl))
set_option maxRecDepth 100000 in
theorem de_55 {cc : ByteArray} {pc : Nat} {b1 : UInt8} {t : List UInt8} (h : cc.data.toList.drop pc = 55 :: b1 :: t) : decode cc pc = .ok (.lstore b1.toNat, 2) := de_of ((rb (u1_at h)).trans ((rb (u1_at (dr_1 h))).trans rfl))
set_option maxRecDepth 100000 in
theorem de_58 {cc : ByteArray} {pc : Nat} {b1 : UInt8} {t : List UInt8} (h : cc.data.toList.drop pc = 58 :: b1 :: t) : decode cc pc = .ok (.astore b1.toNat, 2) := de_of ((rb (u1_at h)).trans ((rb (u1_at (dr_1 h))).trans rfl))
set_option maxRecDepth 100000 in
theorem de_16 {cc : ByteArray} {pc : Nat} {b1 : UInt8} {t : List UInt8} (h : cc.data.toList.drop pc = 16 :: b1 :: t) : decode cc pc = .ok (.bipush (ClassFile.Reader.signed 8 b1.toNat), 2) := de_of ((rb (u1_at h)).trans ((rb (s1_at (dr_1 h))).trans rfl))
set_option maxRecDepth 100000 in
theorem de_19 {cc : ByteArray} {pc : Nat} {b1 b2 : UInt8} {t : List UInt8} (h : cc.data.toList.drop pc = 19 :: b1 :: b2 :: t) : decode cc pc = .ok (.ldc_w (b1.toNat * 256 + b2.toNat), 3) := de_of ((rb (u1_at h)).trans ((rb (u2_at (dr_1 h))).trans rfl))
set_option maxRecDepth 100000 in
theorem de_20 {cc : ByteArray} {pc : Nat} {b1 b2 : UInt8} {t : List UInt8} (h : cc.data.toList.drop pc = 20 :: b1 :: b2 :: t) : decode cc pc = .ok (.ldc2_w (b1.toNat * 256 + b2.toNat), 3) := de_of ((rb (u1_at h)).trans ((rb (u2_at (dr_1 h))).trans rfl))
set_option maxRecDepth 100000 in
theorem de_180 {cc : ByteArray} {pc : Nat} {b1 b2 : UInt8} {t : List UInt8} (h : cc.data.toList.drop pc = 180 :: b1 :: b2 :: t) : decode cc pc = .ok (.getfield (b1.toNat * 256 + b2.toNat), 3) := de_of ((rb (u1_at h)).trans ((rb (u2_at (dr_1 h))).trans rfl))
set_option maxRecDepth 100000 in
theorem de_181 {cc : ByteArray} {pc : Nat} {b1 b2 : UInt8} {t : List UInt8} (h : cc.data.toList.drop pc = 181 :: b1 :: b2 :: t) : decode cc pc = .ok (.putfield (b1.toNat * 256 + b2.toNat), 3) := de_of ((rb (u1_at h)).trans ((rb (u2_at (dr_1 h))).trans rfl))
set_option maxRecDepth 100000 in
theorem de_182 {cc : ByteArray} {pc : Nat} {b1 b2 : UInt8} {t : List UInt8} (h : cc.data.toList.drop pc = 182 :: b1 :: b2 :: t) : decode cc pc = .ok (.invokevirtual (b1.toNat * 256 + b2.toNat), 3) := de_of ((rb (u1_at h)).trans ((rb (u2_at (dr_1 h))).trans rfl))
set_option maxRecDepth 100000 in
theorem de_183 {cc : ByteArray} {pc : Nat} {b1 b2 : UInt8} {t : List UInt8} (h : cc.data.toList.drop pc = 183 :: b1 :: b2 :: t) : decode cc pc = .ok (.invokespecial (b1.toNat * 256 + b2.toNat), 3) := de_of ((rb (u1_at h)).trans ((rb (u2_at (dr_1 h))).trans rfl))
set_option maxRecDepth 100000 in
theorem de_184 {cc : ByteArray} {pc : Nat} {b1 b2 : UInt8} {t : List UInt8} (h : cc.data.toList.drop pc = 184 :: b1 :: b2 :: t) : decode cc pc = .ok (.invokestatic (b1.toNat * 256 + b2.toNat), 3) := de_of ((rb (u1_at h)).trans ((rb (u2_at (dr_1 h))).trans rfl))
set_option maxRecDepth 100000 in
theorem de_187 {cc : ByteArray} {pc : Nat} {b1 b2 : UInt8} {t : List UInt8} (h : cc.data.toList.drop pc = 187 :: b1 :: b2 :: t) : decode cc pc = .ok (.new (b1.toNat * 256 + b2.toNat), 3) := de_of ((rb (u1_at h)).trans ((rb (u2_at (dr_1 h))).trans rfl))
set_option maxRecDepth 100000 in
theorem de_189 {cc : ByteArray} {pc : Nat} {b1 b2 : UInt8} {t : List UInt8} (h : cc.data.toList.drop pc = 189 :: b1 :: b2 :: t) : decode cc pc = .ok (.anewarray (b1.toNat * 256 + b2.toNat), 3) := de_of ((rb (u1_at h)).trans ((rb (u2_at (dr_1 h))).trans rfl))
set_option maxRecDepth 100000 in
theorem de_17 {cc : ByteArray} {pc : Nat} {b1 b2 : UInt8} {t : List UInt8} (h : cc.data.toList.drop pc = 17 :: b1 :: b2 :: t) : decode cc pc = .ok (.sipush (ClassFile.Reader.signed 16 (b1.toNat * 256 + b2.toNat)), 3) := de_of ((rb (u1_at h)).trans ((rb (s2_at (dr_1 h))).trans rfl))
set_option maxRecDepth 100000 in
theorem de_167 {cc : ByteArray} {pc : Nat} {b1 b2 : UInt8} {t : List UInt8} (h : cc.data.toList.drop pc = 167 :: b1 :: b2 :: t) : decode cc pc = .ok (.goto (ClassFile.Reader.signed 16 (b1.toNat * 256 + b2.toNat)), 3) := de_of ((rb (u1_at h)).trans ((rb (s2_at (dr_1 h))).trans rfl))
set_option maxRecDepth 100000 in
theorem de_153 {cc : ByteArray} {pc : Nat} {b1 b2 : UInt8} {t : List UInt8} (h : cc.data.toList.drop pc = 153 :: b1 :: b2 :: t) : decode cc pc = .ok (.ifCond .eq (ClassFile.Reader.signed 16 (b1.toNat * 256 + b2.toNat)), 3) := de_of ((rb (u1_at h)).trans ((rb (s2_at (dr_1 h))).trans rfl))
set_option maxRecDepth 100000 in
theorem de_154 {cc : ByteArray} {pc : Nat} {b1 b2 : UInt8} {t : List UInt8} (h : cc.data.toList.drop pc = 154 :: b1 :: b2 :: t) : decode cc pc = .ok (.ifCond .ne (ClassFile.Reader.signed 16 (b1.toNat * 256 + b2.toNat)), 3) := de_of ((rb (u1_at h)).trans ((rb (s2_at (dr_1 h))).trans rfl))
set_option maxRecDepth 100000 in
theorem de_155 {cc : ByteArray} {pc : Nat} {b1 b2 : UInt8} {t : List UInt8} (h : cc.data.toList.drop pc = 155 :: b1 :: b2 :: t) : decode cc pc = .ok (.ifCond .lt (ClassFile.Reader.signed 16 (b1.toNat * 256 + b2.toNat)), 3) := de_of ((rb (u1_at h)).trans ((rb (s2_at (dr_1 h))).trans rfl))
set_option maxRecDepth 100000 in
theorem de_156 {cc : ByteArray} {pc : Nat} {b1 b2 : UInt8} {t : List UInt8} (h : cc.data.toList.drop pc = 156 :: b1 :: b2 :: t) : decode cc pc = .ok (.ifCond .ge (ClassFile.Reader.signed 16 (b1.toNat * 256 + b2.toNat)), 3) := de_of ((rb (u1_at h)).trans ((rb (s2_at (dr_1 h))).trans rfl))
set_option maxRecDepth 100000 in
theorem de_157 {cc : ByteArray} {pc : Nat} {b1 b2 : UInt8} {t : List UInt8} (h : cc.data.toList.drop pc = 157 :: b1 :: b2 :: t) : decode cc pc = .ok (.ifCond .gt (ClassFile.Reader.signed 16 (b1.toNat * 256 + b2.toNat)), 3) := de_of ((rb (u1_at h)).trans ((rb (s2_at (dr_1 h))).trans rfl))
set_option maxRecDepth 100000 in
theorem de_158 {cc : ByteArray} {pc : Nat} {b1 b2 : UInt8} {t : List UInt8} (h : cc.data.toList.drop pc = 158 :: b1 :: b2 :: t) : decode cc pc = .ok (.ifCond .le (ClassFile.Reader.signed 16 (b1.toNat * 256 + b2.toNat)), 3) := de_of ((rb (u1_at h)).trans ((rb (s2_at (dr_1 h))).trans rfl))
set_option maxRecDepth 100000 in
theorem de_159 {cc : ByteArray} {pc : Nat} {b1 b2 : UInt8} {t : List UInt8} (h : cc.data.toList.drop pc = 159 :: b1 :: b2 :: t) : decode cc pc = .ok (.if_icmp .eq (ClassFile.Reader.signed 16 (b1.toNat * 256 + b2.toNat)), 3) := de_of ((rb (u1_at h)).trans ((rb (s2_at (dr_1 h))).trans rfl))
set_option maxRecDepth 100000 in
theorem de_160 {cc : ByteArray} {pc : Nat} {b1 b2 : UInt8} {t : List UInt8} (h : cc.data.toList.drop pc = 160 :: b1 :: b2 :: t) : decode cc pc = .ok (.if_icmp .ne (ClassFile.Reader.signed 16 (b1.toNat * 256 + b2.toNat)), 3) := de_of ((rb (u1_at h)).trans ((rb (s2_at (dr_1 h))).trans rfl))
set_option maxRecDepth 100000 in
theorem de_161 {cc : ByteArray} {pc : Nat} {b1 b2 : UInt8} {t : List UInt8} (h : cc.data.toList.drop pc = 161 :: b1 :: b2 :: t) : decode cc pc = .ok (.if_icmp .lt (ClassFile.Reader.signed 16 (b1.toNat * 256 + b2.toNat)), 3) := de_of ((rb (u1_at h)).trans ((rb (s2_at (dr_1 h))).trans rfl))
set_option maxRecDepth 100000 in
theorem de_162 {cc : ByteArray} {pc : Nat} {b1 b2 : UInt8} {t : List UInt8} (h : cc.data.toList.drop pc = 162 :: b1 :: b2 :: t) : decode cc pc = .ok (.if_icmp .ge (ClassFile.Reader.signed 16 (b1.toNat * 256 + b2.toNat)), 3) := de_of ((rb (u1_at h)).trans ((rb (s2_at (dr_1 h))).trans rfl))
set_option maxRecDepth 100000 in
theorem de_163 {cc : ByteArray} {pc : Nat} {b1 b2 : UInt8} {t : List UInt8} (h : cc.data.toList.drop pc = 163 :: b1 :: b2 :: t) : decode cc pc = .ok (.if_icmp .gt (ClassFile.Reader.signed 16 (b1.toNat * 256 + b2.toNat)), 3) := de_of ((rb (u1_at h)).trans ((rb (s2_at (dr_1 h))).trans rfl))
set_option maxRecDepth 100000 in
theorem de_164 {cc : ByteArray} {pc : Nat} {b1 b2 : UInt8} {t : List UInt8} (h : cc.data.toList.drop pc = 164 :: b1 :: b2 :: t) : decode cc pc = .ok (.if_icmp .le (ClassFile.Reader.signed 16 (b1.toNat * 256 + b2.toNat)), 3) := de_of ((rb (u1_at h)).trans ((rb (s2_at (dr_1 h))).trans rfl))
set_option maxRecDepth 100000 in
theorem de_132 {cc : ByteArray} {pc : Nat} {b1 b2 : UInt8} {t : List UInt8} (h : cc.data.toList.drop pc = 132 :: b1 :: b2 :: t) : decode cc pc = .ok (.iinc b1.toNat (ClassFile.Reader.signed 8 b2.toNat), 3) := de_of ((rb (u1_at h)).trans ((rb (u1_at (dr_1 h))).trans ((rb (s1_at (dr_1 (dr_1 h)))).trans rfl)))
set_option maxRecDepth 100000 in
theorem de_188_4 {cc : ByteArray} {pc : Nat} {t : List UInt8} (h : cc.data.toList.drop pc = 188 :: 4 :: t) : decode cc pc = .ok (.newarray .boolean, 2) := de_of ((rb (u1_at h)).trans ((rb (u1_at (dr_1 h))).trans rfl))
set_option maxRecDepth 100000 in
theorem de_188_8 {cc : ByteArray} {pc : Nat} {t : List UInt8} (h : cc.data.toList.drop pc = 188 :: 8 :: t) : decode cc pc = .ok (.newarray .byte, 2) := de_of ((rb (u1_at h)).trans ((rb (u1_at (dr_1 h))).trans rfl))
set_option maxRecDepth 100000 in
theorem de_188_10 {cc : ByteArray} {pc : Nat} {t : List UInt8} (h : cc.data.toList.drop pc = 188 :: 10 :: t) : decode cc pc = .ok (.newarray .int, 2) := de_of ((rb (u1_at h)).trans ((rb (u1_at (dr_1 h))).trans rfl))
set_option maxRecDepth 100000 in
theorem de_188_11 {cc : ByteArray} {pc : Nat} {t : List UInt8} (h : cc.data.toList.drop pc = 188 :: 11 :: t) : decode cc pc = .ok (.newarray .long, 2) := de_of ((rb (u1_at h)).trans ((rb (u1_at (dr_1 h))).trans rfl))
/-- the byte of an instruction without operands -/
def op0 : Instr → Option UInt8
  | .iaload => some 46
  | .laload => some 47
  | .aaload => some 50
  | .baload => some 51
  | .iastore => some 79
  | .lastore => some 80
  | .aastore => some 83
  | .bastore => some 84
  | .pop => some 87
  | .pop2 => some 88
  | .dup => some 89
  | .dup2 => some 92
  | .iadd => some 96
  | .ladd => some 97
  | .isub => some 100
  | .lsub => some 101
  | .imul => some 104
  | .lmul => some 105
  | .idiv => some 108
  | .ldiv => some 109
  | .irem => some 112
  | .lrem => some 113
  | .ineg => some 116
  | .ishl => some 120
  | .lshl => some 121
  | .ishr => some 122
  | .lshr => some 123
  | .iand => some 126
  | .land => some 127
  | .ior => some 128
  | .lor => some 129
  | .ixor => some 130
  | .i2l => some 133
  | .l2i => some 136
  | .i2b => some 145
  | .i2s => some 147
  | .lcmp => some 148
  | .ireturn => some 172
  | .lreturn => some 173
  | .areturn => some 176
  | .return_ => some 177
  | .arraylength => some 190
  | .iload_n k => match k with
    | 0 => some 26
    | 1 => some 27
    | 2 => some 28
    | 3 => some 29
  | .lload_n k => match k with
    | 0 => some 30
    | 1 => some 31
    | 2 => some 32
    | 3 => some 33
  | .aload_n k => match k with
    | 0 => some 42
    | 1 => some 43
    | 2 => some 44
    | 3 => some 45
  | .istore_n k => match k with
    | 0 => some 59
    | 1 => some 60
    | 2 => some 61
    | 3 => some 62
  | .lstore_n k => match k with
    | 0 => some 63
    | 1 => some 64
    | 2 => some 65
    | 3 => some 66
  | .astore_n k => match k with
    | 0 => some 75
    | 1 => some 76
    | 2 => some 77
    | 3 => some 78
  | .lconst k => match k with
    | 0 => some 9
    | 1 => some 10
  | _ => none
def opu1 : Instr → Option (UInt8 × Nat)
  | .ldc k => some (18, k)
  | .iload k => some (21, k)
  | .lload k => some (22, k)
  | .aload k => some (25, k)
  | .istore k => some (54, k)
  | .lstore k => some (55, k)
  | .astore k => some (58, k)
  | _ => none
def opu2 : Instr → Option (UInt8 × Nat)
  | .ldc_w k => some (19, k)
  | .ldc2_w k => some (20, k)
  | .getfield k => some (180, k)
  | .putfield k => some (181, k)
  | .invokevirtual k => some (182, k)
  | .invokespecial k => some (183, k)
  | .invokestatic k => some (184, k)
  | .new k => some (187, k)
  | .anewarray k => some (189, k)
  | _ => none
def opcd (b : UInt8) : ClassFile.Cond → UInt8
  | .eq => b
  | .ne => b + 1
  | .lt => b + 2
  | .ge => b + 3
  | .gt => b + 4
  | .le => b + 5
def ops2 : Instr → Option (UInt8 × Int)
  | .sipush k => some (17, k)
  | .goto k => some (167, k)
  | .ifCond c k => some (opcd 153 c, k)
  | .if_icmp c k => some (opcd 159 c, k)
  | _ => none
def fdc (cc : ByteArray) (pc : Nat) (l : List UInt8) (i : Instr) (n : Nat) : Bool :=
  match op0 i with
  | some b => (match l with
    | x :: _ => x == b && n == 1
    | _ => false)
  | none => match opu2 i with
    | some q => (match l with
      | x :: b1 :: b2 :: _ => x == q.1 && b1.toNat * 256 + b2.toNat == q.2 && n == 3
      | _ => false)
    | none => match opu1 i with
      | some q => (match l with
        | x :: b1 :: _ => x == q.1 && b1.toNat == q.2 && n == 2
        | _ => false)
      | none => match ops2 i with
        | some q => (match l with
          | x :: b1 :: b2 :: _ => x == q.1 && ClassFile.Reader.signed 16 (b1.toNat * 256 + b2.toNat) == q.2 && n == 3
          | _ => false)
        | none => match i with
          | .iconst k => (match l with
            | x :: _ => n == 1 && ((x == 2 && k == -1) || (x == 3 && k == 0) || (x == 4 && k == 1) || (x == 5 && k == 2) || (x == 6 && k == 3) || (x == 7 && k == 4) || (x == 8 && k == 5))
            | _ => false)
          | .bipush k => (match l with
            | x :: b1 :: _ => x == 16 && ClassFile.Reader.signed 8 b1.toNat == k && n == 2
            | _ => false)
          | .iinc k q => (match l with
            | x :: b1 :: b2 :: _ => x == 132 && b1.toNat == k && ClassFile.Reader.signed 8 b2.toNat == q && n == 3
            | _ => false)
          | .newarray t => (match l with
            | x :: y :: _ => x == 188 && n == 2 && (match t with
              | .boolean => y == 4
              | .byte => y == 8
              | .int => y == 10
              | .long => y == 11
              | _ => false)
            | _ => false)
          | i => decide (decode cc pc = .ok (i, n))
theorem op0_ok {cc : ByteArray} {pc : Nat} {i : Instr} {b : UInt8} {t : List UInt8} (h : op0 i = some b) (hd : cc.data.toList.drop pc = b :: t) : decode cc pc = .ok (i, 1) := by
  cases i
  all_goals first | (simp only [op0] at h; cases h; done) | skip
  case iaload => cases h; exact de_46 hd
  case laload => cases h; exact de_47 hd
  case aaload => cases h; exact de_50 hd
  case baload => cases h; exact de_51 hd
  case iastore => cases h; exact de_79 hd
  case lastore => cases h; exact de_80 hd
  case aastore => cases h; exact de_83 hd
  case bastore => cases h; exact de_84 hd
  case pop => cases h; exact de_87 hd
  case pop2 => cases h; exact de_88 hd
  case dup => cases h; exact de_89 hd
  case dup2 => cases h; exact de_92 hd
  case iadd => cases h; exact de_96 hd
  case ladd => cases h; exact de_97 hd
  case isub => cases h; exact de_100 hd
  case lsub => cases h; exact de_101 hd
  case imul => cases h; exact de_104 hd
  case lmul => cases h; exact de_105 hd
  case idiv => cases h; exact de_108 hd
  case ldiv => cases h; exact de_109 hd
  case irem => cases h; exact de_112 hd
  case lrem => cases h; exact de_113 hd
  case ineg => cases h; exact de_116 hd
  case ishl => cases h; exact de_120 hd
  case lshl => cases h; exact de_121 hd
  case ishr => cases h; exact de_122 hd
  case lshr => cases h; exact de_123 hd
  case iand => cases h; exact de_126 hd
  case land => cases h; exact de_127 hd
  case ior => cases h; exact de_128 hd
  case lor => cases h; exact de_129 hd
  case ixor => cases h; exact de_130 hd
  case i2l => cases h; exact de_133 hd
  case l2i => cases h; exact de_136 hd
  case i2b => cases h; exact de_145 hd
  case i2s => cases h; exact de_147 hd
  case lcmp => cases h; exact de_148 hd
  case ireturn => cases h; exact de_172 hd
  case lreturn => cases h; exact de_173 hd
  case areturn => cases h; exact de_176 hd
  case return_ => cases h; exact de_177 hd
  case arraylength => cases h; exact de_190 hd
  case iload_n k => match k, h with
    | 0, h => cases h; exact de_26 hd
    | 1, h => cases h; exact de_27 hd
    | 2, h => cases h; exact de_28 hd
    | 3, h => cases h; exact de_29 hd
  case lload_n k => match k, h with
    | 0, h => cases h; exact de_30 hd
    | 1, h => cases h; exact de_31 hd
    | 2, h => cases h; exact de_32 hd
    | 3, h => cases h; exact de_33 hd
  case aload_n k => match k, h with
    | 0, h => cases h; exact de_42 hd
    | 1, h => cases h; exact de_43 hd
    | 2, h => cases h; exact de_44 hd
    | 3, h => cases h; exact de_45 hd
  case istore_n k => match k, h with
    | 0, h => cases h; exact de_59 hd
    | 1, h => cases h; exact de_60 hd
    | 2, h => cases h; exact de_61 hd
    | 3, h => cases h; exact de_62 hd
  case lstore_n k => match k, h with
    | 0, h => cases h; exact de_63 hd
    | 1, h => cases h; exact de_64 hd
    | 2, h => cases h; exact de_65 hd
    | 3, h => cases h; exact de_66 hd
  case astore_n k => match k, h with
    | 0, h => cases h; exact de_75 hd
    | 1, h => cases h; exact de_76 hd
    | 2, h => cases h; exact de_77 hd
    | 3, h => cases h; exact de_78 hd
  case lconst k => match k, h with
    | 0, h => cases h; exact de_9 hd
    | 1, h => cases h; exact de_10 hd
theorem opu1_ok {cc : ByteArray} {pc : Nat} {i : Instr} {b b1 : UInt8} {t : List UInt8} (h : opu1 i = some (b, b1.toNat)) (hd : cc.data.toList.drop pc = b :: b1 :: t) : decode cc pc = .ok (i, 2) := by
  cases i
  all_goals first | (simp only [opu1] at h; cases h; done) | skip
  case ldc k => obtain ⟨rfl, rfl⟩ := Prod.mk.inj (Option.some.inj h); exact de_18 hd
  case iload k => obtain ⟨rfl, rfl⟩ := Prod.mk.inj (Option.some.inj h); exact de_21 hd
  case lload k => obtain ⟨rfl, rfl⟩ := Prod.mk.inj (Option.some.inj h); exact de_22 hd
  case aload k => obtain ⟨rfl, rfl⟩ := Prod.mk.inj (Option.some.inj h); exact de_25 hd
  case istore k => obtain ⟨rfl, rfl⟩ := Prod.mk.inj (Option.some.inj h); exact de_54 hd
  case lstore k => obtain ⟨rfl, rfl⟩ := Prod.mk.inj (Option.some.inj h); exact de_55 hd
  case astore k => obtain ⟨rfl, rfl⟩ := Prod.mk.inj (Option.some.inj h); exact de_58 hd
theorem opu2_ok {cc : ByteArray} {pc : Nat} {i : Instr} {b b1 b2 : UInt8} {t : List UInt8} (h : opu2 i = some (b, b1.toNat * 256 + b2.toNat)) (hd : cc.data.toList.drop pc = b :: b1 :: b2 :: t) : decode cc pc = .ok (i, 3) := by
  cases i
  all_goals first | (simp only [opu2] at h; cases h; done) | skip
  case ldc_w k => obtain ⟨rfl, rfl⟩ := Prod.mk.inj (Option.some.inj h); exact de_19 hd
  case ldc2_w k => obtain ⟨rfl, rfl⟩ := Prod.mk.inj (Option.some.inj h); exact de_20 hd
  case getfield k => obtain ⟨rfl, rfl⟩ := Prod.mk.inj (Option.some.inj h); exact de_180 hd
  case putfield k => obtain ⟨rfl, rfl⟩ := Prod.mk.inj (Option.some.inj h); exact de_181 hd
  case invokevirtual k => obtain ⟨rfl, rfl⟩ := Prod.mk.inj (Option.some.inj h); exact de_182 hd
  case invokespecial k => obtain ⟨rfl, rfl⟩ := Prod.mk.inj (Option.some.inj h); exact de_183 hd
  case invokestatic k => obtain ⟨rfl, rfl⟩ := Prod.mk.inj (Option.some.inj h); exact de_184 hd
  case new k => obtain ⟨rfl, rfl⟩ := Prod.mk.inj (Option.some.inj h); exact de_187 hd
  case anewarray k => obtain ⟨rfl, rfl⟩ := Prod.mk.inj (Option.some.inj h); exact de_189 hd
theorem ops2_ok {cc : ByteArray} {pc : Nat} {i : Instr} {b b1 b2 : UInt8} {t : List UInt8} (h : ops2 i = some (b, ClassFile.Reader.signed 16 (b1.toNat * 256 + b2.toNat))) (hd : cc.data.toList.drop pc = b :: b1 :: b2 :: t) : decode cc pc = .ok (i, 3) := by
  cases i
  all_goals first | (simp only [ops2] at h; cases h; done) | skip
  case sipush k => obtain ⟨rfl, rfl⟩ := Prod.mk.inj (Option.some.inj h); exact de_17 hd
  case goto k => obtain ⟨rfl, rfl⟩ := Prod.mk.inj (Option.some.inj h); exact de_167 hd
  case ifCond c k => cases c <;> (obtain ⟨h1, rfl⟩ := Prod.mk.inj (Option.some.inj h); subst h1) <;> first | exact de_153 hd | exact de_154 hd | exact de_155 hd | exact de_156 hd | exact de_157 hd | exact de_158 hd
  case if_icmp c k => cases c <;> (obtain ⟨h1, rfl⟩ := Prod.mk.inj (Option.some.inj h); subst h1) <;> first | exact de_159 hd | exact de_160 hd | exact de_161 hd | exact de_162 hd | exact de_163 hd | exact de_164 hd
theorem fdc_ok {cc : ByteArray} {pc : Nat} {l : List UInt8} {i : Instr} {n : Nat} (h : fdc cc pc l i n = true) (hd : cc.data.toList.drop pc = l) : decode cc pc = .ok (i, n) := by
  unfold fdc at h
  split at h
  · rename_i b hb
    split at h
    · rename_i x t
      simp only [Bool.and_eq_true, beq_iff_eq] at h
      obtain ⟨rfl, rfl⟩ := h
      exact op0_ok hb hd
    · cases h
  · split at h
    · rename_i q hb
      split at h
      · rename_i x b1 b2 t
        simp only [Bool.and_eq_true, beq_iff_eq] at h
        obtain ⟨⟨rfl, h2⟩, rfl⟩ := h
        exact opu2_ok (b := q.1) (by rw [hb, h2]) hd
      · cases h
    · split at h
      · rename_i q hb
        split at h
        · rename_i x b1 t
          simp only [Bool.and_eq_true, beq_iff_eq] at h
          obtain ⟨⟨rfl, h2⟩, rfl⟩ := h
          exact opu1_ok (b := q.1) (by rw [hb, h2]) hd
        · cases h
      · split at h
        · rename_i q hb
          split at h
          · rename_i x b1 b2 t
            simp only [Bool.and_eq_true, beq_iff_eq] at h
            obtain ⟨⟨rfl, h2⟩, rfl⟩ := h
            exact ops2_ok (b := q.1) (by rw [hb, h2]) hd
          · cases h
        · split at h
          · split at h
            · simp only [Bool.and_eq_true, Bool.or_eq_true, beq_iff_eq] at h
              obtain ⟨rfl, h⟩ := h
              rcases h with (((((⟨rfl, rfl⟩ | ⟨rfl, rfl⟩) | ⟨rfl, rfl⟩) | ⟨rfl, rfl⟩) | ⟨rfl, rfl⟩) | ⟨rfl, rfl⟩) | ⟨rfl, rfl⟩
              · exact de_2 hd
              · exact de_3 hd
              · exact de_4 hd
              · exact de_5 hd
              · exact de_6 hd
              · exact de_7 hd
              · exact de_8 hd
            · cases h
          · split at h
            · simp only [Bool.and_eq_true, beq_iff_eq] at h
              obtain ⟨⟨rfl, rfl⟩, rfl⟩ := h
              exact de_16 hd
            · cases h
          · split at h
            · simp only [Bool.and_eq_true, beq_iff_eq] at h
              obtain ⟨⟨⟨rfl, rfl⟩, rfl⟩, rfl⟩ := h
              exact de_132 hd
            · cases h
          · split at h
            · simp only [Bool.and_eq_true, beq_iff_eq] at h
              obtain ⟨⟨rfl, rfl⟩, h⟩ := h
              split at h
              · rw [beq_iff_eq] at h; subst h; exact de_188_4 hd
              · rw [beq_iff_eq] at h; subst h; exact de_188_8 hd
              · rw [beq_iff_eq] at h; subst h; exact de_188_10 hd
              · rw [beq_iff_eq] at h; subst h; exact de_188_11 hd
              · cases h
            · cases h
          · exact of_decide_eq_true h
