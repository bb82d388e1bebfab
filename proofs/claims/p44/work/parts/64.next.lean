/-! the parser of the reference: readNext -/
theorem r_116_0 : row 116 0 = some (.aload_n 0, 1, 0, 0, 0, 0) := rfl
theorem r_116_1 : row 116 1 = some (.ldc 184, 3, 1000000, 1, 0, 6215) := rfl
theorem r_116_3 : row 116 3 = some (.invokevirtual 143, 6, 106, 1, 0, 6189) := rfl
theorem r_116_6 : row 116 6 = some (.ifCond .ne 39, 9, 45, 0, 0, 0) := rfl
theorem r_116_9 : row 116 9 = some (.aload_n 0, 10, 0, 0, 0, 0) := rfl
theorem r_116_10 : row 116 10 = some (.ldc 186, 12, 1000001, 1, 0, 6216) := rfl
theorem r_116_12 : row 116 12 = some (.invokevirtual 143, 15, 106, 1, 0, 6189) := rfl
theorem r_116_15 : row 116 15 = some (.ifCond .ne 30, 18, 45, 0, 0, 0) := rfl
theorem r_116_18 : row 116 18 = some (.aload_n 0, 19, 0, 0, 0, 0) := rfl
theorem r_116_19 : row 116 19 = some (.ldc 188, 21, 1000002, 1, 0, 6217) := rfl
theorem r_116_21 : row 116 21 = some (.invokevirtual 143, 24, 106, 1, 0, 6189) := rfl
theorem r_116_24 : row 116 24 = some (.ifCond .ne 21, 27, 45, 0, 0, 0) := rfl
theorem r_116_27 : row 116 27 = some (.aload_n 0, 28, 0, 0, 0, 0) := rfl
theorem r_116_28 : row 116 28 = some (.ldc 190, 30, 1000003, 1, 0, 6218) := rfl
theorem r_116_30 : row 116 30 = some (.invokevirtual 143, 33, 106, 1, 0, 6189) := rfl
theorem r_116_33 : row 116 33 = some (.ifCond .ne 12, 36, 45, 0, 0, 0) := rfl
theorem r_116_36 : row 116 36 = some (.aload_n 0, 37, 0, 0, 0, 0) := rfl
theorem r_116_37 : row 116 37 = some (.ldc 192, 39, 1000004, 1, 0, 6219) := rfl
theorem r_116_39 : row 116 39 = some (.invokevirtual 143, 42, 106, 1, 0, 6189) := rfl
theorem r_116_42 : row 116 42 = some (.ifCond .eq 7, 45, 49, 0, 0, 0) := rfl
theorem r_116_45 : row 116 45 = some (.iconst 1, 46, 1, 0, 0, 0) := rfl
theorem r_116_46 : row 116 46 = some (.goto 4, 49, 50, 0, 0, 0) := rfl
theorem r_116_49 : row 116 49 = some (.iconst 0, 50, 0, 0, 0, 0) := rfl
theorem r_116_50 : row 116 50 = some (.istore_n 1, 51, 0, 0, 0, 0) := rfl
theorem r_116_51 : row 116 51 = some (.iload_n 1, 52, 0, 0, 0, 0) := rfl
theorem r_116_52 : row 116 52 = some (.ifCond .ne 8, 55, 60, 0, 0, 0) := rfl
theorem r_116_55 : row 116 55 = some (.aload_n 0, 56, 0, 0, 0, 0) := rfl
theorem r_116_56 : row 116 56 = some (.iconst 1, 57, 1, 0, 0, 0) := rfl
theorem r_116_57 : row 116 57 = some (.invokevirtual 153, 60, 105, 1, 0, 6195) := rfl
theorem r_116_60 : row 116 60 = some (.aload_n 0, 61, 0, 0, 0, 0) := rfl
theorem r_116_61 : row 116 61 = some (.ldc 184, 63, 1000000, 1, 0, 6215) := rfl
theorem r_116_63 : row 116 63 = some (.invokevirtual 143, 66, 106, 1, 0, 6189) := rfl
theorem r_116_66 : row 116 66 = some (.ifCond .eq 14, 69, 80, 0, 0, 0) := rfl
theorem r_116_69 : row 116 69 = some (.aload_n 0, 70, 0, 0, 0, 0) := rfl
theorem r_116_70 : row 116 70 = some (.getfield 31, 73, 10, 14, 2, 6015) := rfl
theorem r_116_73 : row 116 73 = some (.iconst 4, 74, 4, 0, 0, 0) := rfl
theorem r_116_74 : row 116 74 = some (.iaload, 75, 0, 0, 0, 0) := rfl
theorem r_116_75 : row 116 75 = some (.bipush 10, 77, 10, 0, 0, 0) := rfl
theorem r_116_77 : row 116 77 = some (.if_icmp .eq 22, 80, 99, 0, 0, 0) := rfl
theorem r_116_80 : row 116 80 = some (.aload_n 0, 81, 0, 0, 0, 0) := rfl
theorem r_116_81 : row 116 81 = some (.ldc 186, 83, 1000001, 1, 0, 6216) := rfl
theorem r_116_83 : row 116 83 = some (.invokevirtual 143, 86, 106, 1, 0, 6189) := rfl
theorem r_116_86 : row 116 86 = some (.ifCond .eq 18, 89, 104, 0, 0, 0) := rfl
theorem r_116_89 : row 116 89 = some (.aload_n 0, 90, 0, 0, 0, 0) := rfl
theorem r_116_90 : row 116 90 = some (.getfield 31, 93, 10, 14, 2, 6015) := rfl
theorem r_116_93 : row 116 93 = some (.iconst 5, 94, 5, 0, 0, 0) := rfl
theorem r_116_94 : row 116 94 = some (.iaload, 95, 0, 0, 0, 0) := rfl
theorem r_116_95 : row 116 95 = some (.iconst 5, 96, 5, 0, 0, 0) := rfl
theorem r_116_96 : row 116 96 = some (.if_icmp .ne 8, 99, 104, 0, 0, 0) := rfl
theorem r_116_99 : row 116 99 = some (.aload_n 0, 100, 0, 0, 0, 0) := rfl
theorem r_116_100 : row 116 100 = some (.iconst 3, 101, 3, 0, 0, 0) := rfl
theorem r_116_101 : row 116 101 = some (.invokevirtual 153, 104, 105, 1, 0, 6195) := rfl
theorem r_116_104 : row 116 104 = some (.aload_n 0, 105, 0, 0, 0, 0) := rfl
theorem r_116_105 : row 116 105 = some (.ldc 188, 107, 1000002, 1, 0, 6217) := rfl
theorem r_116_107 : row 116 107 = some (.invokevirtual 143, 110, 106, 1, 0, 6189) := rfl
theorem r_116_110 : row 116 110 = some (.ifCond .eq 14, 113, 124, 0, 0, 0) := rfl
theorem r_116_113 : row 116 113 = some (.aload_n 0, 114, 0, 0, 0, 0) := rfl
theorem r_116_114 : row 116 114 = some (.getfield 31, 117, 10, 14, 2, 6015) := rfl
theorem r_116_117 : row 116 117 = some (.bipush 6, 119, 6, 0, 0, 0) := rfl
theorem r_116_119 : row 116 119 = some (.iaload, 120, 0, 0, 0, 0) := rfl
theorem r_116_120 : row 116 120 = some (.iconst 3, 121, 3, 0, 0, 0) := rfl
theorem r_116_121 : row 116 121 = some (.if_icmp .eq 23, 124, 144, 0, 0, 0) := rfl
theorem r_116_124 : row 116 124 = some (.aload_n 0, 125, 0, 0, 0, 0) := rfl
theorem r_116_125 : row 116 125 = some (.ldc 192, 127, 1000004, 1, 0, 6219) := rfl
theorem r_116_127 : row 116 127 = some (.invokevirtual 143, 130, 106, 1, 0, 6189) := rfl
theorem r_116_130 : row 116 130 = some (.ifCond .eq 19, 133, 149, 0, 0, 0) := rfl
theorem r_116_133 : row 116 133 = some (.aload_n 0, 134, 0, 0, 0, 0) := rfl
theorem r_116_134 : row 116 134 = some (.getfield 31, 137, 10, 14, 2, 6015) := rfl
theorem r_116_137 : row 116 137 = some (.bipush 7, 139, 7, 0, 0, 0) := rfl
theorem r_116_139 : row 116 139 = some (.iaload, 140, 0, 0, 0, 0) := rfl
theorem r_116_140 : row 116 140 = some (.iconst 5, 141, 5, 0, 0, 0) := rfl
theorem r_116_141 : row 116 141 = some (.if_icmp .ne 8, 144, 149, 0, 0, 0) := rfl
theorem r_116_144 : row 116 144 = some (.aload_n 0, 145, 0, 0, 0, 0) := rfl
theorem r_116_145 : row 116 145 = some (.iconst 3, 146, 3, 0, 0, 0) := rfl
theorem r_116_146 : row 116 146 = some (.invokevirtual 153, 149, 105, 1, 0, 6195) := rfl
theorem r_116_149 : row 116 149 = some (.aload_n 0, 150, 0, 0, 0, 0) := rfl
theorem r_116_150 : row 116 150 = some (.invokevirtual 130, 153, 104, 0, 0, 6168) := rfl
theorem r_116_153 : row 116 153 = some (.ifCond .ne 4, 156, 157, 0, 0, 0) := rfl
theorem r_116_156 : row 116 156 = some (.return_, 157, 0, 0, 0, 0) := rfl
theorem r_116_157 : row 116 157 = some (.aload_n 0, 158, 0, 0, 0, 0) := rfl
theorem r_116_158 : row 116 158 = some (.ldc 184, 160, 1000000, 1, 0, 6215) := rfl
theorem r_116_160 : row 116 160 = some (.invokevirtual 150, 163, 107, 1, 0, 6185) := rfl
theorem r_116_163 : row 116 163 = some (.ifCond .eq 10, 166, 173, 0, 0, 0) := rfl
theorem r_116_166 : row 116 166 = some (.aload_n 0, 167, 0, 0, 0, 0) := rfl
theorem r_116_167 : row 116 167 = some (.invokevirtual 194, 170, 114, 0, 0, 6220) := rfl
theorem r_116_170 : row 116 170 = some (.goto 105, 173, 275, 0, 0, 0) := rfl
theorem r_116_173 : row 116 173 = some (.aload_n 0, 174, 0, 0, 0, 0) := rfl
theorem r_116_174 : row 116 174 = some (.ldc 186, 176, 1000001, 1, 0, 6216) := rfl
theorem r_116_176 : row 116 176 = some (.invokevirtual 150, 179, 107, 1, 0, 6185) := rfl
theorem r_116_179 : row 116 179 = some (.ifCond .eq 18, 182, 197, 0, 0, 0) := rfl
theorem r_116_182 : row 116 182 = some (.aload_n 0, 183, 0, 0, 0, 0) := rfl
theorem r_116_183 : row 116 183 = some (.bipush 31, 185, 31, 0, 0, 0) := rfl
theorem r_116_185 : row 116 185 = some (.iconst 5, 186, 5, 0, 0, 0) := rfl
theorem r_116_186 : row 116 186 = some (.ldc 197, 188, 1000011, 1, 0, 6229) := rfl
theorem r_116_188 : row 116 188 = some (.iconst 0, 189, 0, 0, 0, 0) := rfl
theorem r_116_189 : row 116 189 = some (.bipush 9, 191, 9, 0, 0, 0) := rfl
theorem r_116_191 : row 116 191 = some (.invokevirtual 199, 194, 115, 5, 0, 6230) := rfl
theorem r_116_194 : row 116 194 = some (.goto 81, 197, 275, 0, 0, 0) := rfl
theorem r_116_197 : row 116 197 = some (.aload_n 0, 198, 0, 0, 0, 0) := rfl
theorem r_116_198 : row 116 198 = some (.ldc 188, 200, 1000002, 1, 0, 6217) := rfl
theorem r_116_200 : row 116 200 = some (.invokevirtual 150, 203, 107, 1, 0, 6185) := rfl
theorem r_116_203 : row 116 203 = some (.ifCond .eq 19, 206, 222, 0, 0, 0) := rfl
theorem r_116_206 : row 116 206 = some (.aload_n 0, 207, 0, 0, 0, 0) := rfl
theorem r_116_207 : row 116 207 = some (.bipush 41, 209, 41, 0, 0, 0) := rfl
theorem r_116_209 : row 116 209 = some (.bipush 6, 211, 6, 0, 0, 0) := rfl
theorem r_116_211 : row 116 211 = some (.ldc 203, 213, 1000012, 1, 0, 6235) := rfl
theorem r_116_213 : row 116 213 = some (.iconst 0, 214, 0, 0, 0, 0) := rfl
theorem r_116_214 : row 116 214 = some (.bipush 12, 216, 12, 0, 0, 0) := rfl
theorem r_116_216 : row 116 216 = some (.invokevirtual 199, 219, 115, 5, 0, 6230) := rfl
theorem r_116_219 : row 116 219 = some (.goto 56, 222, 275, 0, 0, 0) := rfl
theorem r_116_222 : row 116 222 = some (.aload_n 0, 223, 0, 0, 0, 0) := rfl
theorem r_116_223 : row 116 223 = some (.ldc 192, 225, 1000004, 1, 0, 6219) := rfl
theorem r_116_225 : row 116 225 = some (.invokevirtual 150, 228, 107, 1, 0, 6185) := rfl
theorem r_116_228 : row 116 228 = some (.ifCond .eq 19, 231, 247, 0, 0, 0) := rfl
theorem r_116_231 : row 116 231 = some (.aload_n 0, 232, 0, 0, 0, 0) := rfl
theorem r_116_232 : row 116 232 = some (.bipush 47, 234, 47, 0, 0, 0) := rfl
theorem r_116_234 : row 116 234 = some (.bipush 7, 236, 7, 0, 0, 0) := rfl
theorem r_116_236 : row 116 236 = some (.ldc 205, 238, 1000013, 1, 0, 6236) := rfl
theorem r_116_238 : row 116 238 = some (.iconst 1, 239, 1, 0, 0, 0) := rfl
theorem r_116_239 : row 116 239 = some (.bipush 99, 241, 99, 0, 0, 0) := rfl
theorem r_116_241 : row 116 241 = some (.invokevirtual 199, 244, 115, 5, 0, 6230) := rfl
theorem r_116_244 : row 116 244 = some (.goto 31, 247, 275, 0, 0, 0) := rfl
theorem r_116_247 : row 116 247 = some (.aload_n 0, 248, 0, 0, 0, 0) := rfl
theorem r_116_248 : row 116 248 = some (.invokevirtual 147, 251, 103, 0, 0, 6154) := rfl
theorem r_116_251 : row 116 251 = some (.aload_n 0, 252, 0, 0, 0, 0) := rfl
theorem r_116_252 : row 116 252 = some (.ldc 183, 254, 1000014, 1, 0, 6234) := rfl
theorem r_116_254 : row 116 254 = some (.invokevirtual 157, 257, 108, 1, 0, 6181) := rfl
theorem r_116_257 : row 116 257 = some (.aload_n 0, 258, 0, 0, 0, 0) := rfl
theorem r_116_258 : row 116 258 = some (.invokevirtual 178, 261, 112, 0, 0, 6224) := rfl
theorem r_116_261 : row 116 261 = some (.istore_n 2, 262, 0, 0, 0, 0) := rfl
theorem r_116_262 : row 116 262 = some (.aload_n 0, 263, 0, 0, 0, 0) := rfl
theorem r_116_263 : row 116 263 = some (.getfield 31, 266, 10, 14, 2, 6015) := rfl
theorem r_116_266 : row 116 266 = some (.bipush 10, 268, 10, 0, 0, 0) := rfl
theorem r_116_268 : row 116 268 = some (.dup2, 269, 0, 0, 0, 0) := rfl
theorem r_116_269 : row 116 269 = some (.iaload, 270, 0, 0, 0, 0) := rfl
theorem r_116_270 : row 116 270 = some (.iconst 1, 271, 1, 0, 0, 0) := rfl
theorem r_116_271 : row 116 271 = some (.iload_n 2, 272, 0, 0, 0, 0) := rfl
theorem r_116_272 : row 116 272 = some (.ishl, 273, 0, 0, 0, 0) := rfl
theorem r_116_273 : row 116 273 = some (.ior, 274, 0, 0, 0, 0) := rfl
theorem r_116_274 : row 116 274 = some (.iastore, 275, 0, 0, 0, 0) := rfl
theorem r_116_275 : row 116 275 = some (.return_, 276, 0, 0, 0, 0) := rfl
/-- nothing, or a fault -/
def E0 (m m' : Mm) : Prop := Gam m' ∧ Fr [90012, 90013] m m' ∧ (m' = m ∨ ¬ m' 192 12 = 0)
theorem nw {v : Int} {P : Prop} (h : (v = 0 ∧ ¬ P) ∨ (v = 1 ∧ P)) (h0 : v = 0) : ¬ P := by
  rcases h with z | z
  · exact z.2
  · exact absurd (h0.symm.trans z.1) (by decide)
theorem E0_tr {a b c : Mm} (h1 : E0 a b) (h2 : E0 b c) : E0 a c := by
  obtain ⟨a1, a2, a3⟩ := h1
  obtain ⟨b1, b2, b3⟩ := h2
  refine ⟨b1, Fr_tr a2 b2, ?_⟩
  rcases b3 with z | z
  · rw [z]; exact a3
  · exact Or.inr z
def RN (m m' : Mm) : Prop := Gam m' ∧ Fr [90008, 90009, 90010, 90011, 90012, 90013, 96999] m m' ∧ TK m' ∧ FI m' ∧ m 192 9 ≤ m' 192 9 ∧ (m' 192 12 = 0 → m 192 12 = 0 ∧ (m 192 10 = 0 ∨ m 192 9 < m' 192 9)) ∧ m' 198 9 = m 198 9
theorem RN_pg {m n m' : Mm} (h1 : PG m n) (h2 : RP n m') : RN m m' := by
  obtain ⟨f, i, e⟩ := h2
  obtain ⟨a1, a2, a3, a4, a5⟩ := FG_tr (FG_pg h1) f
  exact ⟨a1, a2, a3, i, a4, a5, e.trans (PG_f h1 9)⟩
theorem RN_er {m m' : Mm} (ht : TK m) (hi : FI m) (h : ER m m') : RN m m' := by
  have p := PG_er ht h
  obtain ⟨a1, a2, a3, a4, a5⟩ := FG_pg p
  exact ⟨a1, a2, a3, FI_pg hi p, a4, a5, PG_f p 9⟩
section NEXT
variable {T : List Kd} {m : Mm} {Q : AV → Mm → Prop}
theorem rn_a (hT : TT T) (hm : Gam m) (hout : ∀ y : Int, GX T 6 116 51 [(2, 192), (0, y), (9, 0)] [] m Q) : GX T 6 116 0 [(2, 192), (9, 0), (9, 0)] [] m Q := by
  refine gx_st (L' := [(2, 192), (9, 0), (9, 0)]) (S' := [(2, 192)]) r_116_0 rfl rfl rfl ?_
  refine gx_st (L' := [(2, 192), (9, 0), (9, 0)]) (S' := [(2, 1000000), (2, 192)]) r_116_1 rfl rfl rfl ?_
  refine gx_ci (nx := 6) (S2 := []) (x_106 hT hm (o := 1000000) (q := 0) (n := 4) (by decide) (by decide) sl_0) r_116_3 rfl rfl rfl rfl rfl (rcv_v rfl (tk_192 hT) (by decide) rfl (by decide)) rfl (by decide) rfl (fun x3 n3 q3 => ?_)
  obtain ⟨iv3, z_3⟩ := q3
  obtain rfl := z_3.symm
  show GX T 6 116 6 [(2, 192), (9, 0), (9, 0)] [(0, x3)] m Q
  refine gx_i0 (P := ¬ x3 = 0) r_116_6 (rfl) (fun h6 => ?_) (fun h6 => ?_)
  · refine gx_st (L' := [(2, 192), (9, 0), (9, 0)]) (S' := [(0, 1)]) r_116_45 rfl rfl rfl ?_
    refine gx_st (L' := [(2, 192), (9, 0), (9, 0)]) (S' := [(0, 1)]) r_116_46 rfl rfl rfl ?_
    refine gx_st (L' := [(2, 192), (0, 1), (9, 0)]) (S' := []) r_116_50 rfl rfl rfl ?_
    exact hout 1
  · have h6 := Decidable.not_not.mp h6
    refine gx_st (L' := [(2, 192), (9, 0), (9, 0)]) (S' := [(2, 192)]) r_116_9 rfl rfl rfl ?_
    refine gx_st (L' := [(2, 192), (9, 0), (9, 0)]) (S' := [(2, 1000001), (2, 192)]) r_116_10 rfl rfl rfl ?_
    refine gx_ci (nx := 15) (S2 := []) (x_106 hT hm (o := 1000001) (q := 1) (n := 4) (by decide) (by decide) sl_1) r_116_12 rfl rfl rfl rfl rfl (rcv_v rfl (tk_192 hT) (by decide) rfl (by decide)) rfl (by decide) rfl (fun x12 n12 q12 => ?_)
    obtain ⟨iv12, z_12⟩ := q12
    obtain rfl := z_12.symm
    show GX T 6 116 15 [(2, 192), (9, 0), (9, 0)] [(0, x12)] m Q
    refine gx_i0 (P := ¬ x12 = 0) r_116_15 (rfl) (fun h15 => ?_) (fun h15 => ?_)
    · refine gx_st (L' := [(2, 192), (9, 0), (9, 0)]) (S' := [(0, 1)]) r_116_45 rfl rfl rfl ?_
      refine gx_st (L' := [(2, 192), (9, 0), (9, 0)]) (S' := [(0, 1)]) r_116_46 rfl rfl rfl ?_
      refine gx_st (L' := [(2, 192), (0, 1), (9, 0)]) (S' := []) r_116_50 rfl rfl rfl ?_
      exact hout 1
    · have h15 := Decidable.not_not.mp h15
      refine gx_st (L' := [(2, 192), (9, 0), (9, 0)]) (S' := [(2, 192)]) r_116_18 rfl rfl rfl ?_
      refine gx_st (L' := [(2, 192), (9, 0), (9, 0)]) (S' := [(2, 1000002), (2, 192)]) r_116_19 rfl rfl rfl ?_
      refine gx_ci (nx := 24) (S2 := []) (x_106 hT hm (o := 1000002) (q := 2) (n := 4) (by decide) (by decide) sl_2) r_116_21 rfl rfl rfl rfl rfl (rcv_v rfl (tk_192 hT) (by decide) rfl (by decide)) rfl (by decide) rfl (fun x21 n21 q21 => ?_)
      obtain ⟨iv21, z_21⟩ := q21
      obtain rfl := z_21.symm
      show GX T 6 116 24 [(2, 192), (9, 0), (9, 0)] [(0, x21)] m Q
      refine gx_i0 (P := ¬ x21 = 0) r_116_24 (rfl) (fun h24 => ?_) (fun h24 => ?_)
      · refine gx_st (L' := [(2, 192), (9, 0), (9, 0)]) (S' := [(0, 1)]) r_116_45 rfl rfl rfl ?_
        refine gx_st (L' := [(2, 192), (9, 0), (9, 0)]) (S' := [(0, 1)]) r_116_46 rfl rfl rfl ?_
        refine gx_st (L' := [(2, 192), (0, 1), (9, 0)]) (S' := []) r_116_50 rfl rfl rfl ?_
        exact hout 1
      · have h24 := Decidable.not_not.mp h24
        refine gx_st (L' := [(2, 192), (9, 0), (9, 0)]) (S' := [(2, 192)]) r_116_27 rfl rfl rfl ?_
        refine gx_st (L' := [(2, 192), (9, 0), (9, 0)]) (S' := [(2, 1000003), (2, 192)]) r_116_28 rfl rfl rfl ?_
        refine gx_ci (nx := 33) (S2 := []) (x_106 hT hm (o := 1000003) (q := 3) (n := 5) (by decide) (by decide) sl_3) r_116_30 rfl rfl rfl rfl rfl (rcv_v rfl (tk_192 hT) (by decide) rfl (by decide)) rfl (by decide) rfl (fun x30 n30 q30 => ?_)
        obtain ⟨iv30, z_30⟩ := q30
        obtain rfl := z_30.symm
        show GX T 6 116 33 [(2, 192), (9, 0), (9, 0)] [(0, x30)] m Q
        refine gx_i0 (P := ¬ x30 = 0) r_116_33 (rfl) (fun h33 => ?_) (fun h33 => ?_)
        · refine gx_st (L' := [(2, 192), (9, 0), (9, 0)]) (S' := [(0, 1)]) r_116_45 rfl rfl rfl ?_
          refine gx_st (L' := [(2, 192), (9, 0), (9, 0)]) (S' := [(0, 1)]) r_116_46 rfl rfl rfl ?_
          refine gx_st (L' := [(2, 192), (0, 1), (9, 0)]) (S' := []) r_116_50 rfl rfl rfl ?_
          exact hout 1
        · have h33 := Decidable.not_not.mp h33
          refine gx_st (L' := [(2, 192), (9, 0), (9, 0)]) (S' := [(2, 192)]) r_116_36 rfl rfl rfl ?_
          refine gx_st (L' := [(2, 192), (9, 0), (9, 0)]) (S' := [(2, 1000004), (2, 192)]) r_116_37 rfl rfl rfl ?_
          refine gx_ci (nx := 42) (S2 := []) (x_106 hT hm (o := 1000004) (q := 4) (n := 6) (by decide) (by decide) sl_4) r_116_39 rfl rfl rfl rfl rfl (rcv_v rfl (tk_192 hT) (by decide) rfl (by decide)) rfl (by decide) rfl (fun x39 n39 q39 => ?_)
          obtain ⟨iv39, z_39⟩ := q39
          obtain rfl := z_39.symm
          show GX T 6 116 42 [(2, 192), (9, 0), (9, 0)] [(0, x39)] m Q
          refine gx_i0 (P := x39 = 0) r_116_42 (rfl) (fun h42 => ?_) (fun h42 => ?_)
          · refine gx_st (L' := [(2, 192), (9, 0), (9, 0)]) (S' := [(0, 0)]) r_116_49 rfl rfl rfl ?_
            refine gx_st (L' := [(2, 192), (0, 0), (9, 0)]) (S' := []) r_116_50 rfl rfl rfl ?_
            exact hout 0
          · refine gx_st (L' := [(2, 192), (9, 0), (9, 0)]) (S' := [(0, 1)]) r_116_45 rfl rfl rfl ?_
            refine gx_st (L' := [(2, 192), (9, 0), (9, 0)]) (S' := [(0, 1)]) r_116_46 rfl rfl rfl ?_
            refine gx_st (L' := [(2, 192), (0, 1), (9, 0)]) (S' := []) r_116_50 rfl rfl rfl ?_
            exact hout 1
theorem rn_b (hT : TT T) (hm : Gam m) {y : Int} (hout : ∀ m2, E0 m m2 → GX T 6 116 60 [(2, 192), (0, y), (9, 0)] [] m2 Q) : GX T 6 116 51 [(2, 192), (0, y), (9, 0)] [] m Q := by
  refine gx_st (L' := [(2, 192), (0, y), (9, 0)]) (S' := [(0, y)]) r_116_51 rfl rfl rfl ?_
  refine gx_i0 (P := ¬ y = 0) r_116_52 (rfl) (fun h52 => ?_) (fun h52 => ?_)
  · exact hout m ⟨hm, Fr_rf, Or.inl rfl⟩
  · have h52 := Decidable.not_not.mp h52
    refine gx_st (L' := [(2, 192), (0, y), (9, 0)]) (S' := [(2, 192)]) r_116_55 rfl rfl rfl ?_
    refine gx_st (L' := [(2, 192), (0, y), (9, 0)]) (S' := [(0, 1), (2, 192)]) r_116_56 rfl rfl rfl ?_
    refine gx_cv (nx := 60) (S2 := []) (x_105 hT hm (k := 1) (by decide) (by decide)) r_116_57 rfl rfl rfl rfl rfl (rcv_v rfl (tk_192 hT) (by decide) rfl (by decide)) rfl (by decide) rfl (fun n57 q57 => ?_)
    exact hout _ ⟨q57.1, q57.2.1, Or.inr q57.2.2⟩
theorem rn_c (hT : TT T) (hm : Gam m) {y : Int} (hout : ∀ m2, E0 m m2 → (m2 192 12 = 0 → (IsW m2 0 4 → ¬ m2 198 4 = 10) ∧ (IsW m2 1 4 → ¬ m2 198 5 = 5)) → GX T 6 116 104 [(2, 192), (0, y), (9, 0)] [] m2 Q) : GX T 6 116 60 [(2, 192), (0, y), (9, 0)] [] m Q := by
  refine gx_st (L' := [(2, 192), (0, y), (9, 0)]) (S' := [(2, 192)]) r_116_60 rfl rfl rfl ?_
  refine gx_st (L' := [(2, 192), (0, y), (9, 0)]) (S' := [(2, 1000000), (2, 192)]) r_116_61 rfl rfl rfl ?_
  refine gx_ci (nx := 66) (S2 := []) (x_106 hT hm (o := 1000000) (q := 0) (n := 4) (by decide) (by decide) sl_0) r_116_63 rfl rfl rfl rfl rfl (rcv_v rfl (tk_192 hT) (by decide) rfl (by decide)) rfl (by decide) rfl (fun x63 n63 q63 => ?_)
  obtain ⟨iv63, z_63⟩ := q63
  obtain rfl := z_63.symm
  show GX T 6 116 66 [(2, 192), (0, y), (9, 0)] [(0, x63)] m Q
  refine gx_i0 (P := x63 = 0) r_116_66 (rfl) (fun h66 => ?_) (fun h66 => ?_)
  · have pa : IsW m 0 4 → ¬ m 198 4 = 10 := fun w => absurd w (nw iv63 h66)
    refine gx_st (L' := [(2, 192), (0, y), (9, 0)]) (S' := [(2, 192)]) r_116_80 rfl rfl rfl ?_
    refine gx_st (L' := [(2, 192), (0, y), (9, 0)]) (S' := [(2, 1000001), (2, 192)]) r_116_81 rfl rfl rfl ?_
    refine gx_ci (nx := 86) (S2 := []) (x_106 hT hm (o := 1000001) (q := 1) (n := 4) (by decide) (by decide) sl_1) r_116_83 rfl rfl rfl rfl rfl (rcv_v rfl (tk_192 hT) (by decide) rfl (by decide)) rfl (by decide) rfl (fun x83 n83 q83 => ?_)
    obtain ⟨iv83, z_83⟩ := q83
    obtain rfl := z_83.symm
    show GX T 6 116 86 [(2, 192), (0, y), (9, 0)] [(0, x83)] m Q
    refine gx_i0 (P := x83 = 0) r_116_86 (rfl) (fun h86 => ?_) (fun h86 => ?_)
    · have pb : IsW m 1 4 → ¬ m 198 5 = 5 := fun w => absurd w (nw iv83 h86)
      exact hout m ⟨hm, Fr_rf, Or.inl rfl⟩ (fun _ => ⟨pa, pb⟩)
    · refine gx_st (L' := [(2, 192), (0, y), (9, 0)]) (S' := [(2, 192)]) r_116_89 rfl rfl rfl ?_
      refine gx_gf (x := 198) 2 r_116_90 rfl (tk_192 hT) ⟨by decide, rfl, by decide, by decide⟩ rfl (fun _ => by decide) (pr_192_14 hm) ?_
      refine gx_st (L' := [(2, 192), (0, y), (9, 0)]) (S' := [(0, 5), (2, 198)]) r_116_93 rfl rfl rfl ?_
      obtain ⟨x94, e_x94⟩ : ∃ z, z = m 198 (5) := ⟨_, rfl⟩
      have b_x94 := gb_198_5 hm
      rw [← e_x94] at b_x94
      refine gx_ia (n := 5) (x := x94) r_116_94 rfl (tk_198 hT) (rfl) ⟨rfl, by decide⟩ (e_x94.symm) ?_
      refine gx_st (L' := [(2, 192), (0, y), (9, 0)]) (S' := [(0, 5), (0, x94)]) r_116_95 rfl rfl rfl ?_
      refine gx_ic (P := ¬ x94 = 5) r_116_96 (rfl) (fun h96 => ?_) (fun h96 => ?_)
      · have pb : IsW m 1 4 → ¬ m 198 5 = 5 := fun _ => by omega
        exact hout m ⟨hm, Fr_rf, Or.inl rfl⟩ (fun _ => ⟨pa, pb⟩)
      · have h96 := Decidable.not_not.mp h96
        refine gx_st (L' := [(2, 192), (0, y), (9, 0)]) (S' := [(2, 192)]) r_116_99 rfl rfl rfl ?_
        refine gx_st (L' := [(2, 192), (0, y), (9, 0)]) (S' := [(0, 3), (2, 192)]) r_116_100 rfl rfl rfl ?_
        refine gx_cv (nx := 104) (S2 := []) (x_105 hT hm (k := 3) (by decide) (by decide)) r_116_101 rfl rfl rfl rfl rfl (rcv_v rfl (tk_192 hT) (by decide) rfl (by decide)) rfl (by decide) rfl (fun n101 q101 => ?_)
        exact hout _ ⟨q101.1, q101.2.1, Or.inr q101.2.2⟩ (fun z => absurd z q101.2.2)
  · refine gx_st (L' := [(2, 192), (0, y), (9, 0)]) (S' := [(2, 192)]) r_116_69 rfl rfl rfl ?_
    refine gx_gf (x := 198) 2 r_116_70 rfl (tk_192 hT) ⟨by decide, rfl, by decide, by decide⟩ rfl (fun _ => by decide) (pr_192_14 hm) ?_
    refine gx_st (L' := [(2, 192), (0, y), (9, 0)]) (S' := [(0, 4), (2, 198)]) r_116_73 rfl rfl rfl ?_
    obtain ⟨x74, e_x74⟩ : ∃ z, z = m 198 (4) := ⟨_, rfl⟩
    have b_x74 := gb_198_4 hm
    rw [← e_x74] at b_x74
    refine gx_ia (n := 4) (x := x74) r_116_74 rfl (tk_198 hT) (rfl) ⟨rfl, by decide⟩ (e_x74.symm) ?_
    refine gx_st (L' := [(2, 192), (0, y), (9, 0)]) (S' := [(0, 10), (0, x74)]) r_116_75 rfl rfl rfl ?_
    refine gx_ic (P := x74 = 10) r_116_77 (rfl) (fun h77 => ?_) (fun h77 => ?_)
    · refine gx_st (L' := [(2, 192), (0, y), (9, 0)]) (S' := [(2, 192)]) r_116_99 rfl rfl rfl ?_
      refine gx_st (L' := [(2, 192), (0, y), (9, 0)]) (S' := [(0, 3), (2, 192)]) r_116_100 rfl rfl rfl ?_
      refine gx_cv (nx := 104) (S2 := []) (x_105 hT hm (k := 3) (by decide) (by decide)) r_116_101 rfl rfl rfl rfl rfl (rcv_v rfl (tk_192 hT) (by decide) rfl (by decide)) rfl (by decide) rfl (fun n101 q101 => ?_)
      exact hout _ ⟨q101.1, q101.2.1, Or.inr q101.2.2⟩ (fun z => absurd z q101.2.2)
    · have pa : IsW m 0 4 → ¬ m 198 4 = 10 := fun _ => by omega
      refine gx_st (L' := [(2, 192), (0, y), (9, 0)]) (S' := [(2, 192)]) r_116_80 rfl rfl rfl ?_
      refine gx_st (L' := [(2, 192), (0, y), (9, 0)]) (S' := [(2, 1000001), (2, 192)]) r_116_81 rfl rfl rfl ?_
      refine gx_ci (nx := 86) (S2 := []) (x_106 hT hm (o := 1000001) (q := 1) (n := 4) (by decide) (by decide) sl_1) r_116_83 rfl rfl rfl rfl rfl (rcv_v rfl (tk_192 hT) (by decide) rfl (by decide)) rfl (by decide) rfl (fun x83 n83 q83 => ?_)
      obtain ⟨iv83, z_83⟩ := q83
      obtain rfl := z_83.symm
      show GX T 6 116 86 [(2, 192), (0, y), (9, 0)] [(0, x83)] m Q
      refine gx_i0 (P := x83 = 0) r_116_86 (rfl) (fun h86 => ?_) (fun h86 => ?_)
      · have pb : IsW m 1 4 → ¬ m 198 5 = 5 := fun w => absurd w (nw iv83 h86)
        exact hout m ⟨hm, Fr_rf, Or.inl rfl⟩ (fun _ => ⟨pa, pb⟩)
      · refine gx_st (L' := [(2, 192), (0, y), (9, 0)]) (S' := [(2, 192)]) r_116_89 rfl rfl rfl ?_
        refine gx_gf (x := 198) 2 r_116_90 rfl (tk_192 hT) ⟨by decide, rfl, by decide, by decide⟩ rfl (fun _ => by decide) (pr_192_14 hm) ?_
        refine gx_st (L' := [(2, 192), (0, y), (9, 0)]) (S' := [(0, 5), (2, 198)]) r_116_93 rfl rfl rfl ?_
        obtain ⟨x94, e_x94⟩ : ∃ z, z = m 198 (5) := ⟨_, rfl⟩
        have b_x94 := gb_198_5 hm
        rw [← e_x94] at b_x94
        refine gx_ia (n := 5) (x := x94) r_116_94 rfl (tk_198 hT) (rfl) ⟨rfl, by decide⟩ (e_x94.symm) ?_
        refine gx_st (L' := [(2, 192), (0, y), (9, 0)]) (S' := [(0, 5), (0, x94)]) r_116_95 rfl rfl rfl ?_
        refine gx_ic (P := ¬ x94 = 5) r_116_96 (rfl) (fun h96 => ?_) (fun h96 => ?_)
        · have pb : IsW m 1 4 → ¬ m 198 5 = 5 := fun _ => by omega
          exact hout m ⟨hm, Fr_rf, Or.inl rfl⟩ (fun _ => ⟨pa, pb⟩)
        · have h96 := Decidable.not_not.mp h96
          refine gx_st (L' := [(2, 192), (0, y), (9, 0)]) (S' := [(2, 192)]) r_116_99 rfl rfl rfl ?_
          refine gx_st (L' := [(2, 192), (0, y), (9, 0)]) (S' := [(0, 3), (2, 192)]) r_116_100 rfl rfl rfl ?_
          refine gx_cv (nx := 104) (S2 := []) (x_105 hT hm (k := 3) (by decide) (by decide)) r_116_101 rfl rfl rfl rfl rfl (rcv_v rfl (tk_192 hT) (by decide) rfl (by decide)) rfl (by decide) rfl (fun n101 q101 => ?_)
          exact hout _ ⟨q101.1, q101.2.1, Or.inr q101.2.2⟩ (fun z => absurd z q101.2.2)
theorem rn_d (hT : TT T) (hm : Gam m) {y : Int} (hout : ∀ m2, E0 m m2 → (m2 192 12 = 0 → (IsW m2 2 4 → ¬ m2 198 6 = 3) ∧ (IsW m2 4 6 → ¬ m2 198 7 = 5)) → GX T 6 116 149 [(2, 192), (0, y), (9, 0)] [] m2 Q) : GX T 6 116 104 [(2, 192), (0, y), (9, 0)] [] m Q := by
  refine gx_st (L' := [(2, 192), (0, y), (9, 0)]) (S' := [(2, 192)]) r_116_104 rfl rfl rfl ?_
  refine gx_st (L' := [(2, 192), (0, y), (9, 0)]) (S' := [(2, 1000002), (2, 192)]) r_116_105 rfl rfl rfl ?_
  refine gx_ci (nx := 110) (S2 := []) (x_106 hT hm (o := 1000002) (q := 2) (n := 4) (by decide) (by decide) sl_2) r_116_107 rfl rfl rfl rfl rfl (rcv_v rfl (tk_192 hT) (by decide) rfl (by decide)) rfl (by decide) rfl (fun x107 n107 q107 => ?_)
  obtain ⟨iv107, z_107⟩ := q107
  obtain rfl := z_107.symm
  show GX T 6 116 110 [(2, 192), (0, y), (9, 0)] [(0, x107)] m Q
  refine gx_i0 (P := x107 = 0) r_116_110 (rfl) (fun h110 => ?_) (fun h110 => ?_)
  · have pa : IsW m 2 4 → ¬ m 198 6 = 3 := fun w => absurd w (nw iv107 h110)
    refine gx_st (L' := [(2, 192), (0, y), (9, 0)]) (S' := [(2, 192)]) r_116_124 rfl rfl rfl ?_
    refine gx_st (L' := [(2, 192), (0, y), (9, 0)]) (S' := [(2, 1000004), (2, 192)]) r_116_125 rfl rfl rfl ?_
    refine gx_ci (nx := 130) (S2 := []) (x_106 hT hm (o := 1000004) (q := 4) (n := 6) (by decide) (by decide) sl_4) r_116_127 rfl rfl rfl rfl rfl (rcv_v rfl (tk_192 hT) (by decide) rfl (by decide)) rfl (by decide) rfl (fun x127 n127 q127 => ?_)
    obtain ⟨iv127, z_127⟩ := q127
    obtain rfl := z_127.symm
    show GX T 6 116 130 [(2, 192), (0, y), (9, 0)] [(0, x127)] m Q
    refine gx_i0 (P := x127 = 0) r_116_130 (rfl) (fun h130 => ?_) (fun h130 => ?_)
    · have pb : IsW m 4 6 → ¬ m 198 7 = 5 := fun w => absurd w (nw iv127 h130)
      exact hout m ⟨hm, Fr_rf, Or.inl rfl⟩ (fun _ => ⟨pa, pb⟩)
    · refine gx_st (L' := [(2, 192), (0, y), (9, 0)]) (S' := [(2, 192)]) r_116_133 rfl rfl rfl ?_
      refine gx_gf (x := 198) 2 r_116_134 rfl (tk_192 hT) ⟨by decide, rfl, by decide, by decide⟩ rfl (fun _ => by decide) (pr_192_14 hm) ?_
      refine gx_st (L' := [(2, 192), (0, y), (9, 0)]) (S' := [(0, 7), (2, 198)]) r_116_137 rfl rfl rfl ?_
      obtain ⟨x139, e_x139⟩ : ∃ z, z = m 198 (7) := ⟨_, rfl⟩
      have b_x139 := gb_198_7 hm
      rw [← e_x139] at b_x139
      refine gx_ia (n := 7) (x := x139) r_116_139 rfl (tk_198 hT) (rfl) ⟨rfl, by decide⟩ (e_x139.symm) ?_
      refine gx_st (L' := [(2, 192), (0, y), (9, 0)]) (S' := [(0, 5), (0, x139)]) r_116_140 rfl rfl rfl ?_
      refine gx_ic (P := ¬ x139 = 5) r_116_141 (rfl) (fun h141 => ?_) (fun h141 => ?_)
      · have pb : IsW m 4 6 → ¬ m 198 7 = 5 := fun _ => by omega
        exact hout m ⟨hm, Fr_rf, Or.inl rfl⟩ (fun _ => ⟨pa, pb⟩)
      · have h141 := Decidable.not_not.mp h141
        refine gx_st (L' := [(2, 192), (0, y), (9, 0)]) (S' := [(2, 192)]) r_116_144 rfl rfl rfl ?_
        refine gx_st (L' := [(2, 192), (0, y), (9, 0)]) (S' := [(0, 3), (2, 192)]) r_116_145 rfl rfl rfl ?_
        refine gx_cv (nx := 149) (S2 := []) (x_105 hT hm (k := 3) (by decide) (by decide)) r_116_146 rfl rfl rfl rfl rfl (rcv_v rfl (tk_192 hT) (by decide) rfl (by decide)) rfl (by decide) rfl (fun n146 q146 => ?_)
        exact hout _ ⟨q146.1, q146.2.1, Or.inr q146.2.2⟩ (fun z => absurd z q146.2.2)
  · refine gx_st (L' := [(2, 192), (0, y), (9, 0)]) (S' := [(2, 192)]) r_116_113 rfl rfl rfl ?_
    refine gx_gf (x := 198) 2 r_116_114 rfl (tk_192 hT) ⟨by decide, rfl, by decide, by decide⟩ rfl (fun _ => by decide) (pr_192_14 hm) ?_
    refine gx_st (L' := [(2, 192), (0, y), (9, 0)]) (S' := [(0, 6), (2, 198)]) r_116_117 rfl rfl rfl ?_
    obtain ⟨x119, e_x119⟩ : ∃ z, z = m 198 (6) := ⟨_, rfl⟩
    have b_x119 := gb_198_6 hm
    rw [← e_x119] at b_x119
    refine gx_ia (n := 6) (x := x119) r_116_119 rfl (tk_198 hT) (rfl) ⟨rfl, by decide⟩ (e_x119.symm) ?_
    refine gx_st (L' := [(2, 192), (0, y), (9, 0)]) (S' := [(0, 3), (0, x119)]) r_116_120 rfl rfl rfl ?_
    refine gx_ic (P := x119 = 3) r_116_121 (rfl) (fun h121 => ?_) (fun h121 => ?_)
    · refine gx_st (L' := [(2, 192), (0, y), (9, 0)]) (S' := [(2, 192)]) r_116_144 rfl rfl rfl ?_
      refine gx_st (L' := [(2, 192), (0, y), (9, 0)]) (S' := [(0, 3), (2, 192)]) r_116_145 rfl rfl rfl ?_
      refine gx_cv (nx := 149) (S2 := []) (x_105 hT hm (k := 3) (by decide) (by decide)) r_116_146 rfl rfl rfl rfl rfl (rcv_v rfl (tk_192 hT) (by decide) rfl (by decide)) rfl (by decide) rfl (fun n146 q146 => ?_)
      exact hout _ ⟨q146.1, q146.2.1, Or.inr q146.2.2⟩ (fun z => absurd z q146.2.2)
    · have pa : IsW m 2 4 → ¬ m 198 6 = 3 := fun _ => by omega
      refine gx_st (L' := [(2, 192), (0, y), (9, 0)]) (S' := [(2, 192)]) r_116_124 rfl rfl rfl ?_
      refine gx_st (L' := [(2, 192), (0, y), (9, 0)]) (S' := [(2, 1000004), (2, 192)]) r_116_125 rfl rfl rfl ?_
      refine gx_ci (nx := 130) (S2 := []) (x_106 hT hm (o := 1000004) (q := 4) (n := 6) (by decide) (by decide) sl_4) r_116_127 rfl rfl rfl rfl rfl (rcv_v rfl (tk_192 hT) (by decide) rfl (by decide)) rfl (by decide) rfl (fun x127 n127 q127 => ?_)
      obtain ⟨iv127, z_127⟩ := q127
      obtain rfl := z_127.symm
      show GX T 6 116 130 [(2, 192), (0, y), (9, 0)] [(0, x127)] m Q
      refine gx_i0 (P := x127 = 0) r_116_130 (rfl) (fun h130 => ?_) (fun h130 => ?_)
      · have pb : IsW m 4 6 → ¬ m 198 7 = 5 := fun w => absurd w (nw iv127 h130)
        exact hout m ⟨hm, Fr_rf, Or.inl rfl⟩ (fun _ => ⟨pa, pb⟩)
      · refine gx_st (L' := [(2, 192), (0, y), (9, 0)]) (S' := [(2, 192)]) r_116_133 rfl rfl rfl ?_
        refine gx_gf (x := 198) 2 r_116_134 rfl (tk_192 hT) ⟨by decide, rfl, by decide, by decide⟩ rfl (fun _ => by decide) (pr_192_14 hm) ?_
        refine gx_st (L' := [(2, 192), (0, y), (9, 0)]) (S' := [(0, 7), (2, 198)]) r_116_137 rfl rfl rfl ?_
        obtain ⟨x139, e_x139⟩ : ∃ z, z = m 198 (7) := ⟨_, rfl⟩
        have b_x139 := gb_198_7 hm
        rw [← e_x139] at b_x139
        refine gx_ia (n := 7) (x := x139) r_116_139 rfl (tk_198 hT) (rfl) ⟨rfl, by decide⟩ (e_x139.symm) ?_
        refine gx_st (L' := [(2, 192), (0, y), (9, 0)]) (S' := [(0, 5), (0, x139)]) r_116_140 rfl rfl rfl ?_
        refine gx_ic (P := ¬ x139 = 5) r_116_141 (rfl) (fun h141 => ?_) (fun h141 => ?_)
        · have pb : IsW m 4 6 → ¬ m 198 7 = 5 := fun _ => by omega
          exact hout m ⟨hm, Fr_rf, Or.inl rfl⟩ (fun _ => ⟨pa, pb⟩)
        · have h141 := Decidable.not_not.mp h141
          refine gx_st (L' := [(2, 192), (0, y), (9, 0)]) (S' := [(2, 192)]) r_116_144 rfl rfl rfl ?_
          refine gx_st (L' := [(2, 192), (0, y), (9, 0)]) (S' := [(0, 3), (2, 192)]) r_116_145 rfl rfl rfl ?_
          refine gx_cv (nx := 149) (S2 := []) (x_105 hT hm (k := 3) (by decide) (by decide)) r_116_146 rfl rfl rfl rfl rfl (rcv_v rfl (tk_192 hT) (by decide) rfl (by decide)) rfl (by decide) rfl (fun n146 q146 => ?_)
          exact hout _ ⟨q146.1, q146.2.1, Or.inr q146.2.2⟩ (fun z => absurd z q146.2.2)

theorem rn_e {m0 : Mm} (hT : TT T) (hm : Gam m) (ht0 : TK m0) (hi0 : FI m0) (ht : TK m) (hi : FI m) (he : E0 m0 m) {y : Int} (hc1 : m 192 12 = 0 → (IsW m 0 4 → ¬ m 198 4 = 10) ∧ (IsW m 1 4 → ¬ m 198 5 = 5)) (hc2 : m 192 12 = 0 → (IsW m 2 4 → ¬ m 198 6 = 3) ∧ (IsW m 4 6 → ¬ m 198 7 = 5)) : GX T 6 116 149 [(2, 192), (0, y), (9, 0)] [] m (RV (RN m0)) := by
  refine gx_st (L' := [(2, 192), (0, y), (9, 0)]) (S' := [(2, 192)]) r_116_149 rfl rfl rfl ?_
  refine gx_ci (nx := 153) (S2 := []) (x_104 hT hm) r_116_150 rfl rfl rfl rfl rfl (rcv_v rfl (tk_192 hT) (by decide) rfl (by decide)) rfl (by decide) rfl (fun x150 n150 q150 => ?_)
  obtain rfl := q150.1.symm
  obtain rfl := q150.2.symm
  show GX T 6 116 153 [(2, 192), (0, y), (9, 0)] [(0, (if m 192 12 = 0 then 1 else 0))] m (RV (RN m0))
  refine gx_i0 (P := m 192 12 = 0) r_116_153 (b01_ne) (fun h153 => ?_) (fun h153 => ?_)
  · have hem : m = m0 := he.2.2.resolve_right (fun z => z h153)
    subst hem
    have hg : m 192 12 = 0 := h153
    obtain ⟨⟨p0, p1⟩, ⟨p2, p4⟩⟩ := And.intro (hc1 h153) (hc2 h153)
    refine gx_st (L' := [(2, 192), (0, y), (9, 0)]) (S' := [(2, 192)]) r_116_157 rfl rfl rfl ?_
    refine gx_st (L' := [(2, 192), (0, y), (9, 0)]) (S' := [(2, 1000000), (2, 192)]) r_116_158 rfl rfl rfl ?_
    refine gx_ci (nx := 163) (S2 := []) (x_107 hT hm (o := 1000000) (q := 0) (n := 4) (by decide) (by decide) sl_0) r_116_160 rfl rfl rfl rfl rfl (rcv_v rfl (tk_192 hT) (by decide) rfl (by decide)) rfl (by decide) rfl (fun x160 n160 q160 => ?_)
    show GX T 6 116 163 [(2, 192), (0, y), (9, 0)] [(0, x160)] n160 (RV (RN m))
    have hm_n160 : Gam n160 := by
      rcases q160 with z | z
      · rw [z.2.2]; exact hm
      · exact z.2.2.1
    refine gx_i0 (P := x160 = 0) r_116_163 (rfl) (fun h163 => ?_) (fun h163 => ?_)
    · have t160 : n160 = m := by
        rcases q160 with z | z
        · exact z.2.2
        · exact absurd (h163.symm.trans z.1) (by decide)
      rw [t160]
      refine gx_st (L' := [(2, 192), (0, y), (9, 0)]) (S' := [(2, 192)]) r_116_173 rfl rfl rfl ?_
      refine gx_st (L' := [(2, 192), (0, y), (9, 0)]) (S' := [(2, 1000001), (2, 192)]) r_116_174 rfl rfl rfl ?_
      refine gx_ci (nx := 179) (S2 := []) (x_107 hT hm (o := 1000001) (q := 1) (n := 4) (by decide) (by decide) sl_1) r_116_176 rfl rfl rfl rfl rfl (rcv_v rfl (tk_192 hT) (by decide) rfl (by decide)) rfl (by decide) rfl (fun x176 n176 q176 => ?_)
      show GX T 6 116 179 [(2, 192), (0, y), (9, 0)] [(0, x176)] n176 (RV (RN m))
      have hm_n176 : Gam n176 := by
        rcases q176 with z | z
        · rw [z.2.2]; exact hm
        · exact z.2.2.1
      refine gx_i0 (P := x176 = 0) r_116_179 (rfl) (fun h179 => ?_) (fun h179 => ?_)
      · have t176 : n176 = m := by
          rcases q176 with z | z
          · exact z.2.2
          · exact absurd (h179.symm.trans z.1) (by decide)
        rw [t176]
        refine gx_st (L' := [(2, 192), (0, y), (9, 0)]) (S' := [(2, 192)]) r_116_197 rfl rfl rfl ?_
        refine gx_st (L' := [(2, 192), (0, y), (9, 0)]) (S' := [(2, 1000002), (2, 192)]) r_116_198 rfl rfl rfl ?_
        refine gx_ci (nx := 203) (S2 := []) (x_107 hT hm (o := 1000002) (q := 2) (n := 4) (by decide) (by decide) sl_2) r_116_200 rfl rfl rfl rfl rfl (rcv_v rfl (tk_192 hT) (by decide) rfl (by decide)) rfl (by decide) rfl (fun x200 n200 q200 => ?_)
        show GX T 6 116 203 [(2, 192), (0, y), (9, 0)] [(0, x200)] n200 (RV (RN m))
        have hm_n200 : Gam n200 := by
          rcases q200 with z | z
          · rw [z.2.2]; exact hm
          · exact z.2.2.1
        refine gx_i0 (P := x200 = 0) r_116_203 (rfl) (fun h203 => ?_) (fun h203 => ?_)
        · have t200 : n200 = m := by
            rcases q200 with z | z
            · exact z.2.2
            · exact absurd (h203.symm.trans z.1) (by decide)
          rw [t200]
          refine gx_st (L' := [(2, 192), (0, y), (9, 0)]) (S' := [(2, 192)]) r_116_222 rfl rfl rfl ?_
          refine gx_st (L' := [(2, 192), (0, y), (9, 0)]) (S' := [(2, 1000004), (2, 192)]) r_116_223 rfl rfl rfl ?_
          refine gx_ci (nx := 228) (S2 := []) (x_107 hT hm (o := 1000004) (q := 4) (n := 6) (by decide) (by decide) sl_4) r_116_225 rfl rfl rfl rfl rfl (rcv_v rfl (tk_192 hT) (by decide) rfl (by decide)) rfl (by decide) rfl (fun x225 n225 q225 => ?_)
          show GX T 6 116 228 [(2, 192), (0, y), (9, 0)] [(0, x225)] n225 (RV (RN m))
          have hm_n225 : Gam n225 := by
            rcases q225 with z | z
            · rw [z.2.2]; exact hm
            · exact z.2.2.1
          refine gx_i0 (P := x225 = 0) r_116_228 (rfl) (fun h228 => ?_) (fun h228 => ?_)
          · have t225 : n225 = m := by
              rcases q225 with z | z
              · exact z.2.2
              · exact absurd (h228.symm.trans z.1) (by decide)
            rw [t225]
            refine gx_st (L' := [(2, 192), (0, y), (9, 0)]) (S' := [(2, 192)]) r_116_247 rfl rfl rfl ?_
            refine gx_cv (nx := 251) (S2 := []) (x_103 hT hm) r_116_248 rfl rfl rfl rfl rfl (rcv_v rfl (tk_192 hT) (by decide) rfl (by decide)) rfl (by decide) rfl (fun n248 q248 => ?_)
            have tp := PG_av ht hg q248
            have ti := FI_pg hi tp
            refine gx_st (L' := [(2, 192), (0, y), (9, 0)]) (S' := [(2, 192)]) r_116_251 rfl rfl rfl ?_
            refine gx_st (L' := [(2, 192), (0, y), (9, 0)]) (S' := [(2, 1000014), (2, 192)]) r_116_252 rfl rfl rfl ?_
            refine gx_cv (nx := 257) (S2 := []) (x_108 hT (q248.1) (o := 1000014) (q := 14) (n := 2) (by decide) (by decide) sl_14 (tp.2.2.1)) r_116_254 rfl rfl rfl rfl rfl (rcv_v rfl (tk_192 hT) (by decide) rfl (by decide)) rfl (by decide) rfl (fun n254 q254 => ?_)
            have g_n254 : FG n248 n254 := FG_pg q254
            have i_n254 : FI n254 := FI_pg ti q254
            have w9_n254 : n254 198 (9) = n248 198 9 := (PG_f q254 (9)).trans (rfl)
            refine gx_st (L' := [(2, 192), (0, y), (9, 0)]) (S' := [(2, 192)]) r_116_257 rfl rfl rfl ?_
            refine gx_ci (nx := 261) (S2 := []) (x_112 hT (q254.1) (q254.2.2.1)) r_116_258 rfl rfl rfl rfl rfl (rcv_v rfl (tk_192 hT) (by decide) rfl (by decide)) rfl (by decide) rfl (fun x258 n258 q258 => ?_)
            have bb258 := q258.1
            have bc258 := q258.2.1
            show GX T 6 116 261 [(2, 192), (0, y), (9, 0)] [(0, x258)] n258 (RV (RN m))
            have g_n258 : FG n248 n258 := FG_tr g_n254 (FG_pg q258.2.2.2)
            have i_n258 : FI n258 := FI_pg i_n254 q258.2.2.2
            have w9_n258 : n258 198 (9) = n248 198 9 := (PG_f q258.2.2.2 (9)).trans (w9_n254)
            refine gx_st (L' := [(2, 192), (0, y), (0, x258)]) (S' := []) r_116_261 rfl rfl rfl ?_
            refine gx_st (L' := [(2, 192), (0, y), (0, x258)]) (S' := [(2, 192)]) r_116_262 rfl rfl rfl ?_
            refine gx_gf (x := 198) 2 r_116_263 rfl (tk_192 hT) ⟨by decide, rfl, by decide, by decide⟩ rfl (fun _ => by decide) (pr_192_14 q258.2.2.2.1) ?_
            refine gx_st (L' := [(2, 192), (0, y), (0, x258)]) (S' := [(0, 10), (2, 198)]) r_116_266 rfl rfl rfl ?_
            refine gx_st (L' := [(2, 192), (0, y), (0, x258)]) (S' := [(0, 10), (2, 198), (0, 10), (2, 198)]) r_116_268 rfl rfl rfl ?_
            obtain ⟨x269, e_x269⟩ : ∃ z, z = n258 198 (10) := ⟨_, rfl⟩
            have b_x269 := gb_198_10 q258.2.2.2.1
            rw [← e_x269] at b_x269
            refine gx_ia (n := 10) (x := x269) r_116_269 rfl (tk_198 hT) (rfl) ⟨rfl, by decide⟩ (e_x269.symm) ?_
            refine gx_st (L' := [(2, 192), (0, y), (0, x258)]) (S' := [(0, 1), (0, x269), (0, 10), (2, 198)]) r_116_270 rfl rfl rfl ?_
            refine gx_st (L' := [(2, 192), (0, y), (0, x258)]) (S' := [(0, x258), (0, 1), (0, x269), (0, 10), (2, 198)]) r_116_271 rfl rfl rfl ?_
            refine gx_st (L' := [(2, 192), (0, y), (0, x258)]) (S' := [(0, (ishl 1 x258)), (0, x269), (0, 10), (2, 198)]) r_116_272 rfl rfl rfl ?_
            have b273 : -2147483648 ≤ (ishl 1 x258) ∧ (ishl 1 x258) ≤ 2147483647 := i32_in _
            refine gx_st (L' := [(2, 192), (0, y), (0, x258)]) (S' := [(0, (ior x269 (ishl 1 x258))), (0, 10), (2, 198)]) r_116_273 rfl rfl rfl ?_
            have b274 : -2147483648 ≤ (ior x269 (ishl 1 x258)) ∧ (ior x269 (ishl 1 x258)) ≤ 2147483647 := i32_in _
            obtain ⟨m1, e_m1⟩ : ∃ z, z = nu_up n258 198 (10) ((ior x269 (ishl 1 x258))) := ⟨_, rfl⟩
            have h_m1 : Gam m1 := by rw [e_m1]; exact gu_198_10 (q258.2.2.2.1) (by omega) (by omega)
            have g_m1 : FG n248 m1 := by rw [e_m1]; exact FG_wr g_n258 (by rw [← e_m1]; exact h_m1)
            have i_m1 : FI m1 := by rw [e_m1]; exact FI_wr i_n258 (by omega)
            have w9_m1 : m1 198 (9) = n248 198 9 := by rw [e_m1, nu_ne (by omega)]; exact w9_n258
            refine gx_is (n := 10) (x := (ior x269 (ishl 1 x258))) r_116_274 rfl (by decide) (tk_198 hT) (rfl) ⟨rfl, by decide⟩ e_m1.symm ?_
            exact gx_rt r_116_275 rfl rfl ⟨rfl, RN_pg tp ⟨g_m1, i_m1, w9_m1⟩⟩
          · obtain ⟨-, tw, ta⟩ := q225.resolve_left (fun z => h228 z.1)
            have tp := PG_av ht hg ta
            have ti := FI_pg hi tp
            obtain ⟨c, hc⟩ : ∃ c : Nat, n225 198 7 = (c : Int) := ⟨(n225 198 7).toNat, by have := gb_198_7 hm_n225; omega⟩
            have bc := gb_198_7 hm_n225
            have hcm : c ≤ 4 := by
              have z := p4 tw
              rw [← PG_f tp 7] at z
              omega
            refine gx_st (L' := [(2, 192), (0, y), (9, 0)]) (S' := [(2, 192)]) r_116_231 rfl rfl rfl ?_
            refine gx_st (L' := [(2, 192), (0, y), (9, 0)]) (S' := [(0, 47), (2, 192)]) r_116_232 rfl rfl rfl ?_
            refine gx_st (L' := [(2, 192), (0, y), (9, 0)]) (S' := [(0, 7), (0, 47), (2, 192)]) r_116_234 rfl rfl rfl ?_
            refine gx_st (L' := [(2, 192), (0, y), (9, 0)]) (S' := [(2, 1000013), (0, 7), (0, 47), (2, 192)]) r_116_236 rfl rfl rfl ?_
            refine gx_st (L' := [(2, 192), (0, y), (9, 0)]) (S' := [(0, 1), (2, 1000013), (0, 7), (0, 47), (2, 192)]) r_116_238 rfl rfl rfl ?_
            refine gx_st (L' := [(2, 192), (0, y), (9, 0)]) (S' := [(0, 99), (0, 1), (2, 1000013), (0, 7), (0, 47), (2, 192)]) r_116_239 rfl rfl rfl ?_
            refine gx_cv (nx := 244) (S2 := []) (x_115c hT hm_n225 tp.2.2.1 ti hc hcm) r_116_241 rfl rfl rfl rfl rfl (rcv_v rfl (tk_192 hT) (by decide) rfl (by decide)) rfl (by decide) rfl (fun n241 q241 => ?_)
            refine gx_st (L' := [(2, 192), (0, y), (9, 0)]) (S' := []) r_116_244 rfl rfl rfl ?_
            exact gx_rt r_116_275 rfl rfl ⟨rfl, RN_pg tp q241⟩
        · obtain ⟨-, tw, ta⟩ := q200.resolve_left (fun z => h203 z.1)
          have tp := PG_av ht hg ta
          have ti := FI_pg hi tp
          obtain ⟨c, hc⟩ : ∃ c : Nat, n200 198 6 = (c : Int) := ⟨(n200 198 6).toNat, by have := gb_198_6 hm_n200; omega⟩
          have bc := gb_198_6 hm_n200
          have hcm : c ≤ 2 := by
            have z := p2 tw
            rw [← PG_f tp 6] at z
            omega
          refine gx_st (L' := [(2, 192), (0, y), (9, 0)]) (S' := [(2, 192)]) r_116_206 rfl rfl rfl ?_
          refine gx_st (L' := [(2, 192), (0, y), (9, 0)]) (S' := [(0, 41), (2, 192)]) r_116_207 rfl rfl rfl ?_
          refine gx_st (L' := [(2, 192), (0, y), (9, 0)]) (S' := [(0, 6), (0, 41), (2, 192)]) r_116_209 rfl rfl rfl ?_
          refine gx_st (L' := [(2, 192), (0, y), (9, 0)]) (S' := [(2, 1000012), (0, 6), (0, 41), (2, 192)]) r_116_211 rfl rfl rfl ?_
          refine gx_st (L' := [(2, 192), (0, y), (9, 0)]) (S' := [(0, 0), (2, 1000012), (0, 6), (0, 41), (2, 192)]) r_116_213 rfl rfl rfl ?_
          refine gx_st (L' := [(2, 192), (0, y), (9, 0)]) (S' := [(0, 12), (0, 0), (2, 1000012), (0, 6), (0, 41), (2, 192)]) r_116_214 rfl rfl rfl ?_
          refine gx_cv (nx := 219) (S2 := []) (x_115b hT hm_n200 tp.2.2.1 ti hc hcm) r_116_216 rfl rfl rfl rfl rfl (rcv_v rfl (tk_192 hT) (by decide) rfl (by decide)) rfl (by decide) rfl (fun n216 q216 => ?_)
          refine gx_st (L' := [(2, 192), (0, y), (9, 0)]) (S' := []) r_116_219 rfl rfl rfl ?_
          exact gx_rt r_116_275 rfl rfl ⟨rfl, RN_pg tp q216⟩
      · obtain ⟨-, tw, ta⟩ := q176.resolve_left (fun z => h179 z.1)
        have tp := PG_av ht hg ta
        have ti := FI_pg hi tp
        obtain ⟨c, hc⟩ : ∃ c : Nat, n176 198 5 = (c : Int) := ⟨(n176 198 5).toNat, by have := gb_198_5 hm_n176; omega⟩
        have bc := gb_198_5 hm_n176
        have hcm : c ≤ 4 := by
          have z := p1 tw
          rw [← PG_f tp 5] at z
          omega
        refine gx_st (L' := [(2, 192), (0, y), (9, 0)]) (S' := [(2, 192)]) r_116_182 rfl rfl rfl ?_
        refine gx_st (L' := [(2, 192), (0, y), (9, 0)]) (S' := [(0, 31), (2, 192)]) r_116_183 rfl rfl rfl ?_
        refine gx_st (L' := [(2, 192), (0, y), (9, 0)]) (S' := [(0, 5), (0, 31), (2, 192)]) r_116_185 rfl rfl rfl ?_
        refine gx_st (L' := [(2, 192), (0, y), (9, 0)]) (S' := [(2, 1000011), (0, 5), (0, 31), (2, 192)]) r_116_186 rfl rfl rfl ?_
        refine gx_st (L' := [(2, 192), (0, y), (9, 0)]) (S' := [(0, 0), (2, 1000011), (0, 5), (0, 31), (2, 192)]) r_116_188 rfl rfl rfl ?_
        refine gx_st (L' := [(2, 192), (0, y), (9, 0)]) (S' := [(0, 9), (0, 0), (2, 1000011), (0, 5), (0, 31), (2, 192)]) r_116_189 rfl rfl rfl ?_
        refine gx_cv (nx := 194) (S2 := []) (x_115a hT hm_n176 tp.2.2.1 ti hc hcm) r_116_191 rfl rfl rfl rfl rfl (rcv_v rfl (tk_192 hT) (by decide) rfl (by decide)) rfl (by decide) rfl (fun n191 q191 => ?_)
        refine gx_st (L' := [(2, 192), (0, y), (9, 0)]) (S' := []) r_116_194 rfl rfl rfl ?_
        exact gx_rt r_116_275 rfl rfl ⟨rfl, RN_pg tp q191⟩
    · obtain ⟨-, tw, ta⟩ := q160.resolve_left (fun z => h163 z.1)
      have tp := PG_av ht hg ta
      have ti := FI_pg hi tp
      obtain ⟨c, hc⟩ : ∃ c : Nat, n160 198 4 = (c : Int) := ⟨(n160 198 4).toNat, by have := gb_198_4 hm_n160; omega⟩
      have bc := gb_198_4 hm_n160
      have hcm : c ≤ 9 := by
        have z := p0 tw
        rw [← PG_f tp 4] at z
        omega
      refine gx_st (L' := [(2, 192), (0, y), (9, 0)]) (S' := [(2, 192)]) r_116_166 rfl rfl rfl ?_
      refine gx_cv (nx := 170) (S2 := []) (x_114 hT hm_n160 tp.2.2.1 ti hc hcm) r_116_167 rfl rfl rfl rfl rfl (rcv_v rfl (tk_192 hT) (by decide) rfl (by decide)) rfl (by decide) rfl (fun n167 q167 => ?_)
      refine gx_st (L' := [(2, 192), (0, y), (9, 0)]) (S' := []) r_116_170 rfl rfl rfl ?_
      exact gx_rt r_116_275 rfl rfl ⟨rfl, RN_pg tp q167⟩
  · exact gx_rt r_116_156 rfl rfl ⟨rfl, RN_er ht0 hi0 ⟨hm, he.2.1, h153⟩⟩
theorem E0_tk {m m' : Mm} (h : E0 m m') (ht : TK m) : TK m' := by
  unfold TK at *; rw [h.2.1 192 8 rfl, h.2.1 192 9 rfl, h.2.1 192 10 rfl]; exact ht
theorem E0_fi {m m' : Mm} (h : E0 m m') (hi : FI m) : FI m' := by
  have e : ∀ i, m' 198 i = m 198 i := Fr_cell (o := 198) h.2.1 (by decide) (by decide)
  refine ⟨by rw [e]; exact hi.1, fun z k hk hk2 => ?_⟩
  rcases h.2.2 with w | w
  · rw [w] at z hk2 ⊢
    exact hi.2 z k hk hk2
  · exact absurd z w
theorem x_116 (hT : TT T) (hm : Gam m) (ht : TK m) (hi : FI m) : GX T 6 116 0 [(2, 192), (9, 0), (9, 0)] [] m (RV (RN m)) := by
  refine rn_a hT hm (fun y => rn_b hT hm (fun m1 e1 => rn_c hT e1.1 (fun m2 e2 p2 => rn_d hT e2.1 (fun m3 e3 p3 => ?_))))
  have e12 := E0_tr e1 e2
  have e13 := E0_tr e12 e3
  refine rn_e hT e3.1 ht hi (E0_tk e13 ht) (E0_fi e13 hi) e13 (fun z => ?_) p3
  have w : m3 = m2 := e3.2.2.resolve_right (fun q => q z)
  rw [w] at z ⊢
  exact p2 z
end NEXT
