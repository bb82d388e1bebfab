/-! layPairs -/
theorem r_194_0 : row 194 0 = some (.aload_n 0, 1, 0, 0, 0, 0) := rfl
theorem r_194_1 : row 194 1 = some (.getfield 70, 4, 10, 39, 2, 6040) := rfl
theorem r_194_4 : row 194 4 = some (.bipush 60, 6, 60, 0, 0, 0) := rfl
theorem r_194_6 : row 194 6 = some (.iload_n 1, 7, 0, 0, 0, 0) := rfl
theorem r_194_7 : row 194 7 = some (.imul, 8, 0, 0, 0, 0) := rfl
theorem r_194_8 : row 194 8 = some (.iload_n 2, 9, 0, 0, 0, 0) := rfl
theorem r_194_9 : row 194 9 = some (.iadd, 10, 0, 0, 0, 0) := rfl
theorem r_194_10 : row 194 10 = some (.laload, 11, 0, 0, 0, 0) := rfl
theorem r_194_11 : row 194 11 = some (.lreturn, 12, 0, 0, 0, 0) := rfl
theorem r_195_0 : row 195 0 = some (.iload_n 1, 1, 0, 0, 0, 0) := rfl
theorem r_195_1 : row 195 1 = some (.invokestatic 386, 4, 226, 1, 0, 8107) := rfl
theorem r_195_4 : row 195 4 = some (.ifCond .eq 10, 7, 14, 0, 0, 0) := rfl
theorem r_195_7 : row 195 7 = some (.aload_n 0, 8, 0, 0, 0, 0) := rfl
theorem r_195_8 : row 195 8 = some (.invokevirtual 86, 11, 90, 0, 0, 7025) := rfl
theorem r_195_11 : row 195 11 = some (.ifCond .ne 6, 14, 17, 0, 0, 0) := rfl
theorem r_195_14 : row 195 14 = some (.bipush (-2), 16, (-2), 0, 0, 0) := rfl
theorem r_195_16 : row 195 16 = some (.ireturn, 17, 0, 0, 0, 0) := rfl
theorem r_195_17 : row 195 17 = some (.aload_n 0, 18, 0, 0, 0, 0) := rfl
theorem r_195_18 : row 195 18 = some (.getfield 64, 21, 10, 37, 2, 6038) := rfl
theorem r_195_21 : row 195 21 = some (.iload_n 1, 22, 0, 0, 0, 0) := rfl
theorem r_195_22 : row 195 22 = some (.iaload, 23, 0, 0, 0, 0) := rfl
theorem r_195_23 : row 195 23 = some (.iconst (-1), 24, (-1), 0, 0, 0) := rfl
theorem r_195_24 : row 195 24 = some (.if_icmp .ne 6, 27, 30, 0, 0, 0) := rfl
theorem r_195_27 : row 195 27 = some (.bipush (-6), 29, (-6), 0, 0, 0) := rfl
theorem r_195_29 : row 195 29 = some (.ireturn, 30, 0, 0, 0, 0) := rfl
theorem r_195_30 : row 195 30 = some (.aload_n 0, 31, 0, 0, 0, 0) := rfl
theorem r_195_31 : row 195 31 = some (.getfield 64, 34, 10, 37, 2, 6038) := rfl
theorem r_195_34 : row 195 34 = some (.iload_n 1, 35, 0, 0, 0, 0) := rfl
theorem r_195_35 : row 195 35 = some (.iaload, 36, 0, 0, 0, 0) := rfl
theorem r_195_36 : row 195 36 = some (.iconst 2, 37, 2, 0, 0, 0) := rfl
theorem r_195_37 : row 195 37 = some (.irem, 38, 0, 0, 0, 0) := rfl
theorem r_195_38 : row 195 38 = some (.ifCond .eq 6, 41, 44, 0, 0, 0) := rfl
theorem r_195_41 : row 195 41 = some (.bipush (-2), 43, (-2), 0, 0, 0) := rfl
theorem r_195_43 : row 195 43 = some (.ireturn, 44, 0, 0, 0, 0) := rfl
theorem r_195_44 : row 195 44 = some (.iconst 0, 45, 0, 0, 0, 0) := rfl
theorem r_195_45 : row 195 45 = some (.istore_n 2, 46, 0, 0, 0, 0) := rfl
theorem r_195_46 : row 195 46 = some (.iload_n 2, 47, 0, 0, 0, 0) := rfl
theorem r_195_47 : row 195 47 = some (.aload_n 0, 48, 0, 0, 0, 0) := rfl
theorem r_195_48 : row 195 48 = some (.getfield 64, 51, 10, 37, 2, 6038) := rfl
theorem r_195_51 : row 195 51 = some (.iload_n 1, 52, 0, 0, 0, 0) := rfl
theorem r_195_52 : row 195 52 = some (.iaload, 53, 0, 0, 0, 0) := rfl
theorem r_195_53 : row 195 53 = some (.if_icmp .ge 43, 56, 96, 0, 0, 0) := rfl
theorem r_195_56 : row 195 56 = some (.aload_n 0, 57, 0, 0, 0, 0) := rfl
theorem r_195_57 : row 195 57 = some (.aload_n 0, 58, 0, 0, 0, 0) := rfl
theorem r_195_58 : row 195 58 = some (.iload_n 1, 59, 0, 0, 0, 0) := rfl
theorem r_195_59 : row 195 59 = some (.iload_n 2, 60, 0, 0, 0, 0) := rfl
theorem r_195_60 : row 195 60 = some (.invokevirtual 389, 63, 194, 2, 0, 8111) := rfl
theorem r_195_63 : row 195 63 = some (.invokevirtual 216, 66, 94, 1, 0, 7001) := rfl
theorem r_195_66 : row 195 66 = some (.ifCond .eq 21, 69, 87, 0, 0, 0) := rfl
theorem r_195_69 : row 195 69 = some (.aload_n 0, 70, 0, 0, 0, 0) := rfl
theorem r_195_70 : row 195 70 = some (.iload_n 1, 71, 0, 0, 0, 0) := rfl
theorem r_195_71 : row 195 71 = some (.iload_n 2, 72, 0, 0, 0, 0) := rfl
theorem r_195_72 : row 195 72 = some (.iconst 1, 73, 1, 0, 0, 0) := rfl
theorem r_195_73 : row 195 73 = some (.iadd, 74, 0, 0, 0, 0) := rfl
theorem r_195_74 : row 195 74 = some (.invokevirtual 389, 77, 194, 2, 0, 8111) := rfl
theorem r_195_77 : row 195 77 = some (.lconst 0, 78, 0, 0, 0, 0) := rfl
theorem r_195_78 : row 195 78 = some (.ldc2_w 393, 81, 9, 0, 0, 8115) := rfl
theorem r_195_81 : row 195 81 = some (.invokestatic 82, 84, 86, 3, 0, 6131) := rfl
theorem r_195_84 : row 195 84 = some (.ifCond .ne 6, 87, 90, 0, 0, 0) := rfl
theorem r_195_87 : row 195 87 = some (.bipush (-2), 89, (-2), 0, 0, 0) := rfl
theorem r_195_89 : row 195 89 = some (.ireturn, 90, 0, 0, 0, 0) := rfl
theorem r_195_90 : row 195 90 = some (.iinc 2 2, 93, 0, 0, 0, 0) := rfl
theorem r_195_93 : row 195 93 = some (.goto (-47), 96, 46, 0, 0, 0) := rfl
theorem r_195_96 : row 195 96 = some (.aload_n 0, 97, 0, 0, 0, 0) := rfl
theorem r_195_97 : row 195 97 = some (.invokevirtual 359, 100, 174, 0, 0, 8027) := rfl
theorem r_195_100 : row 195 100 = some (.aload_n 0, 101, 0, 0, 0, 0) := rfl
theorem r_195_101 : row 195 101 = some (.iconst 0, 102, 0, 0, 0, 0) := rfl
theorem r_195_102 : row 195 102 = some (.putfield 395, 105, 10, 34, 0, 6035) := rfl
theorem r_195_105 : row 195 105 = some (.iconst 0, 106, 0, 0, 0, 0) := rfl
theorem r_195_106 : row 195 106 = some (.istore_n 2, 107, 0, 0, 0, 0) := rfl
theorem r_195_107 : row 195 107 = some (.iload_n 2, 108, 0, 0, 0, 0) := rfl
theorem r_195_108 : row 195 108 = some (.aload_n 0, 109, 0, 0, 0, 0) := rfl
theorem r_195_109 : row 195 109 = some (.getfield 9, 112, 10, 1, 2, 6002) := rfl
theorem r_195_112 : row 195 112 = some (.iconst 0, 113, 0, 0, 0, 0) := rfl
theorem r_195_113 : row 195 113 = some (.iaload, 114, 0, 0, 0, 0) := rfl
theorem r_195_114 : row 195 114 = some (.if_icmp .ge 198, 117, 312, 0, 0, 0) := rfl
theorem r_195_117 : row 195 117 = some (.aload_n 0, 118, 0, 0, 0, 0) := rfl
theorem r_195_118 : row 195 118 = some (.aload_n 0, 119, 0, 0, 0, 0) := rfl
theorem r_195_119 : row 195 119 = some (.getfield 9, 122, 10, 1, 2, 6002) := rfl
theorem r_195_122 : row 195 122 = some (.bipush 7, 124, 7, 0, 0, 0) := rfl
theorem r_195_124 : row 195 124 = some (.iaload, 125, 0, 0, 0, 0) := rfl
theorem r_195_125 : row 195 125 = some (.ifCond .le 7, 128, 132, 0, 0, 0) := rfl
theorem r_195_128 : row 195 128 = some (.iload_n 2, 129, 0, 0, 0, 0) := rfl
theorem r_195_129 : row 195 129 = some (.goto 4, 132, 133, 0, 0, 0) := rfl
theorem r_195_132 : row 195 132 = some (.iconst (-1), 133, (-1), 0, 0, 0) := rfl
theorem r_195_133 : row 195 133 = some (.aload_n 0, 134, 0, 0, 0, 0) := rfl
theorem r_195_134 : row 195 134 = some (.getfield 9, 137, 10, 1, 2, 6002) := rfl
theorem r_195_137 : row 195 137 = some (.bipush 7, 139, 7, 0, 0, 0) := rfl
theorem r_195_139 : row 195 139 = some (.iaload, 140, 0, 0, 0, 0) := rfl
theorem r_195_140 : row 195 140 = some (.ifCond .le 7, 143, 147, 0, 0, 0) := rfl
theorem r_195_143 : row 195 143 = some (.iconst 0, 144, 0, 0, 0, 0) := rfl
theorem r_195_144 : row 195 144 = some (.goto 4, 147, 148, 0, 0, 0) := rfl
theorem r_195_147 : row 195 147 = some (.iconst (-1), 148, (-1), 0, 0, 0) := rfl
theorem r_195_148 : row 195 148 = some (.invokevirtual 321, 151, 144, 2, 0, 7090) := rfl
theorem r_195_151 : row 195 151 = some (.iconst 0, 152, 0, 0, 0, 0) := rfl
theorem r_195_152 : row 195 152 = some (.istore_n 3, 153, 0, 0, 0, 0) := rfl
theorem r_195_153 : row 195 153 = some (.iload_n 3, 154, 0, 0, 0, 0) := rfl
theorem r_195_154 : row 195 154 = some (.aload_n 0, 155, 0, 0, 0, 0) := rfl
theorem r_195_155 : row 195 155 = some (.getfield 9, 158, 10, 1, 2, 6002) := rfl
theorem r_195_158 : row 195 158 = some (.iconst 1, 159, 1, 0, 0, 0) := rfl
theorem r_195_159 : row 195 159 = some (.iaload, 160, 0, 0, 0, 0) := rfl
theorem r_195_160 : row 195 160 = some (.if_icmp .gt 146, 163, 306, 0, 0, 0) := rfl
theorem r_195_163 : row 195 163 = some (.iconst 1, 164, 1, 0, 0, 0) := rfl
theorem r_195_164 : row 195 164 = some (.istore 4, 166, 0, 0, 0, 0) := rfl
theorem r_195_166 : row 195 166 = some (.iconst 0, 167, 0, 0, 0, 0) := rfl
theorem r_195_167 : row 195 167 = some (.istore 5, 169, 0, 0, 0, 0) := rfl
theorem r_195_169 : row 195 169 = some (.iload 5, 171, 0, 0, 0, 0) := rfl
theorem r_195_171 : row 195 171 = some (.aload_n 0, 172, 0, 0, 0, 0) := rfl
theorem r_195_172 : row 195 172 = some (.getfield 64, 175, 10, 37, 2, 6038) := rfl
theorem r_195_175 : row 195 175 = some (.iload_n 1, 176, 0, 0, 0, 0) := rfl
theorem r_195_176 : row 195 176 = some (.iaload, 177, 0, 0, 0, 0) := rfl
theorem r_195_177 : row 195 177 = some (.if_icmp .ge 51, 180, 228, 0, 0, 0) := rfl
theorem r_195_180 : row 195 180 = some (.iload 4, 182, 0, 0, 0, 0) := rfl
theorem r_195_182 : row 195 182 = some (.ifCond .eq 37, 185, 219, 0, 0, 0) := rfl
theorem r_195_185 : row 195 185 = some (.aload_n 0, 186, 0, 0, 0, 0) := rfl
theorem r_195_186 : row 195 186 = some (.iload_n 3, 187, 0, 0, 0, 0) := rfl
theorem r_195_187 : row 195 187 = some (.bipush 11, 189, 11, 0, 0, 0) := rfl
theorem r_195_189 : row 195 189 = some (.aload_n 0, 190, 0, 0, 0, 0) := rfl
theorem r_195_190 : row 195 190 = some (.iload_n 1, 191, 0, 0, 0, 0) := rfl
theorem r_195_191 : row 195 191 = some (.iload 5, 193, 0, 0, 0, 0) := rfl
theorem r_195_193 : row 195 193 = some (.invokevirtual 389, 196, 194, 2, 0, 8111) := rfl
theorem r_195_196 : row 195 196 = some (.l2i, 197, 0, 0, 0, 0) := rfl
theorem r_195_197 : row 195 197 = some (.iadd, 198, 0, 0, 0, 0) := rfl
theorem r_195_198 : row 195 198 = some (.invokevirtual 263, 201, 131, 2, 0, 7110) := rfl
theorem r_195_201 : row 195 201 = some (.i2l, 202, 0, 0, 0, 0) := rfl
theorem r_195_202 : row 195 202 = some (.aload_n 0, 203, 0, 0, 0, 0) := rfl
theorem r_195_203 : row 195 203 = some (.iload_n 1, 204, 0, 0, 0, 0) := rfl
theorem r_195_204 : row 195 204 = some (.iload 5, 206, 0, 0, 0, 0) := rfl
theorem r_195_206 : row 195 206 = some (.iconst 1, 207, 1, 0, 0, 0) := rfl
theorem r_195_207 : row 195 207 = some (.iadd, 208, 0, 0, 0, 0) := rfl
theorem r_195_208 : row 195 208 = some (.invokevirtual 389, 211, 194, 2, 0, 8111) := rfl
theorem r_195_211 : row 195 211 = some (.lcmp, 212, 0, 0, 0, 0) := rfl
theorem r_195_212 : row 195 212 = some (.ifCond .ne 7, 215, 219, 0, 0, 0) := rfl
theorem r_195_215 : row 195 215 = some (.iconst 1, 216, 1, 0, 0, 0) := rfl
theorem r_195_216 : row 195 216 = some (.goto 4, 219, 220, 0, 0, 0) := rfl
theorem r_195_219 : row 195 219 = some (.iconst 0, 220, 0, 0, 0, 0) := rfl
theorem r_195_220 : row 195 220 = some (.istore 4, 222, 0, 0, 0, 0) := rfl
theorem r_195_222 : row 195 222 = some (.iinc 5 2, 225, 0, 0, 0, 0) := rfl
theorem r_195_225 : row 195 225 = some (.goto (-56), 228, 169, 0, 0, 0) := rfl
theorem r_195_228 : row 195 228 = some (.iload 4, 230, 0, 0, 0, 0) := rfl
theorem r_195_230 : row 195 230 = some (.ifCond .ne 6, 233, 236, 0, 0, 0) := rfl
theorem r_195_233 : row 195 233 = some (.goto 67, 236, 300, 0, 0, 0) := rfl
theorem r_195_236 : row 195 236 = some (.aload_n 0, 237, 0, 0, 0, 0) := rfl
theorem r_195_237 : row 195 237 = some (.getfield 58, 240, 10, 32, 2, 6033) := rfl
theorem r_195_240 : row 195 240 = some (.aload_n 0, 241, 0, 0, 0, 0) := rfl
theorem r_195_241 : row 195 241 = some (.getfield 395, 244, 10, 34, 0, 6035) := rfl
theorem r_195_244 : row 195 244 = some (.bipush 10, 246, 10, 0, 0, 0) := rfl
theorem r_195_246 : row 195 246 = some (.iload_n 3, 247, 0, 0, 0, 0) := rfl
theorem r_195_247 : row 195 247 = some (.imul, 248, 0, 0, 0, 0) := rfl
theorem r_195_248 : row 195 248 = some (.iload_n 2, 249, 0, 0, 0, 0) := rfl
theorem r_195_249 : row 195 249 = some (.iadd, 250, 0, 0, 0, 0) := rfl
theorem r_195_250 : row 195 250 = some (.iastore, 251, 0, 0, 0, 0) := rfl
theorem r_195_251 : row 195 251 = some (.iconst 0, 252, 0, 0, 0, 0) := rfl
theorem r_195_252 : row 195 252 = some (.istore 5, 254, 0, 0, 0, 0) := rfl
theorem r_195_254 : row 195 254 = some (.iload 5, 256, 0, 0, 0, 0) := rfl
theorem r_195_256 : row 195 256 = some (.iconst 5, 257, 5, 0, 0, 0) := rfl
theorem r_195_257 : row 195 257 = some (.if_icmp .ge 33, 260, 290, 0, 0, 0) := rfl
theorem r_195_260 : row 195 260 = some (.aload_n 0, 261, 0, 0, 0, 0) := rfl
theorem r_195_261 : row 195 261 = some (.getfield 61, 264, 10, 33, 2, 6034) := rfl
theorem r_195_264 : row 195 264 = some (.iconst 5, 265, 5, 0, 0, 0) := rfl
theorem r_195_265 : row 195 265 = some (.aload_n 0, 266, 0, 0, 0, 0) := rfl
theorem r_195_266 : row 195 266 = some (.getfield 395, 269, 10, 34, 0, 6035) := rfl
theorem r_195_269 : row 195 269 = some (.imul, 270, 0, 0, 0, 0) := rfl
theorem r_195_270 : row 195 270 = some (.iload 5, 272, 0, 0, 0, 0) := rfl
theorem r_195_272 : row 195 272 = some (.iadd, 273, 0, 0, 0, 0) := rfl
theorem r_195_273 : row 195 273 = some (.aload_n 0, 274, 0, 0, 0, 0) := rfl
theorem r_195_274 : row 195 274 = some (.iload_n 3, 275, 0, 0, 0, 0) := rfl
theorem r_195_275 : row 195 275 = some (.bipush 11, 277, 11, 0, 0, 0) := rfl
theorem r_195_277 : row 195 277 = some (.iload 5, 279, 0, 0, 0, 0) := rfl
theorem r_195_279 : row 195 279 = some (.iadd, 280, 0, 0, 0, 0) := rfl
theorem r_195_280 : row 195 280 = some (.invokevirtual 263, 283, 131, 2, 0, 7110) := rfl
theorem r_195_283 : row 195 283 = some (.iastore, 284, 0, 0, 0, 0) := rfl
theorem r_195_284 : row 195 284 = some (.iinc 5 1, 287, 0, 0, 0, 0) := rfl
theorem r_195_287 : row 195 287 = some (.goto (-33), 290, 254, 0, 0, 0) := rfl
theorem r_195_290 : row 195 290 = some (.aload_n 0, 291, 0, 0, 0, 0) := rfl
theorem r_195_291 : row 195 291 = some (.dup, 292, 0, 0, 0, 0) := rfl
theorem r_195_292 : row 195 292 = some (.getfield 395, 295, 10, 34, 0, 6035) := rfl
theorem r_195_295 : row 195 295 = some (.iconst 1, 296, 1, 0, 0, 0) := rfl
theorem r_195_296 : row 195 296 = some (.iadd, 297, 0, 0, 0, 0) := rfl
theorem r_195_297 : row 195 297 = some (.putfield 395, 300, 10, 34, 0, 6035) := rfl
theorem r_195_300 : row 195 300 = some (.iinc 3 1, 303, 0, 0, 0, 0) := rfl
theorem r_195_303 : row 195 303 = some (.goto (-150), 306, 153, 0, 0, 0) := rfl
theorem r_195_306 : row 195 306 = some (.iinc 2 1, 309, 0, 0, 0, 0) := rfl
theorem r_195_309 : row 195 309 = some (.goto (-202), 312, 107, 0, 0, 0) := rfl
theorem r_195_312 : row 195 312 = some (.iconst 0, 313, 0, 0, 0, 0) := rfl
theorem r_195_313 : row 195 313 = some (.ireturn, 314, 0, 0, 0, 0) := rfl
theorem r_226_0 : row 226 0 = some (.iload_n 0, 1, 0, 0, 0, 0) := rfl
theorem r_226_1 : row 226 1 = some (.i2l, 2, 0, 0, 0, 0) := rfl
theorem r_226_2 : row 226 2 = some (.lconst 0, 3, 0, 0, 0, 0) := rfl
theorem r_226_3 : row 226 3 = some (.ldc2_w 464, 6, 3, 0, 0, 8110) := rfl
theorem r_226_6 : row 226 6 = some (.invokestatic 82, 9, 86, 3, 0, 6131) := rfl
theorem r_226_9 : row 226 9 = some (.ireturn, 10, 0, 0, 0, 0) := rfl
theorem x_226 {T : List Kd} {m : Mm} (s : Int) : GX T 1 226 0 [(0, s)] [] m (RI (fun v m1 => v = (if 0 ≤ s ∧ s ≤ 3 then 1 else 0) ∧ m1 = m)) := by
  refine gx_st (L' := [(0, s)]) (S' := [(0, s)]) r_226_0 rfl rfl rfl ?_
  refine gx_st (L' := [(0, s)]) (S' := [(1, s)]) r_226_1 rfl rfl rfl ?_
  refine gx_st (L' := [(0, s)]) (S' := [(1, 0), (1, s)]) r_226_2 rfl rfl rfl ?_
  refine gx_st (L' := [(0, s)]) (S' := [(1, 3), (1, 0), (1, s)]) r_226_3 rfl rfl rfl ?_
  refine gx_ci (nx := 9) (S2 := []) (x_86 s 0 3) r_226_6 rfl rfl rfl rfl rfl rfl rfl (by decide) rfl (fun x6 n6 q6 => ?_)
  obtain rfl := q6.1.symm
  obtain rfl := q6.2.symm
  show GX T 1 226 9 [(0, s)] [(0, (if 0 ≤ s ∧ s ≤ 3 then 1 else 0))] m (RI (fun v m1 => v = (if 0 ≤ s ∧ s ≤ 3 then 1 else 0) ∧ m1 = m))
  exact gx_rb r_226_9 rfl (by split <;> omega) ⟨_, rfl, rfl, rfl⟩
theorem x_194 {T : List Kd} {m : Mm} (hT : TT T) (hm : Gam m) {s i : Nat} (hs : s < 4) (hi : i < 60) : GX T 0 194 0 [(2, 192), (0, (s : Int)), (0, (i : Int))] [] m (RL (fun v m1 => v = m 211 (60 * s + i) ∧ m1 = m)) := by
  refine gx_st (L' := [(2, 192), (0, (s : Int)), (0, (i : Int))]) (S' := [(2, 192)]) r_194_0 rfl rfl rfl ?_
  refine gx_gf (x := 211) 2 r_194_1 rfl (tk_192 hT) ⟨by decide, rfl, by decide, by decide⟩ rfl (fun _ => by decide) (pr_192_39 hm) ?_
  refine gx_st (L' := [(2, 192), (0, (s : Int)), (0, (i : Int))]) (S' := [(0, 60), (2, 211)]) r_194_4 rfl rfl rfl ?_
  refine gx_st (L' := [(2, 192), (0, (s : Int)), (0, (i : Int))]) (S' := [(0, (s : Int)), (0, 60), (2, 211)]) r_194_6 rfl rfl rfl ?_
  refine gx_ar (L' := [(2, 192), (0, (s : Int)), (0, (i : Int))]) (S' := [(2, 211)]) (t := 0) (e := w32 (60 * (s : Int))) (z := 60 * (s : Int)) r_194_7 rfl rfl rfl (w32_eq (by omega) (by omega) (by omega)) ?_
  refine gx_st (L' := [(2, 192), (0, (s : Int)), (0, (i : Int))]) (S' := [(0, (i : Int)), (0, 60 * (s : Int)), (2, 211)]) r_194_8 rfl rfl rfl ?_
  refine gx_ar (L' := [(2, 192), (0, (s : Int)), (0, (i : Int))]) (S' := [(2, 211)]) (t := 0) (e := w32 ((60 * (s : Int)) + (i : Int))) (z := 60 * (s : Int) + (i : Int)) r_194_9 rfl rfl rfl (w32_eq (by omega) (by omega) (by omega)) ?_
  refine gx_la (n := 60 * s + i) (x := (m 211 (60 * s + i))) r_194_10 rfl (by decide) (tk_211 hT) (by omega) ⟨rfl, by omega⟩ (rfl) ?_
  exact gx_rt r_194_11 rfl rfl ⟨_, rfl, ⟨rfl, rfl⟩⟩
/-- what holds in layPairs -/
def IP (m0 m : Mm) : Prop := Gam m ∧ Ext m ∧ FS m ∧ Fr [90021, 90022, 90023, 90024, 90025, 90026, 90027, 90034, 97999, 98999, 99999, 100999, 101999, 102999, 105999, 106999] m0 m
theorem IP_left {m0 m : Mm} {i : Nat} {x : Int} (h : IP m0 m) (h1 : -2147483648 ≤ x) (h2 : x ≤ 2147483647) : IP m0 (nu_up m 208 i x) := ⟨gu_208 h.1 h1 h2, Ext_fr (W := [106999]) (Fr_ua rfl rfl) (by decide) h.2.1, FS_fr (W := [106999]) (Fr_ua rfl rfl) (by decide) h.2.2.1, Fr_tr h.2.2.2 (Fr_ua rfl rfl)⟩
theorem IP_pair {m0 m : Mm} {i : Nat} {x : Int} (h : IP m0 m) (h1 : 0 ≤ x) (h2 : x ≤ 126) : IP m0 (nu_up m 207 i x) := ⟨gu_207 h.1 h1 h2, Ext_fr (W := [105999]) (Fr_ua rfl rfl) (by decide) h.2.1, FS_fr (W := [105999]) (Fr_ua rfl rfl) (by decide) h.2.2.1, Fr_tr h.2.2.2 (Fr_ua rfl rfl)⟩
theorem IP_many {m0 m : Mm} {x : Int} (h : IP m0 m) (h1 : 0 ≤ x) (h2 : x ≤ 91) : IP m0 (nu_up m 192 34 x) := ⟨gu_192_34 h.1 h1 h2, Ext_fr (W := [90034]) (Fr_up rfl) (by decide) h.2.1, FS_fr (W := [90034]) (Fr_up rfl) (by decide) h.2.2.1, Fr_tr h.2.2.2 (Fr_up rfl)⟩
theorem IP_c {m0 m : Mm} (h : IP m0 m) (o : Nat) (hw : ([90021, 90022, 90023, 90024, 90025, 90026, 90027, 90034, 97999, 98999, 99999, 100999, 101999, 102999, 105999, 106999] : List Nat).contains (tyO o * 1000 + 999) = false) (hk : (tyK (tyO o)).1 < 100 → False) (i : Nat) : m o i = m0 o i := Fr_cell (o := o) h.2.2.2 hw hk i
theorem left_l {T : List Kd} {m0 : Mm} {Q : AV → Mm → Prop} (hT : TT T) {s p h n : Nat} {y : Int} (hh : h < 13) (hn90 : n < 91) (hout : ∀ m, IP m0 m → m 192 34 = (n : Int) → GX T 12 195 290 [(2, 192), (0, (s : Int)), (0, (p : Int)), (0, (h : Int)), (0, y), (0, 5)] [] m Q) : ∀ (N : Nat) (t : Nat) (m : Mm), 5 - t < N → IP m0 m → t ≤ 5 → m 192 34 = (n : Int) → GX T 12 195 254 [(2, 192), (0, (s : Int)), (0, (p : Int)), (0, (h : Int)), (0, y), (0, (t : Int))] [] m Q := by
  intro N
  induction N with
  | zero => intro t m hN; exact absurd hN (Nat.not_lt_zero _)
  | succ N ih =>
    intro t m hN hi ht hn
    have hm := hi.1
    refine gx_st (L' := [(2, 192), (0, (s : Int)), (0, (p : Int)), (0, (h : Int)), (0, y), (0, (t : Int))]) (S' := [(0, (t : Int))]) r_195_254 rfl rfl rfl ?_
    refine gx_st (L' := [(2, 192), (0, (s : Int)), (0, (p : Int)), (0, (h : Int)), (0, y), (0, (t : Int))]) (S' := [(0, 5), (0, (t : Int))]) r_195_256 rfl rfl rfl ?_
    refine gx_ic (P := 5 ≤ (t : Int)) r_195_257 (rfl) (fun h257 => ?_) (fun h257 => ?_)
    · have ht5 : t = 5 := by omega
      rw [ht5]
      exact hout m hi hn
    · refine gx_st (L' := [(2, 192), (0, (s : Int)), (0, (p : Int)), (0, (h : Int)), (0, y), (0, (t : Int))]) (S' := [(2, 192)]) r_195_260 rfl rfl rfl ?_
      refine gx_gf (x := 208) 2 r_195_261 rfl (tk_192 hT) ⟨by decide, rfl, by decide, by decide⟩ rfl (fun _ => by decide) (pr_192_33 hm) ?_
      refine gx_st (L' := [(2, 192), (0, (s : Int)), (0, (p : Int)), (0, (h : Int)), (0, y), (0, (t : Int))]) (S' := [(0, 5), (2, 208)]) r_195_264 rfl rfl rfl ?_
      refine gx_st (L' := [(2, 192), (0, (s : Int)), (0, (p : Int)), (0, (h : Int)), (0, y), (0, (t : Int))]) (S' := [(2, 192), (0, 5), (2, 208)]) r_195_265 rfl rfl rfl ?_
      refine gx_gf (x := (n : Int)) 0 r_195_266 rfl (tk_192 hT) ⟨by decide, rfl, by decide, by decide⟩ rfl (fun z => absurd z (by decide)) (hn) ?_
      refine gx_ar (L' := [(2, 192), (0, (s : Int)), (0, (p : Int)), (0, (h : Int)), (0, y), (0, (t : Int))]) (S' := [(2, 208)]) (t := 0) (e := w32 (5 * (n : Int))) (z := 5 * (n : Int)) r_195_269 rfl rfl rfl (w32_eq (by omega) (by omega) (by omega)) ?_
      refine gx_st (L' := [(2, 192), (0, (s : Int)), (0, (p : Int)), (0, (h : Int)), (0, y), (0, (t : Int))]) (S' := [(0, (t : Int)), (0, 5 * (n : Int)), (2, 208)]) r_195_270 rfl rfl rfl ?_
      refine gx_ar (L' := [(2, 192), (0, (s : Int)), (0, (p : Int)), (0, (h : Int)), (0, y), (0, (t : Int))]) (S' := [(2, 208)]) (t := 0) (e := w32 ((5 * (n : Int)) + (t : Int))) (z := 5 * (n : Int) + (t : Int)) r_195_272 rfl rfl rfl (w32_eq (by omega) (by omega) (by omega)) ?_
      refine gx_st (L' := [(2, 192), (0, (s : Int)), (0, (p : Int)), (0, (h : Int)), (0, y), (0, (t : Int))]) (S' := [(2, 192), (0, 5 * (n : Int) + (t : Int)), (2, 208)]) r_195_273 rfl rfl rfl ?_
      refine gx_st (L' := [(2, 192), (0, (s : Int)), (0, (p : Int)), (0, (h : Int)), (0, y), (0, (t : Int))]) (S' := [(0, (h : Int)), (2, 192), (0, 5 * (n : Int) + (t : Int)), (2, 208)]) r_195_274 rfl rfl rfl ?_
      refine gx_st (L' := [(2, 192), (0, (s : Int)), (0, (p : Int)), (0, (h : Int)), (0, y), (0, (t : Int))]) (S' := [(0, 11), (0, (h : Int)), (2, 192), (0, 5 * (n : Int) + (t : Int)), (2, 208)]) r_195_275 rfl rfl rfl ?_
      refine gx_st (L' := [(2, 192), (0, (s : Int)), (0, (p : Int)), (0, (h : Int)), (0, y), (0, (t : Int))]) (S' := [(0, (t : Int)), (0, 11), (0, (h : Int)), (2, 192), (0, 5 * (n : Int) + (t : Int)), (2, 208)]) r_195_277 rfl rfl rfl ?_
      refine gx_ar (L' := [(2, 192), (0, (s : Int)), (0, (p : Int)), (0, (h : Int)), (0, y), (0, (t : Int))]) (S' := [(0, (h : Int)), (2, 192), (0, 5 * (n : Int) + (t : Int)), (2, 208)]) (t := 0) (e := w32 (11 + (t : Int))) (z := (t : Int) + 11) r_195_279 rfl rfl rfl (w32_eq (by omega) (by omega) (by omega)) ?_
      refine gx_ci (nx := 283) (S2 := [(0, 5 * (n : Int) + (t : Int)), (2, 208)]) (x_131 hT hm (h := h) (k := t + 11) (by omega) (by omega)) r_195_280 rfl rfl rfl rfl rfl (rcv_v rfl (tk_192 hT) (by decide) rfl (by decide)) rfl (by decide) rfl (fun x280 n280 q280 => ?_)
      obtain ⟨e_x280, z_x280⟩ := q280
      obtain rfl := z_x280.symm
      have b_x280 := gb_200 hm (i := 16 * (h) + (t + 11)) (by omega)
      rw [← e_x280] at b_x280
      show GX T 12 195 283 [(2, 192), (0, (s : Int)), (0, (p : Int)), (0, (h : Int)), (0, y), (0, (t : Int))] [(0, x280), (0, 5 * (n : Int) + (t : Int)), (2, 208)] m Q
      obtain ⟨m1, e_m1⟩ : ∃ z, z = nu_up m 208 (5 * n + t) x280 := ⟨_, rfl⟩
      refine gx_is (n := 5 * n + t) (x := x280) r_195_283 rfl (by decide) (tk_208 hT) (by omega) ⟨rfl, by omega⟩ e_m1.symm ?_
      refine gx_li (z := (t : Int) + 1) (L' := [(2, 192), (0, (s : Int)), (0, (p : Int)), (0, (h : Int)), (0, y), (0, (t : Int) + 1)]) r_195_284 rfl (w32_eq (by omega) (by omega) (by omega)) rfl ?_
      refine gx_st (L' := [(2, 192), (0, (s : Int)), (0, (p : Int)), (0, (h : Int)), (0, y), (0, (t : Int) + 1)]) (S' := []) r_195_287 rfl rfl rfl ?_
      rw [show (t : Int) + 1 = ((t + 1 : Nat) : Int) from rfl]
      exact ih (t + 1) m1 (by omega) (by rw [e_m1]; exact IP_left hi (by omega) (by omega)) (by omega) (by rw [e_m1, nu_no (by decide)]; exact hn)
theorem fits_l {T : List Kd} {m0 : Mm} {Q : AV → Mm → Prop} (hT : TT T) {s p h c d : Nat} (hs : s < 4) (hh : h < 13) (hd : c = 2 * d) (hc60 : c ≤ 60) (m : Mm) (hc : m 209 s = (c : Int)) (b5 : m 193 5 ≤ 5) (hout : ∀ (j : Nat) (y : Int), GX T 12 195 228 [(2, 192), (0, (s : Int)), (0, (p : Int)), (0, (h : Int)), (0, y), (0, 2 * (j : Int))] [] m Q) : ∀ (N : Nat) (j : Nat) (y : Int), d - j < N → Gam m → (∀ i : Nat, i < d → 0 ≤ m 211 (60 * s + 2 * i) ∧ m 211 (60 * s + 2 * i) ≤ m 193 5 - 1) → j ≤ d → GX T 12 195 169 [(2, 192), (0, (s : Int)), (0, (p : Int)), (0, (h : Int)), (0, y), (0, 2 * (j : Int))] [] m Q := by
  intro N
  induction N with
  | zero => intro j y hN; exact absurd hN (Nat.not_lt_zero _)
  | succ N ih =>
    intro j y hN hm hv hj

    refine gx_st (L' := [(2, 192), (0, (s : Int)), (0, (p : Int)), (0, (h : Int)), (0, y), (0, 2 * (j : Int))]) (S' := [(0, 2 * (j : Int))]) r_195_169 rfl rfl rfl ?_
    refine gx_st (L' := [(2, 192), (0, (s : Int)), (0, (p : Int)), (0, (h : Int)), (0, y), (0, 2 * (j : Int))]) (S' := [(2, 192), (0, 2 * (j : Int))]) r_195_171 rfl rfl rfl ?_
    refine gx_gf (x := 209) 2 r_195_172 rfl (tk_192 hT) ⟨by decide, rfl, by decide, by decide⟩ rfl (fun _ => by decide) (pr_192_37 hm) ?_
    refine gx_st (L' := [(2, 192), (0, (s : Int)), (0, (p : Int)), (0, (h : Int)), (0, y), (0, 2 * (j : Int))]) (S' := [(0, (s : Int)), (2, 209), (0, 2 * (j : Int))]) r_195_175 rfl rfl rfl ?_
    refine gx_ia (n := s) (x := (c : Int)) r_195_176 rfl (tk_209 hT) (by omega) ⟨rfl, by omega⟩ (hc) ?_
    refine gx_ic (P := (c : Int) ≤ 2 * (j : Int)) r_195_177 (rfl) (fun h177 => ?_) (fun h177 => ?_)
    · exact hout j y
    · refine gx_st (L' := [(2, 192), (0, (s : Int)), (0, (p : Int)), (0, (h : Int)), (0, y), (0, 2 * (j : Int))]) (S' := [(0, y)]) r_195_180 rfl rfl rfl ?_
      refine gx_i0 (P := y = 0) r_195_182 (rfl) (fun h182 => ?_) (fun h182 => ?_)
      · refine gx_st (L' := [(2, 192), (0, (s : Int)), (0, (p : Int)), (0, (h : Int)), (0, y), (0, 2 * (j : Int))]) (S' := [(0, 0)]) r_195_219 rfl rfl rfl ?_
        refine gx_st (L' := [(2, 192), (0, (s : Int)), (0, (p : Int)), (0, (h : Int)), (0, 0), (0, 2 * (j : Int))]) (S' := []) r_195_220 rfl rfl rfl ?_
        refine gx_li (z := 2 * (j : Int) + 2) (L' := [(2, 192), (0, (s : Int)), (0, (p : Int)), (0, (h : Int)), (0, 0), (0, 2 * (j : Int) + 2)]) r_195_222 rfl (w32_eq (by omega) (by omega) (by omega)) rfl ?_
        refine gx_st (L' := [(2, 192), (0, (s : Int)), (0, (p : Int)), (0, (h : Int)), (0, 0), (0, 2 * (j : Int) + 2)]) (S' := []) r_195_225 rfl rfl rfl ?_
        rw [show 2 * (j : Int) + 2 = 2 * ((j + 1 : Nat) : Int) from by omega]
        exact ih (j + 1) _ (by omega) hm hv (by omega)
      · refine gx_st (L' := [(2, 192), (0, (s : Int)), (0, (p : Int)), (0, (h : Int)), (0, y), (0, 2 * (j : Int))]) (S' := [(2, 192)]) r_195_185 rfl rfl rfl ?_
        refine gx_st (L' := [(2, 192), (0, (s : Int)), (0, (p : Int)), (0, (h : Int)), (0, y), (0, 2 * (j : Int))]) (S' := [(0, (h : Int)), (2, 192)]) r_195_186 rfl rfl rfl ?_
        refine gx_st (L' := [(2, 192), (0, (s : Int)), (0, (p : Int)), (0, (h : Int)), (0, y), (0, 2 * (j : Int))]) (S' := [(0, 11), (0, (h : Int)), (2, 192)]) r_195_187 rfl rfl rfl ?_
        refine gx_st (L' := [(2, 192), (0, (s : Int)), (0, (p : Int)), (0, (h : Int)), (0, y), (0, 2 * (j : Int))]) (S' := [(2, 192), (0, 11), (0, (h : Int)), (2, 192)]) r_195_189 rfl rfl rfl ?_
        refine gx_st (L' := [(2, 192), (0, (s : Int)), (0, (p : Int)), (0, (h : Int)), (0, y), (0, 2 * (j : Int))]) (S' := [(0, (s : Int)), (2, 192), (0, 11), (0, (h : Int)), (2, 192)]) r_195_190 rfl rfl rfl ?_
        refine gx_st (L' := [(2, 192), (0, (s : Int)), (0, (p : Int)), (0, (h : Int)), (0, y), (0, 2 * (j : Int))]) (S' := [(0, 2 * (j : Int)), (0, (s : Int)), (2, 192), (0, 11), (0, (h : Int)), (2, 192)]) r_195_191 rfl rfl rfl ?_
        refine gx_cl (nx := 196) (S2 := [(0, 11), (0, (h : Int)), (2, 192)]) (x_194 hT hm (s := s) (i := 2 * j) hs (by omega)) r_195_193 rfl rfl rfl rfl rfl (rcv_v rfl (tk_192 hT) (by decide) rfl (by decide)) rfl (by decide) rfl (fun x193 n193 q193 => ?_)
        obtain ⟨e_x193, z_x193⟩ := q193
        obtain rfl := z_x193.symm
        have b_x193 := gb_211 hm (i := 60 * s + (2 * j)) (by omega)
        rw [← e_x193] at b_x193
        show GX T 12 195 196 [(2, 192), (0, (s : Int)), (0, (p : Int)), (0, (h : Int)), (0, y), (0, 2 * (j : Int))] [(1, x193), (0, 11), (0, (h : Int)), (2, 192)] m Q
        obtain ⟨t, ht⟩ : ∃ t : Nat, x193 = (t : Int) := ⟨x193.toNat, by have := hv j (by omega); rw [e_x193]; omega⟩
        have ht5 : t < 5 := by have := hv j (by omega); omega
        rw [ht]
        show GX T 12 195 196 [(2, 192), (0, (s : Int)), (0, (p : Int)), (0, (h : Int)), (0, y), (0, 2 * (j : Int))] [(1, (t : Int)), (0, 11), (0, (h : Int)), (2, 192)] m Q
        refine gx_ar (L' := [(2, 192), (0, (s : Int)), (0, (p : Int)), (0, (h : Int)), (0, y), (0, 2 * (j : Int))]) (S' := [(0, 11), (0, (h : Int)), (2, 192)]) (t := 0) (e := w32 ((t : Int))) (z := (t : Int)) r_195_196 rfl rfl rfl (w32_eq (by omega) (by omega) (by omega)) ?_
        refine gx_ar (L' := [(2, 192), (0, (s : Int)), (0, (p : Int)), (0, (h : Int)), (0, y), (0, 2 * (j : Int))]) (S' := [(0, (h : Int)), (2, 192)]) (t := 0) (e := w32 (11 + (t : Int))) (z := (t : Int) + 11) r_195_197 rfl rfl rfl (w32_eq (by omega) (by omega) (by omega)) ?_
        refine gx_ci (nx := 201) (S2 := []) (x_131 hT hm (h := h) (k := t + 11) (by omega) (by omega)) r_195_198 rfl rfl rfl rfl rfl (rcv_v rfl (tk_192 hT) (by decide) rfl (by decide)) rfl (by decide) rfl (fun x198 n198 q198 => ?_)
        obtain ⟨e_x198, z_x198⟩ := q198
        obtain rfl := z_x198.symm
        have b_x198 := gb_200 hm (i := 16 * (h) + (t + 11)) (by omega)
        rw [← e_x198] at b_x198
        show GX T 12 195 201 [(2, 192), (0, (s : Int)), (0, (p : Int)), (0, (h : Int)), (0, y), (0, 2 * (j : Int))] [(0, x198)] m Q
        refine gx_st (L' := [(2, 192), (0, (s : Int)), (0, (p : Int)), (0, (h : Int)), (0, y), (0, 2 * (j : Int))]) (S' := [(1, x198)]) r_195_201 rfl rfl rfl ?_
        refine gx_st (L' := [(2, 192), (0, (s : Int)), (0, (p : Int)), (0, (h : Int)), (0, y), (0, 2 * (j : Int))]) (S' := [(2, 192), (1, x198)]) r_195_202 rfl rfl rfl ?_
        refine gx_st (L' := [(2, 192), (0, (s : Int)), (0, (p : Int)), (0, (h : Int)), (0, y), (0, 2 * (j : Int))]) (S' := [(0, (s : Int)), (2, 192), (1, x198)]) r_195_203 rfl rfl rfl ?_
        refine gx_st (L' := [(2, 192), (0, (s : Int)), (0, (p : Int)), (0, (h : Int)), (0, y), (0, 2 * (j : Int))]) (S' := [(0, 2 * (j : Int)), (0, (s : Int)), (2, 192), (1, x198)]) r_195_204 rfl rfl rfl ?_
        refine gx_st (L' := [(2, 192), (0, (s : Int)), (0, (p : Int)), (0, (h : Int)), (0, y), (0, 2 * (j : Int))]) (S' := [(0, 1), (0, 2 * (j : Int)), (0, (s : Int)), (2, 192), (1, x198)]) r_195_206 rfl rfl rfl ?_
        refine gx_ar (L' := [(2, 192), (0, (s : Int)), (0, (p : Int)), (0, (h : Int)), (0, y), (0, 2 * (j : Int))]) (S' := [(0, (s : Int)), (2, 192), (1, x198)]) (t := 0) (e := w32 ((2 * (j : Int)) + 1)) (z := 2 * (j : Int) + 1) r_195_207 rfl rfl rfl (w32_eq (by omega) (by omega) (by omega)) ?_
        refine gx_cl (nx := 211) (S2 := [(1, x198)]) (x_194 hT hm (s := s) (i := 2 * j + 1) hs (by omega)) r_195_208 rfl rfl rfl rfl rfl (rcv_v rfl (tk_192 hT) (by decide) rfl (by decide)) rfl (by decide) rfl (fun x208 n208 q208 => ?_)
        obtain ⟨e_x208, z_x208⟩ := q208
        obtain rfl := z_x208.symm
        have b_x208 := gb_211 hm (i := 60 * s + (2 * j + 1)) (by omega)
        rw [← e_x208] at b_x208
        show GX T 12 195 211 [(2, 192), (0, (s : Int)), (0, (p : Int)), (0, (h : Int)), (0, y), (0, 2 * (j : Int))] [(1, x208), (1, x198)] m Q
        refine gx_st (L' := [(2, 192), (0, (s : Int)), (0, (p : Int)), (0, (h : Int)), (0, y), (0, 2 * (j : Int))]) (S' := [(0, (if x198 < x208 then -1 else if x198 = x208 then 0 else 1))]) r_195_211 rfl rfl rfl ?_
        refine gx_i0 (P := ¬ x198 = x208) r_195_212 (lc_ne) (fun h212 => ?_) (fun h212 => ?_)
        · refine gx_st (L' := [(2, 192), (0, (s : Int)), (0, (p : Int)), (0, (h : Int)), (0, y), (0, 2 * (j : Int))]) (S' := [(0, 0)]) r_195_219 rfl rfl rfl ?_
          refine gx_st (L' := [(2, 192), (0, (s : Int)), (0, (p : Int)), (0, (h : Int)), (0, 0), (0, 2 * (j : Int))]) (S' := []) r_195_220 rfl rfl rfl ?_
          refine gx_li (z := 2 * (j : Int) + 2) (L' := [(2, 192), (0, (s : Int)), (0, (p : Int)), (0, (h : Int)), (0, 0), (0, 2 * (j : Int) + 2)]) r_195_222 rfl (w32_eq (by omega) (by omega) (by omega)) rfl ?_
          refine gx_st (L' := [(2, 192), (0, (s : Int)), (0, (p : Int)), (0, (h : Int)), (0, 0), (0, 2 * (j : Int) + 2)]) (S' := []) r_195_225 rfl rfl rfl ?_
          rw [show 2 * (j : Int) + 2 = 2 * ((j + 1 : Nat) : Int) from by omega]
          exact ih (j + 1) _ (by omega) hm hv (by omega)
        · have h212 := Decidable.not_not.mp h212
          refine gx_st (L' := [(2, 192), (0, (s : Int)), (0, (p : Int)), (0, (h : Int)), (0, y), (0, 2 * (j : Int))]) (S' := [(0, 1)]) r_195_215 rfl rfl rfl ?_
          refine gx_st (L' := [(2, 192), (0, (s : Int)), (0, (p : Int)), (0, (h : Int)), (0, y), (0, 2 * (j : Int))]) (S' := [(0, 1)]) r_195_216 rfl rfl rfl ?_
          refine gx_st (L' := [(2, 192), (0, (s : Int)), (0, (p : Int)), (0, (h : Int)), (0, 1), (0, 2 * (j : Int))]) (S' := []) r_195_220 rfl rfl rfl ?_
          refine gx_li (z := 2 * (j : Int) + 2) (L' := [(2, 192), (0, (s : Int)), (0, (p : Int)), (0, (h : Int)), (0, 1), (0, 2 * (j : Int) + 2)]) r_195_222 rfl (w32_eq (by omega) (by omega) (by omega)) rfl ?_
          refine gx_st (L' := [(2, 192), (0, (s : Int)), (0, (p : Int)), (0, (h : Int)), (0, 1), (0, 2 * (j : Int) + 2)]) (S' := []) r_195_225 rfl rfl rfl ?_
          rw [show 2 * (j : Int) + 2 = 2 * ((j + 1 : Nat) : Int) from by omega]
          exact ih (j + 1) _ (by omega) hm hv (by omega)
theorem hours_l {T : List Kd} {m0 : Mm} {Q : AV → Mm → Prop} (hT : TT T) {s p c d g : Nat} (hs : s < 4) (hp : p < 7) (hd : c = 2 * d) (hc60 : c ≤ 60) (hc : m0 209 s = (c : Int)) (hv : ∀ i : Nat, i < d → 0 ≤ m0 211 (60 * s + 2 * i) ∧ m0 211 (60 * s + 2 * i) ≤ m0 193 5 - 1) (hg : m0 193 1 = (g : Int)) (hg12 : g ≤ 12) (hout : ∀ (n : Nat) (x z : AV) m, IP m0 m → m 192 34 = (n : Int) → n ≤ 13 * (p + 1) → GX T 12 195 306 [(2, 192), (0, (s : Int)), (0, (p : Int)), (0, ((g + 1 : Nat) : Int)), x, z] [] m Q) : ∀ (N : Nat) (h : Nat) (n : Nat) (x : AV) (z : AV) (m : Mm), g + 1 - h < N → IP m0 m → m 192 34 = (n : Int) → n ≤ 13 * p + h → h ≤ g + 1 → GX T 12 195 153 [(2, 192), (0, (s : Int)), (0, (p : Int)), (0, (h : Int)), x, z] [] m Q := by
  intro N
  induction N with
  | zero => intro h n x z m hN; exact absurd hN (Nat.not_lt_zero _)
  | succ N ih =>
    intro h n x z m hN hi hn hn2 hh
    have hm := hi.1
    refine gx_st (L' := [(2, 192), (0, (s : Int)), (0, (p : Int)), (0, (h : Int)), x, z]) (S' := [(0, (h : Int))]) r_195_153 rfl rfl rfl ?_
    refine gx_st (L' := [(2, 192), (0, (s : Int)), (0, (p : Int)), (0, (h : Int)), x, z]) (S' := [(2, 192), (0, (h : Int))]) r_195_154 rfl rfl rfl ?_
    refine gx_gf (x := 193) 2 r_195_155 rfl (tk_192 hT) ⟨by decide, rfl, by decide, by decide⟩ rfl (fun _ => by decide) (pr_192_1 hm) ?_
    refine gx_st (L' := [(2, 192), (0, (s : Int)), (0, (p : Int)), (0, (h : Int)), x, z]) (S' := [(0, 1), (2, 193), (0, (h : Int))]) r_195_158 rfl rfl rfl ?_
    refine gx_ia (n := 1) (x := (g : Int)) r_195_159 rfl (tk_193 hT) (rfl) ⟨rfl, by decide⟩ (show m 193 (1) = (g : Int) from by rw [IP_c hi 193 (by decide) (by decide)]; exact hg) ?_
    refine gx_ic (P := (g : Int) < (h : Int)) r_195_160 (rfl) (fun h160 => ?_) (fun h160 => ?_)
    · have hgh : h = g + 1 := by omega
      rw [hgh]
      exact hout n _ _ m hi hn (by omega)
    · refine gx_st (L' := [(2, 192), (0, (s : Int)), (0, (p : Int)), (0, (h : Int)), x, z]) (S' := [(0, 1)]) r_195_163 rfl rfl rfl ?_
      refine gx_st (L' := [(2, 192), (0, (s : Int)), (0, (p : Int)), (0, (h : Int)), (0, 1), z]) (S' := []) r_195_164 rfl rfl rfl ?_
      refine gx_st (L' := [(2, 192), (0, (s : Int)), (0, (p : Int)), (0, (h : Int)), (0, 1), z]) (S' := [(0, 0)]) r_195_166 rfl rfl rfl ?_
      refine gx_st (L' := [(2, 192), (0, (s : Int)), (0, (p : Int)), (0, (h : Int)), (0, 1), (0, 0)]) (S' := []) r_195_167 rfl rfl rfl ?_
      have hv2 : ∀ i : Nat, i < d → 0 ≤ m 211 (60 * s + 2 * i) ∧ m 211 (60 * s + 2 * i) ≤ m 193 5 - 1 := fun i hi2 => by rw [IP_c hi 211 (by decide) (by decide), IP_c hi 193 (by decide) (by decide)]; exact hv i hi2
      have hc2 : m 209 s = (c : Int) := by rw [IP_c hi 209 (by decide) (by decide)]; exact hc
      refine fits_l (m0 := m0) hT hs (h := h) (by omega) hd hc60 m hc2 (gb_193_5 hm).2 (fun j y => ?_) (d + 1) 0 1 (by omega) hm hv2 (by omega)
      refine gx_st (L' := [(2, 192), (0, (s : Int)), (0, (p : Int)), (0, (h : Int)), (0, y), (0, 2 * (j : Int))]) (S' := [(0, y)]) r_195_228 rfl rfl rfl ?_
      refine gx_i0 (P := ¬ y = 0) r_195_230 (rfl) (fun h230 => ?_) (fun h230 => ?_)
      · refine gx_st (L' := [(2, 192), (0, (s : Int)), (0, (p : Int)), (0, (h : Int)), (0, y), (0, 2 * (j : Int))]) (S' := [(2, 192)]) r_195_236 rfl rfl rfl ?_
        refine gx_gf (x := 207) 2 r_195_237 rfl (tk_192 hT) ⟨by decide, rfl, by decide, by decide⟩ rfl (fun _ => by decide) (pr_192_32 hm) ?_
        refine gx_st (L' := [(2, 192), (0, (s : Int)), (0, (p : Int)), (0, (h : Int)), (0, y), (0, 2 * (j : Int))]) (S' := [(2, 192), (2, 207)]) r_195_240 rfl rfl rfl ?_
        refine gx_gf (x := (n : Int)) 0 r_195_241 rfl (tk_192 hT) ⟨by decide, rfl, by decide, by decide⟩ rfl (fun z => absurd z (by decide)) (hn) ?_
        refine gx_st (L' := [(2, 192), (0, (s : Int)), (0, (p : Int)), (0, (h : Int)), (0, y), (0, 2 * (j : Int))]) (S' := [(0, 10), (0, (n : Int)), (2, 207)]) r_195_244 rfl rfl rfl ?_
        refine gx_st (L' := [(2, 192), (0, (s : Int)), (0, (p : Int)), (0, (h : Int)), (0, y), (0, 2 * (j : Int))]) (S' := [(0, (h : Int)), (0, 10), (0, (n : Int)), (2, 207)]) r_195_246 rfl rfl rfl ?_
        refine gx_ar (L' := [(2, 192), (0, (s : Int)), (0, (p : Int)), (0, (h : Int)), (0, y), (0, 2 * (j : Int))]) (S' := [(0, (n : Int)), (2, 207)]) (t := 0) (e := w32 (10 * (h : Int))) (z := 10 * (h : Int)) r_195_247 rfl rfl rfl (w32_eq (by omega) (by omega) (by omega)) ?_
        refine gx_st (L' := [(2, 192), (0, (s : Int)), (0, (p : Int)), (0, (h : Int)), (0, y), (0, 2 * (j : Int))]) (S' := [(0, (p : Int)), (0, 10 * (h : Int)), (0, (n : Int)), (2, 207)]) r_195_248 rfl rfl rfl ?_
        refine gx_ar (L' := [(2, 192), (0, (s : Int)), (0, (p : Int)), (0, (h : Int)), (0, y), (0, 2 * (j : Int))]) (S' := [(0, (n : Int)), (2, 207)]) (t := 0) (e := w32 ((10 * (h : Int)) + (p : Int))) (z := 10 * (h : Int) + (p : Int)) r_195_249 rfl rfl rfl (w32_eq (by omega) (by omega) (by omega)) ?_
        obtain ⟨m1, e_m1⟩ : ∃ z, z = nu_up m 207 (n) (10 * (h : Int) + (p : Int)) := ⟨_, rfl⟩
        refine gx_is (n := n) (x := 10 * (h : Int) + (p : Int)) r_195_250 rfl (by decide) (tk_207 hT) (by omega) ⟨rfl, by omega⟩ e_m1.symm ?_
        refine gx_st (L' := [(2, 192), (0, (s : Int)), (0, (p : Int)), (0, (h : Int)), (0, y), (0, 2 * (j : Int))]) (S' := [(0, 0)]) r_195_251 rfl rfl rfl ?_
        refine gx_st (L' := [(2, 192), (0, (s : Int)), (0, (p : Int)), (0, (h : Int)), (0, y), (0, 0)]) (S' := []) r_195_252 rfl rfl rfl ?_
        have i_m1 : IP m0 m1 := by rw [e_m1]; exact IP_pair hi (by omega) (by omega)
        refine left_l hT (s := s) (p := p) (h := h) (n := n) (y := y) (by omega) (by omega) (fun p1 i_p1 n_p1 => ?_) 6 0 m1 (by omega) i_m1 (by omega) (by rw [e_m1, nu_no (by decide)]; exact hn)
        refine gx_st (L' := [(2, 192), (0, (s : Int)), (0, (p : Int)), (0, (h : Int)), (0, y), (0, 5)]) (S' := [(2, 192)]) r_195_290 rfl rfl rfl ?_
        refine gx_st (L' := [(2, 192), (0, (s : Int)), (0, (p : Int)), (0, (h : Int)), (0, y), (0, 5)]) (S' := [(2, 192), (2, 192)]) r_195_291 rfl rfl rfl ?_
        refine gx_gf (x := (n : Int)) 0 r_195_292 rfl (tk_192 hT) ⟨by decide, rfl, by decide, by decide⟩ rfl (fun z => absurd z (by decide)) (n_p1) ?_
        refine gx_st (L' := [(2, 192), (0, (s : Int)), (0, (p : Int)), (0, (h : Int)), (0, y), (0, 5)]) (S' := [(0, 1), (0, (n : Int)), (2, 192)]) r_195_295 rfl rfl rfl ?_
        refine gx_ar (L' := [(2, 192), (0, (s : Int)), (0, (p : Int)), (0, (h : Int)), (0, y), (0, 5)]) (S' := [(2, 192)]) (t := 0) (e := w32 ((n : Int) + 1)) (z := (n : Int) + 1) r_195_296 rfl rfl rfl (w32_eq (by omega) (by omega) (by omega)) ?_
        obtain ⟨m2, e_m2⟩ : ∃ z, z = nu_up p1 192 34 ((n : Int) + 1) := ⟨_, rfl⟩
        refine gx_pf (x := (n : Int) + 1) 0 r_195_297 rfl (tk_192 hT) ⟨by decide, rfl, by decide, by decide⟩ rfl (fun z => absurd z (by decide)) (fun z => absurd z (by decide)) e_m2.symm ?_
        refine gx_li (z := (h : Int) + 1) (L' := [(2, 192), (0, (s : Int)), (0, (p : Int)), (0, (h : Int) + 1), (0, y), (0, 5)]) r_195_300 rfl (w32_eq (by omega) (by omega) (by omega)) rfl ?_
        refine gx_st (L' := [(2, 192), (0, (s : Int)), (0, (p : Int)), (0, (h : Int) + 1), (0, y), (0, 5)]) (S' := []) r_195_303 rfl rfl rfl ?_
        rw [show (h : Int) + 1 = ((h + 1 : Nat) : Int) from rfl]
        exact ih (h + 1) (n + 1) _ _ m2 (by omega) (by rw [e_m2]; exact IP_many i_p1 (by omega) (by omega)) (by rw [e_m2, nu_at]; omega) (by omega) (by omega)
      · have h230 := Decidable.not_not.mp h230
        refine gx_st (L' := [(2, 192), (0, (s : Int)), (0, (p : Int)), (0, (h : Int)), (0, y), (0, 2 * (j : Int))]) (S' := []) r_195_233 rfl rfl rfl ?_
        refine gx_li (z := (h : Int) + 1) (L' := [(2, 192), (0, (s : Int)), (0, (p : Int)), (0, (h : Int) + 1), (0, y), (0, 2 * (j : Int))]) r_195_300 rfl (w32_eq (by omega) (by omega) (by omega)) rfl ?_
        refine gx_st (L' := [(2, 192), (0, (s : Int)), (0, (p : Int)), (0, (h : Int) + 1), (0, y), (0, 2 * (j : Int))]) (S' := []) r_195_303 rfl rfl rfl ?_
        rw [show (h : Int) + 1 = ((h + 1 : Nat) : Int) from rfl]
        exact ih (h + 1) n _ _ m (by omega) hi hn (by omega) (by omega)
theorem places_l {T : List Kd} {m0 : Mm} {Q : AV → Mm → Prop} (hT : TT T) (h136 : ConH T cn_136) {s c d g b q : Nat} (hs : s < 4) (hd : c = 2 * d) (hc60 : c ≤ 60) (hc : m0 209 s = (c : Int)) (hv : ∀ i : Nat, i < d → 0 ≤ m0 211 (60 * s + 2 * i) ∧ m0 211 (60 * s + 2 * i) ≤ m0 193 5 - 1) (hg : m0 193 1 = (g : Int)) (hg12 : g ≤ 12) (hb : m0 193 7 = (b : Int)) (hq : m0 193 0 = (q : Int)) (hq7 : q ≤ 7) (hout : ∀ m, IP m0 m → Q (0, 0) m) : ∀ (N : Nat) (p : Nat) (n : Nat) (u : AV) (x : AV) (z : AV) (m : Mm), q - p < N → IP m0 m → m 192 34 = (n : Int) → n ≤ 13 * p → p ≤ q → GX T 12 195 107 [(2, 192), (0, (s : Int)), (0, (p : Int)), u, x, z] [] m Q := by
  intro N
  induction N with
  | zero => intro p n u x z m hN; exact absurd hN (Nat.not_lt_zero _)
  | succ N ih =>
    intro p n u x z m hN hi hn hn2 hp
    have hm := hi.1
    refine gx_st (L' := [(2, 192), (0, (s : Int)), (0, (p : Int)), u, x, z]) (S' := [(0, (p : Int))]) r_195_107 rfl rfl rfl ?_
    refine gx_st (L' := [(2, 192), (0, (s : Int)), (0, (p : Int)), u, x, z]) (S' := [(2, 192), (0, (p : Int))]) r_195_108 rfl rfl rfl ?_
    refine gx_gf (x := 193) 2 r_195_109 rfl (tk_192 hT) ⟨by decide, rfl, by decide, by decide⟩ rfl (fun _ => by decide) (pr_192_1 hm) ?_
    refine gx_st (L' := [(2, 192), (0, (s : Int)), (0, (p : Int)), u, x, z]) (S' := [(0, 0), (2, 193), (0, (p : Int))]) r_195_112 rfl rfl rfl ?_
    refine gx_ia (n := 0) (x := (q : Int)) r_195_113 rfl (tk_193 hT) (rfl) ⟨rfl, by decide⟩ (show m 193 (0) = (q : Int) from by rw [IP_c hi 193 (by decide) (by decide)]; exact hq) ?_
    refine gx_ic (P := (q : Int) ≤ (p : Int)) r_195_114 (rfl) (fun h114 => ?_) (fun h114 => ?_)
    · refine gx_st (L' := [(2, 192), (0, (s : Int)), (0, (p : Int)), u, x, z]) (S' := [(0, 0)]) r_195_312 rfl rfl rfl ?_
      exact gx_rt r_195_313 rfl rfl (hout m hi)
    · refine gx_st (L' := [(2, 192), (0, (s : Int)), (0, (p : Int)), u, x, z]) (S' := [(2, 192)]) r_195_117 rfl rfl rfl ?_
      refine gx_st (L' := [(2, 192), (0, (s : Int)), (0, (p : Int)), u, x, z]) (S' := [(2, 192), (2, 192)]) r_195_118 rfl rfl rfl ?_
      refine gx_gf (x := 193) 2 r_195_119 rfl (tk_192 hT) ⟨by decide, rfl, by decide, by decide⟩ rfl (fun _ => by decide) (pr_192_1 hm) ?_
      refine gx_st (L' := [(2, 192), (0, (s : Int)), (0, (p : Int)), u, x, z]) (S' := [(0, 7), (2, 193), (2, 192)]) r_195_122 rfl rfl rfl ?_
      refine gx_ia (n := 7) (x := (b : Int)) r_195_124 rfl (tk_193 hT) (rfl) ⟨rfl, by decide⟩ (show m 193 (7) = (b : Int) from by rw [IP_c hi 193 (by decide) (by decide)]; exact hb) ?_
      refine gx_i0 (P := (b : Int) ≤ 0) r_195_125 (rfl) (fun h125 => ?_) (fun h125 => ?_)
      · refine gx_st (L' := [(2, 192), (0, (s : Int)), (0, (p : Int)), u, x, z]) (S' := [(0, (-1)), (2, 192)]) r_195_132 rfl rfl rfl ?_
        refine gx_st (L' := [(2, 192), (0, (s : Int)), (0, (p : Int)), u, x, z]) (S' := [(2, 192), (0, (-1)), (2, 192)]) r_195_133 rfl rfl rfl ?_
        refine gx_gf (x := 193) 2 r_195_134 rfl (tk_192 hT) ⟨by decide, rfl, by decide, by decide⟩ rfl (fun _ => by decide) (pr_192_1 hm) ?_
        refine gx_st (L' := [(2, 192), (0, (s : Int)), (0, (p : Int)), u, x, z]) (S' := [(0, 7), (2, 193), (0, (-1)), (2, 192)]) r_195_137 rfl rfl rfl ?_
        refine gx_ia (n := 7) (x := (b : Int)) r_195_139 rfl (tk_193 hT) (rfl) ⟨rfl, by decide⟩ (show m 193 (7) = (b : Int) from by rw [IP_c hi 193 (by decide) (by decide)]; exact hb) ?_
        refine gx_i0 (P := (b : Int) ≤ 0) r_195_140 (rfl) (fun h140 => ?_) (fun h140 => ?_)
        · refine gx_st (L' := [(2, 192), (0, (s : Int)), (0, (p : Int)), u, x, z]) (S' := [(0, (-1)), (0, (-1)), (2, 192)]) r_195_147 rfl rfl rfl ?_
          refine gx_cv (nx := 151) (S2 := []) (x_144 hT h136 hm hi.2.1 hi.2.2.1 (x := (-1)) (y := (-1)) (by omega) (by omega) (by omega) (by omega) (by omega)) r_195_148 rfl rfl rfl rfl rfl (rcv_v rfl (tk_192 hT) (by decide) rfl (by decide)) rfl (by decide) rfl (fun n148 q148 => ?_)
          have i_n148 : IP m0 n148 := ⟨q148.1, q148.2.1, q148.2.2.2, Fr_tr hi.2.2.2 (Fr_sub q148.2.2.1 (by decide))⟩
          have n_n148 : n148 192 34 = (n : Int) := (q148.2.2.1 192 34 rfl).trans hn
          refine gx_st (L' := [(2, 192), (0, (s : Int)), (0, (p : Int)), u, x, z]) (S' := [(0, 0)]) r_195_151 rfl rfl rfl ?_
          refine gx_st (L' := [(2, 192), (0, (s : Int)), (0, (p : Int)), (0, 0), x, z]) (S' := []) r_195_152 rfl rfl rfl ?_
          refine hours_l hT hs (p := p) (by omega) hd hc60 hc hv hg hg12 (fun n2 x2 z2 m2 i2 h2 b2 => ?_) (g + 2) 0 n _ _ n148 (by omega) i_n148 n_n148 (by omega) (by omega)
          refine gx_li (z := ((p + 1 : Nat) : Int)) (L' := [(2, 192), (0, (s : Int)), (0, ((p + 1 : Nat) : Int)), (0, ((g + 1 : Nat) : Int)), x2, z2]) r_195_306 rfl (w32_eq (by omega) (by omega) (by omega)) rfl ?_
          refine gx_st (L' := [(2, 192), (0, (s : Int)), (0, ((p + 1 : Nat) : Int)), (0, ((g + 1 : Nat) : Int)), x2, z2]) (S' := []) r_195_309 rfl rfl rfl ?_
          exact ih (p + 1) n2 _ _ _ m2 (by omega) i2 h2 b2 (by omega)
        · refine gx_st (L' := [(2, 192), (0, (s : Int)), (0, (p : Int)), u, x, z]) (S' := [(0, 0), (0, (-1)), (2, 192)]) r_195_143 rfl rfl rfl ?_
          refine gx_st (L' := [(2, 192), (0, (s : Int)), (0, (p : Int)), u, x, z]) (S' := [(0, 0), (0, (-1)), (2, 192)]) r_195_144 rfl rfl rfl ?_
          refine gx_cv (nx := 151) (S2 := []) (x_144 hT h136 hm hi.2.1 hi.2.2.1 (x := (-1)) (y := 0) (by omega) (by omega) (by omega) (by omega) (by omega)) r_195_148 rfl rfl rfl rfl rfl (rcv_v rfl (tk_192 hT) (by decide) rfl (by decide)) rfl (by decide) rfl (fun n148 q148 => ?_)
          have i_n148 : IP m0 n148 := ⟨q148.1, q148.2.1, q148.2.2.2, Fr_tr hi.2.2.2 (Fr_sub q148.2.2.1 (by decide))⟩
          have n_n148 : n148 192 34 = (n : Int) := (q148.2.2.1 192 34 rfl).trans hn
          refine gx_st (L' := [(2, 192), (0, (s : Int)), (0, (p : Int)), u, x, z]) (S' := [(0, 0)]) r_195_151 rfl rfl rfl ?_
          refine gx_st (L' := [(2, 192), (0, (s : Int)), (0, (p : Int)), (0, 0), x, z]) (S' := []) r_195_152 rfl rfl rfl ?_
          refine hours_l hT hs (p := p) (by omega) hd hc60 hc hv hg hg12 (fun n2 x2 z2 m2 i2 h2 b2 => ?_) (g + 2) 0 n _ _ n148 (by omega) i_n148 n_n148 (by omega) (by omega)
          refine gx_li (z := ((p + 1 : Nat) : Int)) (L' := [(2, 192), (0, (s : Int)), (0, ((p + 1 : Nat) : Int)), (0, ((g + 1 : Nat) : Int)), x2, z2]) r_195_306 rfl (w32_eq (by omega) (by omega) (by omega)) rfl ?_
          refine gx_st (L' := [(2, 192), (0, (s : Int)), (0, ((p + 1 : Nat) : Int)), (0, ((g + 1 : Nat) : Int)), x2, z2]) (S' := []) r_195_309 rfl rfl rfl ?_
          exact ih (p + 1) n2 _ _ _ m2 (by omega) i2 h2 b2 (by omega)
      · refine gx_st (L' := [(2, 192), (0, (s : Int)), (0, (p : Int)), u, x, z]) (S' := [(0, (p : Int)), (2, 192)]) r_195_128 rfl rfl rfl ?_
        refine gx_st (L' := [(2, 192), (0, (s : Int)), (0, (p : Int)), u, x, z]) (S' := [(0, (p : Int)), (2, 192)]) r_195_129 rfl rfl rfl ?_
        refine gx_st (L' := [(2, 192), (0, (s : Int)), (0, (p : Int)), u, x, z]) (S' := [(2, 192), (0, (p : Int)), (2, 192)]) r_195_133 rfl rfl rfl ?_
        refine gx_gf (x := 193) 2 r_195_134 rfl (tk_192 hT) ⟨by decide, rfl, by decide, by decide⟩ rfl (fun _ => by decide) (pr_192_1 hm) ?_
        refine gx_st (L' := [(2, 192), (0, (s : Int)), (0, (p : Int)), u, x, z]) (S' := [(0, 7), (2, 193), (0, (p : Int)), (2, 192)]) r_195_137 rfl rfl rfl ?_
        refine gx_ia (n := 7) (x := (b : Int)) r_195_139 rfl (tk_193 hT) (rfl) ⟨rfl, by decide⟩ (show m 193 (7) = (b : Int) from by rw [IP_c hi 193 (by decide) (by decide)]; exact hb) ?_
        refine gx_i0 (P := (b : Int) ≤ 0) r_195_140 (rfl) (fun h140 => ?_) (fun h140 => ?_)
        · refine gx_st (L' := [(2, 192), (0, (s : Int)), (0, (p : Int)), u, x, z]) (S' := [(0, (-1)), (0, (p : Int)), (2, 192)]) r_195_147 rfl rfl rfl ?_
          refine gx_cv (nx := 151) (S2 := []) (x_144 hT h136 hm hi.2.1 hi.2.2.1 (x := (p : Int)) (y := (-1)) (by omega) (by omega) (by omega) (by omega) (by omega)) r_195_148 rfl rfl rfl rfl rfl (rcv_v rfl (tk_192 hT) (by decide) rfl (by decide)) rfl (by decide) rfl (fun n148 q148 => ?_)
          have i_n148 : IP m0 n148 := ⟨q148.1, q148.2.1, q148.2.2.2, Fr_tr hi.2.2.2 (Fr_sub q148.2.2.1 (by decide))⟩
          have n_n148 : n148 192 34 = (n : Int) := (q148.2.2.1 192 34 rfl).trans hn
          refine gx_st (L' := [(2, 192), (0, (s : Int)), (0, (p : Int)), u, x, z]) (S' := [(0, 0)]) r_195_151 rfl rfl rfl ?_
          refine gx_st (L' := [(2, 192), (0, (s : Int)), (0, (p : Int)), (0, 0), x, z]) (S' := []) r_195_152 rfl rfl rfl ?_
          refine hours_l hT hs (p := p) (by omega) hd hc60 hc hv hg hg12 (fun n2 x2 z2 m2 i2 h2 b2 => ?_) (g + 2) 0 n _ _ n148 (by omega) i_n148 n_n148 (by omega) (by omega)
          refine gx_li (z := ((p + 1 : Nat) : Int)) (L' := [(2, 192), (0, (s : Int)), (0, ((p + 1 : Nat) : Int)), (0, ((g + 1 : Nat) : Int)), x2, z2]) r_195_306 rfl (w32_eq (by omega) (by omega) (by omega)) rfl ?_
          refine gx_st (L' := [(2, 192), (0, (s : Int)), (0, ((p + 1 : Nat) : Int)), (0, ((g + 1 : Nat) : Int)), x2, z2]) (S' := []) r_195_309 rfl rfl rfl ?_
          exact ih (p + 1) n2 _ _ _ m2 (by omega) i2 h2 b2 (by omega)
        · refine gx_st (L' := [(2, 192), (0, (s : Int)), (0, (p : Int)), u, x, z]) (S' := [(0, 0), (0, (p : Int)), (2, 192)]) r_195_143 rfl rfl rfl ?_
          refine gx_st (L' := [(2, 192), (0, (s : Int)), (0, (p : Int)), u, x, z]) (S' := [(0, 0), (0, (p : Int)), (2, 192)]) r_195_144 rfl rfl rfl ?_
          refine gx_cv (nx := 151) (S2 := []) (x_144 hT h136 hm hi.2.1 hi.2.2.1 (x := (p : Int)) (y := 0) (by omega) (by omega) (by omega) (by omega) (by omega)) r_195_148 rfl rfl rfl rfl rfl (rcv_v rfl (tk_192 hT) (by decide) rfl (by decide)) rfl (by decide) rfl (fun n148 q148 => ?_)
          have i_n148 : IP m0 n148 := ⟨q148.1, q148.2.1, q148.2.2.2, Fr_tr hi.2.2.2 (Fr_sub q148.2.2.1 (by decide))⟩
          have n_n148 : n148 192 34 = (n : Int) := (q148.2.2.1 192 34 rfl).trans hn
          refine gx_st (L' := [(2, 192), (0, (s : Int)), (0, (p : Int)), u, x, z]) (S' := [(0, 0)]) r_195_151 rfl rfl rfl ?_
          refine gx_st (L' := [(2, 192), (0, (s : Int)), (0, (p : Int)), (0, 0), x, z]) (S' := []) r_195_152 rfl rfl rfl ?_
          refine hours_l hT hs (p := p) (by omega) hd hc60 hc hv hg hg12 (fun n2 x2 z2 m2 i2 h2 b2 => ?_) (g + 2) 0 n _ _ n148 (by omega) i_n148 n_n148 (by omega) (by omega)
          refine gx_li (z := ((p + 1 : Nat) : Int)) (L' := [(2, 192), (0, (s : Int)), (0, ((p + 1 : Nat) : Int)), (0, ((g + 1 : Nat) : Int)), x2, z2]) r_195_306 rfl (w32_eq (by omega) (by omega) (by omega)) rfl ?_
          refine gx_st (L' := [(2, 192), (0, (s : Int)), (0, ((p + 1 : Nat) : Int)), (0, ((g + 1 : Nat) : Int)), x2, z2]) (S' := []) r_195_309 rfl rfl rfl ?_
          exact ih (p + 1) n2 _ _ _ m2 (by omega) i2 h2 b2 (by omega)
theorem nums_l {T : List Kd} {m0 : Mm} {Q : AV → Mm → Prop} (hT : TT T) {s c d : Nat} (hs : s < 4) (hd : c = 2 * d) (hc60 : c ≤ 60) (m : Mm) (hc : m 209 s = (c : Int)) (hno : Q (0, -2) m) (hout : (∀ i : Nat, i < d → 0 ≤ m 211 (60 * s + 2 * i) ∧ m 211 (60 * s + 2 * i) ≤ m 193 5 - 1) → GX T 12 195 96 [(2, 192), (0, (s : Int)), (0, 2 * (d : Int)), (9, 0), (9, 0), (9, 0)] [] m Q) : ∀ (N : Nat) (j : Nat), d - j < N → Gam m → j ≤ d → (∀ i : Nat, i < j → 0 ≤ m 211 (60 * s + 2 * i) ∧ m 211 (60 * s + 2 * i) ≤ m 193 5 - 1) → GX T 12 195 46 [(2, 192), (0, (s : Int)), (0, 2 * (j : Int)), (9, 0), (9, 0), (9, 0)] [] m Q := by
  intro N
  induction N with
  | zero => intro j hN; exact absurd hN (Nat.not_lt_zero _)
  | succ N ih =>
    intro j hN hm hj hv
    have b5_ := gb_193_5 hm
    refine gx_st (L' := [(2, 192), (0, (s : Int)), (0, 2 * (j : Int)), (9, 0), (9, 0), (9, 0)]) (S' := [(0, 2 * (j : Int))]) r_195_46 rfl rfl rfl ?_
    refine gx_st (L' := [(2, 192), (0, (s : Int)), (0, 2 * (j : Int)), (9, 0), (9, 0), (9, 0)]) (S' := [(2, 192), (0, 2 * (j : Int))]) r_195_47 rfl rfl rfl ?_
    refine gx_gf (x := 209) 2 r_195_48 rfl (tk_192 hT) ⟨by decide, rfl, by decide, by decide⟩ rfl (fun _ => by decide) (pr_192_37 hm) ?_
    refine gx_st (L' := [(2, 192), (0, (s : Int)), (0, 2 * (j : Int)), (9, 0), (9, 0), (9, 0)]) (S' := [(0, (s : Int)), (2, 209), (0, 2 * (j : Int))]) r_195_51 rfl rfl rfl ?_
    refine gx_ia (n := s) (x := (c : Int)) r_195_52 rfl (tk_209 hT) (by omega) ⟨rfl, by omega⟩ (hc) ?_
    refine gx_ic (P := (c : Int) ≤ 2 * (j : Int)) r_195_53 (rfl) (fun h53 => ?_) (fun h53 => ?_)
    · have hjd : j = d := by omega
      rw [hjd] at hv ⊢
      exact hout hv
    · refine gx_st (L' := [(2, 192), (0, (s : Int)), (0, 2 * (j : Int)), (9, 0), (9, 0), (9, 0)]) (S' := [(2, 192)]) r_195_56 rfl rfl rfl ?_
      refine gx_st (L' := [(2, 192), (0, (s : Int)), (0, 2 * (j : Int)), (9, 0), (9, 0), (9, 0)]) (S' := [(2, 192), (2, 192)]) r_195_57 rfl rfl rfl ?_
      refine gx_st (L' := [(2, 192), (0, (s : Int)), (0, 2 * (j : Int)), (9, 0), (9, 0), (9, 0)]) (S' := [(0, (s : Int)), (2, 192), (2, 192)]) r_195_58 rfl rfl rfl ?_
      refine gx_st (L' := [(2, 192), (0, (s : Int)), (0, 2 * (j : Int)), (9, 0), (9, 0), (9, 0)]) (S' := [(0, 2 * (j : Int)), (0, (s : Int)), (2, 192), (2, 192)]) r_195_59 rfl rfl rfl ?_
      refine gx_cl (nx := 63) (S2 := [(2, 192)]) (x_194 hT hm (s := s) (i := 2 * j) hs (by omega)) r_195_60 rfl rfl rfl rfl rfl (rcv_v rfl (tk_192 hT) (by decide) rfl (by decide)) rfl (by decide) rfl (fun x60 n60 q60 => ?_)
      obtain ⟨e_x60, z_x60⟩ := q60
      obtain rfl := z_x60.symm
      have b_x60 := gb_211 hm (i := 60 * s + (2 * j)) (by omega)
      rw [← e_x60] at b_x60
      show GX T 12 195 63 [(2, 192), (0, (s : Int)), (0, 2 * (j : Int)), (9, 0), (9, 0), (9, 0)] [(1, x60), (2, 192)] m Q
      refine gx_ci (nx := 66) (S2 := []) (x_94 hT hm x60) r_195_63 rfl rfl rfl rfl rfl (rcv_v rfl (tk_192 hT) (by decide) rfl (by decide)) rfl (by decide) rfl (fun x63 n63 q63 => ?_)
      obtain rfl := q63.1.symm
      obtain rfl := q63.2.symm
      show GX T 12 195 66 [(2, 192), (0, (s : Int)), (0, 2 * (j : Int)), (9, 0), (9, 0), (9, 0)] [(0, (if 0 ≤ x60 ∧ x60 ≤ m 193 5 - 1 then 1 else 0))] m Q
      refine gx_i0 (P := ¬ (0 ≤ x60 ∧ x60 ≤ m 193 5 - 1)) r_195_66 (b01_eq) (fun h66 => ?_) (fun h66 => ?_)
      · refine gx_st (L' := [(2, 192), (0, (s : Int)), (0, 2 * (j : Int)), (9, 0), (9, 0), (9, 0)]) (S' := [(0, (-2))]) r_195_87 rfl rfl rfl ?_
        exact gx_rt r_195_89 rfl rfl hno
      · have h66 := Decidable.not_not.mp h66
        refine gx_st (L' := [(2, 192), (0, (s : Int)), (0, 2 * (j : Int)), (9, 0), (9, 0), (9, 0)]) (S' := [(2, 192)]) r_195_69 rfl rfl rfl ?_
        refine gx_st (L' := [(2, 192), (0, (s : Int)), (0, 2 * (j : Int)), (9, 0), (9, 0), (9, 0)]) (S' := [(0, (s : Int)), (2, 192)]) r_195_70 rfl rfl rfl ?_
        refine gx_st (L' := [(2, 192), (0, (s : Int)), (0, 2 * (j : Int)), (9, 0), (9, 0), (9, 0)]) (S' := [(0, 2 * (j : Int)), (0, (s : Int)), (2, 192)]) r_195_71 rfl rfl rfl ?_
        refine gx_st (L' := [(2, 192), (0, (s : Int)), (0, 2 * (j : Int)), (9, 0), (9, 0), (9, 0)]) (S' := [(0, 1), (0, 2 * (j : Int)), (0, (s : Int)), (2, 192)]) r_195_72 rfl rfl rfl ?_
        refine gx_ar (L' := [(2, 192), (0, (s : Int)), (0, 2 * (j : Int)), (9, 0), (9, 0), (9, 0)]) (S' := [(0, (s : Int)), (2, 192)]) (t := 0) (e := w32 ((2 * (j : Int)) + 1)) (z := 2 * (j : Int) + 1) r_195_73 rfl rfl rfl (w32_eq (by omega) (by omega) (by omega)) ?_
        refine gx_cl (nx := 77) (S2 := []) (x_194 hT hm (s := s) (i := 2 * j + 1) hs (by omega)) r_195_74 rfl rfl rfl rfl rfl (rcv_v rfl (tk_192 hT) (by decide) rfl (by decide)) rfl (by decide) rfl (fun x74 n74 q74 => ?_)
        obtain ⟨e_x74, z_x74⟩ := q74
        obtain rfl := z_x74.symm
        have b_x74 := gb_211 hm (i := 60 * s + (2 * j + 1)) (by omega)
        rw [← e_x74] at b_x74
        show GX T 12 195 77 [(2, 192), (0, (s : Int)), (0, 2 * (j : Int)), (9, 0), (9, 0), (9, 0)] [(1, x74)] m Q
        refine gx_st (L' := [(2, 192), (0, (s : Int)), (0, 2 * (j : Int)), (9, 0), (9, 0), (9, 0)]) (S' := [(1, 0), (1, x74)]) r_195_77 rfl rfl rfl ?_
        refine gx_st (L' := [(2, 192), (0, (s : Int)), (0, 2 * (j : Int)), (9, 0), (9, 0), (9, 0)]) (S' := [(1, 9), (1, 0), (1, x74)]) r_195_78 rfl rfl rfl ?_
        refine gx_ci (nx := 84) (S2 := []) (x_86 x74 0 9) r_195_81 rfl rfl rfl rfl rfl rfl rfl (by decide) rfl (fun x81 n81 q81 => ?_)
        obtain rfl := q81.1.symm
        obtain rfl := q81.2.symm
        show GX T 12 195 84 [(2, 192), (0, (s : Int)), (0, 2 * (j : Int)), (9, 0), (9, 0), (9, 0)] [(0, (if 0 ≤ x74 ∧ x74 ≤ 9 then 1 else 0))] m Q
        refine gx_i0 (P := 0 ≤ x74 ∧ x74 ≤ 9) r_195_84 (b01_ne) (fun h84 => ?_) (fun h84 => ?_)
        · refine gx_li (z := 2 * (j : Int) + 2) (L' := [(2, 192), (0, (s : Int)), (0, 2 * (j : Int) + 2), (9, 0), (9, 0), (9, 0)]) r_195_90 rfl (w32_eq (by omega) (by omega) (by omega)) rfl ?_
          refine gx_st (L' := [(2, 192), (0, (s : Int)), (0, 2 * (j : Int) + 2), (9, 0), (9, 0), (9, 0)]) (S' := []) r_195_93 rfl rfl rfl ?_
          rw [show 2 * (j : Int) + 2 = 2 * ((j + 1 : Nat) : Int) from by omega]
          refine ih (j + 1) (by omega) hm (by omega) (fun i hi => ?_)
          by_cases e : i = j
          · rw [e, ← e_x60]; omega
          · exact hv i (by omega)
        · refine gx_st (L' := [(2, 192), (0, (s : Int)), (0, 2 * (j : Int)), (9, 0), (9, 0), (9, 0)]) (S' := [(0, (-2))]) r_195_87 rfl rfl rfl ?_
          exact gx_rt r_195_89 rfl rfl hno
theorem x_195 {T : List Kd} {m : Mm} (hT : TT T) (h136 : ConH T cn_136) (h174 : ConX T cn_174 false true) (hm : Gam m) (hx : Ext m) (a : Int) : GX T 12 195 0 [(2, 192), (0, a), (9, 0), (9, 0), (9, 0), (9, 0)] [] m (RI (fun v m1 => -6 ≤ v ∧ v ≤ 0 ∧ Gam m1 ∧ Ext m1 ∧ Fr [90021, 90022, 90023, 90024, 90025, 90026, 90027, 90034, 97999, 98999, 99999, 100999, 101999, 102999, 105999, 106999] m m1)) := by
  refine gx_st (L' := [(2, 192), (0, a), (9, 0), (9, 0), (9, 0), (9, 0)]) (S' := [(0, a)]) r_195_0 rfl rfl rfl ?_
  refine gx_ci (nx := 4) (S2 := []) (x_226 a) r_195_1 rfl rfl rfl rfl rfl rfl rfl (by decide) rfl (fun x1 n1 q1 => ?_)
  obtain rfl := q1.1.symm
  obtain rfl := q1.2.symm
  show GX T 12 195 4 [(2, 192), (0, a), (9, 0), (9, 0), (9, 0), (9, 0)] [(0, (if 0 ≤ a ∧ a ≤ 3 then 1 else 0))] m (RI (fun v m1 => -6 ≤ v ∧ v ≤ 0 ∧ Gam m1 ∧ Ext m1 ∧ Fr [90021, 90022, 90023, 90024, 90025, 90026, 90027, 90034, 97999, 98999, 99999, 100999, 101999, 102999, 105999, 106999] m m1))
  refine gx_i0 (P := ¬ (0 ≤ a ∧ a ≤ 3)) r_195_4 (b01_eq) (fun h4 => ?_) (fun h4 => ?_)
  · refine gx_st (L' := [(2, 192), (0, a), (9, 0), (9, 0), (9, 0), (9, 0)]) (S' := [(0, (-2))]) r_195_14 rfl rfl rfl ?_
    exact gx_rt r_195_16 rfl rfl ⟨_, rfl, by omega, by omega, hm, hx, Fr_rf⟩
  · have h4 := Decidable.not_not.mp h4
    refine gx_st (L' := [(2, 192), (0, a), (9, 0), (9, 0), (9, 0), (9, 0)]) (S' := [(2, 192)]) r_195_7 rfl rfl rfl ?_
    refine gx_ci (nx := 11) (S2 := []) (x_90 hT hm) r_195_8 rfl rfl rfl rfl rfl (rcv_v rfl (tk_192 hT) (by decide) rfl (by decide)) rfl (by decide) rfl (fun x8 n8 q8 => ?_)
    obtain rfl := q8.1.symm
    obtain rfl := q8.2.symm
    show GX T 12 195 11 [(2, 192), (0, a), (9, 0), (9, 0), (9, 0), (9, 0)] [(0, (if 0 < m 193 9 then 1 else 0))] m (RI (fun v m1 => -6 ≤ v ∧ v ≤ 0 ∧ Gam m1 ∧ Ext m1 ∧ Fr [90021, 90022, 90023, 90024, 90025, 90026, 90027, 90034, 97999, 98999, 99999, 100999, 101999, 102999, 105999, 106999] m m1))
    refine gx_i0 (P := 0 < m 193 9) r_195_11 (b01_ne) (fun h11 => ?_) (fun h11 => ?_)
    · obtain ⟨s, hsa⟩ : ∃ s : Nat, a = (s : Int) := ⟨a.toNat, by omega⟩
      have hs : s < 4 := by omega
      rw [hsa]
      show GX T 12 195 17 [(2, 192), (0, (s : Int)), (9, 0), (9, 0), (9, 0), (9, 0)] [] m (RI (fun v m1 => -6 ≤ v ∧ v ≤ 0 ∧ Gam m1 ∧ Ext m1 ∧ Fr [90021, 90022, 90023, 90024, 90025, 90026, 90027, 90034, 97999, 98999, 99999, 100999, 101999, 102999, 105999, 106999] m m1))
      refine gx_st (L' := [(2, 192), (0, (s : Int)), (9, 0), (9, 0), (9, 0), (9, 0)]) (S' := [(2, 192)]) r_195_17 rfl rfl rfl ?_
      refine gx_gf (x := 209) 2 r_195_18 rfl (tk_192 hT) ⟨by decide, rfl, by decide, by decide⟩ rfl (fun _ => by decide) (pr_192_37 hm) ?_
      refine gx_st (L' := [(2, 192), (0, (s : Int)), (9, 0), (9, 0), (9, 0), (9, 0)]) (S' := [(0, (s : Int)), (2, 209)]) r_195_21 rfl rfl rfl ?_
      obtain ⟨x22, e_x22⟩ : ∃ z, z = m 209 (s) := ⟨_, rfl⟩
      have b_x22 := gb_209 hm (i := s) (by omega)
      rw [← e_x22] at b_x22
      refine gx_ia (n := s) (x := x22) r_195_22 rfl (tk_209 hT) (by omega) ⟨rfl, by omega⟩ (e_x22.symm) ?_
      refine gx_st (L' := [(2, 192), (0, (s : Int)), (9, 0), (9, 0), (9, 0), (9, 0)]) (S' := [(0, (-1)), (0, x22)]) r_195_23 rfl rfl rfl ?_
      refine gx_ic (P := ¬ x22 = (-1)) r_195_24 (rfl) (fun h24 => ?_) (fun h24 => ?_)
      · obtain ⟨c, hc⟩ : ∃ c : Nat, m 209 s = (c : Int) := ⟨(m 209 s).toNat, by omega⟩
        have bc := gb_209 hm (i := s) hs
        have hc60 : c ≤ 60 := by omega
        refine gx_st (L' := [(2, 192), (0, (s : Int)), (9, 0), (9, 0), (9, 0), (9, 0)]) (S' := [(2, 192)]) r_195_30 rfl rfl rfl ?_
        refine gx_gf (x := 209) 2 r_195_31 rfl (tk_192 hT) ⟨by decide, rfl, by decide, by decide⟩ rfl (fun _ => by decide) (pr_192_37 hm) ?_
        refine gx_st (L' := [(2, 192), (0, (s : Int)), (9, 0), (9, 0), (9, 0), (9, 0)]) (S' := [(0, (s : Int)), (2, 209)]) r_195_34 rfl rfl rfl ?_
        refine gx_ia (n := s) (x := (c : Int)) r_195_35 rfl (tk_209 hT) (by omega) ⟨rfl, by omega⟩ (hc) ?_
        refine gx_st (L' := [(2, 192), (0, (s : Int)), (9, 0), (9, 0), (9, 0), (9, 0)]) (S' := [(0, 2), (0, (c : Int))]) r_195_36 rfl rfl rfl ?_
        refine gx_rm (z := ((c : Int) % 2)) r_195_37 (by decide) (tm_eq (by omega) rfl) ?_
        refine gx_i0 (P := ((c : Int) % 2) = 0) r_195_38 (rfl) (fun h38 => ?_) (fun h38 => ?_)
        · refine gx_st (L' := [(2, 192), (0, (s : Int)), (9, 0), (9, 0), (9, 0), (9, 0)]) (S' := [(0, 0)]) r_195_44 rfl rfl rfl ?_
          refine gx_st (L' := [(2, 192), (0, (s : Int)), (0, 0), (9, 0), (9, 0), (9, 0)]) (S' := []) r_195_45 rfl rfl rfl ?_
          obtain ⟨d, hd⟩ : ∃ d : Nat, c = 2 * d := ⟨c / 2, by omega⟩
          refine nums_l (m0 := m) hT hs hd hc60 m hc ⟨_, rfl, by decide, by decide, hm, hx, Fr_rf⟩ (fun hv => ?_) (d + 1) 0 (by omega) hm (by omega) (fun i hi => absurd hi (Nat.not_lt_zero _))
          refine gx_st (L' := [(2, 192), (0, (s : Int)), (0, 2 * (d : Int)), (9, 0), (9, 0), (9, 0)]) (S' := [(2, 192)]) r_195_96 rfl rfl rfl ?_
          refine gx_cv (nx := 100) (S2 := []) (gx_xv (args := [(2, 192)]) h174 ⟨gq_o192, trivial⟩ hm hx (fun z => absurd z (by decide)) rfl) r_195_97 rfl rfl rfl rfl rfl (rcv_v rfl (tk_192 hT) (by decide) rfl (by decide)) rfl (by decide) rfl (fun n97 q97 => ?_)
          have f_n97 : Fr [90021, 90022, 90023, 90024, 90025, 90026, 90027, 90034, 97999, 98999, 99999, 100999, 101999, 102999, 105999, 106999] m n97 := Fr_sub (W' := [90021, 90022, 90023, 90024, 90025, 90026, 90027, 90034, 97999, 98999, 99999, 100999, 101999, 102999, 105999, 106999]) q97.2.2.1 (by decide)
          have s_n97 : FS n97 := q97.2.2.2 rfl
          refine gx_st (L' := [(2, 192), (0, (s : Int)), (0, 2 * (d : Int)), (9, 0), (9, 0), (9, 0)]) (S' := [(2, 192)]) r_195_100 rfl rfl rfl ?_
          refine gx_st (L' := [(2, 192), (0, (s : Int)), (0, 2 * (d : Int)), (9, 0), (9, 0), (9, 0)]) (S' := [(0, 0), (2, 192)]) r_195_101 rfl rfl rfl ?_
          obtain ⟨m1, e_m1⟩ : ∃ z, z = nu_up n97 192 34 0 := ⟨_, rfl⟩
          have h_m1 : Gam m1 := by rw [e_m1]; exact gu_192_34 q97.1 (by omega) (by omega)
          have f_m1 : Fr [90021, 90022, 90023, 90024, 90025, 90026, 90027, 90034, 97999, 98999, 99999, 100999, 101999, 102999, 105999, 106999] m m1 := Fr_tr f_n97 (by rw [e_m1]; exact Fr_up rfl)
          have x_m1 : Ext m1 := Ext_fr (W := [90034]) (by rw [e_m1]; exact Fr_up rfl) (by decide) q97.2.1
          have s_m1 : FS m1 := FS_fr (W := [90034]) (by rw [e_m1]; exact Fr_up rfl) (by decide) s_n97
          refine gx_pf (x := 0) 0 r_195_102 rfl (tk_192 hT) ⟨by decide, rfl, by decide, by decide⟩ rfl (fun z => absurd z (by decide)) (fun z => absurd z (by decide)) e_m1.symm ?_
          refine gx_st (L' := [(2, 192), (0, (s : Int)), (0, 2 * (d : Int)), (9, 0), (9, 0), (9, 0)]) (S' := [(0, 0)]) r_195_105 rfl rfl rfl ?_
          refine gx_st (L' := [(2, 192), (0, (s : Int)), (0, 0), (9, 0), (9, 0), (9, 0)]) (S' := []) r_195_106 rfl rfl rfl ?_
          obtain ⟨g, hg⟩ : ∃ g : Nat, m 193 1 = (g : Int) := ⟨(m 193 1).toNat, by have := gb_193_1 hm; omega⟩
          obtain ⟨b, hb⟩ : ∃ b : Nat, m 193 7 = (b : Int) := ⟨(m 193 7).toNat, by have := gb_193_7 hm; omega⟩
          obtain ⟨q, hq⟩ : ∃ q : Nat, m 193 0 = (q : Int) := ⟨(m 193 0).toNat, by have := gb_193_0 hm; omega⟩
          have bg := gb_193_1 hm
          have bq := gb_193_0 hm
          exact places_l hT h136 hs (d := d) (g := g) hd hc60 hc hv hg (by omega) hb hq (by omega) (fun m1 i1 => ⟨_, rfl, by decide, by decide, i1.1, i1.2.1, i1.2.2.2⟩) (q + 1) 0 0 _ _ _ m1 (by omega) ⟨h_m1, x_m1, s_m1, f_m1⟩ (by rw [e_m1, nu_at]; rfl) (by omega) (by omega)
        · refine gx_st (L' := [(2, 192), (0, (s : Int)), (9, 0), (9, 0), (9, 0), (9, 0)]) (S' := [(0, (-2))]) r_195_41 rfl rfl rfl ?_
          exact gx_rt r_195_43 rfl rfl ⟨_, rfl, by omega, by omega, hm, hx, Fr_rf⟩
      · have h24 := Decidable.not_not.mp h24
        refine gx_st (L' := [(2, 192), (0, (s : Int)), (9, 0), (9, 0), (9, 0), (9, 0)]) (S' := [(0, (-6))]) r_195_27 rfl rfl rfl ?_
        exact gx_rt r_195_29 rfl rfl ⟨_, rfl, by omega, by omega, hm, hx, Fr_rf⟩
    · refine gx_st (L' := [(2, 192), (0, a), (9, 0), (9, 0), (9, 0), (9, 0)]) (S' := [(0, (-2))]) r_195_14 rfl rfl rfl ?_
      exact gx_rt r_195_16 rfl rfl ⟨_, rfl, by omega, by omega, hm, hx, Fr_rf⟩
