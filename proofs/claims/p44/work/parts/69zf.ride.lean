/-! the class's ride exactly -/
theorem r_268_0 : row 268 0 = some (.iload_n 1, 1, 0, 0, 0, 0) := rfl
theorem r_268_1 : row 268 1 = some (.aload_n 0, 2, 0, 0, 0, 0) := rfl
theorem r_268_2 : row 268 2 = some (.getfield 21, 5, 4, 3, 0, 1208) := rfl
theorem r_268_5 : row 268 5 = some (.if_icmp .ge 7, 8, 12, 0, 0, 0) := rfl
theorem r_268_8 : row 268 8 = some (.iconst 1, 9, 1, 0, 0, 0) := rfl
theorem r_268_9 : row 268 9 = some (.goto 4, 12, 13, 0, 0, 0) := rfl
theorem r_268_12 : row 268 12 = some (.iconst 0, 13, 0, 0, 0, 0) := rfl
theorem r_268_13 : row 268 13 = some (.ireturn, 14, 0, 0, 0, 0) := rfl
theorem r_269_0 : row 269 0 = some (.iload_n 3, 1, 0, 0, 0, 0) := rfl
theorem r_269_1 : row 269 1 = some (.ifCond .ne 5, 4, 6, 0, 0, 0) := rfl
theorem r_269_4 : row 269 4 = some (.iconst 1, 5, 1, 0, 0, 0) := rfl
theorem r_269_6 : row 269 6 = some (.iload_n 3, 7, 0, 0, 0, 0) := rfl
theorem r_269_7 : row 269 7 = some (.iconst 1, 8, 1, 0, 0, 0) := rfl
theorem r_269_8 : row 269 8 = some (.if_icmp .ne 38, 11, 46, 0, 0, 0) := rfl
theorem r_269_11 : row 269 11 = some (.aload_n 1, 12, 0, 0, 0, 0) := rfl
theorem r_269_12 : row 269 12 = some (.aload_n 0, 13, 0, 0, 0, 0) := rfl
theorem r_269_13 : row 269 13 = some (.getfield 9, 16, 4, 0, 0, 1200) := rfl
theorem r_269_16 : row 269 16 = some (.iload_n 2, 17, 0, 0, 0, 0) := rfl
theorem r_269_17 : row 269 17 = some (.aload_n 0, 18, 0, 0, 0, 0) := rfl
theorem r_269_18 : row 269 18 = some (.getfield 24, 21, 4, 4, 0, 1210) := rfl
theorem r_269_21 : row 269 21 = some (.invokevirtual 63, 24, 264, 3, 10, 3200) := rfl
theorem r_269_24 : row 269 24 = some (.istore 4, 26, 0, 0, 0, 0) := rfl
theorem r_269_26 : row 269 26 = some (.aload_n 0, 27, 0, 0, 0, 0) := rfl
theorem r_269_27 : row 269 27 = some (.iload_n 2, 28, 0, 0, 0, 0) := rfl
theorem r_269_28 : row 269 28 = some (.invokevirtual 67, 31, 268, 1, 0, 3204) := rfl
theorem r_269_31 : row 269 31 = some (.ifCond .ne 13, 34, 44, 0, 0, 0) := rfl
theorem r_269_34 : row 269 34 = some (.iload 4, 36, 0, 0, 0, 0) := rfl
theorem r_269_36 : row 269 36 = some (.iconst (-1), 37, (-1), 0, 0, 0) := rfl
theorem r_269_37 : row 269 37 = some (.if_icmp .eq 7, 40, 44, 0, 0, 0) := rfl
theorem r_269_40 : row 269 40 = some (.iconst 1, 41, 1, 0, 0, 0) := rfl
theorem r_269_41 : row 269 41 = some (.goto 4, 44, 45, 0, 0, 0) := rfl
theorem r_269_44 : row 269 44 = some (.iconst 0, 45, 0, 0, 0, 0) := rfl
theorem r_269_45 : row 269 45 = some (.ireturn, 46, 0, 0, 0, 0) := rfl
theorem r_269_46 : row 269 46 = some (.aload_n 0, 47, 0, 0, 0, 0) := rfl
theorem r_269_47 : row 269 47 = some (.iload_n 2, 48, 0, 0, 0, 0) := rfl
theorem r_269_48 : row 269 48 = some (.invokevirtual 67, 51, 268, 1, 0, 3204) := rfl
theorem r_269_51 : row 269 51 = some (.ifCond .ne 5, 54, 56, 0, 0, 0) := rfl
theorem r_269_54 : row 269 54 = some (.iconst 0, 55, 0, 0, 0, 0) := rfl
theorem r_269_55 : row 269 55 = some (.ireturn, 56, 0, 0, 0, 0) := rfl
theorem r_269_56 : row 269 56 = some (.iload_n 3, 57, 0, 0, 0, 0) := rfl
theorem r_269_57 : row 269 57 = some (.iconst 2, 58, 2, 0, 0, 0) := rfl
theorem r_269_58 : row 269 58 = some (.if_icmp .ne 15, 61, 73, 0, 0, 0) := rfl
theorem r_269_61 : row 269 61 = some (.aload_n 1, 62, 0, 0, 0, 0) := rfl
theorem r_269_62 : row 269 62 = some (.getfield 71, 65, 3, 9, 10, 1106) := rfl
theorem r_269_65 : row 269 65 = some (.aload_n 0, 66, 0, 0, 0, 0) := rfl
theorem r_269_66 : row 269 66 = some (.getfield 9, 69, 4, 0, 0, 1200) := rfl
theorem r_269_69 : row 269 69 = some (.invokestatic 74, 72, 242, 2, 10, 3208) := rfl
theorem r_269_72 : row 269 72 = some (.ireturn, 73, 0, 0, 0, 0) := rfl
theorem r_269_73 : row 269 73 = some (.aload_n 1, 74, 0, 0, 0, 0) := rfl
theorem r_269_74 : row 269 74 = some (.getfield 78, 77, 3, 16, 12, 1131) := rfl
theorem r_269_77 : row 269 77 = some (.aload_n 0, 78, 0, 0, 0, 0) := rfl
theorem r_269_78 : row 269 78 = some (.getfield 9, 81, 4, 0, 0, 1200) := rfl
theorem r_269_81 : row 269 81 = some (.invokestatic 81, 84, 237, 2, 10, 3209) := rfl
theorem r_269_84 : row 269 84 = some (.iload_n 3, 85, 0, 0, 0, 0) := rfl
theorem r_269_85 : row 269 85 = some (.bipush 10, 87, 10, 0, 0, 0) := rfl
theorem r_269_87 : row 269 87 = some (.isub, 88, 0, 0, 0, 0) := rfl
theorem r_269_88 : row 269 88 = some (.invokestatic 74, 91, 242, 2, 10, 3208) := rfl
theorem r_269_91 : row 269 91 = some (.ireturn, 92, 0, 0, 0, 0) := rfl
theorem r_270_0 : row 270 0 = some (.aload_n 0, 1, 0, 0, 0, 0) := rfl
theorem r_270_1 : row 270 1 = some (.aload_n 0, 2, 0, 0, 0, 0) := rfl
theorem r_270_2 : row 270 2 = some (.getfield 15, 5, 4, 1, 0, 1203) := rfl
theorem r_270_5 : row 270 5 = some (.iconst (-1), 6, (-1), 0, 0, 0) := rfl
theorem r_270_6 : row 270 6 = some (.if_icmp .eq 21, 9, 27, 0, 0, 0) := rfl
theorem r_270_9 : row 270 9 = some (.iload_n 3, 10, 0, 0, 0, 0) := rfl
theorem r_270_10 : row 270 10 = some (.ifCond .eq 17, 13, 27, 0, 0, 0) := rfl
theorem r_270_13 : row 270 13 = some (.aload_n 0, 14, 0, 0, 0, 0) := rfl
theorem r_270_14 : row 270 14 = some (.aload_n 1, 15, 0, 0, 0, 0) := rfl
theorem r_270_15 : row 270 15 = some (.iload_n 2, 16, 0, 0, 0, 0) := rfl
theorem r_270_16 : row 270 16 = some (.iload_n 3, 17, 0, 0, 0, 0) := rfl
theorem r_270_17 : row 270 17 = some (.invokevirtual 85, 20, 269, 3, 0, 3196) := rfl
theorem r_270_20 : row 270 20 = some (.ifCond .eq 7, 23, 27, 0, 0, 0) := rfl
theorem r_270_23 : row 270 23 = some (.iconst 1, 24, 1, 0, 0, 0) := rfl
theorem r_270_24 : row 270 24 = some (.goto 4, 27, 28, 0, 0, 0) := rfl
theorem r_270_27 : row 270 27 = some (.iconst 0, 28, 0, 0, 0, 0) := rfl
theorem r_270_28 : row 270 28 = some (.putfield 33, 31, 4, 7, 3, 1216) := rfl
theorem r_270_31 : row 270 31 = some (.aload_n 0, 32, 0, 0, 0, 0) := rfl
theorem r_270_32 : row 270 32 = some (.getfield 15, 35, 4, 1, 0, 1203) := rfl
theorem r_270_35 : row 270 35 = some (.iconst (-1), 36, (-1), 0, 0, 0) := rfl
theorem r_270_36 : row 270 36 = some (.if_icmp .ne 5, 39, 41, 0, 0, 0) := rfl
theorem r_270_39 : row 270 39 = some (.iconst 0, 40, 0, 0, 0, 0) := rfl
theorem r_270_40 : row 270 40 = some (.ireturn, 41, 0, 0, 0, 0) := rfl
theorem r_270_41 : row 270 41 = some (.aload_n 0, 42, 0, 0, 0, 0) := rfl
theorem r_270_42 : row 270 42 = some (.getfield 33, 45, 4, 7, 3, 1216) := rfl
theorem r_270_45 : row 270 45 = some (.ifCond .eq 7, 48, 52, 0, 0, 0) := rfl
theorem r_270_48 : row 270 48 = some (.iload_n 3, 49, 0, 0, 0, 0) := rfl
theorem r_270_49 : row 270 49 = some (.goto 4, 52, 53, 0, 0, 0) := rfl
theorem r_270_52 : row 270 52 = some (.iconst 0, 53, 0, 0, 0, 0) := rfl
theorem r_270_53 : row 270 53 = some (.istore 4, 55, 0, 0, 0, 0) := rfl
theorem r_270_55 : row 270 55 = some (.iload 4, 57, 0, 0, 0, 0) := rfl
theorem r_270_57 : row 270 57 = some (.iconst 2, 58, 2, 0, 0, 0) := rfl
theorem r_270_58 : row 270 58 = some (.if_icmp .ne 10, 61, 68, 0, 0, 0) := rfl
theorem r_270_61 : row 270 61 = some (.aload_n 0, 62, 0, 0, 0, 0) := rfl
theorem r_270_62 : row 270 62 = some (.iconst 1, 63, 1, 0, 0, 0) := rfl
theorem r_270_63 : row 270 63 = some (.invokevirtual 89, 66, 273, 1, 0, 3210) := rfl
theorem r_270_66 : row 270 66 = some (.iconst 5, 67, 5, 0, 0, 0) := rfl
theorem r_270_67 : row 270 67 = some (.ireturn, 68, 0, 0, 0, 0) := rfl
theorem r_270_68 : row 270 68 = some (.iload 4, 70, 0, 0, 0, 0) := rfl
theorem r_270_70 : row 270 70 = some (.bipush 10, 72, 10, 0, 0, 0) := rfl
theorem r_270_72 : row 270 72 = some (.if_icmp .lt 15, 75, 87, 0, 0, 0) := rfl
theorem r_270_75 : row 270 75 = some (.aload_n 0, 76, 0, 0, 0, 0) := rfl
theorem r_270_76 : row 270 76 = some (.aload_n 1, 77, 0, 0, 0, 0) := rfl
theorem r_270_77 : row 270 77 = some (.iload 4, 79, 0, 0, 0, 0) := rfl
theorem r_270_79 : row 270 79 = some (.bipush 10, 81, 10, 0, 0, 0) := rfl
theorem r_270_81 : row 270 81 = some (.isub, 82, 0, 0, 0, 0) := rfl
theorem r_270_82 : row 270 82 = some (.invokevirtual 93, 85, 272, 2, 0, 3214) := rfl
theorem r_270_85 : row 270 85 = some (.iconst 3, 86, 3, 0, 0, 0) := rfl
theorem r_270_86 : row 270 86 = some (.ireturn, 87, 0, 0, 0, 0) := rfl
theorem r_270_87 : row 270 87 = some (.iload 4, 89, 0, 0, 0, 0) := rfl
theorem r_270_89 : row 270 89 = some (.iconst 1, 90, 1, 0, 0, 0) := rfl
theorem r_270_90 : row 270 90 = some (.if_icmp .ne 34, 93, 124, 0, 0, 0) := rfl
theorem r_270_93 : row 270 93 = some (.aload_n 0, 94, 0, 0, 0, 0) := rfl
theorem r_270_94 : row 270 94 = some (.dup, 95, 0, 0, 0, 0) := rfl
theorem r_270_95 : row 270 95 = some (.getfield 24, 98, 4, 4, 0, 1210) := rfl
theorem r_270_98 : row 270 98 = some (.iconst 1, 99, 1, 0, 0, 0) := rfl
theorem r_270_99 : row 270 99 = some (.aload_n 1, 100, 0, 0, 0, 0) := rfl
theorem r_270_100 : row 270 100 = some (.aload_n 0, 101, 0, 0, 0, 0) := rfl
theorem r_270_101 : row 270 101 = some (.getfield 9, 104, 4, 0, 0, 1200) := rfl
theorem r_270_104 : row 270 104 = some (.iload_n 2, 105, 0, 0, 0, 0) := rfl
theorem r_270_105 : row 270 105 = some (.aload_n 0, 106, 0, 0, 0, 0) := rfl
theorem r_270_106 : row 270 106 = some (.getfield 24, 109, 4, 4, 0, 1210) := rfl
theorem r_270_109 : row 270 109 = some (.invokevirtual 63, 112, 264, 3, 10, 3200) := rfl
theorem r_270_112 : row 270 112 = some (.ishl, 113, 0, 0, 0, 0) := rfl
theorem r_270_113 : row 270 113 = some (.ior, 114, 0, 0, 0, 0) := rfl
theorem r_270_114 : row 270 114 = some (.putfield 24, 117, 4, 4, 0, 1210) := rfl
theorem r_270_117 : row 270 117 = some (.aload_n 0, 118, 0, 0, 0, 0) := rfl
theorem r_270_118 : row 270 118 = some (.iload_n 2, 119, 0, 0, 0, 0) := rfl
theorem r_270_119 : row 270 119 = some (.iconst 3, 120, 3, 0, 0, 0) := rfl
theorem r_270_120 : row 270 120 = some (.iadd, 121, 0, 0, 0, 0) := rfl
theorem r_270_121 : row 270 121 = some (.putfield 21, 124, 4, 3, 0, 1208) := rfl
theorem r_270_124 : row 270 124 = some (.aload_n 0, 125, 0, 0, 0, 0) := rfl
theorem r_270_125 : row 270 125 = some (.iload_n 2, 126, 0, 0, 0, 0) := rfl
theorem r_270_126 : row 270 126 = some (.invokevirtual 67, 129, 268, 1, 0, 3204) := rfl
theorem r_270_129 : row 270 129 = some (.ifCond .eq 5, 132, 134, 0, 0, 0) := rfl
theorem r_270_132 : row 270 132 = some (.iconst 1, 133, 1, 0, 0, 0) := rfl
theorem r_270_133 : row 270 133 = some (.ireturn, 134, 0, 0, 0, 0) := rfl
theorem r_270_134 : row 270 134 = some (.aload_n 1, 135, 0, 0, 0, 0) := rfl
theorem r_270_135 : row 270 135 = some (.aload_n 0, 136, 0, 0, 0, 0) := rfl
theorem r_270_136 : row 270 136 = some (.getfield 9, 139, 4, 0, 0, 1200) := rfl
theorem r_270_139 : row 270 139 = some (.aload_n 0, 140, 0, 0, 0, 0) := rfl
theorem r_270_140 : row 270 140 = some (.getfield 41, 143, 4, 9, 2, 1220) := rfl
theorem r_270_143 : row 270 143 = some (.invokevirtual 97, 146, 261, 2, 10, 3225) := rfl
theorem r_270_146 : row 270 146 = some (.istore 5, 148, 0, 0, 0, 0) := rfl
theorem r_270_148 : row 270 148 = some (.iload 5, 150, 0, 0, 0, 0) := rfl
theorem r_270_150 : row 270 150 = some (.iconst (-1), 151, (-1), 0, 0, 0) := rfl
theorem r_270_151 : row 270 151 = some (.if_icmp .ne 5, 154, 156, 0, 0, 0) := rfl
theorem r_270_154 : row 270 154 = some (.iconst 4, 155, 4, 0, 0, 0) := rfl
theorem r_270_155 : row 270 155 = some (.ireturn, 156, 0, 0, 0, 0) := rfl
theorem r_270_156 : row 270 156 = some (.aload_n 1, 157, 0, 0, 0, 0) := rfl
theorem r_270_157 : row 270 157 = some (.getfield 101, 160, 3, 10, 12, 1110) := rfl
theorem r_270_160 : row 270 160 = some (.iload 5, 162, 0, 0, 0, 0) := rfl
theorem r_270_162 : row 270 162 = some (.invokestatic 81, 165, 237, 2, 10, 3209) := rfl
theorem r_270_165 : row 270 165 = some (.istore 6, 167, 0, 0, 0, 0) := rfl
theorem r_270_167 : row 270 167 = some (.iload 6, 169, 0, 0, 0, 0) := rfl
theorem r_270_169 : row 270 169 = some (.aload_n 0, 170, 0, 0, 0, 0) := rfl
theorem r_270_170 : row 270 170 = some (.getfield 9, 173, 4, 0, 0, 1200) := rfl
theorem r_270_173 : row 270 173 = some (.if_icmp .ne 11, 176, 184, 0, 0, 0) := rfl
theorem r_270_176 : row 270 176 = some (.aload_n 0, 177, 0, 0, 0, 0) := rfl
theorem r_270_177 : row 270 177 = some (.iload 5, 179, 0, 0, 0, 0) := rfl
theorem r_270_179 : row 270 179 = some (.invokevirtual 104, 182, 271, 1, 0, 3233) := rfl
theorem r_270_182 : row 270 182 = some (.iconst 2, 183, 2, 0, 0, 0) := rfl
theorem r_270_183 : row 270 183 = some (.ireturn, 184, 0, 0, 0, 0) := rfl
theorem r_270_184 : row 270 184 = some (.aload_n 0, 185, 0, 0, 0, 0) := rfl
theorem r_270_185 : row 270 185 = some (.aload_n 1, 186, 0, 0, 0, 0) := rfl
theorem r_270_186 : row 270 186 = some (.aload_n 1, 187, 0, 0, 0, 0) := rfl
theorem r_270_187 : row 270 187 = some (.aload_n 0, 188, 0, 0, 0, 0) := rfl
theorem r_270_188 : row 270 188 = some (.getfield 9, 191, 4, 0, 0, 1200) := rfl
theorem r_270_191 : row 270 191 = some (.iload 6, 193, 0, 0, 0, 0) := rfl
theorem r_270_193 : row 270 193 = some (.invokevirtual 107, 196, 262, 2, 10, 4001) := rfl
theorem r_270_196 : row 270 196 = some (.invokevirtual 93, 199, 272, 2, 0, 3214) := rfl
theorem r_270_199 : row 270 199 = some (.iconst 3, 200, 3, 0, 0, 0) := rfl
theorem r_270_200 : row 270 200 = some (.ireturn, 201, 0, 0, 0, 0) := rfl
theorem r_271_0 : row 271 0 = some (.aload_n 0, 1, 0, 0, 0, 0) := rfl
theorem r_271_1 : row 271 1 = some (.getfield 41, 4, 4, 9, 2, 1220) := rfl
theorem r_271_4 : row 271 4 = some (.iload_n 1, 5, 0, 0, 0, 0) := rfl
theorem r_271_5 : row 271 5 = some (.iconst (-1), 6, (-1), 0, 0, 0) := rfl
theorem r_271_6 : row 271 6 = some (.invokestatic 111, 9, 239, 3, 10, 3218) := rfl
theorem r_271_9 : row 271 9 = some (.aload_n 0, 10, 0, 0, 0, 0) := rfl
theorem r_271_10 : row 271 10 = some (.dup, 11, 0, 0, 0, 0) := rfl
theorem r_271_11 : row 271 11 = some (.getfield 18, 14, 4, 2, 0, 1206) := rfl
theorem r_271_14 : row 271 14 = some (.iconst 1, 15, 1, 0, 0, 0) := rfl
theorem r_271_15 : row 271 15 = some (.iadd, 16, 0, 0, 0, 0) := rfl
theorem r_271_16 : row 271 16 = some (.putfield 18, 19, 4, 2, 0, 1206) := rfl
theorem r_271_19 : row 271 19 = some (.aload_n 0, 20, 0, 0, 0, 0) := rfl
theorem r_271_20 : row 271 20 = some (.getfield 37, 23, 4, 8, 2, 1218) := rfl
theorem r_271_23 : row 271 23 = some (.aload_n 0, 24, 0, 0, 0, 0) := rfl
theorem r_271_24 : row 271 24 = some (.getfield 15, 27, 4, 1, 0, 1203) := rfl
theorem r_271_27 : row 271 27 = some (.aload_n 0, 28, 0, 0, 0, 0) := rfl
theorem r_271_28 : row 271 28 = some (.getfield 37, 31, 4, 8, 2, 1218) := rfl
theorem r_271_31 : row 271 31 = some (.aload_n 0, 32, 0, 0, 0, 0) := rfl
theorem r_271_32 : row 271 32 = some (.getfield 15, 35, 4, 1, 0, 1203) := rfl
theorem r_271_35 : row 271 35 = some (.invokestatic 81, 38, 237, 2, 10, 3209) := rfl
theorem r_271_38 : row 271 38 = some (.iconst 3, 39, 3, 0, 0, 0) := rfl
theorem r_271_39 : row 271 39 = some (.isub, 40, 0, 0, 0, 0) := rfl
theorem r_271_40 : row 271 40 = some (.iconst 0, 41, 0, 0, 0, 0) := rfl
theorem r_271_41 : row 271 41 = some (.invokestatic 115, 44, (-3), 2, 0, 3237) := rfl
theorem r_271_44 : row 271 44 = some (.invokestatic 120, 47, 238, 3, 10, 4000) := rfl
theorem r_271_47 : row 271 47 = some (.return_, 48, 0, 0, 0, 0) := rfl
theorem r_272_0 : row 272 0 = some (.aload_n 0, 1, 0, 0, 0, 0) := rfl
theorem r_272_1 : row 272 1 = some (.iload_n 2, 2, 0, 0, 0, 0) := rfl
theorem r_272_2 : row 272 2 = some (.putfield 9, 5, 4, 0, 0, 1200) := rfl
theorem r_272_5 : row 272 5 = some (.aload_n 0, 6, 0, 0, 0, 0) := rfl
theorem r_272_6 : row 272 6 = some (.getfield 37, 9, 4, 8, 2, 1218) := rfl
theorem r_272_9 : row 272 9 = some (.aload_n 0, 10, 0, 0, 0, 0) := rfl
theorem r_272_10 : row 272 10 = some (.getfield 15, 13, 4, 1, 0, 1203) := rfl
theorem r_272_13 : row 272 13 = some (.aload_n 0, 14, 0, 0, 0, 0) := rfl
theorem r_272_14 : row 272 14 = some (.getfield 18, 17, 4, 2, 0, 1206) := rfl
theorem r_272_17 : row 272 17 = some (.invokestatic 111, 20, 239, 3, 10, 3218) := rfl
theorem r_272_20 : row 272 20 = some (.aload_n 0, 21, 0, 0, 0, 0) := rfl
theorem r_272_21 : row 272 21 = some (.getfield 37, 24, 4, 8, 2, 1218) := rfl
theorem r_272_24 : row 272 24 = some (.aload_n 0, 25, 0, 0, 0, 0) := rfl
theorem r_272_25 : row 272 25 = some (.getfield 15, 28, 4, 1, 0, 1203) := rfl
theorem r_272_28 : row 272 28 = some (.invokestatic 81, 31, 237, 2, 10, 3209) := rfl
theorem r_272_31 : row 272 31 = some (.aload_n 1, 32, 0, 0, 0, 0) := rfl
theorem r_272_32 : row 272 32 = some (.getfield 123, 35, 3, 15, 12, 1127) := rfl
theorem r_272_35 : row 272 35 = some (.aload_n 0, 36, 0, 0, 0, 0) := rfl
theorem r_272_36 : row 272 36 = some (.getfield 15, 39, 4, 1, 0, 1203) := rfl
theorem r_272_39 : row 272 39 = some (.invokestatic 81, 42, 237, 2, 10, 3209) := rfl
theorem r_272_42 : row 272 42 = some (.if_icmp .le 47, 45, 89, 0, 0, 0) := rfl
theorem r_272_45 : row 272 45 = some (.aload_n 0, 46, 0, 0, 0, 0) := rfl
theorem r_272_46 : row 272 46 = some (.dup, 47, 0, 0, 0, 0) := rfl
theorem r_272_47 : row 272 47 = some (.getfield 27, 50, 4, 5, 0, 1212) := rfl
theorem r_272_50 : row 272 50 = some (.iconst 1, 51, 1, 0, 0, 0) := rfl
theorem r_272_51 : row 272 51 = some (.aload_n 0, 52, 0, 0, 0, 0) := rfl
theorem r_272_52 : row 272 52 = some (.getfield 15, 55, 4, 1, 0, 1203) := rfl
theorem r_272_55 : row 272 55 = some (.ishl, 56, 0, 0, 0, 0) := rfl
theorem r_272_56 : row 272 56 = some (.ior, 57, 0, 0, 0, 0) := rfl
theorem r_272_57 : row 272 57 = some (.putfield 27, 60, 4, 5, 0, 1212) := rfl
theorem r_272_60 : row 272 60 = some (.aload_n 0, 61, 0, 0, 0, 0) := rfl
theorem r_272_61 : row 272 61 = some (.aload_n 1, 62, 0, 0, 0, 0) := rfl
theorem r_272_62 : row 272 62 = some (.aload_n 0, 63, 0, 0, 0, 0) := rfl
theorem r_272_63 : row 272 63 = some (.getfield 9, 66, 4, 0, 0, 1200) := rfl
theorem r_272_66 : row 272 66 = some (.aload_n 0, 67, 0, 0, 0, 0) := rfl
theorem r_272_67 : row 272 67 = some (.getfield 27, 70, 4, 5, 0, 1212) := rfl
theorem r_272_70 : row 272 70 = some (.invokevirtual 126, 73, 263, 2, 10, 3221) := rfl
theorem r_272_73 : row 272 73 = some (.putfield 15, 76, 4, 1, 0, 1203) := rfl
theorem r_272_76 : row 272 76 = some (.aload_n 0, 77, 0, 0, 0, 0) := rfl
theorem r_272_77 : row 272 77 = some (.getfield 15, 80, 4, 1, 0, 1203) := rfl
theorem r_272_80 : row 272 80 = some (.iconst (-1), 81, (-1), 0, 0, 0) := rfl
theorem r_272_81 : row 272 81 = some (.if_icmp .ne 8, 84, 89, 0, 0, 0) := rfl
theorem r_272_84 : row 272 84 = some (.aload_n 0, 85, 0, 0, 0, 0) := rfl
theorem r_272_85 : row 272 85 = some (.iconst 0, 86, 0, 0, 0, 0) := rfl
theorem r_272_86 : row 272 86 = some (.invokevirtual 89, 89, 273, 1, 0, 3210) := rfl
theorem r_272_89 : row 272 89 = some (.return_, 90, 0, 0, 0, 0) := rfl
theorem r_273_0 : row 273 0 = some (.aload_n 0, 1, 0, 0, 0, 0) := rfl
theorem r_273_1 : row 273 1 = some (.iload_n 1, 2, 0, 0, 0, 0) := rfl
theorem r_273_2 : row 273 2 = some (.putfield 30, 5, 4, 6, 0, 1214) := rfl
theorem r_273_5 : row 273 5 = some (.aload_n 0, 6, 0, 0, 0, 0) := rfl
theorem r_273_6 : row 273 6 = some (.iconst (-1), 7, (-1), 0, 0, 0) := rfl
theorem r_273_7 : row 273 7 = some (.putfield 9, 10, 4, 0, 0, 1200) := rfl
theorem r_273_10 : row 273 10 = some (.aload_n 0, 11, 0, 0, 0, 0) := rfl
theorem r_273_11 : row 273 11 = some (.iconst (-1), 12, (-1), 0, 0, 0) := rfl
theorem r_273_12 : row 273 12 = some (.putfield 15, 15, 4, 1, 0, 1203) := rfl
theorem r_273_15 : row 273 15 = some (.return_, 16, 0, 0, 0, 0) := rfl
/-- the lengths of ways of a world -/
def WyD (w : Wd) (D : Nat → Nat → Int) : Prop := Wy (w 0) (adjW w) D
/-- the ride at r is the state s -/
def RdS (w : Wd) (m : Mm) (r : Nat) (s : Wd) : Prop := m r 0 = s 0 ∧ m r 1 = s 1 ∧ m r 2 = s 2 ∧ m r 3 = s 3 ∧ m r 4 = s 4 ∧ m r 5 = s 5 ∧ m r 6 = s 16 ∧ (∀ b : Nat, b < 5 → m (r + 1) b = s (6 + b)) ∧ ∀ t : Nat, t < 5 → (t : Int) < w 5 → m (r + 2) t = s (11 + t)
/-- nothing but the ride at r is written, of its cells the first n -/
def FrO (n r : Nat) (m m1 : Mm) : Prop := ∀ p i : Nat, ¬ (p = r ∧ i < n) → ¬ p = r + 1 → ¬ p = r + 2 → m1 p i = m p i
theorem fro_rf {n r : Nat} {m : Mm} : FrO n r m m := fun _ _ _ _ _ => rfl
theorem fro_tr {n r : Nat} {a b c : Mm} (h1 : FrO n r a b) (h2 : FrO n r b c) : FrO n r a c := fun p i x y z => (h2 p i x y z).trans (h1 p i x y z)
theorem fro_up {n k r : Nat} {a b : Mm} (h : FrO n r a b) (hk : n ≤ k) : FrO k r a b := fun p i x y z => h p i (fun q => x ⟨q.1, by omega⟩) y z
theorem fro_f {n r i : Nat} {x : Int} {a b : Mm} (h : FrO n r a b) (hi : i < n) : FrO n r a (nu_up b r i x) := fun p j u v z => by
  rw [← h p j u v z]
  by_cases e : p = r
  · rw [e]; exact nu_ne (fun q => u ⟨e, by omega⟩)
  · exact nu_no e
theorem fro_t {n r i : Nat} {x : Int} {a b : Mm} (h : FrO n r a b) : FrO n r a (nu_up b (r + 1) i x) := fun p j u v z => (nu_no v).trans (h p j u v z)
theorem fro_u {n r i : Nat} {x : Int} {a b : Mm} (h : FrO n r a b) : FrO n r a (nu_up b (r + 2) i x) := fun p j u v z => (nu_no z).trans (h p j u v z)
theorem rr_fro {n r : Nat} {a b : Mm} (h : RideR a r) (f : FrO n r a b) (hn : n ≤ 8) : RideR b r := ⟨(f r 8 (fun z => by omega) (by omega) (by omega)).trans h.1, (f r 9 (fun z => by omega) (by omega) (by omega)).trans h.2⟩
theorem wd_fro {n r o : Nat} {a b : Mm} {w : Wd} (h : WD a o w) (f : FrO n r a b) (hd : r + 3 ≤ o ∨ o + 9 ≤ r) : WD b o w := WD_eq h (fun p i p1 p2 _ => f p i (fun z => by omega) (by omega) (by omega))
theorem ir_fro {n r o : Nat} {a b : Mm} (h : IsleR a o) (f : FrO n r a b) (hd : r + 3 ≤ o ∨ o + 9 ≤ r) : IsleR b o := by
  have e : ∀ i : Nat, b o i = a o i := fun i => f o i (fun z => by omega) (by omega) (by omega)
  unfold IsleR at h ⊢
  rw [e, e, e, e, e, e, e, e]
  exact h
theorem nu_upw {m : Mm} {s : Wd} {r i j i2 j2 : Nat} {x : Int} (h : m r j = s j2) (e : j = i ↔ j2 = i2) : nu_up m r i x r j = upw s i2 x j2 := by
  by_cases c : j = i
  · rw [c, nu_at, e.mp c, upw_at]
  · rw [nu_ne c, upw_ne (fun z => c (e.mpr z))]; exact h
theorem rds_f {m : Mm} {r : Nat} {w s : Wd} (h : RdS w m r s) {i : Nat} (hi : i < 6) (x : Int) : RdS w (nu_up m r i x) r (upw s i x) := by
  obtain ⟨a0, a1, a2, a3, a4, a5, a6, a7, a8⟩ := h
  exact ⟨nu_upw a0 Iff.rfl, nu_upw a1 Iff.rfl, nu_upw a2 Iff.rfl, nu_upw a3 Iff.rfl, nu_upw a4 Iff.rfl, nu_upw a5 Iff.rfl, nu_upw a6 ⟨fun _ => by omega, fun _ => by omega⟩,
    fun b hb => by rw [nu_no (by omega), upw_ne (by omega)]; exact a7 b hb, fun t ht h5 => by rw [nu_no (by omega), upw_ne (by omega)]; exact a8 t ht h5⟩
theorem rds_k {m : Mm} {r : Nat} {w s : Wd} (h : RdS w m r s) (x : Int) : RdS w (nu_up m r 6 x) r (upw s 16 x) := by
  obtain ⟨a0, a1, a2, a3, a4, a5, a6, a7, a8⟩ := h
  refine ⟨nu_upw a0 ⟨fun _ => by omega, fun _ => by omega⟩, nu_upw a1 ⟨fun _ => by omega, fun _ => by omega⟩, nu_upw a2 ⟨fun _ => by omega, fun _ => by omega⟩, nu_upw a3 ⟨fun _ => by omega, fun _ => by omega⟩, nu_upw a4 ⟨fun _ => by omega, fun _ => by omega⟩, nu_upw a5 ⟨fun _ => by omega, fun _ => by omega⟩, nu_upw a6 ⟨fun _ => rfl, fun _ => rfl⟩,
    fun b hb => ?_, fun t ht h5 => ?_⟩
  · rw [nu_no (by omega), upw_ne (by omega)]; exact a7 b hb
  · rw [nu_no (by omega), upw_ne (by omega)]; exact a8 t ht h5
theorem rds_7 {m : Mm} {r : Nat} {w s : Wd} (h : RdS w m r s) {i : Nat} (hi : 7 ≤ i) (x : Int) : RdS w (nu_up m r i x) r s := by
  obtain ⟨a0, a1, a2, a3, a4, a5, a6, a7, a8⟩ := h
  exact ⟨(nu_ne (by omega)).trans a0, (nu_ne (by omega)).trans a1, (nu_ne (by omega)).trans a2, (nu_ne (by omega)).trans a3, (nu_ne (by omega)).trans a4, (nu_ne (by omega)).trans a5, (nu_ne (by omega)).trans a6, fun b hb => (nu_no (by omega)).trans (a7 b hb), fun t ht h5 => (nu_no (by omega)).trans (a8 t ht h5)⟩
theorem rds_t {m : Mm} {r b : Nat} {w s : Wd} (h : RdS w m r s) (hb : b < 5) (x : Int) : RdS w (nu_up m (r + 1) b x) r (upw s (6 + b) x) := by
  obtain ⟨a0, a1, a2, a3, a4, a5, a6, a7, a8⟩ := h
  refine ⟨?_, ?_, ?_, ?_, ?_, ?_, ?_, fun c hc => ?_, fun t ht h5 => ?_⟩
  · rw [nu_no (by omega), upw_ne (by omega)]; exact a0
  · rw [nu_no (by omega), upw_ne (by omega)]; exact a1
  · rw [nu_no (by omega), upw_ne (by omega)]; exact a2
  · rw [nu_no (by omega), upw_ne (by omega)]; exact a3
  · rw [nu_no (by omega), upw_ne (by omega)]; exact a4
  · rw [nu_no (by omega), upw_ne (by omega)]; exact a5
  · rw [nu_no (by omega), upw_ne (by omega)]; exact a6
  · exact nu_upw (a7 c hc) ⟨fun _ => by omega, fun _ => by omega⟩
  · rw [nu_no (by omega), upw_ne (by omega)]; exact a8 t ht h5
theorem rds_u {m : Mm} {r t2 : Nat} {w s : Wd} (h : RdS w m r s) (hb : t2 < 5) (x : Int) : RdS w (nu_up m (r + 2) t2 x) r (upw s (11 + t2) x) := by
  obtain ⟨a0, a1, a2, a3, a4, a5, a6, a7, a8⟩ := h
  refine ⟨?_, ?_, ?_, ?_, ?_, ?_, ?_, fun c hc => ?_, fun t ht h5 => ?_⟩
  · rw [nu_no (by omega), upw_ne (by omega)]; exact a0
  · rw [nu_no (by omega), upw_ne (by omega)]; exact a1
  · rw [nu_no (by omega), upw_ne (by omega)]; exact a2
  · rw [nu_no (by omega), upw_ne (by omega)]; exact a3
  · rw [nu_no (by omega), upw_ne (by omega)]; exact a4
  · rw [nu_no (by omega), upw_ne (by omega)]; exact a5
  · rw [nu_no (by omega), upw_ne (by omega)]; exact a6
  · rw [nu_no (by omega), upw_ne (by omega)]; exact a7 c hc
  · exact nu_upw (a8 t ht h5) ⟨fun _ => by omega, fun _ => by omega⟩
theorem rds_ov {m : Mm} {r : Nat} {w s : Wd} {y k : Int} (h : RdS w m r (overF (upw s 1 y) k)) : RdS w m r (overF s k) := by
  have e : overF (upw s 1 y) k = overF s k := by
    funext j
    unfold overF upw
    by_cases c : j = 1
    · rw [if_pos c, if_pos c]
    · simp only [if_neg c]
  rw [← e]; exact h
-- the world's cells in the isle
theorem wd_bear {m : Mm} {o b : Nat} {w : Wd} (h : WD m o w) (hb : (b : Int) < w 7) : m (o + 5) b = w (47 + 2 * b) ∧ m (o + 6) b = w (48 + 2 * b) := by
  obtain ⟨⟨_, _, _, _, _, _, _, _, _, _, _, _, b3, _⟩, hB, _, _⟩ := h
  exact b3 b (by have := hB.2.2.2.2.1; omega) hb
theorem wd_tree {m : Mm} {o t : Nat} {w : Wd} (h : WD m o w) (hb : (t : Int) < w 5) : m (o + 1) t = w (31 + 2 * t) ∧ m (o + 2) t = w (32 + 2 * t) := by
  obtain ⟨⟨_, _, _, _, _, _, _, _, _, _, b1, _, _, _⟩, hB, _, _⟩ := h
  exact b1 t (by have := hB.2.2.1; omega) hb
theorem wd_vine {m : Mm} {o t : Nat} {w : Wd} (h : WD m o w) (hb : (t : Int) < w 6) : m (o + 3) t = w (41 + 2 * t) ∧ m (o + 4) t = w (42 + 2 * t) := by
  obtain ⟨⟨_, _, _, _, _, _, _, _, _, _, _, b2, _, _⟩, hB, _, _⟩ := h
  exact b2 t (by have := hB.2.2.2.1; omega) hb
theorem wd_brook {m : Mm} {o : Nat} {w : Wd} (h : WD m o w) : m o 9 = w 10 := by
  obtain ⟨⟨_, _, _, _, _, _, _, _, _, a, _, _, _, _⟩, _, _, _⟩ := h
  exact a
theorem wd_way {m : Mm} {o : Nat} {w : Wd} {D : Nat → Nat → Int} (hw : WD m o w) (hD : WyD w D) {a b : Nat} (ha : (a : Int) < w 0) (hb : (b : Int) < w 0) : m (o + 8) (7 * a + b) = (if D a b < FAR then D a b else -1) ∧ 0 ≤ D a b ∧ (D a b < FAR → D a b ≤ 6) ∧ a < 7 ∧ b < 7 := by
  obtain ⟨h1, hB, hi, hp⟩ := hw
  have b0 := hB.1
  have hA := adj_ok hB
  have hD2 : Wy (((w 0).toNat : Nat) : Int) (adjW w) D := by rw [show (((w 0).toNat : Nat) : Int) = w 0 by omega]; exact hD
  exact ⟨hi D hD a b ha hb, wy_nn hD2 (by omega) (by omega), fun h => wy_small hA hD2 (by omega) (by omega) h, by omega, by omega⟩
theorem wd_one {w : Wd} {D : Nat → Nat → Int} (hD : WyD w D) {p q : Nat} (hp : p < 7) (hq : q < 7) : adjW w p q ↔ D p q = 1 := by
  constructor
  · intro h; exact hD.2.2.1 p q hp hq h
  · intro h
    have hne : ¬ p = q := fun e => by rw [e, hD.1 q hq] at h; exact absurd h (by decide)
    obtain ⟨c, c1, c2, c3⟩ := hD.2.2.2.2 p q hp hq hne (by rw [h]; decide)
    have ec : c = q := by
      by_cases e : c = q
      · exact e
      · have := hD.2.1 c q c1 hq e; omega
    rw [← ec]; exact c2
theorem wd_adj {m : Mm} {o : Nat} {w : Wd} {D : Nat → Nat → Int} (hw : WD m o w) (hD : WyD w D) {p q : Nat} (hp : p < 7) (hq : q < 7) : iand (ishr (m (o + 7) p) (q : Int)) 1 = 1 ↔ D p q = 1 := by
  obtain ⟨⟨_, _, _, _, _, _, _, _, _, _, _, _, _, b4⟩, _, _, _⟩ := hw
  obtain ⟨x, x1, x2, x3⟩ := b4 p hp
  rw [x2, bit_7 x x1 q hq, ← wd_one hD hp hq, ← x3 q hq]
  omega
theorem bw_iff {a b c : Prop} [Decidable a] [Decidable c] {y : Bool} (hy : y = true ↔ b) : (a ∧ ¬ b ∧ c) ↔ (decide a && !y && decide c) = true := by
  rw [Bool.and_eq_true, Bool.and_eq_true, decide_eq_true_eq, decide_eq_true_eq, Bool.not_eq_true', and_assoc, ← hy, Bool.not_eq_true]
theorem bs_iff {b c : Prop} [Decidable c] {y : Bool} (hy : y = true ↔ b) : (¬ b ∧ c) ↔ (!y && decide c) = true := by
  rw [Bool.and_eq_true, decide_eq_true_eq, Bool.not_eq_true', ← hy, Bool.not_eq_true]
theorem bitF_i {x : Int} {q : Nat} : bitF x q = true ↔ iand (ishr x (q : Int)) 1 = 1 := decide_eq_true_iff
-- what the searches find
theorem strong_ok (w : Wd) (pl fb : Int) : strongF w pl fb = -1 ∨ ∃ b : Nat, strongF w pl fb = (b : Int) ∧ (b : Int) < w 7 ∧ w (47 + 2 * b) = pl ∧ ¬ bitF fb b = true := by
  rcases bestF_of (fun b => !bitF fb b && decide (w (47 + 2 * b) = pl)) (fun b => - w (48 + 2 * b)) (w 7).toNat with ⟨a1, a2⟩ | ⟨i, a1, a2, a3, a4⟩
  · exact Or.inl a1
  · have a2' := (bs_iff (y := bitF fb i) (c := w (47 + 2 * i) = pl) Iff.rfl).mpr a2
    exact Or.inr ⟨i, a3, by omega, a2'.2, a2'.1⟩
theorem steer_ok (w : Wd) (D : Nat → Nat → Int) (p : Nat) (s : Wd) : steerF w D p s = -1 ∨ ∃ t : Nat, steerF w D p s = (t : Int) ∧ (t : Int) < w 5 ∧ 0 < s (11 + t) ∧ D p (w (31 + 2 * t)).toNat < FAR := by
  rcases bestF_of (fun t => decide (0 < s (11 + t)) && decide (D p (w (31 + 2 * t)).toNat < FAR)) (fun t => D p (w (31 + 2 * t)).toNat) (w 5).toNat with ⟨a1, a2⟩ | ⟨i, a1, a2, a3, a4⟩
  · exact Or.inl a1
  · have a2' : (decide (0 < s (11 + i)) && decide (D p (w (31 + 2 * i)).toNat < FAR)) = true := a2
    rw [Bool.and_eq_true, decide_eq_true_eq, decide_eq_true_eq] at a2'
    exact Or.inr ⟨i, a3, by omega, a2'.1, a2'.2⟩
theorem step_ok {w : Wd} {D : Nat → Nat → Int} (hB : WB w) (hD : WyD w D) {p g : Nat} (hp : (p : Int) < w 0) (hg : (g : Int) < w 0) (hne : ¬ p = g) (hF : D p g < FAR) : ∃ q : Nat, stepF w D p g = (q : Int) ∧ (q : Int) < w 0 ∧ D p q = 1 ∧ D q g = D p g - 1 := by
  have b0 := hB.1
  obtain ⟨c, c1, c2, c3⟩ := hD.2.2.2.2 p g (by omega) (by omega) hne hF
  have hc := (adj_ok hB).2 p c c2
  rcases firstF_of (fun q => decide (D p q = 1) && decide (D q g = D p g - 1)) (w 0).toNat with ⟨a1, a2⟩ | ⟨i, a1, a2, a3, a4⟩
  · exfalso
    apply a2 c hc.2.1
    show (decide (D p c = 1) && decide (D c g = D p g - 1)) = true
    rw [Bool.and_eq_true, decide_eq_true_eq, decide_eq_true_eq]
    exact ⟨(wd_one hD (by omega) c1).mp c2, c3⟩
  · have a2' : (decide (D p i = 1) && decide (D i g = D p g - 1)) = true := a2
    rw [Bool.and_eq_true, decide_eq_true_eq, decide_eq_true_eq] at a2'
    exact ⟨i, a3, by omega, a2'.1, a2'.2⟩
-- the cases of an hour
theorem nat_of {x : Int} {b : Nat} (h : x = (b : Int)) : x.toNat = b := by omega
theorem eat_b {s : Wd} {b t : Nat} (hb : s 1 = (b : Int)) : eatF s t = upw (upw (upw s (11 + t) (s (11 + t) - 1)) 2 (s 2 + 1)) (6 + b) (max (s (6 + b) - 3) 0) := by
  unfold eatF; rw [nat_of hb]
theorem car_lo {w s : Wd} {b : Nat} {g : Int} (hb : s 1 = (b : Int)) (h : s (6 + b) + s 2 ≤ w (48 + 2 * b)) : carF w s g = upw (upw s 0 g) (6 + b) (s (6 + b) + s 2) := by
  unfold carF
  simp only [nat_of hb]
  rw [if_neg (by omega)]
theorem car_no {w s : Wd} {b : Nat} {g : Int} (hb : s 1 = (b : Int)) (h : ¬ s (6 + b) + s 2 ≤ w (48 + 2 * b)) (hy : strongF w g (ior (s 5) (ishl 1 (b : Int))) = -1) : carF w s g = overF (upw (upw (upw s 0 g) (6 + b) (s (6 + b) + s 2)) 5 (ior (s 5) (ishl 1 (b : Int)))) 0 := by
  unfold carF
  simp only [nat_of hb]
  rw [if_pos (by omega), if_pos hy]
theorem car_ch {w s : Wd} {b : Nat} {g : Int} (hb : s 1 = (b : Int)) (h : ¬ s (6 + b) + s 2 ≤ w (48 + 2 * b)) (hy : ¬ strongF w g (ior (s 5) (ishl 1 (b : Int))) = -1) : carF w s g = upw (upw (upw (upw s 0 g) (6 + b) (s (6 + b) + s 2)) 5 (ior (s 5) (ishl 1 (b : Int)))) 1 (strongF w g (ior (s 5) (ishl 1 (b : Int)))) := by
  unfold carF
  simp only [nat_of hb]
  rw [if_pos (by omega), if_neg hy]
theorem if_iff {a b : Prop} [Decidable a] [Decidable b] (h : a ↔ b) : (if a then (1 : Int) else 0) = if b then 1 else 0 := by
  by_cases c : a
  · rw [if_pos c, if_pos (h.mp c)]
  · rw [if_neg c, if_neg (fun z => c (h.mpr z))]
theorem can_of {w s : Wd} {D : Nat → Nat → Int} {h a : Int} {p : Nat} (hb : ¬ s 1 = -1) (hp : s 0 = (p : Int)) (ha : a = 1) (h1 : ¬ h < s 3) (h2 : ¬ vineF w (p : Int) h (s 4) = -1) : canF w D h a s = true := by
  unfold canF
  rw [if_neg hb, if_neg (by omega), if_pos ha, hp, decide_eq_false h1, decide_eq_false h2]; rfl
theorem can_of0 {w s : Wd} {D : Nat → Nat → Int} {h a : Int} {p : Nat} (hb : ¬ s 1 = -1) (hp : s 0 = (p : Int)) (ha : a = 1) (h1 : h < s 3 ∨ vineF w (p : Int) h (s 4) = -1) : ¬ canF w D h a s = true := by
  unfold canF
  rw [if_neg hb, if_neg (by omega), if_pos ha, hp]
  rcases h1 with z | z
  · rw [decide_eq_true z]; intro c; rw [Bool.and_eq_true] at c; exact absurd c.1 (by decide)
  · rw [decide_eq_true z]; intro c; rw [Bool.and_eq_true] at c; exact absurd c.2 (by decide)
theorem can_so {w s : Wd} {D : Nat → Nat → Int} {h a : Int} (hb : ¬ s 1 = -1) (ha0 : ¬ a = 0) (ha : ¬ a = 1) (h1 : ¬ h < s 3) : ¬ canF w D h a s = true := by
  unfold canF
  rw [if_neg hb, if_neg ha0, if_neg ha, if_pos h1]; exact fun c => absurd c (by decide)
theorem can_th {w s : Wd} {D : Nat → Nat → Int} {h a : Int} {p : Nat} (hb : ¬ s 1 = -1) (hp : s 0 = (p : Int)) (hp7 : p < 7) (ha : a = 2) (h1 : h < s 3) : (0 ≤ (p : Int) ∧ (p : Int) < 32 ∧ iand (ishr (w 10) (p : Int)) 1 = 1) ↔ canF w D h a s = true := by
  unfold canF
  rw [if_neg hb, if_neg (by omega), if_neg (by omega), if_neg (fun z => z h1), if_pos ha, nat_of hp, bitF_i]
  exact ⟨fun z => z.2.2, fun z => ⟨by omega, by omega, z⟩⟩
theorem can_ca {m : Mm} {o : Nat} {w s : Wd} {D : Nat → Nat → Int} {h a : Int} {p : Nat} (hb : ¬ s 1 = -1) (hp : s 0 = (p : Int)) (ha : 0 ≤ a ∧ a ≤ 16) (h8 : ¬ a = 1) (h58 : ¬ a = 2) (ha0 : ¬ a = 0) (h1 : h < s 3) (hw : WD m o w) (hD : WyD w D) (hp7 : p < 7) : (0 ≤ a - 10 ∧ a - 10 < 32 ∧ iand (ishr (m (o + 7) p) (a - 10)) 1 = 1) ↔ canF w D h a s = true := by
  unfold canF
  rw [if_neg hb, if_neg ha0, if_neg h8, if_neg (fun z => z h1), if_neg h58, nat_of hp, Bool.and_eq_true, decide_eq_true_eq, decide_eq_true_eq]
  by_cases c : 10 ≤ a
  · have k := wd_adj hw hD hp7 (q := (a - 10).toNat) (by omega)
    rw [show (((a - 10).toNat : Nat) : Int) = a - 10 by omega] at k
    rw [k]
    exact ⟨fun z => ⟨c, z.2.2⟩, fun z => ⟨by omega, by omega, z.2⟩⟩
  · exact ⟨fun z => absurd z.1 (by omega), fun z => absurd z.1 c⟩
theorem off_p {w s : Wd} {h : Int} {p : Nat} (hp : s 0 = (p : Int)) : offF w h s = upw (upw s 4 (ior (s 4) (ishl 1 (vineF w (p : Int) h (s 4))))) 3 (h + 3) := by
  unfold offF; rw [hp]
theorem go_sl {w s : Wd} {D : Nat → Nat → Int} {h : Int} (h1 : h < s 3) : goF w D h s = (s, 1) := by
  unfold goF; rw [if_pos h1]
theorem go_sta {w s : Wd} {D : Nat → Nat → Int} {h : Int} {p : Nat} (hp : s 0 = (p : Int)) (h1 : ¬ h < s 3) (h2 : steerF w D p s = -1) : goF w D h s = (s, 4) := by
  unfold goF; rw [if_neg h1, nat_of hp, if_pos h2]
theorem go_ea {w s : Wd} {D : Nat → Nat → Int} {h : Int} {p g t : Nat} (hp : s 0 = (p : Int)) (h1 : ¬ h < s 3) (h2 : steerF w D p s = (t : Int)) (hg : w (31 + 2 * t) = (g : Int)) (h3 : (g : Int) = (p : Int)) : goF w D h s = (eatF s t, 2) := by
  unfold goF; rw [if_neg h1, nat_of hp, if_neg (by omega), nat_of h2, hp, hg, if_pos h3]
theorem go_ca {w s : Wd} {D : Nat → Nat → Int} {h : Int} {p g t : Nat} (hp : s 0 = (p : Int)) (h1 : ¬ h < s 3) (h2 : steerF w D p s = (t : Int)) (hg : w (31 + 2 * t) = (g : Int)) (h3 : ¬ (g : Int) = (p : Int)) : goF w D h s = (carF w s (stepF w D p g), 3) := by
  unfold goF; rw [if_neg h1, nat_of hp, if_neg (by omega), nat_of h2, hp, hg, if_neg h3, nat_of (b := g) rfl]
theorem hour_0 {w s : Wd} {D : Nat → Nat → Int} {h a : Int} (hb : s 1 = -1) : hourF w D h a s = (s, 0) := by
  unfold hourF; rw [if_pos hb]
theorem hour_th {w s : Wd} {D : Nat → Nat → Int} {h a : Int} (hb : ¬ s 1 = -1) (hc : canF w D h a s = true) (ha : a = 2) : hourF w D h a s = (overF s 1, 5) := by
  unfold hourF; rw [if_neg hb, if_pos ⟨hc, ha⟩]
theorem hour_ca {w s : Wd} {D : Nat → Nat → Int} {h a : Int} (hb : ¬ s 1 = -1) (hc : canF w D h a s = true) (h2 : ¬ a = 2) (ha : 10 ≤ a) : hourF w D h a s = (carF w s (a - 10), 3) := by
  unfold hourF; rw [if_neg hb, if_neg (fun z => h2 z.2), if_pos ⟨hc, ha⟩]
theorem hour_of {w s : Wd} {D : Nat → Nat → Int} {h a : Int} (hb : ¬ s 1 = -1) (hc : canF w D h a s = true) (ha : a = 1) : hourF w D h a s = goF w D h (offF w h s) := by
  unfold hourF; rw [if_neg hb, if_neg (fun z => by omega), if_neg (fun z => by omega), if_pos ⟨hc, ha⟩]
theorem hour_go {w s : Wd} {D : Nat → Nat → Int} {h a : Int} (hb : ¬ s 1 = -1) (hc : ¬ canF w D h a s = true) : hourF w D h a s = goF w D h s := by
  unfold hourF; rw [if_neg hb, if_neg (fun z => hc z.1), if_neg (fun z => hc z.1), if_neg (fun z => hc z.1)]
theorem can_a0 {w s : Wd} {D : Nat → Nat → Int} {h a : Int} (ha : a = 0) : ¬ canF w D h a s = true := by
  unfold canF
  by_cases c : s 1 = -1
  · rw [if_pos c]; exact fun z => absurd z (by decide)
  · rw [if_neg c, if_pos ha]; exact fun z => absurd z (by decide)
theorem can_b0 {w s : Wd} {D : Nat → Nat → Int} {h a : Int} (hb : s 1 = -1) : ¬ canF w D h a s = true := by
  unfold canF; rw [if_pos hb]; exact fun z => absurd z (by decide)
theorem can_no {w s : Wd} {D : Nat → Nat → Int} {h a : Int} (h1 : ¬ a = 1) (h2 : ¬ a = 2) (h10 : a < 10) : ¬ canF w D h a s = true := by
  unfold canF
  by_cases c : s 1 = -1
  · rw [if_pos c]; exact fun z => absurd z (by decide)
  · rw [if_neg c]
    by_cases c0 : a = 0
    · rw [if_pos c0]; exact fun z => absurd z (by decide)
    · rw [if_neg c0, if_neg h1]
      by_cases c3 : h < s 3
      · rw [if_neg (fun z => z c3), if_neg h2, decide_eq_false (by omega)]; intro z; rw [Bool.and_eq_true] at z; exact absurd z.1 (by decide)
      · rw [if_pos c3]; exact fun z => absurd z (by decide)
section RIDE
variable {T : List Kd} {m : Mm}
-- the searches tell what the world tells
theorem w_264 (hT : TT T) {o : Nat} (ho : IsleT T o) (hor : IsleR m o) {w : Wd} (hw : WD m o w) (pl hr em : Int) : GX T 1 264 0 [(2, (o : Int)), (0, pl), (0, hr), (0, em), (9, 0), (9, 0), (9, 0)] [] m (RI (fun v m1 => v = vineF w pl hr em ∧ m1 = m)) := by
  have k := hw.1.2.2.2.2.2.2.2.1
  have b := hw.2.1.2.2.2.1
  refine gx_imp (z_264 hT ho hor pl hr em (nv := (w 6).toNat) (by omega) (by omega)) (fun v m1 ⟨x, e, f, g⟩ => ⟨x, e, FirstOf_eq f (firstF_of _ _) (fun i hi => ?_), g⟩)
  obtain ⟨e1, e2⟩ := wd_vine hw (t := i) (by omega)
  show (m (o + 4) i ≤ hr ∧ ¬ iand (ishr em (i : Int)) 1 = 1 ∧ m (o + 3) i = pl) ↔ _
  rw [e1, e2]
  exact bw_iff bitF_i
theorem w_263 (hT : TT T) {o : Nat} (ho : IsleT T o) (hor : IsleR m o) {w : Wd} (hw : WD m o w) (pl fb : Int) : GX T 1 263 0 [(2, (o : Int)), (0, pl), (0, fb), (9, 0), (9, 0), (9, 0), (9, 0), (9, 0)] [] m (RI (fun v m1 => v = strongF w pl fb ∧ m1 = m)) := by
  have k := hw.1.2.2.2.2.2.2.2.2.1
  have b := hw.2.1.2.2.2.2.1
  refine gx_imp (z_263 hT ho hor pl fb (nb := (w 7).toNat) (by omega) (by omega) (fun b hb => by rw [(wd_bear hw (b := b) (by omega)).2]; exact (hw.2.2.2.2.2 b (by omega) (by omega)).2.2.1)) (fun v m1 ⟨x, e, f, g⟩ => ⟨x, e, BestOf_eq f (bestF_of _ _ _) (fun i hi => ?_) (fun i hi c => ?_), g⟩)
  · obtain ⟨e1, e2⟩ := wd_bear hw (b := i) (by omega)
    show (¬ iand (ishr fb (i : Int)) 1 = 1 ∧ m (o + 5) i = pl) ↔ _
    rw [e1]
    exact bs_iff bitF_i
  · show - m (o + 6) i = - w (48 + 2 * i)
    rw [(wd_bear hw (b := i) (by omega)).2]
theorem w_262 (hT : TT T) {o : Nat} (ho : IsleT T o) (hor : IsleR m o) {w : Wd} (hw : WD m o w) {D : Nat → Nat → Int} (hD : WyD w D) {p g : Nat} (hp : (p : Int) < w 0) (hg : (g : Int) < w 0) (hne : ¬ p = g) (hF : D p g < FAR) : GX T 2 262 0 [(2, (o : Int)), (0, (p : Int)), (0, (g : Int)), (9, 0), (9, 0), (9, 0)] [] m (RI (fun v m1 => v = stepF w D p g ∧ m1 = m)) := by
  have k := hw.1.2.1
  have b := hw.2.1.1
  have x := wd_way hw hD hp hg
  rw [if_pos hF] at x
  have d1 := hD.2.1 p g (by omega) (by omega) hne
  refine gx_imp (z_262 hT ho hor (p := p) (g := g) (n := (w 0).toNat) (by omega) (by omega) (by omega) (by omega) (by have := x.2.2.1 hF; rw [x.1]; omega)) (fun v m1 ⟨y, e, f, z⟩ => ⟨y, e, FirstOf_eq f (firstF_of _ _) (fun i hi => ?_), z⟩)
  show (iand (ishr (m (o + 7) p) (i : Int)) 1 = 1 ∧ m (o + 8) (7 * i + g) = m (o + 8) (7 * p + g) - 1) ↔ (decide (D p i = 1) && decide (D i g = D p g - 1)) = true
  rw [Bool.and_eq_true, decide_eq_true_eq, decide_eq_true_eq, wd_adj hw hD (p := p) (q := i) (by omega) (by omega), x.1]
  have y := wd_way hw hD (a := i) (b := g) (by omega) hg
  rw [y.1]
  by_cases c : D i g < FAR
  · rw [if_pos c]
  · rw [if_neg c]
    exact ⟨fun z => absurd z.2 (by omega), fun z => absurd z.2 (by omega)⟩
theorem w_261 (hT : TT T) {o : Nat} (ho : IsleT T o) (hor : IsleR m o) {w : Wd} (hw : WD m o w) {D : Nat → Nat → Int} (hD : WyD w D) {s : Wd} {l p : Nat} (hl : T[l]? = some (100, 5)) (hl0 : 0 < l) (hp : (p : Int) < w 0) (hs : ∀ t : Nat, t < 5 → (t : Int) < w 5 → m l t = s (11 + t)) : GX T 2 261 0 [(2, (o : Int)), (0, (p : Int)), (2, (l : Int)), (9, 0), (9, 0), (9, 0), (9, 0)] [] m (RI (fun v m1 => v = steerF w D p s ∧ m1 = m)) := by
  have k := hw.1.2.2.2.2.2.2.1
  have b := hw.2.1.2.2.1
  have b0 := hw.2.1.1
  have hpl : ∀ t : Nat, (t : Int) < w 5 → m (o + 1) t = (((w (31 + 2 * t)).toNat : Nat) : Int) ∧ (((w (31 + 2 * t)).toNat : Nat) : Int) < w 0 := fun t ht => by
    have h1 := wd_tree hw ht
    have h2 := hw.2.2.2.1 t (by omega) ht
    omega
  have x : ∀ t : Nat, (t : Int) < w 5 → m (o + 8) (7 * p + (w (31 + 2 * t)).toNat) = (if D p (w (31 + 2 * t)).toNat < FAR then D p (w (31 + 2 * t)).toNat else -1) ∧ 0 ≤ D p (w (31 + 2 * t)).toNat ∧ (D p (w (31 + 2 * t)).toNat < FAR → D p (w (31 + 2 * t)).toNat ≤ 6) := fun t ht => by
    have y := wd_way hw hD hp (hpl t ht).2
    exact ⟨y.1, y.2.1, y.2.2.1⟩
  refine gx_imp (z_261 hT ho hor (l := l) (p := p) (nt := (w 5).toNat) (pt := fun t => (w (31 + 2 * t)).toNat) hl hl0 (by omega) (by omega) (by omega) (fun t ht => ?_)) (fun v m1 ⟨y, e, f, z⟩ => ⟨y, e, BestOf_eq f (bestF_of _ _ _) (fun i hi => ?_) (fun i hi c => ?_), z⟩)
  · have h1 := hpl t (by omega)
    have h2 := x t (by omega)
    refine ⟨h1.1, by show (w (31 + 2 * t)).toNat < 7; omega, ?_⟩
    show m (o + 8) (7 * p + (w (31 + 2 * t)).toNat) ≤ 6
    rw [h2.1]
    split
    · rename_i c; exact h2.2.2 c
    · decide
  · have h2 := x i (by omega)
    show (0 < m l i ∧ ¬ m (o + 8) (7 * p + (w (31 + 2 * i)).toNat) = -1) ↔ (decide (0 < s (11 + i)) && decide (D p (w (31 + 2 * i)).toNat < FAR)) = true
    rw [Bool.and_eq_true, decide_eq_true_eq, decide_eq_true_eq, hs i (by omega) (by omega), h2.1]
    by_cases c : D p (w (31 + 2 * i)).toNat < FAR
    · rw [if_pos c]
      exact ⟨fun z => ⟨z.1, c⟩, fun z => ⟨z.1, by omega⟩⟩
    · rw [if_neg c]
      exact ⟨fun z => absurd rfl z.2, fun z => absurd z.2 c⟩
  · have h2 := x i (by omega)
    have c2 : ¬ m (o + 8) (7 * p + (w (31 + 2 * i)).toNat) = -1 := c.2
    show m (o + 8) (7 * p + (w (31 + 2 * i)).toNat) = D p (w (31 + 2 * i)).toNat
    rw [h2.1] at c2 ⊢
    by_cases d : D p (w (31 + 2 * i)).toNat < FAR
    · rw [if_pos d]
    · rw [if_neg d] at c2; exact absurd rfl c2
theorem z_268 (hT : TT T) {w : Wd} {r : Nat} (hr : RideT T r) (hrr : RideR m r) {s : Wd} (hs : RdS w m r s) (h : Int) : GX T 0 268 0 [(2, (r : Int)), (0, h)] [] m (RI (fun v m1 => v = (if h < s 3 then 1 else 0) ∧ m1 = m)) := by
  have hr0 := hr.1
  refine gx_st (L' := [(2, (r : Int)), (0, h)]) (S' := [(0, h)]) r_268_0 rfl rfl rfl ?_
  refine gx_st (L' := [(2, (r : Int)), (0, h)]) (S' := [(2, (r : Int)), (0, h)]) r_268_1 rfl rfl rfl ?_
  refine gx_gf (x := (s 3)) 0 r_268_2 (rfl) (tride_0 hr) ⟨by omega, rfl, by decide, by decide⟩ rfl (fun z => absurd z (by decide)) (hs.2.2.2.1) ?_
  refine gx_ic (P := (s 3) ≤ h) r_268_5 (rfl) (fun h5 => ?_) (fun h5 => ?_)
  · refine gx_st (L' := [(2, (r : Int)), (0, h)]) (S' := [(0, 0)]) r_268_12 rfl rfl rfl ?_
    exact gx_rb r_268_13 rfl (Or.inl rfl) ⟨_, rfl, (if_neg (by omega)).symm, rfl⟩
  · refine gx_st (L' := [(2, (r : Int)), (0, h)]) (S' := [(0, 1)]) r_268_8 rfl rfl rfl ?_
    refine gx_st (L' := [(2, (r : Int)), (0, h)]) (S' := [(0, 1)]) r_268_9 rfl rfl rfl ?_
    exact gx_rb r_268_13 rfl (Or.inr rfl) ⟨_, rfl, (if_pos (by omega)).symm, rfl⟩
theorem z_273 (hT : TT T) {w : Wd} {r : Nat} (hr : RideT T r) (hrr : RideR m r) {s : Wd} (hs : RdS w m r s) (k : Int) : GX T 0 273 0 [(2, (r : Int)), (0, k)] [] m (RV (fun m1 => RdS w m1 r (overF s k) ∧ FrO 7 r m m1)) := by
  have hr0 := hr.1
  have hs_m := hs
  have fo_m : FrO 7 r m m := fro_rf
  refine gx_st (L' := [(2, (r : Int)), (0, k)]) (S' := [(2, (r : Int))]) r_273_0 rfl rfl rfl ?_
  refine gx_st (L' := [(2, (r : Int)), (0, k)]) (S' := [(0, k), (2, (r : Int))]) r_273_1 rfl rfl rfl ?_
  obtain ⟨m1, e_m1⟩ : ∃ z, z = nu_up m r 6 k := ⟨_, rfl⟩
  have hs_m1 : RdS w m1 r (upw s 16 k) := by rw [e_m1]; exact rds_k hs_m _
  have fo_m1 : FrO 7 r m m1 := by rw [e_m1]; exact fro_f fo_m (by decide)
  refine gx_pf (x := k) 0 r_273_2 (rfl) (tride_0 hr) ⟨by omega, rfl, by decide, by decide⟩ rfl (fun z => absurd z (by decide)) (fun z => absurd z (by decide)) e_m1.symm ?_
  refine gx_st (L' := [(2, (r : Int)), (0, k)]) (S' := [(2, (r : Int))]) r_273_5 rfl rfl rfl ?_
  refine gx_st (L' := [(2, (r : Int)), (0, k)]) (S' := [(0, (-1)), (2, (r : Int))]) r_273_6 rfl rfl rfl ?_
  obtain ⟨m2, e_m2⟩ : ∃ z, z = nu_up m1 r 0 (-1) := ⟨_, rfl⟩
  have hs_m2 : RdS w m2 r (upw (upw s 16 k) 0 (-1)) := by rw [e_m2]; exact rds_f hs_m1 (i := 0) (by decide) _
  have fo_m2 : FrO 7 r m m2 := by rw [e_m2]; exact fro_f fo_m1 (by decide)
  refine gx_pf (x := (-1)) 0 r_273_7 (rfl) (tride_0 hr) ⟨by omega, rfl, by decide, by decide⟩ rfl (fun z => absurd z (by decide)) (fun z => absurd z (by decide)) e_m2.symm ?_
  refine gx_st (L' := [(2, (r : Int)), (0, k)]) (S' := [(2, (r : Int))]) r_273_10 rfl rfl rfl ?_
  refine gx_st (L' := [(2, (r : Int)), (0, k)]) (S' := [(0, (-1)), (2, (r : Int))]) r_273_11 rfl rfl rfl ?_
  obtain ⟨m3, e_m3⟩ : ∃ z, z = nu_up m2 r 1 (-1) := ⟨_, rfl⟩
  have hs_m3 : RdS w m3 r (upw (upw (upw s 16 k) 0 (-1)) 1 (-1)) := by rw [e_m3]; exact rds_f hs_m2 (i := 1) (by decide) _
  have fo_m3 : FrO 7 r m m3 := by rw [e_m3]; exact fro_f fo_m2 (by decide)
  refine gx_pf (x := (-1)) 0 r_273_12 (rfl) (tride_0 hr) ⟨by omega, rfl, by decide, by decide⟩ rfl (fun z => absurd z (by decide)) (fun z => absurd z (by decide)) e_m3.symm ?_
  exact gx_rt r_273_15 rfl rfl ⟨rfl, hs_m3, fo_m3⟩
theorem z_271 (hT : TT T) {w : Wd} {r : Nat} (hr : RideT T r) (hrr : RideR m r) {s : Wd} (hs : RdS w m r s) {b t : Nat} (ht5 : (t : Int) < w 5) (hb : s 1 = (b : Int)) (hb5 : b < 5) (ht : t < 5) (k2 : 0 ≤ s 2 ∧ s 2 ≤ 60) (k6 : 0 ≤ s (6 + b) ∧ s (6 + b) ≤ 600) (k11 : 0 ≤ s (11 + t) ∧ s (11 + t) ≤ 9) : GX T 1 271 0 [(2, (r : Int)), (0, (t : Int))] [] m (RV (fun m1 => RdS w m1 r (eatF s t) ∧ FrO 7 r m m1)) := by
  have hr0 := hr.1
  have hs_m := hs
  have fo_m : FrO 7 r m m := fro_rf
  refine gx_st (L' := [(2, (r : Int)), (0, (t : Int))]) (S' := [(2, (r : Int))]) r_271_0 rfl rfl rfl ?_
  refine gx_gf (x := (r : Int) + 2) 2 r_271_1 (rfl) (tride_0 hr) ⟨by omega, rfl, by decide, by decide⟩ rfl (fun _ => by omega) (hrr.2) ?_
  refine gx_st (L' := [(2, (r : Int)), (0, (t : Int))]) (S' := [(0, (t : Int)), (2, (r : Int) + 2)]) r_271_4 rfl rfl rfl ?_
  refine gx_st (L' := [(2, (r : Int)), (0, (t : Int))]) (S' := [(0, (-1)), (0, (t : Int)), (2, (r : Int) + 2)]) r_271_5 rfl rfl rfl ?_
  have c6 : m (r + 2) t = (s (11 + t)) := hs.2.2.2.2.2.2.2.2 t (by omega) (by omega)
  refine gx_cv (nx := 9) (S2 := []) (c_239 (r := r + 2) (n := 5) (tride_2 hr) (by omega) (by decide) (k := t) (by omega) (-1)) r_271_6 rfl rfl rfl rfl rfl rfl rfl (by decide) rfl (fun n6 q6 => ?_)
  have e_n6 : n6 = nu_up m (r + 2) t ((s (11 + t)) - 1) := by rw [q6, c6, w32_eq (z := (s (11 + t)) - 1) (by omega) (by omega) (by omega)]
  have hs_n6 : RdS w n6 r (upw s (11 + t) ((s (11 + t)) - 1)) := by rw [e_n6]; exact rds_u hs_m (t2 := t) (by omega) _
  have fo_n6 : FrO 7 r m n6 := by rw [e_n6]; exact fro_u fo_m
  show GX T 1 271 9 [(2, (r : Int)), (0, (t : Int))] [] n6 (RV (fun m1 => RdS w m1 r (eatF s t) ∧ FrO 7 r m m1))
  refine gx_st (L' := [(2, (r : Int)), (0, (t : Int))]) (S' := [(2, (r : Int))]) r_271_9 rfl rfl rfl ?_
  refine gx_st (L' := [(2, (r : Int)), (0, (t : Int))]) (S' := [(2, (r : Int)), (2, (r : Int))]) r_271_10 rfl rfl rfl ?_
  refine gx_gf (x := (s 2)) 0 r_271_11 (rfl) (tride_0 hr) ⟨by omega, rfl, by decide, by decide⟩ rfl (fun z => absurd z (by decide)) (by show n6 r 2 = _; rw [e_n6, nu_no (by omega)]; exact hs.2.2.1) ?_
  refine gx_st (L' := [(2, (r : Int)), (0, (t : Int))]) (S' := [(0, 1), (0, (s 2)), (2, (r : Int))]) r_271_14 rfl rfl rfl ?_
  refine gx_ar (L' := [(2, (r : Int)), (0, (t : Int))]) (S' := [(2, (r : Int))]) (t := 0) (e := w32 ((s 2) + 1)) (z := (s 2) + 1) r_271_15 rfl rfl rfl (w32_eq (by omega) (by omega) (by omega)) ?_
  obtain ⟨m1, e_m1⟩ : ∃ z, z = nu_up n6 r 2 ((s 2) + 1) := ⟨_, rfl⟩
  have hs_m1 : RdS w m1 r (upw (upw s (11 + t) ((s (11 + t)) - 1)) 2 ((s 2) + 1)) := by rw [e_m1]; exact rds_f hs_n6 (i := 2) (by decide) _
  have fo_m1 : FrO 7 r m m1 := by rw [e_m1]; exact fro_f fo_n6 (by decide)
  refine gx_pf (x := (s 2) + 1) 0 r_271_16 (rfl) (tride_0 hr) ⟨by omega, rfl, by decide, by decide⟩ rfl (fun z => absurd z (by decide)) (fun z => absurd z (by decide)) e_m1.symm ?_
  refine gx_st (L' := [(2, (r : Int)), (0, (t : Int))]) (S' := [(2, (r : Int))]) r_271_19 rfl rfl rfl ?_
  refine gx_gf (x := (r : Int) + 1) 2 r_271_20 (rfl) (tride_0 hr) ⟨by omega, rfl, by decide, by decide⟩ rfl (fun _ => by omega) (by show m1 r 8 = _; rw [e_m1, nu_ne (by decide), e_n6, nu_no (by omega)]; exact hrr.1) ?_
  refine gx_st (L' := [(2, (r : Int)), (0, (t : Int))]) (S' := [(2, (r : Int)), (2, (r : Int) + 1)]) r_271_23 rfl rfl rfl ?_
  refine gx_gf (x := (b : Int)) 0 r_271_24 (rfl) (tride_0 hr) ⟨by omega, rfl, by decide, by decide⟩ rfl (fun z => absurd z (by decide)) (by show m1 r 1 = _; rw [e_m1, nu_ne (by decide), e_n6, nu_no (by omega)]; exact hs.2.1.trans hb) ?_
  refine gx_st (L' := [(2, (r : Int)), (0, (t : Int))]) (S' := [(2, (r : Int)), (0, (b : Int)), (2, (r : Int) + 1)]) r_271_27 rfl rfl rfl ?_
  refine gx_gf (x := (r : Int) + 1) 2 r_271_28 (rfl) (tride_0 hr) ⟨by omega, rfl, by decide, by decide⟩ rfl (fun _ => by omega) (by show m1 r 8 = _; rw [e_m1, nu_ne (by decide), e_n6, nu_no (by omega)]; exact hrr.1) ?_
  refine gx_st (L' := [(2, (r : Int)), (0, (t : Int))]) (S' := [(2, (r : Int)), (2, (r : Int) + 1), (0, (b : Int)), (2, (r : Int) + 1)]) r_271_31 rfl rfl rfl ?_
  refine gx_gf (x := (b : Int)) 0 r_271_32 (rfl) (tride_0 hr) ⟨by omega, rfl, by decide, by decide⟩ rfl (fun z => absurd z (by decide)) (by show m1 r 1 = _; rw [e_m1, nu_ne (by decide), e_n6, nu_no (by omega)]; exact hs.2.1.trans hb) ?_
  have c35 : m1 (r + 1) b = (s (6 + b)) := by show m1 (r + 1) b = _; rw [e_m1, nu_no (by omega), e_n6, nu_no (by omega)]; exact hs.2.2.2.2.2.2.2.1 b (by omega)
  refine gx_ci (nx := 38) (S2 := [(0, (b : Int)), (2, (r : Int) + 1)]) (c_237 (r := r + 1) (n := 5) (tride_1 hr) (by omega) (by decide) (k := b) (by omega)) r_271_35 rfl rfl rfl rfl rfl rfl rfl (by decide) rfl (fun x35 n35 q35 => ?_)
  obtain ⟨e_x35, z_x35⟩ := q35
  have y_x35 := z_x35.symm
  subst y_x35
  rw [e_x35, c35]
  show GX T 1 271 38 [(2, (r : Int)), (0, (t : Int))] [(0, (s (6 + b))), (0, (b : Int)), (2, (r : Int) + 1)] m1 (RV (fun m1 => RdS w m1 r (eatF s t) ∧ FrO 7 r m m1))
  refine gx_st (L' := [(2, (r : Int)), (0, (t : Int))]) (S' := [(0, 3), (0, (s (6 + b))), (0, (b : Int)), (2, (r : Int) + 1)]) r_271_38 rfl rfl rfl ?_
  refine gx_ar (L' := [(2, (r : Int)), (0, (t : Int))]) (S' := [(0, (b : Int)), (2, (r : Int) + 1)]) (t := 0) (e := w32 (((s (6 + b))) - 3)) (z := (s (6 + b)) - 3) r_271_39 rfl rfl rfl (w32_eq (by omega) (by omega) (by omega)) ?_
  refine gx_st (L' := [(2, (r : Int)), (0, (t : Int))]) (S' := [(0, 0), (0, (s (6 + b)) - 3), (0, (b : Int)), (2, (r : Int) + 1)]) r_271_40 rfl rfl rfl ?_
  refine gx_st (L' := [(2, (r : Int)), (0, (t : Int))]) (S' := [(0, (max ((s (6 + b)) - 3) 0)), (0, (b : Int)), (2, (r : Int) + 1)]) r_271_41 rfl rfl rfl ?_
  refine gx_cv (nx := 47) (S2 := []) (c_238 (r := r + 1) (n := 5) (tride_1 hr) (by omega) (by decide) (k := b) (by omega) ((max ((s (6 + b)) - 3) 0))) r_271_44 rfl rfl rfl rfl rfl rfl rfl (by decide) rfl (fun n44 q44 => ?_)
  have e_n44 : n44 = nu_up m1 (r + 1) b ((max ((s (6 + b)) - 3) 0)) := q44
  have hs_n44 : RdS w n44 r (upw (upw (upw s (11 + t) ((s (11 + t)) - 1)) 2 ((s 2) + 1)) (6 + b) ((max ((s (6 + b)) - 3) 0))) := by rw [e_n44]; exact rds_t hs_m1 (b := b) (by omega) _
  have fo_n44 : FrO 7 r m n44 := by rw [e_n44]; exact fro_t fo_m1
  show GX T 1 271 47 [(2, (r : Int)), (0, (t : Int))] [] n44 (RV (fun m1 => RdS w m1 r (eatF s t) ∧ FrO 7 r m m1))
  exact gx_rt r_271_47 rfl rfl ⟨rfl, (by rw [eat_b hb]; exact hs_n44), fo_n44⟩
theorem z_272 (hT : TT T) {o : Nat} (ho : IsleT T o) (hor : IsleR m o) {w : Wd} (hw : WD m o w) {r : Nat} (hr : RideT T r) (hrr : RideR m r) {s : Wd} (hs : RdS w m r s) (hd : r + 3 ≤ o ∨ o + 9 ≤ r) {b : Nat} (hb : s 1 = (b : Int)) (hb7 : (b : Int) < w 7) (k2 : 0 ≤ s 2 ∧ s 2 ≤ 60) (k6 : 0 ≤ s (6 + b) ∧ s (6 + b) ≤ 600) (g : Int) : GX T 2 272 0 [(2, (r : Int)), (2, (o : Int)), (0, g)] [] m (RV (fun m1 => RdS w m1 r (carF w s g) ∧ FrO 7 r m m1)) := by
  have ho0 := ho.1
  have hr0 := hr.1
  have hs_m := hs
  have fo_m : FrO 7 r m m := fro_rf
  obtain ⟨⟨w00, w07⟩, _, ⟨w50, w55⟩, ⟨w60, w63⟩, ⟨w70, w75⟩, _⟩ := hw.2.1
  refine gx_st (L' := [(2, (r : Int)), (2, (o : Int)), (0, g)]) (S' := [(2, (r : Int))]) r_272_0 rfl rfl rfl ?_
  refine gx_st (L' := [(2, (r : Int)), (2, (o : Int)), (0, g)]) (S' := [(0, g), (2, (r : Int))]) r_272_1 rfl rfl rfl ?_
  obtain ⟨m1, e_m1⟩ : ∃ z, z = nu_up m r 0 g := ⟨_, rfl⟩
  have hs_m1 : RdS w m1 r (upw s 0 g) := by rw [e_m1]; exact rds_f hs_m (i := 0) (by decide) _
  have fo_m1 : FrO 7 r m m1 := by rw [e_m1]; exact fro_f fo_m (by decide)
  refine gx_pf (x := g) 0 r_272_2 (rfl) (tride_0 hr) ⟨by omega, rfl, by decide, by decide⟩ rfl (fun z => absurd z (by decide)) (fun z => absurd z (by decide)) e_m1.symm ?_
  refine gx_st (L' := [(2, (r : Int)), (2, (o : Int)), (0, g)]) (S' := [(2, (r : Int))]) r_272_5 rfl rfl rfl ?_
  refine gx_gf (x := (r : Int) + 1) 2 r_272_6 (rfl) (tride_0 hr) ⟨by omega, rfl, by decide, by decide⟩ rfl (fun _ => by omega) (by show m1 r 8 = _; rw [e_m1, nu_ne (by decide)]; exact hrr.1) ?_
  refine gx_st (L' := [(2, (r : Int)), (2, (o : Int)), (0, g)]) (S' := [(2, (r : Int)), (2, (r : Int) + 1)]) r_272_9 rfl rfl rfl ?_
  refine gx_gf (x := (b : Int)) 0 r_272_10 (rfl) (tride_0 hr) ⟨by omega, rfl, by decide, by decide⟩ rfl (fun z => absurd z (by decide)) (by show m1 r 1 = _; rw [e_m1, nu_ne (by decide)]; exact hs.2.1.trans hb) ?_
  refine gx_st (L' := [(2, (r : Int)), (2, (o : Int)), (0, g)]) (S' := [(2, (r : Int)), (0, (b : Int)), (2, (r : Int) + 1)]) r_272_13 rfl rfl rfl ?_
  refine gx_gf (x := (s 2)) 0 r_272_14 (rfl) (tride_0 hr) ⟨by omega, rfl, by decide, by decide⟩ rfl (fun z => absurd z (by decide)) (by show m1 r 2 = _; rw [e_m1, nu_ne (by decide)]; exact hs.2.2.1) ?_
  have c17 : m1 (r + 1) b = (s (6 + b)) := by show m1 (r + 1) b = _; rw [e_m1, nu_no (by omega)]; exact hs.2.2.2.2.2.2.2.1 b (by omega)
  refine gx_cv (nx := 20) (S2 := []) (c_239 (r := r + 1) (n := 5) (tride_1 hr) (by omega) (by decide) (k := b) (by omega) (s 2)) r_272_17 rfl rfl rfl rfl rfl rfl rfl (by decide) rfl (fun n17 q17 => ?_)
  have e_n17 : n17 = nu_up m1 (r + 1) b ((s (6 + b)) + (s 2)) := by rw [q17, c17, w32_eq (z := (s (6 + b)) + (s 2)) (by omega) (by omega) (by omega)]
  have hs_n17 : RdS w n17 r (upw (upw s 0 g) (6 + b) ((s (6 + b)) + (s 2))) := by rw [e_n17]; exact rds_t hs_m1 (b := b) (by omega) _
  have fo_n17 : FrO 7 r m n17 := by rw [e_n17]; exact fro_t fo_m1
  show GX T 2 272 20 [(2, (r : Int)), (2, (o : Int)), (0, g)] [] n17 (RV (fun m1 => RdS w m1 r (carF w s g) ∧ FrO 7 r m m1))
  refine gx_st (L' := [(2, (r : Int)), (2, (o : Int)), (0, g)]) (S' := [(2, (r : Int))]) r_272_20 rfl rfl rfl ?_
  refine gx_gf (x := (r : Int) + 1) 2 r_272_21 (rfl) (tride_0 hr) ⟨by omega, rfl, by decide, by decide⟩ rfl (fun _ => by omega) (by show n17 r 8 = _; rw [e_n17, nu_no (by omega), e_m1, nu_ne (by decide)]; exact hrr.1) ?_
  refine gx_st (L' := [(2, (r : Int)), (2, (o : Int)), (0, g)]) (S' := [(2, (r : Int)), (2, (r : Int) + 1)]) r_272_24 rfl rfl rfl ?_
  refine gx_gf (x := (b : Int)) 0 r_272_25 (rfl) (tride_0 hr) ⟨by omega, rfl, by decide, by decide⟩ rfl (fun z => absurd z (by decide)) (by show n17 r 1 = _; rw [e_n17, nu_no (by omega), e_m1, nu_ne (by decide)]; exact hs.2.1.trans hb) ?_
  have c28 : n17 (r + 1) b = (s (6 + b)) + (s 2) := by show n17 (r + 1) b = _; rw [e_n17, nu_at]
  refine gx_ci (nx := 31) (S2 := []) (c_237 (r := r + 1) (n := 5) (tride_1 hr) (by omega) (by decide) (k := b) (by omega)) r_272_28 rfl rfl rfl rfl rfl rfl rfl (by decide) rfl (fun x28 n28 q28 => ?_)
  obtain ⟨e_x28, z_x28⟩ := q28
  have y_x28 := z_x28.symm
  subst y_x28
  rw [e_x28, c28]
  show GX T 2 272 31 [(2, (r : Int)), (2, (o : Int)), (0, g)] [(0, (s (6 + b)) + (s 2))] n17 (RV (fun m1 => RdS w m1 r (carF w s g) ∧ FrO 7 r m m1))
  refine gx_st (L' := [(2, (r : Int)), (2, (o : Int)), (0, g)]) (S' := [(2, (o : Int)), (0, (s (6 + b)) + (s 2))]) r_272_31 rfl rfl rfl ?_
  refine gx_gf (x := (o : Int) + 6) 2 r_272_32 (rfl) (tisle_0 ho) ⟨by omega, rfl, by decide, by decide⟩ rfl (fun _ => by omega) (by show n17 o 15 = _; rw [e_n17, nu_no (by omega), e_m1, nu_no (by omega)]; exact hor.2.2.2.2.2.1) ?_
  refine gx_st (L' := [(2, (r : Int)), (2, (o : Int)), (0, g)]) (S' := [(2, (r : Int)), (2, (o : Int) + 6), (0, (s (6 + b)) + (s 2))]) r_272_35 rfl rfl rfl ?_
  refine gx_gf (x := (b : Int)) 0 r_272_36 (rfl) (tride_0 hr) ⟨by omega, rfl, by decide, by decide⟩ rfl (fun z => absurd z (by decide)) (by show n17 r 1 = _; rw [e_n17, nu_no (by omega), e_m1, nu_ne (by decide)]; exact hs.2.1.trans hb) ?_
  have hw_n17 : WD n17 o w := wd_fro hw fo_n17 hd
  have ir_n17 : IsleR n17 o := ir_fro hor fo_n17 hd
  have c39 : n17 (o + 6) b = (w (48 + 2 * b)) := (wd_bear hw_n17 (b := b) (by omega)).2
  refine gx_ci (nx := 42) (S2 := [(0, (s (6 + b)) + (s 2))]) (c_237 (r := o + 6) (n := 5) (tisle_6 ho) (by omega) (by decide) (k := b) (by omega)) r_272_39 rfl rfl rfl rfl rfl rfl rfl (by decide) rfl (fun x39 n39 q39 => ?_)
  obtain ⟨e_x39, z_x39⟩ := q39
  have y_x39 := z_x39.symm
  subst y_x39
  rw [e_x39, c39]
  show GX T 2 272 42 [(2, (r : Int)), (2, (o : Int)), (0, g)] [(0, (w (48 + 2 * b))), (0, (s (6 + b)) + (s 2))] n17 (RV (fun m1 => RdS w m1 r (carF w s g) ∧ FrO 7 r m m1))
  refine gx_ic (P := (s (6 + b)) + (s 2) ≤ (w (48 + 2 * b))) r_272_42 (rfl) (fun h42 => ?_) (fun h42 => ?_)
  · exact gx_rt r_272_89 rfl rfl ⟨rfl, (by rw [car_lo hb h42]; exact hs_n17), fo_n17⟩
  · refine gx_st (L' := [(2, (r : Int)), (2, (o : Int)), (0, g)]) (S' := [(2, (r : Int))]) r_272_45 rfl rfl rfl ?_
    refine gx_st (L' := [(2, (r : Int)), (2, (o : Int)), (0, g)]) (S' := [(2, (r : Int)), (2, (r : Int))]) r_272_46 rfl rfl rfl ?_
    refine gx_gf (x := (s 5)) 0 r_272_47 (rfl) (tride_0 hr) ⟨by omega, rfl, by decide, by decide⟩ rfl (fun z => absurd z (by decide)) (by show n17 r 5 = _; rw [e_n17, nu_no (by omega), e_m1, nu_ne (by decide)]; exact hs.2.2.2.2.2.1) ?_
    refine gx_st (L' := [(2, (r : Int)), (2, (o : Int)), (0, g)]) (S' := [(0, 1), (0, (s 5)), (2, (r : Int))]) r_272_50 rfl rfl rfl ?_
    refine gx_st (L' := [(2, (r : Int)), (2, (o : Int)), (0, g)]) (S' := [(2, (r : Int)), (0, 1), (0, (s 5)), (2, (r : Int))]) r_272_51 rfl rfl rfl ?_
    refine gx_gf (x := (b : Int)) 0 r_272_52 (rfl) (tride_0 hr) ⟨by omega, rfl, by decide, by decide⟩ rfl (fun z => absurd z (by decide)) (by show n17 r 1 = _; rw [e_n17, nu_no (by omega), e_m1, nu_ne (by decide)]; exact hs.2.1.trans hb) ?_
    refine gx_st (L' := [(2, (r : Int)), (2, (o : Int)), (0, g)]) (S' := [(0, (ishl 1 (b : Int))), (0, (s 5)), (2, (r : Int))]) r_272_55 rfl rfl rfl ?_
    refine gx_st (L' := [(2, (r : Int)), (2, (o : Int)), (0, g)]) (S' := [(0, (ior (s 5) ((ishl 1 (b : Int))))), (2, (r : Int))]) r_272_56 rfl rfl rfl ?_
    obtain ⟨m2, e_m2⟩ : ∃ z, z = nu_up n17 r 5 ((ior (s 5) ((ishl 1 (b : Int))))) := ⟨_, rfl⟩
    have hs_m2 : RdS w m2 r (upw (upw (upw s 0 g) (6 + b) ((s (6 + b)) + (s 2))) 5 ((ior (s 5) ((ishl 1 (b : Int)))))) := by rw [e_m2]; exact rds_f hs_n17 (i := 5) (by decide) _
    have fo_m2 : FrO 7 r m m2 := by rw [e_m2]; exact fro_f fo_n17 (by decide)
    refine gx_pf (x := (ior (s 5) ((ishl 1 (b : Int))))) 0 r_272_57 (rfl) (tride_0 hr) ⟨by omega, rfl, by decide, by decide⟩ rfl (fun z => absurd z (by decide)) (fun z => absurd z (by decide)) e_m2.symm ?_
    refine gx_st (L' := [(2, (r : Int)), (2, (o : Int)), (0, g)]) (S' := [(2, (r : Int))]) r_272_60 rfl rfl rfl ?_
    refine gx_st (L' := [(2, (r : Int)), (2, (o : Int)), (0, g)]) (S' := [(2, (o : Int)), (2, (r : Int))]) r_272_61 rfl rfl rfl ?_
    refine gx_st (L' := [(2, (r : Int)), (2, (o : Int)), (0, g)]) (S' := [(2, (r : Int)), (2, (o : Int)), (2, (r : Int))]) r_272_62 rfl rfl rfl ?_
    refine gx_gf (x := g) 0 r_272_63 (rfl) (tride_0 hr) ⟨by omega, rfl, by decide, by decide⟩ rfl (fun z => absurd z (by decide)) (by show m2 r 0 = _; rw [e_m2, nu_ne (by decide), e_n17, nu_no (by omega), e_m1, nu_at]) ?_
    refine gx_st (L' := [(2, (r : Int)), (2, (o : Int)), (0, g)]) (S' := [(2, (r : Int)), (0, g), (2, (o : Int)), (2, (r : Int))]) r_272_66 rfl rfl rfl ?_
    refine gx_gf (x := (ior (s 5) ((ishl 1 (b : Int))))) 0 r_272_67 (rfl) (tride_0 hr) ⟨by omega, rfl, by decide, by decide⟩ rfl (fun z => absurd z (by decide)) (by show m2 r 5 = _; rw [e_m2, nu_at]) ?_
    have hw_m2 : WD m2 o w := wd_fro hw fo_m2 hd
    have ir_m2 : IsleR m2 o := ir_fro hor fo_m2 hd
    refine gx_ci (nx := 73) (S2 := [(2, (r : Int))]) (w_263 hT ho ir_m2 hw_m2 g ((ior (s 5) ((ishl 1 (b : Int)))))) r_272_70 rfl rfl rfl rfl rfl (rcv_v rfl (tisle_0 ho) (by omega) rfl (by decide)) rfl (by decide) rfl (fun x70 n70 q70 => ?_)
    obtain ⟨e_x70, z_x70⟩ := q70
    have y_x70 := z_x70.symm
    subst y_x70
    rw [e_x70]
    show GX T 2 272 73 [(2, (r : Int)), (2, (o : Int)), (0, g)] [(0, (strongF w g ((ior (s 5) ((ishl 1 (b : Int))))))), (2, (r : Int))] m2 (RV (fun m1 => RdS w m1 r (carF w s g) ∧ FrO 7 r m m1))
    obtain ⟨m3, e_m3⟩ : ∃ z, z = nu_up m2 r 1 ((strongF w g ((ior (s 5) ((ishl 1 (b : Int))))))) := ⟨_, rfl⟩
    have hs_m3 : RdS w m3 r (upw (upw (upw (upw s 0 g) (6 + b) ((s (6 + b)) + (s 2))) 5 ((ior (s 5) ((ishl 1 (b : Int)))))) 1 ((strongF w g ((ior (s 5) ((ishl 1 (b : Int)))))))) := by rw [e_m3]; exact rds_f hs_m2 (i := 1) (by decide) _
    have fo_m3 : FrO 7 r m m3 := by rw [e_m3]; exact fro_f fo_m2 (by decide)
    refine gx_pf (x := (strongF w g ((ior (s 5) ((ishl 1 (b : Int))))))) 0 r_272_73 (rfl) (tride_0 hr) ⟨by omega, rfl, by decide, by decide⟩ rfl (fun z => absurd z (by decide)) (fun z => absurd z (by decide)) e_m3.symm ?_
    refine gx_st (L' := [(2, (r : Int)), (2, (o : Int)), (0, g)]) (S' := [(2, (r : Int))]) r_272_76 rfl rfl rfl ?_
    refine gx_gf (x := (strongF w g ((ior (s 5) ((ishl 1 (b : Int))))))) 0 r_272_77 (rfl) (tride_0 hr) ⟨by omega, rfl, by decide, by decide⟩ rfl (fun z => absurd z (by decide)) (by show m3 r 1 = _; rw [e_m3, nu_at]) ?_
    refine gx_st (L' := [(2, (r : Int)), (2, (o : Int)), (0, g)]) (S' := [(0, (-1)), (0, (strongF w g ((ior (s 5) ((ishl 1 (b : Int)))))))]) r_272_80 rfl rfl rfl ?_
    refine gx_ic (P := ¬ (strongF w g ((ior (s 5) ((ishl 1 (b : Int)))))) = (-1)) r_272_81 (rfl) (fun h81 => ?_) (fun h81 => ?_)
    · exact gx_rt r_272_89 rfl rfl ⟨rfl, (by rw [car_ch hb h42 h81]; exact hs_m3), fo_m3⟩
    · have h81 := Decidable.not_not.mp h81
      refine gx_st (L' := [(2, (r : Int)), (2, (o : Int)), (0, g)]) (S' := [(2, (r : Int))]) r_272_84 rfl rfl rfl ?_
      refine gx_st (L' := [(2, (r : Int)), (2, (o : Int)), (0, g)]) (S' := [(0, 0), (2, (r : Int))]) r_272_85 rfl rfl rfl ?_
      have rr_m3 : RideR m3 r := rr_fro hrr fo_m3 (by decide)
      refine gx_cv (nx := 89) (S2 := []) (z_273 hT hr rr_m3 hs_m3 0) r_272_86 rfl rfl rfl rfl rfl (rcv_v rfl (tride_0 hr) (by omega) rfl (by decide)) rfl (by decide) rfl (fun n86 q86 => ?_)
      obtain ⟨hs_n86, fq_n86⟩ := q86
      have fo_n86 : FrO 7 r m n86 := fro_tr fo_m3 fq_n86
      show GX T 2 272 89 [(2, (r : Int)), (2, (o : Int)), (0, g)] [] n86 (RV (fun m1 => RdS w m1 r (carF w s g) ∧ FrO 7 r m m1))
      exact gx_rt r_272_89 rfl rfl ⟨rfl, (by rw [car_no hb h42 h81]; exact rds_ov hs_n86), fo_n86⟩
theorem z_269 (hT : TT T) {o : Nat} (ho : IsleT T o) (hor : IsleR m o) {w : Wd} (hw : WD m o w) {r : Nat} (hr : RideT T r) (hrr : RideR m r) {s : Wd} (hs : RdS w m r s) (hd : r + 3 ≤ o ∨ o + 9 ≤ r) {D : Nat → Nat → Int} (hD : WyD w D) {p : Nat} (hb1 : ¬ s 1 = -1) (hp : s 0 = (p : Int)) (hpn : (p : Int) < w 0) (h : Nat) {a : Int} (ha : 0 ≤ a ∧ a ≤ 16) (ha0 : ¬ a = 0) : GX T 2 269 0 [(2, (r : Int)), (2, (o : Int)), (0, (h : Int)), (0, a), (9, 0)] [] m (RI (fun v m1 => v = (if canF w D (h : Int) a s = true then 1 else 0) ∧ m1 = m)) := by
  have ho0 := ho.1
  have hr0 := hr.1
  have hs_m := hs
  have fo_m : FrO 7 r m m := fro_rf
  obtain ⟨⟨w00, w07⟩, _, ⟨w50, w55⟩, ⟨w60, w63⟩, ⟨w70, w75⟩, _⟩ := hw.2.1
  refine gx_st (L' := [(2, (r : Int)), (2, (o : Int)), (0, (h : Int)), (0, a), (9, 0)]) (S' := [(0, a)]) r_269_0 rfl rfl rfl ?_
  refine gx_i0 (P := ¬ a = 0) r_269_1 (rfl) (fun h1 => ?_) (fun h1 => ?_)
  · refine gx_st (L' := [(2, (r : Int)), (2, (o : Int)), (0, (h : Int)), (0, a), (9, 0)]) (S' := [(0, a)]) r_269_6 rfl rfl rfl ?_
    refine gx_st (L' := [(2, (r : Int)), (2, (o : Int)), (0, (h : Int)), (0, a), (9, 0)]) (S' := [(0, 1), (0, a)]) r_269_7 rfl rfl rfl ?_
    refine gx_ic (P := ¬ a = 1) r_269_8 (rfl) (fun h8 => ?_) (fun h8 => ?_)
    · refine gx_st (L' := [(2, (r : Int)), (2, (o : Int)), (0, (h : Int)), (0, a), (9, 0)]) (S' := [(2, (r : Int))]) r_269_46 rfl rfl rfl ?_
      refine gx_st (L' := [(2, (r : Int)), (2, (o : Int)), (0, (h : Int)), (0, a), (9, 0)]) (S' := [(0, (h : Int)), (2, (r : Int))]) r_269_47 rfl rfl rfl ?_
      have rr_m : RideR m r := rr_fro hrr fo_m (by decide)
      have d48 : s 3 = (s 3) := (hs_m.2.2.2.1).symm.trans (hs.2.2.2.1)
      refine gx_ci (nx := 51) (S2 := []) (z_268 hT hr rr_m hs_m (h : Int)) r_269_48 rfl rfl rfl rfl rfl (rcv_v rfl (tride_0 hr) (by omega) rfl (by decide)) rfl (by decide) rfl (fun x48 n48 q48 => ?_)
      obtain ⟨e_x48, z_x48⟩ := q48
      have y_x48 := z_x48.symm
      subst y_x48
      rw [d48] at e_x48
      rw [e_x48]
      show GX T 2 269 51 [(2, (r : Int)), (2, (o : Int)), (0, (h : Int)), (0, a), (9, 0)] [(0, (if (h : Int) < (s 3) then 1 else 0))] m (RI (fun v m1 => v = (if canF w D (h : Int) a s = true then 1 else 0) ∧ m1 = m))
      refine gx_i0 (P := (h : Int) < (s 3)) r_269_51 (b01_ne) (fun h51 => ?_) (fun h51 => ?_)
      · refine gx_st (L' := [(2, (r : Int)), (2, (o : Int)), (0, (h : Int)), (0, a), (9, 0)]) (S' := [(0, a)]) r_269_56 rfl rfl rfl ?_
        refine gx_st (L' := [(2, (r : Int)), (2, (o : Int)), (0, (h : Int)), (0, a), (9, 0)]) (S' := [(0, 2), (0, a)]) r_269_57 rfl rfl rfl ?_
        refine gx_ic (P := ¬ a = 2) r_269_58 (rfl) (fun h58 => ?_) (fun h58 => ?_)
        · refine gx_st (L' := [(2, (r : Int)), (2, (o : Int)), (0, (h : Int)), (0, a), (9, 0)]) (S' := [(2, (o : Int))]) r_269_73 rfl rfl rfl ?_
          refine gx_gf (x := (o : Int) + 7) 2 r_269_74 (rfl) (tisle_0 ho) ⟨by omega, rfl, by decide, by decide⟩ rfl (fun _ => by omega) (hor.2.2.2.2.2.2.1) ?_
          refine gx_st (L' := [(2, (r : Int)), (2, (o : Int)), (0, (h : Int)), (0, a), (9, 0)]) (S' := [(2, (r : Int)), (2, (o : Int) + 7)]) r_269_77 rfl rfl rfl ?_
          refine gx_gf (x := (p : Int)) 0 r_269_78 (rfl) (tride_0 hr) ⟨by omega, rfl, by decide, by decide⟩ rfl (fun z => absurd z (by decide)) (hs.1.trans hp) ?_
          refine gx_ci (nx := 84) (S2 := []) (c_237 (r := o + 7) (n := 7) (tisle_7 ho) (by omega) (by decide) (k := p) (by omega)) r_269_81 rfl rfl rfl rfl rfl rfl rfl (by decide) rfl (fun x81 n81 q81 => ?_)
          obtain rfl := q81.1.symm
          obtain rfl := q81.2.symm
          show GX T 2 269 84 [(2, (r : Int)), (2, (o : Int)), (0, (h : Int)), (0, a), (9, 0)] [(0, (m (o + 7) p))] m (RI (fun v m1 => v = (if canF w D (h : Int) a s = true then 1 else 0) ∧ m1 = m))
          refine gx_st (L' := [(2, (r : Int)), (2, (o : Int)), (0, (h : Int)), (0, a), (9, 0)]) (S' := [(0, a), (0, (m (o + 7) p))]) r_269_84 rfl rfl rfl ?_
          refine gx_st (L' := [(2, (r : Int)), (2, (o : Int)), (0, (h : Int)), (0, a), (9, 0)]) (S' := [(0, 10), (0, a), (0, (m (o + 7) p))]) r_269_85 rfl rfl rfl ?_
          refine gx_ar (L' := [(2, (r : Int)), (2, (o : Int)), (0, (h : Int)), (0, a), (9, 0)]) (S' := [(0, (m (o + 7) p))]) (t := 0) (e := w32 (a - 10)) (z := a - 10) r_269_87 rfl rfl rfl (w32_eq (by omega) (by omega) (by omega)) ?_
          refine gx_ci (nx := 91) (S2 := []) (x_242 ((m (o + 7) p)) (a - 10)) r_269_88 rfl rfl rfl rfl rfl rfl rfl (by decide) rfl (fun x88 n88 q88 => ?_)
          obtain rfl := q88.1.symm
          obtain rfl := q88.2.symm
          show GX T 2 269 91 [(2, (r : Int)), (2, (o : Int)), (0, (h : Int)), (0, a), (9, 0)] [(0, (if 0 ≤ a - 10 ∧ a - 10 < 32 ∧ iand (ishr ((m (o + 7) p)) (a - 10)) 1 = 1 then 1 else 0))] m (RI (fun v m1 => v = (if canF w D (h : Int) a s = true then 1 else 0) ∧ m1 = m))
          exact gx_rb r_269_91 rfl (by split <;> omega) ⟨_, rfl, if_iff (can_ca hb1 hp ha h8 h58 ha0 h51 hw hD (by omega)), rfl⟩
        · have h58 := Decidable.not_not.mp h58
          refine gx_st (L' := [(2, (r : Int)), (2, (o : Int)), (0, (h : Int)), (0, a), (9, 0)]) (S' := [(2, (o : Int))]) r_269_61 rfl rfl rfl ?_
          refine gx_gf (x := (w 10)) 0 r_269_62 (rfl) (tisle_0 ho) ⟨by omega, rfl, by decide, by decide⟩ rfl (fun z => absurd z (by decide)) ((wd_brook hw)) ?_
          refine gx_st (L' := [(2, (r : Int)), (2, (o : Int)), (0, (h : Int)), (0, a), (9, 0)]) (S' := [(2, (r : Int)), (0, (w 10))]) r_269_65 rfl rfl rfl ?_
          refine gx_gf (x := (p : Int)) 0 r_269_66 (rfl) (tride_0 hr) ⟨by omega, rfl, by decide, by decide⟩ rfl (fun z => absurd z (by decide)) (hs.1.trans hp) ?_
          refine gx_ci (nx := 72) (S2 := []) (x_242 (w 10) (p : Int)) r_269_69 rfl rfl rfl rfl rfl rfl rfl (by decide) rfl (fun x69 n69 q69 => ?_)
          obtain rfl := q69.1.symm
          obtain rfl := q69.2.symm
          show GX T 2 269 72 [(2, (r : Int)), (2, (o : Int)), (0, (h : Int)), (0, a), (9, 0)] [(0, (if 0 ≤ (p : Int) ∧ (p : Int) < 32 ∧ iand (ishr (w 10) (p : Int)) 1 = 1 then 1 else 0))] m (RI (fun v m1 => v = (if canF w D (h : Int) a s = true then 1 else 0) ∧ m1 = m))
          exact gx_rb r_269_72 rfl (by split <;> omega) ⟨_, rfl, if_iff (can_th hb1 hp (by omega) h58 h51), rfl⟩
      · refine gx_st (L' := [(2, (r : Int)), (2, (o : Int)), (0, (h : Int)), (0, a), (9, 0)]) (S' := [(0, 0)]) r_269_54 rfl rfl rfl ?_
        exact gx_rb r_269_55 rfl (Or.inl rfl) ⟨_, rfl, (if_neg (can_so hb1 ha0 h8 h51)).symm, rfl⟩
    · have h8 := Decidable.not_not.mp h8
      refine gx_st (L' := [(2, (r : Int)), (2, (o : Int)), (0, (h : Int)), (0, a), (9, 0)]) (S' := [(2, (o : Int))]) r_269_11 rfl rfl rfl ?_
      refine gx_st (L' := [(2, (r : Int)), (2, (o : Int)), (0, (h : Int)), (0, a), (9, 0)]) (S' := [(2, (r : Int)), (2, (o : Int))]) r_269_12 rfl rfl rfl ?_
      refine gx_gf (x := (p : Int)) 0 r_269_13 (rfl) (tride_0 hr) ⟨by omega, rfl, by decide, by decide⟩ rfl (fun z => absurd z (by decide)) (hs.1.trans hp) ?_
      refine gx_st (L' := [(2, (r : Int)), (2, (o : Int)), (0, (h : Int)), (0, a), (9, 0)]) (S' := [(0, (h : Int)), (0, (p : Int)), (2, (o : Int))]) r_269_16 rfl rfl rfl ?_
      refine gx_st (L' := [(2, (r : Int)), (2, (o : Int)), (0, (h : Int)), (0, a), (9, 0)]) (S' := [(2, (r : Int)), (0, (h : Int)), (0, (p : Int)), (2, (o : Int))]) r_269_17 rfl rfl rfl ?_
      refine gx_gf (x := (s 4)) 0 r_269_18 (rfl) (tride_0 hr) ⟨by omega, rfl, by decide, by decide⟩ rfl (fun z => absurd z (by decide)) (hs.2.2.2.2.1) ?_
      have hw_m : WD m o w := wd_fro hw fo_m hd
      have ir_m : IsleR m o := ir_fro hor fo_m hd
      refine gx_ci (nx := 24) (S2 := []) (w_264 hT ho ir_m hw_m (p : Int) (h : Int) (s 4)) r_269_21 rfl rfl rfl rfl rfl (rcv_v rfl (tisle_0 ho) (by omega) rfl (by decide)) rfl (by decide) rfl (fun x21 n21 q21 => ?_)
      obtain ⟨e_x21, z_x21⟩ := q21
      have y_x21 := z_x21.symm
      subst y_x21
      rw [e_x21]
      show GX T 2 269 24 [(2, (r : Int)), (2, (o : Int)), (0, (h : Int)), (0, a), (9, 0)] [(0, (vineF w (p : Int) (h : Int) (s 4)))] m (RI (fun v m1 => v = (if canF w D (h : Int) a s = true then 1 else 0) ∧ m1 = m))
      refine gx_st (L' := [(2, (r : Int)), (2, (o : Int)), (0, (h : Int)), (0, a), (0, (vineF w (p : Int) (h : Int) (s 4)))]) (S' := []) r_269_24 rfl rfl rfl ?_
      refine gx_st (L' := [(2, (r : Int)), (2, (o : Int)), (0, (h : Int)), (0, a), (0, (vineF w (p : Int) (h : Int) (s 4)))]) (S' := [(2, (r : Int))]) r_269_26 rfl rfl rfl ?_
      refine gx_st (L' := [(2, (r : Int)), (2, (o : Int)), (0, (h : Int)), (0, a), (0, (vineF w (p : Int) (h : Int) (s 4)))]) (S' := [(0, (h : Int)), (2, (r : Int))]) r_269_27 rfl rfl rfl ?_
      have rr_m : RideR m r := rr_fro hrr fo_m (by decide)
      have d28 : s 3 = (s 3) := (hs_m.2.2.2.1).symm.trans (hs.2.2.2.1)
      refine gx_ci (nx := 31) (S2 := []) (z_268 hT hr rr_m hs_m (h : Int)) r_269_28 rfl rfl rfl rfl rfl (rcv_v rfl (tride_0 hr) (by omega) rfl (by decide)) rfl (by decide) rfl (fun x28 n28 q28 => ?_)
      obtain ⟨e_x28, z_x28⟩ := q28
      have y_x28 := z_x28.symm
      subst y_x28
      rw [d28] at e_x28
      rw [e_x28]
      show GX T 2 269 31 [(2, (r : Int)), (2, (o : Int)), (0, (h : Int)), (0, a), (0, (vineF w (p : Int) (h : Int) (s 4)))] [(0, (if (h : Int) < (s 3) then 1 else 0))] m (RI (fun v m1 => v = (if canF w D (h : Int) a s = true then 1 else 0) ∧ m1 = m))
      refine gx_i0 (P := (h : Int) < (s 3)) r_269_31 (b01_ne) (fun h31 => ?_) (fun h31 => ?_)
      · refine gx_st (L' := [(2, (r : Int)), (2, (o : Int)), (0, (h : Int)), (0, a), (0, (vineF w (p : Int) (h : Int) (s 4)))]) (S' := [(0, 0)]) r_269_44 rfl rfl rfl ?_
        exact gx_rb r_269_45 rfl (Or.inl rfl) ⟨_, rfl, (if_neg (can_of0 hb1 hp h8 (by first | exact Or.inl h31 | exact Or.inr h37))).symm, rfl⟩
      · refine gx_st (L' := [(2, (r : Int)), (2, (o : Int)), (0, (h : Int)), (0, a), (0, (vineF w (p : Int) (h : Int) (s 4)))]) (S' := [(0, (vineF w (p : Int) (h : Int) (s 4)))]) r_269_34 rfl rfl rfl ?_
        refine gx_st (L' := [(2, (r : Int)), (2, (o : Int)), (0, (h : Int)), (0, a), (0, (vineF w (p : Int) (h : Int) (s 4)))]) (S' := [(0, (-1)), (0, (vineF w (p : Int) (h : Int) (s 4)))]) r_269_36 rfl rfl rfl ?_
        refine gx_ic (P := (vineF w (p : Int) (h : Int) (s 4)) = (-1)) r_269_37 (rfl) (fun h37 => ?_) (fun h37 => ?_)
        · refine gx_st (L' := [(2, (r : Int)), (2, (o : Int)), (0, (h : Int)), (0, a), (0, (vineF w (p : Int) (h : Int) (s 4)))]) (S' := [(0, 0)]) r_269_44 rfl rfl rfl ?_
          exact gx_rb r_269_45 rfl (Or.inl rfl) ⟨_, rfl, (if_neg (can_of0 hb1 hp h8 (by first | exact Or.inl h31 | exact Or.inr h37))).symm, rfl⟩
        · refine gx_st (L' := [(2, (r : Int)), (2, (o : Int)), (0, (h : Int)), (0, a), (0, (vineF w (p : Int) (h : Int) (s 4)))]) (S' := [(0, 1)]) r_269_40 rfl rfl rfl ?_
          refine gx_st (L' := [(2, (r : Int)), (2, (o : Int)), (0, (h : Int)), (0, a), (0, (vineF w (p : Int) (h : Int) (s 4)))]) (S' := [(0, 1)]) r_269_41 rfl rfl rfl ?_
          exact gx_rb r_269_45 rfl (Or.inr rfl) ⟨_, rfl, (if_pos (can_of hb1 hp h8 h31 h37)).symm, rfl⟩
  · have h1 := Decidable.not_not.mp h1
    refine gx_st (L' := [(2, (r : Int)), (2, (o : Int)), (0, (h : Int)), (0, a), (9, 0)]) (S' := [(0, 1)]) r_269_4 rfl rfl rfl ?_
    exact absurd h1 ha0
theorem t_270 (hT : TT T) {o : Nat} (ho : IsleT T o) (hor : IsleR m o) {w : Wd} (hw : WD m o w) {r : Nat} (hr : RideT T r) (hrr : RideR m r) {s : Wd} (hs : RdS w m r s) (hd : r + 3 ≤ o ∨ o + 9 ≤ r) {D : Nat → Nat → Int} (hD : WyD w D) {b p : Nat} (hb : s 1 = (b : Int)) (hb7 : (b : Int) < w 7) (hp : s 0 = (p : Int)) (hpn : (p : Int) < w 0) (k2 : 0 ≤ s 2 ∧ s 2 ≤ 60) (k6 : ∀ b : Nat, b < 5 → 0 ≤ s (6 + b) ∧ s (6 + b) ≤ 600) (k11 : ∀ t : Nat, t < 5 → (t : Int) < w 5 → 0 ≤ s (11 + t) ∧ s (11 + t) ≤ 9) (h : Nat) (a x : Int) : GX T 3 270 124 [(2, (r : Int)), (2, (o : Int)), (0, (h : Int)), (0, a), (0, x), (9, 0), (9, 0)] [] m (RI (fun v m1 => v = (goF w D (h : Int) s).2 ∧ RdS w m1 r (goF w D (h : Int) s).1 ∧ FrO 7 r m m1)) := by
  have ho0 := ho.1
  have hr0 := hr.1
  have hs_m := hs
  have fo_m : FrO 7 r m m := fro_rf
  obtain ⟨⟨w00, w07⟩, _, ⟨w50, w55⟩, ⟨w60, w63⟩, ⟨w70, w75⟩, _⟩ := hw.2.1
  refine gx_st (L' := [(2, (r : Int)), (2, (o : Int)), (0, (h : Int)), (0, a), (0, x), (9, 0), (9, 0)]) (S' := [(2, (r : Int))]) r_270_124 rfl rfl rfl ?_
  refine gx_st (L' := [(2, (r : Int)), (2, (o : Int)), (0, (h : Int)), (0, a), (0, x), (9, 0), (9, 0)]) (S' := [(0, (h : Int)), (2, (r : Int))]) r_270_125 rfl rfl rfl ?_
  have rr_m : RideR m r := rr_fro hrr fo_m (by decide)
  have d126 : s 3 = (s 3) := (hs_m.2.2.2.1).symm.trans (hs.2.2.2.1)
  refine gx_ci (nx := 129) (S2 := []) (z_268 hT hr rr_m hs_m (h : Int)) r_270_126 rfl rfl rfl rfl rfl (rcv_v rfl (tride_0 hr) (by omega) rfl (by decide)) rfl (by decide) rfl (fun x126 n126 q126 => ?_)
  obtain ⟨e_x126, z_x126⟩ := q126
  have y_x126 := z_x126.symm
  subst y_x126
  rw [d126] at e_x126
  rw [e_x126]
  show GX T 3 270 129 [(2, (r : Int)), (2, (o : Int)), (0, (h : Int)), (0, a), (0, x), (9, 0), (9, 0)] [(0, (if (h : Int) < (s 3) then 1 else 0))] m (RI (fun v m1 => v = (goF w D (h : Int) s).2 ∧ RdS w m1 r (goF w D (h : Int) s).1 ∧ FrO 7 r m m1))
  refine gx_i0 (P := ¬ ((h : Int) < (s 3))) r_270_129 (b01_eq) (fun h129 => ?_) (fun h129 => ?_)
  · refine gx_st (L' := [(2, (r : Int)), (2, (o : Int)), (0, (h : Int)), (0, a), (0, x), (9, 0), (9, 0)]) (S' := [(2, (o : Int))]) r_270_134 rfl rfl rfl ?_
    refine gx_st (L' := [(2, (r : Int)), (2, (o : Int)), (0, (h : Int)), (0, a), (0, x), (9, 0), (9, 0)]) (S' := [(2, (r : Int)), (2, (o : Int))]) r_270_135 rfl rfl rfl ?_
    refine gx_gf (x := (p : Int)) 0 r_270_136 (rfl) (tride_0 hr) ⟨by omega, rfl, by decide, by decide⟩ rfl (fun z => absurd z (by decide)) (hs.1.trans hp) ?_
    refine gx_st (L' := [(2, (r : Int)), (2, (o : Int)), (0, (h : Int)), (0, a), (0, x), (9, 0), (9, 0)]) (S' := [(2, (r : Int)), (0, (p : Int)), (2, (o : Int))]) r_270_139 rfl rfl rfl ?_
    refine gx_gf (x := (r : Int) + 2) 2 r_270_140 (rfl) (tride_0 hr) ⟨by omega, rfl, by decide, by decide⟩ rfl (fun _ => by omega) (hrr.2) ?_
    refine gx_ci (nx := 146) (S2 := []) (w_261 hT ho hor hw hD (l := r + 2) (p := p) (s := s) (tride_2 hr) (by omega) hpn hs.2.2.2.2.2.2.2.2) r_270_143 rfl rfl rfl rfl rfl (rcv_v rfl (tisle_0 ho) (by omega) rfl (by decide)) rfl (by decide) rfl (fun x143 n143 q143 => ?_)
    obtain ⟨e_x143, z_x143⟩ := q143
    have y_x143 := z_x143.symm
    subst y_x143
    show GX T 3 270 146 [(2, (r : Int)), (2, (o : Int)), (0, (h : Int)), (0, a), (0, x), (9, 0), (9, 0)] [(0, x143)] m (RI (fun v m1 => v = (goF w D (h : Int) s).2 ∧ RdS w m1 r (goF w D (h : Int) s).1 ∧ FrO 7 r m m1))
    refine gx_st (L' := [(2, (r : Int)), (2, (o : Int)), (0, (h : Int)), (0, a), (0, x), (0, x143), (9, 0)]) (S' := []) r_270_146 rfl rfl rfl ?_
    refine gx_st (L' := [(2, (r : Int)), (2, (o : Int)), (0, (h : Int)), (0, a), (0, x), (0, x143), (9, 0)]) (S' := [(0, x143)]) r_270_148 rfl rfl rfl ?_
    refine gx_st (L' := [(2, (r : Int)), (2, (o : Int)), (0, (h : Int)), (0, a), (0, x), (0, x143), (9, 0)]) (S' := [(0, (-1)), (0, x143)]) r_270_150 rfl rfl rfl ?_
    refine gx_ic (P := ¬ x143 = (-1)) r_270_151 (rfl) (fun h151 => ?_) (fun h151 => ?_)
    · rcases steer_ok w D p s with hno | ⟨t, t1, t2, t3, t4⟩
      · exact absurd (e_x143.trans hno) h151
      have t5 := hw.2.2.2.1 t (by omega) t2
      obtain ⟨g, hg⟩ : ∃ g : Nat, w (31 + 2 * t) = (g : Int) := ⟨(w (31 + 2 * t)).toNat, by omega⟩
      rw [nat_of hg] at t4
      have hgn : (g : Int) < w 0 := by omega
      have ex := e_x143.trans t1
      rw [ex]
      show GX T 3 270 156 [(2, (r : Int)), (2, (o : Int)), (0, (h : Int)), (0, a), (0, x), (0, (t : Int)), (9, 0)] [] m (RI (fun v m1 => v = (goF w D (h : Int) s).2 ∧ RdS w m1 r (goF w D (h : Int) s).1 ∧ FrO 7 r m m1))
      refine gx_st (L' := [(2, (r : Int)), (2, (o : Int)), (0, (h : Int)), (0, a), (0, x), (0, (t : Int)), (9, 0)]) (S' := [(2, (o : Int))]) r_270_156 rfl rfl rfl ?_
      refine gx_gf (x := (o : Int) + 1) 2 r_270_157 (rfl) (tisle_0 ho) ⟨by omega, rfl, by decide, by decide⟩ rfl (fun _ => by omega) (hor.1) ?_
      refine gx_st (L' := [(2, (r : Int)), (2, (o : Int)), (0, (h : Int)), (0, a), (0, x), (0, (t : Int)), (9, 0)]) (S' := [(0, (t : Int)), (2, (o : Int) + 1)]) r_270_160 rfl rfl rfl ?_
      have hw_m : WD m o w := wd_fro hw fo_m hd
      have ir_m : IsleR m o := ir_fro hor fo_m hd
      have c162 : m (o + 1) t = (g : Int) := (wd_tree hw_m (t := t) (by omega)).1.trans hg
      refine gx_ci (nx := 165) (S2 := []) (c_237 (r := o + 1) (n := 5) (tisle_1 ho) (by omega) (by decide) (k := t) (by omega)) r_270_162 rfl rfl rfl rfl rfl rfl rfl (by decide) rfl (fun x162 n162 q162 => ?_)
      obtain ⟨e_x162, z_x162⟩ := q162
      have y_x162 := z_x162.symm
      subst y_x162
      rw [e_x162, c162]
      show GX T 3 270 165 [(2, (r : Int)), (2, (o : Int)), (0, (h : Int)), (0, a), (0, x), (0, (t : Int)), (9, 0)] [(0, (g : Int))] m (RI (fun v m1 => v = (goF w D (h : Int) s).2 ∧ RdS w m1 r (goF w D (h : Int) s).1 ∧ FrO 7 r m m1))
      refine gx_st (L' := [(2, (r : Int)), (2, (o : Int)), (0, (h : Int)), (0, a), (0, x), (0, (t : Int)), (0, (g : Int))]) (S' := []) r_270_165 rfl rfl rfl ?_
      refine gx_st (L' := [(2, (r : Int)), (2, (o : Int)), (0, (h : Int)), (0, a), (0, x), (0, (t : Int)), (0, (g : Int))]) (S' := [(0, (g : Int))]) r_270_167 rfl rfl rfl ?_
      refine gx_st (L' := [(2, (r : Int)), (2, (o : Int)), (0, (h : Int)), (0, a), (0, x), (0, (t : Int)), (0, (g : Int))]) (S' := [(2, (r : Int)), (0, (g : Int))]) r_270_169 rfl rfl rfl ?_
      refine gx_gf (x := (p : Int)) 0 r_270_170 (rfl) (tride_0 hr) ⟨by omega, rfl, by decide, by decide⟩ rfl (fun z => absurd z (by decide)) (hs.1.trans hp) ?_
      refine gx_ic (P := ¬ (g : Int) = (p : Int)) r_270_173 (rfl) (fun h173 => ?_) (fun h173 => ?_)
      · refine gx_st (L' := [(2, (r : Int)), (2, (o : Int)), (0, (h : Int)), (0, a), (0, x), (0, (t : Int)), (0, (g : Int))]) (S' := [(2, (r : Int))]) r_270_184 rfl rfl rfl ?_
        refine gx_st (L' := [(2, (r : Int)), (2, (o : Int)), (0, (h : Int)), (0, a), (0, x), (0, (t : Int)), (0, (g : Int))]) (S' := [(2, (o : Int)), (2, (r : Int))]) r_270_185 rfl rfl rfl ?_
        refine gx_st (L' := [(2, (r : Int)), (2, (o : Int)), (0, (h : Int)), (0, a), (0, x), (0, (t : Int)), (0, (g : Int))]) (S' := [(2, (o : Int)), (2, (o : Int)), (2, (r : Int))]) r_270_186 rfl rfl rfl ?_
        refine gx_st (L' := [(2, (r : Int)), (2, (o : Int)), (0, (h : Int)), (0, a), (0, x), (0, (t : Int)), (0, (g : Int))]) (S' := [(2, (r : Int)), (2, (o : Int)), (2, (o : Int)), (2, (r : Int))]) r_270_187 rfl rfl rfl ?_
        refine gx_gf (x := (p : Int)) 0 r_270_188 (rfl) (tride_0 hr) ⟨by omega, rfl, by decide, by decide⟩ rfl (fun z => absurd z (by decide)) (hs.1.trans hp) ?_
        refine gx_st (L' := [(2, (r : Int)), (2, (o : Int)), (0, (h : Int)), (0, a), (0, x), (0, (t : Int)), (0, (g : Int))]) (S' := [(0, (g : Int)), (0, (p : Int)), (2, (o : Int)), (2, (o : Int)), (2, (r : Int))]) r_270_191 rfl rfl rfl ?_
        obtain ⟨q, q1, q2, q3, q4⟩ := step_ok hw.2.1 hD hpn hgn (fun z => h173 (by omega)) t4
        refine gx_ci (nx := 196) (S2 := [(2, (o : Int)), (2, (r : Int))]) (w_262 hT ho hor hw hD (p := p) (g := g) hpn hgn (fun z => h173 (by omega)) t4) r_270_193 rfl rfl rfl rfl rfl (rcv_v rfl (tisle_0 ho) (by omega) rfl (by decide)) rfl (by decide) rfl (fun x193 n193 q193 => ?_)
        obtain ⟨e_x193, z_x193⟩ := q193
        have y_x193 := z_x193.symm
        subst y_x193
        rw [e_x193]
        show GX T 3 270 196 [(2, (r : Int)), (2, (o : Int)), (0, (h : Int)), (0, a), (0, x), (0, (t : Int)), (0, (g : Int))] [(0, (stepF w D p g)), (2, (o : Int)), (2, (r : Int))] m (RI (fun v m1 => v = (goF w D (h : Int) s).2 ∧ RdS w m1 r (goF w D (h : Int) s).1 ∧ FrO 7 r m m1))
        refine gx_cv (nx := 199) (S2 := []) (z_272 hT ho hor hw hr hrr hs hd hb hb7 k2 (k6 b (by omega)) (stepF w D p g)) r_270_196 rfl rfl rfl rfl rfl (rcv_v rfl (tride_0 hr) (by omega) rfl (by decide)) rfl (by decide) rfl (fun n196 q196 => ?_)
        obtain ⟨hs_n196, fo_n196⟩ := q196
        show GX T 3 270 199 [(2, (r : Int)), (2, (o : Int)), (0, (h : Int)), (0, a), (0, x), (0, (t : Int)), (0, (g : Int))] [] n196 (RI (fun v m1 => v = (goF w D (h : Int) s).2 ∧ RdS w m1 r (goF w D (h : Int) s).1 ∧ FrO 7 r m m1))
        refine gx_st (L' := [(2, (r : Int)), (2, (o : Int)), (0, (h : Int)), (0, a), (0, x), (0, (t : Int)), (0, (g : Int))]) (S' := [(0, 3)]) r_270_199 rfl rfl rfl ?_
        exact gx_rt r_270_200 rfl rfl ⟨_, rfl, by rw [go_ca hp h129 t1 hg h173], by rw [go_ca hp h129 t1 hg h173]; exact hs_n196, fo_n196⟩
      · have h173 := Decidable.not_not.mp h173
        refine gx_st (L' := [(2, (r : Int)), (2, (o : Int)), (0, (h : Int)), (0, a), (0, x), (0, (t : Int)), (0, (g : Int))]) (S' := [(2, (r : Int))]) r_270_176 rfl rfl rfl ?_
        refine gx_st (L' := [(2, (r : Int)), (2, (o : Int)), (0, (h : Int)), (0, a), (0, x), (0, (t : Int)), (0, (g : Int))]) (S' := [(0, (t : Int)), (2, (r : Int))]) r_270_177 rfl rfl rfl ?_
        refine gx_cv (nx := 182) (S2 := []) (z_271 hT hr hrr hs (t := t) t2 hb (by omega) (by omega) k2 (k6 b (by omega)) (k11 t (by omega) t2)) r_270_179 rfl rfl rfl rfl rfl (rcv_v rfl (tride_0 hr) (by omega) rfl (by decide)) rfl (by decide) rfl (fun n179 q179 => ?_)
        obtain ⟨hs_n179, fo_n179⟩ := q179
        show GX T 3 270 182 [(2, (r : Int)), (2, (o : Int)), (0, (h : Int)), (0, a), (0, x), (0, (t : Int)), (0, (g : Int))] [] n179 (RI (fun v m1 => v = (goF w D (h : Int) s).2 ∧ RdS w m1 r (goF w D (h : Int) s).1 ∧ FrO 7 r m m1))
        refine gx_st (L' := [(2, (r : Int)), (2, (o : Int)), (0, (h : Int)), (0, a), (0, x), (0, (t : Int)), (0, (g : Int))]) (S' := [(0, 2)]) r_270_182 rfl rfl rfl ?_
        exact gx_rt r_270_183 rfl rfl ⟨_, rfl, by rw [go_ea hp h129 t1 hg h173], by rw [go_ea hp h129 t1 hg h173]; exact hs_n179, fo_n179⟩
    · have h151 := Decidable.not_not.mp h151
      refine gx_st (L' := [(2, (r : Int)), (2, (o : Int)), (0, (h : Int)), (0, a), (0, x), (0, x143), (9, 0)]) (S' := [(0, 4)]) r_270_154 rfl rfl rfl ?_
      exact gx_rt r_270_155 rfl rfl ⟨_, rfl, by rw [go_sta hp h129 (e_x143.symm.trans h151)], by rw [go_sta hp h129 (e_x143.symm.trans h151)]; exact hs_m, fo_m⟩
  · have h129 := Decidable.not_not.mp h129
    refine gx_st (L' := [(2, (r : Int)), (2, (o : Int)), (0, (h : Int)), (0, a), (0, x), (9, 0), (9, 0)]) (S' := [(0, 1)]) r_270_132 rfl rfl rfl ?_
    exact gx_rt r_270_133 rfl rfl ⟨_, rfl, by rw [go_sl h129], by rw [go_sl h129]; exact hs_m, fo_m⟩
theorem n_270 (hT : TT T) {o : Nat} (ho : IsleT T o) (hor : IsleR m o) {w : Wd} (hw : WD m o w) {r : Nat} (hr : RideT T r) (hrr : RideR m r) {s : Wd} (hs : RdS w m r s) {D : Nat → Nat → Int} (hb0 : s 1 = -1) (h : Nat) (a : Int) : GX T 3 270 0 [(2, (r : Int)), (2, (o : Int)), (0, (h : Int)), (0, a), (9, 0), (9, 0), (9, 0)] [] m (RI (fun v m1 => v = (hourF w D (h : Int) a s).2 ∧ RdS w m1 r (hourF w D (h : Int) a s).1 ∧ FrO 8 r m m1 ∧ m1 r 7 = (if canF w D (h : Int) a s = true then 1 else 0))) := by
  have ho0 := ho.1
  have hr0 := hr.1
  have hs_m := hs
  have fo_m : FrO 8 r m m := fro_rf
  obtain ⟨⟨w00, w07⟩, _, ⟨w50, w55⟩, ⟨w60, w63⟩, ⟨w70, w75⟩, _⟩ := hw.2.1
  refine gx_st (L' := [(2, (r : Int)), (2, (o : Int)), (0, (h : Int)), (0, a), (9, 0), (9, 0), (9, 0)]) (S' := [(2, (r : Int))]) r_270_0 rfl rfl rfl ?_
  refine gx_st (L' := [(2, (r : Int)), (2, (o : Int)), (0, (h : Int)), (0, a), (9, 0), (9, 0), (9, 0)]) (S' := [(2, (r : Int)), (2, (r : Int))]) r_270_1 rfl rfl rfl ?_
  refine gx_gf (x := (-1)) 0 r_270_2 (rfl) (tride_0 hr) ⟨by omega, rfl, by decide, by decide⟩ rfl (fun z => absurd z (by decide)) (hs.2.1.trans hb0) ?_
  refine gx_st (L' := [(2, (r : Int)), (2, (o : Int)), (0, (h : Int)), (0, a), (9, 0), (9, 0), (9, 0)]) (S' := [(0, (-1)), (0, (-1)), (2, (r : Int))]) r_270_5 rfl rfl rfl ?_
  refine gx_ic (P := (-1) = (-1)) r_270_6 (rfl) (fun h6 => ?_) (fun h6 => ?_)
  · refine gx_st (L' := [(2, (r : Int)), (2, (o : Int)), (0, (h : Int)), (0, a), (9, 0), (9, 0), (9, 0)]) (S' := [(0, 0), (2, (r : Int))]) r_270_27 rfl rfl rfl ?_
    obtain ⟨m1, e_m1⟩ : ∃ z, z = nu_up m r 7 0 := ⟨_, rfl⟩
    have hs_m1 : RdS w m1 r s := by rw [e_m1]; exact rds_7 hs_m (i := 7) (by decide) _
    have fo_m1 : FrO 8 r m m1 := by rw [e_m1]; exact fro_f fo_m (by decide)
    refine gx_pf (x := 0) 0 r_270_28 (rfl) (tride_0 hr) ⟨by omega, rfl, by decide, by decide⟩ rfl (fun _ => by omega) (fun z => absurd z (by decide)) e_m1.symm ?_
    refine gx_st (L' := [(2, (r : Int)), (2, (o : Int)), (0, (h : Int)), (0, a), (9, 0), (9, 0), (9, 0)]) (S' := [(2, (r : Int))]) r_270_31 rfl rfl rfl ?_
    refine gx_gf (x := (-1)) 0 r_270_32 (rfl) (tride_0 hr) ⟨by omega, rfl, by decide, by decide⟩ rfl (fun z => absurd z (by decide)) (by show m1 r 1 = _; rw [e_m1, nu_ne (by decide)]; exact hs.2.1.trans hb0) ?_
    refine gx_st (L' := [(2, (r : Int)), (2, (o : Int)), (0, (h : Int)), (0, a), (9, 0), (9, 0), (9, 0)]) (S' := [(0, (-1)), (0, (-1))]) r_270_35 rfl rfl rfl ?_
    refine gx_ic (P := ¬ (-1) = (-1)) r_270_36 (rfl) (fun h36 => ?_) (fun h36 => ?_)
    · omega
    · have h36 := Decidable.not_not.mp h36
      refine gx_st (L' := [(2, (r : Int)), (2, (o : Int)), (0, (h : Int)), (0, a), (9, 0), (9, 0), (9, 0)]) (S' := [(0, 0)]) r_270_39 rfl rfl rfl ?_
      exact gx_rt r_270_40 rfl rfl ⟨_, rfl, by rw [hour_0 hb0], by rw [hour_0 hb0]; exact hs_m1, fo_m1, by rw [if_neg (can_b0 hb0), e_m1, nu_at]⟩
  · omega
theorem r_270 (hT : TT T) {o : Nat} (ho : IsleT T o) (hor : IsleR m o) {w : Wd} (hw : WD m o w) {r : Nat} (hr : RideT T r) (hrr : RideR m r) {s : Wd} (hs : RdS w m r s) (hd : r + 3 ≤ o ∨ o + 9 ≤ r) {D : Nat → Nat → Int} (hD : WyD w D) {b p : Nat} (hb : s 1 = (b : Int)) (hb7 : (b : Int) < w 7) (hp : s 0 = (p : Int)) (hpn : (p : Int) < w 0) (k2 : 0 ≤ s 2 ∧ s 2 ≤ 60) (k6 : ∀ b : Nat, b < 5 → 0 ≤ s (6 + b) ∧ s (6 + b) ≤ 600) (k11 : ∀ t : Nat, t < 5 → (t : Int) < w 5 → 0 ≤ s (11 + t) ∧ s (11 + t) ≤ 9) (h : Nat) (hh : h ≤ 12) {a : Int} (ha : 0 ≤ a ∧ a ≤ 16) : GX T 3 270 0 [(2, (r : Int)), (2, (o : Int)), (0, (h : Int)), (0, a), (9, 0), (9, 0), (9, 0)] [] m (RI (fun v m1 => v = (hourF w D (h : Int) a s).2 ∧ RdS w m1 r (hourF w D (h : Int) a s).1 ∧ FrO 8 r m m1 ∧ m1 r 7 = (if canF w D (h : Int) a s = true then 1 else 0))) := by
  have ho0 := ho.1
  have hr0 := hr.1
  have hs_m := hs
  have fo_m : FrO 8 r m m := fro_rf
  obtain ⟨⟨w00, w07⟩, _, ⟨w50, w55⟩, ⟨w60, w63⟩, ⟨w70, w75⟩, _⟩ := hw.2.1
  have hb1 : ¬ s 1 = -1 := by omega
  refine gx_st (L' := [(2, (r : Int)), (2, (o : Int)), (0, (h : Int)), (0, a), (9, 0), (9, 0), (9, 0)]) (S' := [(2, (r : Int))]) r_270_0 rfl rfl rfl ?_
  refine gx_st (L' := [(2, (r : Int)), (2, (o : Int)), (0, (h : Int)), (0, a), (9, 0), (9, 0), (9, 0)]) (S' := [(2, (r : Int)), (2, (r : Int))]) r_270_1 rfl rfl rfl ?_
  refine gx_gf (x := (b : Int)) 0 r_270_2 (rfl) (tride_0 hr) ⟨by omega, rfl, by decide, by decide⟩ rfl (fun z => absurd z (by decide)) (hs.2.1.trans hb) ?_
  refine gx_st (L' := [(2, (r : Int)), (2, (o : Int)), (0, (h : Int)), (0, a), (9, 0), (9, 0), (9, 0)]) (S' := [(0, (-1)), (0, (b : Int)), (2, (r : Int))]) r_270_5 rfl rfl rfl ?_
  refine gx_ic (P := (b : Int) = (-1)) r_270_6 (rfl) (fun h6 => ?_) (fun h6 => ?_)
  · exact absurd h6 (by omega)
  · refine gx_st (L' := [(2, (r : Int)), (2, (o : Int)), (0, (h : Int)), (0, a), (9, 0), (9, 0), (9, 0)]) (S' := [(0, a), (2, (r : Int))]) r_270_9 rfl rfl rfl ?_
    refine gx_i0 (P := a = 0) r_270_10 (rfl) (fun h10 => ?_) (fun h10 => ?_)
    · refine gx_st (L' := [(2, (r : Int)), (2, (o : Int)), (0, (h : Int)), (0, a), (9, 0), (9, 0), (9, 0)]) (S' := [(0, 0), (2, (r : Int))]) r_270_27 rfl rfl rfl ?_
      obtain ⟨m1, e_m1⟩ : ∃ z, z = nu_up m r 7 0 := ⟨_, rfl⟩
      have hs_m1 : RdS w m1 r s := by rw [e_m1]; exact rds_7 hs_m (i := 7) (by decide) _
      have fo_m1 : FrO 8 r m m1 := by rw [e_m1]; exact fro_f fo_m (by decide)
      refine gx_pf (x := 0) 0 r_270_28 (rfl) (tride_0 hr) ⟨by omega, rfl, by decide, by decide⟩ rfl (fun _ => by omega) (fun z => absurd z (by decide)) e_m1.symm ?_
      refine gx_st (L' := [(2, (r : Int)), (2, (o : Int)), (0, (h : Int)), (0, a), (9, 0), (9, 0), (9, 0)]) (S' := [(2, (r : Int))]) r_270_31 rfl rfl rfl ?_
      refine gx_gf (x := (b : Int)) 0 r_270_32 (rfl) (tride_0 hr) ⟨by omega, rfl, by decide, by decide⟩ rfl (fun z => absurd z (by decide)) (by show m1 r 1 = _; rw [e_m1, nu_ne (by decide)]; exact hs.2.1.trans hb) ?_
      refine gx_st (L' := [(2, (r : Int)), (2, (o : Int)), (0, (h : Int)), (0, a), (9, 0), (9, 0), (9, 0)]) (S' := [(0, (-1)), (0, (b : Int))]) r_270_35 rfl rfl rfl ?_
      refine gx_ic (P := ¬ (b : Int) = (-1)) r_270_36 (rfl) (fun h36 => ?_) (fun h36 => ?_)
      · refine gx_st (L' := [(2, (r : Int)), (2, (o : Int)), (0, (h : Int)), (0, a), (9, 0), (9, 0), (9, 0)]) (S' := [(2, (r : Int))]) r_270_41 rfl rfl rfl ?_
        refine gx_gf (x := 0) 0 r_270_42 (rfl) (tride_0 hr) ⟨by omega, rfl, by decide, by decide⟩ rfl (fun z => absurd z (by decide)) (by show m1 r 7 = _; rw [e_m1, nu_at]) ?_
        refine gx_i0 (P := 0 = 0) r_270_45 (rfl) (fun h45 => ?_) (fun h45 => ?_)
        · refine gx_st (L' := [(2, (r : Int)), (2, (o : Int)), (0, (h : Int)), (0, a), (9, 0), (9, 0), (9, 0)]) (S' := [(0, 0)]) r_270_52 rfl rfl rfl ?_
          refine gx_st (L' := [(2, (r : Int)), (2, (o : Int)), (0, (h : Int)), (0, a), (0, 0), (9, 0), (9, 0)]) (S' := []) r_270_53 rfl rfl rfl ?_
          refine gx_st (L' := [(2, (r : Int)), (2, (o : Int)), (0, (h : Int)), (0, a), (0, 0), (9, 0), (9, 0)]) (S' := [(0, 0)]) r_270_55 rfl rfl rfl ?_
          refine gx_st (L' := [(2, (r : Int)), (2, (o : Int)), (0, (h : Int)), (0, a), (0, 0), (9, 0), (9, 0)]) (S' := [(0, 2), (0, 0)]) r_270_57 rfl rfl rfl ?_
          refine gx_ic (P := ¬ 0 = 2) r_270_58 (rfl) (fun h58 => ?_) (fun h58 => ?_)
          · refine gx_st (L' := [(2, (r : Int)), (2, (o : Int)), (0, (h : Int)), (0, a), (0, 0), (9, 0), (9, 0)]) (S' := [(0, 0)]) r_270_68 rfl rfl rfl ?_
            refine gx_st (L' := [(2, (r : Int)), (2, (o : Int)), (0, (h : Int)), (0, a), (0, 0), (9, 0), (9, 0)]) (S' := [(0, 10), (0, 0)]) r_270_70 rfl rfl rfl ?_
            refine gx_ic (P := 0 < 10) r_270_72 (rfl) (fun h72 => ?_) (fun h72 => ?_)
            · refine gx_st (L' := [(2, (r : Int)), (2, (o : Int)), (0, (h : Int)), (0, a), (0, 0), (9, 0), (9, 0)]) (S' := [(0, 0)]) r_270_87 rfl rfl rfl ?_
              refine gx_st (L' := [(2, (r : Int)), (2, (o : Int)), (0, (h : Int)), (0, a), (0, 0), (9, 0), (9, 0)]) (S' := [(0, 1), (0, 0)]) r_270_89 rfl rfl rfl ?_
              refine gx_ic (P := ¬ 0 = 1) r_270_90 (rfl) (fun h90 => ?_) (fun h90 => ?_)
              · have hw_m1 : WD m1 o w := wd_fro hw fo_m1 hd
                have ir_m1 : IsleR m1 o := ir_fro hor fo_m1 hd
                have rr_m1 : RideR m1 r := rr_fro hrr fo_m1 (by decide)
                have w7 : m1 r 7 = 0 := by rw [e_m1, nu_at]
                have hcan : ¬ canF w D (h : Int) a s = true := by
                  first
                    | exact h20
                    | exact can_a0 h10
                    | exact can_no h90 h58 (by omega)
                    | exact can_no (by omega) (by omega) (by omega)
                refine gx_imp (t_270 hT ho ir_m1 hw_m1 hr rr_m1 hs_m1 hd hD (b := b) (p := p) ?_ hb7 ?_ hpn ?_ ?_ ?_ h a 0) (fun v m1 ⟨x, e, f1, f2, f3⟩ => ⟨x, e, ?_, ?_, fro_tr fo_m1 (fro_up f3 (by decide)), ?_⟩)
                · exact hb
                · exact hp
                · exact k2
                · exact k6
                · exact k11
                · rw [hour_go hb1 hcan]; exact f1
                · rw [hour_go hb1 hcan]; exact f2
                · rw [f3 r 7 (fun z => by omega) (by omega) (by omega), w7]; first | exact (if_neg hcan).symm | exact absurd h20 hcan
              · have h90 := Decidable.not_not.mp h90
                omega
            · omega
          · have h58 := Decidable.not_not.mp h58
            omega
        · omega
      · have h36 := Decidable.not_not.mp h36
        exact absurd h36 (by omega)
    · refine gx_st (L' := [(2, (r : Int)), (2, (o : Int)), (0, (h : Int)), (0, a), (9, 0), (9, 0), (9, 0)]) (S' := [(2, (r : Int)), (2, (r : Int))]) r_270_13 rfl rfl rfl ?_
      refine gx_st (L' := [(2, (r : Int)), (2, (o : Int)), (0, (h : Int)), (0, a), (9, 0), (9, 0), (9, 0)]) (S' := [(2, (o : Int)), (2, (r : Int)), (2, (r : Int))]) r_270_14 rfl rfl rfl ?_
      refine gx_st (L' := [(2, (r : Int)), (2, (o : Int)), (0, (h : Int)), (0, a), (9, 0), (9, 0), (9, 0)]) (S' := [(0, (h : Int)), (2, (o : Int)), (2, (r : Int)), (2, (r : Int))]) r_270_15 rfl rfl rfl ?_
      refine gx_st (L' := [(2, (r : Int)), (2, (o : Int)), (0, (h : Int)), (0, a), (9, 0), (9, 0), (9, 0)]) (S' := [(0, a), (0, (h : Int)), (2, (o : Int)), (2, (r : Int)), (2, (r : Int))]) r_270_16 rfl rfl rfl ?_
      refine gx_ci (nx := 20) (S2 := [(2, (r : Int))]) (z_269 hT ho hor hw hr hrr hs hd hD hb1 hp hpn h ha h10) r_270_17 rfl rfl rfl rfl rfl (rcv_v rfl (tride_0 hr) (by omega) rfl (by decide)) rfl (by decide) rfl (fun x17 n17 q17 => ?_)
      obtain ⟨e_x17, z_x17⟩ := q17
      have y_x17 := z_x17.symm
      subst y_x17
      rw [e_x17]
      show GX T 3 270 20 [(2, (r : Int)), (2, (o : Int)), (0, (h : Int)), (0, a), (9, 0), (9, 0), (9, 0)] [(0, (if canF w D (h : Int) a s = true then 1 else 0)), (2, (r : Int))] m (RI (fun v m1 => v = (hourF w D (h : Int) a s).2 ∧ RdS w m1 r (hourF w D (h : Int) a s).1 ∧ FrO 8 r m m1 ∧ m1 r 7 = (if canF w D (h : Int) a s = true then 1 else 0)))
      refine gx_i0 (P := ¬ (canF w D (h : Int) a s = true)) r_270_20 (b01_eq) (fun h20 => ?_) (fun h20 => ?_)
      · refine gx_st (L' := [(2, (r : Int)), (2, (o : Int)), (0, (h : Int)), (0, a), (9, 0), (9, 0), (9, 0)]) (S' := [(0, 0), (2, (r : Int))]) r_270_27 rfl rfl rfl ?_
        obtain ⟨m2, e_m2⟩ : ∃ z, z = nu_up m r 7 0 := ⟨_, rfl⟩
        have hs_m2 : RdS w m2 r s := by rw [e_m2]; exact rds_7 hs_m (i := 7) (by decide) _
        have fo_m2 : FrO 8 r m m2 := by rw [e_m2]; exact fro_f fo_m (by decide)
        refine gx_pf (x := 0) 0 r_270_28 (rfl) (tride_0 hr) ⟨by omega, rfl, by decide, by decide⟩ rfl (fun _ => by omega) (fun z => absurd z (by decide)) e_m2.symm ?_
        refine gx_st (L' := [(2, (r : Int)), (2, (o : Int)), (0, (h : Int)), (0, a), (9, 0), (9, 0), (9, 0)]) (S' := [(2, (r : Int))]) r_270_31 rfl rfl rfl ?_
        refine gx_gf (x := (b : Int)) 0 r_270_32 (rfl) (tride_0 hr) ⟨by omega, rfl, by decide, by decide⟩ rfl (fun z => absurd z (by decide)) (by show m2 r 1 = _; rw [e_m2, nu_ne (by decide)]; exact hs.2.1.trans hb) ?_
        refine gx_st (L' := [(2, (r : Int)), (2, (o : Int)), (0, (h : Int)), (0, a), (9, 0), (9, 0), (9, 0)]) (S' := [(0, (-1)), (0, (b : Int))]) r_270_35 rfl rfl rfl ?_
        refine gx_ic (P := ¬ (b : Int) = (-1)) r_270_36 (rfl) (fun h36 => ?_) (fun h36 => ?_)
        · refine gx_st (L' := [(2, (r : Int)), (2, (o : Int)), (0, (h : Int)), (0, a), (9, 0), (9, 0), (9, 0)]) (S' := [(2, (r : Int))]) r_270_41 rfl rfl rfl ?_
          refine gx_gf (x := 0) 0 r_270_42 (rfl) (tride_0 hr) ⟨by omega, rfl, by decide, by decide⟩ rfl (fun z => absurd z (by decide)) (by show m2 r 7 = _; rw [e_m2, nu_at]) ?_
          refine gx_i0 (P := 0 = 0) r_270_45 (rfl) (fun h45 => ?_) (fun h45 => ?_)
          · refine gx_st (L' := [(2, (r : Int)), (2, (o : Int)), (0, (h : Int)), (0, a), (9, 0), (9, 0), (9, 0)]) (S' := [(0, 0)]) r_270_52 rfl rfl rfl ?_
            refine gx_st (L' := [(2, (r : Int)), (2, (o : Int)), (0, (h : Int)), (0, a), (0, 0), (9, 0), (9, 0)]) (S' := []) r_270_53 rfl rfl rfl ?_
            refine gx_st (L' := [(2, (r : Int)), (2, (o : Int)), (0, (h : Int)), (0, a), (0, 0), (9, 0), (9, 0)]) (S' := [(0, 0)]) r_270_55 rfl rfl rfl ?_
            refine gx_st (L' := [(2, (r : Int)), (2, (o : Int)), (0, (h : Int)), (0, a), (0, 0), (9, 0), (9, 0)]) (S' := [(0, 2), (0, 0)]) r_270_57 rfl rfl rfl ?_
            refine gx_ic (P := ¬ 0 = 2) r_270_58 (rfl) (fun h58 => ?_) (fun h58 => ?_)
            · refine gx_st (L' := [(2, (r : Int)), (2, (o : Int)), (0, (h : Int)), (0, a), (0, 0), (9, 0), (9, 0)]) (S' := [(0, 0)]) r_270_68 rfl rfl rfl ?_
              refine gx_st (L' := [(2, (r : Int)), (2, (o : Int)), (0, (h : Int)), (0, a), (0, 0), (9, 0), (9, 0)]) (S' := [(0, 10), (0, 0)]) r_270_70 rfl rfl rfl ?_
              refine gx_ic (P := 0 < 10) r_270_72 (rfl) (fun h72 => ?_) (fun h72 => ?_)
              · refine gx_st (L' := [(2, (r : Int)), (2, (o : Int)), (0, (h : Int)), (0, a), (0, 0), (9, 0), (9, 0)]) (S' := [(0, 0)]) r_270_87 rfl rfl rfl ?_
                refine gx_st (L' := [(2, (r : Int)), (2, (o : Int)), (0, (h : Int)), (0, a), (0, 0), (9, 0), (9, 0)]) (S' := [(0, 1), (0, 0)]) r_270_89 rfl rfl rfl ?_
                refine gx_ic (P := ¬ 0 = 1) r_270_90 (rfl) (fun h90 => ?_) (fun h90 => ?_)
                · have hw_m2 : WD m2 o w := wd_fro hw fo_m2 hd
                  have ir_m2 : IsleR m2 o := ir_fro hor fo_m2 hd
                  have rr_m2 : RideR m2 r := rr_fro hrr fo_m2 (by decide)
                  have w7 : m2 r 7 = 0 := by rw [e_m2, nu_at]
                  have hcan : ¬ canF w D (h : Int) a s = true := by
                    first
                      | exact h20
                      | exact can_a0 h10
                      | exact can_no h90 h58 (by omega)
                      | exact can_no (by omega) (by omega) (by omega)
                  refine gx_imp (t_270 hT ho ir_m2 hw_m2 hr rr_m2 hs_m2 hd hD (b := b) (p := p) ?_ hb7 ?_ hpn ?_ ?_ ?_ h a 0) (fun v m1 ⟨x, e, f1, f2, f3⟩ => ⟨x, e, ?_, ?_, fro_tr fo_m2 (fro_up f3 (by decide)), ?_⟩)
                  · exact hb
                  · exact hp
                  · exact k2
                  · exact k6
                  · exact k11
                  · rw [hour_go hb1 hcan]; exact f1
                  · rw [hour_go hb1 hcan]; exact f2
                  · rw [f3 r 7 (fun z => by omega) (by omega) (by omega), w7]; first | exact (if_neg hcan).symm | exact absurd h20 hcan
                · have h90 := Decidable.not_not.mp h90
                  omega
              · omega
            · have h58 := Decidable.not_not.mp h58
              omega
          · omega
        · have h36 := Decidable.not_not.mp h36
          exact absurd h36 (by omega)
      · have h20 := Decidable.not_not.mp h20
        refine gx_st (L' := [(2, (r : Int)), (2, (o : Int)), (0, (h : Int)), (0, a), (9, 0), (9, 0), (9, 0)]) (S' := [(0, 1), (2, (r : Int))]) r_270_23 rfl rfl rfl ?_
        refine gx_st (L' := [(2, (r : Int)), (2, (o : Int)), (0, (h : Int)), (0, a), (9, 0), (9, 0), (9, 0)]) (S' := [(0, 1), (2, (r : Int))]) r_270_24 rfl rfl rfl ?_
        obtain ⟨m3, e_m3⟩ : ∃ z, z = nu_up m r 7 1 := ⟨_, rfl⟩
        have hs_m3 : RdS w m3 r s := by rw [e_m3]; exact rds_7 hs_m (i := 7) (by decide) _
        have fo_m3 : FrO 8 r m m3 := by rw [e_m3]; exact fro_f fo_m (by decide)
        refine gx_pf (x := 1) 0 r_270_28 (rfl) (tride_0 hr) ⟨by omega, rfl, by decide, by decide⟩ rfl (fun _ => by omega) (fun z => absurd z (by decide)) e_m3.symm ?_
        refine gx_st (L' := [(2, (r : Int)), (2, (o : Int)), (0, (h : Int)), (0, a), (9, 0), (9, 0), (9, 0)]) (S' := [(2, (r : Int))]) r_270_31 rfl rfl rfl ?_
        refine gx_gf (x := (b : Int)) 0 r_270_32 (rfl) (tride_0 hr) ⟨by omega, rfl, by decide, by decide⟩ rfl (fun z => absurd z (by decide)) (by show m3 r 1 = _; rw [e_m3, nu_ne (by decide)]; exact hs.2.1.trans hb) ?_
        refine gx_st (L' := [(2, (r : Int)), (2, (o : Int)), (0, (h : Int)), (0, a), (9, 0), (9, 0), (9, 0)]) (S' := [(0, (-1)), (0, (b : Int))]) r_270_35 rfl rfl rfl ?_
        refine gx_ic (P := ¬ (b : Int) = (-1)) r_270_36 (rfl) (fun h36 => ?_) (fun h36 => ?_)
        · refine gx_st (L' := [(2, (r : Int)), (2, (o : Int)), (0, (h : Int)), (0, a), (9, 0), (9, 0), (9, 0)]) (S' := [(2, (r : Int))]) r_270_41 rfl rfl rfl ?_
          refine gx_gf (x := 1) 0 r_270_42 (rfl) (tride_0 hr) ⟨by omega, rfl, by decide, by decide⟩ rfl (fun z => absurd z (by decide)) (by show m3 r 7 = _; rw [e_m3, nu_at]) ?_
          refine gx_i0 (P := 1 = 0) r_270_45 (rfl) (fun h45 => ?_) (fun h45 => ?_)
          · omega
          · refine gx_st (L' := [(2, (r : Int)), (2, (o : Int)), (0, (h : Int)), (0, a), (9, 0), (9, 0), (9, 0)]) (S' := [(0, a)]) r_270_48 rfl rfl rfl ?_
            refine gx_st (L' := [(2, (r : Int)), (2, (o : Int)), (0, (h : Int)), (0, a), (9, 0), (9, 0), (9, 0)]) (S' := [(0, a)]) r_270_49 rfl rfl rfl ?_
            refine gx_st (L' := [(2, (r : Int)), (2, (o : Int)), (0, (h : Int)), (0, a), (0, a), (9, 0), (9, 0)]) (S' := []) r_270_53 rfl rfl rfl ?_
            refine gx_st (L' := [(2, (r : Int)), (2, (o : Int)), (0, (h : Int)), (0, a), (0, a), (9, 0), (9, 0)]) (S' := [(0, a)]) r_270_55 rfl rfl rfl ?_
            refine gx_st (L' := [(2, (r : Int)), (2, (o : Int)), (0, (h : Int)), (0, a), (0, a), (9, 0), (9, 0)]) (S' := [(0, 2), (0, a)]) r_270_57 rfl rfl rfl ?_
            refine gx_ic (P := ¬ a = 2) r_270_58 (rfl) (fun h58 => ?_) (fun h58 => ?_)
            · refine gx_st (L' := [(2, (r : Int)), (2, (o : Int)), (0, (h : Int)), (0, a), (0, a), (9, 0), (9, 0)]) (S' := [(0, a)]) r_270_68 rfl rfl rfl ?_
              refine gx_st (L' := [(2, (r : Int)), (2, (o : Int)), (0, (h : Int)), (0, a), (0, a), (9, 0), (9, 0)]) (S' := [(0, 10), (0, a)]) r_270_70 rfl rfl rfl ?_
              refine gx_ic (P := a < 10) r_270_72 (rfl) (fun h72 => ?_) (fun h72 => ?_)
              · refine gx_st (L' := [(2, (r : Int)), (2, (o : Int)), (0, (h : Int)), (0, a), (0, a), (9, 0), (9, 0)]) (S' := [(0, a)]) r_270_87 rfl rfl rfl ?_
                refine gx_st (L' := [(2, (r : Int)), (2, (o : Int)), (0, (h : Int)), (0, a), (0, a), (9, 0), (9, 0)]) (S' := [(0, 1), (0, a)]) r_270_89 rfl rfl rfl ?_
                refine gx_ic (P := ¬ a = 1) r_270_90 (rfl) (fun h90 => ?_) (fun h90 => ?_)
                · have hw_m3 : WD m3 o w := wd_fro hw fo_m3 hd
                  have ir_m3 : IsleR m3 o := ir_fro hor fo_m3 hd
                  have rr_m3 : RideR m3 r := rr_fro hrr fo_m3 (by decide)
                  have w7 : m3 r 7 = 1 := by rw [e_m3, nu_at]
                  have hcan : ¬ canF w D (h : Int) a s = true := by
                    first
                      | exact h20
                      | exact can_a0 h10
                      | exact can_no h90 h58 (by omega)
                      | exact can_no (by omega) (by omega) (by omega)
                  refine gx_imp (t_270 hT ho ir_m3 hw_m3 hr rr_m3 hs_m3 hd hD (b := b) (p := p) ?_ hb7 ?_ hpn ?_ ?_ ?_ h a a) (fun v m1 ⟨x, e, f1, f2, f3⟩ => ⟨x, e, ?_, ?_, fro_tr fo_m3 (fro_up f3 (by decide)), ?_⟩)
                  · exact hb
                  · exact hp
                  · exact k2
                  · exact k6
                  · exact k11
                  · rw [hour_go hb1 hcan]; exact f1
                  · rw [hour_go hb1 hcan]; exact f2
                  · rw [f3 r 7 (fun z => by omega) (by omega) (by omega), w7]; first | exact (if_neg hcan).symm | exact absurd h20 hcan
                · have h90 := Decidable.not_not.mp h90
                  refine gx_st (L' := [(2, (r : Int)), (2, (o : Int)), (0, (h : Int)), (0, a), (0, a), (9, 0), (9, 0)]) (S' := [(2, (r : Int))]) r_270_93 rfl rfl rfl ?_
                  refine gx_st (L' := [(2, (r : Int)), (2, (o : Int)), (0, (h : Int)), (0, a), (0, a), (9, 0), (9, 0)]) (S' := [(2, (r : Int)), (2, (r : Int))]) r_270_94 rfl rfl rfl ?_
                  refine gx_gf (x := (s 4)) 0 r_270_95 (rfl) (tride_0 hr) ⟨by omega, rfl, by decide, by decide⟩ rfl (fun z => absurd z (by decide)) (by show m3 r 4 = _; rw [e_m3, nu_ne (by decide)]; exact hs.2.2.2.2.1) ?_
                  refine gx_st (L' := [(2, (r : Int)), (2, (o : Int)), (0, (h : Int)), (0, a), (0, a), (9, 0), (9, 0)]) (S' := [(0, 1), (0, (s 4)), (2, (r : Int))]) r_270_98 rfl rfl rfl ?_
                  refine gx_st (L' := [(2, (r : Int)), (2, (o : Int)), (0, (h : Int)), (0, a), (0, a), (9, 0), (9, 0)]) (S' := [(2, (o : Int)), (0, 1), (0, (s 4)), (2, (r : Int))]) r_270_99 rfl rfl rfl ?_
                  refine gx_st (L' := [(2, (r : Int)), (2, (o : Int)), (0, (h : Int)), (0, a), (0, a), (9, 0), (9, 0)]) (S' := [(2, (r : Int)), (2, (o : Int)), (0, 1), (0, (s 4)), (2, (r : Int))]) r_270_100 rfl rfl rfl ?_
                  refine gx_gf (x := (p : Int)) 0 r_270_101 (rfl) (tride_0 hr) ⟨by omega, rfl, by decide, by decide⟩ rfl (fun z => absurd z (by decide)) (by show m3 r 0 = _; rw [e_m3, nu_ne (by decide)]; exact hs.1.trans hp) ?_
                  refine gx_st (L' := [(2, (r : Int)), (2, (o : Int)), (0, (h : Int)), (0, a), (0, a), (9, 0), (9, 0)]) (S' := [(0, (h : Int)), (0, (p : Int)), (2, (o : Int)), (0, 1), (0, (s 4)), (2, (r : Int))]) r_270_104 rfl rfl rfl ?_
                  refine gx_st (L' := [(2, (r : Int)), (2, (o : Int)), (0, (h : Int)), (0, a), (0, a), (9, 0), (9, 0)]) (S' := [(2, (r : Int)), (0, (h : Int)), (0, (p : Int)), (2, (o : Int)), (0, 1), (0, (s 4)), (2, (r : Int))]) r_270_105 rfl rfl rfl ?_
                  refine gx_gf (x := (s 4)) 0 r_270_106 (rfl) (tride_0 hr) ⟨by omega, rfl, by decide, by decide⟩ rfl (fun z => absurd z (by decide)) (by show m3 r 4 = _; rw [e_m3, nu_ne (by decide)]; exact hs.2.2.2.2.1) ?_
                  have hw_m3 : WD m3 o w := wd_fro hw fo_m3 hd
                  have ir_m3 : IsleR m3 o := ir_fro hor fo_m3 hd
                  refine gx_ci (nx := 112) (S2 := [(0, 1), (0, (s 4)), (2, (r : Int))]) (w_264 hT ho ir_m3 hw_m3 (p : Int) (h : Int) (s 4)) r_270_109 rfl rfl rfl rfl rfl (rcv_v rfl (tisle_0 ho) (by omega) rfl (by decide)) rfl (by decide) rfl (fun x109 n109 q109 => ?_)
                  obtain ⟨e_x109, z_x109⟩ := q109
                  have y_x109 := z_x109.symm
                  subst y_x109
                  rw [e_x109]
                  show GX T 3 270 112 [(2, (r : Int)), (2, (o : Int)), (0, (h : Int)), (0, a), (0, a), (9, 0), (9, 0)] [(0, (vineF w (p : Int) (h : Int) (s 4))), (0, 1), (0, (s 4)), (2, (r : Int))] m3 (RI (fun v m1 => v = (hourF w D (h : Int) a s).2 ∧ RdS w m1 r (hourF w D (h : Int) a s).1 ∧ FrO 8 r m m1 ∧ m1 r 7 = (if canF w D (h : Int) a s = true then 1 else 0)))
                  refine gx_st (L' := [(2, (r : Int)), (2, (o : Int)), (0, (h : Int)), (0, a), (0, a), (9, 0), (9, 0)]) (S' := [(0, (ishl 1 ((vineF w (p : Int) (h : Int) (s 4))))), (0, (s 4)), (2, (r : Int))]) r_270_112 rfl rfl rfl ?_
                  refine gx_st (L' := [(2, (r : Int)), (2, (o : Int)), (0, (h : Int)), (0, a), (0, a), (9, 0), (9, 0)]) (S' := [(0, (ior (s 4) ((ishl 1 ((vineF w (p : Int) (h : Int) (s 4))))))), (2, (r : Int))]) r_270_113 rfl rfl rfl ?_
                  obtain ⟨m4, e_m4⟩ : ∃ z, z = nu_up m3 r 4 ((ior (s 4) ((ishl 1 ((vineF w (p : Int) (h : Int) (s 4))))))) := ⟨_, rfl⟩
                  have hs_m4 : RdS w m4 r (upw s 4 ((ior (s 4) ((ishl 1 ((vineF w (p : Int) (h : Int) (s 4)))))))) := by rw [e_m4]; exact rds_f hs_m3 (i := 4) (by decide) _
                  have fo_m4 : FrO 8 r m m4 := by rw [e_m4]; exact fro_f fo_m3 (by decide)
                  refine gx_pf (x := (ior (s 4) ((ishl 1 ((vineF w (p : Int) (h : Int) (s 4))))))) 0 r_270_114 (rfl) (tride_0 hr) ⟨by omega, rfl, by decide, by decide⟩ rfl (fun z => absurd z (by decide)) (fun z => absurd z (by decide)) e_m4.symm ?_
                  refine gx_st (L' := [(2, (r : Int)), (2, (o : Int)), (0, (h : Int)), (0, a), (0, a), (9, 0), (9, 0)]) (S' := [(2, (r : Int))]) r_270_117 rfl rfl rfl ?_
                  refine gx_st (L' := [(2, (r : Int)), (2, (o : Int)), (0, (h : Int)), (0, a), (0, a), (9, 0), (9, 0)]) (S' := [(0, (h : Int)), (2, (r : Int))]) r_270_118 rfl rfl rfl ?_
                  refine gx_st (L' := [(2, (r : Int)), (2, (o : Int)), (0, (h : Int)), (0, a), (0, a), (9, 0), (9, 0)]) (S' := [(0, 3), (0, (h : Int)), (2, (r : Int))]) r_270_119 rfl rfl rfl ?_
                  refine gx_ar (L' := [(2, (r : Int)), (2, (o : Int)), (0, (h : Int)), (0, a), (0, a), (9, 0), (9, 0)]) (S' := [(2, (r : Int))]) (t := 0) (e := w32 ((h : Int) + 3)) (z := (h : Int) + 3) r_270_120 rfl rfl rfl (w32_eq (by omega) (by omega) (by omega)) ?_
                  obtain ⟨m5, e_m5⟩ : ∃ z, z = nu_up m4 r 3 ((h : Int) + 3) := ⟨_, rfl⟩
                  have hs_m5 : RdS w m5 r (upw (upw s 4 ((ior (s 4) ((ishl 1 ((vineF w (p : Int) (h : Int) (s 4)))))))) 3 ((h : Int) + 3)) := by rw [e_m5]; exact rds_f hs_m4 (i := 3) (by decide) _
                  have fo_m5 : FrO 8 r m m5 := by rw [e_m5]; exact fro_f fo_m4 (by decide)
                  refine gx_pf (x := (h : Int) + 3) 0 r_270_121 (rfl) (tride_0 hr) ⟨by omega, rfl, by decide, by decide⟩ rfl (fun z => absurd z (by decide)) (fun z => absurd z (by decide)) e_m5.symm ?_
                  have hw_m5 : WD m5 o w := wd_fro hw fo_m5 hd
                  have ir_m5 : IsleR m5 o := ir_fro hor fo_m5 hd
                  have rr_m5 : RideR m5 r := rr_fro hrr fo_m5 (by decide)
                  have w7 : m5 r 7 = 1 := by rw [e_m5, nu_ne (by decide), e_m4, nu_ne (by decide), e_m3, nu_at]
                  have hcan : canF w D (h : Int) a s = true := h20
                  refine gx_imp (t_270 hT ho ir_m5 hw_m5 hr rr_m5 hs_m5 hd hD (b := b) (p := p) ?_ hb7 ?_ hpn ?_ ?_ ?_ h a a) (fun v m1 ⟨x, e, f1, f2, f3⟩ => ⟨x, e, ?_, ?_, fro_tr fo_m5 (fro_up f3 (by decide)), ?_⟩)
                  · rw [upw_ne (by decide), upw_ne (by decide)]; exact hb
                  · rw [upw_ne (by decide), upw_ne (by decide)]; exact hp
                  · rw [upw_ne (by decide), upw_ne (by decide)]; exact k2
                  · intro c hc; rw [upw_ne (by omega), upw_ne (by omega)]; exact k6 c hc
                  · intro c hc hc5; rw [upw_ne (by omega), upw_ne (by omega)]; exact k11 c hc hc5
                  · rw [hour_of hb1 hcan h90, off_p hp]; exact f1
                  · rw [hour_of hb1 hcan h90, off_p hp]; exact f2
                  · rw [f3 r 7 (fun z => by omega) (by omega) (by omega), w7]; exact (if_pos hcan).symm
              · refine gx_st (L' := [(2, (r : Int)), (2, (o : Int)), (0, (h : Int)), (0, a), (0, a), (9, 0), (9, 0)]) (S' := [(2, (r : Int))]) r_270_75 rfl rfl rfl ?_
                refine gx_st (L' := [(2, (r : Int)), (2, (o : Int)), (0, (h : Int)), (0, a), (0, a), (9, 0), (9, 0)]) (S' := [(2, (o : Int)), (2, (r : Int))]) r_270_76 rfl rfl rfl ?_
                refine gx_st (L' := [(2, (r : Int)), (2, (o : Int)), (0, (h : Int)), (0, a), (0, a), (9, 0), (9, 0)]) (S' := [(0, a), (2, (o : Int)), (2, (r : Int))]) r_270_77 rfl rfl rfl ?_
                refine gx_st (L' := [(2, (r : Int)), (2, (o : Int)), (0, (h : Int)), (0, a), (0, a), (9, 0), (9, 0)]) (S' := [(0, 10), (0, a), (2, (o : Int)), (2, (r : Int))]) r_270_79 rfl rfl rfl ?_
                refine gx_ar (L' := [(2, (r : Int)), (2, (o : Int)), (0, (h : Int)), (0, a), (0, a), (9, 0), (9, 0)]) (S' := [(2, (o : Int)), (2, (r : Int))]) (t := 0) (e := w32 (a - 10)) (z := a - 10) r_270_81 rfl rfl rfl (w32_eq (by omega) (by omega) (by omega)) ?_
                have hw_m3 : WD m3 o w := wd_fro hw fo_m3 hd
                have ir_m3 : IsleR m3 o := ir_fro hor fo_m3 hd
                have rr_m3 : RideR m3 r := rr_fro hrr fo_m3 (by decide)
                refine gx_cv (nx := 85) (S2 := []) (z_272 hT ho ir_m3 hw_m3 hr rr_m3 hs_m3 hd hb hb7 k2 (k6 b (by omega)) (a - 10)) r_270_82 rfl rfl rfl rfl rfl (rcv_v rfl (tride_0 hr) (by omega) rfl (by decide)) rfl (by decide) rfl (fun n82 q82 => ?_)
                obtain ⟨hs_n82, fq_n82⟩ := q82
                have fo_n82 : FrO 8 r m n82 := fro_tr fo_m3 (fro_up fq_n82 (by decide))
                have w7_n82 : n82 r 7 = m3 r 7 := fq_n82 r 7 (fun z => by omega) (by omega) (by omega)
                show GX T 3 270 85 [(2, (r : Int)), (2, (o : Int)), (0, (h : Int)), (0, a), (0, a), (9, 0), (9, 0)] [] n82 (RI (fun v m1 => v = (hourF w D (h : Int) a s).2 ∧ RdS w m1 r (hourF w D (h : Int) a s).1 ∧ FrO 8 r m m1 ∧ m1 r 7 = (if canF w D (h : Int) a s = true then 1 else 0)))
                refine gx_st (L' := [(2, (r : Int)), (2, (o : Int)), (0, (h : Int)), (0, a), (0, a), (9, 0), (9, 0)]) (S' := [(0, 3)]) r_270_85 rfl rfl rfl ?_
                exact gx_rt r_270_86 rfl rfl ⟨_, rfl, by rw [hour_ca hb1 h20 h58 (by omega)], by rw [hour_ca hb1 h20 h58 (by omega)]; exact hs_n82, fo_n82, by rw [if_pos h20, w7_n82, e_m3, nu_at]⟩
            · have h58 := Decidable.not_not.mp h58
              refine gx_st (L' := [(2, (r : Int)), (2, (o : Int)), (0, (h : Int)), (0, a), (0, a), (9, 0), (9, 0)]) (S' := [(2, (r : Int))]) r_270_61 rfl rfl rfl ?_
              refine gx_st (L' := [(2, (r : Int)), (2, (o : Int)), (0, (h : Int)), (0, a), (0, a), (9, 0), (9, 0)]) (S' := [(0, 1), (2, (r : Int))]) r_270_62 rfl rfl rfl ?_
              have rr_m3 : RideR m3 r := rr_fro hrr fo_m3 (by decide)
              refine gx_cv (nx := 66) (S2 := []) (z_273 hT hr rr_m3 hs_m3 1) r_270_63 rfl rfl rfl rfl rfl (rcv_v rfl (tride_0 hr) (by omega) rfl (by decide)) rfl (by decide) rfl (fun n63 q63 => ?_)
              obtain ⟨hs_n63, fq_n63⟩ := q63
              have fo_n63 : FrO 8 r m n63 := fro_tr fo_m3 (fro_up fq_n63 (by decide))
              have w7_n63 : n63 r 7 = m3 r 7 := fq_n63 r 7 (fun z => by omega) (by omega) (by omega)
              show GX T 3 270 66 [(2, (r : Int)), (2, (o : Int)), (0, (h : Int)), (0, a), (0, a), (9, 0), (9, 0)] [] n63 (RI (fun v m1 => v = (hourF w D (h : Int) a s).2 ∧ RdS w m1 r (hourF w D (h : Int) a s).1 ∧ FrO 8 r m m1 ∧ m1 r 7 = (if canF w D (h : Int) a s = true then 1 else 0)))
              refine gx_st (L' := [(2, (r : Int)), (2, (o : Int)), (0, (h : Int)), (0, a), (0, a), (9, 0), (9, 0)]) (S' := [(0, 5)]) r_270_66 rfl rfl rfl ?_
              exact gx_rt r_270_67 rfl rfl ⟨_, rfl, by rw [hour_th hb1 h20 h58], by rw [hour_th hb1 h20 h58]; exact hs_n63, fo_n63, by rw [if_pos h20, w7_n63, e_m3, nu_at]⟩
        · have h36 := Decidable.not_not.mp h36
          exact absurd h36 (by omega)
end RIDE
