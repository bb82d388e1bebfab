/-! the hunt of the class -/
theorem r_247_0 : row 247 0 = some (.bipush 7, 2, 7, 0, 0, 0) := rfl
theorem r_247_2 : row 247 2 = some (.istore_n 2, 3, 0, 0, 0, 0) := rfl
theorem r_247_3 : row 247 3 = some (.iconst 0, 4, 0, 0, 0, 0) := rfl
theorem r_247_4 : row 247 4 = some (.istore_n 3, 5, 0, 0, 0, 0) := rfl
theorem r_247_5 : row 247 5 = some (.iload_n 3, 6, 0, 0, 0, 0) := rfl
theorem r_247_6 : row 247 6 = some (.aload_n 0, 7, 0, 0, 0, 0) := rfl
theorem r_247_7 : row 247 7 = some (.getfield 49, 10, 3, 1, 10, 1070) := rfl
theorem r_247_10 : row 247 10 = some (.if_icmp .ge 41, 13, 51, 0, 0, 0) := rfl
theorem r_247_13 : row 247 13 = some (.aload_n 0, 14, 0, 0, 0, 0) := rfl
theorem r_247_14 : row 247 14 = some (.iload_n 1, 15, 0, 0, 0, 0) := rfl
theorem r_247_15 : row 247 15 = some (.iload_n 3, 16, 0, 0, 0, 0) := rfl
theorem r_247_16 : row 247 16 = some (.invokevirtual 74, 19, 259, 2, 10, 4211) := rfl
theorem r_247_19 : row 247 19 = some (.istore 4, 21, 0, 0, 0, 0) := rfl
theorem r_247_21 : row 247 21 = some (.aload_n 0, 22, 0, 0, 0, 0) := rfl
theorem r_247_22 : row 247 22 = some (.getfield 77, 25, 3, 9, 10, 1104) := rfl
theorem r_247_25 : row 247 25 = some (.iload_n 3, 26, 0, 0, 0, 0) := rfl
theorem r_247_26 : row 247 26 = some (.invokestatic 80, 29, 242, 2, 10, 4212) := rfl
theorem r_247_29 : row 247 29 = some (.ifCond .eq 16, 32, 45, 0, 0, 0) := rfl
theorem r_247_32 : row 247 32 = some (.iload 4, 34, 0, 0, 0, 0) := rfl
theorem r_247_34 : row 247 34 = some (.iconst (-1), 35, (-1), 0, 0, 0) := rfl
theorem r_247_35 : row 247 35 = some (.if_icmp .eq 10, 38, 45, 0, 0, 0) := rfl
theorem r_247_38 : row 247 38 = some (.iload_n 2, 39, 0, 0, 0, 0) := rfl
theorem r_247_39 : row 247 39 = some (.iload 4, 41, 0, 0, 0, 0) := rfl
theorem r_247_41 : row 247 41 = some (.invokestatic 43, 44, (-4), 2, 0, 4207) := rfl
theorem r_247_44 : row 247 44 = some (.istore_n 2, 45, 0, 0, 0, 0) := rfl
theorem r_247_45 : row 247 45 = some (.iinc 3 1, 48, 0, 0, 0, 0) := rfl
theorem r_247_48 : row 247 48 = some (.goto (-43), 51, 5, 0, 0, 0) := rfl
theorem r_247_51 : row 247 51 = some (.iload_n 2, 52, 0, 0, 0, 0) := rfl
theorem r_247_52 : row 247 52 = some (.ireturn, 53, 0, 0, 0, 0) := rfl
theorem r_249_0 : row 249 0 = some (.aload_n 0, 1, 0, 0, 0, 0) := rfl
theorem r_249_1 : row 249 1 = some (.getfield 27, 4, 2, 4, 0, 2073) := rfl
theorem r_249_4 : row 249 4 = some (.iconst (-1), 5, (-1), 0, 0, 0) := rfl
theorem r_249_5 : row 249 5 = some (.if_icmp .eq 11, 8, 16, 0, 0, 0) := rfl
theorem r_249_8 : row 249 8 = some (.iload_n 1, 9, 0, 0, 0, 0) := rfl
theorem r_249_9 : row 249 9 = some (.aload_n 0, 10, 0, 0, 0, 0) := rfl
theorem r_249_10 : row 249 10 = some (.getfield 27, 13, 2, 4, 0, 2073) := rfl
theorem r_249_13 : row 249 13 = some (.if_icmp .ge 57, 16, 70, 0, 0, 0) := rfl
theorem r_249_16 : row 249 16 = some (.aload_n 0, 17, 0, 0, 0, 0) := rfl
theorem r_249_17 : row 249 17 = some (.iload_n 1, 18, 0, 0, 0, 0) := rfl
theorem r_249_18 : row 249 18 = some (.putfield 27, 21, 2, 4, 0, 2073) := rfl
theorem r_249_21 : row 249 21 = some (.aload_n 0, 22, 0, 0, 0, 0) := rfl
theorem r_249_22 : row 249 22 = some (.iload_n 1, 23, 0, 0, 0, 0) := rfl
theorem r_249_23 : row 249 23 = some (.putfield 34, 26, 2, 6, 0, 2077) := rfl
theorem r_249_26 : row 249 26 = some (.aload_n 0, 27, 0, 0, 0, 0) := rfl
theorem r_249_27 : row 249 27 = some (.iconst 0, 28, 0, 0, 0, 0) := rfl
theorem r_249_28 : row 249 28 = some (.putfield 31, 31, 2, 5, 0, 2075) := rfl
theorem r_249_31 : row 249 31 = some (.iconst 0, 32, 0, 0, 0, 0) := rfl
theorem r_249_32 : row 249 32 = some (.istore_n 2, 33, 0, 0, 0, 0) := rfl
theorem r_249_33 : row 249 33 = some (.iload_n 2, 34, 0, 0, 0, 0) := rfl
theorem r_249_34 : row 249 34 = some (.bipush 12, 36, 12, 0, 0, 0) := rfl
theorem r_249_36 : row 249 36 = some (.if_icmp .ge 34, 39, 70, 0, 0, 0) := rfl
theorem r_249_39 : row 249 39 = some (.aload_n 0, 40, 0, 0, 0, 0) := rfl
theorem r_249_40 : row 249 40 = some (.getfield 21, 43, 2, 2, 2, 2070) := rfl
theorem r_249_43 : row 249 43 = some (.iload_n 2, 44, 0, 0, 0, 0) := rfl
theorem r_249_44 : row 249 44 = some (.iload_n 2, 45, 0, 0, 0, 0) := rfl
theorem r_249_45 : row 249 45 = some (.iload_n 1, 46, 0, 0, 0, 0) := rfl
theorem r_249_46 : row 249 46 = some (.if_icmp .gt 14, 49, 60, 0, 0, 0) := rfl
theorem r_249_49 : row 249 49 = some (.aload_n 0, 50, 0, 0, 0, 0) := rfl
theorem r_249_50 : row 249 50 = some (.getfield 17, 53, 2, 1, 2, 2069) := rfl
theorem r_249_53 : row 249 53 = some (.iload_n 2, 54, 0, 0, 0, 0) := rfl
theorem r_249_54 : row 249 54 = some (.invokestatic 107, 57, 237, 2, 10, 4224) := rfl
theorem r_249_57 : row 249 57 = some (.goto 4, 60, 61, 0, 0, 0) := rfl
theorem r_249_60 : row 249 60 = some (.iconst 0, 61, 0, 0, 0, 0) := rfl
theorem r_249_61 : row 249 61 = some (.invokestatic 56, 64, 238, 3, 10, 4213) := rfl
theorem r_249_64 : row 249 64 = some (.iinc 2 1, 67, 0, 0, 0, 0) := rfl
theorem r_249_67 : row 249 67 = some (.goto (-34), 70, 33, 0, 0, 0) := rfl
theorem r_249_70 : row 249 70 = some (.aload_n 0, 71, 0, 0, 0, 0) := rfl
theorem r_249_71 : row 249 71 = some (.dup, 72, 0, 0, 0, 0) := rfl
theorem r_249_72 : row 249 72 = some (.getfield 31, 75, 2, 5, 0, 2075) := rfl
theorem r_249_75 : row 249 75 = some (.iconst 1, 76, 1, 0, 0, 0) := rfl
theorem r_249_76 : row 249 76 = some (.iadd, 77, 0, 0, 0, 0) := rfl
theorem r_249_77 : row 249 77 = some (.putfield 31, 80, 2, 5, 0, 2075) := rfl
theorem r_249_80 : row 249 80 = some (.return_, 81, 0, 0, 0, 0) := rfl
theorem r_250_0 : row 250 0 = some (.bipush 12, 2, 12, 0, 0, 0) := rfl
theorem r_250_2 : row 250 2 = some (.istore 4, 4, 0, 0, 0, 0) := rfl
theorem r_250_4 : row 250 4 = some (.iload_n 3, 5, 0, 0, 0, 0) := rfl
theorem r_250_5 : row 250 5 = some (.aload_n 0, 6, 0, 0, 0, 0) := rfl
theorem r_250_6 : row 250 6 = some (.getfield 24, 9, 2, 3, 2, 2072) := rfl
theorem r_250_9 : row 250 9 = some (.aload_n 2, 10, 0, 0, 0, 0) := rfl
theorem r_250_10 : row 250 10 = some (.getfield 111, 13, 4, 0, 10, 1202) := rfl
theorem r_250_13 : row 250 13 = some (.invokestatic 107, 16, 237, 2, 10, 4224) := rfl
theorem r_250_16 : row 250 16 = some (.iadd, 17, 0, 0, 0, 0) := rfl
theorem r_250_17 : row 250 17 = some (.istore 5, 19, 0, 0, 0, 0) := rfl
theorem r_250_19 : row 250 19 = some (.iload 5, 21, 0, 0, 0, 0) := rfl
theorem r_250_21 : row 250 21 = some (.aload_n 2, 22, 0, 0, 0, 0) := rfl
theorem r_250_22 : row 250 22 = some (.getfield 114, 25, 4, 3, 10, 1209) := rfl
theorem r_250_25 : row 250 25 = some (.if_icmp .ge 7, 28, 32, 0, 0, 0) := rfl
theorem r_250_28 : row 250 28 = some (.iload 5, 30, 0, 0, 0, 0) := rfl
theorem r_250_30 : row 250 30 = some (.istore 4, 32, 0, 0, 0, 0) := rfl
theorem r_250_32 : row 250 32 = some (.iload_n 3, 33, 0, 0, 0, 0) := rfl
theorem r_250_33 : row 250 33 = some (.aload_n 2, 34, 0, 0, 0, 0) := rfl
theorem r_250_34 : row 250 34 = some (.getfield 114, 37, 4, 3, 10, 1209) := rfl
theorem r_250_37 : row 250 37 = some (.invokestatic 117, 40, (-3), 2, 0, 4225) := rfl
theorem r_250_40 : row 250 40 = some (.istore 6, 42, 0, 0, 0, 0) := rfl
theorem r_250_42 : row 250 42 = some (.iconst 0, 43, 0, 0, 0, 0) := rfl
theorem r_250_43 : row 250 43 = some (.istore 7, 45, 0, 0, 0, 0) := rfl
theorem r_250_45 : row 250 45 = some (.iload 7, 47, 0, 0, 0, 0) := rfl
theorem r_250_47 : row 250 47 = some (.aload_n 1, 48, 0, 0, 0, 0) := rfl
theorem r_250_48 : row 250 48 = some (.getfield 120, 51, 3, 7, 10, 1096) := rfl
theorem r_250_51 : row 250 51 = some (.if_icmp .ge 120, 54, 171, 0, 0, 0) := rfl
theorem r_250_54 : row 250 54 = some (.aload_n 1, 55, 0, 0, 0, 0) := rfl
theorem r_250_55 : row 250 55 = some (.getfield 123, 58, 3, 12, 12, 1117) := rfl
theorem r_250_58 : row 250 58 = some (.iload 7, 60, 0, 0, 0, 0) := rfl
theorem r_250_60 : row 250 60 = some (.invokestatic 107, 63, 237, 2, 10, 4224) := rfl
theorem r_250_63 : row 250 63 = some (.istore 8, 65, 0, 0, 0, 0) := rfl
theorem r_250_65 : row 250 65 = some (.aload_n 1, 66, 0, 0, 0, 0) := rfl
theorem r_250_66 : row 250 66 = some (.aload_n 2, 67, 0, 0, 0, 0) := rfl
theorem r_250_67 : row 250 67 = some (.getfield 111, 70, 4, 0, 10, 1202) := rfl
theorem r_250_70 : row 250 70 = some (.iload 8, 72, 0, 0, 0, 0) := rfl
theorem r_250_72 : row 250 72 = some (.invokevirtual 74, 75, 259, 2, 10, 4211) := rfl
theorem r_250_75 : row 250 75 = some (.istore 9, 77, 0, 0, 0, 0) := rfl
theorem r_250_77 : row 250 77 = some (.iconst 1, 78, 1, 0, 0, 0) := rfl
theorem r_250_78 : row 250 78 = some (.aload_n 0, 79, 0, 0, 0, 0) := rfl
theorem r_250_79 : row 250 79 = some (.getfield 24, 82, 2, 3, 2, 2072) := rfl
theorem r_250_82 : row 250 82 = some (.iload 8, 84, 0, 0, 0, 0) := rfl
theorem r_250_84 : row 250 84 = some (.invokestatic 107, 87, 237, 2, 10, 4224) := rfl
theorem r_250_87 : row 250 87 = some (.iadd, 88, 0, 0, 0, 0) := rfl
theorem r_250_88 : row 250 88 = some (.istore 10, 90, 0, 0, 0, 0) := rfl
theorem r_250_90 : row 250 90 = some (.aload_n 2, 91, 0, 0, 0, 0) := rfl
theorem r_250_91 : row 250 91 = some (.getfield 126, 94, 4, 4, 10, 1211) := rfl
theorem r_250_94 : row 250 94 = some (.iload 7, 96, 0, 0, 0, 0) := rfl
theorem r_250_96 : row 250 96 = some (.invokestatic 80, 99, 242, 2, 10, 4212) := rfl
theorem r_250_99 : row 250 99 = some (.ifCond .ne 7, 102, 106, 0, 0, 0) := rfl
theorem r_250_102 : row 250 102 = some (.iconst 1, 103, 1, 0, 0, 0) := rfl
theorem r_250_103 : row 250 103 = some (.goto 4, 106, 107, 0, 0, 0) := rfl
theorem r_250_106 : row 250 106 = some (.iconst 0, 107, 0, 0, 0, 0) := rfl
theorem r_250_107 : row 250 107 = some (.istore 11, 109, 0, 0, 0, 0) := rfl
theorem r_250_109 : row 250 109 = some (.iload 11, 111, 0, 0, 0, 0) := rfl
theorem r_250_111 : row 250 111 = some (.ifCond .eq 54, 114, 165, 0, 0, 0) := rfl
theorem r_250_114 : row 250 114 = some (.iload 9, 116, 0, 0, 0, 0) := rfl
theorem r_250_116 : row 250 116 = some (.iconst (-1), 117, (-1), 0, 0, 0) := rfl
theorem r_250_117 : row 250 117 = some (.if_icmp .eq 48, 120, 165, 0, 0, 0) := rfl
theorem r_250_120 : row 250 120 = some (.iload 10, 122, 0, 0, 0, 0) := rfl
theorem r_250_122 : row 250 122 = some (.iconst 3, 123, 3, 0, 0, 0) := rfl
theorem r_250_123 : row 250 123 = some (.if_icmp .ge 42, 126, 165, 0, 0, 0) := rfl
theorem r_250_126 : row 250 126 = some (.aload_n 1, 127, 0, 0, 0, 0) := rfl
theorem r_250_127 : row 250 127 = some (.getfield 129, 130, 3, 13, 12, 1121) := rfl
theorem r_250_130 : row 250 130 = some (.iload 7, 132, 0, 0, 0, 0) := rfl
theorem r_250_132 : row 250 132 = some (.invokestatic 107, 135, 237, 2, 10, 4224) := rfl
theorem r_250_135 : row 250 135 = some (.istore 12, 137, 0, 0, 0, 0) := rfl
theorem r_250_137 : row 250 137 = some (.iload_n 3, 138, 0, 0, 0, 0) := rfl
theorem r_250_138 : row 250 138 = some (.iload 9, 140, 0, 0, 0, 0) := rfl
theorem r_250_140 : row 250 140 = some (.iadd, 141, 0, 0, 0, 0) := rfl
theorem r_250_141 : row 250 141 = some (.iload 12, 143, 0, 0, 0, 0) := rfl
theorem r_250_143 : row 250 143 = some (.invokestatic 117, 146, (-3), 2, 0, 4225) := rfl
theorem r_250_146 : row 250 146 = some (.iload 6, 148, 0, 0, 0, 0) := rfl
theorem r_250_148 : row 250 148 = some (.invokestatic 117, 151, (-3), 2, 0, 4225) := rfl
theorem r_250_151 : row 250 151 = some (.istore 13, 153, 0, 0, 0, 0) := rfl
theorem r_250_153 : row 250 153 = some (.iload 4, 155, 0, 0, 0, 0) := rfl
theorem r_250_155 : row 250 155 = some (.iload 13, 157, 0, 0, 0, 0) := rfl
theorem r_250_157 : row 250 157 = some (.iload 10, 159, 0, 0, 0, 0) := rfl
theorem r_250_159 : row 250 159 = some (.iadd, 160, 0, 0, 0, 0) := rfl
theorem r_250_160 : row 250 160 = some (.invokestatic 43, 163, (-4), 2, 0, 4207) := rfl
theorem r_250_163 : row 250 163 = some (.istore 4, 165, 0, 0, 0, 0) := rfl
theorem r_250_165 : row 250 165 = some (.iinc 7 1, 168, 0, 0, 0, 0) := rfl
theorem r_250_168 : row 250 168 = some (.goto (-123), 171, 45, 0, 0, 0) := rfl
theorem r_250_171 : row 250 171 = some (.iload 4, 173, 0, 0, 0, 0) := rfl
theorem r_250_173 : row 250 173 = some (.ireturn, 174, 0, 0, 0, 0) := rfl
theorem r_267_0 : row 267 0 = some (.aload_n 0, 1, 0, 0, 0, 0) := rfl
theorem r_267_1 : row 267 1 = some (.aload_n 1, 2, 0, 0, 0, 0) := rfl
theorem r_267_2 : row 267 2 = some (.getfield 9, 5, 4, 0, 0, 1200) := rfl
theorem r_267_5 : row 267 5 = some (.putfield 9, 8, 4, 0, 0, 1200) := rfl
theorem r_267_8 : row 267 8 = some (.aload_n 0, 9, 0, 0, 0, 0) := rfl
theorem r_267_9 : row 267 9 = some (.aload_n 1, 10, 0, 0, 0, 0) := rfl
theorem r_267_10 : row 267 10 = some (.getfield 15, 13, 4, 1, 0, 1203) := rfl
theorem r_267_13 : row 267 13 = some (.putfield 15, 16, 4, 1, 0, 1203) := rfl
theorem r_267_16 : row 267 16 = some (.aload_n 0, 17, 0, 0, 0, 0) := rfl
theorem r_267_17 : row 267 17 = some (.aload_n 1, 18, 0, 0, 0, 0) := rfl
theorem r_267_18 : row 267 18 = some (.getfield 18, 21, 4, 2, 0, 1206) := rfl
theorem r_267_21 : row 267 21 = some (.putfield 18, 24, 4, 2, 0, 1206) := rfl
theorem r_267_24 : row 267 24 = some (.aload_n 0, 25, 0, 0, 0, 0) := rfl
theorem r_267_25 : row 267 25 = some (.aload_n 1, 26, 0, 0, 0, 0) := rfl
theorem r_267_26 : row 267 26 = some (.getfield 21, 29, 4, 3, 0, 1208) := rfl
theorem r_267_29 : row 267 29 = some (.putfield 21, 32, 4, 3, 0, 1208) := rfl
theorem r_267_32 : row 267 32 = some (.aload_n 0, 33, 0, 0, 0, 0) := rfl
theorem r_267_33 : row 267 33 = some (.aload_n 1, 34, 0, 0, 0, 0) := rfl
theorem r_267_34 : row 267 34 = some (.getfield 24, 37, 4, 4, 0, 1210) := rfl
theorem r_267_37 : row 267 37 = some (.putfield 24, 40, 4, 4, 0, 1210) := rfl
theorem r_267_40 : row 267 40 = some (.aload_n 0, 41, 0, 0, 0, 0) := rfl
theorem r_267_41 : row 267 41 = some (.aload_n 1, 42, 0, 0, 0, 0) := rfl
theorem r_267_42 : row 267 42 = some (.getfield 27, 45, 4, 5, 0, 1212) := rfl
theorem r_267_45 : row 267 45 = some (.putfield 27, 48, 4, 5, 0, 1212) := rfl
theorem r_267_48 : row 267 48 = some (.aload_n 0, 49, 0, 0, 0, 0) := rfl
theorem r_267_49 : row 267 49 = some (.aload_n 1, 50, 0, 0, 0, 0) := rfl
theorem r_267_50 : row 267 50 = some (.getfield 30, 53, 4, 6, 0, 1214) := rfl
theorem r_267_53 : row 267 53 = some (.putfield 30, 56, 4, 6, 0, 1214) := rfl
theorem r_267_56 : row 267 56 = some (.aload_n 0, 57, 0, 0, 0, 0) := rfl
theorem r_267_57 : row 267 57 = some (.aload_n 1, 58, 0, 0, 0, 0) := rfl
theorem r_267_58 : row 267 58 = some (.getfield 33, 61, 4, 7, 3, 1216) := rfl
theorem r_267_61 : row 267 61 = some (.putfield 33, 64, 4, 7, 3, 1216) := rfl
theorem r_267_64 : row 267 64 = some (.aload_n 1, 65, 0, 0, 0, 0) := rfl
theorem r_267_65 : row 267 65 = some (.getfield 37, 68, 4, 8, 2, 1218) := rfl
theorem r_267_68 : row 267 68 = some (.aload_n 0, 69, 0, 0, 0, 0) := rfl
theorem r_267_69 : row 267 69 = some (.getfield 37, 72, 4, 8, 2, 1218) := rfl
theorem r_267_72 : row 267 72 = some (.invokestatic 59, 75, 241, 2, 10, 3180) := rfl
theorem r_267_75 : row 267 75 = some (.aload_n 1, 76, 0, 0, 0, 0) := rfl
theorem r_267_76 : row 267 76 = some (.getfield 41, 79, 4, 9, 2, 1220) := rfl
theorem r_267_79 : row 267 79 = some (.aload_n 0, 80, 0, 0, 0, 0) := rfl
theorem r_267_80 : row 267 80 = some (.getfield 41, 83, 4, 9, 2, 1220) := rfl
theorem r_267_83 : row 267 83 = some (.invokestatic 59, 86, 241, 2, 10, 3180) := rfl
theorem r_267_86 : row 267 86 = some (.return_, 87, 0, 0, 0, 0) := rfl
/-- a hunt's objects: the hunt, its 13 rides behind the rows tried, first, ways to brooks -/
def HuntT (T : List Kd) (g : Nat) : Prop := 0 < g ∧ T[g]? = some (2, 7) ∧ T[g + 1]? = some (107, 13) ∧ T[g + 2]? = some (100, 12) ∧ T[g + 3]? = some (100, 12) ∧ T[g + 4]? = some (100, 7) ∧ ∀ i : Nat, i < 13 → RideT T (g + 5 + 3 * i)
theorem thunt_0 {T : List Kd} {o : Nat} (h : HuntT T o) : T[o]? = some (2, 7) := h.2.1
theorem thunt_1 {T : List Kd} {o : Nat} (h : HuntT T o) : T[o + 1]? = some (107, 13) := h.2.2.1
theorem thunt_2 {T : List Kd} {o : Nat} (h : HuntT T o) : T[o + 2]? = some (100, 12) := h.2.2.2.1
theorem thunt_3 {T : List Kd} {o : Nat} (h : HuntT T o) : T[o + 3]? = some (100, 12) := h.2.2.2.2.1
theorem thunt_4 {T : List Kd} {o : Nat} (h : HuntT T o) : T[o + 4]? = some (100, 7) := h.2.2.2.2.2.1
def HuntR (m : Mm) (g : Nat) : Prop := m g 0 = (g : Int) + 1 ∧ m g 1 = (g : Int) + 2 ∧ m g 2 = (g : Int) + 3 ∧ m g 3 = (g : Int) + 4 ∧ ∀ i : Nat, i < 13 → m (g + 1) i = (g : Int) + 5 + 3 * (i : Int) ∧ RideR m (g + 5 + 3 * i)
theorem nu_fz {m : Mm} {o p i j : Nat} {x : Int} (h : ¬ (p = o ∧ j = i)) : nu_up m o i x p j = m p j := by
  by_cases e : p = o
  · rw [e] at h ⊢
    exact nu_ne (fun z => h ⟨rfl, z⟩)
  · exact nu_no e
theorem huntr_eq {a b : Mm} {g : Nat} (h : HuntR a g) (e : ∀ q i : Nat, ((q = g ∧ i < 4) ∨ q = g + 1 ∨ (g + 5 ≤ q ∧ (i = 8 ∨ i = 9))) → b q i = a q i) : HuntR b g := by
  obtain ⟨h0, h1, h2, h3, h4⟩ := h
  refine ⟨(e g 0 (Or.inl ⟨rfl, by decide⟩)).trans h0, (e g 1 (Or.inl ⟨rfl, by decide⟩)).trans h1, (e g 2 (Or.inl ⟨rfl, by decide⟩)).trans h2, (e g 3 (Or.inl ⟨rfl, by decide⟩)).trans h3, fun i hi => ?_⟩
  obtain ⟨a1, a2, a3⟩ := h4 i hi
  exact ⟨(e (g + 1) i (Or.inr (Or.inl rfl))).trans a1, (e (g + 5 + 3 * i) 8 (Or.inr (Or.inr ⟨by omega, Or.inl rfl⟩))).trans a2, (e (g + 5 + 3 * i) 9 (Or.inr (Or.inr ⟨by omega, Or.inr rfl⟩))).trans a3⟩
/-- hours of vines are small -/
def WR (w : Wd) : Prop := ∀ v : Nat, v < 3 → (v : Int) < w 6 → 0 ≤ w (42 + 2 * v) ∧ w (42 + 2 * v) ≤ 13
section HUNTC
variable {T : List Kd} {m : Mm}
theorem wd_pl {o : Nat} {w : Wd} (h : WD m o w) : m o 1 = w 0 := h.1.2.1
theorem wd_ho {o : Nat} {w : Wd} (h : WD m o w) : m o 2 = w 1 := h.1.2.2.1
theorem wd_nv {o : Nat} {w : Wd} (h : WD m o w) : m o 7 = w 6 := h.1.2.2.2.2.2.2.2.1
theorem bw_b {o : Nat} {w : Wd} {D : Nat → Nat → Int} {p : Nat} (hw : WD m o w) (hD : WyD w D) (hp : (p : Int) < w 0) : 0 ≤ bwF w D p ∧ bwF w D p ≤ 7 := by
  unfold bwF
  rcases bwL_at (w := w) (D := D) (p := p) (w 0).toNat with y | ⟨b, b1, b2, b3, b4⟩
  · rw [y]; decide
  · have b0 := hw.2.1.1
    have z := wd_way hw hD hp (b := b) (by omega)
    have := z.2.2.1 b3
    omega
theorem bw_l (hT : TT T) {o : Nat} (ho : IsleT T o) (hor : IsleR m o) {w : Wd} (hw : WD m o w) {D : Nat → Nat → Int} (hD : WyD w D) {p n : Nat} (hp : (p : Int) < w 0) (hn : w 0 = (n : Int)) : ∀ (N k : Nat) (y : AV), n - k < N → k ≤ n → GX T 2 247 5 [(2, (o : Int)), (0, (p : Int)), (0, bwL w D p k), (0, (k : Int)), y] [] m (RI (fun v m1 => v = bwL w D p n ∧ m1 = m)) := by
  have ho0 := ho.1
  have b0 := hw.2.1.1
  intro N
  induction N with
  | zero => intro k y hN; exact absurd hN (Nat.not_lt_zero _)
  | succ N ih =>
    intro k y hN hk
    refine gx_st (L' := [(2, (o : Int)), (0, (p : Int)), (0, (bwL w D p k)), (0, (k : Int)), y]) (S' := [(0, (k : Int))]) r_247_5 rfl rfl rfl ?_
    refine gx_st (L' := [(2, (o : Int)), (0, (p : Int)), (0, (bwL w D p k)), (0, (k : Int)), y]) (S' := [(2, (o : Int)), (0, (k : Int))]) r_247_6 rfl rfl rfl ?_
    refine gx_gf (x := (n : Int)) 0 r_247_7 (rfl) (tisle_0 ho) ⟨by omega, rfl, by decide, by decide⟩ rfl (fun z => absurd z (by decide)) ((wd_pl hw).trans hn) ?_
    refine gx_ic (P := (n : Int) ≤ (k : Int)) r_247_10 (rfl) (fun h10 => ?_) (fun h10 => ?_)
    · refine gx_st (L' := [(2, (o : Int)), (0, (p : Int)), (0, (bwL w D p k)), (0, (k : Int)), y]) (S' := [(0, (bwL w D p k))]) r_247_51 rfl rfl rfl ?_
      have hkn : k = n := by omega
      subst hkn
      exact gx_rt r_247_52 rfl rfl ⟨_, rfl, rfl, rfl⟩
    · refine gx_st (L' := [(2, (o : Int)), (0, (p : Int)), (0, (bwL w D p k)), (0, (k : Int)), y]) (S' := [(2, (o : Int))]) r_247_13 rfl rfl rfl ?_
      refine gx_st (L' := [(2, (o : Int)), (0, (p : Int)), (0, (bwL w D p k)), (0, (k : Int)), y]) (S' := [(0, (p : Int)), (2, (o : Int))]) r_247_14 rfl rfl rfl ?_
      refine gx_st (L' := [(2, (o : Int)), (0, (p : Int)), (0, (bwL w D p k)), (0, (k : Int)), y]) (S' := [(0, (k : Int)), (0, (p : Int)), (2, (o : Int))]) r_247_15 rfl rfl rfl ?_
      have wy_16 := wd_way hw hD (a := p) (b := k) (by omega) (by omega)
      refine gx_ci (nx := 19) (S2 := []) (s_259 hT ho hor (a := p) (b := k) (by omega) (by omega)) r_247_16 rfl rfl rfl rfl rfl (rcv_v rfl (tisle_0 ho) (by omega) rfl (by decide)) rfl (by decide) rfl (fun x16 n16 q16 => ?_)
      obtain ⟨e_x16, z_x16⟩ := q16
      obtain rfl := z_x16.symm
      rw [wy_16.1] at e_x16
      show GX T 2 247 19 [(2, (o : Int)), (0, (p : Int)), (0, (bwL w D p k)), (0, (k : Int)), y] [(0, x16)] m (RI (fun v m1 => v = bwL w D p n ∧ m1 = m))
      refine gx_st (L' := [(2, (o : Int)), (0, (p : Int)), (0, (bwL w D p k)), (0, (k : Int)), (0, x16)]) (S' := []) r_247_19 rfl rfl rfl ?_
      refine gx_st (L' := [(2, (o : Int)), (0, (p : Int)), (0, (bwL w D p k)), (0, (k : Int)), (0, x16)]) (S' := [(2, (o : Int))]) r_247_21 rfl rfl rfl ?_
      refine gx_gf (x := (w 10)) 0 r_247_22 (rfl) (tisle_0 ho) ⟨by omega, rfl, by decide, by decide⟩ rfl (fun z => absurd z (by decide)) (wd_brook hw) ?_
      refine gx_st (L' := [(2, (o : Int)), (0, (p : Int)), (0, (bwL w D p k)), (0, (k : Int)), (0, x16)]) (S' := [(0, (k : Int)), (0, (w 10))]) r_247_25 rfl rfl rfl ?_
      refine gx_ci (nx := 29) (S2 := []) (x_242 (w 10) (k : Int)) r_247_26 rfl rfl rfl rfl rfl rfl rfl (by decide) rfl (fun x26 n26 q26 => ?_)
      obtain rfl := q26.1.symm
      obtain rfl := q26.2.symm
      show GX T 2 247 29 [(2, (o : Int)), (0, (p : Int)), (0, (bwL w D p k)), (0, (k : Int)), (0, x16)] [(0, (if 0 ≤ (k : Int) ∧ (k : Int) < 32 ∧ iand (ishr (w 10) (k : Int)) 1 = 1 then 1 else 0))] m (RI (fun v m1 => v = bwL w D p n ∧ m1 = m))
      refine gx_i0 (P := ¬ (0 ≤ (k : Int) ∧ (k : Int) < 32 ∧ iand (ishr (w 10) (k : Int)) 1 = 1)) r_247_29 (b01_eq) (fun h29 => ?_) (fun h29 => ?_)
      · refine gx_li (z := (k : Int) + 1) (L' := [(2, (o : Int)), (0, (p : Int)), (0, (bwL w D p k)), (0, (k : Int) + 1), (0, x16)]) r_247_45 rfl (w32_eq (by omega) (by omega) (by omega)) rfl ?_
        refine gx_st (L' := [(2, (o : Int)), (0, (p : Int)), (0, (bwL w D p k)), (0, (k : Int) + 1), (0, x16)]) (S' := []) r_247_48 rfl rfl rfl ?_
        have e := bwL_n (w := w) (D := D) (p := p) (k := k) (fun c => by
          first
            | exact h29 ⟨by omega, by omega, bitF_i.mp c.1⟩
            | (rw [if_pos c.2] at e_x16; omega))
        rw [show (k : Int) + 1 = ((k + 1 : Nat) : Int) from rfl, ← e]
        exact ih (k + 1) (0, x16) (by omega) (by omega)
      · have h29 := Decidable.not_not.mp h29
        refine gx_st (L' := [(2, (o : Int)), (0, (p : Int)), (0, (bwL w D p k)), (0, (k : Int)), (0, x16)]) (S' := [(0, x16)]) r_247_32 rfl rfl rfl ?_
        refine gx_st (L' := [(2, (o : Int)), (0, (p : Int)), (0, (bwL w D p k)), (0, (k : Int)), (0, x16)]) (S' := [(0, (-1)), (0, x16)]) r_247_34 rfl rfl rfl ?_
        refine gx_ic (P := x16 = (-1)) r_247_35 (rfl) (fun h35 => ?_) (fun h35 => ?_)
        · refine gx_li (z := (k : Int) + 1) (L' := [(2, (o : Int)), (0, (p : Int)), (0, (bwL w D p k)), (0, (k : Int) + 1), (0, x16)]) r_247_45 rfl (w32_eq (by omega) (by omega) (by omega)) rfl ?_
          refine gx_st (L' := [(2, (o : Int)), (0, (p : Int)), (0, (bwL w D p k)), (0, (k : Int) + 1), (0, x16)]) (S' := []) r_247_48 rfl rfl rfl ?_
          have e := bwL_n (w := w) (D := D) (p := p) (k := k) (fun c => by
            first
              | exact h29 ⟨by omega, by omega, bitF_i.mp c.1⟩
              | (rw [if_pos c.2] at e_x16; omega))
          rw [show (k : Int) + 1 = ((k + 1 : Nat) : Int) from rfl, ← e]
          exact ih (k + 1) (0, x16) (by omega) (by omega)
        · refine gx_st (L' := [(2, (o : Int)), (0, (p : Int)), (0, (bwL w D p k)), (0, (k : Int)), (0, x16)]) (S' := [(0, (bwL w D p k))]) r_247_38 rfl rfl rfl ?_
          refine gx_st (L' := [(2, (o : Int)), (0, (p : Int)), (0, (bwL w D p k)), (0, (k : Int)), (0, x16)]) (S' := [(0, x16), (0, (bwL w D p k))]) r_247_39 rfl rfl rfl ?_
          refine gx_st (L' := [(2, (o : Int)), (0, (p : Int)), (0, (bwL w D p k)), (0, (k : Int)), (0, x16)]) (S' := [(0, (min (bwL w D p k) x16))]) r_247_41 rfl rfl rfl ?_
          refine gx_st (L' := [(2, (o : Int)), (0, (p : Int)), (0, (min (bwL w D p k) x16)), (0, (k : Int)), (0, x16)]) (S' := []) r_247_44 rfl rfl rfl ?_
          refine gx_li (z := (k : Int) + 1) (L' := [(2, (o : Int)), (0, (p : Int)), (0, (min (bwL w D p k) x16)), (0, (k : Int) + 1), (0, x16)]) r_247_45 rfl (w32_eq (by omega) (by omega) (by omega)) rfl ?_
          refine gx_st (L' := [(2, (o : Int)), (0, (p : Int)), (0, (min (bwL w D p k) x16)), (0, (k : Int) + 1), (0, x16)]) (S' := []) r_247_48 rfl rfl rfl ?_
          have c : bitF (w 10) k = true ∧ D p k < FAR := by
            refine ⟨bitF_i.mpr h29.2.2, ?_⟩
            apply Classical.byContradiction
            intro z
            rw [if_neg z] at e_x16
            exact h35 e_x16
          rw [if_pos c.2] at e_x16
          have e := bwL_y c
          rw [← e_x16] at e
          rw [show (k : Int) + 1 = ((k + 1 : Nat) : Int) from rfl, ← e]
          exact ih (k + 1) (0, x16) (by omega) (by omega)
theorem z_247 (hT : TT T) {o : Nat} (ho : IsleT T o) (hor : IsleR m o) {w : Wd} (hw : WD m o w) {D : Nat → Nat → Int} (hD : WyD w D) {p : Nat} (hp : (p : Int) < w 0) : GX T 2 247 0 [(2, (o : Int)), (0, (p : Int)), (9, 0), (9, 0), (9, 0)] [] m (RI (fun v m1 => v = bwF w D p ∧ m1 = m)) := by
  refine gx_st (L' := [(2, (o : Int)), (0, (p : Int)), (9, 0), (9, 0), (9, 0)]) (S' := [(0, 7)]) r_247_0 rfl rfl rfl ?_
  refine gx_st (L' := [(2, (o : Int)), (0, (p : Int)), (0, 7), (9, 0), (9, 0)]) (S' := []) r_247_2 rfl rfl rfl ?_
  refine gx_st (L' := [(2, (o : Int)), (0, (p : Int)), (0, 7), (9, 0), (9, 0)]) (S' := [(0, 0)]) r_247_3 rfl rfl rfl ?_
  refine gx_st (L' := [(2, (o : Int)), (0, (p : Int)), (0, 7), (0, 0), (9, 0)]) (S' := []) r_247_4 rfl rfl rfl ?_
  have b0 := hw.2.1.1
  exact bw_l hT ho hor hw hD hp (n := (w 0).toNat) (by omega) ((w 0).toNat + 1) 0 (9, 0) (by omega) (by omega)
theorem so_l (hT : TT T) {o : Nat} (ho : IsleT T o) (hor : IsleR m o) {w : Wd} (hw : WD m o w) {D : Nat → Nat → Int} (hD : WyD w D) {g : Nat} (hgt : HuntT T g) (hg : HuntR m g) (hbw : ∀ p : Nat, (p : Int) < w 0 → m (g + 4) p = bwF w D p) {r : Nat} (hr : RideT T r) (hrr : RideR m r) {s : Wd} (hs : RdS w m r s) {p : Nat} (hp : s 0 = (p : Int)) (hpn : (p : Int) < w 0) (hR : WR w) {h n : Nat} (hh : h ≤ 12) (h3 : 0 ≤ s 3 ∧ s 3 ≤ 100) (hn : w 6 = (n : Int)) {tb : Int} : ∀ (N k : Nat) (x8 x9 x10 x11 x12 x13 : AV), n - k < N → k ≤ n → GX T 3 250 45 [(2, (g : Int)), (2, (o : Int)), (2, (r : Int)), (0, (h : Int)), (0, (soL w D (h : Int) s k)), (0, tb), (0, (max (h : Int) (s 3))), (0, (k : Int)), x8, x9, x10, x11, x12, x13] [] m (RI (fun v m1 => v = soL w D (h : Int) s n ∧ m1 = m)) := by
  have ho0 := ho.1
  have hg0 := hgt.1
  have hr0 := hr.1
  have b0 := hw.2.1.1
  have b6 := hw.2.1.2.2.2.1
  have bp := (bw_b (w := w) (D := D) (p := p) hw hD hpn)
  intro N
  induction N with
  | zero => intro k x8 x9 x10 x11 x12 x13 hN; exact absurd hN (Nat.not_lt_zero _)
  | succ N ih =>
    intro k x8 x9 x10 x11 x12 x13 hN hk
    refine gx_st (L' := [(2, (g : Int)), (2, (o : Int)), (2, (r : Int)), (0, (h : Int)), (0, (soL w D (h : Int) s k)), (0, tb), (0, (max (h : Int) (s 3))), (0, (k : Int)), x8, x9, x10, x11, x12, x13]) (S' := [(0, (k : Int))]) r_250_45 rfl rfl rfl ?_
    refine gx_st (L' := [(2, (g : Int)), (2, (o : Int)), (2, (r : Int)), (0, (h : Int)), (0, (soL w D (h : Int) s k)), (0, tb), (0, (max (h : Int) (s 3))), (0, (k : Int)), x8, x9, x10, x11, x12, x13]) (S' := [(2, (o : Int)), (0, (k : Int))]) r_250_47 rfl rfl rfl ?_
    refine gx_gf (x := (n : Int)) 0 r_250_48 (rfl) (tisle_0 ho) ⟨by omega, rfl, by decide, by decide⟩ rfl (fun z => absurd z (by decide)) ((wd_nv hw).trans hn) ?_
    refine gx_ic (P := (n : Int) ≤ (k : Int)) r_250_51 (rfl) (fun h51 => ?_) (fun h51 => ?_)
    · refine gx_st (L' := [(2, (g : Int)), (2, (o : Int)), (2, (r : Int)), (0, (h : Int)), (0, (soL w D (h : Int) s k)), (0, tb), (0, (max (h : Int) (s 3))), (0, (k : Int)), x8, x9, x10, x11, x12, x13]) (S' := [(0, (soL w D (h : Int) s k))]) r_250_171 rfl rfl rfl ?_
      have hkn : k = n := by omega
      subst hkn
      exact gx_rt r_250_173 rfl rfl ⟨_, rfl, rfl, rfl⟩
    · have vp := hw.2.2.2.2.1 k (by omega) (by omega)
      obtain ⟨q, q1, q2⟩ : ∃ q : Nat, w (41 + 2 * k) = (q : Int) ∧ (q : Int) < w 0 := ⟨(w (41 + 2 * k)).toNat, by omega, by omega⟩
      have bq := bw_b (w := w) (D := D) (p := q) hw hD q2
      have vr := hR k (by omega) (by omega)
      refine gx_st (L' := [(2, (g : Int)), (2, (o : Int)), (2, (r : Int)), (0, (h : Int)), (0, (soL w D (h : Int) s k)), (0, tb), (0, (max (h : Int) (s 3))), (0, (k : Int)), x8, x9, x10, x11, x12, x13]) (S' := [(2, (o : Int))]) r_250_54 rfl rfl rfl ?_
      refine gx_gf (x := (o : Int) + 3) 2 r_250_55 (rfl) (tisle_0 ho) ⟨by omega, rfl, by decide, by decide⟩ rfl (fun _ => by omega) (hor.2.2.1) ?_
      refine gx_st (L' := [(2, (g : Int)), (2, (o : Int)), (2, (r : Int)), (0, (h : Int)), (0, (soL w D (h : Int) s k)), (0, tb), (0, (max (h : Int) (s 3))), (0, (k : Int)), x8, x9, x10, x11, x12, x13]) (S' := [(0, (k : Int)), (2, (o : Int) + 3)]) r_250_58 rfl rfl rfl ?_
      have c60 : m (o + 3) k = (q : Int) := (wd_vine hw (t := k) (by omega)).1.trans q1
      refine gx_ci (nx := 63) (S2 := []) (c_237 (r := o + 3) (n := 3) (tisle_3 ho) (by omega) (by decide) (k := k) (by omega)) r_250_60 rfl rfl rfl rfl rfl rfl rfl (by decide) rfl (fun x60 n60 q60 => ?_)
      obtain ⟨e_x60, z_x60⟩ := q60
      obtain rfl := z_x60.symm
      obtain rfl := e_x60
      rw [c60]
      show GX T 3 250 63 [(2, (g : Int)), (2, (o : Int)), (2, (r : Int)), (0, (h : Int)), (0, (soL w D (h : Int) s k)), (0, tb), (0, (max (h : Int) (s 3))), (0, (k : Int)), x8, x9, x10, x11, x12, x13] [(0, (q : Int))] m (RI (fun v m1 => v = soL w D (h : Int) s n ∧ m1 = m))
      refine gx_st (L' := [(2, (g : Int)), (2, (o : Int)), (2, (r : Int)), (0, (h : Int)), (0, (soL w D (h : Int) s k)), (0, tb), (0, (max (h : Int) (s 3))), (0, (k : Int)), (0, (q : Int)), x9, x10, x11, x12, x13]) (S' := []) r_250_63 rfl rfl rfl ?_
      refine gx_st (L' := [(2, (g : Int)), (2, (o : Int)), (2, (r : Int)), (0, (h : Int)), (0, (soL w D (h : Int) s k)), (0, tb), (0, (max (h : Int) (s 3))), (0, (k : Int)), (0, (q : Int)), x9, x10, x11, x12, x13]) (S' := [(2, (o : Int))]) r_250_65 rfl rfl rfl ?_
      refine gx_st (L' := [(2, (g : Int)), (2, (o : Int)), (2, (r : Int)), (0, (h : Int)), (0, (soL w D (h : Int) s k)), (0, tb), (0, (max (h : Int) (s 3))), (0, (k : Int)), (0, (q : Int)), x9, x10, x11, x12, x13]) (S' := [(2, (r : Int)), (2, (o : Int))]) r_250_66 rfl rfl rfl ?_
      refine gx_gf (x := (p : Int)) 0 r_250_67 (rfl) (tride_0 hr) ⟨by omega, rfl, by decide, by decide⟩ rfl (fun z => absurd z (by decide)) (hs.1.trans hp) ?_
      refine gx_st (L' := [(2, (g : Int)), (2, (o : Int)), (2, (r : Int)), (0, (h : Int)), (0, (soL w D (h : Int) s k)), (0, tb), (0, (max (h : Int) (s 3))), (0, (k : Int)), (0, (q : Int)), x9, x10, x11, x12, x13]) (S' := [(0, (q : Int)), (0, (p : Int)), (2, (o : Int))]) r_250_70 rfl rfl rfl ?_
      have wy_72 := wd_way hw hD (a := p) (b := q) (by omega) (by omega)
      refine gx_ci (nx := 75) (S2 := []) (s_259 hT ho hor (a := p) (b := q) (by omega) (by omega)) r_250_72 rfl rfl rfl rfl rfl (rcv_v rfl (tisle_0 ho) (by omega) rfl (by decide)) rfl (by decide) rfl (fun x72 n72 q72 => ?_)
      obtain ⟨e_x72, z_x72⟩ := q72
      obtain rfl := z_x72.symm
      rw [wy_72.1] at e_x72
      show GX T 3 250 75 [(2, (g : Int)), (2, (o : Int)), (2, (r : Int)), (0, (h : Int)), (0, (soL w D (h : Int) s k)), (0, tb), (0, (max (h : Int) (s 3))), (0, (k : Int)), (0, (q : Int)), x9, x10, x11, x12, x13] [(0, x72)] m (RI (fun v m1 => v = soL w D (h : Int) s n ∧ m1 = m))
      refine gx_st (L' := [(2, (g : Int)), (2, (o : Int)), (2, (r : Int)), (0, (h : Int)), (0, (soL w D (h : Int) s k)), (0, tb), (0, (max (h : Int) (s 3))), (0, (k : Int)), (0, (q : Int)), (0, x72), x10, x11, x12, x13]) (S' := []) r_250_75 rfl rfl rfl ?_
      have wl : x72 = -1 ∨ (0 ≤ x72 ∧ x72 ≤ 6) := by
        by_cases c : D p q < FAR
        · rw [if_pos c] at e_x72; have := wy_72.2.2.1 c; have := wy_72.2.1; omega
        · rw [if_neg c] at e_x72; exact Or.inl e_x72
      refine gx_st (L' := [(2, (g : Int)), (2, (o : Int)), (2, (r : Int)), (0, (h : Int)), (0, (soL w D (h : Int) s k)), (0, tb), (0, (max (h : Int) (s 3))), (0, (k : Int)), (0, (q : Int)), (0, x72), x10, x11, x12, x13]) (S' := [(0, 1)]) r_250_77 rfl rfl rfl ?_
      refine gx_st (L' := [(2, (g : Int)), (2, (o : Int)), (2, (r : Int)), (0, (h : Int)), (0, (soL w D (h : Int) s k)), (0, tb), (0, (max (h : Int) (s 3))), (0, (k : Int)), (0, (q : Int)), (0, x72), x10, x11, x12, x13]) (S' := [(2, (g : Int)), (0, 1)]) r_250_78 rfl rfl rfl ?_
      refine gx_gf (x := (g : Int) + 4) 2 r_250_79 (rfl) (thunt_0 hgt) ⟨by omega, rfl, by decide, by decide⟩ rfl (fun _ => by omega) (hg.2.2.2.1) ?_
      refine gx_st (L' := [(2, (g : Int)), (2, (o : Int)), (2, (r : Int)), (0, (h : Int)), (0, (soL w D (h : Int) s k)), (0, tb), (0, (max (h : Int) (s 3))), (0, (k : Int)), (0, (q : Int)), (0, x72), x10, x11, x12, x13]) (S' := [(0, (q : Int)), (2, (g : Int) + 4), (0, 1)]) r_250_82 rfl rfl rfl ?_
      have c84 : m (g + 4) q = (bwF w D q) := hbw q q2
      refine gx_ci (nx := 87) (S2 := [(0, 1)]) (c_237 (r := g + 4) (n := 7) (thunt_4 hgt) (by omega) (by decide) (k := q) (by omega)) r_250_84 rfl rfl rfl rfl rfl rfl rfl (by decide) rfl (fun x84 n84 q84 => ?_)
      obtain ⟨e_x84, z_x84⟩ := q84
      obtain rfl := z_x84.symm
      obtain rfl := e_x84
      rw [c84]
      show GX T 3 250 87 [(2, (g : Int)), (2, (o : Int)), (2, (r : Int)), (0, (h : Int)), (0, (soL w D (h : Int) s k)), (0, tb), (0, (max (h : Int) (s 3))), (0, (k : Int)), (0, (q : Int)), (0, x72), x10, x11, x12, x13] [(0, (bwF w D q)), (0, 1)] m (RI (fun v m1 => v = soL w D (h : Int) s n ∧ m1 = m))
      refine gx_ar (L' := [(2, (g : Int)), (2, (o : Int)), (2, (r : Int)), (0, (h : Int)), (0, (soL w D (h : Int) s k)), (0, tb), (0, (max (h : Int) (s 3))), (0, (k : Int)), (0, (q : Int)), (0, x72), x10, x11, x12, x13]) (S' := []) (t := 0) (e := w32 (1 + (bwF w D q))) (z := (bwF w D q) + 1) r_250_87 rfl rfl rfl (w32_eq (by omega) (by omega) (by omega)) ?_
      refine gx_st (L' := [(2, (g : Int)), (2, (o : Int)), (2, (r : Int)), (0, (h : Int)), (0, (soL w D (h : Int) s k)), (0, tb), (0, (max (h : Int) (s 3))), (0, (k : Int)), (0, (q : Int)), (0, x72), (0, (bwF w D q) + 1), x11, x12, x13]) (S' := []) r_250_88 rfl rfl rfl ?_
      refine gx_st (L' := [(2, (g : Int)), (2, (o : Int)), (2, (r : Int)), (0, (h : Int)), (0, (soL w D (h : Int) s k)), (0, tb), (0, (max (h : Int) (s 3))), (0, (k : Int)), (0, (q : Int)), (0, x72), (0, (bwF w D q) + 1), x11, x12, x13]) (S' := [(2, (r : Int))]) r_250_90 rfl rfl rfl ?_
      refine gx_gf (x := (s 4)) 0 r_250_91 (rfl) (tride_0 hr) ⟨by omega, rfl, by decide, by decide⟩ rfl (fun z => absurd z (by decide)) (hs.2.2.2.2.1) ?_
      refine gx_st (L' := [(2, (g : Int)), (2, (o : Int)), (2, (r : Int)), (0, (h : Int)), (0, (soL w D (h : Int) s k)), (0, tb), (0, (max (h : Int) (s 3))), (0, (k : Int)), (0, (q : Int)), (0, x72), (0, (bwF w D q) + 1), x11, x12, x13]) (S' := [(0, (k : Int)), (0, (s 4))]) r_250_94 rfl rfl rfl ?_
      refine gx_ci (nx := 99) (S2 := []) (x_242 (s 4) (k : Int)) r_250_96 rfl rfl rfl rfl rfl rfl rfl (by decide) rfl (fun x96 n96 q96 => ?_)
      obtain rfl := q96.1.symm
      obtain rfl := q96.2.symm
      show GX T 3 250 99 [(2, (g : Int)), (2, (o : Int)), (2, (r : Int)), (0, (h : Int)), (0, (soL w D (h : Int) s k)), (0, tb), (0, (max (h : Int) (s 3))), (0, (k : Int)), (0, (q : Int)), (0, x72), (0, (bwF w D q) + 1), x11, x12, x13] [(0, (if 0 ≤ (k : Int) ∧ (k : Int) < 32 ∧ iand (ishr (s 4) (k : Int)) 1 = 1 then 1 else 0))] m (RI (fun v m1 => v = soL w D (h : Int) s n ∧ m1 = m))
      refine gx_i0 (P := 0 ≤ (k : Int) ∧ (k : Int) < 32 ∧ iand (ishr (s 4) (k : Int)) 1 = 1) r_250_99 (b01_ne) (fun h99 => ?_) (fun h99 => ?_)
      · refine gx_st (L' := [(2, (g : Int)), (2, (o : Int)), (2, (r : Int)), (0, (h : Int)), (0, (soL w D (h : Int) s k)), (0, tb), (0, (max (h : Int) (s 3))), (0, (k : Int)), (0, (q : Int)), (0, x72), (0, (bwF w D q) + 1), x11, x12, x13]) (S' := [(0, 0)]) r_250_106 rfl rfl rfl ?_
        refine gx_st (L' := [(2, (g : Int)), (2, (o : Int)), (2, (r : Int)), (0, (h : Int)), (0, (soL w D (h : Int) s k)), (0, tb), (0, (max (h : Int) (s 3))), (0, (k : Int)), (0, (q : Int)), (0, x72), (0, (bwF w D q) + 1), (0, 0), x12, x13]) (S' := []) r_250_107 rfl rfl rfl ?_
        refine gx_st (L' := [(2, (g : Int)), (2, (o : Int)), (2, (r : Int)), (0, (h : Int)), (0, (soL w D (h : Int) s k)), (0, tb), (0, (max (h : Int) (s 3))), (0, (k : Int)), (0, (q : Int)), (0, x72), (0, (bwF w D q) + 1), (0, 0), x12, x13]) (S' := [(0, 0)]) r_250_109 rfl rfl rfl ?_
        refine gx_i0 (P := 0 = 0) r_250_111 (rfl) (fun h111 => ?_) (fun h111 => ?_)
        · refine gx_li (z := (k : Int) + 1) (L' := [(2, (g : Int)), (2, (o : Int)), (2, (r : Int)), (0, (h : Int)), (0, (soL w D (h : Int) s k)), (0, tb), (0, (max (h : Int) (s 3))), (0, (k : Int) + 1), (0, (q : Int)), (0, x72), (0, (bwF w D q) + 1), (0, 0), x12, x13]) r_250_165 rfl (w32_eq (by omega) (by omega) (by omega)) rfl ?_
          refine gx_st (L' := [(2, (g : Int)), (2, (o : Int)), (2, (r : Int)), (0, (h : Int)), (0, (soL w D (h : Int) s k)), (0, tb), (0, (max (h : Int) (s 3))), (0, (k : Int) + 1), (0, (q : Int)), (0, x72), (0, (bwF w D q) + 1), (0, 0), x12, x13]) (S' := []) r_250_168 rfl rfl rfl ?_
          have e := soL_n (w := w) (D := D) (h := (h : Int)) (s := s) (k := k) (fun c => by
            obtain ⟨c1, c2, c3⟩ := c
            rw [nat_of hp, nat_of q1] at c2
            rw [nat_of q1] at c3
            first
              | exact c1 (bitF_i.mpr (And.right (And.right (by assumption : 0 ≤ (k : Int) ∧ (k : Int) < 32 ∧ iand (ishr (s 4) (k : Int)) 1 = 1))))
              | omega
              | (rw [if_pos c2] at e_x72; omega))
          rw [show (k : Int) + 1 = ((k + 1 : Nat) : Int) from rfl, ← e]
          exact ih (k + 1) (0, (q : Int)) (0, x72) (0, (bwF w D q) + 1) (0, 0) x12 x13 (by omega) (by omega)
        · omega
      · refine gx_st (L' := [(2, (g : Int)), (2, (o : Int)), (2, (r : Int)), (0, (h : Int)), (0, (soL w D (h : Int) s k)), (0, tb), (0, (max (h : Int) (s 3))), (0, (k : Int)), (0, (q : Int)), (0, x72), (0, (bwF w D q) + 1), x11, x12, x13]) (S' := [(0, 1)]) r_250_102 rfl rfl rfl ?_
        refine gx_st (L' := [(2, (g : Int)), (2, (o : Int)), (2, (r : Int)), (0, (h : Int)), (0, (soL w D (h : Int) s k)), (0, tb), (0, (max (h : Int) (s 3))), (0, (k : Int)), (0, (q : Int)), (0, x72), (0, (bwF w D q) + 1), x11, x12, x13]) (S' := [(0, 1)]) r_250_103 rfl rfl rfl ?_
        refine gx_st (L' := [(2, (g : Int)), (2, (o : Int)), (2, (r : Int)), (0, (h : Int)), (0, (soL w D (h : Int) s k)), (0, tb), (0, (max (h : Int) (s 3))), (0, (k : Int)), (0, (q : Int)), (0, x72), (0, (bwF w D q) + 1), (0, 1), x12, x13]) (S' := []) r_250_107 rfl rfl rfl ?_
        refine gx_st (L' := [(2, (g : Int)), (2, (o : Int)), (2, (r : Int)), (0, (h : Int)), (0, (soL w D (h : Int) s k)), (0, tb), (0, (max (h : Int) (s 3))), (0, (k : Int)), (0, (q : Int)), (0, x72), (0, (bwF w D q) + 1), (0, 1), x12, x13]) (S' := [(0, 1)]) r_250_109 rfl rfl rfl ?_
        refine gx_i0 (P := 1 = 0) r_250_111 (rfl) (fun h111 => ?_) (fun h111 => ?_)
        · omega
        · refine gx_st (L' := [(2, (g : Int)), (2, (o : Int)), (2, (r : Int)), (0, (h : Int)), (0, (soL w D (h : Int) s k)), (0, tb), (0, (max (h : Int) (s 3))), (0, (k : Int)), (0, (q : Int)), (0, x72), (0, (bwF w D q) + 1), (0, 1), x12, x13]) (S' := [(0, x72)]) r_250_114 rfl rfl rfl ?_
          refine gx_st (L' := [(2, (g : Int)), (2, (o : Int)), (2, (r : Int)), (0, (h : Int)), (0, (soL w D (h : Int) s k)), (0, tb), (0, (max (h : Int) (s 3))), (0, (k : Int)), (0, (q : Int)), (0, x72), (0, (bwF w D q) + 1), (0, 1), x12, x13]) (S' := [(0, (-1)), (0, x72)]) r_250_116 rfl rfl rfl ?_
          refine gx_ic (P := x72 = (-1)) r_250_117 (rfl) (fun h117 => ?_) (fun h117 => ?_)
          · refine gx_li (z := (k : Int) + 1) (L' := [(2, (g : Int)), (2, (o : Int)), (2, (r : Int)), (0, (h : Int)), (0, (soL w D (h : Int) s k)), (0, tb), (0, (max (h : Int) (s 3))), (0, (k : Int) + 1), (0, (q : Int)), (0, x72), (0, (bwF w D q) + 1), (0, 1), x12, x13]) r_250_165 rfl (w32_eq (by omega) (by omega) (by omega)) rfl ?_
            refine gx_st (L' := [(2, (g : Int)), (2, (o : Int)), (2, (r : Int)), (0, (h : Int)), (0, (soL w D (h : Int) s k)), (0, tb), (0, (max (h : Int) (s 3))), (0, (k : Int) + 1), (0, (q : Int)), (0, x72), (0, (bwF w D q) + 1), (0, 1), x12, x13]) (S' := []) r_250_168 rfl rfl rfl ?_
            have e := soL_n (w := w) (D := D) (h := (h : Int)) (s := s) (k := k) (fun c => by
              obtain ⟨c1, c2, c3⟩ := c
              rw [nat_of hp, nat_of q1] at c2
              rw [nat_of q1] at c3
              first
                | exact c1 (bitF_i.mpr (And.right (And.right (by assumption : 0 ≤ (k : Int) ∧ (k : Int) < 32 ∧ iand (ishr (s 4) (k : Int)) 1 = 1))))
                | omega
                | (rw [if_pos c2] at e_x72; omega))
            rw [show (k : Int) + 1 = ((k + 1 : Nat) : Int) from rfl, ← e]
            exact ih (k + 1) (0, (q : Int)) (0, x72) (0, (bwF w D q) + 1) (0, 1) x12 x13 (by omega) (by omega)
          · refine gx_st (L' := [(2, (g : Int)), (2, (o : Int)), (2, (r : Int)), (0, (h : Int)), (0, (soL w D (h : Int) s k)), (0, tb), (0, (max (h : Int) (s 3))), (0, (k : Int)), (0, (q : Int)), (0, x72), (0, (bwF w D q) + 1), (0, 1), x12, x13]) (S' := [(0, (bwF w D q) + 1)]) r_250_120 rfl rfl rfl ?_
            refine gx_st (L' := [(2, (g : Int)), (2, (o : Int)), (2, (r : Int)), (0, (h : Int)), (0, (soL w D (h : Int) s k)), (0, tb), (0, (max (h : Int) (s 3))), (0, (k : Int)), (0, (q : Int)), (0, x72), (0, (bwF w D q) + 1), (0, 1), x12, x13]) (S' := [(0, 3), (0, (bwF w D q) + 1)]) r_250_122 rfl rfl rfl ?_
            refine gx_ic (P := 3 ≤ (bwF w D q) + 1) r_250_123 (rfl) (fun h123 => ?_) (fun h123 => ?_)
            · refine gx_li (z := (k : Int) + 1) (L' := [(2, (g : Int)), (2, (o : Int)), (2, (r : Int)), (0, (h : Int)), (0, (soL w D (h : Int) s k)), (0, tb), (0, (max (h : Int) (s 3))), (0, (k : Int) + 1), (0, (q : Int)), (0, x72), (0, (bwF w D q) + 1), (0, 1), x12, x13]) r_250_165 rfl (w32_eq (by omega) (by omega) (by omega)) rfl ?_
              refine gx_st (L' := [(2, (g : Int)), (2, (o : Int)), (2, (r : Int)), (0, (h : Int)), (0, (soL w D (h : Int) s k)), (0, tb), (0, (max (h : Int) (s 3))), (0, (k : Int) + 1), (0, (q : Int)), (0, x72), (0, (bwF w D q) + 1), (0, 1), x12, x13]) (S' := []) r_250_168 rfl rfl rfl ?_
              have e := soL_n (w := w) (D := D) (h := (h : Int)) (s := s) (k := k) (fun c => by
                obtain ⟨c1, c2, c3⟩ := c
                rw [nat_of hp, nat_of q1] at c2
                rw [nat_of q1] at c3
                first
                  | exact c1 (bitF_i.mpr (And.right (And.right (by assumption : 0 ≤ (k : Int) ∧ (k : Int) < 32 ∧ iand (ishr (s 4) (k : Int)) 1 = 1))))
                  | omega
                  | (rw [if_pos c2] at e_x72; omega))
              rw [show (k : Int) + 1 = ((k + 1 : Nat) : Int) from rfl, ← e]
              exact ih (k + 1) (0, (q : Int)) (0, x72) (0, (bwF w D q) + 1) (0, 1) x12 x13 (by omega) (by omega)
            · refine gx_st (L' := [(2, (g : Int)), (2, (o : Int)), (2, (r : Int)), (0, (h : Int)), (0, (soL w D (h : Int) s k)), (0, tb), (0, (max (h : Int) (s 3))), (0, (k : Int)), (0, (q : Int)), (0, x72), (0, (bwF w D q) + 1), (0, 1), x12, x13]) (S' := [(2, (o : Int))]) r_250_126 rfl rfl rfl ?_
              refine gx_gf (x := (o : Int) + 4) 2 r_250_127 (rfl) (tisle_0 ho) ⟨by omega, rfl, by decide, by decide⟩ rfl (fun _ => by omega) (hor.2.2.2.1) ?_
              refine gx_st (L' := [(2, (g : Int)), (2, (o : Int)), (2, (r : Int)), (0, (h : Int)), (0, (soL w D (h : Int) s k)), (0, tb), (0, (max (h : Int) (s 3))), (0, (k : Int)), (0, (q : Int)), (0, x72), (0, (bwF w D q) + 1), (0, 1), x12, x13]) (S' := [(0, (k : Int)), (2, (o : Int) + 4)]) r_250_130 rfl rfl rfl ?_
              have c132 : m (o + 4) k = (w (42 + 2 * k)) := (wd_vine hw (t := k) (by omega)).2
              refine gx_ci (nx := 135) (S2 := []) (c_237 (r := o + 4) (n := 3) (tisle_4 ho) (by omega) (by decide) (k := k) (by omega)) r_250_132 rfl rfl rfl rfl rfl rfl rfl (by decide) rfl (fun x132 n132 q132 => ?_)
              obtain ⟨e_x132, z_x132⟩ := q132
              obtain rfl := z_x132.symm
              obtain rfl := e_x132
              rw [c132]
              show GX T 3 250 135 [(2, (g : Int)), (2, (o : Int)), (2, (r : Int)), (0, (h : Int)), (0, (soL w D (h : Int) s k)), (0, tb), (0, (max (h : Int) (s 3))), (0, (k : Int)), (0, (q : Int)), (0, x72), (0, (bwF w D q) + 1), (0, 1), x12, x13] [(0, (w (42 + 2 * k)))] m (RI (fun v m1 => v = soL w D (h : Int) s n ∧ m1 = m))
              refine gx_st (L' := [(2, (g : Int)), (2, (o : Int)), (2, (r : Int)), (0, (h : Int)), (0, (soL w D (h : Int) s k)), (0, tb), (0, (max (h : Int) (s 3))), (0, (k : Int)), (0, (q : Int)), (0, x72), (0, (bwF w D q) + 1), (0, 1), (0, (w (42 + 2 * k))), x13]) (S' := []) r_250_135 rfl rfl rfl ?_
              refine gx_st (L' := [(2, (g : Int)), (2, (o : Int)), (2, (r : Int)), (0, (h : Int)), (0, (soL w D (h : Int) s k)), (0, tb), (0, (max (h : Int) (s 3))), (0, (k : Int)), (0, (q : Int)), (0, x72), (0, (bwF w D q) + 1), (0, 1), (0, (w (42 + 2 * k))), x13]) (S' := [(0, (h : Int))]) r_250_137 rfl rfl rfl ?_
              refine gx_st (L' := [(2, (g : Int)), (2, (o : Int)), (2, (r : Int)), (0, (h : Int)), (0, (soL w D (h : Int) s k)), (0, tb), (0, (max (h : Int) (s 3))), (0, (k : Int)), (0, (q : Int)), (0, x72), (0, (bwF w D q) + 1), (0, 1), (0, (w (42 + 2 * k))), x13]) (S' := [(0, x72), (0, (h : Int))]) r_250_138 rfl rfl rfl ?_
              refine gx_ar (L' := [(2, (g : Int)), (2, (o : Int)), (2, (r : Int)), (0, (h : Int)), (0, (soL w D (h : Int) s k)), (0, tb), (0, (max (h : Int) (s 3))), (0, (k : Int)), (0, (q : Int)), (0, x72), (0, (bwF w D q) + 1), (0, 1), (0, (w (42 + 2 * k))), x13]) (S' := []) (t := 0) (e := w32 ((h : Int) + x72)) (z := (h : Int) + x72) r_250_140 rfl rfl rfl (w32_eq (by omega) (by omega) (by omega)) ?_
              refine gx_st (L' := [(2, (g : Int)), (2, (o : Int)), (2, (r : Int)), (0, (h : Int)), (0, (soL w D (h : Int) s k)), (0, tb), (0, (max (h : Int) (s 3))), (0, (k : Int)), (0, (q : Int)), (0, x72), (0, (bwF w D q) + 1), (0, 1), (0, (w (42 + 2 * k))), x13]) (S' := [(0, (w (42 + 2 * k))), (0, (h : Int) + x72)]) r_250_141 rfl rfl rfl ?_
              refine gx_st (L' := [(2, (g : Int)), (2, (o : Int)), (2, (r : Int)), (0, (h : Int)), (0, (soL w D (h : Int) s k)), (0, tb), (0, (max (h : Int) (s 3))), (0, (k : Int)), (0, (q : Int)), (0, x72), (0, (bwF w D q) + 1), (0, 1), (0, (w (42 + 2 * k))), x13]) (S' := [(0, (max ((h : Int) + x72) ((w (42 + 2 * k)))))]) r_250_143 rfl rfl rfl ?_
              refine gx_st (L' := [(2, (g : Int)), (2, (o : Int)), (2, (r : Int)), (0, (h : Int)), (0, (soL w D (h : Int) s k)), (0, tb), (0, (max (h : Int) (s 3))), (0, (k : Int)), (0, (q : Int)), (0, x72), (0, (bwF w D q) + 1), (0, 1), (0, (w (42 + 2 * k))), x13]) (S' := [(0, (max (h : Int) (s 3))), (0, (max ((h : Int) + x72) ((w (42 + 2 * k)))))]) r_250_146 rfl rfl rfl ?_
              refine gx_st (L' := [(2, (g : Int)), (2, (o : Int)), (2, (r : Int)), (0, (h : Int)), (0, (soL w D (h : Int) s k)), (0, tb), (0, (max (h : Int) (s 3))), (0, (k : Int)), (0, (q : Int)), (0, x72), (0, (bwF w D q) + 1), (0, 1), (0, (w (42 + 2 * k))), x13]) (S' := [(0, (max ((max ((h : Int) + x72) ((w (42 + 2 * k))))) ((max (h : Int) (s 3)))))]) r_250_148 rfl rfl rfl ?_
              refine gx_st (L' := [(2, (g : Int)), (2, (o : Int)), (2, (r : Int)), (0, (h : Int)), (0, (soL w D (h : Int) s k)), (0, tb), (0, (max (h : Int) (s 3))), (0, (k : Int)), (0, (q : Int)), (0, x72), (0, (bwF w D q) + 1), (0, 1), (0, (w (42 + 2 * k))), (0, (max ((max ((h : Int) + x72) ((w (42 + 2 * k))))) ((max (h : Int) (s 3)))))]) (S' := []) r_250_151 rfl rfl rfl ?_
              refine gx_st (L' := [(2, (g : Int)), (2, (o : Int)), (2, (r : Int)), (0, (h : Int)), (0, (soL w D (h : Int) s k)), (0, tb), (0, (max (h : Int) (s 3))), (0, (k : Int)), (0, (q : Int)), (0, x72), (0, (bwF w D q) + 1), (0, 1), (0, (w (42 + 2 * k))), (0, (max ((max ((h : Int) + x72) ((w (42 + 2 * k))))) ((max (h : Int) (s 3)))))]) (S' := [(0, (soL w D (h : Int) s k))]) r_250_153 rfl rfl rfl ?_
              refine gx_st (L' := [(2, (g : Int)), (2, (o : Int)), (2, (r : Int)), (0, (h : Int)), (0, (soL w D (h : Int) s k)), (0, tb), (0, (max (h : Int) (s 3))), (0, (k : Int)), (0, (q : Int)), (0, x72), (0, (bwF w D q) + 1), (0, 1), (0, (w (42 + 2 * k))), (0, (max ((max ((h : Int) + x72) ((w (42 + 2 * k))))) ((max (h : Int) (s 3)))))]) (S' := [(0, (max ((max ((h : Int) + x72) ((w (42 + 2 * k))))) ((max (h : Int) (s 3))))), (0, (soL w D (h : Int) s k))]) r_250_155 rfl rfl rfl ?_
              refine gx_st (L' := [(2, (g : Int)), (2, (o : Int)), (2, (r : Int)), (0, (h : Int)), (0, (soL w D (h : Int) s k)), (0, tb), (0, (max (h : Int) (s 3))), (0, (k : Int)), (0, (q : Int)), (0, x72), (0, (bwF w D q) + 1), (0, 1), (0, (w (42 + 2 * k))), (0, (max ((max ((h : Int) + x72) ((w (42 + 2 * k))))) ((max (h : Int) (s 3)))))]) (S' := [(0, (bwF w D q) + 1), (0, (max ((max ((h : Int) + x72) ((w (42 + 2 * k))))) ((max (h : Int) (s 3))))), (0, (soL w D (h : Int) s k))]) r_250_157 rfl rfl rfl ?_
              refine gx_ar (L' := [(2, (g : Int)), (2, (o : Int)), (2, (r : Int)), (0, (h : Int)), (0, (soL w D (h : Int) s k)), (0, tb), (0, (max (h : Int) (s 3))), (0, (k : Int)), (0, (q : Int)), (0, x72), (0, (bwF w D q) + 1), (0, 1), (0, (w (42 + 2 * k))), (0, (max ((max ((h : Int) + x72) ((w (42 + 2 * k))))) ((max (h : Int) (s 3)))))]) (S' := [(0, (soL w D (h : Int) s k))]) (t := 0) (e := w32 (((max ((max ((h : Int) + x72) ((w (42 + 2 * k))))) ((max (h : Int) (s 3))))) + ((bwF w D q) + 1))) (z := (max ((max ((h : Int) + x72) ((w (42 + 2 * k))))) ((max (h : Int) (s 3)))) + (bwF w D q) + 1) r_250_159 rfl rfl rfl (w32_eq (by omega) (by omega) (by omega)) ?_
              refine gx_st (L' := [(2, (g : Int)), (2, (o : Int)), (2, (r : Int)), (0, (h : Int)), (0, (soL w D (h : Int) s k)), (0, tb), (0, (max (h : Int) (s 3))), (0, (k : Int)), (0, (q : Int)), (0, x72), (0, (bwF w D q) + 1), (0, 1), (0, (w (42 + 2 * k))), (0, (max ((max ((h : Int) + x72) ((w (42 + 2 * k))))) ((max (h : Int) (s 3)))))]) (S' := [(0, (min ((soL w D (h : Int) s k)) ((max ((max ((h : Int) + x72) ((w (42 + 2 * k))))) ((max (h : Int) (s 3)))) + (bwF w D q) + 1)))]) r_250_160 rfl rfl rfl ?_
              refine gx_st (L' := [(2, (g : Int)), (2, (o : Int)), (2, (r : Int)), (0, (h : Int)), (0, (min ((soL w D (h : Int) s k)) ((max ((max ((h : Int) + x72) ((w (42 + 2 * k))))) ((max (h : Int) (s 3)))) + (bwF w D q) + 1))), (0, tb), (0, (max (h : Int) (s 3))), (0, (k : Int)), (0, (q : Int)), (0, x72), (0, (bwF w D q) + 1), (0, 1), (0, (w (42 + 2 * k))), (0, (max ((max ((h : Int) + x72) ((w (42 + 2 * k))))) ((max (h : Int) (s 3)))))]) (S' := []) r_250_163 rfl rfl rfl ?_
              refine gx_li (z := (k : Int) + 1) (L' := [(2, (g : Int)), (2, (o : Int)), (2, (r : Int)), (0, (h : Int)), (0, (min ((soL w D (h : Int) s k)) ((max ((max ((h : Int) + x72) ((w (42 + 2 * k))))) ((max (h : Int) (s 3)))) + (bwF w D q) + 1))), (0, tb), (0, (max (h : Int) (s 3))), (0, (k : Int) + 1), (0, (q : Int)), (0, x72), (0, (bwF w D q) + 1), (0, 1), (0, (w (42 + 2 * k))), (0, (max ((max ((h : Int) + x72) ((w (42 + 2 * k))))) ((max (h : Int) (s 3)))))]) r_250_165 rfl (w32_eq (by omega) (by omega) (by omega)) rfl ?_
              refine gx_st (L' := [(2, (g : Int)), (2, (o : Int)), (2, (r : Int)), (0, (h : Int)), (0, (min ((soL w D (h : Int) s k)) ((max ((max ((h : Int) + x72) ((w (42 + 2 * k))))) ((max (h : Int) (s 3)))) + (bwF w D q) + 1))), (0, tb), (0, (max (h : Int) (s 3))), (0, (k : Int) + 1), (0, (q : Int)), (0, x72), (0, (bwF w D q) + 1), (0, 1), (0, (w (42 + 2 * k))), (0, (max ((max ((h : Int) + x72) ((w (42 + 2 * k))))) ((max (h : Int) (s 3)))))]) (S' := []) r_250_168 rfl rfl rfl ?_
              have c : soC w D s k := by
                refine ⟨fun z => (by assumption : ¬ (0 ≤ (k : Int) ∧ (k : Int) < 32 ∧ iand (ishr (s 4) (k : Int)) 1 = 1)) ⟨by omega, by omega, bitF_i.mp z⟩, ?_, by rw [nat_of q1]; omega⟩
                rw [nat_of hp, nat_of q1]
                apply Classical.byContradiction
                intro z
                rw [if_neg z] at e_x72
                exact h117 e_x72
              have c2 := c.2.1
              rw [nat_of hp, nat_of q1] at c2
              rw [if_pos c2] at e_x72
              have e := soL_y (h := (h : Int)) c
              unfold soT at e
              rw [nat_of hp, nat_of q1, ← e_x72] at e
              have e3 : soL w D (h : Int) s (k + 1) = (min ((soL w D (h : Int) s k)) ((max ((max ((h : Int) + x72) ((w (42 + 2 * k))))) ((max (h : Int) (s 3)))) + (bwF w D q) + 1)) := e.trans (by congr 1; omega)
              rw [show (k : Int) + 1 = ((k + 1 : Nat) : Int) from rfl, ← e3]
              exact ih (k + 1) (0, (q : Int)) (0, x72) (0, (bwF w D q) + 1) (0, 1) (0, (w (42 + 2 * k))) (0, (max ((max ((h : Int) + x72) ((w (42 + 2 * k))))) ((max (h : Int) (s 3))))) (by omega) (by omega)
theorem z_250 (hT : TT T) {o : Nat} (ho : IsleT T o) (hor : IsleR m o) {w : Wd} (hw : WD m o w) {D : Nat → Nat → Int} (hD : WyD w D) {g : Nat} (hgt : HuntT T g) (hg : HuntR m g) (hbw : ∀ p : Nat, (p : Int) < w 0 → m (g + 4) p = bwF w D p) {r : Nat} (hr : RideT T r) (hrr : RideR m r) {s : Wd} (hs : RdS w m r s) {p : Nat} (hp : s 0 = (p : Int)) (hpn : (p : Int) < w 0) (hR : WR w) {h n : Nat} (hh : h ≤ 12) (h3 : 0 ≤ s 3 ∧ s 3 ≤ 100) (hn : w 6 = (n : Int)) : GX T 3 250 0 [(2, (g : Int)), (2, (o : Int)), (2, (r : Int)), (0, (h : Int)), (9, 0), (9, 0), (9, 0), (9, 0), (9, 0), (9, 0), (9, 0), (9, 0), (9, 0), (9, 0)] [] m (RI (fun v m1 => v = soL w D (h : Int) s n ∧ m1 = m)) := by
  have hg0 := hgt.1
  have hr0 := hr.1
  have b0 := hw.2.1.1
  have bp := (bw_b (w := w) (D := D) (p := p) hw hD hpn)
  refine gx_st (L' := [(2, (g : Int)), (2, (o : Int)), (2, (r : Int)), (0, (h : Int)), (9, 0), (9, 0), (9, 0), (9, 0), (9, 0), (9, 0), (9, 0), (9, 0), (9, 0), (9, 0)]) (S' := [(0, 12)]) r_250_0 rfl rfl rfl ?_
  refine gx_st (L' := [(2, (g : Int)), (2, (o : Int)), (2, (r : Int)), (0, (h : Int)), (0, 12), (9, 0), (9, 0), (9, 0), (9, 0), (9, 0), (9, 0), (9, 0), (9, 0), (9, 0)]) (S' := []) r_250_2 rfl rfl rfl ?_
  refine gx_st (L' := [(2, (g : Int)), (2, (o : Int)), (2, (r : Int)), (0, (h : Int)), (0, 12), (9, 0), (9, 0), (9, 0), (9, 0), (9, 0), (9, 0), (9, 0), (9, 0), (9, 0)]) (S' := [(0, (h : Int))]) r_250_4 rfl rfl rfl ?_
  refine gx_st (L' := [(2, (g : Int)), (2, (o : Int)), (2, (r : Int)), (0, (h : Int)), (0, 12), (9, 0), (9, 0), (9, 0), (9, 0), (9, 0), (9, 0), (9, 0), (9, 0), (9, 0)]) (S' := [(2, (g : Int)), (0, (h : Int))]) r_250_5 rfl rfl rfl ?_
  refine gx_gf (x := (g : Int) + 4) 2 r_250_6 (rfl) (thunt_0 hgt) ⟨by omega, rfl, by decide, by decide⟩ rfl (fun _ => by omega) (hg.2.2.2.1) ?_
  refine gx_st (L' := [(2, (g : Int)), (2, (o : Int)), (2, (r : Int)), (0, (h : Int)), (0, 12), (9, 0), (9, 0), (9, 0), (9, 0), (9, 0), (9, 0), (9, 0), (9, 0), (9, 0)]) (S' := [(2, (r : Int)), (2, (g : Int) + 4), (0, (h : Int))]) r_250_9 rfl rfl rfl ?_
  refine gx_gf (x := (p : Int)) 0 r_250_10 (rfl) (tride_0 hr) ⟨by omega, rfl, by decide, by decide⟩ rfl (fun z => absurd z (by decide)) (hs.1.trans hp) ?_
  have c13 : m (g + 4) p = (bwF w D p) := hbw p hpn
  refine gx_ci (nx := 16) (S2 := [(0, (h : Int))]) (c_237 (r := g + 4) (n := 7) (thunt_4 hgt) (by omega) (by decide) (k := p) (by omega)) r_250_13 rfl rfl rfl rfl rfl rfl rfl (by decide) rfl (fun x13 n13 q13 => ?_)
  obtain ⟨e_x13, z_x13⟩ := q13
  obtain rfl := z_x13.symm
  obtain rfl := e_x13
  rw [c13]
  show GX T 3 250 16 [(2, (g : Int)), (2, (o : Int)), (2, (r : Int)), (0, (h : Int)), (0, 12), (9, 0), (9, 0), (9, 0), (9, 0), (9, 0), (9, 0), (9, 0), (9, 0), (9, 0)] [(0, (bwF w D p)), (0, (h : Int))] m (RI (fun v m1 => v = soL w D (h : Int) s n ∧ m1 = m))
  refine gx_ar (L' := [(2, (g : Int)), (2, (o : Int)), (2, (r : Int)), (0, (h : Int)), (0, 12), (9, 0), (9, 0), (9, 0), (9, 0), (9, 0), (9, 0), (9, 0), (9, 0), (9, 0)]) (S' := []) (t := 0) (e := w32 ((h : Int) + (bwF w D p))) (z := (h : Int) + (bwF w D p)) r_250_16 rfl rfl rfl (w32_eq (by omega) (by omega) (by omega)) ?_
  refine gx_st (L' := [(2, (g : Int)), (2, (o : Int)), (2, (r : Int)), (0, (h : Int)), (0, 12), (0, (h : Int) + (bwF w D p)), (9, 0), (9, 0), (9, 0), (9, 0), (9, 0), (9, 0), (9, 0), (9, 0)]) (S' := []) r_250_17 rfl rfl rfl ?_
  refine gx_st (L' := [(2, (g : Int)), (2, (o : Int)), (2, (r : Int)), (0, (h : Int)), (0, 12), (0, (h : Int) + (bwF w D p)), (9, 0), (9, 0), (9, 0), (9, 0), (9, 0), (9, 0), (9, 0), (9, 0)]) (S' := [(0, (h : Int) + (bwF w D p))]) r_250_19 rfl rfl rfl ?_
  refine gx_st (L' := [(2, (g : Int)), (2, (o : Int)), (2, (r : Int)), (0, (h : Int)), (0, 12), (0, (h : Int) + (bwF w D p)), (9, 0), (9, 0), (9, 0), (9, 0), (9, 0), (9, 0), (9, 0), (9, 0)]) (S' := [(2, (r : Int)), (0, (h : Int) + (bwF w D p))]) r_250_21 rfl rfl rfl ?_
  refine gx_gf (x := (s 3)) 0 r_250_22 (rfl) (tride_0 hr) ⟨by omega, rfl, by decide, by decide⟩ rfl (fun z => absurd z (by decide)) (hs.2.2.2.1) ?_
  refine gx_ic (P := (s 3) ≤ (h : Int) + (bwF w D p)) r_250_25 (rfl) (fun h25 => ?_) (fun h25 => ?_)
  · refine gx_st (L' := [(2, (g : Int)), (2, (o : Int)), (2, (r : Int)), (0, (h : Int)), (0, 12), (0, (h : Int) + (bwF w D p)), (9, 0), (9, 0), (9, 0), (9, 0), (9, 0), (9, 0), (9, 0), (9, 0)]) (S' := [(0, (h : Int))]) r_250_32 rfl rfl rfl ?_
    refine gx_st (L' := [(2, (g : Int)), (2, (o : Int)), (2, (r : Int)), (0, (h : Int)), (0, 12), (0, (h : Int) + (bwF w D p)), (9, 0), (9, 0), (9, 0), (9, 0), (9, 0), (9, 0), (9, 0), (9, 0)]) (S' := [(2, (r : Int)), (0, (h : Int))]) r_250_33 rfl rfl rfl ?_
    refine gx_gf (x := (s 3)) 0 r_250_34 (rfl) (tride_0 hr) ⟨by omega, rfl, by decide, by decide⟩ rfl (fun z => absurd z (by decide)) (hs.2.2.2.1) ?_
    refine gx_st (L' := [(2, (g : Int)), (2, (o : Int)), (2, (r : Int)), (0, (h : Int)), (0, 12), (0, (h : Int) + (bwF w D p)), (9, 0), (9, 0), (9, 0), (9, 0), (9, 0), (9, 0), (9, 0), (9, 0)]) (S' := [(0, (max (h : Int) (s 3)))]) r_250_37 rfl rfl rfl ?_
    refine gx_st (L' := [(2, (g : Int)), (2, (o : Int)), (2, (r : Int)), (0, (h : Int)), (0, 12), (0, (h : Int) + (bwF w D p)), (0, (max (h : Int) (s 3))), (9, 0), (9, 0), (9, 0), (9, 0), (9, 0), (9, 0), (9, 0)]) (S' := []) r_250_40 rfl rfl rfl ?_
    refine gx_st (L' := [(2, (g : Int)), (2, (o : Int)), (2, (r : Int)), (0, (h : Int)), (0, 12), (0, (h : Int) + (bwF w D p)), (0, (max (h : Int) (s 3))), (9, 0), (9, 0), (9, 0), (9, 0), (9, 0), (9, 0), (9, 0)]) (S' := [(0, 0)]) r_250_42 rfl rfl rfl ?_
    refine gx_st (L' := [(2, (g : Int)), (2, (o : Int)), (2, (r : Int)), (0, (h : Int)), (0, 12), (0, (h : Int) + (bwF w D p)), (0, (max (h : Int) (s 3))), (0, 0), (9, 0), (9, 0), (9, 0), (9, 0), (9, 0), (9, 0)]) (S' := []) r_250_43 rfl rfl rfl ?_
    have b0 := hw.2.1.1
    have b6 := hw.2.1.2.2.2.1
    have z := so_l hT ho hor hw hD hgt hg hbw hr hrr hs hp hpn hR (h := h) (n := n) hh h3 hn (tb := (h : Int) + (bwF w D p)) (n + 1) 0 (9, 0) (9, 0) (9, 0) (9, 0) (9, 0) (9, 0) (by omega) (by omega)
    rw [soL_b0 hp (by omega)] at z
    exact z
  · refine gx_st (L' := [(2, (g : Int)), (2, (o : Int)), (2, (r : Int)), (0, (h : Int)), (0, 12), (0, (h : Int) + (bwF w D p)), (9, 0), (9, 0), (9, 0), (9, 0), (9, 0), (9, 0), (9, 0), (9, 0)]) (S' := [(0, (h : Int) + (bwF w D p))]) r_250_28 rfl rfl rfl ?_
    refine gx_st (L' := [(2, (g : Int)), (2, (o : Int)), (2, (r : Int)), (0, (h : Int)), (0, (h : Int) + (bwF w D p)), (0, (h : Int) + (bwF w D p)), (9, 0), (9, 0), (9, 0), (9, 0), (9, 0), (9, 0), (9, 0), (9, 0)]) (S' := []) r_250_30 rfl rfl rfl ?_
    refine gx_st (L' := [(2, (g : Int)), (2, (o : Int)), (2, (r : Int)), (0, (h : Int)), (0, (h : Int) + (bwF w D p)), (0, (h : Int) + (bwF w D p)), (9, 0), (9, 0), (9, 0), (9, 0), (9, 0), (9, 0), (9, 0), (9, 0)]) (S' := [(0, (h : Int))]) r_250_32 rfl rfl rfl ?_
    refine gx_st (L' := [(2, (g : Int)), (2, (o : Int)), (2, (r : Int)), (0, (h : Int)), (0, (h : Int) + (bwF w D p)), (0, (h : Int) + (bwF w D p)), (9, 0), (9, 0), (9, 0), (9, 0), (9, 0), (9, 0), (9, 0), (9, 0)]) (S' := [(2, (r : Int)), (0, (h : Int))]) r_250_33 rfl rfl rfl ?_
    refine gx_gf (x := (s 3)) 0 r_250_34 (rfl) (tride_0 hr) ⟨by omega, rfl, by decide, by decide⟩ rfl (fun z => absurd z (by decide)) (hs.2.2.2.1) ?_
    refine gx_st (L' := [(2, (g : Int)), (2, (o : Int)), (2, (r : Int)), (0, (h : Int)), (0, (h : Int) + (bwF w D p)), (0, (h : Int) + (bwF w D p)), (9, 0), (9, 0), (9, 0), (9, 0), (9, 0), (9, 0), (9, 0), (9, 0)]) (S' := [(0, (max (h : Int) (s 3)))]) r_250_37 rfl rfl rfl ?_
    refine gx_st (L' := [(2, (g : Int)), (2, (o : Int)), (2, (r : Int)), (0, (h : Int)), (0, (h : Int) + (bwF w D p)), (0, (h : Int) + (bwF w D p)), (0, (max (h : Int) (s 3))), (9, 0), (9, 0), (9, 0), (9, 0), (9, 0), (9, 0), (9, 0)]) (S' := []) r_250_40 rfl rfl rfl ?_
    refine gx_st (L' := [(2, (g : Int)), (2, (o : Int)), (2, (r : Int)), (0, (h : Int)), (0, (h : Int) + (bwF w D p)), (0, (h : Int) + (bwF w D p)), (0, (max (h : Int) (s 3))), (9, 0), (9, 0), (9, 0), (9, 0), (9, 0), (9, 0), (9, 0)]) (S' := [(0, 0)]) r_250_42 rfl rfl rfl ?_
    refine gx_st (L' := [(2, (g : Int)), (2, (o : Int)), (2, (r : Int)), (0, (h : Int)), (0, (h : Int) + (bwF w D p)), (0, (h : Int) + (bwF w D p)), (0, (max (h : Int) (s 3))), (0, 0), (9, 0), (9, 0), (9, 0), (9, 0), (9, 0), (9, 0)]) (S' := []) r_250_43 rfl rfl rfl ?_
    have b0 := hw.2.1.1
    have b6 := hw.2.1.2.2.2.1
    have z := so_l hT ho hor hw hD hgt hg hbw hr hrr hs hp hpn hR (h := h) (n := n) hh h3 hn (tb := (h : Int) + (bwF w D p)) (n + 1) 0 (9, 0) (9, 0) (9, 0) (9, 0) (9, 0) (9, 0) (by omega) (by omega)
    rw [soL_b hp (by omega)] at z
    exact z
theorem z_267 (hT : TT T) {w : Wd} {r q : Nat} (hr : RideT T r) (hrr : RideR m r) (hq : RideT T q) (hqr : RideR m q) {s : Wd} (hs : RdS w m r s) (h7 : m r 7 = 0 ∨ m r 7 = 1) (hd : r + 3 ≤ q) : GX T 1 267 0 [(2, (q : Int)), (2, (r : Int))] [] m (RV (fun m1 => RdS w m1 q s ∧ FrO 8 q m m1)) := by
  have hr0 := hr.1
  have hq0 := hq.1
  refine gx_st (L' := [(2, (q : Int)), (2, (r : Int))]) (S' := [(2, (q : Int))]) r_267_0 rfl rfl rfl ?_
  refine gx_st (L' := [(2, (q : Int)), (2, (r : Int))]) (S' := [(2, (r : Int)), (2, (q : Int))]) r_267_1 rfl rfl rfl ?_
  refine gx_gf (x := (s 0)) 0 r_267_2 (rfl) (tride_0 hr) ⟨by omega, rfl, by decide, by decide⟩ rfl (fun z => absurd z (by decide)) (hs.1) ?_
  obtain ⟨m1, e_m1⟩ : ∃ z, z = nu_up m q 0 (s 0) := ⟨_, rfl⟩
  refine gx_pf (x := (s 0)) 0 r_267_5 (rfl) (tride_0 hq) ⟨by omega, rfl, by decide, by decide⟩ rfl (fun z => absurd z (by decide)) (fun z => absurd z (by decide)) e_m1.symm ?_
  refine gx_st (L' := [(2, (q : Int)), (2, (r : Int))]) (S' := [(2, (q : Int))]) r_267_8 rfl rfl rfl ?_
  refine gx_st (L' := [(2, (q : Int)), (2, (r : Int))]) (S' := [(2, (r : Int)), (2, (q : Int))]) r_267_9 rfl rfl rfl ?_
  refine gx_gf (x := (s 1)) 0 r_267_10 (rfl) (tride_0 hr) ⟨by omega, rfl, by decide, by decide⟩ rfl (fun z => absurd z (by decide)) (by show m1 r 1 = _; rw [e_m1, nu_no (by omega)]; exact hs.2.1) ?_
  obtain ⟨m2, e_m2⟩ : ∃ z, z = nu_up m1 q 1 (s 1) := ⟨_, rfl⟩
  refine gx_pf (x := (s 1)) 0 r_267_13 (rfl) (tride_0 hq) ⟨by omega, rfl, by decide, by decide⟩ rfl (fun z => absurd z (by decide)) (fun z => absurd z (by decide)) e_m2.symm ?_
  refine gx_st (L' := [(2, (q : Int)), (2, (r : Int))]) (S' := [(2, (q : Int))]) r_267_16 rfl rfl rfl ?_
  refine gx_st (L' := [(2, (q : Int)), (2, (r : Int))]) (S' := [(2, (r : Int)), (2, (q : Int))]) r_267_17 rfl rfl rfl ?_
  refine gx_gf (x := (s 2)) 0 r_267_18 (rfl) (tride_0 hr) ⟨by omega, rfl, by decide, by decide⟩ rfl (fun z => absurd z (by decide)) (by show m2 r 2 = _; rw [e_m2, nu_no (by omega), e_m1, nu_no (by omega)]; exact hs.2.2.1) ?_
  obtain ⟨m3, e_m3⟩ : ∃ z, z = nu_up m2 q 2 (s 2) := ⟨_, rfl⟩
  refine gx_pf (x := (s 2)) 0 r_267_21 (rfl) (tride_0 hq) ⟨by omega, rfl, by decide, by decide⟩ rfl (fun z => absurd z (by decide)) (fun z => absurd z (by decide)) e_m3.symm ?_
  refine gx_st (L' := [(2, (q : Int)), (2, (r : Int))]) (S' := [(2, (q : Int))]) r_267_24 rfl rfl rfl ?_
  refine gx_st (L' := [(2, (q : Int)), (2, (r : Int))]) (S' := [(2, (r : Int)), (2, (q : Int))]) r_267_25 rfl rfl rfl ?_
  refine gx_gf (x := (s 3)) 0 r_267_26 (rfl) (tride_0 hr) ⟨by omega, rfl, by decide, by decide⟩ rfl (fun z => absurd z (by decide)) (by show m3 r 3 = _; rw [e_m3, nu_no (by omega), e_m2, nu_no (by omega), e_m1, nu_no (by omega)]; exact hs.2.2.2.1) ?_
  obtain ⟨m4, e_m4⟩ : ∃ z, z = nu_up m3 q 3 (s 3) := ⟨_, rfl⟩
  refine gx_pf (x := (s 3)) 0 r_267_29 (rfl) (tride_0 hq) ⟨by omega, rfl, by decide, by decide⟩ rfl (fun z => absurd z (by decide)) (fun z => absurd z (by decide)) e_m4.symm ?_
  refine gx_st (L' := [(2, (q : Int)), (2, (r : Int))]) (S' := [(2, (q : Int))]) r_267_32 rfl rfl rfl ?_
  refine gx_st (L' := [(2, (q : Int)), (2, (r : Int))]) (S' := [(2, (r : Int)), (2, (q : Int))]) r_267_33 rfl rfl rfl ?_
  refine gx_gf (x := (s 4)) 0 r_267_34 (rfl) (tride_0 hr) ⟨by omega, rfl, by decide, by decide⟩ rfl (fun z => absurd z (by decide)) (by show m4 r 4 = _; rw [e_m4, nu_no (by omega), e_m3, nu_no (by omega), e_m2, nu_no (by omega), e_m1, nu_no (by omega)]; exact hs.2.2.2.2.1) ?_
  obtain ⟨m5, e_m5⟩ : ∃ z, z = nu_up m4 q 4 (s 4) := ⟨_, rfl⟩
  refine gx_pf (x := (s 4)) 0 r_267_37 (rfl) (tride_0 hq) ⟨by omega, rfl, by decide, by decide⟩ rfl (fun z => absurd z (by decide)) (fun z => absurd z (by decide)) e_m5.symm ?_
  refine gx_st (L' := [(2, (q : Int)), (2, (r : Int))]) (S' := [(2, (q : Int))]) r_267_40 rfl rfl rfl ?_
  refine gx_st (L' := [(2, (q : Int)), (2, (r : Int))]) (S' := [(2, (r : Int)), (2, (q : Int))]) r_267_41 rfl rfl rfl ?_
  refine gx_gf (x := (s 5)) 0 r_267_42 (rfl) (tride_0 hr) ⟨by omega, rfl, by decide, by decide⟩ rfl (fun z => absurd z (by decide)) (by show m5 r 5 = _; rw [e_m5, nu_no (by omega), e_m4, nu_no (by omega), e_m3, nu_no (by omega), e_m2, nu_no (by omega), e_m1, nu_no (by omega)]; exact hs.2.2.2.2.2.1) ?_
  obtain ⟨m6, e_m6⟩ : ∃ z, z = nu_up m5 q 5 (s 5) := ⟨_, rfl⟩
  refine gx_pf (x := (s 5)) 0 r_267_45 (rfl) (tride_0 hq) ⟨by omega, rfl, by decide, by decide⟩ rfl (fun z => absurd z (by decide)) (fun z => absurd z (by decide)) e_m6.symm ?_
  refine gx_st (L' := [(2, (q : Int)), (2, (r : Int))]) (S' := [(2, (q : Int))]) r_267_48 rfl rfl rfl ?_
  refine gx_st (L' := [(2, (q : Int)), (2, (r : Int))]) (S' := [(2, (r : Int)), (2, (q : Int))]) r_267_49 rfl rfl rfl ?_
  refine gx_gf (x := (s 16)) 0 r_267_50 (rfl) (tride_0 hr) ⟨by omega, rfl, by decide, by decide⟩ rfl (fun z => absurd z (by decide)) (by show m6 r 6 = _; rw [e_m6, nu_no (by omega), e_m5, nu_no (by omega), e_m4, nu_no (by omega), e_m3, nu_no (by omega), e_m2, nu_no (by omega), e_m1, nu_no (by omega)]; exact hs.2.2.2.2.2.2.1) ?_
  obtain ⟨m7, e_m7⟩ : ∃ z, z = nu_up m6 q 6 (s 16) := ⟨_, rfl⟩
  refine gx_pf (x := (s 16)) 0 r_267_53 (rfl) (tride_0 hq) ⟨by omega, rfl, by decide, by decide⟩ rfl (fun z => absurd z (by decide)) (fun z => absurd z (by decide)) e_m7.symm ?_
  refine gx_st (L' := [(2, (q : Int)), (2, (r : Int))]) (S' := [(2, (q : Int))]) r_267_56 rfl rfl rfl ?_
  refine gx_st (L' := [(2, (q : Int)), (2, (r : Int))]) (S' := [(2, (r : Int)), (2, (q : Int))]) r_267_57 rfl rfl rfl ?_
  refine gx_gf (x := (m r 7)) 0 r_267_58 (rfl) (tride_0 hr) ⟨by omega, rfl, by decide, by decide⟩ rfl (fun z => absurd z (by decide)) (by show m7 r 7 = _; rw [e_m7, nu_no (by omega), e_m6, nu_no (by omega), e_m5, nu_no (by omega), e_m4, nu_no (by omega), e_m3, nu_no (by omega), e_m2, nu_no (by omega), e_m1, nu_no (by omega)]) ?_
  obtain ⟨m8, e_m8⟩ : ∃ z, z = nu_up m7 q 7 (m r 7) := ⟨_, rfl⟩
  refine gx_pf (x := (m r 7)) 0 r_267_61 (rfl) (tride_0 hq) ⟨by omega, rfl, by decide, by decide⟩ rfl (fun _ => by omega) (fun z => absurd z (by decide)) e_m8.symm ?_
  refine gx_st (L' := [(2, (q : Int)), (2, (r : Int))]) (S' := [(2, (r : Int))]) r_267_64 rfl rfl rfl ?_
  refine gx_gf (x := (r : Int) + 1) 2 r_267_65 (rfl) (tride_0 hr) ⟨by omega, rfl, by decide, by decide⟩ rfl (fun _ => by omega) (by show m8 r 8 = _; rw [e_m8, nu_no (by omega), e_m7, nu_no (by omega), e_m6, nu_no (by omega), e_m5, nu_no (by omega), e_m4, nu_no (by omega), e_m3, nu_no (by omega), e_m2, nu_no (by omega), e_m1, nu_no (by omega)]; exact hrr.1) ?_
  refine gx_st (L' := [(2, (q : Int)), (2, (r : Int))]) (S' := [(2, (q : Int)), (2, (r : Int) + 1)]) r_267_68 rfl rfl rfl ?_
  refine gx_gf (x := (q : Int) + 1) 2 r_267_69 (rfl) (tride_0 hq) ⟨by omega, rfl, by decide, by decide⟩ rfl (fun _ => by omega) (by show m8 q 8 = _; rw [e_m8, nu_ne (by decide), e_m7, nu_ne (by decide), e_m6, nu_ne (by decide), e_m5, nu_ne (by decide), e_m4, nu_ne (by decide), e_m3, nu_ne (by decide), e_m2, nu_ne (by decide), e_m1, nu_ne (by decide)]; exact hqr.1) ?_
  have f0 : m8 q 0 = (s 0) := by rw [e_m8, nu_ne (by decide), e_m7, nu_ne (by decide), e_m6, nu_ne (by decide), e_m5, nu_ne (by decide), e_m4, nu_ne (by decide), e_m3, nu_ne (by decide), e_m2, nu_ne (by decide), e_m1, nu_at]
  have f1 : m8 q 1 = (s 1) := by rw [e_m8, nu_ne (by decide), e_m7, nu_ne (by decide), e_m6, nu_ne (by decide), e_m5, nu_ne (by decide), e_m4, nu_ne (by decide), e_m3, nu_ne (by decide), e_m2, nu_at]
  have f2 : m8 q 2 = (s 2) := by rw [e_m8, nu_ne (by decide), e_m7, nu_ne (by decide), e_m6, nu_ne (by decide), e_m5, nu_ne (by decide), e_m4, nu_ne (by decide), e_m3, nu_at]
  have f3 : m8 q 3 = (s 3) := by rw [e_m8, nu_ne (by decide), e_m7, nu_ne (by decide), e_m6, nu_ne (by decide), e_m5, nu_ne (by decide), e_m4, nu_at]
  have f4 : m8 q 4 = (s 4) := by rw [e_m8, nu_ne (by decide), e_m7, nu_ne (by decide), e_m6, nu_ne (by decide), e_m5, nu_at]
  have f5 : m8 q 5 = (s 5) := by rw [e_m8, nu_ne (by decide), e_m7, nu_ne (by decide), e_m6, nu_at]
  have f6 : m8 q 6 = (s 16) := by rw [e_m8, nu_ne (by decide), e_m7, nu_at]
  have f7 : m8 q 7 = (m r 7) := by rw [e_m8, nu_at]
  have fr : ∀ p i : Nat, ¬ (p = q ∧ i < 8) → m8 p i = m p i := fun p i z => by
    rw [e_m8, nu_fz (fun y => z ⟨y.1, by omega⟩), e_m7, nu_fz (fun y => z ⟨y.1, by omega⟩), e_m6, nu_fz (fun y => z ⟨y.1, by omega⟩), e_m5, nu_fz (fun y => z ⟨y.1, by omega⟩), e_m4, nu_fz (fun y => z ⟨y.1, by omega⟩), e_m3, nu_fz (fun y => z ⟨y.1, by omega⟩), e_m2, nu_fz (fun y => z ⟨y.1, by omega⟩), e_m1, nu_fz (fun y => z ⟨y.1, by omega⟩)]
  have rr_m8 : RideR m8 r := ⟨(fr r 8 (fun z => by omega)).trans hrr.1, (fr r 9 (fun z => by omega)).trans hrr.2⟩
  have rq_m8 : RideR m8 q := ⟨(fr q 8 (fun z => by omega)).trans hqr.1, (fr q 9 (fun z => by omega)).trans hqr.2⟩
  refine gx_cv (nx := 75) (S2 := []) (c_241 (r := r + 1) (n := 5) (tride_1 hr) (by omega) (by decide) (g := q + 1) (tride_1 hq) (by omega)) r_267_72 rfl rfl rfl rfl rfl rfl rfl (by decide) rfl (fun n72 q72 => ?_)
  obtain ⟨cp1, cf1⟩ := q72
  have ra1 : RideR n72 r := ⟨(cf1 r 8 (by omega)).trans rr_m8.1, (cf1 r 9 (by omega)).trans rr_m8.2⟩
  have ra2 : RideR n72 q := ⟨(cf1 q 8 (by omega)).trans rq_m8.1, (cf1 q 9 (by omega)).trans rq_m8.2⟩
  show GX T 1 267 75 [(2, (q : Int)), (2, (r : Int))] [] n72 (RV (fun m1 => RdS w m1 q s ∧ FrO 8 q m m1))
  refine gx_st (L' := [(2, (q : Int)), (2, (r : Int))]) (S' := [(2, (r : Int))]) r_267_75 rfl rfl rfl ?_
  refine gx_gf (x := (r : Int) + 2) 2 r_267_76 (rfl) (tride_0 hr) ⟨by omega, rfl, by decide, by decide⟩ rfl (fun _ => by omega) (ra1.2) ?_
  refine gx_st (L' := [(2, (q : Int)), (2, (r : Int))]) (S' := [(2, (q : Int)), (2, (r : Int) + 2)]) r_267_79 rfl rfl rfl ?_
  refine gx_gf (x := (q : Int) + 2) 2 r_267_80 (rfl) (tride_0 hq) ⟨by omega, rfl, by decide, by decide⟩ rfl (fun _ => by omega) (ra2.2) ?_
  refine gx_cv (nx := 86) (S2 := []) (c_241 (r := r + 2) (n := 5) (tride_2 hr) (by omega) (by decide) (g := q + 2) (tride_2 hq) (by omega)) r_267_83 rfl rfl rfl rfl rfl rfl rfl (by decide) rfl (fun n83 q83 => ?_)
  obtain ⟨cp2, cf2⟩ := q83
  show GX T 1 267 86 [(2, (q : Int)), (2, (r : Int))] [] n83 (RV (fun m1 => RdS w m1 q s ∧ FrO 8 q m m1))
  have c0 : ∀ i : Nat, n83 q i = m8 q i := fun i => (cf2 q i (by omega)).trans (cf1 q i (by omega))
  exact gx_rt r_267_86 rfl rfl ⟨rfl, ⟨(c0 0).trans f0, (c0 1).trans f1, (c0 2).trans f2, (c0 3).trans f3, (c0 4).trans f4, (c0 5).trans f5, (c0 6).trans f6, fun b hb => by rw [cf2 (q + 1) b (by omega), cp1 b hb, fr (r + 1) b (fun z => by omega)]; exact hs.2.2.2.2.2.2.2.1 b hb, fun t ht ht5 => by rw [cp2 t ht, cf1 (r + 2) t (by omega), fr (r + 2) t (fun z => by omega)]; exact hs.2.2.2.2.2.2.2.2 t ht ht5⟩, fun p i z z1 z2 => (cf2 p i z2).trans ((cf1 p i z1).trans (fr p i z))⟩
theorem fo_l (hT : TT T) {g : Nat} (hgt : HuntT T g) {h : Nat} : ∀ (N k : Nat) (p : Mm), 12 - k < N → k ≤ 12 → HuntR p g → GX T 1 249 33 [(2, (g : Int)), (0, (h : Int)), (0, (k : Int))] [] p (RV (fun m1 => (∀ i : Nat, k ≤ i → i < 12 → m1 (g + 3) i = if i ≤ h then p (g + 2) i else 0) ∧ (∀ i : Nat, i < k → m1 (g + 3) i = p (g + 3) i) ∧ m1 g 5 = w32 (p g 5 + 1) ∧ ∀ q i : Nat, ¬ (q = g ∧ i = 5) → ¬ q = g + 3 → m1 q i = p q i)) := by
  have hg0 := hgt.1
  intro N
  induction N with
  | zero => intro k p hN; exact absurd hN (Nat.not_lt_zero _)
  | succ N ih =>
    intro k p hN hk hg
    refine gx_st (L' := [(2, (g : Int)), (0, (h : Int)), (0, (k : Int))]) (S' := [(0, (k : Int))]) r_249_33 rfl rfl rfl ?_
    refine gx_st (L' := [(2, (g : Int)), (0, (h : Int)), (0, (k : Int))]) (S' := [(0, 12), (0, (k : Int))]) r_249_34 rfl rfl rfl ?_
    refine gx_ic (P := 12 ≤ (k : Int)) r_249_36 (rfl) (fun h36 => ?_) (fun h36 => ?_)
    · refine gx_st (L' := [(2, (g : Int)), (0, (h : Int)), (0, (k : Int))]) (S' := [(2, (g : Int))]) r_249_70 rfl rfl rfl ?_
      refine gx_st (L' := [(2, (g : Int)), (0, (h : Int)), (0, (k : Int))]) (S' := [(2, (g : Int)), (2, (g : Int))]) r_249_71 rfl rfl rfl ?_
      refine gx_gf (x := (p g 5)) 0 r_249_72 (rfl) (thunt_0 hgt) ⟨by omega, rfl, by decide, by decide⟩ rfl (fun z => absurd z (by decide)) (rfl) ?_
      refine gx_st (L' := [(2, (g : Int)), (0, (h : Int)), (0, (k : Int))]) (S' := [(0, 1), (0, (p g 5)), (2, (g : Int))]) r_249_75 rfl rfl rfl ?_
      refine gx_st (L' := [(2, (g : Int)), (0, (h : Int)), (0, (k : Int))]) (S' := [(0, (w32 ((p g 5) + 1))), (2, (g : Int))]) r_249_76 rfl rfl rfl ?_
      have k76 := w32_in ((p g 5) + 1)
      unfold in32 at k76
      obtain ⟨m1, e_m1⟩ : ∃ z, z = nu_up p g 5 ((w32 ((p g 5) + 1))) := ⟨_, rfl⟩
      refine gx_pf (x := (w32 ((p g 5) + 1))) 0 r_249_77 (rfl) (thunt_0 hgt) ⟨by omega, rfl, by decide, by decide⟩ rfl (fun z => absurd z (by decide)) (fun z => absurd z (by decide)) e_m1.symm ?_
      have hkn : k = 12 := by omega
      exact gx_rt r_249_80 rfl rfl ⟨rfl, fun i i1 i2 => absurd i2 (by omega), fun i i1 => by rw [e_m1, nu_no (by omega)], by rw [e_m1, nu_at], fun q i z1 z2 => by rw [e_m1, nu_fz z1]⟩
    · refine gx_st (L' := [(2, (g : Int)), (0, (h : Int)), (0, (k : Int))]) (S' := [(2, (g : Int))]) r_249_39 rfl rfl rfl ?_
      refine gx_gf (x := (g : Int) + 3) 2 r_249_40 (rfl) (thunt_0 hgt) ⟨by omega, rfl, by decide, by decide⟩ rfl (fun _ => by omega) (hg.2.2.1) ?_
      refine gx_st (L' := [(2, (g : Int)), (0, (h : Int)), (0, (k : Int))]) (S' := [(0, (k : Int)), (2, (g : Int) + 3)]) r_249_43 rfl rfl rfl ?_
      refine gx_st (L' := [(2, (g : Int)), (0, (h : Int)), (0, (k : Int))]) (S' := [(0, (k : Int)), (0, (k : Int)), (2, (g : Int) + 3)]) r_249_44 rfl rfl rfl ?_
      refine gx_st (L' := [(2, (g : Int)), (0, (h : Int)), (0, (k : Int))]) (S' := [(0, (h : Int)), (0, (k : Int)), (0, (k : Int)), (2, (g : Int) + 3)]) r_249_45 rfl rfl rfl ?_
      refine gx_ic (P := (h : Int) < (k : Int)) r_249_46 (rfl) (fun h46 => ?_) (fun h46 => ?_)
      · refine gx_st (L' := [(2, (g : Int)), (0, (h : Int)), (0, (k : Int))]) (S' := [(0, 0), (0, (k : Int)), (2, (g : Int) + 3)]) r_249_60 rfl rfl rfl ?_
        refine gx_cv (nx := 64) (S2 := []) (c_238 (r := g + 3) (n := 12) (thunt_3 hgt) (by omega) (by decide) (k := k) (by omega) 0) r_249_61 rfl rfl rfl rfl rfl rfl rfl (by decide) rfl (fun n61 q61 => ?_)
        have e_n61 : n61 = nu_up p (g + 3) k 0 := q61
        show GX T 1 249 64 [(2, (g : Int)), (0, (h : Int)), (0, (k : Int))] [] n61 (RV (fun m1 => (∀ i : Nat, k ≤ i → i < 12 → m1 (g + 3) i = if i ≤ h then p (g + 2) i else 0) ∧ (∀ i : Nat, i < k → m1 (g + 3) i = p (g + 3) i) ∧ m1 g 5 = w32 (p g 5 + 1) ∧ ∀ q i : Nat, ¬ (q = g ∧ i = 5) → ¬ q = g + 3 → m1 q i = p q i))
        refine gx_li (z := (k : Int) + 1) (L' := [(2, (g : Int)), (0, (h : Int)), (0, (k : Int) + 1)]) r_249_64 rfl (w32_eq (by omega) (by omega) (by omega)) rfl ?_
        refine gx_st (L' := [(2, (g : Int)), (0, (h : Int)), (0, (k : Int) + 1)]) (S' := []) r_249_67 rfl rfl rfl ?_
        rw [show (k : Int) + 1 = ((k + 1 : Nat) : Int) from rfl]
        refine gx_imp (ih (k + 1) n61 (by omega) (by omega) (huntr_eq hg (fun q i z => by rw [e_n61]; exact nu_no (by rcases z with z | z | z <;> omega)))) (fun v m1 ⟨y, a1, a2, a3, a4⟩ => ⟨y, fun i i1 i2 => ?_, fun i i1 => ?_, ?_, fun q i z1 z2 => ?_⟩)
        · by_cases c : i = k
          · rw [c, a2 k (by omega), e_n61, nu_at]
            first
              | rw [if_pos (by omega)]
              | rw [if_neg (by omega)]
          · rw [a1 i (by omega) i2, e_n61, nu_no (by omega)]
        · rw [a2 i (by omega), e_n61, nu_ne (by omega)]
        · rw [a3, e_n61, nu_no (by omega)]
        · rw [a4 q i z1 z2, e_n61, nu_no z2]
      · refine gx_st (L' := [(2, (g : Int)), (0, (h : Int)), (0, (k : Int))]) (S' := [(2, (g : Int)), (0, (k : Int)), (2, (g : Int) + 3)]) r_249_49 rfl rfl rfl ?_
        refine gx_gf (x := (g : Int) + 2) 2 r_249_50 (rfl) (thunt_0 hgt) ⟨by omega, rfl, by decide, by decide⟩ rfl (fun _ => by omega) (hg.2.1) ?_
        refine gx_st (L' := [(2, (g : Int)), (0, (h : Int)), (0, (k : Int))]) (S' := [(0, (k : Int)), (2, (g : Int) + 2), (0, (k : Int)), (2, (g : Int) + 3)]) r_249_53 rfl rfl rfl ?_
        refine gx_ci (nx := 57) (S2 := [(0, (k : Int)), (2, (g : Int) + 3)]) (c_237 (r := g + 2) (n := 12) (thunt_2 hgt) (by omega) (by decide) (k := k) (by omega)) r_249_54 rfl rfl rfl rfl rfl rfl rfl (by decide) rfl (fun x54 n54 q54 => ?_)
        obtain ⟨e_x54, z_x54⟩ := q54
        obtain rfl := z_x54.symm
        obtain rfl := e_x54
        show GX T 1 249 57 [(2, (g : Int)), (0, (h : Int)), (0, (k : Int))] [(0, (p (g + 2) k)), (0, (k : Int)), (2, (g : Int) + 3)] p (RV (fun m1 => (∀ i : Nat, k ≤ i → i < 12 → m1 (g + 3) i = if i ≤ h then p (g + 2) i else 0) ∧ (∀ i : Nat, i < k → m1 (g + 3) i = p (g + 3) i) ∧ m1 g 5 = w32 (p g 5 + 1) ∧ ∀ q i : Nat, ¬ (q = g ∧ i = 5) → ¬ q = g + 3 → m1 q i = p q i))
        refine gx_st (L' := [(2, (g : Int)), (0, (h : Int)), (0, (k : Int))]) (S' := [(0, (p (g + 2) k)), (0, (k : Int)), (2, (g : Int) + 3)]) r_249_57 rfl rfl rfl ?_
        refine gx_cv (nx := 64) (S2 := []) (c_238 (r := g + 3) (n := 12) (thunt_3 hgt) (by omega) (by decide) (k := k) (by omega) ((p (g + 2) k))) r_249_61 rfl rfl rfl rfl rfl rfl rfl (by decide) rfl (fun n61 q61 => ?_)
        have e_n61 : n61 = nu_up p (g + 3) k ((p (g + 2) k)) := q61
        show GX T 1 249 64 [(2, (g : Int)), (0, (h : Int)), (0, (k : Int))] [] n61 (RV (fun m1 => (∀ i : Nat, k ≤ i → i < 12 → m1 (g + 3) i = if i ≤ h then p (g + 2) i else 0) ∧ (∀ i : Nat, i < k → m1 (g + 3) i = p (g + 3) i) ∧ m1 g 5 = w32 (p g 5 + 1) ∧ ∀ q i : Nat, ¬ (q = g ∧ i = 5) → ¬ q = g + 3 → m1 q i = p q i))
        refine gx_li (z := (k : Int) + 1) (L' := [(2, (g : Int)), (0, (h : Int)), (0, (k : Int) + 1)]) r_249_64 rfl (w32_eq (by omega) (by omega) (by omega)) rfl ?_
        refine gx_st (L' := [(2, (g : Int)), (0, (h : Int)), (0, (k : Int) + 1)]) (S' := []) r_249_67 rfl rfl rfl ?_
        rw [show (k : Int) + 1 = ((k + 1 : Nat) : Int) from rfl]
        refine gx_imp (ih (k + 1) n61 (by omega) (by omega) (huntr_eq hg (fun q i z => by rw [e_n61]; exact nu_no (by rcases z with z | z | z <;> omega)))) (fun v m1 ⟨y, a1, a2, a3, a4⟩ => ⟨y, fun i i1 i2 => ?_, fun i i1 => ?_, ?_, fun q i z1 z2 => ?_⟩)
        · by_cases c : i = k
          · rw [c, a2 k (by omega), e_n61, nu_at]
            first
              | rw [if_pos (by omega)]
              | rw [if_neg (by omega)]
          · rw [a1 i (by omega) i2, e_n61, nu_no (by omega)]
        · rw [a2 i (by omega), e_n61, nu_ne (by omega)]
        · rw [a3, e_n61, nu_no (by omega)]
        · rw [a4 q i z1 z2, e_n61, nu_no z2]
theorem z_249 (hT : TT T) {g : Nat} (hgt : HuntT T g) (hg : HuntR m g) (h : Nat) : GX T 2 249 0 [(2, (g : Int)), (0, (h : Int)), (9, 0)] [] m (RV (fun m1 => ((m g 4 = -1 ∨ (h : Int) < m g 4) → m1 g 4 = (h : Int) ∧ m1 g 6 = (h : Int) ∧ m1 g 5 = 1 ∧ ∀ i : Nat, i < 12 → m1 (g + 3) i = if i ≤ h then m (g + 2) i else 0) ∧ (¬ (m g 4 = -1 ∨ (h : Int) < m g 4) → m1 g 4 = m g 4 ∧ m1 g 6 = m g 6 ∧ m1 g 5 = w32 (m g 5 + 1) ∧ ∀ i : Nat, i < 12 → m1 (g + 3) i = m (g + 3) i) ∧ ∀ q i : Nat, ¬ (q = g ∧ 4 ≤ i ∧ i ≤ 6) → ¬ q = g + 3 → m1 q i = m q i)) := by
  have hg0 := hgt.1
  refine gx_st (L' := [(2, (g : Int)), (0, (h : Int)), (9, 0)]) (S' := [(2, (g : Int))]) r_249_0 rfl rfl rfl ?_
  refine gx_gf (x := (m g 4)) 0 r_249_1 (rfl) (thunt_0 hgt) ⟨by omega, rfl, by decide, by decide⟩ rfl (fun z => absurd z (by decide)) (rfl) ?_
  refine gx_st (L' := [(2, (g : Int)), (0, (h : Int)), (9, 0)]) (S' := [(0, (-1)), (0, (m g 4))]) r_249_4 rfl rfl rfl ?_
  refine gx_ic (P := (m g 4) = (-1)) r_249_5 (rfl) (fun h5 => ?_) (fun h5 => ?_)
  · refine gx_st (L' := [(2, (g : Int)), (0, (h : Int)), (9, 0)]) (S' := [(2, (g : Int))]) r_249_16 rfl rfl rfl ?_
    refine gx_st (L' := [(2, (g : Int)), (0, (h : Int)), (9, 0)]) (S' := [(0, (h : Int)), (2, (g : Int))]) r_249_17 rfl rfl rfl ?_
    obtain ⟨m1, e_m1⟩ : ∃ z, z = nu_up m g 4 (h : Int) := ⟨_, rfl⟩
    refine gx_pf (x := (h : Int)) 0 r_249_18 (rfl) (thunt_0 hgt) ⟨by omega, rfl, by decide, by decide⟩ rfl (fun z => absurd z (by decide)) (fun z => absurd z (by decide)) e_m1.symm ?_
    refine gx_st (L' := [(2, (g : Int)), (0, (h : Int)), (9, 0)]) (S' := [(2, (g : Int))]) r_249_21 rfl rfl rfl ?_
    refine gx_st (L' := [(2, (g : Int)), (0, (h : Int)), (9, 0)]) (S' := [(0, (h : Int)), (2, (g : Int))]) r_249_22 rfl rfl rfl ?_
    obtain ⟨m2, e_m2⟩ : ∃ z, z = nu_up m1 g 6 (h : Int) := ⟨_, rfl⟩
    refine gx_pf (x := (h : Int)) 0 r_249_23 (rfl) (thunt_0 hgt) ⟨by omega, rfl, by decide, by decide⟩ rfl (fun z => absurd z (by decide)) (fun z => absurd z (by decide)) e_m2.symm ?_
    refine gx_st (L' := [(2, (g : Int)), (0, (h : Int)), (9, 0)]) (S' := [(2, (g : Int))]) r_249_26 rfl rfl rfl ?_
    refine gx_st (L' := [(2, (g : Int)), (0, (h : Int)), (9, 0)]) (S' := [(0, 0), (2, (g : Int))]) r_249_27 rfl rfl rfl ?_
    obtain ⟨m3, e_m3⟩ : ∃ z, z = nu_up m2 g 5 0 := ⟨_, rfl⟩
    refine gx_pf (x := 0) 0 r_249_28 (rfl) (thunt_0 hgt) ⟨by omega, rfl, by decide, by decide⟩ rfl (fun z => absurd z (by decide)) (fun z => absurd z (by decide)) e_m3.symm ?_
    refine gx_st (L' := [(2, (g : Int)), (0, (h : Int)), (9, 0)]) (S' := [(0, 0)]) r_249_31 rfl rfl rfl ?_
    refine gx_st (L' := [(2, (g : Int)), (0, (h : Int)), (0, 0)]) (S' := []) r_249_32 rfl rfl rfl ?_
    have u4 : m3 g 4 = (h : Int) := by rw [e_m3, nu_ne (by decide), e_m2, nu_ne (by decide), e_m1, nu_at]
    have u5 : m3 g 5 = 0 := by rw [e_m3, nu_at]
    have u6 : m3 g 6 = (h : Int) := by rw [e_m3, nu_ne (by decide), e_m2, nu_at]
    have uf : ∀ q i : Nat, ¬ (q = g ∧ 4 ≤ i ∧ i ≤ 6) → m3 q i = m q i := fun q i z => by
      rw [e_m3, nu_fz (fun y => z ⟨y.1, by omega, by omega⟩), e_m2, nu_fz (fun y => z ⟨y.1, by omega, by omega⟩), e_m1, nu_fz (fun y => z ⟨y.1, by omega, by omega⟩)]
    refine gx_imp (gx_d (fo_l hT hgt (h := h) 13 0 m3 (by omega) (by omega) (huntr_eq hg (fun q i z => uf q i (by rcases z with z | z | z <;> omega)))) (by decide)) (fun v m1 ⟨y, a1, a2, a3, a4⟩ => ⟨y, fun _ => ⟨(a4 g 4 (by omega) (by omega)).trans u4, (a4 g 6 (by omega) (by omega)).trans u6, by rw [a3, u5]; decide, fun i i1 => by rw [a1 i (by omega) i1, uf (g + 2) i (by omega)]⟩, fun z => absurd (by first | exact Or.inl h5 | exact Or.inr (by omega)) z, fun q i z1 z2 => (a4 q i (fun z => z1 (by omega)) z2).trans (uf q i z1)⟩)
  · refine gx_st (L' := [(2, (g : Int)), (0, (h : Int)), (9, 0)]) (S' := [(0, (h : Int))]) r_249_8 rfl rfl rfl ?_
    refine gx_st (L' := [(2, (g : Int)), (0, (h : Int)), (9, 0)]) (S' := [(2, (g : Int)), (0, (h : Int))]) r_249_9 rfl rfl rfl ?_
    refine gx_gf (x := (m g 4)) 0 r_249_10 (rfl) (thunt_0 hgt) ⟨by omega, rfl, by decide, by decide⟩ rfl (fun z => absurd z (by decide)) (rfl) ?_
    refine gx_ic (P := (m g 4) ≤ (h : Int)) r_249_13 (rfl) (fun h13 => ?_) (fun h13 => ?_)
    · refine gx_st (L' := [(2, (g : Int)), (0, (h : Int)), (9, 0)]) (S' := [(2, (g : Int))]) r_249_70 rfl rfl rfl ?_
      refine gx_st (L' := [(2, (g : Int)), (0, (h : Int)), (9, 0)]) (S' := [(2, (g : Int)), (2, (g : Int))]) r_249_71 rfl rfl rfl ?_
      refine gx_gf (x := (m g 5)) 0 r_249_72 (rfl) (thunt_0 hgt) ⟨by omega, rfl, by decide, by decide⟩ rfl (fun z => absurd z (by decide)) (rfl) ?_
      refine gx_st (L' := [(2, (g : Int)), (0, (h : Int)), (9, 0)]) (S' := [(0, 1), (0, (m g 5)), (2, (g : Int))]) r_249_75 rfl rfl rfl ?_
      refine gx_st (L' := [(2, (g : Int)), (0, (h : Int)), (9, 0)]) (S' := [(0, (w32 ((m g 5) + 1))), (2, (g : Int))]) r_249_76 rfl rfl rfl ?_
      have k76 := w32_in ((m g 5) + 1)
      unfold in32 at k76
      obtain ⟨m4, e_m4⟩ : ∃ z, z = nu_up m g 5 ((w32 ((m g 5) + 1))) := ⟨_, rfl⟩
      refine gx_pf (x := (w32 ((m g 5) + 1))) 0 r_249_77 (rfl) (thunt_0 hgt) ⟨by omega, rfl, by decide, by decide⟩ rfl (fun z => absurd z (by decide)) (fun z => absurd z (by decide)) e_m4.symm ?_
      have nz : ¬ (m g 4 = -1 ∨ (h : Int) < m g 4) := fun z => by rcases z with z | z <;> omega
      exact gx_rt r_249_80 rfl rfl ⟨rfl, fun z => absurd z nz, fun _ => ⟨by rw [e_m4, nu_ne (by decide)], by rw [e_m4, nu_ne (by decide)], by rw [e_m4, nu_at], fun i i1 => by rw [e_m4, nu_no (by omega)]⟩, fun q i z1 z2 => by rw [e_m4, nu_fz (fun y => z1 ⟨y.1, by omega, by omega⟩)]⟩
    · refine gx_st (L' := [(2, (g : Int)), (0, (h : Int)), (9, 0)]) (S' := [(2, (g : Int))]) r_249_16 rfl rfl rfl ?_
      refine gx_st (L' := [(2, (g : Int)), (0, (h : Int)), (9, 0)]) (S' := [(0, (h : Int)), (2, (g : Int))]) r_249_17 rfl rfl rfl ?_
      obtain ⟨m5, e_m5⟩ : ∃ z, z = nu_up m g 4 (h : Int) := ⟨_, rfl⟩
      refine gx_pf (x := (h : Int)) 0 r_249_18 (rfl) (thunt_0 hgt) ⟨by omega, rfl, by decide, by decide⟩ rfl (fun z => absurd z (by decide)) (fun z => absurd z (by decide)) e_m5.symm ?_
      refine gx_st (L' := [(2, (g : Int)), (0, (h : Int)), (9, 0)]) (S' := [(2, (g : Int))]) r_249_21 rfl rfl rfl ?_
      refine gx_st (L' := [(2, (g : Int)), (0, (h : Int)), (9, 0)]) (S' := [(0, (h : Int)), (2, (g : Int))]) r_249_22 rfl rfl rfl ?_
      obtain ⟨m6, e_m6⟩ : ∃ z, z = nu_up m5 g 6 (h : Int) := ⟨_, rfl⟩
      refine gx_pf (x := (h : Int)) 0 r_249_23 (rfl) (thunt_0 hgt) ⟨by omega, rfl, by decide, by decide⟩ rfl (fun z => absurd z (by decide)) (fun z => absurd z (by decide)) e_m6.symm ?_
      refine gx_st (L' := [(2, (g : Int)), (0, (h : Int)), (9, 0)]) (S' := [(2, (g : Int))]) r_249_26 rfl rfl rfl ?_
      refine gx_st (L' := [(2, (g : Int)), (0, (h : Int)), (9, 0)]) (S' := [(0, 0), (2, (g : Int))]) r_249_27 rfl rfl rfl ?_
      obtain ⟨m7, e_m7⟩ : ∃ z, z = nu_up m6 g 5 0 := ⟨_, rfl⟩
      refine gx_pf (x := 0) 0 r_249_28 (rfl) (thunt_0 hgt) ⟨by omega, rfl, by decide, by decide⟩ rfl (fun z => absurd z (by decide)) (fun z => absurd z (by decide)) e_m7.symm ?_
      refine gx_st (L' := [(2, (g : Int)), (0, (h : Int)), (9, 0)]) (S' := [(0, 0)]) r_249_31 rfl rfl rfl ?_
      refine gx_st (L' := [(2, (g : Int)), (0, (h : Int)), (0, 0)]) (S' := []) r_249_32 rfl rfl rfl ?_
      have u4 : m7 g 4 = (h : Int) := by rw [e_m7, nu_ne (by decide), e_m6, nu_ne (by decide), e_m5, nu_at]
      have u5 : m7 g 5 = 0 := by rw [e_m7, nu_at]
      have u6 : m7 g 6 = (h : Int) := by rw [e_m7, nu_ne (by decide), e_m6, nu_at]
      have uf : ∀ q i : Nat, ¬ (q = g ∧ 4 ≤ i ∧ i ≤ 6) → m7 q i = m q i := fun q i z => by
        rw [e_m7, nu_fz (fun y => z ⟨y.1, by omega, by omega⟩), e_m6, nu_fz (fun y => z ⟨y.1, by omega, by omega⟩), e_m5, nu_fz (fun y => z ⟨y.1, by omega, by omega⟩)]
      refine gx_imp (gx_d (fo_l hT hgt (h := h) 13 0 m7 (by omega) (by omega) (huntr_eq hg (fun q i z => uf q i (by rcases z with z | z | z <;> omega)))) (by decide)) (fun v m1 ⟨y, a1, a2, a3, a4⟩ => ⟨y, fun _ => ⟨(a4 g 4 (by omega) (by omega)).trans u4, (a4 g 6 (by omega) (by omega)).trans u6, by rw [a3, u5]; decide, fun i i1 => by rw [a1 i (by omega) i1, uf (g + 2) i (by omega)]⟩, fun z => absurd (by first | exact Or.inl h5 | exact Or.inr (by omega)) z, fun q i z1 z2 => (a4 q i (fun z => z1 (by omega)) z2).trans (uf q i z1)⟩)
theorem h_266 (hT : TT T) {o : Nat} (ho : IsleT T o) (hor : IsleR m o) {w : Wd} (hw : WD m o w) {r : Nat} (hr : RideT T r) (hrr : RideR m r) (hd : r + 3 ≤ o ∨ o + 9 ≤ r) (b : Nat) (p : Int) : GX T 1 266 0 [(2, (r : Int)), (2, (o : Int)), (0, (b : Int)), (0, p), (9, 0)] [] m (RV (fun m1 => RdS w m1 r (beginF w (b : Int) p) ∧ FrO 8 r m m1 ∧ m1 r 7 = 0)) := by
  have ho0 := ho.1
  have hr0 := hr.1
  obtain ⟨s, hs_m⟩ := rds_ex w m r
  have fo_m : FrO 8 r m m := fro_rf
  refine gx_st (L' := [(2, (r : Int)), (2, (o : Int)), (0, (b : Int)), (0, p), (9, 0)]) (S' := [(0, (b : Int))]) r_266_0 rfl rfl rfl ?_
  refine gx_st (L' := [(2, (r : Int)), (2, (o : Int)), (0, (b : Int)), (0, p), (9, 0)]) (S' := [(2, (o : Int)), (0, (b : Int))]) r_266_1 rfl rfl rfl ?_
  refine gx_gf (x := (w 7)) 0 r_266_2 (rfl) (tisle_0 ho) ⟨by omega, rfl, by decide, by decide⟩ rfl (fun z => absurd z (by decide)) (hw.1.2.2.2.2.2.2.2.2.1) ?_
  refine gx_ic (P := (w 7) ≤ (b : Int)) r_266_5 (rfl) (fun h5 => ?_) (fun h5 => ?_)
  · refine gx_st (L' := [(2, (r : Int)), (2, (o : Int)), (0, (b : Int)), (0, p), (9, 0)]) (S' := [(0, 0)]) r_266_12 rfl rfl rfl ?_
    refine gx_st (L' := [(2, (r : Int)), (2, (o : Int)), (0, (b : Int)), (0, p), (0, 0)]) (S' := []) r_266_13 rfl rfl rfl ?_
    refine gx_st (L' := [(2, (r : Int)), (2, (o : Int)), (0, (b : Int)), (0, p), (0, 0)]) (S' := [(2, (r : Int))]) r_266_15 rfl rfl rfl ?_
    refine gx_st (L' := [(2, (r : Int)), (2, (o : Int)), (0, (b : Int)), (0, p), (0, 0)]) (S' := [(0, 0), (2, (r : Int))]) r_266_16 rfl rfl rfl ?_
    refine gx_i0 (P := 0 = 0) r_266_18 (rfl) (fun h18 => ?_) (fun h18 => ?_)
    · refine gx_st (L' := [(2, (r : Int)), (2, (o : Int)), (0, (b : Int)), (0, p), (0, 0)]) (S' := [(0, (-1)), (2, (r : Int))]) r_266_25 rfl rfl rfl ?_
      obtain ⟨m1, e_m1⟩ : ∃ z, z = nu_up m r 0 (-1) := ⟨_, rfl⟩
      have hs_m1 : RdS w m1 r (upw s 0 (-1)) := by rw [e_m1]; exact rds_f hs_m (i := 0) (by decide) _
      have fo_m1 : FrO 8 r m m1 := by rw [e_m1]; exact fro_f fo_m (by decide)
      refine gx_pf (x := (-1)) 0 r_266_26 (rfl) (tride_0 hr) ⟨by omega, rfl, by decide, by decide⟩ rfl (fun z => absurd z (by decide)) (fun z => absurd z (by decide)) e_m1.symm ?_
      refine gx_st (L' := [(2, (r : Int)), (2, (o : Int)), (0, (b : Int)), (0, p), (0, 0)]) (S' := [(2, (r : Int))]) r_266_29 rfl rfl rfl ?_
      refine gx_st (L' := [(2, (r : Int)), (2, (o : Int)), (0, (b : Int)), (0, p), (0, 0)]) (S' := [(0, 0), (2, (r : Int))]) r_266_30 rfl rfl rfl ?_
      refine gx_i0 (P := 0 = 0) r_266_32 (rfl) (fun h32 => ?_) (fun h32 => ?_)
      · refine gx_st (L' := [(2, (r : Int)), (2, (o : Int)), (0, (b : Int)), (0, p), (0, 0)]) (S' := [(0, (-1)), (2, (r : Int))]) r_266_39 rfl rfl rfl ?_
        obtain ⟨m2, e_m2⟩ : ∃ z, z = nu_up m1 r 1 (-1) := ⟨_, rfl⟩
        have hs_m2 : RdS w m2 r (upw (upw s 0 (-1)) 1 (-1)) := by rw [e_m2]; exact rds_f hs_m1 (i := 1) (by decide) _
        have fo_m2 : FrO 8 r m m2 := by rw [e_m2]; exact fro_f fo_m1 (by decide)
        refine gx_pf (x := (-1)) 0 r_266_40 (rfl) (tride_0 hr) ⟨by omega, rfl, by decide, by decide⟩ rfl (fun z => absurd z (by decide)) (fun z => absurd z (by decide)) e_m2.symm ?_
        refine gx_st (L' := [(2, (r : Int)), (2, (o : Int)), (0, (b : Int)), (0, p), (0, 0)]) (S' := [(2, (r : Int))]) r_266_43 rfl rfl rfl ?_
        refine gx_st (L' := [(2, (r : Int)), (2, (o : Int)), (0, (b : Int)), (0, p), (0, 0)]) (S' := [(2, (o : Int)), (2, (r : Int))]) r_266_44 rfl rfl rfl ?_
        refine gx_gf (x := (w 2)) 0 r_266_45 (rfl) (tisle_0 ho) ⟨by omega, rfl, by decide, by decide⟩ rfl (fun z => absurd z (by decide)) (by show m2 o 3 = _; rw [e_m2, nu_no (by omega), e_m1, nu_no (by omega)]; exact hw.1.2.2.2.1) ?_
        obtain ⟨m3, e_m3⟩ : ∃ z, z = nu_up m2 r 2 (w 2) := ⟨_, rfl⟩
        have hs_m3 : RdS w m3 r (upw (upw (upw s 0 (-1)) 1 (-1)) 2 (w 2)) := by rw [e_m3]; exact rds_f hs_m2 (i := 2) (by decide) _
        have fo_m3 : FrO 8 r m m3 := by rw [e_m3]; exact fro_f fo_m2 (by decide)
        refine gx_pf (x := (w 2)) 0 r_266_48 (rfl) (tride_0 hr) ⟨by omega, rfl, by decide, by decide⟩ rfl (fun z => absurd z (by decide)) (fun z => absurd z (by decide)) e_m3.symm ?_
        refine gx_st (L' := [(2, (r : Int)), (2, (o : Int)), (0, (b : Int)), (0, p), (0, 0)]) (S' := [(2, (r : Int))]) r_266_51 rfl rfl rfl ?_
        refine gx_st (L' := [(2, (r : Int)), (2, (o : Int)), (0, (b : Int)), (0, p), (0, 0)]) (S' := [(0, 0), (2, (r : Int))]) r_266_52 rfl rfl rfl ?_
        obtain ⟨m4, e_m4⟩ : ∃ z, z = nu_up m3 r 3 0 := ⟨_, rfl⟩
        have hs_m4 : RdS w m4 r (upw (upw (upw (upw s 0 (-1)) 1 (-1)) 2 (w 2)) 3 0) := by rw [e_m4]; exact rds_f hs_m3 (i := 3) (by decide) _
        have fo_m4 : FrO 8 r m m4 := by rw [e_m4]; exact fro_f fo_m3 (by decide)
        refine gx_pf (x := 0) 0 r_266_53 (rfl) (tride_0 hr) ⟨by omega, rfl, by decide, by decide⟩ rfl (fun z => absurd z (by decide)) (fun z => absurd z (by decide)) e_m4.symm ?_
        refine gx_st (L' := [(2, (r : Int)), (2, (o : Int)), (0, (b : Int)), (0, p), (0, 0)]) (S' := [(2, (r : Int))]) r_266_56 rfl rfl rfl ?_
        refine gx_st (L' := [(2, (r : Int)), (2, (o : Int)), (0, (b : Int)), (0, p), (0, 0)]) (S' := [(0, 0), (2, (r : Int))]) r_266_57 rfl rfl rfl ?_
        obtain ⟨m5, e_m5⟩ : ∃ z, z = nu_up m4 r 4 0 := ⟨_, rfl⟩
        have hs_m5 : RdS w m5 r (upw (upw (upw (upw (upw s 0 (-1)) 1 (-1)) 2 (w 2)) 3 0) 4 0) := by rw [e_m5]; exact rds_f hs_m4 (i := 4) (by decide) _
        have fo_m5 : FrO 8 r m m5 := by rw [e_m5]; exact fro_f fo_m4 (by decide)
        refine gx_pf (x := 0) 0 r_266_58 (rfl) (tride_0 hr) ⟨by omega, rfl, by decide, by decide⟩ rfl (fun z => absurd z (by decide)) (fun z => absurd z (by decide)) e_m5.symm ?_
        refine gx_st (L' := [(2, (r : Int)), (2, (o : Int)), (0, (b : Int)), (0, p), (0, 0)]) (S' := [(2, (r : Int))]) r_266_61 rfl rfl rfl ?_
        refine gx_st (L' := [(2, (r : Int)), (2, (o : Int)), (0, (b : Int)), (0, p), (0, 0)]) (S' := [(0, 0), (2, (r : Int))]) r_266_62 rfl rfl rfl ?_
        obtain ⟨m6, e_m6⟩ : ∃ z, z = nu_up m5 r 5 0 := ⟨_, rfl⟩
        have hs_m6 : RdS w m6 r (upw (upw (upw (upw (upw (upw s 0 (-1)) 1 (-1)) 2 (w 2)) 3 0) 4 0) 5 0) := by rw [e_m6]; exact rds_f hs_m5 (i := 5) (by decide) _
        have fo_m6 : FrO 8 r m m6 := by rw [e_m6]; exact fro_f fo_m5 (by decide)
        refine gx_pf (x := 0) 0 r_266_63 (rfl) (tride_0 hr) ⟨by omega, rfl, by decide, by decide⟩ rfl (fun z => absurd z (by decide)) (fun z => absurd z (by decide)) e_m6.symm ?_
        refine gx_st (L' := [(2, (r : Int)), (2, (o : Int)), (0, (b : Int)), (0, p), (0, 0)]) (S' := [(2, (r : Int))]) r_266_66 rfl rfl rfl ?_
        refine gx_st (L' := [(2, (r : Int)), (2, (o : Int)), (0, (b : Int)), (0, p), (0, 0)]) (S' := [(0, (-1)), (2, (r : Int))]) r_266_67 rfl rfl rfl ?_
        obtain ⟨m7, e_m7⟩ : ∃ z, z = nu_up m6 r 6 (-1) := ⟨_, rfl⟩
        have hs_m7 : RdS w m7 r (upw (upw (upw (upw (upw (upw (upw s 0 (-1)) 1 (-1)) 2 (w 2)) 3 0) 4 0) 5 0) 16 (-1)) := by rw [e_m7]; exact rds_k hs_m6 _
        have fo_m7 : FrO 8 r m m7 := by rw [e_m7]; exact fro_f fo_m6 (by decide)
        refine gx_pf (x := (-1)) 0 r_266_68 (rfl) (tride_0 hr) ⟨by omega, rfl, by decide, by decide⟩ rfl (fun z => absurd z (by decide)) (fun z => absurd z (by decide)) e_m7.symm ?_
        refine gx_st (L' := [(2, (r : Int)), (2, (o : Int)), (0, (b : Int)), (0, p), (0, 0)]) (S' := [(2, (r : Int))]) r_266_71 rfl rfl rfl ?_
        refine gx_st (L' := [(2, (r : Int)), (2, (o : Int)), (0, (b : Int)), (0, p), (0, 0)]) (S' := [(0, 0), (2, (r : Int))]) r_266_72 rfl rfl rfl ?_
        obtain ⟨m8, e_m8⟩ : ∃ z, z = nu_up m7 r 7 0 := ⟨_, rfl⟩
        have hs_m8 : RdS w m8 r (upw (upw (upw (upw (upw (upw (upw s 0 (-1)) 1 (-1)) 2 (w 2)) 3 0) 4 0) 5 0) 16 (-1)) := by rw [e_m8]; exact rds_7 hs_m7 (i := 7) (by decide) _
        have fo_m8 : FrO 8 r m m8 := by rw [e_m8]; exact fro_f fo_m7 (by decide)
        refine gx_pf (x := 0) 0 r_266_73 (rfl) (tride_0 hr) ⟨by omega, rfl, by decide, by decide⟩ rfl (fun _ => by omega) (fun z => absurd z (by decide)) e_m8.symm ?_
        refine gx_st (L' := [(2, (r : Int)), (2, (o : Int)), (0, (b : Int)), (0, p), (0, 0)]) (S' := [(2, (r : Int))]) r_266_76 rfl rfl rfl ?_
        refine gx_gf (x := (r : Int) + 1) 2 r_266_77 (rfl) (tride_0 hr) ⟨by omega, rfl, by decide, by decide⟩ rfl (fun _ => by omega) (by show m8 r 8 = _; rw [e_m8, nu_ne (by decide), e_m7, nu_ne (by decide), e_m6, nu_ne (by decide), e_m5, nu_ne (by decide), e_m4, nu_ne (by decide), e_m3, nu_ne (by decide), e_m2, nu_ne (by decide), e_m1, nu_ne (by decide)]; exact hrr.1) ?_
        refine gx_st (L' := [(2, (r : Int)), (2, (o : Int)), (0, (b : Int)), (0, p), (0, 0)]) (S' := [(0, 0), (2, (r : Int) + 1)]) r_266_80 rfl rfl rfl ?_
        have c7 : m8 r 7 = 0 := by rw [e_m8, nu_at]
        have c0 : m8 r 0 = (-1) := by rw [e_m8, nu_ne (by decide), e_m7, nu_ne (by decide), e_m6, nu_ne (by decide), e_m5, nu_ne (by decide), e_m4, nu_ne (by decide), e_m3, nu_ne (by decide), e_m2, nu_ne (by decide), e_m1, nu_at]
        have c1 : m8 r 1 = (-1) := by rw [e_m8, nu_ne (by decide), e_m7, nu_ne (by decide), e_m6, nu_ne (by decide), e_m5, nu_ne (by decide), e_m4, nu_ne (by decide), e_m3, nu_ne (by decide), e_m2, nu_at]
        have c2 : m8 r 2 = (w 2) := by rw [e_m8, nu_ne (by decide), e_m7, nu_ne (by decide), e_m6, nu_ne (by decide), e_m5, nu_ne (by decide), e_m4, nu_ne (by decide), e_m3, nu_at]
        have c3 : m8 r 3 = 0 := by rw [e_m8, nu_ne (by decide), e_m7, nu_ne (by decide), e_m6, nu_ne (by decide), e_m5, nu_ne (by decide), e_m4, nu_at]
        have c4 : m8 r 4 = 0 := by rw [e_m8, nu_ne (by decide), e_m7, nu_ne (by decide), e_m6, nu_ne (by decide), e_m5, nu_at]
        have c5 : m8 r 5 = 0 := by rw [e_m8, nu_ne (by decide), e_m7, nu_ne (by decide), e_m6, nu_at]
        have c6 : m8 r 6 = (-1) := by rw [e_m8, nu_ne (by decide), e_m7, nu_at]
        have rr_m8 : RideR m8 r := rr_fro hrr fo_m8 (by decide)
        have ir_m8 : IsleR m8 o := ir_fro hor fo_m8 hd
        have hw_m8 : WD m8 o w := wd_fro hw fo_m8 hd
        refine gx_cv (nx := 84) (S2 := []) (c_240 (r := r + 1) (n := 5) (tride_1 hr) (by omega) (by decide) 0) r_266_81 rfl rfl rfl rfl rfl rfl rfl (by decide) rfl (fun n81 q81 => ?_)
        obtain ⟨g1, g2⟩ := q81
        have r8 : n81 r 9 = (r : Int) + 2 := (g2 r 9 (by omega)).trans rr_m8.2
        have i11 : n81 o 11 = (o : Int) + 2 := (g2 o 11 (by omega)).trans ir_m8.2.1
        show GX T 1 266 84 [(2, (r : Int)), (2, (o : Int)), (0, (b : Int)), (0, p), (0, 0)] [] n81 (RV (fun m1 => RdS w m1 r (beginF w (b : Int) p) ∧ FrO 8 r m m1 ∧ m1 r 7 = 0))
        refine gx_st (L' := [(2, (r : Int)), (2, (o : Int)), (0, (b : Int)), (0, p), (0, 0)]) (S' := [(2, (o : Int))]) r_266_84 rfl rfl rfl ?_
        refine gx_gf (x := (o : Int) + 2) 2 r_266_85 (rfl) (tisle_0 ho) ⟨by omega, rfl, by decide, by decide⟩ rfl (fun _ => by omega) (i11) ?_
        refine gx_st (L' := [(2, (r : Int)), (2, (o : Int)), (0, (b : Int)), (0, p), (0, 0)]) (S' := [(2, (r : Int)), (2, (o : Int) + 2)]) r_266_88 rfl rfl rfl ?_
        refine gx_gf (x := (r : Int) + 2) 2 r_266_89 (rfl) (tride_0 hr) ⟨by omega, rfl, by decide, by decide⟩ rfl (fun _ => by omega) (r8) ?_
        refine gx_cv (nx := 95) (S2 := []) (c_241 (r := o + 2) (n := 5) (tisle_2 ho) (by omega) (by decide) (g := r + 2) (tride_2 hr) (by omega)) r_266_92 rfl rfl rfl rfl rfl rfl rfl (by decide) rfl (fun n92 q92 => ?_)
        obtain ⟨g3, g4⟩ := q92
        show GX T 1 266 95 [(2, (r : Int)), (2, (o : Int)), (0, (b : Int)), (0, p), (0, 0)] [] n92 (RV (fun m1 => RdS w m1 r (beginF w (b : Int) p) ∧ FrO 8 r m m1 ∧ m1 r 7 = 0))
        have hb7 : ¬ (b : Int) < w 7 := by omega
        exact gx_rt r_266_95 rfl rfl ⟨rfl, ⟨((g4 r 0 (by omega)).trans ((g2 r 0 (by omega)).trans c0)).trans (by show _ = (if (b : Int) < w 7 then p else -1); rw [if_neg hb7]), ((g4 r 1 (by omega)).trans ((g2 r 1 (by omega)).trans c1)).trans (by show _ = (if (b : Int) < w 7 then (b : Int) else -1); rw [if_neg hb7]), ((g4 r 2 (by omega)).trans ((g2 r 2 (by omega)).trans c2)).trans (rfl), ((g4 r 3 (by omega)).trans ((g2 r 3 (by omega)).trans c3)).trans (rfl), ((g4 r 4 (by omega)).trans ((g2 r 4 (by omega)).trans c4)).trans (rfl), ((g4 r 5 (by omega)).trans ((g2 r 5 (by omega)).trans c5)).trans (rfl), ((g4 r 6 (by omega)).trans ((g2 r 6 (by omega)).trans c6)).trans (rfl), fun c hc => ((g4 (r + 1) c (by omega)).trans (g1 c hc)).trans (begin_t hc).symm, fun t ht h5 => (g3 t ht).trans (((g2 (o + 2) t (by omega)).trans (wd_tree hw_m8 h5).2).trans (begin_u ht).symm)⟩, fun p i x y z => ((g4 p i (by omega)).trans (g2 p i (by omega))).trans (fo_m8 p i x y z), ((g4 r 7 (by omega)).trans (g2 r 7 (by omega))).trans c7⟩
      · omega
    · omega
  · refine gx_st (L' := [(2, (r : Int)), (2, (o : Int)), (0, (b : Int)), (0, p), (9, 0)]) (S' := [(0, 1)]) r_266_8 rfl rfl rfl ?_
    refine gx_st (L' := [(2, (r : Int)), (2, (o : Int)), (0, (b : Int)), (0, p), (9, 0)]) (S' := [(0, 1)]) r_266_9 rfl rfl rfl ?_
    refine gx_st (L' := [(2, (r : Int)), (2, (o : Int)), (0, (b : Int)), (0, p), (0, 1)]) (S' := []) r_266_13 rfl rfl rfl ?_
    refine gx_st (L' := [(2, (r : Int)), (2, (o : Int)), (0, (b : Int)), (0, p), (0, 1)]) (S' := [(2, (r : Int))]) r_266_15 rfl rfl rfl ?_
    refine gx_st (L' := [(2, (r : Int)), (2, (o : Int)), (0, (b : Int)), (0, p), (0, 1)]) (S' := [(0, 1), (2, (r : Int))]) r_266_16 rfl rfl rfl ?_
    refine gx_i0 (P := 1 = 0) r_266_18 (rfl) (fun h18 => ?_) (fun h18 => ?_)
    · omega
    · refine gx_st (L' := [(2, (r : Int)), (2, (o : Int)), (0, (b : Int)), (0, p), (0, 1)]) (S' := [(0, p), (2, (r : Int))]) r_266_21 rfl rfl rfl ?_
      refine gx_st (L' := [(2, (r : Int)), (2, (o : Int)), (0, (b : Int)), (0, p), (0, 1)]) (S' := [(0, p), (2, (r : Int))]) r_266_22 rfl rfl rfl ?_
      obtain ⟨m9, e_m9⟩ : ∃ z, z = nu_up m r 0 p := ⟨_, rfl⟩
      have hs_m9 : RdS w m9 r (upw s 0 p) := by rw [e_m9]; exact rds_f hs_m (i := 0) (by decide) _
      have fo_m9 : FrO 8 r m m9 := by rw [e_m9]; exact fro_f fo_m (by decide)
      refine gx_pf (x := p) 0 r_266_26 (rfl) (tride_0 hr) ⟨by omega, rfl, by decide, by decide⟩ rfl (fun z => absurd z (by decide)) (fun z => absurd z (by decide)) e_m9.symm ?_
      refine gx_st (L' := [(2, (r : Int)), (2, (o : Int)), (0, (b : Int)), (0, p), (0, 1)]) (S' := [(2, (r : Int))]) r_266_29 rfl rfl rfl ?_
      refine gx_st (L' := [(2, (r : Int)), (2, (o : Int)), (0, (b : Int)), (0, p), (0, 1)]) (S' := [(0, 1), (2, (r : Int))]) r_266_30 rfl rfl rfl ?_
      refine gx_i0 (P := 1 = 0) r_266_32 (rfl) (fun h32 => ?_) (fun h32 => ?_)
      · omega
      · refine gx_st (L' := [(2, (r : Int)), (2, (o : Int)), (0, (b : Int)), (0, p), (0, 1)]) (S' := [(0, (b : Int)), (2, (r : Int))]) r_266_35 rfl rfl rfl ?_
        refine gx_st (L' := [(2, (r : Int)), (2, (o : Int)), (0, (b : Int)), (0, p), (0, 1)]) (S' := [(0, (b : Int)), (2, (r : Int))]) r_266_36 rfl rfl rfl ?_
        obtain ⟨m10, e_m10⟩ : ∃ z, z = nu_up m9 r 1 (b : Int) := ⟨_, rfl⟩
        have hs_m10 : RdS w m10 r (upw (upw s 0 p) 1 (b : Int)) := by rw [e_m10]; exact rds_f hs_m9 (i := 1) (by decide) _
        have fo_m10 : FrO 8 r m m10 := by rw [e_m10]; exact fro_f fo_m9 (by decide)
        refine gx_pf (x := (b : Int)) 0 r_266_40 (rfl) (tride_0 hr) ⟨by omega, rfl, by decide, by decide⟩ rfl (fun z => absurd z (by decide)) (fun z => absurd z (by decide)) e_m10.symm ?_
        refine gx_st (L' := [(2, (r : Int)), (2, (o : Int)), (0, (b : Int)), (0, p), (0, 1)]) (S' := [(2, (r : Int))]) r_266_43 rfl rfl rfl ?_
        refine gx_st (L' := [(2, (r : Int)), (2, (o : Int)), (0, (b : Int)), (0, p), (0, 1)]) (S' := [(2, (o : Int)), (2, (r : Int))]) r_266_44 rfl rfl rfl ?_
        refine gx_gf (x := (w 2)) 0 r_266_45 (rfl) (tisle_0 ho) ⟨by omega, rfl, by decide, by decide⟩ rfl (fun z => absurd z (by decide)) (by show m10 o 3 = _; rw [e_m10, nu_no (by omega), e_m9, nu_no (by omega)]; exact hw.1.2.2.2.1) ?_
        obtain ⟨m11, e_m11⟩ : ∃ z, z = nu_up m10 r 2 (w 2) := ⟨_, rfl⟩
        have hs_m11 : RdS w m11 r (upw (upw (upw s 0 p) 1 (b : Int)) 2 (w 2)) := by rw [e_m11]; exact rds_f hs_m10 (i := 2) (by decide) _
        have fo_m11 : FrO 8 r m m11 := by rw [e_m11]; exact fro_f fo_m10 (by decide)
        refine gx_pf (x := (w 2)) 0 r_266_48 (rfl) (tride_0 hr) ⟨by omega, rfl, by decide, by decide⟩ rfl (fun z => absurd z (by decide)) (fun z => absurd z (by decide)) e_m11.symm ?_
        refine gx_st (L' := [(2, (r : Int)), (2, (o : Int)), (0, (b : Int)), (0, p), (0, 1)]) (S' := [(2, (r : Int))]) r_266_51 rfl rfl rfl ?_
        refine gx_st (L' := [(2, (r : Int)), (2, (o : Int)), (0, (b : Int)), (0, p), (0, 1)]) (S' := [(0, 0), (2, (r : Int))]) r_266_52 rfl rfl rfl ?_
        obtain ⟨m12, e_m12⟩ : ∃ z, z = nu_up m11 r 3 0 := ⟨_, rfl⟩
        have hs_m12 : RdS w m12 r (upw (upw (upw (upw s 0 p) 1 (b : Int)) 2 (w 2)) 3 0) := by rw [e_m12]; exact rds_f hs_m11 (i := 3) (by decide) _
        have fo_m12 : FrO 8 r m m12 := by rw [e_m12]; exact fro_f fo_m11 (by decide)
        refine gx_pf (x := 0) 0 r_266_53 (rfl) (tride_0 hr) ⟨by omega, rfl, by decide, by decide⟩ rfl (fun z => absurd z (by decide)) (fun z => absurd z (by decide)) e_m12.symm ?_
        refine gx_st (L' := [(2, (r : Int)), (2, (o : Int)), (0, (b : Int)), (0, p), (0, 1)]) (S' := [(2, (r : Int))]) r_266_56 rfl rfl rfl ?_
        refine gx_st (L' := [(2, (r : Int)), (2, (o : Int)), (0, (b : Int)), (0, p), (0, 1)]) (S' := [(0, 0), (2, (r : Int))]) r_266_57 rfl rfl rfl ?_
        obtain ⟨m13, e_m13⟩ : ∃ z, z = nu_up m12 r 4 0 := ⟨_, rfl⟩
        have hs_m13 : RdS w m13 r (upw (upw (upw (upw (upw s 0 p) 1 (b : Int)) 2 (w 2)) 3 0) 4 0) := by rw [e_m13]; exact rds_f hs_m12 (i := 4) (by decide) _
        have fo_m13 : FrO 8 r m m13 := by rw [e_m13]; exact fro_f fo_m12 (by decide)
        refine gx_pf (x := 0) 0 r_266_58 (rfl) (tride_0 hr) ⟨by omega, rfl, by decide, by decide⟩ rfl (fun z => absurd z (by decide)) (fun z => absurd z (by decide)) e_m13.symm ?_
        refine gx_st (L' := [(2, (r : Int)), (2, (o : Int)), (0, (b : Int)), (0, p), (0, 1)]) (S' := [(2, (r : Int))]) r_266_61 rfl rfl rfl ?_
        refine gx_st (L' := [(2, (r : Int)), (2, (o : Int)), (0, (b : Int)), (0, p), (0, 1)]) (S' := [(0, 0), (2, (r : Int))]) r_266_62 rfl rfl rfl ?_
        obtain ⟨m14, e_m14⟩ : ∃ z, z = nu_up m13 r 5 0 := ⟨_, rfl⟩
        have hs_m14 : RdS w m14 r (upw (upw (upw (upw (upw (upw s 0 p) 1 (b : Int)) 2 (w 2)) 3 0) 4 0) 5 0) := by rw [e_m14]; exact rds_f hs_m13 (i := 5) (by decide) _
        have fo_m14 : FrO 8 r m m14 := by rw [e_m14]; exact fro_f fo_m13 (by decide)
        refine gx_pf (x := 0) 0 r_266_63 (rfl) (tride_0 hr) ⟨by omega, rfl, by decide, by decide⟩ rfl (fun z => absurd z (by decide)) (fun z => absurd z (by decide)) e_m14.symm ?_
        refine gx_st (L' := [(2, (r : Int)), (2, (o : Int)), (0, (b : Int)), (0, p), (0, 1)]) (S' := [(2, (r : Int))]) r_266_66 rfl rfl rfl ?_
        refine gx_st (L' := [(2, (r : Int)), (2, (o : Int)), (0, (b : Int)), (0, p), (0, 1)]) (S' := [(0, (-1)), (2, (r : Int))]) r_266_67 rfl rfl rfl ?_
        obtain ⟨m15, e_m15⟩ : ∃ z, z = nu_up m14 r 6 (-1) := ⟨_, rfl⟩
        have hs_m15 : RdS w m15 r (upw (upw (upw (upw (upw (upw (upw s 0 p) 1 (b : Int)) 2 (w 2)) 3 0) 4 0) 5 0) 16 (-1)) := by rw [e_m15]; exact rds_k hs_m14 _
        have fo_m15 : FrO 8 r m m15 := by rw [e_m15]; exact fro_f fo_m14 (by decide)
        refine gx_pf (x := (-1)) 0 r_266_68 (rfl) (tride_0 hr) ⟨by omega, rfl, by decide, by decide⟩ rfl (fun z => absurd z (by decide)) (fun z => absurd z (by decide)) e_m15.symm ?_
        refine gx_st (L' := [(2, (r : Int)), (2, (o : Int)), (0, (b : Int)), (0, p), (0, 1)]) (S' := [(2, (r : Int))]) r_266_71 rfl rfl rfl ?_
        refine gx_st (L' := [(2, (r : Int)), (2, (o : Int)), (0, (b : Int)), (0, p), (0, 1)]) (S' := [(0, 0), (2, (r : Int))]) r_266_72 rfl rfl rfl ?_
        obtain ⟨m16, e_m16⟩ : ∃ z, z = nu_up m15 r 7 0 := ⟨_, rfl⟩
        have hs_m16 : RdS w m16 r (upw (upw (upw (upw (upw (upw (upw s 0 p) 1 (b : Int)) 2 (w 2)) 3 0) 4 0) 5 0) 16 (-1)) := by rw [e_m16]; exact rds_7 hs_m15 (i := 7) (by decide) _
        have fo_m16 : FrO 8 r m m16 := by rw [e_m16]; exact fro_f fo_m15 (by decide)
        refine gx_pf (x := 0) 0 r_266_73 (rfl) (tride_0 hr) ⟨by omega, rfl, by decide, by decide⟩ rfl (fun _ => by omega) (fun z => absurd z (by decide)) e_m16.symm ?_
        refine gx_st (L' := [(2, (r : Int)), (2, (o : Int)), (0, (b : Int)), (0, p), (0, 1)]) (S' := [(2, (r : Int))]) r_266_76 rfl rfl rfl ?_
        refine gx_gf (x := (r : Int) + 1) 2 r_266_77 (rfl) (tride_0 hr) ⟨by omega, rfl, by decide, by decide⟩ rfl (fun _ => by omega) (by show m16 r 8 = _; rw [e_m16, nu_ne (by decide), e_m15, nu_ne (by decide), e_m14, nu_ne (by decide), e_m13, nu_ne (by decide), e_m12, nu_ne (by decide), e_m11, nu_ne (by decide), e_m10, nu_ne (by decide), e_m9, nu_ne (by decide)]; exact hrr.1) ?_
        refine gx_st (L' := [(2, (r : Int)), (2, (o : Int)), (0, (b : Int)), (0, p), (0, 1)]) (S' := [(0, 0), (2, (r : Int) + 1)]) r_266_80 rfl rfl rfl ?_
        have c7 : m16 r 7 = 0 := by rw [e_m16, nu_at]
        have c0 : m16 r 0 = p := by rw [e_m16, nu_ne (by decide), e_m15, nu_ne (by decide), e_m14, nu_ne (by decide), e_m13, nu_ne (by decide), e_m12, nu_ne (by decide), e_m11, nu_ne (by decide), e_m10, nu_ne (by decide), e_m9, nu_at]
        have c1 : m16 r 1 = (b : Int) := by rw [e_m16, nu_ne (by decide), e_m15, nu_ne (by decide), e_m14, nu_ne (by decide), e_m13, nu_ne (by decide), e_m12, nu_ne (by decide), e_m11, nu_ne (by decide), e_m10, nu_at]
        have c2 : m16 r 2 = (w 2) := by rw [e_m16, nu_ne (by decide), e_m15, nu_ne (by decide), e_m14, nu_ne (by decide), e_m13, nu_ne (by decide), e_m12, nu_ne (by decide), e_m11, nu_at]
        have c3 : m16 r 3 = 0 := by rw [e_m16, nu_ne (by decide), e_m15, nu_ne (by decide), e_m14, nu_ne (by decide), e_m13, nu_ne (by decide), e_m12, nu_at]
        have c4 : m16 r 4 = 0 := by rw [e_m16, nu_ne (by decide), e_m15, nu_ne (by decide), e_m14, nu_ne (by decide), e_m13, nu_at]
        have c5 : m16 r 5 = 0 := by rw [e_m16, nu_ne (by decide), e_m15, nu_ne (by decide), e_m14, nu_at]
        have c6 : m16 r 6 = (-1) := by rw [e_m16, nu_ne (by decide), e_m15, nu_at]
        have rr_m16 : RideR m16 r := rr_fro hrr fo_m16 (by decide)
        have ir_m16 : IsleR m16 o := ir_fro hor fo_m16 hd
        have hw_m16 : WD m16 o w := wd_fro hw fo_m16 hd
        refine gx_cv (nx := 84) (S2 := []) (c_240 (r := r + 1) (n := 5) (tride_1 hr) (by omega) (by decide) 0) r_266_81 rfl rfl rfl rfl rfl rfl rfl (by decide) rfl (fun n81 q81 => ?_)
        obtain ⟨g1, g2⟩ := q81
        have r8 : n81 r 9 = (r : Int) + 2 := (g2 r 9 (by omega)).trans rr_m16.2
        have i11 : n81 o 11 = (o : Int) + 2 := (g2 o 11 (by omega)).trans ir_m16.2.1
        show GX T 1 266 84 [(2, (r : Int)), (2, (o : Int)), (0, (b : Int)), (0, p), (0, 1)] [] n81 (RV (fun m1 => RdS w m1 r (beginF w (b : Int) p) ∧ FrO 8 r m m1 ∧ m1 r 7 = 0))
        refine gx_st (L' := [(2, (r : Int)), (2, (o : Int)), (0, (b : Int)), (0, p), (0, 1)]) (S' := [(2, (o : Int))]) r_266_84 rfl rfl rfl ?_
        refine gx_gf (x := (o : Int) + 2) 2 r_266_85 (rfl) (tisle_0 ho) ⟨by omega, rfl, by decide, by decide⟩ rfl (fun _ => by omega) (i11) ?_
        refine gx_st (L' := [(2, (r : Int)), (2, (o : Int)), (0, (b : Int)), (0, p), (0, 1)]) (S' := [(2, (r : Int)), (2, (o : Int) + 2)]) r_266_88 rfl rfl rfl ?_
        refine gx_gf (x := (r : Int) + 2) 2 r_266_89 (rfl) (tride_0 hr) ⟨by omega, rfl, by decide, by decide⟩ rfl (fun _ => by omega) (r8) ?_
        refine gx_cv (nx := 95) (S2 := []) (c_241 (r := o + 2) (n := 5) (tisle_2 ho) (by omega) (by decide) (g := r + 2) (tride_2 hr) (by omega)) r_266_92 rfl rfl rfl rfl rfl rfl rfl (by decide) rfl (fun n92 q92 => ?_)
        obtain ⟨g3, g4⟩ := q92
        show GX T 1 266 95 [(2, (r : Int)), (2, (o : Int)), (0, (b : Int)), (0, p), (0, 1)] [] n92 (RV (fun m1 => RdS w m1 r (beginF w (b : Int) p) ∧ FrO 8 r m m1 ∧ m1 r 7 = 0))
        have hb7 : (b : Int) < w 7 := by omega
        exact gx_rt r_266_95 rfl rfl ⟨rfl, ⟨((g4 r 0 (by omega)).trans ((g2 r 0 (by omega)).trans c0)).trans (by show _ = (if (b : Int) < w 7 then p else -1); rw [if_pos hb7]), ((g4 r 1 (by omega)).trans ((g2 r 1 (by omega)).trans c1)).trans (by show _ = (if (b : Int) < w 7 then (b : Int) else -1); rw [if_pos hb7]), ((g4 r 2 (by omega)).trans ((g2 r 2 (by omega)).trans c2)).trans (rfl), ((g4 r 3 (by omega)).trans ((g2 r 3 (by omega)).trans c3)).trans (rfl), ((g4 r 4 (by omega)).trans ((g2 r 4 (by omega)).trans c4)).trans (rfl), ((g4 r 5 (by omega)).trans ((g2 r 5 (by omega)).trans c5)).trans (rfl), ((g4 r 6 (by omega)).trans ((g2 r 6 (by omega)).trans c6)).trans (rfl), fun c hc => ((g4 (r + 1) c (by omega)).trans (g1 c hc)).trans (begin_t hc).symm, fun t ht h5 => (g3 t ht).trans (((g2 (o + 2) t (by omega)).trans (wd_tree hw_m16 h5).2).trans (begin_u ht).symm)⟩, fun p i x y z => ((g4 p i (by omega)).trans (g2 p i (by omega))).trans (fo_m16 p i x y z), ((g4 r 7 (by omega)).trans (g2 r 7 (by omega))).trans c7⟩
end HUNTC
