/-! the ride of the reference: eatOrGo, goHour -/
theorem r_141_0 : row 141 0 = some (.iload_n 1, 1, 0, 0, 0, 0) := rfl
theorem r_141_1 : row 141 1 = some (.iconst 1, 2, 1, 0, 0, 0) := rfl
theorem r_141_2 : row 141 2 = some (.iadd, 3, 0, 0, 0, 0) := rfl
theorem r_141_3 : row 141 3 = some (.istore_n 2, 4, 0, 0, 0, 0) := rfl
theorem r_141_4 : row 141 4 = some (.aload_n 0, 5, 0, 0, 0, 0) := rfl
theorem r_141_5 : row 141 5 = some (.iload_n 1, 6, 0, 0, 0, 0) := rfl
theorem r_141_6 : row 141 6 = some (.iconst 0, 7, 0, 0, 0, 0) := rfl
theorem r_141_7 : row 141 7 = some (.invokevirtual 263, 10, 131, 2, 0, 7110) := rfl
theorem r_141_10 : row 141 10 = some (.istore_n 3, 11, 0, 0, 0, 0) := rfl
theorem r_141_11 : row 141 11 = some (.aload_n 0, 12, 0, 0, 0, 0) := rfl
theorem r_141_12 : row 141 12 = some (.iload_n 1, 13, 0, 0, 0, 0) := rfl
theorem r_141_13 : row 141 13 = some (.iload_n 3, 14, 0, 0, 0, 0) := rfl
theorem r_141_14 : row 141 14 = some (.invokevirtual 299, 17, 135, 2, 0, 7130) := rfl
theorem r_141_17 : row 141 17 = some (.istore 4, 19, 0, 0, 0, 0) := rfl
theorem r_141_19 : row 141 19 = some (.iload 4, 21, 0, 0, 0, 0) := rfl
theorem r_141_21 : row 141 21 = some (.iconst (-1), 22, (-1), 0, 0, 0) := rfl
theorem r_141_22 : row 141 22 = some (.if_icmp .ne 13, 25, 35, 0, 0, 0) := rfl
theorem r_141_25 : row 141 25 = some (.aload_n 0, 26, 0, 0, 0, 0) := rfl
theorem r_141_26 : row 141 26 = some (.getfield 40, 29, 10, 17, 2, 6018) := rfl
theorem r_141_29 : row 141 29 = some (.iload_n 1, 30, 0, 0, 0, 0) := rfl
theorem r_141_30 : row 141 30 = some (.iconst 4, 31, 4, 0, 0, 0) := rfl
theorem r_141_31 : row 141 31 = some (.iastore, 32, 0, 0, 0, 0) := rfl
theorem r_141_32 : row 141 32 = some (.goto 148, 35, 180, 0, 0, 0) := rfl
theorem r_141_35 : row 141 35 = some (.aload_n 0, 36, 0, 0, 0, 0) := rfl
theorem r_141_36 : row 141 36 = some (.iload 4, 38, 0, 0, 0, 0) := rfl
theorem r_141_38 : row 141 38 = some (.invokevirtual 247, 41, 97, 1, 0, 7070) := rfl
theorem r_141_41 : row 141 41 = some (.iload_n 3, 42, 0, 0, 0, 0) := rfl
theorem r_141_42 : row 141 42 = some (.if_icmp .ne 83, 45, 125, 0, 0, 0) := rfl
theorem r_141_45 : row 141 45 = some (.aload_n 0, 46, 0, 0, 0, 0) := rfl
theorem r_141_46 : row 141 46 = some (.getfield 40, 49, 10, 17, 2, 6018) := rfl
theorem r_141_49 : row 141 49 = some (.iload_n 1, 50, 0, 0, 0, 0) := rfl
theorem r_141_50 : row 141 50 = some (.iconst 2, 51, 2, 0, 0, 0) := rfl
theorem r_141_51 : row 141 51 = some (.iastore, 52, 0, 0, 0, 0) := rfl
theorem r_141_52 : row 141 52 = some (.aload_n 0, 53, 0, 0, 0, 0) := rfl
theorem r_141_53 : row 141 53 = some (.iload_n 2, 54, 0, 0, 0, 0) := rfl
theorem r_141_54 : row 141 54 = some (.iconst 1, 55, 1, 0, 0, 0) := rfl
theorem r_141_55 : row 141 55 = some (.invokevirtual 263, 58, 131, 2, 0, 7110) := rfl
theorem r_141_58 : row 141 58 = some (.istore 5, 60, 0, 0, 0, 0) := rfl
theorem r_141_60 : row 141 60 = some (.aload_n 0, 61, 0, 0, 0, 0) := rfl
theorem r_141_61 : row 141 61 = some (.iload_n 2, 62, 0, 0, 0, 0) := rfl
theorem r_141_62 : row 141 62 = some (.bipush 11, 64, 11, 0, 0, 0) := rfl
theorem r_141_64 : row 141 64 = some (.iload 4, 66, 0, 0, 0, 0) := rfl
theorem r_141_66 : row 141 66 = some (.iadd, 67, 0, 0, 0, 0) := rfl
theorem r_141_67 : row 141 67 = some (.aload_n 0, 68, 0, 0, 0, 0) := rfl
theorem r_141_68 : row 141 68 = some (.iload_n 2, 69, 0, 0, 0, 0) := rfl
theorem r_141_69 : row 141 69 = some (.bipush 11, 71, 11, 0, 0, 0) := rfl
theorem r_141_71 : row 141 71 = some (.iload 4, 73, 0, 0, 0, 0) := rfl
theorem r_141_73 : row 141 73 = some (.iadd, 74, 0, 0, 0, 0) := rfl
theorem r_141_74 : row 141 74 = some (.invokevirtual 263, 77, 131, 2, 0, 7110) := rfl
theorem r_141_77 : row 141 77 = some (.iconst 1, 78, 1, 0, 0, 0) := rfl
theorem r_141_78 : row 141 78 = some (.isub, 79, 0, 0, 0, 0) := rfl
theorem r_141_79 : row 141 79 = some (.invokevirtual 253, 82, 132, 3, 0, 7098) := rfl
theorem r_141_82 : row 141 82 = some (.aload_n 0, 83, 0, 0, 0, 0) := rfl
theorem r_141_83 : row 141 83 = some (.iload_n 2, 84, 0, 0, 0, 0) := rfl
theorem r_141_84 : row 141 84 = some (.iconst 2, 85, 2, 0, 0, 0) := rfl
theorem r_141_85 : row 141 85 = some (.aload_n 0, 86, 0, 0, 0, 0) := rfl
theorem r_141_86 : row 141 86 = some (.iload_n 2, 87, 0, 0, 0, 0) := rfl
theorem r_141_87 : row 141 87 = some (.iconst 2, 88, 2, 0, 0, 0) := rfl
theorem r_141_88 : row 141 88 = some (.invokevirtual 263, 91, 131, 2, 0, 7110) := rfl
theorem r_141_91 : row 141 91 = some (.iconst 1, 92, 1, 0, 0, 0) := rfl
theorem r_141_92 : row 141 92 = some (.iadd, 93, 0, 0, 0, 0) := rfl
theorem r_141_93 : row 141 93 = some (.invokevirtual 253, 96, 132, 3, 0, 7098) := rfl
theorem r_141_96 : row 141 96 = some (.aload_n 0, 97, 0, 0, 0, 0) := rfl
theorem r_141_97 : row 141 97 = some (.iload_n 2, 98, 0, 0, 0, 0) := rfl
theorem r_141_98 : row 141 98 = some (.bipush 6, 100, 6, 0, 0, 0) := rfl
theorem r_141_100 : row 141 100 = some (.iload 5, 102, 0, 0, 0, 0) := rfl
theorem r_141_102 : row 141 102 = some (.iadd, 103, 0, 0, 0, 0) := rfl
theorem r_141_103 : row 141 103 = some (.iconst 0, 104, 0, 0, 0, 0) := rfl
theorem r_141_104 : row 141 104 = some (.aload_n 0, 105, 0, 0, 0, 0) := rfl
theorem r_141_105 : row 141 105 = some (.iload_n 2, 106, 0, 0, 0, 0) := rfl
theorem r_141_106 : row 141 106 = some (.bipush 6, 108, 6, 0, 0, 0) := rfl
theorem r_141_108 : row 141 108 = some (.iload 5, 110, 0, 0, 0, 0) := rfl
theorem r_141_110 : row 141 110 = some (.iadd, 111, 0, 0, 0, 0) := rfl
theorem r_141_111 : row 141 111 = some (.invokevirtual 263, 114, 131, 2, 0, 7110) := rfl
theorem r_141_114 : row 141 114 = some (.iconst 3, 115, 3, 0, 0, 0) := rfl
theorem r_141_115 : row 141 115 = some (.isub, 116, 0, 0, 0, 0) := rfl
theorem r_141_116 : row 141 116 = some (.invokestatic 302, 119, (-3), 2, 0, 7125) := rfl
theorem r_141_119 : row 141 119 = some (.invokevirtual 253, 122, 132, 3, 0, 7098) := rfl
theorem r_141_122 : row 141 122 = some (.goto 58, 125, 180, 0, 0, 0) := rfl
theorem r_141_125 : row 141 125 = some (.iconst 0, 126, 0, 0, 0, 0) := rfl
theorem r_141_126 : row 141 126 = some (.istore 5, 128, 0, 0, 0, 0) := rfl
theorem r_141_128 : row 141 128 = some (.aload_n 0, 129, 0, 0, 0, 0) := rfl
theorem r_141_129 : row 141 129 = some (.iload_n 3, 130, 0, 0, 0, 0) := rfl
theorem r_141_130 : row 141 130 = some (.iload 5, 132, 0, 0, 0, 0) := rfl
theorem r_141_132 : row 141 132 = some (.invokevirtual 228, 135, 123, 2, 0, 7042) := rfl
theorem r_141_135 : row 141 135 = some (.iconst 1, 136, 1, 0, 0, 0) := rfl
theorem r_141_136 : row 141 136 = some (.if_icmp .ne 31, 139, 167, 0, 0, 0) := rfl
theorem r_141_139 : row 141 139 = some (.aload_n 0, 140, 0, 0, 0, 0) := rfl
theorem r_141_140 : row 141 140 = some (.iload 5, 142, 0, 0, 0, 0) := rfl
theorem r_141_142 : row 141 142 = some (.aload_n 0, 143, 0, 0, 0, 0) := rfl
theorem r_141_143 : row 141 143 = some (.iload 4, 145, 0, 0, 0, 0) := rfl
theorem r_141_145 : row 141 145 = some (.invokevirtual 247, 148, 97, 1, 0, 7070) := rfl
theorem r_141_148 : row 141 148 = some (.invokevirtual 228, 151, 123, 2, 0, 7042) := rfl
theorem r_141_151 : row 141 151 = some (.aload_n 0, 152, 0, 0, 0, 0) := rfl
theorem r_141_152 : row 141 152 = some (.iload_n 3, 153, 0, 0, 0, 0) := rfl
theorem r_141_153 : row 141 153 = some (.aload_n 0, 154, 0, 0, 0, 0) := rfl
theorem r_141_154 : row 141 154 = some (.iload 4, 156, 0, 0, 0, 0) := rfl
theorem r_141_156 : row 141 156 = some (.invokevirtual 247, 159, 97, 1, 0, 7070) := rfl
theorem r_141_159 : row 141 159 = some (.invokevirtual 228, 162, 123, 2, 0, 7042) := rfl
theorem r_141_162 : row 141 162 = some (.iconst 1, 163, 1, 0, 0, 0) := rfl
theorem r_141_163 : row 141 163 = some (.isub, 164, 0, 0, 0, 0) := rfl
theorem r_141_164 : row 141 164 = some (.if_icmp .eq 9, 167, 173, 0, 0, 0) := rfl
theorem r_141_167 : row 141 167 = some (.iinc 5 1, 170, 0, 0, 0, 0) := rfl
theorem r_141_170 : row 141 170 = some (.goto (-42), 173, 128, 0, 0, 0) := rfl
theorem r_141_173 : row 141 173 = some (.aload_n 0, 174, 0, 0, 0, 0) := rfl
theorem r_141_174 : row 141 174 = some (.iload_n 1, 175, 0, 0, 0, 0) := rfl
theorem r_141_175 : row 141 175 = some (.iload 5, 177, 0, 0, 0, 0) := rfl
theorem r_141_177 : row 141 177 = some (.invokevirtual 305, 180, 139, 2, 0, 7138) := rfl
theorem r_141_180 : row 141 180 = some (.return_, 181, 0, 0, 0, 0) := rfl
theorem r_142_0 : row 142 0 = some (.iload_n 1, 1, 0, 0, 0, 0) := rfl
theorem r_142_1 : row 142 1 = some (.iconst 1, 2, 1, 0, 0, 0) := rfl
theorem r_142_2 : row 142 2 = some (.iadd, 3, 0, 0, 0, 0) := rfl
theorem r_142_3 : row 142 3 = some (.istore_n 3, 4, 0, 0, 0, 0) := rfl
theorem r_142_4 : row 142 4 = some (.aload_n 0, 5, 0, 0, 0, 0) := rfl
theorem r_142_5 : row 142 5 = some (.iload_n 1, 6, 0, 0, 0, 0) := rfl
theorem r_142_6 : row 142 6 = some (.iload_n 2, 7, 0, 0, 0, 0) := rfl
theorem r_142_7 : row 142 7 = some (.invokevirtual 308, 10, 137, 2, 0, 7106) := rfl
theorem r_142_10 : row 142 10 = some (.istore 4, 12, 0, 0, 0, 0) := rfl
theorem r_142_12 : row 142 12 = some (.iconst 0, 13, 0, 0, 0, 0) := rfl
theorem r_142_13 : row 142 13 = some (.istore 5, 15, 0, 0, 0, 0) := rfl
theorem r_142_15 : row 142 15 = some (.iload 5, 17, 0, 0, 0, 0) := rfl
theorem r_142_17 : row 142 17 = some (.bipush 16, 19, 16, 0, 0, 0) := rfl
theorem r_142_19 : row 142 19 = some (.if_icmp .ge 23, 22, 42, 0, 0, 0) := rfl
theorem r_142_22 : row 142 22 = some (.aload_n 0, 23, 0, 0, 0, 0) := rfl
theorem r_142_23 : row 142 23 = some (.iload_n 3, 24, 0, 0, 0, 0) := rfl
theorem r_142_24 : row 142 24 = some (.iload 5, 26, 0, 0, 0, 0) := rfl
theorem r_142_26 : row 142 26 = some (.aload_n 0, 27, 0, 0, 0, 0) := rfl
theorem r_142_27 : row 142 27 = some (.iload_n 1, 28, 0, 0, 0, 0) := rfl
theorem r_142_28 : row 142 28 = some (.iload 5, 30, 0, 0, 0, 0) := rfl
theorem r_142_30 : row 142 30 = some (.invokevirtual 263, 33, 131, 2, 0, 7110) := rfl
theorem r_142_33 : row 142 33 = some (.invokevirtual 253, 36, 132, 3, 0, 7098) := rfl
theorem r_142_36 : row 142 36 = some (.iinc 5 1, 39, 0, 0, 0, 0) := rfl
theorem r_142_39 : row 142 39 = some (.goto (-24), 42, 15, 0, 0, 0) := rfl
theorem r_142_42 : row 142 42 = some (.aload_n 0, 43, 0, 0, 0, 0) := rfl
theorem r_142_43 : row 142 43 = some (.getfield 40, 46, 10, 17, 2, 6018) := rfl
theorem r_142_46 : row 142 46 = some (.iload_n 1, 47, 0, 0, 0, 0) := rfl
theorem r_142_47 : row 142 47 = some (.iconst 0, 48, 0, 0, 0, 0) := rfl
theorem r_142_48 : row 142 48 = some (.iastore, 49, 0, 0, 0, 0) := rfl
theorem r_142_49 : row 142 49 = some (.aload_n 0, 50, 0, 0, 0, 0) := rfl
theorem r_142_50 : row 142 50 = some (.getfield 43, 53, 10, 18, 2, 6019) := rfl
theorem r_142_53 : row 142 53 = some (.iload_n 1, 54, 0, 0, 0, 0) := rfl
theorem r_142_54 : row 142 54 = some (.iconst 0, 55, 0, 0, 0, 0) := rfl
theorem r_142_55 : row 142 55 = some (.iastore, 56, 0, 0, 0, 0) := rfl
theorem r_142_56 : row 142 56 = some (.aload_n 0, 57, 0, 0, 0, 0) := rfl
theorem r_142_57 : row 142 57 = some (.iload_n 1, 58, 0, 0, 0, 0) := rfl
theorem r_142_58 : row 142 58 = some (.iconst 1, 59, 1, 0, 0, 0) := rfl
theorem r_142_59 : row 142 59 = some (.invokevirtual 263, 62, 131, 2, 0, 7110) := rfl
theorem r_142_62 : row 142 62 = some (.iconst (-1), 63, (-1), 0, 0, 0) := rfl
theorem r_142_63 : row 142 63 = some (.if_icmp .ne 4, 66, 67, 0, 0, 0) := rfl
theorem r_142_66 : row 142 66 = some (.return_, 67, 0, 0, 0, 0) := rfl
theorem r_142_67 : row 142 67 = some (.aload_n 0, 68, 0, 0, 0, 0) := rfl
theorem r_142_68 : row 142 68 = some (.iload_n 1, 69, 0, 0, 0, 0) := rfl
theorem r_142_69 : row 142 69 = some (.iconst 3, 70, 3, 0, 0, 0) := rfl
theorem r_142_70 : row 142 70 = some (.invokevirtual 263, 73, 131, 2, 0, 7110) := rfl
theorem r_142_73 : row 142 73 = some (.istore 5, 75, 0, 0, 0, 0) := rfl
theorem r_142_75 : row 142 75 = some (.iload 4, 77, 0, 0, 0, 0) := rfl
theorem r_142_77 : row 142 77 = some (.ifCond .eq 32, 80, 109, 0, 0, 0) := rfl
theorem r_142_80 : row 142 80 = some (.iload_n 2, 81, 0, 0, 0, 0) := rfl
theorem r_142_81 : row 142 81 = some (.iconst 1, 82, 1, 0, 0, 0) := rfl
theorem r_142_82 : row 142 82 = some (.if_icmp .ne 27, 85, 109, 0, 0, 0) := rfl
theorem r_142_85 : row 142 85 = some (.aload_n 0, 86, 0, 0, 0, 0) := rfl
theorem r_142_86 : row 142 86 = some (.iload_n 3, 87, 0, 0, 0, 0) := rfl
theorem r_142_87 : row 142 87 = some (.iconst 4, 88, 4, 0, 0, 0) := rfl
theorem r_142_88 : row 142 88 = some (.aload_n 0, 89, 0, 0, 0, 0) := rfl
theorem r_142_89 : row 142 89 = some (.iload_n 3, 90, 0, 0, 0, 0) := rfl
theorem r_142_90 : row 142 90 = some (.iconst 4, 91, 4, 0, 0, 0) := rfl
theorem r_142_91 : row 142 91 = some (.invokevirtual 263, 94, 131, 2, 0, 7110) := rfl
theorem r_142_94 : row 142 94 = some (.iconst 1, 95, 1, 0, 0, 0) := rfl
theorem r_142_95 : row 142 95 = some (.aload_n 0, 96, 0, 0, 0, 0) := rfl
theorem r_142_96 : row 142 96 = some (.iload_n 1, 97, 0, 0, 0, 0) := rfl
theorem r_142_97 : row 142 97 = some (.iload_n 1, 98, 0, 0, 0, 0) := rfl
theorem r_142_98 : row 142 98 = some (.invokevirtual 275, 101, 136, 2, 0, 7114) := rfl
theorem r_142_101 : row 142 101 = some (.ishl, 102, 0, 0, 0, 0) := rfl
theorem r_142_102 : row 142 102 = some (.ior, 103, 0, 0, 0, 0) := rfl
theorem r_142_103 : row 142 103 = some (.invokevirtual 253, 106, 132, 3, 0, 7098) := rfl
theorem r_142_106 : row 142 106 = some (.iconst 3, 107, 3, 0, 0, 0) := rfl
theorem r_142_107 : row 142 107 = some (.istore 5, 109, 0, 0, 0, 0) := rfl
theorem r_142_109 : row 142 109 = some (.aload_n 0, 110, 0, 0, 0, 0) := rfl
theorem r_142_110 : row 142 110 = some (.getfield 43, 113, 10, 18, 2, 6019) := rfl
theorem r_142_113 : row 142 113 = some (.iload_n 1, 114, 0, 0, 0, 0) := rfl
theorem r_142_114 : row 142 114 = some (.iload 5, 116, 0, 0, 0, 0) := rfl
theorem r_142_116 : row 142 116 = some (.ifCond .le 7, 119, 123, 0, 0, 0) := rfl
theorem r_142_119 : row 142 119 = some (.iconst 1, 120, 1, 0, 0, 0) := rfl
theorem r_142_120 : row 142 120 = some (.goto 4, 123, 124, 0, 0, 0) := rfl
theorem r_142_123 : row 142 123 = some (.iconst 0, 124, 0, 0, 0, 0) := rfl
theorem r_142_124 : row 142 124 = some (.iastore, 125, 0, 0, 0, 0) := rfl
theorem r_142_125 : row 142 125 = some (.aload_n 0, 126, 0, 0, 0, 0) := rfl
theorem r_142_126 : row 142 126 = some (.iload_n 3, 127, 0, 0, 0, 0) := rfl
theorem r_142_127 : row 142 127 = some (.iconst 3, 128, 3, 0, 0, 0) := rfl
theorem r_142_128 : row 142 128 = some (.iconst 0, 129, 0, 0, 0, 0) := rfl
theorem r_142_129 : row 142 129 = some (.iload 5, 131, 0, 0, 0, 0) := rfl
theorem r_142_131 : row 142 131 = some (.iconst 1, 132, 1, 0, 0, 0) := rfl
theorem r_142_132 : row 142 132 = some (.isub, 133, 0, 0, 0, 0) := rfl
theorem r_142_133 : row 142 133 = some (.invokestatic 302, 136, (-3), 2, 0, 7125) := rfl
theorem r_142_136 : row 142 136 = some (.invokevirtual 253, 139, 132, 3, 0, 7098) := rfl
theorem r_142_139 : row 142 139 = some (.iload 5, 141, 0, 0, 0, 0) := rfl
theorem r_142_141 : row 142 141 = some (.ifCond .ne 11, 144, 152, 0, 0, 0) := rfl
theorem r_142_144 : row 142 144 = some (.aload_n 0, 145, 0, 0, 0, 0) := rfl
theorem r_142_145 : row 142 145 = some (.iload_n 1, 146, 0, 0, 0, 0) := rfl
theorem r_142_146 : row 142 146 = some (.invokevirtual 312, 149, 141, 1, 0, 7126) := rfl
theorem r_142_149 : row 142 149 = some (.goto 59, 152, 208, 0, 0, 0) := rfl
theorem r_142_152 : row 142 152 = some (.iload 4, 154, 0, 0, 0, 0) := rfl
theorem r_142_154 : row 142 154 = some (.ifCond .eq 24, 157, 178, 0, 0, 0) := rfl
theorem r_142_157 : row 142 157 = some (.iload_n 2, 158, 0, 0, 0, 0) := rfl
theorem r_142_158 : row 142 158 = some (.iconst 2, 159, 2, 0, 0, 0) := rfl
theorem r_142_159 : row 142 159 = some (.if_icmp .ne 19, 162, 178, 0, 0, 0) := rfl
theorem r_142_162 : row 142 162 = some (.aload_n 0, 163, 0, 0, 0, 0) := rfl
theorem r_142_163 : row 142 163 = some (.getfield 40, 166, 10, 17, 2, 6018) := rfl
theorem r_142_166 : row 142 166 = some (.iload_n 1, 167, 0, 0, 0, 0) := rfl
theorem r_142_167 : row 142 167 = some (.iconst 5, 168, 5, 0, 0, 0) := rfl
theorem r_142_168 : row 142 168 = some (.iastore, 169, 0, 0, 0, 0) := rfl
theorem r_142_169 : row 142 169 = some (.aload_n 0, 170, 0, 0, 0, 0) := rfl
theorem r_142_170 : row 142 170 = some (.iload_n 1, 171, 0, 0, 0, 0) := rfl
theorem r_142_171 : row 142 171 = some (.iconst 1, 172, 1, 0, 0, 0) := rfl
theorem r_142_172 : row 142 172 = some (.invokevirtual 289, 175, 140, 2, 0, 7146) := rfl
theorem r_142_175 : row 142 175 = some (.goto 33, 178, 208, 0, 0, 0) := rfl
theorem r_142_178 : row 142 178 = some (.iload 4, 180, 0, 0, 0, 0) := rfl
theorem r_142_180 : row 142 180 = some (.ifCond .eq 21, 183, 201, 0, 0, 0) := rfl
theorem r_142_183 : row 142 183 = some (.iload_n 2, 184, 0, 0, 0, 0) := rfl
theorem r_142_184 : row 142 184 = some (.bipush 10, 186, 10, 0, 0, 0) := rfl
theorem r_142_186 : row 142 186 = some (.if_icmp .lt 15, 189, 201, 0, 0, 0) := rfl
theorem r_142_189 : row 142 189 = some (.aload_n 0, 190, 0, 0, 0, 0) := rfl
theorem r_142_190 : row 142 190 = some (.iload_n 1, 191, 0, 0, 0, 0) := rfl
theorem r_142_191 : row 142 191 = some (.iload_n 2, 192, 0, 0, 0, 0) := rfl
theorem r_142_192 : row 142 192 = some (.bipush 10, 194, 10, 0, 0, 0) := rfl
theorem r_142_194 : row 142 194 = some (.isub, 195, 0, 0, 0, 0) := rfl
theorem r_142_195 : row 142 195 = some (.invokevirtual 305, 198, 139, 2, 0, 7138) := rfl
theorem r_142_198 : row 142 198 = some (.goto 10, 201, 208, 0, 0, 0) := rfl
theorem r_142_201 : row 142 201 = some (.aload_n 0, 202, 0, 0, 0, 0) := rfl
theorem r_142_202 : row 142 202 = some (.getfield 40, 205, 10, 17, 2, 6018) := rfl
theorem r_142_205 : row 142 205 = some (.iload_n 1, 206, 0, 0, 0, 0) := rfl
theorem r_142_206 : row 142 206 = some (.iconst 1, 207, 1, 0, 0, 0) := rfl
theorem r_142_207 : row 142 207 = some (.iastore, 208, 0, 0, 0, 0) := rfl
theorem r_142_208 : row 142 208 = some (.return_, 209, 0, 0, 0, 0) := rfl
theorem gt_200_cp : ∀ i : Nat, i < 208 → cT (tyO 200) i = cT (tyO 200) (i % 16) := by decide +kernel
theorem gu_200_cp {m m1 : Mm} (hm : Gam m) (hm1 : Gam m1) {h n k : Nat} (hh : h < 13) (hn : n < 13) (hk : k < 16) : Gam (nu_up m1 200 (16 * n + k) (m 200 (16 * h + k))) := Gam_up hm1 (by
  have h1 := hm 200 (by decide) (by decide) (16 * h + k) (by show 16 * h + k < 208; omega)
  rw [gt_200_cp (16 * n + k) (by omega), show (16 * n + k) % 16 = k by omega]
  rw [gt_200_cp (16 * h + k) (by omega), show (16 * h + k) % 16 = k by omega] at h1
  exact h1)
theorem Ext_rd {n : Nat} {m0 m : Mm} (hx : Ext m0) (h : RD n m0 m) : Ext m := by
  obtain ⟨h1, h2, h3, h4⟩ := h
  have e1 : m 193 = m0 193 := funext (Fr_cell (o := 193) h4 (by decide) (by decide))
  have e2 : m 194 = m0 194 := funext (Fr_cell (o := 194) h4 (by decide) (by decide))
  obtain ⟨x1, x2, x3⟩ := hx
  refine ⟨by rw [e1]; exact x1, by rw [e2]; exact x2, fun g hg => ?_⟩
  by_cases e : g = n
  · subst e; exact h3
  · rw [h2 (16 * g) (by omega), h2 (16 * g + 1) (by omega)]
    exact x3 g hg
theorem FS_rd {n : Nat} {m0 m : Mm} (hx : FS m0) (h : RD n m0 m) : FS m := FS_fr h.2.2.2 (by decide) hx
section HOUR
variable {T : List Kd} {m : Mm}
theorem eat_l (hT : TT T) (hm : Gam m) {Q : AV → Mm → Prop} {h n p q t c : Nat} (hp7 : p < 7) (hq5 : q < 5) (ht : m 193 (31 + 2 * q) = (t : Int)) (ht7 : t < 7) (hc7 : c < 7) (hc1 : m 199 (7 * p + c) = 1) (hc2 : m 199 (7 * c + t) = m 199 (7 * p + t) - 1) (hout : ∀ k : Nat, k < 7 → GX T 4 141 173 [(2, 192), (0, (h : Int)), (0, (n : Int)), (0, (p : Int)), (0, (q : Int)), (0, (k : Int))] [] m Q) : ∀ (N k : Nat), c - k < N → k ≤ c → GX T 4 141 128 [(2, 192), (0, (h : Int)), (0, (n : Int)), (0, (p : Int)), (0, (q : Int)), (0, (k : Int))] [] m Q := by
  intro N
  induction N with
  | zero => intro k hN; exact absurd hN (Nat.not_lt_zero _)
  | succ N ih =>
    intro k hN hk
    refine gx_st (L' := [(2, 192), (0, (h : Int)), (0, (n : Int)), (0, (p : Int)), (0, (q : Int)), (0, (k : Int))]) (S' := [(2, 192)]) r_141_128 rfl rfl rfl ?_
    refine gx_st (L' := [(2, 192), (0, (h : Int)), (0, (n : Int)), (0, (p : Int)), (0, (q : Int)), (0, (k : Int))]) (S' := [(0, (p : Int)), (2, 192)]) r_141_129 rfl rfl rfl ?_
    refine gx_st (L' := [(2, 192), (0, (h : Int)), (0, (n : Int)), (0, (p : Int)), (0, (q : Int)), (0, (k : Int))]) (S' := [(0, (k : Int)), (0, (p : Int)), (2, 192)]) r_141_130 rfl rfl rfl ?_
    refine gx_ci (nx := 135) (S2 := []) (x_123 hT hm (a := p) (b := k) (by omega) (by omega)) r_141_132 rfl rfl rfl rfl rfl (rcv_v rfl (tk_192 hT) (by decide) rfl (by decide)) rfl (by decide) rfl (fun x132 n132 q132 => ?_)
    obtain ⟨e_x132, z_x132⟩ := q132
    obtain rfl := z_x132.symm
    have b_x132 := gb_199 hm (i := 7 * (p) + (k)) (by omega)
    rw [← e_x132] at b_x132
    show GX T 4 141 135 [(2, 192), (0, (h : Int)), (0, (n : Int)), (0, (p : Int)), (0, (q : Int)), (0, (k : Int))] [(0, x132)] m Q
    refine gx_st (L' := [(2, 192), (0, (h : Int)), (0, (n : Int)), (0, (p : Int)), (0, (q : Int)), (0, (k : Int))]) (S' := [(0, 1), (0, x132)]) r_141_135 rfl rfl rfl ?_
    refine gx_ic (P := ¬ x132 = 1) r_141_136 (rfl) (fun h136 => ?_) (fun h136 => ?_)
    · have hkc : ¬ k = c := fun z => by rw [← z] at hc1 hc2; omega
      refine gx_li (z := (k : Int) + 1) (L' := [(2, 192), (0, (h : Int)), (0, (n : Int)), (0, (p : Int)), (0, (q : Int)), (0, (k : Int) + 1)]) r_141_167 rfl (w32_eq (by omega) (by omega) (by omega)) rfl ?_
      refine gx_st (L' := [(2, 192), (0, (h : Int)), (0, (n : Int)), (0, (p : Int)), (0, (q : Int)), (0, (k : Int) + 1)]) (S' := []) r_141_170 rfl rfl rfl ?_
      rw [show (k : Int) + 1 = ((k + 1 : Nat) : Int) from rfl]
      exact ih (k + 1) (by omega) (by omega)
    · have h136 := Decidable.not_not.mp h136
      refine gx_st (L' := [(2, 192), (0, (h : Int)), (0, (n : Int)), (0, (p : Int)), (0, (q : Int)), (0, (k : Int))]) (S' := [(2, 192)]) r_141_139 rfl rfl rfl ?_
      refine gx_st (L' := [(2, 192), (0, (h : Int)), (0, (n : Int)), (0, (p : Int)), (0, (q : Int)), (0, (k : Int))]) (S' := [(0, (k : Int)), (2, 192)]) r_141_140 rfl rfl rfl ?_
      refine gx_st (L' := [(2, 192), (0, (h : Int)), (0, (n : Int)), (0, (p : Int)), (0, (q : Int)), (0, (k : Int))]) (S' := [(2, 192), (0, (k : Int)), (2, 192)]) r_141_142 rfl rfl rfl ?_
      refine gx_st (L' := [(2, 192), (0, (h : Int)), (0, (n : Int)), (0, (p : Int)), (0, (q : Int)), (0, (k : Int))]) (S' := [(0, (q : Int)), (2, 192), (0, (k : Int)), (2, 192)]) r_141_143 rfl rfl rfl ?_
      refine gx_ci (nx := 148) (S2 := [(0, (k : Int)), (2, 192)]) (x_97 hT hm (k := q) (by omega)) r_141_145 rfl rfl rfl rfl rfl (rcv_v rfl (tk_192 hT) (by decide) rfl (by decide)) rfl (by decide) rfl (fun x145 n145 q145 => ?_)
      obtain rfl := q145.1.symm
      obtain rfl := q145.2.symm
      show GX T 4 141 148 [(2, 192), (0, (h : Int)), (0, (n : Int)), (0, (p : Int)), (0, (q : Int)), (0, (k : Int))] [(0, (m 193 (31 + 2 * q))), (0, (k : Int)), (2, 192)] m Q
      rw [ht]
      show GX T 4 141 148 [(2, 192), (0, (h : Int)), (0, (n : Int)), (0, (p : Int)), (0, (q : Int)), (0, (k : Int))] [(0, (t : Int)), (0, (k : Int)), (2, 192)] m Q
      refine gx_ci (nx := 151) (S2 := []) (x_123 hT hm (a := k) (b := t) (by omega) (by omega)) r_141_148 rfl rfl rfl rfl rfl (rcv_v rfl (tk_192 hT) (by decide) rfl (by decide)) rfl (by decide) rfl (fun x148 n148 q148 => ?_)
      obtain ⟨e_x148, z_x148⟩ := q148
      obtain rfl := z_x148.symm
      have b_x148 := gb_199 hm (i := 7 * (k) + (t)) (by omega)
      rw [← e_x148] at b_x148
      show GX T 4 141 151 [(2, 192), (0, (h : Int)), (0, (n : Int)), (0, (p : Int)), (0, (q : Int)), (0, (k : Int))] [(0, x148)] m Q
      refine gx_st (L' := [(2, 192), (0, (h : Int)), (0, (n : Int)), (0, (p : Int)), (0, (q : Int)), (0, (k : Int))]) (S' := [(2, 192), (0, x148)]) r_141_151 rfl rfl rfl ?_
      refine gx_st (L' := [(2, 192), (0, (h : Int)), (0, (n : Int)), (0, (p : Int)), (0, (q : Int)), (0, (k : Int))]) (S' := [(0, (p : Int)), (2, 192), (0, x148)]) r_141_152 rfl rfl rfl ?_
      refine gx_st (L' := [(2, 192), (0, (h : Int)), (0, (n : Int)), (0, (p : Int)), (0, (q : Int)), (0, (k : Int))]) (S' := [(2, 192), (0, (p : Int)), (2, 192), (0, x148)]) r_141_153 rfl rfl rfl ?_
      refine gx_st (L' := [(2, 192), (0, (h : Int)), (0, (n : Int)), (0, (p : Int)), (0, (q : Int)), (0, (k : Int))]) (S' := [(0, (q : Int)), (2, 192), (0, (p : Int)), (2, 192), (0, x148)]) r_141_154 rfl rfl rfl ?_
      refine gx_ci (nx := 159) (S2 := [(0, (p : Int)), (2, 192), (0, x148)]) (x_97 hT hm (k := q) (by omega)) r_141_156 rfl rfl rfl rfl rfl (rcv_v rfl (tk_192 hT) (by decide) rfl (by decide)) rfl (by decide) rfl (fun x156 n156 q156 => ?_)
      obtain rfl := q156.1.symm
      obtain rfl := q156.2.symm
      show GX T 4 141 159 [(2, 192), (0, (h : Int)), (0, (n : Int)), (0, (p : Int)), (0, (q : Int)), (0, (k : Int))] [(0, (m 193 (31 + 2 * q))), (0, (p : Int)), (2, 192), (0, x148)] m Q
      rw [ht]
      show GX T 4 141 159 [(2, 192), (0, (h : Int)), (0, (n : Int)), (0, (p : Int)), (0, (q : Int)), (0, (k : Int))] [(0, (t : Int)), (0, (p : Int)), (2, 192), (0, x148)] m Q
      refine gx_ci (nx := 162) (S2 := [(0, x148)]) (x_123 hT hm (a := p) (b := t) (by omega) (by omega)) r_141_159 rfl rfl rfl rfl rfl (rcv_v rfl (tk_192 hT) (by decide) rfl (by decide)) rfl (by decide) rfl (fun x159 n159 q159 => ?_)
      obtain ⟨e_x159, z_x159⟩ := q159
      obtain rfl := z_x159.symm
      have b_x159 := gb_199 hm (i := 7 * (p) + (t)) (by omega)
      rw [← e_x159] at b_x159
      show GX T 4 141 162 [(2, 192), (0, (h : Int)), (0, (n : Int)), (0, (p : Int)), (0, (q : Int)), (0, (k : Int))] [(0, x159), (0, x148)] m Q
      refine gx_st (L' := [(2, 192), (0, (h : Int)), (0, (n : Int)), (0, (p : Int)), (0, (q : Int)), (0, (k : Int))]) (S' := [(0, 1), (0, x159), (0, x148)]) r_141_162 rfl rfl rfl ?_
      refine gx_ar (L' := [(2, 192), (0, (h : Int)), (0, (n : Int)), (0, (p : Int)), (0, (q : Int)), (0, (k : Int))]) (S' := [(0, x148)]) (t := 0) (e := w32 (x159 - 1)) (z := x159 - 1) r_141_163 rfl rfl rfl (w32_eq (by omega) (by omega) (by omega)) ?_
      refine gx_ic (P := x148 = x159 - 1) r_141_164 (rfl) (fun h164 => ?_) (fun h164 => ?_)
      · exact hout k (by omega)
      · have hkc : ¬ k = c := fun z => by rw [← z] at hc1 hc2; omega
        refine gx_li (z := (k : Int) + 1) (L' := [(2, 192), (0, (h : Int)), (0, (n : Int)), (0, (p : Int)), (0, (q : Int)), (0, (k : Int) + 1)]) r_141_167 rfl (w32_eq (by omega) (by omega) (by omega)) rfl ?_
        refine gx_st (L' := [(2, 192), (0, (h : Int)), (0, (n : Int)), (0, (p : Int)), (0, (q : Int)), (0, (k : Int) + 1)]) (S' := []) r_141_170 rfl rfl rfl ?_
        rw [show (k : Int) + 1 = ((k + 1 : Nat) : Int) from rfl]
        exact ih (k + 1) (by omega) (by omega)
theorem x_141 (hT : TT T) (hm : Gam m) {h n : Nat} (hh : h < 12) (hn : n = h + 1) (hfs : FS m) (hon : 0 ≤ m 200 (16 * n + 1)) (hat : 0 ≤ m 200 (16 * h)) (hatn : 0 ≤ m 200 (16 * n)) : GX T 4 141 0 [(2, 192), (0, (h : Int)), (9, 0), (9, 0), (9, 0), (9, 0)] [] m (RV (RD n m)) := by
  have bon := gb_200_on hm (h := n) (by omega)
  have bat := gb_200_at hm (h := h) (by omega)
  obtain ⟨b, hb⟩ : ∃ b : Nat, m 200 (16 * n + 1) = (b : Int) := ⟨(m 200 (16 * n + 1)).toNat, by omega⟩
  obtain ⟨p, hp⟩ : ∃ p : Nat, m 200 (16 * h) = (p : Int) := ⟨(m 200 (16 * h)).toNat, by omega⟩
  refine gx_st (L' := [(2, 192), (0, (h : Int)), (9, 0), (9, 0), (9, 0), (9, 0)]) (S' := [(0, (h : Int))]) r_141_0 rfl rfl rfl ?_
  refine gx_st (L' := [(2, 192), (0, (h : Int)), (9, 0), (9, 0), (9, 0), (9, 0)]) (S' := [(0, 1), (0, (h : Int))]) r_141_1 rfl rfl rfl ?_
  refine gx_ar (L' := [(2, 192), (0, (h : Int)), (9, 0), (9, 0), (9, 0), (9, 0)]) (S' := []) (t := 0) (e := w32 ((h : Int) + 1)) (z := (n : Int)) r_141_2 rfl rfl rfl (w32_eq (by omega) (by omega) (by omega)) ?_
  refine gx_st (L' := [(2, 192), (0, (h : Int)), (0, (n : Int)), (9, 0), (9, 0), (9, 0)]) (S' := []) r_141_3 rfl rfl rfl ?_
  refine gx_st (L' := [(2, 192), (0, (h : Int)), (0, (n : Int)), (9, 0), (9, 0), (9, 0)]) (S' := [(2, 192)]) r_141_4 rfl rfl rfl ?_
  refine gx_st (L' := [(2, 192), (0, (h : Int)), (0, (n : Int)), (9, 0), (9, 0), (9, 0)]) (S' := [(0, (h : Int)), (2, 192)]) r_141_5 rfl rfl rfl ?_
  refine gx_st (L' := [(2, 192), (0, (h : Int)), (0, (n : Int)), (9, 0), (9, 0), (9, 0)]) (S' := [(0, 0), (0, (h : Int)), (2, 192)]) r_141_6 rfl rfl rfl ?_
  refine gx_ci (nx := 10) (S2 := []) (x_131 hT hm (h := h) (k := 0) (by omega) (by omega)) r_141_7 rfl rfl rfl rfl rfl (rcv_v rfl (tk_192 hT) (by decide) rfl (by decide)) rfl (by decide) rfl (fun x7 n7 q7 => ?_)
  obtain rfl := q7.1.symm
  obtain rfl := q7.2.symm
  show GX T 4 141 10 [(2, 192), (0, (h : Int)), (0, (n : Int)), (9, 0), (9, 0), (9, 0)] [(0, (m 200 (16 * h + 0)))] m (RV (RD n m))
  rw [show m 200 (16 * h + 0) = (p : Int) from hp]
  show GX T 4 141 10 [(2, 192), (0, (h : Int)), (0, (n : Int)), (9, 0), (9, 0), (9, 0)] [(0, (p : Int))] m (RV (RD n m))
  refine gx_st (L' := [(2, 192), (0, (h : Int)), (0, (n : Int)), (0, (p : Int)), (9, 0), (9, 0)]) (S' := []) r_141_10 rfl rfl rfl ?_
  refine gx_st (L' := [(2, 192), (0, (h : Int)), (0, (n : Int)), (0, (p : Int)), (9, 0), (9, 0)]) (S' := [(2, 192)]) r_141_11 rfl rfl rfl ?_
  refine gx_st (L' := [(2, 192), (0, (h : Int)), (0, (n : Int)), (0, (p : Int)), (9, 0), (9, 0)]) (S' := [(0, (h : Int)), (2, 192)]) r_141_12 rfl rfl rfl ?_
  refine gx_st (L' := [(2, 192), (0, (h : Int)), (0, (n : Int)), (0, (p : Int)), (9, 0), (9, 0)]) (S' := [(0, (p : Int)), (0, (h : Int)), (2, 192)]) r_141_13 rfl rfl rfl ?_
  refine gx_ci (nx := 17) (S2 := []) (x_135 hT hm (h := h) (p := p) (by omega) (by omega)) r_141_14 rfl rfl rfl rfl rfl (rcv_v rfl (tk_192 hT) (by decide) rfl (by decide)) rfl (by decide) rfl (fun x14 n14 q14 => ?_)
  obtain ⟨sy, z14⟩ := q14
  obtain rfl := z14.symm
  show GX T 4 141 17 [(2, 192), (0, (h : Int)), (0, (n : Int)), (0, (p : Int)), (9, 0), (9, 0)] [(0, x14)] m (RV (RD n m))
  refine gx_st (L' := [(2, 192), (0, (h : Int)), (0, (n : Int)), (0, (p : Int)), (0, x14), (9, 0)]) (S' := []) r_141_17 rfl rfl rfl ?_
  refine gx_st (L' := [(2, 192), (0, (h : Int)), (0, (n : Int)), (0, (p : Int)), (0, x14), (9, 0)]) (S' := [(0, x14)]) r_141_19 rfl rfl rfl ?_
  refine gx_st (L' := [(2, 192), (0, (h : Int)), (0, (n : Int)), (0, (p : Int)), (0, x14), (9, 0)]) (S' := [(0, (-1)), (0, x14)]) r_141_21 rfl rfl rfl ?_
  refine gx_ic (P := ¬ x14 = (-1)) r_141_22 (rfl) (fun h22 => ?_) (fun h22 => ?_)
  · obtain ⟨q, hq1, e_x14, hq2⟩ : ∃ q : Nat, q < 5 ∧ x14 = (q : Int) ∧ m 199 (7 * p + (m 193 (31 + 2 * q)).toNat) < FAR := sy.resolve_left h22
    rw [e_x14]
    obtain ⟨t, ht⟩ : ∃ t : Nat, m 193 (31 + 2 * q) = (t : Int) := ⟨(m 193 (31 + 2 * q)).toNat, by have := gb_193_tp hm (k := q) (by omega); omega⟩
    have bt := gb_193_tp hm (k := q) (by omega)
    rw [ht] at bt hq2
    have hq3 : m 199 (7 * p + t) < FAR := hq2
    show GX T 4 141 35 [(2, 192), (0, (h : Int)), (0, (n : Int)), (0, (p : Int)), (0, (q : Int)), (9, 0)] [] m (RV (RD n m))
    refine gx_st (L' := [(2, 192), (0, (h : Int)), (0, (n : Int)), (0, (p : Int)), (0, (q : Int)), (9, 0)]) (S' := [(2, 192)]) r_141_35 rfl rfl rfl ?_
    refine gx_st (L' := [(2, 192), (0, (h : Int)), (0, (n : Int)), (0, (p : Int)), (0, (q : Int)), (9, 0)]) (S' := [(0, (q : Int)), (2, 192)]) r_141_36 rfl rfl rfl ?_
    refine gx_ci (nx := 41) (S2 := []) (x_97 hT hm (k := q) (by omega)) r_141_38 rfl rfl rfl rfl rfl (rcv_v rfl (tk_192 hT) (by decide) rfl (by decide)) rfl (by decide) rfl (fun x38 n38 q38 => ?_)
    obtain rfl := q38.1.symm
    obtain rfl := q38.2.symm
    show GX T 4 141 41 [(2, 192), (0, (h : Int)), (0, (n : Int)), (0, (p : Int)), (0, (q : Int)), (9, 0)] [(0, (m 193 (31 + 2 * q)))] m (RV (RD n m))
    rw [ht]
    show GX T 4 141 41 [(2, 192), (0, (h : Int)), (0, (n : Int)), (0, (p : Int)), (0, (q : Int)), (9, 0)] [(0, (t : Int))] m (RV (RD n m))
    refine gx_st (L' := [(2, 192), (0, (h : Int)), (0, (n : Int)), (0, (p : Int)), (0, (q : Int)), (9, 0)]) (S' := [(0, (p : Int)), (0, (t : Int))]) r_141_41 rfl rfl rfl ?_
    refine gx_ic (P := ¬ (t : Int) = (p : Int)) r_141_42 (rfl) (fun h42 => ?_) (fun h42 => ?_)
    · refine gx_st (L' := [(2, 192), (0, (h : Int)), (0, (n : Int)), (0, (p : Int)), (0, (q : Int)), (9, 0)]) (S' := [(0, 0)]) r_141_125 rfl rfl rfl ?_
      refine gx_st (L' := [(2, 192), (0, (h : Int)), (0, (n : Int)), (0, (p : Int)), (0, (q : Int)), (0, 0)]) (S' := []) r_141_126 rfl rfl rfl ?_
      obtain ⟨c, hc7, hca, hcd⟩ := hfs.2.2.2.2 p t (by omega) (by omega) (by omega) hq3
      have hc1 := hfs.2.2.1 p c (by omega) hc7 hca
      refine eat_l hT hm (by omega) hq1 ht (by omega) hc7 hc1 hcd (fun k hk7 => ?_) (c + 1) 0 (by omega) (by omega)
      refine gx_st (L' := [(2, 192), (0, (h : Int)), (0, (n : Int)), (0, (p : Int)), (0, (q : Int)), (0, (k : Int))]) (S' := [(2, 192)]) r_141_173 rfl rfl rfl ?_
      refine gx_st (L' := [(2, 192), (0, (h : Int)), (0, (n : Int)), (0, (p : Int)), (0, (q : Int)), (0, (k : Int))]) (S' := [(0, (h : Int)), (2, 192)]) r_141_174 rfl rfl rfl ?_
      refine gx_st (L' := [(2, 192), (0, (h : Int)), (0, (n : Int)), (0, (p : Int)), (0, (q : Int)), (0, (k : Int))]) (S' := [(0, (k : Int)), (0, (h : Int)), (2, 192)]) r_141_175 rfl rfl rfl ?_
      refine gx_cv (nx := 180) (S2 := []) (x_139 hT hm hh hn (t := k) hk7 hon) r_141_177 rfl rfl rfl rfl rfl (rcv_v rfl (tk_192 hT) (by decide) rfl (by decide)) rfl (by decide) rfl (fun n177 q177 => ?_)
      exact gx_rt r_141_180 rfl rfl ⟨rfl, RD_tr RowFr_rf Fr_rf q177⟩
    · have h42 := Decidable.not_not.mp h42
      refine gx_st (L' := [(2, 192), (0, (h : Int)), (0, (n : Int)), (0, (p : Int)), (0, (q : Int)), (9, 0)]) (S' := [(2, 192)]) r_141_45 rfl rfl rfl ?_
      refine gx_gf (x := 201) 2 r_141_46 rfl (tk_192 hT) ⟨by decide, rfl, by decide, by decide⟩ rfl (fun _ => by decide) (pr_192_17 hm) ?_
      refine gx_st (L' := [(2, 192), (0, (h : Int)), (0, (n : Int)), (0, (p : Int)), (0, (q : Int)), (9, 0)]) (S' := [(0, (h : Int)), (2, 201)]) r_141_49 rfl rfl rfl ?_
      refine gx_st (L' := [(2, 192), (0, (h : Int)), (0, (n : Int)), (0, (p : Int)), (0, (q : Int)), (9, 0)]) (S' := [(0, 2), (0, (h : Int)), (2, 201)]) r_141_50 rfl rfl rfl ?_
      obtain ⟨m1, e_m1⟩ : ∃ z, z = nu_up m 201 (h) 2 := ⟨_, rfl⟩
      have h_m1 : Gam m1 := by rw [e_m1]; exact gu_201 hm (i := h) (by omega) (by omega)
      have f_m1 : Fr [90021, 90022, 98999, 99999, 100999, 102999] m m1 := Fr_tr Fr_rf (by rw [e_m1]; exact Fr_ua rfl rfl)
      have r_m1 : RowFr n m m1 := by rw [e_m1]; exact RowFr_no RowFr_rf (by decide)
      have aw_m1 : m1 200 (16 * n) = (m 200 (16 * n)) := by rw [e_m1, nu_no (by decide)]
      have ow_m1 : m1 200 (16 * n + 1) = (b : Int) := by rw [e_m1, nu_no (by decide)]; exact hb
      refine gx_is (n := h) (x := 2) r_141_51 rfl (by decide) (tk_201 hT) (by omega) ⟨rfl, by omega⟩ e_m1.symm ?_
      refine gx_st (L' := [(2, 192), (0, (h : Int)), (0, (n : Int)), (0, (p : Int)), (0, (q : Int)), (9, 0)]) (S' := [(2, 192)]) r_141_52 rfl rfl rfl ?_
      refine gx_st (L' := [(2, 192), (0, (h : Int)), (0, (n : Int)), (0, (p : Int)), (0, (q : Int)), (9, 0)]) (S' := [(0, (n : Int)), (2, 192)]) r_141_53 rfl rfl rfl ?_
      refine gx_st (L' := [(2, 192), (0, (h : Int)), (0, (n : Int)), (0, (p : Int)), (0, (q : Int)), (9, 0)]) (S' := [(0, 1), (0, (n : Int)), (2, 192)]) r_141_54 rfl rfl rfl ?_
      refine gx_ci (nx := 58) (S2 := []) (x_131 hT h_m1 (h := n) (k := 1) (by omega) (by omega)) r_141_55 rfl rfl rfl rfl rfl (rcv_v rfl (tk_192 hT) (by decide) rfl (by decide)) rfl (by decide) rfl (fun x55 n55 q55 => ?_)
      obtain rfl := q55.1.symm
      obtain rfl := q55.2.symm
      show GX T 4 141 58 [(2, 192), (0, (h : Int)), (0, (n : Int)), (0, (p : Int)), (0, (q : Int)), (9, 0)] [(0, (m1 200 (16 * n + 1)))] m1 (RV (RD n m))
      rw [ow_m1]
      show GX T 4 141 58 [(2, 192), (0, (h : Int)), (0, (n : Int)), (0, (p : Int)), (0, (q : Int)), (9, 0)] [(0, (b : Int))] m1 (RV (RD n m))
      refine gx_st (L' := [(2, 192), (0, (h : Int)), (0, (n : Int)), (0, (p : Int)), (0, (q : Int)), (0, (b : Int))]) (S' := []) r_141_58 rfl rfl rfl ?_
      refine gx_st (L' := [(2, 192), (0, (h : Int)), (0, (n : Int)), (0, (p : Int)), (0, (q : Int)), (0, (b : Int))]) (S' := [(2, 192)]) r_141_60 rfl rfl rfl ?_
      refine gx_st (L' := [(2, 192), (0, (h : Int)), (0, (n : Int)), (0, (p : Int)), (0, (q : Int)), (0, (b : Int))]) (S' := [(0, (n : Int)), (2, 192)]) r_141_61 rfl rfl rfl ?_
      refine gx_st (L' := [(2, 192), (0, (h : Int)), (0, (n : Int)), (0, (p : Int)), (0, (q : Int)), (0, (b : Int))]) (S' := [(0, 11), (0, (n : Int)), (2, 192)]) r_141_62 rfl rfl rfl ?_
      refine gx_st (L' := [(2, 192), (0, (h : Int)), (0, (n : Int)), (0, (p : Int)), (0, (q : Int)), (0, (b : Int))]) (S' := [(0, (q : Int)), (0, 11), (0, (n : Int)), (2, 192)]) r_141_64 rfl rfl rfl ?_
      refine gx_ar (L' := [(2, 192), (0, (h : Int)), (0, (n : Int)), (0, (p : Int)), (0, (q : Int)), (0, (b : Int))]) (S' := [(0, (n : Int)), (2, 192)]) (t := 0) (e := w32 (11 + (q : Int))) (z := (q : Int) + 11) r_141_66 rfl rfl rfl (w32_eq (by omega) (by omega) (by omega)) ?_
      refine gx_st (L' := [(2, 192), (0, (h : Int)), (0, (n : Int)), (0, (p : Int)), (0, (q : Int)), (0, (b : Int))]) (S' := [(2, 192), (0, (q : Int) + 11), (0, (n : Int)), (2, 192)]) r_141_67 rfl rfl rfl ?_
      refine gx_st (L' := [(2, 192), (0, (h : Int)), (0, (n : Int)), (0, (p : Int)), (0, (q : Int)), (0, (b : Int))]) (S' := [(0, (n : Int)), (2, 192), (0, (q : Int) + 11), (0, (n : Int)), (2, 192)]) r_141_68 rfl rfl rfl ?_
      refine gx_st (L' := [(2, 192), (0, (h : Int)), (0, (n : Int)), (0, (p : Int)), (0, (q : Int)), (0, (b : Int))]) (S' := [(0, 11), (0, (n : Int)), (2, 192), (0, (q : Int) + 11), (0, (n : Int)), (2, 192)]) r_141_69 rfl rfl rfl ?_
      refine gx_st (L' := [(2, 192), (0, (h : Int)), (0, (n : Int)), (0, (p : Int)), (0, (q : Int)), (0, (b : Int))]) (S' := [(0, (q : Int)), (0, 11), (0, (n : Int)), (2, 192), (0, (q : Int) + 11), (0, (n : Int)), (2, 192)]) r_141_71 rfl rfl rfl ?_
      refine gx_ar (L' := [(2, 192), (0, (h : Int)), (0, (n : Int)), (0, (p : Int)), (0, (q : Int)), (0, (b : Int))]) (S' := [(0, (n : Int)), (2, 192), (0, (q : Int) + 11), (0, (n : Int)), (2, 192)]) (t := 0) (e := w32 (11 + (q : Int))) (z := (q : Int) + 11) r_141_73 rfl rfl rfl (w32_eq (by omega) (by omega) (by omega)) ?_
      refine gx_ci (nx := 77) (S2 := [(0, (q : Int) + 11), (0, (n : Int)), (2, 192)]) (x_131 hT h_m1 (h := n) (k := q + 11) (by omega) (by omega)) r_141_74 rfl rfl rfl rfl rfl (rcv_v rfl (tk_192 hT) (by decide) rfl (by decide)) rfl (by decide) rfl (fun x74 n74 q74 => ?_)
      obtain ⟨e_x74, z_x74⟩ := q74
      obtain rfl := z_x74.symm
      have b_x74 := gb_200 h_m1 (i := 16 * (n) + (q + 11)) (by omega)
      rw [← e_x74] at b_x74
      show GX T 4 141 77 [(2, 192), (0, (h : Int)), (0, (n : Int)), (0, (p : Int)), (0, (q : Int)), (0, (b : Int))] [(0, x74), (0, (q : Int) + 11), (0, (n : Int)), (2, 192)] m1 (RV (RD n m))
      refine gx_st (L' := [(2, 192), (0, (h : Int)), (0, (n : Int)), (0, (p : Int)), (0, (q : Int)), (0, (b : Int))]) (S' := [(0, 1), (0, x74), (0, (q : Int) + 11), (0, (n : Int)), (2, 192)]) r_141_77 rfl rfl rfl ?_
      refine gx_st (L' := [(2, 192), (0, (h : Int)), (0, (n : Int)), (0, (p : Int)), (0, (q : Int)), (0, (b : Int))]) (S' := [(0, (w32 (x74 - 1))), (0, (q : Int) + 11), (0, (n : Int)), (2, 192)]) r_141_78 rfl rfl rfl ?_
      have k78 := w32_in (x74 - 1)
      unfold in32 at k78
      refine gx_cv (nx := 82) (S2 := []) (x_132 hT h_m1 (h := n) (k := q + 11) (by omega) (by omega) ((w32 (x74 - 1)))) r_141_79 rfl rfl rfl rfl rfl (rcv_v rfl (tk_192 hT) (by decide) rfl (by decide)) rfl (by decide) rfl (fun n79 q79 => ?_)
      have h_n79 : Gam n79 := by rw [q79]; exact gu_200_x h_m1 (i := 16 * n + (q + 11)) (by omega) (by omega) (by omega) (by omega) (by omega) (by omega)
      have f_n79 : Fr [90021, 90022, 98999, 99999, 100999, 102999] m n79 := Fr_tr f_m1 (by rw [q79]; exact Fr_ua rfl rfl)
      have r_n79 : RowFr n m n79 := by rw [q79]; exact RowFr_up r_m1 (by omega) (by omega)
      have aw_n79 : n79 200 (16 * n) = (m 200 (16 * n)) := by rw [q79, nu_ne (by omega)]; exact aw_m1
      have ow_n79 : n79 200 (16 * n + 1) = (b : Int) := by rw [q79, nu_ne (by omega)]; exact ow_m1
      show GX T 4 141 82 [(2, 192), (0, (h : Int)), (0, (n : Int)), (0, (p : Int)), (0, (q : Int)), (0, (b : Int))] [] n79 (RV (RD n m))
      refine gx_st (L' := [(2, 192), (0, (h : Int)), (0, (n : Int)), (0, (p : Int)), (0, (q : Int)), (0, (b : Int))]) (S' := [(2, 192)]) r_141_82 rfl rfl rfl ?_
      refine gx_st (L' := [(2, 192), (0, (h : Int)), (0, (n : Int)), (0, (p : Int)), (0, (q : Int)), (0, (b : Int))]) (S' := [(0, (n : Int)), (2, 192)]) r_141_83 rfl rfl rfl ?_
      refine gx_st (L' := [(2, 192), (0, (h : Int)), (0, (n : Int)), (0, (p : Int)), (0, (q : Int)), (0, (b : Int))]) (S' := [(0, 2), (0, (n : Int)), (2, 192)]) r_141_84 rfl rfl rfl ?_
      refine gx_st (L' := [(2, 192), (0, (h : Int)), (0, (n : Int)), (0, (p : Int)), (0, (q : Int)), (0, (b : Int))]) (S' := [(2, 192), (0, 2), (0, (n : Int)), (2, 192)]) r_141_85 rfl rfl rfl ?_
      refine gx_st (L' := [(2, 192), (0, (h : Int)), (0, (n : Int)), (0, (p : Int)), (0, (q : Int)), (0, (b : Int))]) (S' := [(0, (n : Int)), (2, 192), (0, 2), (0, (n : Int)), (2, 192)]) r_141_86 rfl rfl rfl ?_
      refine gx_st (L' := [(2, 192), (0, (h : Int)), (0, (n : Int)), (0, (p : Int)), (0, (q : Int)), (0, (b : Int))]) (S' := [(0, 2), (0, (n : Int)), (2, 192), (0, 2), (0, (n : Int)), (2, 192)]) r_141_87 rfl rfl rfl ?_
      refine gx_ci (nx := 91) (S2 := [(0, 2), (0, (n : Int)), (2, 192)]) (x_131 hT h_n79 (h := n) (k := 2) (by omega) (by omega)) r_141_88 rfl rfl rfl rfl rfl (rcv_v rfl (tk_192 hT) (by decide) rfl (by decide)) rfl (by decide) rfl (fun x88 n88 q88 => ?_)
      obtain ⟨e_x88, z_x88⟩ := q88
      obtain rfl := z_x88.symm
      have b_x88 := gb_200 h_n79 (i := 16 * (n) + (2)) (by omega)
      rw [← e_x88] at b_x88
      show GX T 4 141 91 [(2, 192), (0, (h : Int)), (0, (n : Int)), (0, (p : Int)), (0, (q : Int)), (0, (b : Int))] [(0, x88), (0, 2), (0, (n : Int)), (2, 192)] n79 (RV (RD n m))
      refine gx_st (L' := [(2, 192), (0, (h : Int)), (0, (n : Int)), (0, (p : Int)), (0, (q : Int)), (0, (b : Int))]) (S' := [(0, 1), (0, x88), (0, 2), (0, (n : Int)), (2, 192)]) r_141_91 rfl rfl rfl ?_
      refine gx_st (L' := [(2, 192), (0, (h : Int)), (0, (n : Int)), (0, (p : Int)), (0, (q : Int)), (0, (b : Int))]) (S' := [(0, (w32 (x88 + 1))), (0, 2), (0, (n : Int)), (2, 192)]) r_141_92 rfl rfl rfl ?_
      have k92 := w32_in (x88 + 1)
      unfold in32 at k92
      refine gx_cv (nx := 96) (S2 := []) (x_132 hT h_n79 (h := n) (k := 2) (by omega) (by omega) ((w32 (x88 + 1)))) r_141_93 rfl rfl rfl rfl rfl (rcv_v rfl (tk_192 hT) (by decide) rfl (by decide)) rfl (by decide) rfl (fun n93 q93 => ?_)
      have h_n93 : Gam n93 := by rw [q93]; exact gu_200_x h_n79 (i := 16 * n + 2) (by omega) (by omega) (by omega) (by omega) (by omega) (by omega)
      have f_n93 : Fr [90021, 90022, 98999, 99999, 100999, 102999] m n93 := Fr_tr f_n79 (by rw [q93]; exact Fr_ua rfl rfl)
      have r_n93 : RowFr n m n93 := by rw [q93]; exact RowFr_up r_n79 (by omega) (by omega)
      have aw_n93 : n93 200 (16 * n) = (m 200 (16 * n)) := by rw [q93, nu_ne (by omega)]; exact aw_n79
      have ow_n93 : n93 200 (16 * n + 1) = (b : Int) := by rw [q93, nu_ne (by omega)]; exact ow_n79
      show GX T 4 141 96 [(2, 192), (0, (h : Int)), (0, (n : Int)), (0, (p : Int)), (0, (q : Int)), (0, (b : Int))] [] n93 (RV (RD n m))
      refine gx_st (L' := [(2, 192), (0, (h : Int)), (0, (n : Int)), (0, (p : Int)), (0, (q : Int)), (0, (b : Int))]) (S' := [(2, 192)]) r_141_96 rfl rfl rfl ?_
      refine gx_st (L' := [(2, 192), (0, (h : Int)), (0, (n : Int)), (0, (p : Int)), (0, (q : Int)), (0, (b : Int))]) (S' := [(0, (n : Int)), (2, 192)]) r_141_97 rfl rfl rfl ?_
      refine gx_st (L' := [(2, 192), (0, (h : Int)), (0, (n : Int)), (0, (p : Int)), (0, (q : Int)), (0, (b : Int))]) (S' := [(0, 6), (0, (n : Int)), (2, 192)]) r_141_98 rfl rfl rfl ?_
      refine gx_st (L' := [(2, 192), (0, (h : Int)), (0, (n : Int)), (0, (p : Int)), (0, (q : Int)), (0, (b : Int))]) (S' := [(0, (b : Int)), (0, 6), (0, (n : Int)), (2, 192)]) r_141_100 rfl rfl rfl ?_
      refine gx_ar (L' := [(2, 192), (0, (h : Int)), (0, (n : Int)), (0, (p : Int)), (0, (q : Int)), (0, (b : Int))]) (S' := [(0, (n : Int)), (2, 192)]) (t := 0) (e := w32 (6 + (b : Int))) (z := (b : Int) + 6) r_141_102 rfl rfl rfl (w32_eq (by omega) (by omega) (by omega)) ?_
      refine gx_st (L' := [(2, 192), (0, (h : Int)), (0, (n : Int)), (0, (p : Int)), (0, (q : Int)), (0, (b : Int))]) (S' := [(0, 0), (0, (b : Int) + 6), (0, (n : Int)), (2, 192)]) r_141_103 rfl rfl rfl ?_
      refine gx_st (L' := [(2, 192), (0, (h : Int)), (0, (n : Int)), (0, (p : Int)), (0, (q : Int)), (0, (b : Int))]) (S' := [(2, 192), (0, 0), (0, (b : Int) + 6), (0, (n : Int)), (2, 192)]) r_141_104 rfl rfl rfl ?_
      refine gx_st (L' := [(2, 192), (0, (h : Int)), (0, (n : Int)), (0, (p : Int)), (0, (q : Int)), (0, (b : Int))]) (S' := [(0, (n : Int)), (2, 192), (0, 0), (0, (b : Int) + 6), (0, (n : Int)), (2, 192)]) r_141_105 rfl rfl rfl ?_
      refine gx_st (L' := [(2, 192), (0, (h : Int)), (0, (n : Int)), (0, (p : Int)), (0, (q : Int)), (0, (b : Int))]) (S' := [(0, 6), (0, (n : Int)), (2, 192), (0, 0), (0, (b : Int) + 6), (0, (n : Int)), (2, 192)]) r_141_106 rfl rfl rfl ?_
      refine gx_st (L' := [(2, 192), (0, (h : Int)), (0, (n : Int)), (0, (p : Int)), (0, (q : Int)), (0, (b : Int))]) (S' := [(0, (b : Int)), (0, 6), (0, (n : Int)), (2, 192), (0, 0), (0, (b : Int) + 6), (0, (n : Int)), (2, 192)]) r_141_108 rfl rfl rfl ?_
      refine gx_ar (L' := [(2, 192), (0, (h : Int)), (0, (n : Int)), (0, (p : Int)), (0, (q : Int)), (0, (b : Int))]) (S' := [(0, (n : Int)), (2, 192), (0, 0), (0, (b : Int) + 6), (0, (n : Int)), (2, 192)]) (t := 0) (e := w32 (6 + (b : Int))) (z := (b : Int) + 6) r_141_110 rfl rfl rfl (w32_eq (by omega) (by omega) (by omega)) ?_
      refine gx_ci (nx := 114) (S2 := [(0, 0), (0, (b : Int) + 6), (0, (n : Int)), (2, 192)]) (x_131 hT h_n93 (h := n) (k := b + 6) (by omega) (by omega)) r_141_111 rfl rfl rfl rfl rfl (rcv_v rfl (tk_192 hT) (by decide) rfl (by decide)) rfl (by decide) rfl (fun x111 n111 q111 => ?_)
      obtain ⟨e_x111, z_x111⟩ := q111
      obtain rfl := z_x111.symm
      have b_x111 := gb_200 h_n93 (i := 16 * (n) + (b + 6)) (by omega)
      rw [← e_x111] at b_x111
      show GX T 4 141 114 [(2, 192), (0, (h : Int)), (0, (n : Int)), (0, (p : Int)), (0, (q : Int)), (0, (b : Int))] [(0, x111), (0, 0), (0, (b : Int) + 6), (0, (n : Int)), (2, 192)] n93 (RV (RD n m))
      refine gx_st (L' := [(2, 192), (0, (h : Int)), (0, (n : Int)), (0, (p : Int)), (0, (q : Int)), (0, (b : Int))]) (S' := [(0, 3), (0, x111), (0, 0), (0, (b : Int) + 6), (0, (n : Int)), (2, 192)]) r_141_114 rfl rfl rfl ?_
      refine gx_st (L' := [(2, 192), (0, (h : Int)), (0, (n : Int)), (0, (p : Int)), (0, (q : Int)), (0, (b : Int))]) (S' := [(0, (w32 (x111 - 3))), (0, 0), (0, (b : Int) + 6), (0, (n : Int)), (2, 192)]) r_141_115 rfl rfl rfl ?_
      have k115 := w32_in (x111 - 3)
      unfold in32 at k115
      refine gx_st (L' := [(2, 192), (0, (h : Int)), (0, (n : Int)), (0, (p : Int)), (0, (q : Int)), (0, (b : Int))]) (S' := [(0, (max 0 ((w32 (x111 - 3))))), (0, (b : Int) + 6), (0, (n : Int)), (2, 192)]) r_141_116 rfl rfl rfl ?_
      refine gx_cv (nx := 122) (S2 := []) (x_132 hT h_n93 (h := n) (k := b + 6) (by omega) (by omega) ((max 0 ((w32 (x111 - 3)))))) r_141_119 rfl rfl rfl rfl rfl (rcv_v rfl (tk_192 hT) (by decide) rfl (by decide)) rfl (by decide) rfl (fun n119 q119 => ?_)
      have h_n119 : Gam n119 := by rw [q119]; exact gu_200_x h_n93 (i := 16 * n + (b + 6)) (by omega) (by omega) (by omega) (by omega) (by omega) (by omega)
      have f_n119 : Fr [90021, 90022, 98999, 99999, 100999, 102999] m n119 := Fr_tr f_n93 (by rw [q119]; exact Fr_ua rfl rfl)
      have r_n119 : RowFr n m n119 := by rw [q119]; exact RowFr_up r_n93 (by omega) (by omega)
      have aw_n119 : n119 200 (16 * n) = (m 200 (16 * n)) := by rw [q119, nu_ne (by omega)]; exact aw_n93
      have ow_n119 : n119 200 (16 * n + 1) = (b : Int) := by rw [q119, nu_ne (by omega)]; exact ow_n93
      show GX T 4 141 122 [(2, 192), (0, (h : Int)), (0, (n : Int)), (0, (p : Int)), (0, (q : Int)), (0, (b : Int))] [] n119 (RV (RD n m))
      refine gx_st (L' := [(2, 192), (0, (h : Int)), (0, (n : Int)), (0, (p : Int)), (0, (q : Int)), (0, (b : Int))]) (S' := []) r_141_122 rfl rfl rfl ?_
      exact gx_rt r_141_180 rfl rfl ⟨rfl, h_n119, r_n119, Or.inr (by rw [aw_n119] <;> omega), f_n119⟩
  · have h22 := Decidable.not_not.mp h22
    refine gx_st (L' := [(2, 192), (0, (h : Int)), (0, (n : Int)), (0, (p : Int)), (0, x14), (9, 0)]) (S' := [(2, 192)]) r_141_25 rfl rfl rfl ?_
    refine gx_gf (x := 201) 2 r_141_26 rfl (tk_192 hT) ⟨by decide, rfl, by decide, by decide⟩ rfl (fun _ => by decide) (pr_192_17 hm) ?_
    refine gx_st (L' := [(2, 192), (0, (h : Int)), (0, (n : Int)), (0, (p : Int)), (0, x14), (9, 0)]) (S' := [(0, (h : Int)), (2, 201)]) r_141_29 rfl rfl rfl ?_
    refine gx_st (L' := [(2, 192), (0, (h : Int)), (0, (n : Int)), (0, (p : Int)), (0, x14), (9, 0)]) (S' := [(0, 4), (0, (h : Int)), (2, 201)]) r_141_30 rfl rfl rfl ?_
    obtain ⟨m2, e_m2⟩ : ∃ z, z = nu_up m 201 (h) 4 := ⟨_, rfl⟩
    have h_m2 : Gam m2 := by rw [e_m2]; exact gu_201 hm (i := h) (by omega) (by omega)
    have f_m2 : Fr [90021, 90022, 98999, 99999, 100999, 102999] m m2 := Fr_tr Fr_rf (by rw [e_m2]; exact Fr_ua rfl rfl)
    have r_m2 : RowFr n m m2 := by rw [e_m2]; exact RowFr_no RowFr_rf (by decide)
    have aw_m2 : m2 200 (16 * n) = (m 200 (16 * n)) := by rw [e_m2, nu_no (by decide)]
    have ow_m2 : m2 200 (16 * n + 1) = (b : Int) := by rw [e_m2, nu_no (by decide)]; exact hb
    refine gx_is (n := h) (x := 4) r_141_31 rfl (by decide) (tk_201 hT) (by omega) ⟨rfl, by omega⟩ e_m2.symm ?_
    refine gx_st (L' := [(2, 192), (0, (h : Int)), (0, (n : Int)), (0, (p : Int)), (0, x14), (9, 0)]) (S' := []) r_141_32 rfl rfl rfl ?_
    exact gx_rt r_141_180 rfl rfl ⟨rfl, h_m2, r_m2, Or.inr (by rw [aw_m2] <;> omega), f_m2⟩
theorem hour_l (hT : TT T) (hm : Gam m) {Q : AV → Mm → Prop} {h n : Nat} {a v : Int} (hh : h < 12) (hn : n = h + 1) (hout : ∀ mz, Gam mz → RowFr n m mz → Fr [90021, 90022, 98999, 99999, 100999, 102999] m mz → FS mz → (∀ i : Nat, i < 16 → mz 200 (16 * n + i) = m 200 (16 * h + i)) →  GX T 5 142 42 [(2, 192), (0, (h : Int)), (0, a), (0, (n : Int)), (0, v), (0, 16)] [] mz Q) : ∀ (N k : Nat) (mz : Mm), 16 - k < N → k ≤ 16 → Gam mz → RowFr n m mz → Fr [90021, 90022, 98999, 99999, 100999, 102999] m mz → FS mz → (∀ i : Nat, i < k → mz 200 (16 * n + i) = m 200 (16 * h + i)) →  GX T 5 142 15 [(2, 192), (0, (h : Int)), (0, a), (0, (n : Int)), (0, v), (0, (k : Int))] [] mz Q := by
  intro N
  induction N with
  | zero => intro k mz hN; exact absurd hN (Nat.not_lt_zero _)
  | succ N ih =>
    intro k mz hN hk hmz hr hf hs hI
    refine gx_st (L' := [(2, 192), (0, (h : Int)), (0, a), (0, (n : Int)), (0, v), (0, (k : Int))]) (S' := [(0, (k : Int))]) r_142_15 rfl rfl rfl ?_
    refine gx_st (L' := [(2, 192), (0, (h : Int)), (0, a), (0, (n : Int)), (0, v), (0, (k : Int))]) (S' := [(0, 16), (0, (k : Int))]) r_142_17 rfl rfl rfl ?_
    refine gx_ic (P := 16 ≤ (k : Int)) r_142_19 (rfl) (fun h19 => ?_) (fun h19 => ?_)
    · have hk16 : k = 16 := by omega
      rw [hk16] at hI ⊢
      exact hout mz hmz hr hf hs hI
    · refine gx_st (L' := [(2, 192), (0, (h : Int)), (0, a), (0, (n : Int)), (0, v), (0, (k : Int))]) (S' := [(2, 192)]) r_142_22 rfl rfl rfl ?_
      refine gx_st (L' := [(2, 192), (0, (h : Int)), (0, a), (0, (n : Int)), (0, v), (0, (k : Int))]) (S' := [(0, (n : Int)), (2, 192)]) r_142_23 rfl rfl rfl ?_
      refine gx_st (L' := [(2, 192), (0, (h : Int)), (0, a), (0, (n : Int)), (0, v), (0, (k : Int))]) (S' := [(0, (k : Int)), (0, (n : Int)), (2, 192)]) r_142_24 rfl rfl rfl ?_
      refine gx_st (L' := [(2, 192), (0, (h : Int)), (0, a), (0, (n : Int)), (0, v), (0, (k : Int))]) (S' := [(2, 192), (0, (k : Int)), (0, (n : Int)), (2, 192)]) r_142_26 rfl rfl rfl ?_
      refine gx_st (L' := [(2, 192), (0, (h : Int)), (0, a), (0, (n : Int)), (0, v), (0, (k : Int))]) (S' := [(0, (h : Int)), (2, 192), (0, (k : Int)), (0, (n : Int)), (2, 192)]) r_142_27 rfl rfl rfl ?_
      refine gx_st (L' := [(2, 192), (0, (h : Int)), (0, a), (0, (n : Int)), (0, v), (0, (k : Int))]) (S' := [(0, (k : Int)), (0, (h : Int)), (2, 192), (0, (k : Int)), (0, (n : Int)), (2, 192)]) r_142_28 rfl rfl rfl ?_
      refine gx_ci (nx := 33) (S2 := [(0, (k : Int)), (0, (n : Int)), (2, 192)]) (x_131 hT hmz (h := h) (k := k) (by omega) (by omega)) r_142_30 rfl rfl rfl rfl rfl (rcv_v rfl (tk_192 hT) (by decide) rfl (by decide)) rfl (by decide) rfl (fun x30 n30 q30 => ?_)
      obtain rfl := q30.1.symm
      obtain rfl := q30.2.symm
      show GX T 5 142 33 [(2, 192), (0, (h : Int)), (0, a), (0, (n : Int)), (0, v), (0, (k : Int))] [(0, (mz 200 (16 * h + k))), (0, (k : Int)), (0, (n : Int)), (2, 192)] mz Q
      rw [hr (16 * h + k) (by omega)]
      show GX T 5 142 33 [(2, 192), (0, (h : Int)), (0, a), (0, (n : Int)), (0, v), (0, (k : Int))] [(0, (m 200 (16 * h + k))), (0, (k : Int)), (0, (n : Int)), (2, 192)] mz Q
      refine gx_cv (nx := 36) (S2 := []) (x_132 hT hmz (h := n) (k := k) (by omega) (by omega) (m 200 (16 * h + k))) r_142_33 rfl rfl rfl rfl rfl (rcv_v rfl (tk_192 hT) (by decide) rfl (by decide)) rfl (by decide) rfl (fun n33 q33 => ?_)
      have h_n33 : Gam n33 := by rw [q33]; exact gu_200_cp hm hmz (by omega) (by omega) (by omega)
      have r_n33 : RowFr n m n33 := by rw [q33]; exact RowFr_up hr (by omega) rfl
      have f_n33 : Fr [90021, 90022, 98999, 99999, 100999, 102999] m n33 := Fr_tr hf (by rw [q33]; exact Fr_ua rfl rfl)
      have s_n33 : FS n33 := FS_fr (W := [98999]) (by rw [q33]; exact Fr_ua rfl rfl) (by decide) hs
      show GX T 5 142 36 [(2, 192), (0, (h : Int)), (0, a), (0, (n : Int)), (0, v), (0, (k : Int))] [] n33 Q
      refine gx_li (z := (k : Int) + 1) (L' := [(2, 192), (0, (h : Int)), (0, a), (0, (n : Int)), (0, v), (0, (k : Int) + 1)]) r_142_36 rfl (w32_eq (by omega) (by omega) (by omega)) rfl ?_
      refine gx_st (L' := [(2, 192), (0, (h : Int)), (0, a), (0, (n : Int)), (0, v), (0, (k : Int) + 1)]) (S' := []) r_142_39 rfl rfl rfl ?_
      rw [show (k : Int) + 1 = ((k + 1 : Nat) : Int) from rfl]
      refine ih (k + 1) n33 (by omega) (by omega) h_n33 r_n33 f_n33 s_n33 (fun i hi => ?_)
      rw [q33]
      by_cases e : i = k
      · rw [e, nu_at]
      · rw [nu_ne (by omega)]
        exact hI i (by omega)
theorem x_142 (h136 : ConH T cn_136) (hT : TT T) (hm : Gam m) {h n : Nat} (hh : h < 12) (hn : n = h + 1) (hfs : FS m) {a : Int} (ha1 : 0 ≤ a) (ha2 : a ≤ 16) (hrow : m 200 (16 * h + 1) = -1 ∨ 0 ≤ m 200 (16 * h)) : GX T 5 142 0 [(2, 192), (0, (h : Int)), (0, a), (9, 0), (9, 0), (9, 0)] [] m (RV (RD n m)) := by
  have bon := gb_200_on hm (h := h) (by omega)
  refine gx_st (L' := [(2, 192), (0, (h : Int)), (0, a), (9, 0), (9, 0), (9, 0)]) (S' := [(0, (h : Int))]) r_142_0 rfl rfl rfl ?_
  refine gx_st (L' := [(2, 192), (0, (h : Int)), (0, a), (9, 0), (9, 0), (9, 0)]) (S' := [(0, 1), (0, (h : Int))]) r_142_1 rfl rfl rfl ?_
  refine gx_ar (L' := [(2, 192), (0, (h : Int)), (0, a), (9, 0), (9, 0), (9, 0)]) (S' := []) (t := 0) (e := w32 ((h : Int) + 1)) (z := (n : Int)) r_142_2 rfl rfl rfl (w32_eq (by omega) (by omega) (by omega)) ?_
  refine gx_st (L' := [(2, 192), (0, (h : Int)), (0, a), (0, (n : Int)), (9, 0), (9, 0)]) (S' := []) r_142_3 rfl rfl rfl ?_
  refine gx_st (L' := [(2, 192), (0, (h : Int)), (0, a), (0, (n : Int)), (9, 0), (9, 0)]) (S' := [(2, 192)]) r_142_4 rfl rfl rfl ?_
  refine gx_st (L' := [(2, 192), (0, (h : Int)), (0, a), (0, (n : Int)), (9, 0), (9, 0)]) (S' := [(0, (h : Int)), (2, 192)]) r_142_5 rfl rfl rfl ?_
  refine gx_st (L' := [(2, 192), (0, (h : Int)), (0, a), (0, (n : Int)), (9, 0), (9, 0)]) (S' := [(0, a), (0, (h : Int)), (2, 192)]) r_142_6 rfl rfl rfl ?_
  refine gx_ci (nx := 10) (S2 := []) (x_137 hT h136 hm (h := h) (by omega) (a := a) ha1 ha2 hrow) r_142_7 rfl rfl rfl rfl rfl (rcv_v rfl (tk_192 hT) (by decide) rfl (by decide)) rfl (by decide) rfl (fun x7 n7 q7 => ?_)
  obtain ⟨⟨cv, cw⟩, z7⟩ := q7
  obtain rfl := z7.symm
  show GX T 5 142 10 [(2, 192), (0, (h : Int)), (0, a), (0, (n : Int)), (9, 0), (9, 0)] [(0, x7)] m (RV (RD n m))
  refine gx_st (L' := [(2, 192), (0, (h : Int)), (0, a), (0, (n : Int)), (0, x7), (9, 0)]) (S' := []) r_142_10 rfl rfl rfl ?_
  refine gx_st (L' := [(2, 192), (0, (h : Int)), (0, a), (0, (n : Int)), (0, x7), (9, 0)]) (S' := [(0, 0)]) r_142_12 rfl rfl rfl ?_
  refine gx_st (L' := [(2, 192), (0, (h : Int)), (0, a), (0, (n : Int)), (0, x7), (0, 0)]) (S' := []) r_142_13 rfl rfl rfl ?_
  refine hour_l hT hm hh hn (fun mz hmz hr hf hs hI => ?_) 17 0 m (by omega) (by omega) hm RowFr_rf Fr_rf hfs (fun i hi => absurd hi (Nat.not_lt_zero _))
  have aw0 : mz 200 (16 * n) = m 200 (16 * h) := hI 0 (by omega)
  have ow0 : mz 200 (16 * n + 1) = m 200 (16 * h + 1) := hI 1 (by omega)
  refine gx_st (L' := [(2, 192), (0, (h : Int)), (0, a), (0, (n : Int)), (0, x7), (0, 16)]) (S' := [(2, 192)]) r_142_42 rfl rfl rfl ?_
  refine gx_gf (x := 201) 2 r_142_43 rfl (tk_192 hT) ⟨by decide, rfl, by decide, by decide⟩ rfl (fun _ => by decide) (pr_192_17 hmz) ?_
  refine gx_st (L' := [(2, 192), (0, (h : Int)), (0, a), (0, (n : Int)), (0, x7), (0, 16)]) (S' := [(0, (h : Int)), (2, 201)]) r_142_46 rfl rfl rfl ?_
  refine gx_st (L' := [(2, 192), (0, (h : Int)), (0, a), (0, (n : Int)), (0, x7), (0, 16)]) (S' := [(0, 0), (0, (h : Int)), (2, 201)]) r_142_47 rfl rfl rfl ?_
  obtain ⟨m1, e_m1⟩ : ∃ z, z = nu_up mz 201 (h) 0 := ⟨_, rfl⟩
  have h_m1 : Gam m1 := by rw [e_m1]; exact gu_201 hmz (i := h) (by omega) (by omega)
  have f_m1 : Fr [90021, 90022, 98999, 99999, 100999, 102999] m m1 := Fr_tr hf (by rw [e_m1]; exact Fr_ua rfl rfl)
  have s_m1 : FS m1 := FS_fr (W := [99999]) (by rw [e_m1]; exact Fr_ua rfl rfl) (by decide) hs
  have r_m1 : RowFr n m m1 := by rw [e_m1]; exact RowFr_no hr (by decide)
  have aw_m1 : m1 200 (16 * n) = (m 200 (16 * h)) := by rw [e_m1, nu_no (by decide)]; exact aw0
  have ow_m1 : m1 200 (16 * n + 1) = (m 200 (16 * h + 1)) := by rw [e_m1, nu_no (by decide)]; exact ow0
  refine gx_is (n := h) (x := 0) r_142_48 rfl (by decide) (tk_201 hT) (by omega) ⟨rfl, by omega⟩ e_m1.symm ?_
  refine gx_st (L' := [(2, 192), (0, (h : Int)), (0, a), (0, (n : Int)), (0, x7), (0, 16)]) (S' := [(2, 192)]) r_142_49 rfl rfl rfl ?_
  refine gx_gf (x := 202) 2 r_142_50 rfl (tk_192 hT) ⟨by decide, rfl, by decide, by decide⟩ rfl (fun _ => by decide) (pr_192_18 h_m1) ?_
  refine gx_st (L' := [(2, 192), (0, (h : Int)), (0, a), (0, (n : Int)), (0, x7), (0, 16)]) (S' := [(0, (h : Int)), (2, 202)]) r_142_53 rfl rfl rfl ?_
  refine gx_st (L' := [(2, 192), (0, (h : Int)), (0, a), (0, (n : Int)), (0, x7), (0, 16)]) (S' := [(0, 0), (0, (h : Int)), (2, 202)]) r_142_54 rfl rfl rfl ?_
  obtain ⟨m2, e_m2⟩ : ∃ z, z = nu_up m1 202 (h) 0 := ⟨_, rfl⟩
  have h_m2 : Gam m2 := by rw [e_m2]; exact gu_202 h_m1 (i := h) (by omega) (by omega)
  have f_m2 : Fr [90021, 90022, 98999, 99999, 100999, 102999] m m2 := Fr_tr f_m1 (by rw [e_m2]; exact Fr_ua rfl rfl)
  have s_m2 : FS m2 := FS_fr (W := [100999]) (by rw [e_m2]; exact Fr_ua rfl rfl) (by decide) s_m1
  have r_m2 : RowFr n m m2 := by rw [e_m2]; exact RowFr_no r_m1 (by decide)
  have aw_m2 : m2 200 (16 * n) = (m 200 (16 * h)) := by rw [e_m2, nu_no (by decide)]; exact aw_m1
  have ow_m2 : m2 200 (16 * n + 1) = (m 200 (16 * h + 1)) := by rw [e_m2, nu_no (by decide)]; exact ow_m1
  refine gx_is (n := h) (x := 0) r_142_55 rfl (by decide) (tk_202 hT) (by omega) ⟨rfl, by omega⟩ e_m2.symm ?_
  refine gx_st (L' := [(2, 192), (0, (h : Int)), (0, a), (0, (n : Int)), (0, x7), (0, 16)]) (S' := [(2, 192)]) r_142_56 rfl rfl rfl ?_
  refine gx_st (L' := [(2, 192), (0, (h : Int)), (0, a), (0, (n : Int)), (0, x7), (0, 16)]) (S' := [(0, (h : Int)), (2, 192)]) r_142_57 rfl rfl rfl ?_
  refine gx_st (L' := [(2, 192), (0, (h : Int)), (0, a), (0, (n : Int)), (0, x7), (0, 16)]) (S' := [(0, 1), (0, (h : Int)), (2, 192)]) r_142_58 rfl rfl rfl ?_
  refine gx_ci (nx := 62) (S2 := []) (x_131 hT h_m2 (h := h) (k := 1) (by omega) (by omega)) r_142_59 rfl rfl rfl rfl rfl (rcv_v rfl (tk_192 hT) (by decide) rfl (by decide)) rfl (by decide) rfl (fun x59 n59 q59 => ?_)
  obtain ⟨e_x59, z_x59⟩ := q59
  obtain rfl := z_x59.symm
  have b_x59 : -1 ≤ x59 ∧ x59 ≤ 4 := by rw [e_x59]; exact gb_200_on h_m2 (h := h) (by omega)
  show GX T 5 142 62 [(2, 192), (0, (h : Int)), (0, a), (0, (n : Int)), (0, x7), (0, 16)] [(0, x59)] m2 (RV (RD n m))
  have g_x59 : x59 = m 200 (16 * h + 1) := e_x59.trans (r_m2 (16 * h + 1) (by omega))
  refine gx_st (L' := [(2, 192), (0, (h : Int)), (0, a), (0, (n : Int)), (0, x7), (0, 16)]) (S' := [(0, (-1)), (0, x59)]) r_142_62 rfl rfl rfl ?_
  refine gx_ic (P := ¬ x59 = (-1)) r_142_63 (rfl) (fun h63 => ?_) (fun h63 => ?_)
  · have hat : 0 ≤ m 200 (16 * h) := hrow.resolve_left (by omega)
    refine gx_st (L' := [(2, 192), (0, (h : Int)), (0, a), (0, (n : Int)), (0, x7), (0, 16)]) (S' := [(2, 192)]) r_142_67 rfl rfl rfl ?_
    refine gx_st (L' := [(2, 192), (0, (h : Int)), (0, a), (0, (n : Int)), (0, x7), (0, 16)]) (S' := [(0, (h : Int)), (2, 192)]) r_142_68 rfl rfl rfl ?_
    refine gx_st (L' := [(2, 192), (0, (h : Int)), (0, a), (0, (n : Int)), (0, x7), (0, 16)]) (S' := [(0, 3), (0, (h : Int)), (2, 192)]) r_142_69 rfl rfl rfl ?_
    refine gx_ci (nx := 73) (S2 := []) (x_131 hT h_m2 (h := h) (k := 3) (by omega) (by omega)) r_142_70 rfl rfl rfl rfl rfl (rcv_v rfl (tk_192 hT) (by decide) rfl (by decide)) rfl (by decide) rfl (fun x70 n70 q70 => ?_)
    obtain ⟨e_x70, z_x70⟩ := q70
    obtain rfl := z_x70.symm
    have b_x70 : 0 ≤ x70 ∧ x70 ≤ 3 := by rw [e_x70]; exact gb_200_dr h_m2 (h := h) (by omega)
    show GX T 5 142 73 [(2, 192), (0, (h : Int)), (0, a), (0, (n : Int)), (0, x7), (0, 16)] [(0, x70)] m2 (RV (RD n m))
    have g_x70 : x70 = m 200 (16 * h + 3) := e_x70.trans (r_m2 (16 * h + 3) (by omega))
    refine gx_st (L' := [(2, 192), (0, (h : Int)), (0, a), (0, (n : Int)), (0, x7), (0, x70)]) (S' := []) r_142_73 rfl rfl rfl ?_
    refine gx_st (L' := [(2, 192), (0, (h : Int)), (0, a), (0, (n : Int)), (0, x7), (0, x70)]) (S' := [(0, x7)]) r_142_75 rfl rfl rfl ?_
    refine gx_i0 (P := x7 = 0) r_142_77 (rfl) (fun h77 => ?_) (fun h77 => ?_)
    · refine gx_st (L' := [(2, 192), (0, (h : Int)), (0, a), (0, (n : Int)), (0, x7), (0, x70)]) (S' := [(2, 192)]) r_142_109 rfl rfl rfl ?_
      refine gx_gf (x := 202) 2 r_142_110 rfl (tk_192 hT) ⟨by decide, rfl, by decide, by decide⟩ rfl (fun _ => by decide) (pr_192_18 h_m2) ?_
      refine gx_st (L' := [(2, 192), (0, (h : Int)), (0, a), (0, (n : Int)), (0, x7), (0, x70)]) (S' := [(0, (h : Int)), (2, 202)]) r_142_113 rfl rfl rfl ?_
      refine gx_st (L' := [(2, 192), (0, (h : Int)), (0, a), (0, (n : Int)), (0, x7), (0, x70)]) (S' := [(0, x70), (0, (h : Int)), (2, 202)]) r_142_114 rfl rfl rfl ?_
      refine gx_i0 (P := x70 ≤ 0) r_142_116 (rfl) (fun h116 => ?_) (fun h116 => ?_)
      · refine gx_st (L' := [(2, 192), (0, (h : Int)), (0, a), (0, (n : Int)), (0, x7), (0, x70)]) (S' := [(0, 0), (0, (h : Int)), (2, 202)]) r_142_123 rfl rfl rfl ?_
        obtain ⟨m3, e_m3⟩ : ∃ z, z = nu_up m2 202 (h) 0 := ⟨_, rfl⟩
        have h_m3 : Gam m3 := by rw [e_m3]; exact gu_202 h_m2 (i := h) (by omega) (by omega)
        have f_m3 : Fr [90021, 90022, 98999, 99999, 100999, 102999] m m3 := Fr_tr f_m2 (by rw [e_m3]; exact Fr_ua rfl rfl)
        have s_m3 : FS m3 := FS_fr (W := [100999]) (by rw [e_m3]; exact Fr_ua rfl rfl) (by decide) s_m2
        have r_m3 : RowFr n m m3 := by rw [e_m3]; exact RowFr_no r_m2 (by decide)
        have aw_m3 : m3 200 (16 * n) = (m 200 (16 * h)) := by rw [e_m3, nu_no (by decide)]; exact aw_m2
        have ow_m3 : m3 200 (16 * n + 1) = (m 200 (16 * h + 1)) := by rw [e_m3, nu_no (by decide)]; exact ow_m2
        refine gx_is (n := h) (x := 0) r_142_124 rfl (by decide) (tk_202 hT) (by omega) ⟨rfl, by omega⟩ e_m3.symm ?_
        refine gx_st (L' := [(2, 192), (0, (h : Int)), (0, a), (0, (n : Int)), (0, x7), (0, x70)]) (S' := [(2, 192)]) r_142_125 rfl rfl rfl ?_
        refine gx_st (L' := [(2, 192), (0, (h : Int)), (0, a), (0, (n : Int)), (0, x7), (0, x70)]) (S' := [(0, (n : Int)), (2, 192)]) r_142_126 rfl rfl rfl ?_
        refine gx_st (L' := [(2, 192), (0, (h : Int)), (0, a), (0, (n : Int)), (0, x7), (0, x70)]) (S' := [(0, 3), (0, (n : Int)), (2, 192)]) r_142_127 rfl rfl rfl ?_
        refine gx_st (L' := [(2, 192), (0, (h : Int)), (0, a), (0, (n : Int)), (0, x7), (0, x70)]) (S' := [(0, 0), (0, 3), (0, (n : Int)), (2, 192)]) r_142_128 rfl rfl rfl ?_
        refine gx_st (L' := [(2, 192), (0, (h : Int)), (0, a), (0, (n : Int)), (0, x7), (0, x70)]) (S' := [(0, x70), (0, 0), (0, 3), (0, (n : Int)), (2, 192)]) r_142_129 rfl rfl rfl ?_
        refine gx_st (L' := [(2, 192), (0, (h : Int)), (0, a), (0, (n : Int)), (0, x7), (0, x70)]) (S' := [(0, 1), (0, x70), (0, 0), (0, 3), (0, (n : Int)), (2, 192)]) r_142_131 rfl rfl rfl ?_
        refine gx_ar (L' := [(2, 192), (0, (h : Int)), (0, a), (0, (n : Int)), (0, x7), (0, x70)]) (S' := [(0, 0), (0, 3), (0, (n : Int)), (2, 192)]) (t := 0) (e := w32 (x70 - 1)) (z := x70 - 1) r_142_132 rfl rfl rfl (w32_eq (by omega) (by omega) (by omega)) ?_
        refine gx_st (L' := [(2, 192), (0, (h : Int)), (0, a), (0, (n : Int)), (0, x7), (0, x70)]) (S' := [(0, (max 0 (x70 - 1))), (0, 3), (0, (n : Int)), (2, 192)]) r_142_133 rfl rfl rfl ?_
        refine gx_cv (nx := 139) (S2 := []) (x_132 hT h_m3 (h := n) (k := 3) (by omega) (by omega) ((max 0 (x70 - 1)))) r_142_136 rfl rfl rfl rfl rfl (rcv_v rfl (tk_192 hT) (by decide) rfl (by decide)) rfl (by decide) rfl (fun n136 q136 => ?_)
        have h_n136 : Gam n136 := by rw [q136]; exact gu_200_dr h_m3 (h := n) (by omega) (by omega) (by omega)
        have f_n136 : Fr [90021, 90022, 98999, 99999, 100999, 102999] m n136 := Fr_tr f_m3 (by rw [q136]; exact Fr_ua rfl rfl)
        have r_n136 : RowFr n m n136 := by rw [q136]; exact RowFr_up r_m3 (by omega) (by omega)
        have aw_n136 : n136 200 (16 * n) = (m 200 (16 * h)) := by rw [q136, nu_ne (by omega)]; exact aw_m3
        have ow_n136 : n136 200 (16 * n + 1) = (m 200 (16 * h + 1)) := by rw [q136, nu_ne (by omega)]; exact ow_m3
        have s_n136 : FS n136 := FS_fr (W := [98999]) (by rw [q136]; exact Fr_ua rfl rfl) (by decide) s_m3
        show GX T 5 142 139 [(2, 192), (0, (h : Int)), (0, a), (0, (n : Int)), (0, x7), (0, x70)] [] n136 (RV (RD n m))
        refine gx_st (L' := [(2, 192), (0, (h : Int)), (0, a), (0, (n : Int)), (0, x7), (0, x70)]) (S' := [(0, x70)]) r_142_139 rfl rfl rfl ?_
        refine gx_i0 (P := ¬ x70 = 0) r_142_141 (rfl) (fun h141 => ?_) (fun h141 => ?_)
        · refine gx_st (L' := [(2, 192), (0, (h : Int)), (0, a), (0, (n : Int)), (0, x7), (0, x70)]) (S' := [(0, x7)]) r_142_152 rfl rfl rfl ?_
          refine gx_i0 (P := x7 = 0) r_142_154 (rfl) (fun h154 => ?_) (fun h154 => ?_)
          · refine gx_st (L' := [(2, 192), (0, (h : Int)), (0, a), (0, (n : Int)), (0, x7), (0, x70)]) (S' := [(0, x7)]) r_142_178 rfl rfl rfl ?_
            refine gx_i0 (P := x7 = 0) r_142_180 (rfl) (fun h180 => ?_) (fun h180 => ?_)
            · refine gx_st (L' := [(2, 192), (0, (h : Int)), (0, a), (0, (n : Int)), (0, x7), (0, x70)]) (S' := [(2, 192)]) r_142_201 rfl rfl rfl ?_
              refine gx_gf (x := 201) 2 r_142_202 rfl (tk_192 hT) ⟨by decide, rfl, by decide, by decide⟩ rfl (fun _ => by decide) (pr_192_17 h_n136) ?_
              refine gx_st (L' := [(2, 192), (0, (h : Int)), (0, a), (0, (n : Int)), (0, x7), (0, x70)]) (S' := [(0, (h : Int)), (2, 201)]) r_142_205 rfl rfl rfl ?_
              refine gx_st (L' := [(2, 192), (0, (h : Int)), (0, a), (0, (n : Int)), (0, x7), (0, x70)]) (S' := [(0, 1), (0, (h : Int)), (2, 201)]) r_142_206 rfl rfl rfl ?_
              obtain ⟨m4, e_m4⟩ : ∃ z, z = nu_up n136 201 (h) 1 := ⟨_, rfl⟩
              have h_m4 : Gam m4 := by rw [e_m4]; exact gu_201 h_n136 (i := h) (by omega) (by omega)
              have f_m4 : Fr [90021, 90022, 98999, 99999, 100999, 102999] m m4 := Fr_tr f_n136 (by rw [e_m4]; exact Fr_ua rfl rfl)
              have s_m4 : FS m4 := FS_fr (W := [99999]) (by rw [e_m4]; exact Fr_ua rfl rfl) (by decide) s_n136
              have r_m4 : RowFr n m m4 := by rw [e_m4]; exact RowFr_no r_n136 (by decide)
              have aw_m4 : m4 200 (16 * n) = (m 200 (16 * h)) := by rw [e_m4, nu_no (by decide)]; exact aw_n136
              have ow_m4 : m4 200 (16 * n + 1) = (m 200 (16 * h + 1)) := by rw [e_m4, nu_no (by decide)]; exact ow_n136
              refine gx_is (n := h) (x := 1) r_142_207 rfl (by decide) (tk_201 hT) (by omega) ⟨rfl, by omega⟩ e_m4.symm ?_
              exact gx_rt r_142_208 rfl rfl ⟨rfl, h_m4, r_m4, Or.inr (by rw [aw_m4] <;> omega), f_m4⟩
            · refine gx_st (L' := [(2, 192), (0, (h : Int)), (0, a), (0, (n : Int)), (0, x7), (0, x70)]) (S' := [(0, a)]) r_142_183 rfl rfl rfl ?_
              refine gx_st (L' := [(2, 192), (0, (h : Int)), (0, a), (0, (n : Int)), (0, x7), (0, x70)]) (S' := [(0, 10), (0, a)]) r_142_184 rfl rfl rfl ?_
              refine gx_ic (P := a < 10) r_142_186 (rfl) (fun h186 => ?_) (fun h186 => ?_)
              · refine gx_st (L' := [(2, 192), (0, (h : Int)), (0, a), (0, (n : Int)), (0, x7), (0, x70)]) (S' := [(2, 192)]) r_142_201 rfl rfl rfl ?_
                refine gx_gf (x := 201) 2 r_142_202 rfl (tk_192 hT) ⟨by decide, rfl, by decide, by decide⟩ rfl (fun _ => by decide) (pr_192_17 h_n136) ?_
                refine gx_st (L' := [(2, 192), (0, (h : Int)), (0, a), (0, (n : Int)), (0, x7), (0, x70)]) (S' := [(0, (h : Int)), (2, 201)]) r_142_205 rfl rfl rfl ?_
                refine gx_st (L' := [(2, 192), (0, (h : Int)), (0, a), (0, (n : Int)), (0, x7), (0, x70)]) (S' := [(0, 1), (0, (h : Int)), (2, 201)]) r_142_206 rfl rfl rfl ?_
                obtain ⟨m5, e_m5⟩ : ∃ z, z = nu_up n136 201 (h) 1 := ⟨_, rfl⟩
                have h_m5 : Gam m5 := by rw [e_m5]; exact gu_201 h_n136 (i := h) (by omega) (by omega)
                have f_m5 : Fr [90021, 90022, 98999, 99999, 100999, 102999] m m5 := Fr_tr f_n136 (by rw [e_m5]; exact Fr_ua rfl rfl)
                have s_m5 : FS m5 := FS_fr (W := [99999]) (by rw [e_m5]; exact Fr_ua rfl rfl) (by decide) s_n136
                have r_m5 : RowFr n m m5 := by rw [e_m5]; exact RowFr_no r_n136 (by decide)
                have aw_m5 : m5 200 (16 * n) = (m 200 (16 * h)) := by rw [e_m5, nu_no (by decide)]; exact aw_n136
                have ow_m5 : m5 200 (16 * n + 1) = (m 200 (16 * h + 1)) := by rw [e_m5, nu_no (by decide)]; exact ow_n136
                refine gx_is (n := h) (x := 1) r_142_207 rfl (by decide) (tk_201 hT) (by omega) ⟨rfl, by omega⟩ e_m5.symm ?_
                exact gx_rt r_142_208 rfl rfl ⟨rfl, h_m5, r_m5, Or.inr (by rw [aw_m5] <;> omega), f_m5⟩
              · obtain ⟨t, ht⟩ : ∃ t : Nat, a = 10 + (t : Int) := ⟨(a - 10).toNat, by omega⟩
                refine gx_st (L' := [(2, 192), (0, (h : Int)), (0, a), (0, (n : Int)), (0, x7), (0, x70)]) (S' := [(2, 192)]) r_142_189 rfl rfl rfl ?_
                refine gx_st (L' := [(2, 192), (0, (h : Int)), (0, a), (0, (n : Int)), (0, x7), (0, x70)]) (S' := [(0, (h : Int)), (2, 192)]) r_142_190 rfl rfl rfl ?_
                refine gx_st (L' := [(2, 192), (0, (h : Int)), (0, a), (0, (n : Int)), (0, x7), (0, x70)]) (S' := [(0, a), (0, (h : Int)), (2, 192)]) r_142_191 rfl rfl rfl ?_
                refine gx_st (L' := [(2, 192), (0, (h : Int)), (0, a), (0, (n : Int)), (0, x7), (0, x70)]) (S' := [(0, 10), (0, a), (0, (h : Int)), (2, 192)]) r_142_192 rfl rfl rfl ?_
                refine gx_ar (L' := [(2, 192), (0, (h : Int)), (0, a), (0, (n : Int)), (0, x7), (0, x70)]) (S' := [(0, (h : Int)), (2, 192)]) (t := 0) (e := w32 (a - 10)) (z := (t : Int)) r_142_194 rfl rfl rfl (w32_eq (by omega) (by omega) (by omega)) ?_
                refine gx_cv (nx := 198) (S2 := []) (x_139 hT h_n136 hh hn (t := t) (by omega) (by rw [ow_n136]; omega)) r_142_195 rfl rfl rfl rfl rfl (rcv_v rfl (tk_192 hT) (by decide) rfl (by decide)) rfl (by decide) rfl (fun n195 q195 => ?_)
                refine gx_st (L' := [(2, 192), (0, (h : Int)), (0, a), (0, (n : Int)), (0, x7), (0, x70)]) (S' := []) r_142_198 rfl rfl rfl ?_
                exact gx_rt r_142_208 rfl rfl ⟨rfl, RD_tr r_n136 f_n136 q195⟩
          · refine gx_st (L' := [(2, 192), (0, (h : Int)), (0, a), (0, (n : Int)), (0, x7), (0, x70)]) (S' := [(0, a)]) r_142_157 rfl rfl rfl ?_
            refine gx_st (L' := [(2, 192), (0, (h : Int)), (0, a), (0, (n : Int)), (0, x7), (0, x70)]) (S' := [(0, 2), (0, a)]) r_142_158 rfl rfl rfl ?_
            refine gx_ic (P := ¬ a = 2) r_142_159 (rfl) (fun h159 => ?_) (fun h159 => ?_)
            · refine gx_st (L' := [(2, 192), (0, (h : Int)), (0, a), (0, (n : Int)), (0, x7), (0, x70)]) (S' := [(0, x7)]) r_142_178 rfl rfl rfl ?_
              refine gx_i0 (P := x7 = 0) r_142_180 (rfl) (fun h180 => ?_) (fun h180 => ?_)
              · refine gx_st (L' := [(2, 192), (0, (h : Int)), (0, a), (0, (n : Int)), (0, x7), (0, x70)]) (S' := [(2, 192)]) r_142_201 rfl rfl rfl ?_
                refine gx_gf (x := 201) 2 r_142_202 rfl (tk_192 hT) ⟨by decide, rfl, by decide, by decide⟩ rfl (fun _ => by decide) (pr_192_17 h_n136) ?_
                refine gx_st (L' := [(2, 192), (0, (h : Int)), (0, a), (0, (n : Int)), (0, x7), (0, x70)]) (S' := [(0, (h : Int)), (2, 201)]) r_142_205 rfl rfl rfl ?_
                refine gx_st (L' := [(2, 192), (0, (h : Int)), (0, a), (0, (n : Int)), (0, x7), (0, x70)]) (S' := [(0, 1), (0, (h : Int)), (2, 201)]) r_142_206 rfl rfl rfl ?_
                obtain ⟨m6, e_m6⟩ : ∃ z, z = nu_up n136 201 (h) 1 := ⟨_, rfl⟩
                have h_m6 : Gam m6 := by rw [e_m6]; exact gu_201 h_n136 (i := h) (by omega) (by omega)
                have f_m6 : Fr [90021, 90022, 98999, 99999, 100999, 102999] m m6 := Fr_tr f_n136 (by rw [e_m6]; exact Fr_ua rfl rfl)
                have s_m6 : FS m6 := FS_fr (W := [99999]) (by rw [e_m6]; exact Fr_ua rfl rfl) (by decide) s_n136
                have r_m6 : RowFr n m m6 := by rw [e_m6]; exact RowFr_no r_n136 (by decide)
                have aw_m6 : m6 200 (16 * n) = (m 200 (16 * h)) := by rw [e_m6, nu_no (by decide)]; exact aw_n136
                have ow_m6 : m6 200 (16 * n + 1) = (m 200 (16 * h + 1)) := by rw [e_m6, nu_no (by decide)]; exact ow_n136
                refine gx_is (n := h) (x := 1) r_142_207 rfl (by decide) (tk_201 hT) (by omega) ⟨rfl, by omega⟩ e_m6.symm ?_
                exact gx_rt r_142_208 rfl rfl ⟨rfl, h_m6, r_m6, Or.inr (by rw [aw_m6] <;> omega), f_m6⟩
              · refine gx_st (L' := [(2, 192), (0, (h : Int)), (0, a), (0, (n : Int)), (0, x7), (0, x70)]) (S' := [(0, a)]) r_142_183 rfl rfl rfl ?_
                refine gx_st (L' := [(2, 192), (0, (h : Int)), (0, a), (0, (n : Int)), (0, x7), (0, x70)]) (S' := [(0, 10), (0, a)]) r_142_184 rfl rfl rfl ?_
                refine gx_ic (P := a < 10) r_142_186 (rfl) (fun h186 => ?_) (fun h186 => ?_)
                · refine gx_st (L' := [(2, 192), (0, (h : Int)), (0, a), (0, (n : Int)), (0, x7), (0, x70)]) (S' := [(2, 192)]) r_142_201 rfl rfl rfl ?_
                  refine gx_gf (x := 201) 2 r_142_202 rfl (tk_192 hT) ⟨by decide, rfl, by decide, by decide⟩ rfl (fun _ => by decide) (pr_192_17 h_n136) ?_
                  refine gx_st (L' := [(2, 192), (0, (h : Int)), (0, a), (0, (n : Int)), (0, x7), (0, x70)]) (S' := [(0, (h : Int)), (2, 201)]) r_142_205 rfl rfl rfl ?_
                  refine gx_st (L' := [(2, 192), (0, (h : Int)), (0, a), (0, (n : Int)), (0, x7), (0, x70)]) (S' := [(0, 1), (0, (h : Int)), (2, 201)]) r_142_206 rfl rfl rfl ?_
                  obtain ⟨m7, e_m7⟩ : ∃ z, z = nu_up n136 201 (h) 1 := ⟨_, rfl⟩
                  have h_m7 : Gam m7 := by rw [e_m7]; exact gu_201 h_n136 (i := h) (by omega) (by omega)
                  have f_m7 : Fr [90021, 90022, 98999, 99999, 100999, 102999] m m7 := Fr_tr f_n136 (by rw [e_m7]; exact Fr_ua rfl rfl)
                  have s_m7 : FS m7 := FS_fr (W := [99999]) (by rw [e_m7]; exact Fr_ua rfl rfl) (by decide) s_n136
                  have r_m7 : RowFr n m m7 := by rw [e_m7]; exact RowFr_no r_n136 (by decide)
                  have aw_m7 : m7 200 (16 * n) = (m 200 (16 * h)) := by rw [e_m7, nu_no (by decide)]; exact aw_n136
                  have ow_m7 : m7 200 (16 * n + 1) = (m 200 (16 * h + 1)) := by rw [e_m7, nu_no (by decide)]; exact ow_n136
                  refine gx_is (n := h) (x := 1) r_142_207 rfl (by decide) (tk_201 hT) (by omega) ⟨rfl, by omega⟩ e_m7.symm ?_
                  exact gx_rt r_142_208 rfl rfl ⟨rfl, h_m7, r_m7, Or.inr (by rw [aw_m7] <;> omega), f_m7⟩
                · obtain ⟨t, ht⟩ : ∃ t : Nat, a = 10 + (t : Int) := ⟨(a - 10).toNat, by omega⟩
                  refine gx_st (L' := [(2, 192), (0, (h : Int)), (0, a), (0, (n : Int)), (0, x7), (0, x70)]) (S' := [(2, 192)]) r_142_189 rfl rfl rfl ?_
                  refine gx_st (L' := [(2, 192), (0, (h : Int)), (0, a), (0, (n : Int)), (0, x7), (0, x70)]) (S' := [(0, (h : Int)), (2, 192)]) r_142_190 rfl rfl rfl ?_
                  refine gx_st (L' := [(2, 192), (0, (h : Int)), (0, a), (0, (n : Int)), (0, x7), (0, x70)]) (S' := [(0, a), (0, (h : Int)), (2, 192)]) r_142_191 rfl rfl rfl ?_
                  refine gx_st (L' := [(2, 192), (0, (h : Int)), (0, a), (0, (n : Int)), (0, x7), (0, x70)]) (S' := [(0, 10), (0, a), (0, (h : Int)), (2, 192)]) r_142_192 rfl rfl rfl ?_
                  refine gx_ar (L' := [(2, 192), (0, (h : Int)), (0, a), (0, (n : Int)), (0, x7), (0, x70)]) (S' := [(0, (h : Int)), (2, 192)]) (t := 0) (e := w32 (a - 10)) (z := (t : Int)) r_142_194 rfl rfl rfl (w32_eq (by omega) (by omega) (by omega)) ?_
                  refine gx_cv (nx := 198) (S2 := []) (x_139 hT h_n136 hh hn (t := t) (by omega) (by rw [ow_n136]; omega)) r_142_195 rfl rfl rfl rfl rfl (rcv_v rfl (tk_192 hT) (by decide) rfl (by decide)) rfl (by decide) rfl (fun n195 q195 => ?_)
                  refine gx_st (L' := [(2, 192), (0, (h : Int)), (0, a), (0, (n : Int)), (0, x7), (0, x70)]) (S' := []) r_142_198 rfl rfl rfl ?_
                  exact gx_rt r_142_208 rfl rfl ⟨rfl, RD_tr r_n136 f_n136 q195⟩
            · have h159 := Decidable.not_not.mp h159
              refine gx_st (L' := [(2, 192), (0, (h : Int)), (0, a), (0, (n : Int)), (0, x7), (0, x70)]) (S' := [(2, 192)]) r_142_162 rfl rfl rfl ?_
              refine gx_gf (x := 201) 2 r_142_163 rfl (tk_192 hT) ⟨by decide, rfl, by decide, by decide⟩ rfl (fun _ => by decide) (pr_192_17 h_n136) ?_
              refine gx_st (L' := [(2, 192), (0, (h : Int)), (0, a), (0, (n : Int)), (0, x7), (0, x70)]) (S' := [(0, (h : Int)), (2, 201)]) r_142_166 rfl rfl rfl ?_
              refine gx_st (L' := [(2, 192), (0, (h : Int)), (0, a), (0, (n : Int)), (0, x7), (0, x70)]) (S' := [(0, 5), (0, (h : Int)), (2, 201)]) r_142_167 rfl rfl rfl ?_
              obtain ⟨m8, e_m8⟩ : ∃ z, z = nu_up n136 201 (h) 5 := ⟨_, rfl⟩
              have h_m8 : Gam m8 := by rw [e_m8]; exact gu_201 h_n136 (i := h) (by omega) (by omega)
              have f_m8 : Fr [90021, 90022, 98999, 99999, 100999, 102999] m m8 := Fr_tr f_n136 (by rw [e_m8]; exact Fr_ua rfl rfl)
              have s_m8 : FS m8 := FS_fr (W := [99999]) (by rw [e_m8]; exact Fr_ua rfl rfl) (by decide) s_n136
              have r_m8 : RowFr n m m8 := by rw [e_m8]; exact RowFr_no r_n136 (by decide)
              have aw_m8 : m8 200 (16 * n) = (m 200 (16 * h)) := by rw [e_m8, nu_no (by decide)]; exact aw_n136
              have ow_m8 : m8 200 (16 * n + 1) = (m 200 (16 * h + 1)) := by rw [e_m8, nu_no (by decide)]; exact ow_n136
              refine gx_is (n := h) (x := 5) r_142_168 rfl (by decide) (tk_201 hT) (by omega) ⟨rfl, by omega⟩ e_m8.symm ?_
              refine gx_st (L' := [(2, 192), (0, (h : Int)), (0, a), (0, (n : Int)), (0, x7), (0, x70)]) (S' := [(2, 192)]) r_142_169 rfl rfl rfl ?_
              refine gx_st (L' := [(2, 192), (0, (h : Int)), (0, a), (0, (n : Int)), (0, x7), (0, x70)]) (S' := [(0, (h : Int)), (2, 192)]) r_142_170 rfl rfl rfl ?_
              refine gx_st (L' := [(2, 192), (0, (h : Int)), (0, a), (0, (n : Int)), (0, x7), (0, x70)]) (S' := [(0, 1), (0, (h : Int)), (2, 192)]) r_142_171 rfl rfl rfl ?_
              refine gx_cv (nx := 175) (S2 := []) (x_140 hT h_m8 hh hn (x := 1) (by omega) (by omega)) r_142_172 rfl rfl rfl rfl rfl (rcv_v rfl (tk_192 hT) (by decide) rfl (by decide)) rfl (by decide) rfl (fun n172 q172 => ?_)
              refine gx_st (L' := [(2, 192), (0, (h : Int)), (0, a), (0, (n : Int)), (0, x7), (0, x70)]) (S' := []) r_142_175 rfl rfl rfl ?_
              exact gx_rt r_142_208 rfl rfl ⟨rfl, RD_tr r_m8 f_m8 q172⟩
        · have h141 := Decidable.not_not.mp h141
          refine gx_st (L' := [(2, 192), (0, (h : Int)), (0, a), (0, (n : Int)), (0, x7), (0, x70)]) (S' := [(2, 192)]) r_142_144 rfl rfl rfl ?_
          refine gx_st (L' := [(2, 192), (0, (h : Int)), (0, a), (0, (n : Int)), (0, x7), (0, x70)]) (S' := [(0, (h : Int)), (2, 192)]) r_142_145 rfl rfl rfl ?_
          refine gx_cv (nx := 149) (S2 := []) (x_141 hT h_n136 hh hn s_n136 (by rw [ow_n136]; omega) (by rw [r_n136 (16 * h) (by omega)]; omega) (by rw [aw_n136]; omega)) r_142_146 rfl rfl rfl rfl rfl (rcv_v rfl (tk_192 hT) (by decide) rfl (by decide)) rfl (by decide) rfl (fun n146 q146 => ?_)
          refine gx_st (L' := [(2, 192), (0, (h : Int)), (0, a), (0, (n : Int)), (0, x7), (0, x70)]) (S' := []) r_142_149 rfl rfl rfl ?_
          exact gx_rt r_142_208 rfl rfl ⟨rfl, RD_tr r_n136 f_n136 q146⟩
      · refine gx_st (L' := [(2, 192), (0, (h : Int)), (0, a), (0, (n : Int)), (0, x7), (0, x70)]) (S' := [(0, 1), (0, (h : Int)), (2, 202)]) r_142_119 rfl rfl rfl ?_
        refine gx_st (L' := [(2, 192), (0, (h : Int)), (0, a), (0, (n : Int)), (0, x7), (0, x70)]) (S' := [(0, 1), (0, (h : Int)), (2, 202)]) r_142_120 rfl rfl rfl ?_
        obtain ⟨m9, e_m9⟩ : ∃ z, z = nu_up m2 202 (h) 1 := ⟨_, rfl⟩
        have h_m9 : Gam m9 := by rw [e_m9]; exact gu_202 h_m2 (i := h) (by omega) (by omega)
        have f_m9 : Fr [90021, 90022, 98999, 99999, 100999, 102999] m m9 := Fr_tr f_m2 (by rw [e_m9]; exact Fr_ua rfl rfl)
        have s_m9 : FS m9 := FS_fr (W := [100999]) (by rw [e_m9]; exact Fr_ua rfl rfl) (by decide) s_m2
        have r_m9 : RowFr n m m9 := by rw [e_m9]; exact RowFr_no r_m2 (by decide)
        have aw_m9 : m9 200 (16 * n) = (m 200 (16 * h)) := by rw [e_m9, nu_no (by decide)]; exact aw_m2
        have ow_m9 : m9 200 (16 * n + 1) = (m 200 (16 * h + 1)) := by rw [e_m9, nu_no (by decide)]; exact ow_m2
        refine gx_is (n := h) (x := 1) r_142_124 rfl (by decide) (tk_202 hT) (by omega) ⟨rfl, by omega⟩ e_m9.symm ?_
        refine gx_st (L' := [(2, 192), (0, (h : Int)), (0, a), (0, (n : Int)), (0, x7), (0, x70)]) (S' := [(2, 192)]) r_142_125 rfl rfl rfl ?_
        refine gx_st (L' := [(2, 192), (0, (h : Int)), (0, a), (0, (n : Int)), (0, x7), (0, x70)]) (S' := [(0, (n : Int)), (2, 192)]) r_142_126 rfl rfl rfl ?_
        refine gx_st (L' := [(2, 192), (0, (h : Int)), (0, a), (0, (n : Int)), (0, x7), (0, x70)]) (S' := [(0, 3), (0, (n : Int)), (2, 192)]) r_142_127 rfl rfl rfl ?_
        refine gx_st (L' := [(2, 192), (0, (h : Int)), (0, a), (0, (n : Int)), (0, x7), (0, x70)]) (S' := [(0, 0), (0, 3), (0, (n : Int)), (2, 192)]) r_142_128 rfl rfl rfl ?_
        refine gx_st (L' := [(2, 192), (0, (h : Int)), (0, a), (0, (n : Int)), (0, x7), (0, x70)]) (S' := [(0, x70), (0, 0), (0, 3), (0, (n : Int)), (2, 192)]) r_142_129 rfl rfl rfl ?_
        refine gx_st (L' := [(2, 192), (0, (h : Int)), (0, a), (0, (n : Int)), (0, x7), (0, x70)]) (S' := [(0, 1), (0, x70), (0, 0), (0, 3), (0, (n : Int)), (2, 192)]) r_142_131 rfl rfl rfl ?_
        refine gx_ar (L' := [(2, 192), (0, (h : Int)), (0, a), (0, (n : Int)), (0, x7), (0, x70)]) (S' := [(0, 0), (0, 3), (0, (n : Int)), (2, 192)]) (t := 0) (e := w32 (x70 - 1)) (z := x70 - 1) r_142_132 rfl rfl rfl (w32_eq (by omega) (by omega) (by omega)) ?_
        refine gx_st (L' := [(2, 192), (0, (h : Int)), (0, a), (0, (n : Int)), (0, x7), (0, x70)]) (S' := [(0, (max 0 (x70 - 1))), (0, 3), (0, (n : Int)), (2, 192)]) r_142_133 rfl rfl rfl ?_
        refine gx_cv (nx := 139) (S2 := []) (x_132 hT h_m9 (h := n) (k := 3) (by omega) (by omega) ((max 0 (x70 - 1)))) r_142_136 rfl rfl rfl rfl rfl (rcv_v rfl (tk_192 hT) (by decide) rfl (by decide)) rfl (by decide) rfl (fun n136 q136 => ?_)
        have h_n136 : Gam n136 := by rw [q136]; exact gu_200_dr h_m9 (h := n) (by omega) (by omega) (by omega)
        have f_n136 : Fr [90021, 90022, 98999, 99999, 100999, 102999] m n136 := Fr_tr f_m9 (by rw [q136]; exact Fr_ua rfl rfl)
        have r_n136 : RowFr n m n136 := by rw [q136]; exact RowFr_up r_m9 (by omega) (by omega)
        have aw_n136 : n136 200 (16 * n) = (m 200 (16 * h)) := by rw [q136, nu_ne (by omega)]; exact aw_m9
        have ow_n136 : n136 200 (16 * n + 1) = (m 200 (16 * h + 1)) := by rw [q136, nu_ne (by omega)]; exact ow_m9
        have s_n136 : FS n136 := FS_fr (W := [98999]) (by rw [q136]; exact Fr_ua rfl rfl) (by decide) s_m9
        show GX T 5 142 139 [(2, 192), (0, (h : Int)), (0, a), (0, (n : Int)), (0, x7), (0, x70)] [] n136 (RV (RD n m))
        refine gx_st (L' := [(2, 192), (0, (h : Int)), (0, a), (0, (n : Int)), (0, x7), (0, x70)]) (S' := [(0, x70)]) r_142_139 rfl rfl rfl ?_
        refine gx_i0 (P := ¬ x70 = 0) r_142_141 (rfl) (fun h141 => ?_) (fun h141 => ?_)
        · refine gx_st (L' := [(2, 192), (0, (h : Int)), (0, a), (0, (n : Int)), (0, x7), (0, x70)]) (S' := [(0, x7)]) r_142_152 rfl rfl rfl ?_
          refine gx_i0 (P := x7 = 0) r_142_154 (rfl) (fun h154 => ?_) (fun h154 => ?_)
          · refine gx_st (L' := [(2, 192), (0, (h : Int)), (0, a), (0, (n : Int)), (0, x7), (0, x70)]) (S' := [(0, x7)]) r_142_178 rfl rfl rfl ?_
            refine gx_i0 (P := x7 = 0) r_142_180 (rfl) (fun h180 => ?_) (fun h180 => ?_)
            · refine gx_st (L' := [(2, 192), (0, (h : Int)), (0, a), (0, (n : Int)), (0, x7), (0, x70)]) (S' := [(2, 192)]) r_142_201 rfl rfl rfl ?_
              refine gx_gf (x := 201) 2 r_142_202 rfl (tk_192 hT) ⟨by decide, rfl, by decide, by decide⟩ rfl (fun _ => by decide) (pr_192_17 h_n136) ?_
              refine gx_st (L' := [(2, 192), (0, (h : Int)), (0, a), (0, (n : Int)), (0, x7), (0, x70)]) (S' := [(0, (h : Int)), (2, 201)]) r_142_205 rfl rfl rfl ?_
              refine gx_st (L' := [(2, 192), (0, (h : Int)), (0, a), (0, (n : Int)), (0, x7), (0, x70)]) (S' := [(0, 1), (0, (h : Int)), (2, 201)]) r_142_206 rfl rfl rfl ?_
              obtain ⟨m10, e_m10⟩ : ∃ z, z = nu_up n136 201 (h) 1 := ⟨_, rfl⟩
              have h_m10 : Gam m10 := by rw [e_m10]; exact gu_201 h_n136 (i := h) (by omega) (by omega)
              have f_m10 : Fr [90021, 90022, 98999, 99999, 100999, 102999] m m10 := Fr_tr f_n136 (by rw [e_m10]; exact Fr_ua rfl rfl)
              have s_m10 : FS m10 := FS_fr (W := [99999]) (by rw [e_m10]; exact Fr_ua rfl rfl) (by decide) s_n136
              have r_m10 : RowFr n m m10 := by rw [e_m10]; exact RowFr_no r_n136 (by decide)
              have aw_m10 : m10 200 (16 * n) = (m 200 (16 * h)) := by rw [e_m10, nu_no (by decide)]; exact aw_n136
              have ow_m10 : m10 200 (16 * n + 1) = (m 200 (16 * h + 1)) := by rw [e_m10, nu_no (by decide)]; exact ow_n136
              refine gx_is (n := h) (x := 1) r_142_207 rfl (by decide) (tk_201 hT) (by omega) ⟨rfl, by omega⟩ e_m10.symm ?_
              exact gx_rt r_142_208 rfl rfl ⟨rfl, h_m10, r_m10, Or.inr (by rw [aw_m10] <;> omega), f_m10⟩
            · refine gx_st (L' := [(2, 192), (0, (h : Int)), (0, a), (0, (n : Int)), (0, x7), (0, x70)]) (S' := [(0, a)]) r_142_183 rfl rfl rfl ?_
              refine gx_st (L' := [(2, 192), (0, (h : Int)), (0, a), (0, (n : Int)), (0, x7), (0, x70)]) (S' := [(0, 10), (0, a)]) r_142_184 rfl rfl rfl ?_
              refine gx_ic (P := a < 10) r_142_186 (rfl) (fun h186 => ?_) (fun h186 => ?_)
              · refine gx_st (L' := [(2, 192), (0, (h : Int)), (0, a), (0, (n : Int)), (0, x7), (0, x70)]) (S' := [(2, 192)]) r_142_201 rfl rfl rfl ?_
                refine gx_gf (x := 201) 2 r_142_202 rfl (tk_192 hT) ⟨by decide, rfl, by decide, by decide⟩ rfl (fun _ => by decide) (pr_192_17 h_n136) ?_
                refine gx_st (L' := [(2, 192), (0, (h : Int)), (0, a), (0, (n : Int)), (0, x7), (0, x70)]) (S' := [(0, (h : Int)), (2, 201)]) r_142_205 rfl rfl rfl ?_
                refine gx_st (L' := [(2, 192), (0, (h : Int)), (0, a), (0, (n : Int)), (0, x7), (0, x70)]) (S' := [(0, 1), (0, (h : Int)), (2, 201)]) r_142_206 rfl rfl rfl ?_
                obtain ⟨m11, e_m11⟩ : ∃ z, z = nu_up n136 201 (h) 1 := ⟨_, rfl⟩
                have h_m11 : Gam m11 := by rw [e_m11]; exact gu_201 h_n136 (i := h) (by omega) (by omega)
                have f_m11 : Fr [90021, 90022, 98999, 99999, 100999, 102999] m m11 := Fr_tr f_n136 (by rw [e_m11]; exact Fr_ua rfl rfl)
                have s_m11 : FS m11 := FS_fr (W := [99999]) (by rw [e_m11]; exact Fr_ua rfl rfl) (by decide) s_n136
                have r_m11 : RowFr n m m11 := by rw [e_m11]; exact RowFr_no r_n136 (by decide)
                have aw_m11 : m11 200 (16 * n) = (m 200 (16 * h)) := by rw [e_m11, nu_no (by decide)]; exact aw_n136
                have ow_m11 : m11 200 (16 * n + 1) = (m 200 (16 * h + 1)) := by rw [e_m11, nu_no (by decide)]; exact ow_n136
                refine gx_is (n := h) (x := 1) r_142_207 rfl (by decide) (tk_201 hT) (by omega) ⟨rfl, by omega⟩ e_m11.symm ?_
                exact gx_rt r_142_208 rfl rfl ⟨rfl, h_m11, r_m11, Or.inr (by rw [aw_m11] <;> omega), f_m11⟩
              · obtain ⟨t, ht⟩ : ∃ t : Nat, a = 10 + (t : Int) := ⟨(a - 10).toNat, by omega⟩
                refine gx_st (L' := [(2, 192), (0, (h : Int)), (0, a), (0, (n : Int)), (0, x7), (0, x70)]) (S' := [(2, 192)]) r_142_189 rfl rfl rfl ?_
                refine gx_st (L' := [(2, 192), (0, (h : Int)), (0, a), (0, (n : Int)), (0, x7), (0, x70)]) (S' := [(0, (h : Int)), (2, 192)]) r_142_190 rfl rfl rfl ?_
                refine gx_st (L' := [(2, 192), (0, (h : Int)), (0, a), (0, (n : Int)), (0, x7), (0, x70)]) (S' := [(0, a), (0, (h : Int)), (2, 192)]) r_142_191 rfl rfl rfl ?_
                refine gx_st (L' := [(2, 192), (0, (h : Int)), (0, a), (0, (n : Int)), (0, x7), (0, x70)]) (S' := [(0, 10), (0, a), (0, (h : Int)), (2, 192)]) r_142_192 rfl rfl rfl ?_
                refine gx_ar (L' := [(2, 192), (0, (h : Int)), (0, a), (0, (n : Int)), (0, x7), (0, x70)]) (S' := [(0, (h : Int)), (2, 192)]) (t := 0) (e := w32 (a - 10)) (z := (t : Int)) r_142_194 rfl rfl rfl (w32_eq (by omega) (by omega) (by omega)) ?_
                refine gx_cv (nx := 198) (S2 := []) (x_139 hT h_n136 hh hn (t := t) (by omega) (by rw [ow_n136]; omega)) r_142_195 rfl rfl rfl rfl rfl (rcv_v rfl (tk_192 hT) (by decide) rfl (by decide)) rfl (by decide) rfl (fun n195 q195 => ?_)
                refine gx_st (L' := [(2, 192), (0, (h : Int)), (0, a), (0, (n : Int)), (0, x7), (0, x70)]) (S' := []) r_142_198 rfl rfl rfl ?_
                exact gx_rt r_142_208 rfl rfl ⟨rfl, RD_tr r_n136 f_n136 q195⟩
          · refine gx_st (L' := [(2, 192), (0, (h : Int)), (0, a), (0, (n : Int)), (0, x7), (0, x70)]) (S' := [(0, a)]) r_142_157 rfl rfl rfl ?_
            refine gx_st (L' := [(2, 192), (0, (h : Int)), (0, a), (0, (n : Int)), (0, x7), (0, x70)]) (S' := [(0, 2), (0, a)]) r_142_158 rfl rfl rfl ?_
            refine gx_ic (P := ¬ a = 2) r_142_159 (rfl) (fun h159 => ?_) (fun h159 => ?_)
            · refine gx_st (L' := [(2, 192), (0, (h : Int)), (0, a), (0, (n : Int)), (0, x7), (0, x70)]) (S' := [(0, x7)]) r_142_178 rfl rfl rfl ?_
              refine gx_i0 (P := x7 = 0) r_142_180 (rfl) (fun h180 => ?_) (fun h180 => ?_)
              · refine gx_st (L' := [(2, 192), (0, (h : Int)), (0, a), (0, (n : Int)), (0, x7), (0, x70)]) (S' := [(2, 192)]) r_142_201 rfl rfl rfl ?_
                refine gx_gf (x := 201) 2 r_142_202 rfl (tk_192 hT) ⟨by decide, rfl, by decide, by decide⟩ rfl (fun _ => by decide) (pr_192_17 h_n136) ?_
                refine gx_st (L' := [(2, 192), (0, (h : Int)), (0, a), (0, (n : Int)), (0, x7), (0, x70)]) (S' := [(0, (h : Int)), (2, 201)]) r_142_205 rfl rfl rfl ?_
                refine gx_st (L' := [(2, 192), (0, (h : Int)), (0, a), (0, (n : Int)), (0, x7), (0, x70)]) (S' := [(0, 1), (0, (h : Int)), (2, 201)]) r_142_206 rfl rfl rfl ?_
                obtain ⟨m12, e_m12⟩ : ∃ z, z = nu_up n136 201 (h) 1 := ⟨_, rfl⟩
                have h_m12 : Gam m12 := by rw [e_m12]; exact gu_201 h_n136 (i := h) (by omega) (by omega)
                have f_m12 : Fr [90021, 90022, 98999, 99999, 100999, 102999] m m12 := Fr_tr f_n136 (by rw [e_m12]; exact Fr_ua rfl rfl)
                have s_m12 : FS m12 := FS_fr (W := [99999]) (by rw [e_m12]; exact Fr_ua rfl rfl) (by decide) s_n136
                have r_m12 : RowFr n m m12 := by rw [e_m12]; exact RowFr_no r_n136 (by decide)
                have aw_m12 : m12 200 (16 * n) = (m 200 (16 * h)) := by rw [e_m12, nu_no (by decide)]; exact aw_n136
                have ow_m12 : m12 200 (16 * n + 1) = (m 200 (16 * h + 1)) := by rw [e_m12, nu_no (by decide)]; exact ow_n136
                refine gx_is (n := h) (x := 1) r_142_207 rfl (by decide) (tk_201 hT) (by omega) ⟨rfl, by omega⟩ e_m12.symm ?_
                exact gx_rt r_142_208 rfl rfl ⟨rfl, h_m12, r_m12, Or.inr (by rw [aw_m12] <;> omega), f_m12⟩
              · refine gx_st (L' := [(2, 192), (0, (h : Int)), (0, a), (0, (n : Int)), (0, x7), (0, x70)]) (S' := [(0, a)]) r_142_183 rfl rfl rfl ?_
                refine gx_st (L' := [(2, 192), (0, (h : Int)), (0, a), (0, (n : Int)), (0, x7), (0, x70)]) (S' := [(0, 10), (0, a)]) r_142_184 rfl rfl rfl ?_
                refine gx_ic (P := a < 10) r_142_186 (rfl) (fun h186 => ?_) (fun h186 => ?_)
                · refine gx_st (L' := [(2, 192), (0, (h : Int)), (0, a), (0, (n : Int)), (0, x7), (0, x70)]) (S' := [(2, 192)]) r_142_201 rfl rfl rfl ?_
                  refine gx_gf (x := 201) 2 r_142_202 rfl (tk_192 hT) ⟨by decide, rfl, by decide, by decide⟩ rfl (fun _ => by decide) (pr_192_17 h_n136) ?_
                  refine gx_st (L' := [(2, 192), (0, (h : Int)), (0, a), (0, (n : Int)), (0, x7), (0, x70)]) (S' := [(0, (h : Int)), (2, 201)]) r_142_205 rfl rfl rfl ?_
                  refine gx_st (L' := [(2, 192), (0, (h : Int)), (0, a), (0, (n : Int)), (0, x7), (0, x70)]) (S' := [(0, 1), (0, (h : Int)), (2, 201)]) r_142_206 rfl rfl rfl ?_
                  obtain ⟨m13, e_m13⟩ : ∃ z, z = nu_up n136 201 (h) 1 := ⟨_, rfl⟩
                  have h_m13 : Gam m13 := by rw [e_m13]; exact gu_201 h_n136 (i := h) (by omega) (by omega)
                  have f_m13 : Fr [90021, 90022, 98999, 99999, 100999, 102999] m m13 := Fr_tr f_n136 (by rw [e_m13]; exact Fr_ua rfl rfl)
                  have s_m13 : FS m13 := FS_fr (W := [99999]) (by rw [e_m13]; exact Fr_ua rfl rfl) (by decide) s_n136
                  have r_m13 : RowFr n m m13 := by rw [e_m13]; exact RowFr_no r_n136 (by decide)
                  have aw_m13 : m13 200 (16 * n) = (m 200 (16 * h)) := by rw [e_m13, nu_no (by decide)]; exact aw_n136
                  have ow_m13 : m13 200 (16 * n + 1) = (m 200 (16 * h + 1)) := by rw [e_m13, nu_no (by decide)]; exact ow_n136
                  refine gx_is (n := h) (x := 1) r_142_207 rfl (by decide) (tk_201 hT) (by omega) ⟨rfl, by omega⟩ e_m13.symm ?_
                  exact gx_rt r_142_208 rfl rfl ⟨rfl, h_m13, r_m13, Or.inr (by rw [aw_m13] <;> omega), f_m13⟩
                · obtain ⟨t, ht⟩ : ∃ t : Nat, a = 10 + (t : Int) := ⟨(a - 10).toNat, by omega⟩
                  refine gx_st (L' := [(2, 192), (0, (h : Int)), (0, a), (0, (n : Int)), (0, x7), (0, x70)]) (S' := [(2, 192)]) r_142_189 rfl rfl rfl ?_
                  refine gx_st (L' := [(2, 192), (0, (h : Int)), (0, a), (0, (n : Int)), (0, x7), (0, x70)]) (S' := [(0, (h : Int)), (2, 192)]) r_142_190 rfl rfl rfl ?_
                  refine gx_st (L' := [(2, 192), (0, (h : Int)), (0, a), (0, (n : Int)), (0, x7), (0, x70)]) (S' := [(0, a), (0, (h : Int)), (2, 192)]) r_142_191 rfl rfl rfl ?_
                  refine gx_st (L' := [(2, 192), (0, (h : Int)), (0, a), (0, (n : Int)), (0, x7), (0, x70)]) (S' := [(0, 10), (0, a), (0, (h : Int)), (2, 192)]) r_142_192 rfl rfl rfl ?_
                  refine gx_ar (L' := [(2, 192), (0, (h : Int)), (0, a), (0, (n : Int)), (0, x7), (0, x70)]) (S' := [(0, (h : Int)), (2, 192)]) (t := 0) (e := w32 (a - 10)) (z := (t : Int)) r_142_194 rfl rfl rfl (w32_eq (by omega) (by omega) (by omega)) ?_
                  refine gx_cv (nx := 198) (S2 := []) (x_139 hT h_n136 hh hn (t := t) (by omega) (by rw [ow_n136]; omega)) r_142_195 rfl rfl rfl rfl rfl (rcv_v rfl (tk_192 hT) (by decide) rfl (by decide)) rfl (by decide) rfl (fun n195 q195 => ?_)
                  refine gx_st (L' := [(2, 192), (0, (h : Int)), (0, a), (0, (n : Int)), (0, x7), (0, x70)]) (S' := []) r_142_198 rfl rfl rfl ?_
                  exact gx_rt r_142_208 rfl rfl ⟨rfl, RD_tr r_n136 f_n136 q195⟩
            · have h159 := Decidable.not_not.mp h159
              refine gx_st (L' := [(2, 192), (0, (h : Int)), (0, a), (0, (n : Int)), (0, x7), (0, x70)]) (S' := [(2, 192)]) r_142_162 rfl rfl rfl ?_
              refine gx_gf (x := 201) 2 r_142_163 rfl (tk_192 hT) ⟨by decide, rfl, by decide, by decide⟩ rfl (fun _ => by decide) (pr_192_17 h_n136) ?_
              refine gx_st (L' := [(2, 192), (0, (h : Int)), (0, a), (0, (n : Int)), (0, x7), (0, x70)]) (S' := [(0, (h : Int)), (2, 201)]) r_142_166 rfl rfl rfl ?_
              refine gx_st (L' := [(2, 192), (0, (h : Int)), (0, a), (0, (n : Int)), (0, x7), (0, x70)]) (S' := [(0, 5), (0, (h : Int)), (2, 201)]) r_142_167 rfl rfl rfl ?_
              obtain ⟨m14, e_m14⟩ : ∃ z, z = nu_up n136 201 (h) 5 := ⟨_, rfl⟩
              have h_m14 : Gam m14 := by rw [e_m14]; exact gu_201 h_n136 (i := h) (by omega) (by omega)
              have f_m14 : Fr [90021, 90022, 98999, 99999, 100999, 102999] m m14 := Fr_tr f_n136 (by rw [e_m14]; exact Fr_ua rfl rfl)
              have s_m14 : FS m14 := FS_fr (W := [99999]) (by rw [e_m14]; exact Fr_ua rfl rfl) (by decide) s_n136
              have r_m14 : RowFr n m m14 := by rw [e_m14]; exact RowFr_no r_n136 (by decide)
              have aw_m14 : m14 200 (16 * n) = (m 200 (16 * h)) := by rw [e_m14, nu_no (by decide)]; exact aw_n136
              have ow_m14 : m14 200 (16 * n + 1) = (m 200 (16 * h + 1)) := by rw [e_m14, nu_no (by decide)]; exact ow_n136
              refine gx_is (n := h) (x := 5) r_142_168 rfl (by decide) (tk_201 hT) (by omega) ⟨rfl, by omega⟩ e_m14.symm ?_
              refine gx_st (L' := [(2, 192), (0, (h : Int)), (0, a), (0, (n : Int)), (0, x7), (0, x70)]) (S' := [(2, 192)]) r_142_169 rfl rfl rfl ?_
              refine gx_st (L' := [(2, 192), (0, (h : Int)), (0, a), (0, (n : Int)), (0, x7), (0, x70)]) (S' := [(0, (h : Int)), (2, 192)]) r_142_170 rfl rfl rfl ?_
              refine gx_st (L' := [(2, 192), (0, (h : Int)), (0, a), (0, (n : Int)), (0, x7), (0, x70)]) (S' := [(0, 1), (0, (h : Int)), (2, 192)]) r_142_171 rfl rfl rfl ?_
              refine gx_cv (nx := 175) (S2 := []) (x_140 hT h_m14 hh hn (x := 1) (by omega) (by omega)) r_142_172 rfl rfl rfl rfl rfl (rcv_v rfl (tk_192 hT) (by decide) rfl (by decide)) rfl (by decide) rfl (fun n172 q172 => ?_)
              refine gx_st (L' := [(2, 192), (0, (h : Int)), (0, a), (0, (n : Int)), (0, x7), (0, x70)]) (S' := []) r_142_175 rfl rfl rfl ?_
              exact gx_rt r_142_208 rfl rfl ⟨rfl, RD_tr r_m14 f_m14 q172⟩
        · have h141 := Decidable.not_not.mp h141
          refine gx_st (L' := [(2, 192), (0, (h : Int)), (0, a), (0, (n : Int)), (0, x7), (0, x70)]) (S' := [(2, 192)]) r_142_144 rfl rfl rfl ?_
          refine gx_st (L' := [(2, 192), (0, (h : Int)), (0, a), (0, (n : Int)), (0, x7), (0, x70)]) (S' := [(0, (h : Int)), (2, 192)]) r_142_145 rfl rfl rfl ?_
          refine gx_cv (nx := 149) (S2 := []) (x_141 hT h_n136 hh hn s_n136 (by rw [ow_n136]; omega) (by rw [r_n136 (16 * h) (by omega)]; omega) (by rw [aw_n136]; omega)) r_142_146 rfl rfl rfl rfl rfl (rcv_v rfl (tk_192 hT) (by decide) rfl (by decide)) rfl (by decide) rfl (fun n146 q146 => ?_)
          refine gx_st (L' := [(2, 192), (0, (h : Int)), (0, a), (0, (n : Int)), (0, x7), (0, x70)]) (S' := []) r_142_149 rfl rfl rfl ?_
          exact gx_rt r_142_208 rfl rfl ⟨rfl, RD_tr r_n136 f_n136 q146⟩
    · refine gx_st (L' := [(2, 192), (0, (h : Int)), (0, a), (0, (n : Int)), (0, x7), (0, x70)]) (S' := [(0, a)]) r_142_80 rfl rfl rfl ?_
      refine gx_st (L' := [(2, 192), (0, (h : Int)), (0, a), (0, (n : Int)), (0, x7), (0, x70)]) (S' := [(0, 1), (0, a)]) r_142_81 rfl rfl rfl ?_
      refine gx_ic (P := ¬ a = 1) r_142_82 (rfl) (fun h82 => ?_) (fun h82 => ?_)
      · refine gx_st (L' := [(2, 192), (0, (h : Int)), (0, a), (0, (n : Int)), (0, x7), (0, x70)]) (S' := [(2, 192)]) r_142_109 rfl rfl rfl ?_
        refine gx_gf (x := 202) 2 r_142_110 rfl (tk_192 hT) ⟨by decide, rfl, by decide, by decide⟩ rfl (fun _ => by decide) (pr_192_18 h_m2) ?_
        refine gx_st (L' := [(2, 192), (0, (h : Int)), (0, a), (0, (n : Int)), (0, x7), (0, x70)]) (S' := [(0, (h : Int)), (2, 202)]) r_142_113 rfl rfl rfl ?_
        refine gx_st (L' := [(2, 192), (0, (h : Int)), (0, a), (0, (n : Int)), (0, x7), (0, x70)]) (S' := [(0, x70), (0, (h : Int)), (2, 202)]) r_142_114 rfl rfl rfl ?_
        refine gx_i0 (P := x70 ≤ 0) r_142_116 (rfl) (fun h116 => ?_) (fun h116 => ?_)
        · refine gx_st (L' := [(2, 192), (0, (h : Int)), (0, a), (0, (n : Int)), (0, x7), (0, x70)]) (S' := [(0, 0), (0, (h : Int)), (2, 202)]) r_142_123 rfl rfl rfl ?_
          obtain ⟨m15, e_m15⟩ : ∃ z, z = nu_up m2 202 (h) 0 := ⟨_, rfl⟩
          have h_m15 : Gam m15 := by rw [e_m15]; exact gu_202 h_m2 (i := h) (by omega) (by omega)
          have f_m15 : Fr [90021, 90022, 98999, 99999, 100999, 102999] m m15 := Fr_tr f_m2 (by rw [e_m15]; exact Fr_ua rfl rfl)
          have s_m15 : FS m15 := FS_fr (W := [100999]) (by rw [e_m15]; exact Fr_ua rfl rfl) (by decide) s_m2
          have r_m15 : RowFr n m m15 := by rw [e_m15]; exact RowFr_no r_m2 (by decide)
          have aw_m15 : m15 200 (16 * n) = (m 200 (16 * h)) := by rw [e_m15, nu_no (by decide)]; exact aw_m2
          have ow_m15 : m15 200 (16 * n + 1) = (m 200 (16 * h + 1)) := by rw [e_m15, nu_no (by decide)]; exact ow_m2
          refine gx_is (n := h) (x := 0) r_142_124 rfl (by decide) (tk_202 hT) (by omega) ⟨rfl, by omega⟩ e_m15.symm ?_
          refine gx_st (L' := [(2, 192), (0, (h : Int)), (0, a), (0, (n : Int)), (0, x7), (0, x70)]) (S' := [(2, 192)]) r_142_125 rfl rfl rfl ?_
          refine gx_st (L' := [(2, 192), (0, (h : Int)), (0, a), (0, (n : Int)), (0, x7), (0, x70)]) (S' := [(0, (n : Int)), (2, 192)]) r_142_126 rfl rfl rfl ?_
          refine gx_st (L' := [(2, 192), (0, (h : Int)), (0, a), (0, (n : Int)), (0, x7), (0, x70)]) (S' := [(0, 3), (0, (n : Int)), (2, 192)]) r_142_127 rfl rfl rfl ?_
          refine gx_st (L' := [(2, 192), (0, (h : Int)), (0, a), (0, (n : Int)), (0, x7), (0, x70)]) (S' := [(0, 0), (0, 3), (0, (n : Int)), (2, 192)]) r_142_128 rfl rfl rfl ?_
          refine gx_st (L' := [(2, 192), (0, (h : Int)), (0, a), (0, (n : Int)), (0, x7), (0, x70)]) (S' := [(0, x70), (0, 0), (0, 3), (0, (n : Int)), (2, 192)]) r_142_129 rfl rfl rfl ?_
          refine gx_st (L' := [(2, 192), (0, (h : Int)), (0, a), (0, (n : Int)), (0, x7), (0, x70)]) (S' := [(0, 1), (0, x70), (0, 0), (0, 3), (0, (n : Int)), (2, 192)]) r_142_131 rfl rfl rfl ?_
          refine gx_ar (L' := [(2, 192), (0, (h : Int)), (0, a), (0, (n : Int)), (0, x7), (0, x70)]) (S' := [(0, 0), (0, 3), (0, (n : Int)), (2, 192)]) (t := 0) (e := w32 (x70 - 1)) (z := x70 - 1) r_142_132 rfl rfl rfl (w32_eq (by omega) (by omega) (by omega)) ?_
          refine gx_st (L' := [(2, 192), (0, (h : Int)), (0, a), (0, (n : Int)), (0, x7), (0, x70)]) (S' := [(0, (max 0 (x70 - 1))), (0, 3), (0, (n : Int)), (2, 192)]) r_142_133 rfl rfl rfl ?_
          refine gx_cv (nx := 139) (S2 := []) (x_132 hT h_m15 (h := n) (k := 3) (by omega) (by omega) ((max 0 (x70 - 1)))) r_142_136 rfl rfl rfl rfl rfl (rcv_v rfl (tk_192 hT) (by decide) rfl (by decide)) rfl (by decide) rfl (fun n136 q136 => ?_)
          have h_n136 : Gam n136 := by rw [q136]; exact gu_200_dr h_m15 (h := n) (by omega) (by omega) (by omega)
          have f_n136 : Fr [90021, 90022, 98999, 99999, 100999, 102999] m n136 := Fr_tr f_m15 (by rw [q136]; exact Fr_ua rfl rfl)
          have r_n136 : RowFr n m n136 := by rw [q136]; exact RowFr_up r_m15 (by omega) (by omega)
          have aw_n136 : n136 200 (16 * n) = (m 200 (16 * h)) := by rw [q136, nu_ne (by omega)]; exact aw_m15
          have ow_n136 : n136 200 (16 * n + 1) = (m 200 (16 * h + 1)) := by rw [q136, nu_ne (by omega)]; exact ow_m15
          have s_n136 : FS n136 := FS_fr (W := [98999]) (by rw [q136]; exact Fr_ua rfl rfl) (by decide) s_m15
          show GX T 5 142 139 [(2, 192), (0, (h : Int)), (0, a), (0, (n : Int)), (0, x7), (0, x70)] [] n136 (RV (RD n m))
          refine gx_st (L' := [(2, 192), (0, (h : Int)), (0, a), (0, (n : Int)), (0, x7), (0, x70)]) (S' := [(0, x70)]) r_142_139 rfl rfl rfl ?_
          refine gx_i0 (P := ¬ x70 = 0) r_142_141 (rfl) (fun h141 => ?_) (fun h141 => ?_)
          · refine gx_st (L' := [(2, 192), (0, (h : Int)), (0, a), (0, (n : Int)), (0, x7), (0, x70)]) (S' := [(0, x7)]) r_142_152 rfl rfl rfl ?_
            refine gx_i0 (P := x7 = 0) r_142_154 (rfl) (fun h154 => ?_) (fun h154 => ?_)
            · refine gx_st (L' := [(2, 192), (0, (h : Int)), (0, a), (0, (n : Int)), (0, x7), (0, x70)]) (S' := [(0, x7)]) r_142_178 rfl rfl rfl ?_
              refine gx_i0 (P := x7 = 0) r_142_180 (rfl) (fun h180 => ?_) (fun h180 => ?_)
              · refine gx_st (L' := [(2, 192), (0, (h : Int)), (0, a), (0, (n : Int)), (0, x7), (0, x70)]) (S' := [(2, 192)]) r_142_201 rfl rfl rfl ?_
                refine gx_gf (x := 201) 2 r_142_202 rfl (tk_192 hT) ⟨by decide, rfl, by decide, by decide⟩ rfl (fun _ => by decide) (pr_192_17 h_n136) ?_
                refine gx_st (L' := [(2, 192), (0, (h : Int)), (0, a), (0, (n : Int)), (0, x7), (0, x70)]) (S' := [(0, (h : Int)), (2, 201)]) r_142_205 rfl rfl rfl ?_
                refine gx_st (L' := [(2, 192), (0, (h : Int)), (0, a), (0, (n : Int)), (0, x7), (0, x70)]) (S' := [(0, 1), (0, (h : Int)), (2, 201)]) r_142_206 rfl rfl rfl ?_
                obtain ⟨m16, e_m16⟩ : ∃ z, z = nu_up n136 201 (h) 1 := ⟨_, rfl⟩
                have h_m16 : Gam m16 := by rw [e_m16]; exact gu_201 h_n136 (i := h) (by omega) (by omega)
                have f_m16 : Fr [90021, 90022, 98999, 99999, 100999, 102999] m m16 := Fr_tr f_n136 (by rw [e_m16]; exact Fr_ua rfl rfl)
                have s_m16 : FS m16 := FS_fr (W := [99999]) (by rw [e_m16]; exact Fr_ua rfl rfl) (by decide) s_n136
                have r_m16 : RowFr n m m16 := by rw [e_m16]; exact RowFr_no r_n136 (by decide)
                have aw_m16 : m16 200 (16 * n) = (m 200 (16 * h)) := by rw [e_m16, nu_no (by decide)]; exact aw_n136
                have ow_m16 : m16 200 (16 * n + 1) = (m 200 (16 * h + 1)) := by rw [e_m16, nu_no (by decide)]; exact ow_n136
                refine gx_is (n := h) (x := 1) r_142_207 rfl (by decide) (tk_201 hT) (by omega) ⟨rfl, by omega⟩ e_m16.symm ?_
                exact gx_rt r_142_208 rfl rfl ⟨rfl, h_m16, r_m16, Or.inr (by rw [aw_m16] <;> omega), f_m16⟩
              · refine gx_st (L' := [(2, 192), (0, (h : Int)), (0, a), (0, (n : Int)), (0, x7), (0, x70)]) (S' := [(0, a)]) r_142_183 rfl rfl rfl ?_
                refine gx_st (L' := [(2, 192), (0, (h : Int)), (0, a), (0, (n : Int)), (0, x7), (0, x70)]) (S' := [(0, 10), (0, a)]) r_142_184 rfl rfl rfl ?_
                refine gx_ic (P := a < 10) r_142_186 (rfl) (fun h186 => ?_) (fun h186 => ?_)
                · refine gx_st (L' := [(2, 192), (0, (h : Int)), (0, a), (0, (n : Int)), (0, x7), (0, x70)]) (S' := [(2, 192)]) r_142_201 rfl rfl rfl ?_
                  refine gx_gf (x := 201) 2 r_142_202 rfl (tk_192 hT) ⟨by decide, rfl, by decide, by decide⟩ rfl (fun _ => by decide) (pr_192_17 h_n136) ?_
                  refine gx_st (L' := [(2, 192), (0, (h : Int)), (0, a), (0, (n : Int)), (0, x7), (0, x70)]) (S' := [(0, (h : Int)), (2, 201)]) r_142_205 rfl rfl rfl ?_
                  refine gx_st (L' := [(2, 192), (0, (h : Int)), (0, a), (0, (n : Int)), (0, x7), (0, x70)]) (S' := [(0, 1), (0, (h : Int)), (2, 201)]) r_142_206 rfl rfl rfl ?_
                  obtain ⟨m17, e_m17⟩ : ∃ z, z = nu_up n136 201 (h) 1 := ⟨_, rfl⟩
                  have h_m17 : Gam m17 := by rw [e_m17]; exact gu_201 h_n136 (i := h) (by omega) (by omega)
                  have f_m17 : Fr [90021, 90022, 98999, 99999, 100999, 102999] m m17 := Fr_tr f_n136 (by rw [e_m17]; exact Fr_ua rfl rfl)
                  have s_m17 : FS m17 := FS_fr (W := [99999]) (by rw [e_m17]; exact Fr_ua rfl rfl) (by decide) s_n136
                  have r_m17 : RowFr n m m17 := by rw [e_m17]; exact RowFr_no r_n136 (by decide)
                  have aw_m17 : m17 200 (16 * n) = (m 200 (16 * h)) := by rw [e_m17, nu_no (by decide)]; exact aw_n136
                  have ow_m17 : m17 200 (16 * n + 1) = (m 200 (16 * h + 1)) := by rw [e_m17, nu_no (by decide)]; exact ow_n136
                  refine gx_is (n := h) (x := 1) r_142_207 rfl (by decide) (tk_201 hT) (by omega) ⟨rfl, by omega⟩ e_m17.symm ?_
                  exact gx_rt r_142_208 rfl rfl ⟨rfl, h_m17, r_m17, Or.inr (by rw [aw_m17] <;> omega), f_m17⟩
                · obtain ⟨t, ht⟩ : ∃ t : Nat, a = 10 + (t : Int) := ⟨(a - 10).toNat, by omega⟩
                  refine gx_st (L' := [(2, 192), (0, (h : Int)), (0, a), (0, (n : Int)), (0, x7), (0, x70)]) (S' := [(2, 192)]) r_142_189 rfl rfl rfl ?_
                  refine gx_st (L' := [(2, 192), (0, (h : Int)), (0, a), (0, (n : Int)), (0, x7), (0, x70)]) (S' := [(0, (h : Int)), (2, 192)]) r_142_190 rfl rfl rfl ?_
                  refine gx_st (L' := [(2, 192), (0, (h : Int)), (0, a), (0, (n : Int)), (0, x7), (0, x70)]) (S' := [(0, a), (0, (h : Int)), (2, 192)]) r_142_191 rfl rfl rfl ?_
                  refine gx_st (L' := [(2, 192), (0, (h : Int)), (0, a), (0, (n : Int)), (0, x7), (0, x70)]) (S' := [(0, 10), (0, a), (0, (h : Int)), (2, 192)]) r_142_192 rfl rfl rfl ?_
                  refine gx_ar (L' := [(2, 192), (0, (h : Int)), (0, a), (0, (n : Int)), (0, x7), (0, x70)]) (S' := [(0, (h : Int)), (2, 192)]) (t := 0) (e := w32 (a - 10)) (z := (t : Int)) r_142_194 rfl rfl rfl (w32_eq (by omega) (by omega) (by omega)) ?_
                  refine gx_cv (nx := 198) (S2 := []) (x_139 hT h_n136 hh hn (t := t) (by omega) (by rw [ow_n136]; omega)) r_142_195 rfl rfl rfl rfl rfl (rcv_v rfl (tk_192 hT) (by decide) rfl (by decide)) rfl (by decide) rfl (fun n195 q195 => ?_)
                  refine gx_st (L' := [(2, 192), (0, (h : Int)), (0, a), (0, (n : Int)), (0, x7), (0, x70)]) (S' := []) r_142_198 rfl rfl rfl ?_
                  exact gx_rt r_142_208 rfl rfl ⟨rfl, RD_tr r_n136 f_n136 q195⟩
            · refine gx_st (L' := [(2, 192), (0, (h : Int)), (0, a), (0, (n : Int)), (0, x7), (0, x70)]) (S' := [(0, a)]) r_142_157 rfl rfl rfl ?_
              refine gx_st (L' := [(2, 192), (0, (h : Int)), (0, a), (0, (n : Int)), (0, x7), (0, x70)]) (S' := [(0, 2), (0, a)]) r_142_158 rfl rfl rfl ?_
              refine gx_ic (P := ¬ a = 2) r_142_159 (rfl) (fun h159 => ?_) (fun h159 => ?_)
              · refine gx_st (L' := [(2, 192), (0, (h : Int)), (0, a), (0, (n : Int)), (0, x7), (0, x70)]) (S' := [(0, x7)]) r_142_178 rfl rfl rfl ?_
                refine gx_i0 (P := x7 = 0) r_142_180 (rfl) (fun h180 => ?_) (fun h180 => ?_)
                · refine gx_st (L' := [(2, 192), (0, (h : Int)), (0, a), (0, (n : Int)), (0, x7), (0, x70)]) (S' := [(2, 192)]) r_142_201 rfl rfl rfl ?_
                  refine gx_gf (x := 201) 2 r_142_202 rfl (tk_192 hT) ⟨by decide, rfl, by decide, by decide⟩ rfl (fun _ => by decide) (pr_192_17 h_n136) ?_
                  refine gx_st (L' := [(2, 192), (0, (h : Int)), (0, a), (0, (n : Int)), (0, x7), (0, x70)]) (S' := [(0, (h : Int)), (2, 201)]) r_142_205 rfl rfl rfl ?_
                  refine gx_st (L' := [(2, 192), (0, (h : Int)), (0, a), (0, (n : Int)), (0, x7), (0, x70)]) (S' := [(0, 1), (0, (h : Int)), (2, 201)]) r_142_206 rfl rfl rfl ?_
                  obtain ⟨m18, e_m18⟩ : ∃ z, z = nu_up n136 201 (h) 1 := ⟨_, rfl⟩
                  have h_m18 : Gam m18 := by rw [e_m18]; exact gu_201 h_n136 (i := h) (by omega) (by omega)
                  have f_m18 : Fr [90021, 90022, 98999, 99999, 100999, 102999] m m18 := Fr_tr f_n136 (by rw [e_m18]; exact Fr_ua rfl rfl)
                  have s_m18 : FS m18 := FS_fr (W := [99999]) (by rw [e_m18]; exact Fr_ua rfl rfl) (by decide) s_n136
                  have r_m18 : RowFr n m m18 := by rw [e_m18]; exact RowFr_no r_n136 (by decide)
                  have aw_m18 : m18 200 (16 * n) = (m 200 (16 * h)) := by rw [e_m18, nu_no (by decide)]; exact aw_n136
                  have ow_m18 : m18 200 (16 * n + 1) = (m 200 (16 * h + 1)) := by rw [e_m18, nu_no (by decide)]; exact ow_n136
                  refine gx_is (n := h) (x := 1) r_142_207 rfl (by decide) (tk_201 hT) (by omega) ⟨rfl, by omega⟩ e_m18.symm ?_
                  exact gx_rt r_142_208 rfl rfl ⟨rfl, h_m18, r_m18, Or.inr (by rw [aw_m18] <;> omega), f_m18⟩
                · refine gx_st (L' := [(2, 192), (0, (h : Int)), (0, a), (0, (n : Int)), (0, x7), (0, x70)]) (S' := [(0, a)]) r_142_183 rfl rfl rfl ?_
                  refine gx_st (L' := [(2, 192), (0, (h : Int)), (0, a), (0, (n : Int)), (0, x7), (0, x70)]) (S' := [(0, 10), (0, a)]) r_142_184 rfl rfl rfl ?_
                  refine gx_ic (P := a < 10) r_142_186 (rfl) (fun h186 => ?_) (fun h186 => ?_)
                  · refine gx_st (L' := [(2, 192), (0, (h : Int)), (0, a), (0, (n : Int)), (0, x7), (0, x70)]) (S' := [(2, 192)]) r_142_201 rfl rfl rfl ?_
                    refine gx_gf (x := 201) 2 r_142_202 rfl (tk_192 hT) ⟨by decide, rfl, by decide, by decide⟩ rfl (fun _ => by decide) (pr_192_17 h_n136) ?_
                    refine gx_st (L' := [(2, 192), (0, (h : Int)), (0, a), (0, (n : Int)), (0, x7), (0, x70)]) (S' := [(0, (h : Int)), (2, 201)]) r_142_205 rfl rfl rfl ?_
                    refine gx_st (L' := [(2, 192), (0, (h : Int)), (0, a), (0, (n : Int)), (0, x7), (0, x70)]) (S' := [(0, 1), (0, (h : Int)), (2, 201)]) r_142_206 rfl rfl rfl ?_
                    obtain ⟨m19, e_m19⟩ : ∃ z, z = nu_up n136 201 (h) 1 := ⟨_, rfl⟩
                    have h_m19 : Gam m19 := by rw [e_m19]; exact gu_201 h_n136 (i := h) (by omega) (by omega)
                    have f_m19 : Fr [90021, 90022, 98999, 99999, 100999, 102999] m m19 := Fr_tr f_n136 (by rw [e_m19]; exact Fr_ua rfl rfl)
                    have s_m19 : FS m19 := FS_fr (W := [99999]) (by rw [e_m19]; exact Fr_ua rfl rfl) (by decide) s_n136
                    have r_m19 : RowFr n m m19 := by rw [e_m19]; exact RowFr_no r_n136 (by decide)
                    have aw_m19 : m19 200 (16 * n) = (m 200 (16 * h)) := by rw [e_m19, nu_no (by decide)]; exact aw_n136
                    have ow_m19 : m19 200 (16 * n + 1) = (m 200 (16 * h + 1)) := by rw [e_m19, nu_no (by decide)]; exact ow_n136
                    refine gx_is (n := h) (x := 1) r_142_207 rfl (by decide) (tk_201 hT) (by omega) ⟨rfl, by omega⟩ e_m19.symm ?_
                    exact gx_rt r_142_208 rfl rfl ⟨rfl, h_m19, r_m19, Or.inr (by rw [aw_m19] <;> omega), f_m19⟩
                  · obtain ⟨t, ht⟩ : ∃ t : Nat, a = 10 + (t : Int) := ⟨(a - 10).toNat, by omega⟩
                    refine gx_st (L' := [(2, 192), (0, (h : Int)), (0, a), (0, (n : Int)), (0, x7), (0, x70)]) (S' := [(2, 192)]) r_142_189 rfl rfl rfl ?_
                    refine gx_st (L' := [(2, 192), (0, (h : Int)), (0, a), (0, (n : Int)), (0, x7), (0, x70)]) (S' := [(0, (h : Int)), (2, 192)]) r_142_190 rfl rfl rfl ?_
                    refine gx_st (L' := [(2, 192), (0, (h : Int)), (0, a), (0, (n : Int)), (0, x7), (0, x70)]) (S' := [(0, a), (0, (h : Int)), (2, 192)]) r_142_191 rfl rfl rfl ?_
                    refine gx_st (L' := [(2, 192), (0, (h : Int)), (0, a), (0, (n : Int)), (0, x7), (0, x70)]) (S' := [(0, 10), (0, a), (0, (h : Int)), (2, 192)]) r_142_192 rfl rfl rfl ?_
                    refine gx_ar (L' := [(2, 192), (0, (h : Int)), (0, a), (0, (n : Int)), (0, x7), (0, x70)]) (S' := [(0, (h : Int)), (2, 192)]) (t := 0) (e := w32 (a - 10)) (z := (t : Int)) r_142_194 rfl rfl rfl (w32_eq (by omega) (by omega) (by omega)) ?_
                    refine gx_cv (nx := 198) (S2 := []) (x_139 hT h_n136 hh hn (t := t) (by omega) (by rw [ow_n136]; omega)) r_142_195 rfl rfl rfl rfl rfl (rcv_v rfl (tk_192 hT) (by decide) rfl (by decide)) rfl (by decide) rfl (fun n195 q195 => ?_)
                    refine gx_st (L' := [(2, 192), (0, (h : Int)), (0, a), (0, (n : Int)), (0, x7), (0, x70)]) (S' := []) r_142_198 rfl rfl rfl ?_
                    exact gx_rt r_142_208 rfl rfl ⟨rfl, RD_tr r_n136 f_n136 q195⟩
              · have h159 := Decidable.not_not.mp h159
                refine gx_st (L' := [(2, 192), (0, (h : Int)), (0, a), (0, (n : Int)), (0, x7), (0, x70)]) (S' := [(2, 192)]) r_142_162 rfl rfl rfl ?_
                refine gx_gf (x := 201) 2 r_142_163 rfl (tk_192 hT) ⟨by decide, rfl, by decide, by decide⟩ rfl (fun _ => by decide) (pr_192_17 h_n136) ?_
                refine gx_st (L' := [(2, 192), (0, (h : Int)), (0, a), (0, (n : Int)), (0, x7), (0, x70)]) (S' := [(0, (h : Int)), (2, 201)]) r_142_166 rfl rfl rfl ?_
                refine gx_st (L' := [(2, 192), (0, (h : Int)), (0, a), (0, (n : Int)), (0, x7), (0, x70)]) (S' := [(0, 5), (0, (h : Int)), (2, 201)]) r_142_167 rfl rfl rfl ?_
                obtain ⟨m20, e_m20⟩ : ∃ z, z = nu_up n136 201 (h) 5 := ⟨_, rfl⟩
                have h_m20 : Gam m20 := by rw [e_m20]; exact gu_201 h_n136 (i := h) (by omega) (by omega)
                have f_m20 : Fr [90021, 90022, 98999, 99999, 100999, 102999] m m20 := Fr_tr f_n136 (by rw [e_m20]; exact Fr_ua rfl rfl)
                have s_m20 : FS m20 := FS_fr (W := [99999]) (by rw [e_m20]; exact Fr_ua rfl rfl) (by decide) s_n136
                have r_m20 : RowFr n m m20 := by rw [e_m20]; exact RowFr_no r_n136 (by decide)
                have aw_m20 : m20 200 (16 * n) = (m 200 (16 * h)) := by rw [e_m20, nu_no (by decide)]; exact aw_n136
                have ow_m20 : m20 200 (16 * n + 1) = (m 200 (16 * h + 1)) := by rw [e_m20, nu_no (by decide)]; exact ow_n136
                refine gx_is (n := h) (x := 5) r_142_168 rfl (by decide) (tk_201 hT) (by omega) ⟨rfl, by omega⟩ e_m20.symm ?_
                refine gx_st (L' := [(2, 192), (0, (h : Int)), (0, a), (0, (n : Int)), (0, x7), (0, x70)]) (S' := [(2, 192)]) r_142_169 rfl rfl rfl ?_
                refine gx_st (L' := [(2, 192), (0, (h : Int)), (0, a), (0, (n : Int)), (0, x7), (0, x70)]) (S' := [(0, (h : Int)), (2, 192)]) r_142_170 rfl rfl rfl ?_
                refine gx_st (L' := [(2, 192), (0, (h : Int)), (0, a), (0, (n : Int)), (0, x7), (0, x70)]) (S' := [(0, 1), (0, (h : Int)), (2, 192)]) r_142_171 rfl rfl rfl ?_
                refine gx_cv (nx := 175) (S2 := []) (x_140 hT h_m20 hh hn (x := 1) (by omega) (by omega)) r_142_172 rfl rfl rfl rfl rfl (rcv_v rfl (tk_192 hT) (by decide) rfl (by decide)) rfl (by decide) rfl (fun n172 q172 => ?_)
                refine gx_st (L' := [(2, 192), (0, (h : Int)), (0, a), (0, (n : Int)), (0, x7), (0, x70)]) (S' := []) r_142_175 rfl rfl rfl ?_
                exact gx_rt r_142_208 rfl rfl ⟨rfl, RD_tr r_m20 f_m20 q172⟩
          · have h141 := Decidable.not_not.mp h141
            refine gx_st (L' := [(2, 192), (0, (h : Int)), (0, a), (0, (n : Int)), (0, x7), (0, x70)]) (S' := [(2, 192)]) r_142_144 rfl rfl rfl ?_
            refine gx_st (L' := [(2, 192), (0, (h : Int)), (0, a), (0, (n : Int)), (0, x7), (0, x70)]) (S' := [(0, (h : Int)), (2, 192)]) r_142_145 rfl rfl rfl ?_
            refine gx_cv (nx := 149) (S2 := []) (x_141 hT h_n136 hh hn s_n136 (by rw [ow_n136]; omega) (by rw [r_n136 (16 * h) (by omega)]; omega) (by rw [aw_n136]; omega)) r_142_146 rfl rfl rfl rfl rfl (rcv_v rfl (tk_192 hT) (by decide) rfl (by decide)) rfl (by decide) rfl (fun n146 q146 => ?_)
            refine gx_st (L' := [(2, 192), (0, (h : Int)), (0, a), (0, (n : Int)), (0, x7), (0, x70)]) (S' := []) r_142_149 rfl rfl rfl ?_
            exact gx_rt r_142_208 rfl rfl ⟨rfl, RD_tr r_n136 f_n136 q146⟩
        · refine gx_st (L' := [(2, 192), (0, (h : Int)), (0, a), (0, (n : Int)), (0, x7), (0, x70)]) (S' := [(0, 1), (0, (h : Int)), (2, 202)]) r_142_119 rfl rfl rfl ?_
          refine gx_st (L' := [(2, 192), (0, (h : Int)), (0, a), (0, (n : Int)), (0, x7), (0, x70)]) (S' := [(0, 1), (0, (h : Int)), (2, 202)]) r_142_120 rfl rfl rfl ?_
          obtain ⟨m21, e_m21⟩ : ∃ z, z = nu_up m2 202 (h) 1 := ⟨_, rfl⟩
          have h_m21 : Gam m21 := by rw [e_m21]; exact gu_202 h_m2 (i := h) (by omega) (by omega)
          have f_m21 : Fr [90021, 90022, 98999, 99999, 100999, 102999] m m21 := Fr_tr f_m2 (by rw [e_m21]; exact Fr_ua rfl rfl)
          have s_m21 : FS m21 := FS_fr (W := [100999]) (by rw [e_m21]; exact Fr_ua rfl rfl) (by decide) s_m2
          have r_m21 : RowFr n m m21 := by rw [e_m21]; exact RowFr_no r_m2 (by decide)
          have aw_m21 : m21 200 (16 * n) = (m 200 (16 * h)) := by rw [e_m21, nu_no (by decide)]; exact aw_m2
          have ow_m21 : m21 200 (16 * n + 1) = (m 200 (16 * h + 1)) := by rw [e_m21, nu_no (by decide)]; exact ow_m2
          refine gx_is (n := h) (x := 1) r_142_124 rfl (by decide) (tk_202 hT) (by omega) ⟨rfl, by omega⟩ e_m21.symm ?_
          refine gx_st (L' := [(2, 192), (0, (h : Int)), (0, a), (0, (n : Int)), (0, x7), (0, x70)]) (S' := [(2, 192)]) r_142_125 rfl rfl rfl ?_
          refine gx_st (L' := [(2, 192), (0, (h : Int)), (0, a), (0, (n : Int)), (0, x7), (0, x70)]) (S' := [(0, (n : Int)), (2, 192)]) r_142_126 rfl rfl rfl ?_
          refine gx_st (L' := [(2, 192), (0, (h : Int)), (0, a), (0, (n : Int)), (0, x7), (0, x70)]) (S' := [(0, 3), (0, (n : Int)), (2, 192)]) r_142_127 rfl rfl rfl ?_
          refine gx_st (L' := [(2, 192), (0, (h : Int)), (0, a), (0, (n : Int)), (0, x7), (0, x70)]) (S' := [(0, 0), (0, 3), (0, (n : Int)), (2, 192)]) r_142_128 rfl rfl rfl ?_
          refine gx_st (L' := [(2, 192), (0, (h : Int)), (0, a), (0, (n : Int)), (0, x7), (0, x70)]) (S' := [(0, x70), (0, 0), (0, 3), (0, (n : Int)), (2, 192)]) r_142_129 rfl rfl rfl ?_
          refine gx_st (L' := [(2, 192), (0, (h : Int)), (0, a), (0, (n : Int)), (0, x7), (0, x70)]) (S' := [(0, 1), (0, x70), (0, 0), (0, 3), (0, (n : Int)), (2, 192)]) r_142_131 rfl rfl rfl ?_
          refine gx_ar (L' := [(2, 192), (0, (h : Int)), (0, a), (0, (n : Int)), (0, x7), (0, x70)]) (S' := [(0, 0), (0, 3), (0, (n : Int)), (2, 192)]) (t := 0) (e := w32 (x70 - 1)) (z := x70 - 1) r_142_132 rfl rfl rfl (w32_eq (by omega) (by omega) (by omega)) ?_
          refine gx_st (L' := [(2, 192), (0, (h : Int)), (0, a), (0, (n : Int)), (0, x7), (0, x70)]) (S' := [(0, (max 0 (x70 - 1))), (0, 3), (0, (n : Int)), (2, 192)]) r_142_133 rfl rfl rfl ?_
          refine gx_cv (nx := 139) (S2 := []) (x_132 hT h_m21 (h := n) (k := 3) (by omega) (by omega) ((max 0 (x70 - 1)))) r_142_136 rfl rfl rfl rfl rfl (rcv_v rfl (tk_192 hT) (by decide) rfl (by decide)) rfl (by decide) rfl (fun n136 q136 => ?_)
          have h_n136 : Gam n136 := by rw [q136]; exact gu_200_dr h_m21 (h := n) (by omega) (by omega) (by omega)
          have f_n136 : Fr [90021, 90022, 98999, 99999, 100999, 102999] m n136 := Fr_tr f_m21 (by rw [q136]; exact Fr_ua rfl rfl)
          have r_n136 : RowFr n m n136 := by rw [q136]; exact RowFr_up r_m21 (by omega) (by omega)
          have aw_n136 : n136 200 (16 * n) = (m 200 (16 * h)) := by rw [q136, nu_ne (by omega)]; exact aw_m21
          have ow_n136 : n136 200 (16 * n + 1) = (m 200 (16 * h + 1)) := by rw [q136, nu_ne (by omega)]; exact ow_m21
          have s_n136 : FS n136 := FS_fr (W := [98999]) (by rw [q136]; exact Fr_ua rfl rfl) (by decide) s_m21
          show GX T 5 142 139 [(2, 192), (0, (h : Int)), (0, a), (0, (n : Int)), (0, x7), (0, x70)] [] n136 (RV (RD n m))
          refine gx_st (L' := [(2, 192), (0, (h : Int)), (0, a), (0, (n : Int)), (0, x7), (0, x70)]) (S' := [(0, x70)]) r_142_139 rfl rfl rfl ?_
          refine gx_i0 (P := ¬ x70 = 0) r_142_141 (rfl) (fun h141 => ?_) (fun h141 => ?_)
          · refine gx_st (L' := [(2, 192), (0, (h : Int)), (0, a), (0, (n : Int)), (0, x7), (0, x70)]) (S' := [(0, x7)]) r_142_152 rfl rfl rfl ?_
            refine gx_i0 (P := x7 = 0) r_142_154 (rfl) (fun h154 => ?_) (fun h154 => ?_)
            · refine gx_st (L' := [(2, 192), (0, (h : Int)), (0, a), (0, (n : Int)), (0, x7), (0, x70)]) (S' := [(0, x7)]) r_142_178 rfl rfl rfl ?_
              refine gx_i0 (P := x7 = 0) r_142_180 (rfl) (fun h180 => ?_) (fun h180 => ?_)
              · refine gx_st (L' := [(2, 192), (0, (h : Int)), (0, a), (0, (n : Int)), (0, x7), (0, x70)]) (S' := [(2, 192)]) r_142_201 rfl rfl rfl ?_
                refine gx_gf (x := 201) 2 r_142_202 rfl (tk_192 hT) ⟨by decide, rfl, by decide, by decide⟩ rfl (fun _ => by decide) (pr_192_17 h_n136) ?_
                refine gx_st (L' := [(2, 192), (0, (h : Int)), (0, a), (0, (n : Int)), (0, x7), (0, x70)]) (S' := [(0, (h : Int)), (2, 201)]) r_142_205 rfl rfl rfl ?_
                refine gx_st (L' := [(2, 192), (0, (h : Int)), (0, a), (0, (n : Int)), (0, x7), (0, x70)]) (S' := [(0, 1), (0, (h : Int)), (2, 201)]) r_142_206 rfl rfl rfl ?_
                obtain ⟨m22, e_m22⟩ : ∃ z, z = nu_up n136 201 (h) 1 := ⟨_, rfl⟩
                have h_m22 : Gam m22 := by rw [e_m22]; exact gu_201 h_n136 (i := h) (by omega) (by omega)
                have f_m22 : Fr [90021, 90022, 98999, 99999, 100999, 102999] m m22 := Fr_tr f_n136 (by rw [e_m22]; exact Fr_ua rfl rfl)
                have s_m22 : FS m22 := FS_fr (W := [99999]) (by rw [e_m22]; exact Fr_ua rfl rfl) (by decide) s_n136
                have r_m22 : RowFr n m m22 := by rw [e_m22]; exact RowFr_no r_n136 (by decide)
                have aw_m22 : m22 200 (16 * n) = (m 200 (16 * h)) := by rw [e_m22, nu_no (by decide)]; exact aw_n136
                have ow_m22 : m22 200 (16 * n + 1) = (m 200 (16 * h + 1)) := by rw [e_m22, nu_no (by decide)]; exact ow_n136
                refine gx_is (n := h) (x := 1) r_142_207 rfl (by decide) (tk_201 hT) (by omega) ⟨rfl, by omega⟩ e_m22.symm ?_
                exact gx_rt r_142_208 rfl rfl ⟨rfl, h_m22, r_m22, Or.inr (by rw [aw_m22] <;> omega), f_m22⟩
              · refine gx_st (L' := [(2, 192), (0, (h : Int)), (0, a), (0, (n : Int)), (0, x7), (0, x70)]) (S' := [(0, a)]) r_142_183 rfl rfl rfl ?_
                refine gx_st (L' := [(2, 192), (0, (h : Int)), (0, a), (0, (n : Int)), (0, x7), (0, x70)]) (S' := [(0, 10), (0, a)]) r_142_184 rfl rfl rfl ?_
                refine gx_ic (P := a < 10) r_142_186 (rfl) (fun h186 => ?_) (fun h186 => ?_)
                · refine gx_st (L' := [(2, 192), (0, (h : Int)), (0, a), (0, (n : Int)), (0, x7), (0, x70)]) (S' := [(2, 192)]) r_142_201 rfl rfl rfl ?_
                  refine gx_gf (x := 201) 2 r_142_202 rfl (tk_192 hT) ⟨by decide, rfl, by decide, by decide⟩ rfl (fun _ => by decide) (pr_192_17 h_n136) ?_
                  refine gx_st (L' := [(2, 192), (0, (h : Int)), (0, a), (0, (n : Int)), (0, x7), (0, x70)]) (S' := [(0, (h : Int)), (2, 201)]) r_142_205 rfl rfl rfl ?_
                  refine gx_st (L' := [(2, 192), (0, (h : Int)), (0, a), (0, (n : Int)), (0, x7), (0, x70)]) (S' := [(0, 1), (0, (h : Int)), (2, 201)]) r_142_206 rfl rfl rfl ?_
                  obtain ⟨m23, e_m23⟩ : ∃ z, z = nu_up n136 201 (h) 1 := ⟨_, rfl⟩
                  have h_m23 : Gam m23 := by rw [e_m23]; exact gu_201 h_n136 (i := h) (by omega) (by omega)
                  have f_m23 : Fr [90021, 90022, 98999, 99999, 100999, 102999] m m23 := Fr_tr f_n136 (by rw [e_m23]; exact Fr_ua rfl rfl)
                  have s_m23 : FS m23 := FS_fr (W := [99999]) (by rw [e_m23]; exact Fr_ua rfl rfl) (by decide) s_n136
                  have r_m23 : RowFr n m m23 := by rw [e_m23]; exact RowFr_no r_n136 (by decide)
                  have aw_m23 : m23 200 (16 * n) = (m 200 (16 * h)) := by rw [e_m23, nu_no (by decide)]; exact aw_n136
                  have ow_m23 : m23 200 (16 * n + 1) = (m 200 (16 * h + 1)) := by rw [e_m23, nu_no (by decide)]; exact ow_n136
                  refine gx_is (n := h) (x := 1) r_142_207 rfl (by decide) (tk_201 hT) (by omega) ⟨rfl, by omega⟩ e_m23.symm ?_
                  exact gx_rt r_142_208 rfl rfl ⟨rfl, h_m23, r_m23, Or.inr (by rw [aw_m23] <;> omega), f_m23⟩
                · obtain ⟨t, ht⟩ : ∃ t : Nat, a = 10 + (t : Int) := ⟨(a - 10).toNat, by omega⟩
                  refine gx_st (L' := [(2, 192), (0, (h : Int)), (0, a), (0, (n : Int)), (0, x7), (0, x70)]) (S' := [(2, 192)]) r_142_189 rfl rfl rfl ?_
                  refine gx_st (L' := [(2, 192), (0, (h : Int)), (0, a), (0, (n : Int)), (0, x7), (0, x70)]) (S' := [(0, (h : Int)), (2, 192)]) r_142_190 rfl rfl rfl ?_
                  refine gx_st (L' := [(2, 192), (0, (h : Int)), (0, a), (0, (n : Int)), (0, x7), (0, x70)]) (S' := [(0, a), (0, (h : Int)), (2, 192)]) r_142_191 rfl rfl rfl ?_
                  refine gx_st (L' := [(2, 192), (0, (h : Int)), (0, a), (0, (n : Int)), (0, x7), (0, x70)]) (S' := [(0, 10), (0, a), (0, (h : Int)), (2, 192)]) r_142_192 rfl rfl rfl ?_
                  refine gx_ar (L' := [(2, 192), (0, (h : Int)), (0, a), (0, (n : Int)), (0, x7), (0, x70)]) (S' := [(0, (h : Int)), (2, 192)]) (t := 0) (e := w32 (a - 10)) (z := (t : Int)) r_142_194 rfl rfl rfl (w32_eq (by omega) (by omega) (by omega)) ?_
                  refine gx_cv (nx := 198) (S2 := []) (x_139 hT h_n136 hh hn (t := t) (by omega) (by rw [ow_n136]; omega)) r_142_195 rfl rfl rfl rfl rfl (rcv_v rfl (tk_192 hT) (by decide) rfl (by decide)) rfl (by decide) rfl (fun n195 q195 => ?_)
                  refine gx_st (L' := [(2, 192), (0, (h : Int)), (0, a), (0, (n : Int)), (0, x7), (0, x70)]) (S' := []) r_142_198 rfl rfl rfl ?_
                  exact gx_rt r_142_208 rfl rfl ⟨rfl, RD_tr r_n136 f_n136 q195⟩
            · refine gx_st (L' := [(2, 192), (0, (h : Int)), (0, a), (0, (n : Int)), (0, x7), (0, x70)]) (S' := [(0, a)]) r_142_157 rfl rfl rfl ?_
              refine gx_st (L' := [(2, 192), (0, (h : Int)), (0, a), (0, (n : Int)), (0, x7), (0, x70)]) (S' := [(0, 2), (0, a)]) r_142_158 rfl rfl rfl ?_
              refine gx_ic (P := ¬ a = 2) r_142_159 (rfl) (fun h159 => ?_) (fun h159 => ?_)
              · refine gx_st (L' := [(2, 192), (0, (h : Int)), (0, a), (0, (n : Int)), (0, x7), (0, x70)]) (S' := [(0, x7)]) r_142_178 rfl rfl rfl ?_
                refine gx_i0 (P := x7 = 0) r_142_180 (rfl) (fun h180 => ?_) (fun h180 => ?_)
                · refine gx_st (L' := [(2, 192), (0, (h : Int)), (0, a), (0, (n : Int)), (0, x7), (0, x70)]) (S' := [(2, 192)]) r_142_201 rfl rfl rfl ?_
                  refine gx_gf (x := 201) 2 r_142_202 rfl (tk_192 hT) ⟨by decide, rfl, by decide, by decide⟩ rfl (fun _ => by decide) (pr_192_17 h_n136) ?_
                  refine gx_st (L' := [(2, 192), (0, (h : Int)), (0, a), (0, (n : Int)), (0, x7), (0, x70)]) (S' := [(0, (h : Int)), (2, 201)]) r_142_205 rfl rfl rfl ?_
                  refine gx_st (L' := [(2, 192), (0, (h : Int)), (0, a), (0, (n : Int)), (0, x7), (0, x70)]) (S' := [(0, 1), (0, (h : Int)), (2, 201)]) r_142_206 rfl rfl rfl ?_
                  obtain ⟨m24, e_m24⟩ : ∃ z, z = nu_up n136 201 (h) 1 := ⟨_, rfl⟩
                  have h_m24 : Gam m24 := by rw [e_m24]; exact gu_201 h_n136 (i := h) (by omega) (by omega)
                  have f_m24 : Fr [90021, 90022, 98999, 99999, 100999, 102999] m m24 := Fr_tr f_n136 (by rw [e_m24]; exact Fr_ua rfl rfl)
                  have s_m24 : FS m24 := FS_fr (W := [99999]) (by rw [e_m24]; exact Fr_ua rfl rfl) (by decide) s_n136
                  have r_m24 : RowFr n m m24 := by rw [e_m24]; exact RowFr_no r_n136 (by decide)
                  have aw_m24 : m24 200 (16 * n) = (m 200 (16 * h)) := by rw [e_m24, nu_no (by decide)]; exact aw_n136
                  have ow_m24 : m24 200 (16 * n + 1) = (m 200 (16 * h + 1)) := by rw [e_m24, nu_no (by decide)]; exact ow_n136
                  refine gx_is (n := h) (x := 1) r_142_207 rfl (by decide) (tk_201 hT) (by omega) ⟨rfl, by omega⟩ e_m24.symm ?_
                  exact gx_rt r_142_208 rfl rfl ⟨rfl, h_m24, r_m24, Or.inr (by rw [aw_m24] <;> omega), f_m24⟩
                · refine gx_st (L' := [(2, 192), (0, (h : Int)), (0, a), (0, (n : Int)), (0, x7), (0, x70)]) (S' := [(0, a)]) r_142_183 rfl rfl rfl ?_
                  refine gx_st (L' := [(2, 192), (0, (h : Int)), (0, a), (0, (n : Int)), (0, x7), (0, x70)]) (S' := [(0, 10), (0, a)]) r_142_184 rfl rfl rfl ?_
                  refine gx_ic (P := a < 10) r_142_186 (rfl) (fun h186 => ?_) (fun h186 => ?_)
                  · refine gx_st (L' := [(2, 192), (0, (h : Int)), (0, a), (0, (n : Int)), (0, x7), (0, x70)]) (S' := [(2, 192)]) r_142_201 rfl rfl rfl ?_
                    refine gx_gf (x := 201) 2 r_142_202 rfl (tk_192 hT) ⟨by decide, rfl, by decide, by decide⟩ rfl (fun _ => by decide) (pr_192_17 h_n136) ?_
                    refine gx_st (L' := [(2, 192), (0, (h : Int)), (0, a), (0, (n : Int)), (0, x7), (0, x70)]) (S' := [(0, (h : Int)), (2, 201)]) r_142_205 rfl rfl rfl ?_
                    refine gx_st (L' := [(2, 192), (0, (h : Int)), (0, a), (0, (n : Int)), (0, x7), (0, x70)]) (S' := [(0, 1), (0, (h : Int)), (2, 201)]) r_142_206 rfl rfl rfl ?_
                    obtain ⟨m25, e_m25⟩ : ∃ z, z = nu_up n136 201 (h) 1 := ⟨_, rfl⟩
                    have h_m25 : Gam m25 := by rw [e_m25]; exact gu_201 h_n136 (i := h) (by omega) (by omega)
                    have f_m25 : Fr [90021, 90022, 98999, 99999, 100999, 102999] m m25 := Fr_tr f_n136 (by rw [e_m25]; exact Fr_ua rfl rfl)
                    have s_m25 : FS m25 := FS_fr (W := [99999]) (by rw [e_m25]; exact Fr_ua rfl rfl) (by decide) s_n136
                    have r_m25 : RowFr n m m25 := by rw [e_m25]; exact RowFr_no r_n136 (by decide)
                    have aw_m25 : m25 200 (16 * n) = (m 200 (16 * h)) := by rw [e_m25, nu_no (by decide)]; exact aw_n136
                    have ow_m25 : m25 200 (16 * n + 1) = (m 200 (16 * h + 1)) := by rw [e_m25, nu_no (by decide)]; exact ow_n136
                    refine gx_is (n := h) (x := 1) r_142_207 rfl (by decide) (tk_201 hT) (by omega) ⟨rfl, by omega⟩ e_m25.symm ?_
                    exact gx_rt r_142_208 rfl rfl ⟨rfl, h_m25, r_m25, Or.inr (by rw [aw_m25] <;> omega), f_m25⟩
                  · obtain ⟨t, ht⟩ : ∃ t : Nat, a = 10 + (t : Int) := ⟨(a - 10).toNat, by omega⟩
                    refine gx_st (L' := [(2, 192), (0, (h : Int)), (0, a), (0, (n : Int)), (0, x7), (0, x70)]) (S' := [(2, 192)]) r_142_189 rfl rfl rfl ?_
                    refine gx_st (L' := [(2, 192), (0, (h : Int)), (0, a), (0, (n : Int)), (0, x7), (0, x70)]) (S' := [(0, (h : Int)), (2, 192)]) r_142_190 rfl rfl rfl ?_
                    refine gx_st (L' := [(2, 192), (0, (h : Int)), (0, a), (0, (n : Int)), (0, x7), (0, x70)]) (S' := [(0, a), (0, (h : Int)), (2, 192)]) r_142_191 rfl rfl rfl ?_
                    refine gx_st (L' := [(2, 192), (0, (h : Int)), (0, a), (0, (n : Int)), (0, x7), (0, x70)]) (S' := [(0, 10), (0, a), (0, (h : Int)), (2, 192)]) r_142_192 rfl rfl rfl ?_
                    refine gx_ar (L' := [(2, 192), (0, (h : Int)), (0, a), (0, (n : Int)), (0, x7), (0, x70)]) (S' := [(0, (h : Int)), (2, 192)]) (t := 0) (e := w32 (a - 10)) (z := (t : Int)) r_142_194 rfl rfl rfl (w32_eq (by omega) (by omega) (by omega)) ?_
                    refine gx_cv (nx := 198) (S2 := []) (x_139 hT h_n136 hh hn (t := t) (by omega) (by rw [ow_n136]; omega)) r_142_195 rfl rfl rfl rfl rfl (rcv_v rfl (tk_192 hT) (by decide) rfl (by decide)) rfl (by decide) rfl (fun n195 q195 => ?_)
                    refine gx_st (L' := [(2, 192), (0, (h : Int)), (0, a), (0, (n : Int)), (0, x7), (0, x70)]) (S' := []) r_142_198 rfl rfl rfl ?_
                    exact gx_rt r_142_208 rfl rfl ⟨rfl, RD_tr r_n136 f_n136 q195⟩
              · have h159 := Decidable.not_not.mp h159
                refine gx_st (L' := [(2, 192), (0, (h : Int)), (0, a), (0, (n : Int)), (0, x7), (0, x70)]) (S' := [(2, 192)]) r_142_162 rfl rfl rfl ?_
                refine gx_gf (x := 201) 2 r_142_163 rfl (tk_192 hT) ⟨by decide, rfl, by decide, by decide⟩ rfl (fun _ => by decide) (pr_192_17 h_n136) ?_
                refine gx_st (L' := [(2, 192), (0, (h : Int)), (0, a), (0, (n : Int)), (0, x7), (0, x70)]) (S' := [(0, (h : Int)), (2, 201)]) r_142_166 rfl rfl rfl ?_
                refine gx_st (L' := [(2, 192), (0, (h : Int)), (0, a), (0, (n : Int)), (0, x7), (0, x70)]) (S' := [(0, 5), (0, (h : Int)), (2, 201)]) r_142_167 rfl rfl rfl ?_
                obtain ⟨m26, e_m26⟩ : ∃ z, z = nu_up n136 201 (h) 5 := ⟨_, rfl⟩
                have h_m26 : Gam m26 := by rw [e_m26]; exact gu_201 h_n136 (i := h) (by omega) (by omega)
                have f_m26 : Fr [90021, 90022, 98999, 99999, 100999, 102999] m m26 := Fr_tr f_n136 (by rw [e_m26]; exact Fr_ua rfl rfl)
                have s_m26 : FS m26 := FS_fr (W := [99999]) (by rw [e_m26]; exact Fr_ua rfl rfl) (by decide) s_n136
                have r_m26 : RowFr n m m26 := by rw [e_m26]; exact RowFr_no r_n136 (by decide)
                have aw_m26 : m26 200 (16 * n) = (m 200 (16 * h)) := by rw [e_m26, nu_no (by decide)]; exact aw_n136
                have ow_m26 : m26 200 (16 * n + 1) = (m 200 (16 * h + 1)) := by rw [e_m26, nu_no (by decide)]; exact ow_n136
                refine gx_is (n := h) (x := 5) r_142_168 rfl (by decide) (tk_201 hT) (by omega) ⟨rfl, by omega⟩ e_m26.symm ?_
                refine gx_st (L' := [(2, 192), (0, (h : Int)), (0, a), (0, (n : Int)), (0, x7), (0, x70)]) (S' := [(2, 192)]) r_142_169 rfl rfl rfl ?_
                refine gx_st (L' := [(2, 192), (0, (h : Int)), (0, a), (0, (n : Int)), (0, x7), (0, x70)]) (S' := [(0, (h : Int)), (2, 192)]) r_142_170 rfl rfl rfl ?_
                refine gx_st (L' := [(2, 192), (0, (h : Int)), (0, a), (0, (n : Int)), (0, x7), (0, x70)]) (S' := [(0, 1), (0, (h : Int)), (2, 192)]) r_142_171 rfl rfl rfl ?_
                refine gx_cv (nx := 175) (S2 := []) (x_140 hT h_m26 hh hn (x := 1) (by omega) (by omega)) r_142_172 rfl rfl rfl rfl rfl (rcv_v rfl (tk_192 hT) (by decide) rfl (by decide)) rfl (by decide) rfl (fun n172 q172 => ?_)
                refine gx_st (L' := [(2, 192), (0, (h : Int)), (0, a), (0, (n : Int)), (0, x7), (0, x70)]) (S' := []) r_142_175 rfl rfl rfl ?_
                exact gx_rt r_142_208 rfl rfl ⟨rfl, RD_tr r_m26 f_m26 q172⟩
          · have h141 := Decidable.not_not.mp h141
            refine gx_st (L' := [(2, 192), (0, (h : Int)), (0, a), (0, (n : Int)), (0, x7), (0, x70)]) (S' := [(2, 192)]) r_142_144 rfl rfl rfl ?_
            refine gx_st (L' := [(2, 192), (0, (h : Int)), (0, a), (0, (n : Int)), (0, x7), (0, x70)]) (S' := [(0, (h : Int)), (2, 192)]) r_142_145 rfl rfl rfl ?_
            refine gx_cv (nx := 149) (S2 := []) (x_141 hT h_n136 hh hn s_n136 (by rw [ow_n136]; omega) (by rw [r_n136 (16 * h) (by omega)]; omega) (by rw [aw_n136]; omega)) r_142_146 rfl rfl rfl rfl rfl (rcv_v rfl (tk_192 hT) (by decide) rfl (by decide)) rfl (by decide) rfl (fun n146 q146 => ?_)
            refine gx_st (L' := [(2, 192), (0, (h : Int)), (0, a), (0, (n : Int)), (0, x7), (0, x70)]) (S' := []) r_142_149 rfl rfl rfl ?_
            exact gx_rt r_142_208 rfl rfl ⟨rfl, RD_tr r_n136 f_n136 q146⟩
      · have h82 := Decidable.not_not.mp h82
        refine gx_st (L' := [(2, 192), (0, (h : Int)), (0, a), (0, (n : Int)), (0, x7), (0, x70)]) (S' := [(2, 192)]) r_142_85 rfl rfl rfl ?_
        refine gx_st (L' := [(2, 192), (0, (h : Int)), (0, a), (0, (n : Int)), (0, x7), (0, x70)]) (S' := [(0, (n : Int)), (2, 192)]) r_142_86 rfl rfl rfl ?_
        refine gx_st (L' := [(2, 192), (0, (h : Int)), (0, a), (0, (n : Int)), (0, x7), (0, x70)]) (S' := [(0, 4), (0, (n : Int)), (2, 192)]) r_142_87 rfl rfl rfl ?_
        refine gx_st (L' := [(2, 192), (0, (h : Int)), (0, a), (0, (n : Int)), (0, x7), (0, x70)]) (S' := [(2, 192), (0, 4), (0, (n : Int)), (2, 192)]) r_142_88 rfl rfl rfl ?_
        refine gx_st (L' := [(2, 192), (0, (h : Int)), (0, a), (0, (n : Int)), (0, x7), (0, x70)]) (S' := [(0, (n : Int)), (2, 192), (0, 4), (0, (n : Int)), (2, 192)]) r_142_89 rfl rfl rfl ?_
        refine gx_st (L' := [(2, 192), (0, (h : Int)), (0, a), (0, (n : Int)), (0, x7), (0, x70)]) (S' := [(0, 4), (0, (n : Int)), (2, 192), (0, 4), (0, (n : Int)), (2, 192)]) r_142_90 rfl rfl rfl ?_
        refine gx_ci (nx := 94) (S2 := [(0, 4), (0, (n : Int)), (2, 192)]) (x_131 hT h_m2 (h := n) (k := 4) (by omega) (by omega)) r_142_91 rfl rfl rfl rfl rfl (rcv_v rfl (tk_192 hT) (by decide) rfl (by decide)) rfl (by decide) rfl (fun x91 n91 q91 => ?_)
        obtain ⟨e_x91, z_x91⟩ := q91
        obtain rfl := z_x91.symm
        have b_x91 := gb_200 h_m2 (i := 16 * (n) + (4)) (by omega)
        rw [← e_x91] at b_x91
        show GX T 5 142 94 [(2, 192), (0, (h : Int)), (0, a), (0, (n : Int)), (0, x7), (0, x70)] [(0, x91), (0, 4), (0, (n : Int)), (2, 192)] m2 (RV (RD n m))
        refine gx_st (L' := [(2, 192), (0, (h : Int)), (0, a), (0, (n : Int)), (0, x7), (0, x70)]) (S' := [(0, 1), (0, x91), (0, 4), (0, (n : Int)), (2, 192)]) r_142_94 rfl rfl rfl ?_
        refine gx_st (L' := [(2, 192), (0, (h : Int)), (0, a), (0, (n : Int)), (0, x7), (0, x70)]) (S' := [(2, 192), (0, 1), (0, x91), (0, 4), (0, (n : Int)), (2, 192)]) r_142_95 rfl rfl rfl ?_
        refine gx_st (L' := [(2, 192), (0, (h : Int)), (0, a), (0, (n : Int)), (0, x7), (0, x70)]) (S' := [(0, (h : Int)), (2, 192), (0, 1), (0, x91), (0, 4), (0, (n : Int)), (2, 192)]) r_142_96 rfl rfl rfl ?_
        refine gx_st (L' := [(2, 192), (0, (h : Int)), (0, a), (0, (n : Int)), (0, x7), (0, x70)]) (S' := [(0, (h : Int)), (0, (h : Int)), (2, 192), (0, 1), (0, x91), (0, 4), (0, (n : Int)), (2, 192)]) r_142_97 rfl rfl rfl ?_
        refine gx_ci (nx := 101) (S2 := [(0, 1), (0, x91), (0, 4), (0, (n : Int)), (2, 192)]) (gx_hi (args := [(2, 192), (0, (h : Int)), (0, (h : Int))]) h136 ⟨gq_o192, gq_any (by omega) (by omega), gq_any (by omega) (by omega), trivial⟩ h_m2 rfl) r_142_98 rfl rfl rfl rfl rfl (rcv_v rfl (tk_192 hT) (by decide) rfl (by decide)) rfl (by decide) rfl (fun x98 n98 q98 => ?_)
        obtain rfl := (Fr_nil q98.2.2.2).symm
        have b_x98 := And.intro q98.1 q98.2.1
        show GX T 5 142 101 [(2, 192), (0, (h : Int)), (0, a), (0, (n : Int)), (0, x7), (0, x70)] [(0, x98), (0, 1), (0, x91), (0, 4), (0, (n : Int)), (2, 192)] m2 (RV (RD n m))
        refine gx_st (L' := [(2, 192), (0, (h : Int)), (0, a), (0, (n : Int)), (0, x7), (0, x70)]) (S' := [(0, (ishl 1 x98)), (0, x91), (0, 4), (0, (n : Int)), (2, 192)]) r_142_101 rfl rfl rfl ?_
        have b102 : -2147483648 ≤ (ishl 1 x98) ∧ (ishl 1 x98) ≤ 2147483647 := i32_in _
        refine gx_st (L' := [(2, 192), (0, (h : Int)), (0, a), (0, (n : Int)), (0, x7), (0, x70)]) (S' := [(0, (ior x91 (ishl 1 x98))), (0, 4), (0, (n : Int)), (2, 192)]) r_142_102 rfl rfl rfl ?_
        have b103 : -2147483648 ≤ (ior x91 (ishl 1 x98)) ∧ (ior x91 (ishl 1 x98)) ≤ 2147483647 := i32_in _
        refine gx_cv (nx := 106) (S2 := []) (x_132 hT h_m2 (h := n) (k := 4) (by omega) (by omega) ((ior x91 (ishl 1 x98)))) r_142_103 rfl rfl rfl rfl rfl (rcv_v rfl (tk_192 hT) (by decide) rfl (by decide)) rfl (by decide) rfl (fun n103 q103 => ?_)
        have h_n103 : Gam n103 := by rw [q103]; exact gu_200_x h_m2 (i := 16 * n + 4) (by omega) (by omega) (by omega) (by omega) (by omega) (by omega)
        have f_n103 : Fr [90021, 90022, 98999, 99999, 100999, 102999] m n103 := Fr_tr f_m2 (by rw [q103]; exact Fr_ua rfl rfl)
        have r_n103 : RowFr n m n103 := by rw [q103]; exact RowFr_up r_m2 (by omega) (by omega)
        have aw_n103 : n103 200 (16 * n) = (m 200 (16 * h)) := by rw [q103, nu_ne (by omega)]; exact aw_m2
        have ow_n103 : n103 200 (16 * n + 1) = (m 200 (16 * h + 1)) := by rw [q103, nu_ne (by omega)]; exact ow_m2
        have s_n103 : FS n103 := FS_fr (W := [98999]) (by rw [q103]; exact Fr_ua rfl rfl) (by decide) s_m2
        show GX T 5 142 106 [(2, 192), (0, (h : Int)), (0, a), (0, (n : Int)), (0, x7), (0, x70)] [] n103 (RV (RD n m))
        refine gx_st (L' := [(2, 192), (0, (h : Int)), (0, a), (0, (n : Int)), (0, x7), (0, x70)]) (S' := [(0, 3)]) r_142_106 rfl rfl rfl ?_
        refine gx_st (L' := [(2, 192), (0, (h : Int)), (0, a), (0, (n : Int)), (0, x7), (0, 3)]) (S' := []) r_142_107 rfl rfl rfl ?_
        refine gx_st (L' := [(2, 192), (0, (h : Int)), (0, a), (0, (n : Int)), (0, x7), (0, 3)]) (S' := [(2, 192)]) r_142_109 rfl rfl rfl ?_
        refine gx_gf (x := 202) 2 r_142_110 rfl (tk_192 hT) ⟨by decide, rfl, by decide, by decide⟩ rfl (fun _ => by decide) (pr_192_18 h_n103) ?_
        refine gx_st (L' := [(2, 192), (0, (h : Int)), (0, a), (0, (n : Int)), (0, x7), (0, 3)]) (S' := [(0, (h : Int)), (2, 202)]) r_142_113 rfl rfl rfl ?_
        refine gx_st (L' := [(2, 192), (0, (h : Int)), (0, a), (0, (n : Int)), (0, x7), (0, 3)]) (S' := [(0, 3), (0, (h : Int)), (2, 202)]) r_142_114 rfl rfl rfl ?_
        refine gx_i0 (P := 3 ≤ 0) r_142_116 (rfl) (fun h116 => ?_) (fun h116 => ?_)
        · refine gx_st (L' := [(2, 192), (0, (h : Int)), (0, a), (0, (n : Int)), (0, x7), (0, 3)]) (S' := [(0, 0), (0, (h : Int)), (2, 202)]) r_142_123 rfl rfl rfl ?_
          obtain ⟨m27, e_m27⟩ : ∃ z, z = nu_up n103 202 (h) 0 := ⟨_, rfl⟩
          have h_m27 : Gam m27 := by rw [e_m27]; exact gu_202 h_n103 (i := h) (by omega) (by omega)
          have f_m27 : Fr [90021, 90022, 98999, 99999, 100999, 102999] m m27 := Fr_tr f_n103 (by rw [e_m27]; exact Fr_ua rfl rfl)
          have s_m27 : FS m27 := FS_fr (W := [100999]) (by rw [e_m27]; exact Fr_ua rfl rfl) (by decide) s_n103
          have r_m27 : RowFr n m m27 := by rw [e_m27]; exact RowFr_no r_n103 (by decide)
          have aw_m27 : m27 200 (16 * n) = (m 200 (16 * h)) := by rw [e_m27, nu_no (by decide)]; exact aw_n103
          have ow_m27 : m27 200 (16 * n + 1) = (m 200 (16 * h + 1)) := by rw [e_m27, nu_no (by decide)]; exact ow_n103
          refine gx_is (n := h) (x := 0) r_142_124 rfl (by decide) (tk_202 hT) (by omega) ⟨rfl, by omega⟩ e_m27.symm ?_
          refine gx_st (L' := [(2, 192), (0, (h : Int)), (0, a), (0, (n : Int)), (0, x7), (0, 3)]) (S' := [(2, 192)]) r_142_125 rfl rfl rfl ?_
          refine gx_st (L' := [(2, 192), (0, (h : Int)), (0, a), (0, (n : Int)), (0, x7), (0, 3)]) (S' := [(0, (n : Int)), (2, 192)]) r_142_126 rfl rfl rfl ?_
          refine gx_st (L' := [(2, 192), (0, (h : Int)), (0, a), (0, (n : Int)), (0, x7), (0, 3)]) (S' := [(0, 3), (0, (n : Int)), (2, 192)]) r_142_127 rfl rfl rfl ?_
          refine gx_st (L' := [(2, 192), (0, (h : Int)), (0, a), (0, (n : Int)), (0, x7), (0, 3)]) (S' := [(0, 0), (0, 3), (0, (n : Int)), (2, 192)]) r_142_128 rfl rfl rfl ?_
          refine gx_st (L' := [(2, 192), (0, (h : Int)), (0, a), (0, (n : Int)), (0, x7), (0, 3)]) (S' := [(0, 3), (0, 0), (0, 3), (0, (n : Int)), (2, 192)]) r_142_129 rfl rfl rfl ?_
          refine gx_st (L' := [(2, 192), (0, (h : Int)), (0, a), (0, (n : Int)), (0, x7), (0, 3)]) (S' := [(0, 1), (0, 3), (0, 0), (0, 3), (0, (n : Int)), (2, 192)]) r_142_131 rfl rfl rfl ?_
          refine gx_ar (L' := [(2, 192), (0, (h : Int)), (0, a), (0, (n : Int)), (0, x7), (0, 3)]) (S' := [(0, 0), (0, 3), (0, (n : Int)), (2, 192)]) (t := 0) (e := w32 (3 - 1)) (z := 2) r_142_132 rfl rfl rfl (w32_eq (by omega) (by omega) (by omega)) ?_
          refine gx_st (L' := [(2, 192), (0, (h : Int)), (0, a), (0, (n : Int)), (0, x7), (0, 3)]) (S' := [(0, (max 0 2)), (0, 3), (0, (n : Int)), (2, 192)]) r_142_133 rfl rfl rfl ?_
          refine gx_cv (nx := 139) (S2 := []) (x_132 hT h_m27 (h := n) (k := 3) (by omega) (by omega) (max 0 2)) r_142_136 rfl rfl rfl rfl rfl (rcv_v rfl (tk_192 hT) (by decide) rfl (by decide)) rfl (by decide) rfl (fun n136 q136 => ?_)
          have h_n136 : Gam n136 := by rw [q136]; exact gu_200_dr h_m27 (h := n) (by omega) (by omega) (by omega)
          have f_n136 : Fr [90021, 90022, 98999, 99999, 100999, 102999] m n136 := Fr_tr f_m27 (by rw [q136]; exact Fr_ua rfl rfl)
          have r_n136 : RowFr n m n136 := by rw [q136]; exact RowFr_up r_m27 (by omega) (by omega)
          have aw_n136 : n136 200 (16 * n) = (m 200 (16 * h)) := by rw [q136, nu_ne (by omega)]; exact aw_m27
          have ow_n136 : n136 200 (16 * n + 1) = (m 200 (16 * h + 1)) := by rw [q136, nu_ne (by omega)]; exact ow_m27
          have s_n136 : FS n136 := FS_fr (W := [98999]) (by rw [q136]; exact Fr_ua rfl rfl) (by decide) s_m27
          show GX T 5 142 139 [(2, 192), (0, (h : Int)), (0, a), (0, (n : Int)), (0, x7), (0, 3)] [] n136 (RV (RD n m))
          refine gx_st (L' := [(2, 192), (0, (h : Int)), (0, a), (0, (n : Int)), (0, x7), (0, 3)]) (S' := [(0, 3)]) r_142_139 rfl rfl rfl ?_
          refine gx_i0 (P := ¬ 3 = 0) r_142_141 (rfl) (fun h141 => ?_) (fun h141 => ?_)
          · refine gx_st (L' := [(2, 192), (0, (h : Int)), (0, a), (0, (n : Int)), (0, x7), (0, 3)]) (S' := [(0, x7)]) r_142_152 rfl rfl rfl ?_
            refine gx_i0 (P := x7 = 0) r_142_154 (rfl) (fun h154 => ?_) (fun h154 => ?_)
            · refine gx_st (L' := [(2, 192), (0, (h : Int)), (0, a), (0, (n : Int)), (0, x7), (0, 3)]) (S' := [(0, x7)]) r_142_178 rfl rfl rfl ?_
              refine gx_i0 (P := x7 = 0) r_142_180 (rfl) (fun h180 => ?_) (fun h180 => ?_)
              · refine gx_st (L' := [(2, 192), (0, (h : Int)), (0, a), (0, (n : Int)), (0, x7), (0, 3)]) (S' := [(2, 192)]) r_142_201 rfl rfl rfl ?_
                refine gx_gf (x := 201) 2 r_142_202 rfl (tk_192 hT) ⟨by decide, rfl, by decide, by decide⟩ rfl (fun _ => by decide) (pr_192_17 h_n136) ?_
                refine gx_st (L' := [(2, 192), (0, (h : Int)), (0, a), (0, (n : Int)), (0, x7), (0, 3)]) (S' := [(0, (h : Int)), (2, 201)]) r_142_205 rfl rfl rfl ?_
                refine gx_st (L' := [(2, 192), (0, (h : Int)), (0, a), (0, (n : Int)), (0, x7), (0, 3)]) (S' := [(0, 1), (0, (h : Int)), (2, 201)]) r_142_206 rfl rfl rfl ?_
                obtain ⟨m28, e_m28⟩ : ∃ z, z = nu_up n136 201 (h) 1 := ⟨_, rfl⟩
                have h_m28 : Gam m28 := by rw [e_m28]; exact gu_201 h_n136 (i := h) (by omega) (by omega)
                have f_m28 : Fr [90021, 90022, 98999, 99999, 100999, 102999] m m28 := Fr_tr f_n136 (by rw [e_m28]; exact Fr_ua rfl rfl)
                have s_m28 : FS m28 := FS_fr (W := [99999]) (by rw [e_m28]; exact Fr_ua rfl rfl) (by decide) s_n136
                have r_m28 : RowFr n m m28 := by rw [e_m28]; exact RowFr_no r_n136 (by decide)
                have aw_m28 : m28 200 (16 * n) = (m 200 (16 * h)) := by rw [e_m28, nu_no (by decide)]; exact aw_n136
                have ow_m28 : m28 200 (16 * n + 1) = (m 200 (16 * h + 1)) := by rw [e_m28, nu_no (by decide)]; exact ow_n136
                refine gx_is (n := h) (x := 1) r_142_207 rfl (by decide) (tk_201 hT) (by omega) ⟨rfl, by omega⟩ e_m28.symm ?_
                exact gx_rt r_142_208 rfl rfl ⟨rfl, h_m28, r_m28, Or.inr (by rw [aw_m28] <;> omega), f_m28⟩
              · refine gx_st (L' := [(2, 192), (0, (h : Int)), (0, a), (0, (n : Int)), (0, x7), (0, 3)]) (S' := [(0, a)]) r_142_183 rfl rfl rfl ?_
                refine gx_st (L' := [(2, 192), (0, (h : Int)), (0, a), (0, (n : Int)), (0, x7), (0, 3)]) (S' := [(0, 10), (0, a)]) r_142_184 rfl rfl rfl ?_
                refine gx_ic (P := a < 10) r_142_186 (rfl) (fun h186 => ?_) (fun h186 => ?_)
                · refine gx_st (L' := [(2, 192), (0, (h : Int)), (0, a), (0, (n : Int)), (0, x7), (0, 3)]) (S' := [(2, 192)]) r_142_201 rfl rfl rfl ?_
                  refine gx_gf (x := 201) 2 r_142_202 rfl (tk_192 hT) ⟨by decide, rfl, by decide, by decide⟩ rfl (fun _ => by decide) (pr_192_17 h_n136) ?_
                  refine gx_st (L' := [(2, 192), (0, (h : Int)), (0, a), (0, (n : Int)), (0, x7), (0, 3)]) (S' := [(0, (h : Int)), (2, 201)]) r_142_205 rfl rfl rfl ?_
                  refine gx_st (L' := [(2, 192), (0, (h : Int)), (0, a), (0, (n : Int)), (0, x7), (0, 3)]) (S' := [(0, 1), (0, (h : Int)), (2, 201)]) r_142_206 rfl rfl rfl ?_
                  obtain ⟨m29, e_m29⟩ : ∃ z, z = nu_up n136 201 (h) 1 := ⟨_, rfl⟩
                  have h_m29 : Gam m29 := by rw [e_m29]; exact gu_201 h_n136 (i := h) (by omega) (by omega)
                  have f_m29 : Fr [90021, 90022, 98999, 99999, 100999, 102999] m m29 := Fr_tr f_n136 (by rw [e_m29]; exact Fr_ua rfl rfl)
                  have s_m29 : FS m29 := FS_fr (W := [99999]) (by rw [e_m29]; exact Fr_ua rfl rfl) (by decide) s_n136
                  have r_m29 : RowFr n m m29 := by rw [e_m29]; exact RowFr_no r_n136 (by decide)
                  have aw_m29 : m29 200 (16 * n) = (m 200 (16 * h)) := by rw [e_m29, nu_no (by decide)]; exact aw_n136
                  have ow_m29 : m29 200 (16 * n + 1) = (m 200 (16 * h + 1)) := by rw [e_m29, nu_no (by decide)]; exact ow_n136
                  refine gx_is (n := h) (x := 1) r_142_207 rfl (by decide) (tk_201 hT) (by omega) ⟨rfl, by omega⟩ e_m29.symm ?_
                  exact gx_rt r_142_208 rfl rfl ⟨rfl, h_m29, r_m29, Or.inr (by rw [aw_m29] <;> omega), f_m29⟩
                · obtain ⟨t, ht⟩ : ∃ t : Nat, a = 10 + (t : Int) := ⟨(a - 10).toNat, by omega⟩
                  refine gx_st (L' := [(2, 192), (0, (h : Int)), (0, a), (0, (n : Int)), (0, x7), (0, 3)]) (S' := [(2, 192)]) r_142_189 rfl rfl rfl ?_
                  refine gx_st (L' := [(2, 192), (0, (h : Int)), (0, a), (0, (n : Int)), (0, x7), (0, 3)]) (S' := [(0, (h : Int)), (2, 192)]) r_142_190 rfl rfl rfl ?_
                  refine gx_st (L' := [(2, 192), (0, (h : Int)), (0, a), (0, (n : Int)), (0, x7), (0, 3)]) (S' := [(0, a), (0, (h : Int)), (2, 192)]) r_142_191 rfl rfl rfl ?_
                  refine gx_st (L' := [(2, 192), (0, (h : Int)), (0, a), (0, (n : Int)), (0, x7), (0, 3)]) (S' := [(0, 10), (0, a), (0, (h : Int)), (2, 192)]) r_142_192 rfl rfl rfl ?_
                  refine gx_ar (L' := [(2, 192), (0, (h : Int)), (0, a), (0, (n : Int)), (0, x7), (0, 3)]) (S' := [(0, (h : Int)), (2, 192)]) (t := 0) (e := w32 (a - 10)) (z := (t : Int)) r_142_194 rfl rfl rfl (w32_eq (by omega) (by omega) (by omega)) ?_
                  refine gx_cv (nx := 198) (S2 := []) (x_139 hT h_n136 hh hn (t := t) (by omega) (by rw [ow_n136]; omega)) r_142_195 rfl rfl rfl rfl rfl (rcv_v rfl (tk_192 hT) (by decide) rfl (by decide)) rfl (by decide) rfl (fun n195 q195 => ?_)
                  refine gx_st (L' := [(2, 192), (0, (h : Int)), (0, a), (0, (n : Int)), (0, x7), (0, 3)]) (S' := []) r_142_198 rfl rfl rfl ?_
                  exact gx_rt r_142_208 rfl rfl ⟨rfl, RD_tr r_n136 f_n136 q195⟩
            · refine gx_st (L' := [(2, 192), (0, (h : Int)), (0, a), (0, (n : Int)), (0, x7), (0, 3)]) (S' := [(0, a)]) r_142_157 rfl rfl rfl ?_
              refine gx_st (L' := [(2, 192), (0, (h : Int)), (0, a), (0, (n : Int)), (0, x7), (0, 3)]) (S' := [(0, 2), (0, a)]) r_142_158 rfl rfl rfl ?_
              refine gx_ic (P := ¬ a = 2) r_142_159 (rfl) (fun h159 => ?_) (fun h159 => ?_)
              · refine gx_st (L' := [(2, 192), (0, (h : Int)), (0, a), (0, (n : Int)), (0, x7), (0, 3)]) (S' := [(0, x7)]) r_142_178 rfl rfl rfl ?_
                refine gx_i0 (P := x7 = 0) r_142_180 (rfl) (fun h180 => ?_) (fun h180 => ?_)
                · refine gx_st (L' := [(2, 192), (0, (h : Int)), (0, a), (0, (n : Int)), (0, x7), (0, 3)]) (S' := [(2, 192)]) r_142_201 rfl rfl rfl ?_
                  refine gx_gf (x := 201) 2 r_142_202 rfl (tk_192 hT) ⟨by decide, rfl, by decide, by decide⟩ rfl (fun _ => by decide) (pr_192_17 h_n136) ?_
                  refine gx_st (L' := [(2, 192), (0, (h : Int)), (0, a), (0, (n : Int)), (0, x7), (0, 3)]) (S' := [(0, (h : Int)), (2, 201)]) r_142_205 rfl rfl rfl ?_
                  refine gx_st (L' := [(2, 192), (0, (h : Int)), (0, a), (0, (n : Int)), (0, x7), (0, 3)]) (S' := [(0, 1), (0, (h : Int)), (2, 201)]) r_142_206 rfl rfl rfl ?_
                  obtain ⟨m30, e_m30⟩ : ∃ z, z = nu_up n136 201 (h) 1 := ⟨_, rfl⟩
                  have h_m30 : Gam m30 := by rw [e_m30]; exact gu_201 h_n136 (i := h) (by omega) (by omega)
                  have f_m30 : Fr [90021, 90022, 98999, 99999, 100999, 102999] m m30 := Fr_tr f_n136 (by rw [e_m30]; exact Fr_ua rfl rfl)
                  have s_m30 : FS m30 := FS_fr (W := [99999]) (by rw [e_m30]; exact Fr_ua rfl rfl) (by decide) s_n136
                  have r_m30 : RowFr n m m30 := by rw [e_m30]; exact RowFr_no r_n136 (by decide)
                  have aw_m30 : m30 200 (16 * n) = (m 200 (16 * h)) := by rw [e_m30, nu_no (by decide)]; exact aw_n136
                  have ow_m30 : m30 200 (16 * n + 1) = (m 200 (16 * h + 1)) := by rw [e_m30, nu_no (by decide)]; exact ow_n136
                  refine gx_is (n := h) (x := 1) r_142_207 rfl (by decide) (tk_201 hT) (by omega) ⟨rfl, by omega⟩ e_m30.symm ?_
                  exact gx_rt r_142_208 rfl rfl ⟨rfl, h_m30, r_m30, Or.inr (by rw [aw_m30] <;> omega), f_m30⟩
                · refine gx_st (L' := [(2, 192), (0, (h : Int)), (0, a), (0, (n : Int)), (0, x7), (0, 3)]) (S' := [(0, a)]) r_142_183 rfl rfl rfl ?_
                  refine gx_st (L' := [(2, 192), (0, (h : Int)), (0, a), (0, (n : Int)), (0, x7), (0, 3)]) (S' := [(0, 10), (0, a)]) r_142_184 rfl rfl rfl ?_
                  refine gx_ic (P := a < 10) r_142_186 (rfl) (fun h186 => ?_) (fun h186 => ?_)
                  · refine gx_st (L' := [(2, 192), (0, (h : Int)), (0, a), (0, (n : Int)), (0, x7), (0, 3)]) (S' := [(2, 192)]) r_142_201 rfl rfl rfl ?_
                    refine gx_gf (x := 201) 2 r_142_202 rfl (tk_192 hT) ⟨by decide, rfl, by decide, by decide⟩ rfl (fun _ => by decide) (pr_192_17 h_n136) ?_
                    refine gx_st (L' := [(2, 192), (0, (h : Int)), (0, a), (0, (n : Int)), (0, x7), (0, 3)]) (S' := [(0, (h : Int)), (2, 201)]) r_142_205 rfl rfl rfl ?_
                    refine gx_st (L' := [(2, 192), (0, (h : Int)), (0, a), (0, (n : Int)), (0, x7), (0, 3)]) (S' := [(0, 1), (0, (h : Int)), (2, 201)]) r_142_206 rfl rfl rfl ?_
                    obtain ⟨m31, e_m31⟩ : ∃ z, z = nu_up n136 201 (h) 1 := ⟨_, rfl⟩
                    have h_m31 : Gam m31 := by rw [e_m31]; exact gu_201 h_n136 (i := h) (by omega) (by omega)
                    have f_m31 : Fr [90021, 90022, 98999, 99999, 100999, 102999] m m31 := Fr_tr f_n136 (by rw [e_m31]; exact Fr_ua rfl rfl)
                    have s_m31 : FS m31 := FS_fr (W := [99999]) (by rw [e_m31]; exact Fr_ua rfl rfl) (by decide) s_n136
                    have r_m31 : RowFr n m m31 := by rw [e_m31]; exact RowFr_no r_n136 (by decide)
                    have aw_m31 : m31 200 (16 * n) = (m 200 (16 * h)) := by rw [e_m31, nu_no (by decide)]; exact aw_n136
                    have ow_m31 : m31 200 (16 * n + 1) = (m 200 (16 * h + 1)) := by rw [e_m31, nu_no (by decide)]; exact ow_n136
                    refine gx_is (n := h) (x := 1) r_142_207 rfl (by decide) (tk_201 hT) (by omega) ⟨rfl, by omega⟩ e_m31.symm ?_
                    exact gx_rt r_142_208 rfl rfl ⟨rfl, h_m31, r_m31, Or.inr (by rw [aw_m31] <;> omega), f_m31⟩
                  · obtain ⟨t, ht⟩ : ∃ t : Nat, a = 10 + (t : Int) := ⟨(a - 10).toNat, by omega⟩
                    refine gx_st (L' := [(2, 192), (0, (h : Int)), (0, a), (0, (n : Int)), (0, x7), (0, 3)]) (S' := [(2, 192)]) r_142_189 rfl rfl rfl ?_
                    refine gx_st (L' := [(2, 192), (0, (h : Int)), (0, a), (0, (n : Int)), (0, x7), (0, 3)]) (S' := [(0, (h : Int)), (2, 192)]) r_142_190 rfl rfl rfl ?_
                    refine gx_st (L' := [(2, 192), (0, (h : Int)), (0, a), (0, (n : Int)), (0, x7), (0, 3)]) (S' := [(0, a), (0, (h : Int)), (2, 192)]) r_142_191 rfl rfl rfl ?_
                    refine gx_st (L' := [(2, 192), (0, (h : Int)), (0, a), (0, (n : Int)), (0, x7), (0, 3)]) (S' := [(0, 10), (0, a), (0, (h : Int)), (2, 192)]) r_142_192 rfl rfl rfl ?_
                    refine gx_ar (L' := [(2, 192), (0, (h : Int)), (0, a), (0, (n : Int)), (0, x7), (0, 3)]) (S' := [(0, (h : Int)), (2, 192)]) (t := 0) (e := w32 (a - 10)) (z := (t : Int)) r_142_194 rfl rfl rfl (w32_eq (by omega) (by omega) (by omega)) ?_
                    refine gx_cv (nx := 198) (S2 := []) (x_139 hT h_n136 hh hn (t := t) (by omega) (by rw [ow_n136]; omega)) r_142_195 rfl rfl rfl rfl rfl (rcv_v rfl (tk_192 hT) (by decide) rfl (by decide)) rfl (by decide) rfl (fun n195 q195 => ?_)
                    refine gx_st (L' := [(2, 192), (0, (h : Int)), (0, a), (0, (n : Int)), (0, x7), (0, 3)]) (S' := []) r_142_198 rfl rfl rfl ?_
                    exact gx_rt r_142_208 rfl rfl ⟨rfl, RD_tr r_n136 f_n136 q195⟩
              · have h159 := Decidable.not_not.mp h159
                refine gx_st (L' := [(2, 192), (0, (h : Int)), (0, a), (0, (n : Int)), (0, x7), (0, 3)]) (S' := [(2, 192)]) r_142_162 rfl rfl rfl ?_
                refine gx_gf (x := 201) 2 r_142_163 rfl (tk_192 hT) ⟨by decide, rfl, by decide, by decide⟩ rfl (fun _ => by decide) (pr_192_17 h_n136) ?_
                refine gx_st (L' := [(2, 192), (0, (h : Int)), (0, a), (0, (n : Int)), (0, x7), (0, 3)]) (S' := [(0, (h : Int)), (2, 201)]) r_142_166 rfl rfl rfl ?_
                refine gx_st (L' := [(2, 192), (0, (h : Int)), (0, a), (0, (n : Int)), (0, x7), (0, 3)]) (S' := [(0, 5), (0, (h : Int)), (2, 201)]) r_142_167 rfl rfl rfl ?_
                obtain ⟨m32, e_m32⟩ : ∃ z, z = nu_up n136 201 (h) 5 := ⟨_, rfl⟩
                have h_m32 : Gam m32 := by rw [e_m32]; exact gu_201 h_n136 (i := h) (by omega) (by omega)
                have f_m32 : Fr [90021, 90022, 98999, 99999, 100999, 102999] m m32 := Fr_tr f_n136 (by rw [e_m32]; exact Fr_ua rfl rfl)
                have s_m32 : FS m32 := FS_fr (W := [99999]) (by rw [e_m32]; exact Fr_ua rfl rfl) (by decide) s_n136
                have r_m32 : RowFr n m m32 := by rw [e_m32]; exact RowFr_no r_n136 (by decide)
                have aw_m32 : m32 200 (16 * n) = (m 200 (16 * h)) := by rw [e_m32, nu_no (by decide)]; exact aw_n136
                have ow_m32 : m32 200 (16 * n + 1) = (m 200 (16 * h + 1)) := by rw [e_m32, nu_no (by decide)]; exact ow_n136
                refine gx_is (n := h) (x := 5) r_142_168 rfl (by decide) (tk_201 hT) (by omega) ⟨rfl, by omega⟩ e_m32.symm ?_
                refine gx_st (L' := [(2, 192), (0, (h : Int)), (0, a), (0, (n : Int)), (0, x7), (0, 3)]) (S' := [(2, 192)]) r_142_169 rfl rfl rfl ?_
                refine gx_st (L' := [(2, 192), (0, (h : Int)), (0, a), (0, (n : Int)), (0, x7), (0, 3)]) (S' := [(0, (h : Int)), (2, 192)]) r_142_170 rfl rfl rfl ?_
                refine gx_st (L' := [(2, 192), (0, (h : Int)), (0, a), (0, (n : Int)), (0, x7), (0, 3)]) (S' := [(0, 1), (0, (h : Int)), (2, 192)]) r_142_171 rfl rfl rfl ?_
                refine gx_cv (nx := 175) (S2 := []) (x_140 hT h_m32 hh hn (x := 1) (by omega) (by omega)) r_142_172 rfl rfl rfl rfl rfl (rcv_v rfl (tk_192 hT) (by decide) rfl (by decide)) rfl (by decide) rfl (fun n172 q172 => ?_)
                refine gx_st (L' := [(2, 192), (0, (h : Int)), (0, a), (0, (n : Int)), (0, x7), (0, 3)]) (S' := []) r_142_175 rfl rfl rfl ?_
                exact gx_rt r_142_208 rfl rfl ⟨rfl, RD_tr r_m32 f_m32 q172⟩
          · have h141 := Decidable.not_not.mp h141
            refine gx_st (L' := [(2, 192), (0, (h : Int)), (0, a), (0, (n : Int)), (0, x7), (0, 3)]) (S' := [(2, 192)]) r_142_144 rfl rfl rfl ?_
            refine gx_st (L' := [(2, 192), (0, (h : Int)), (0, a), (0, (n : Int)), (0, x7), (0, 3)]) (S' := [(0, (h : Int)), (2, 192)]) r_142_145 rfl rfl rfl ?_
            refine gx_cv (nx := 149) (S2 := []) (x_141 hT h_n136 hh hn s_n136 (by rw [ow_n136]; omega) (by rw [r_n136 (16 * h) (by omega)]; omega) (by rw [aw_n136]; omega)) r_142_146 rfl rfl rfl rfl rfl (rcv_v rfl (tk_192 hT) (by decide) rfl (by decide)) rfl (by decide) rfl (fun n146 q146 => ?_)
            refine gx_st (L' := [(2, 192), (0, (h : Int)), (0, a), (0, (n : Int)), (0, x7), (0, 3)]) (S' := []) r_142_149 rfl rfl rfl ?_
            exact gx_rt r_142_208 rfl rfl ⟨rfl, RD_tr r_n136 f_n136 q146⟩
        · refine gx_st (L' := [(2, 192), (0, (h : Int)), (0, a), (0, (n : Int)), (0, x7), (0, 3)]) (S' := [(0, 1), (0, (h : Int)), (2, 202)]) r_142_119 rfl rfl rfl ?_
          refine gx_st (L' := [(2, 192), (0, (h : Int)), (0, a), (0, (n : Int)), (0, x7), (0, 3)]) (S' := [(0, 1), (0, (h : Int)), (2, 202)]) r_142_120 rfl rfl rfl ?_
          obtain ⟨m33, e_m33⟩ : ∃ z, z = nu_up n103 202 (h) 1 := ⟨_, rfl⟩
          have h_m33 : Gam m33 := by rw [e_m33]; exact gu_202 h_n103 (i := h) (by omega) (by omega)
          have f_m33 : Fr [90021, 90022, 98999, 99999, 100999, 102999] m m33 := Fr_tr f_n103 (by rw [e_m33]; exact Fr_ua rfl rfl)
          have s_m33 : FS m33 := FS_fr (W := [100999]) (by rw [e_m33]; exact Fr_ua rfl rfl) (by decide) s_n103
          have r_m33 : RowFr n m m33 := by rw [e_m33]; exact RowFr_no r_n103 (by decide)
          have aw_m33 : m33 200 (16 * n) = (m 200 (16 * h)) := by rw [e_m33, nu_no (by decide)]; exact aw_n103
          have ow_m33 : m33 200 (16 * n + 1) = (m 200 (16 * h + 1)) := by rw [e_m33, nu_no (by decide)]; exact ow_n103
          refine gx_is (n := h) (x := 1) r_142_124 rfl (by decide) (tk_202 hT) (by omega) ⟨rfl, by omega⟩ e_m33.symm ?_
          refine gx_st (L' := [(2, 192), (0, (h : Int)), (0, a), (0, (n : Int)), (0, x7), (0, 3)]) (S' := [(2, 192)]) r_142_125 rfl rfl rfl ?_
          refine gx_st (L' := [(2, 192), (0, (h : Int)), (0, a), (0, (n : Int)), (0, x7), (0, 3)]) (S' := [(0, (n : Int)), (2, 192)]) r_142_126 rfl rfl rfl ?_
          refine gx_st (L' := [(2, 192), (0, (h : Int)), (0, a), (0, (n : Int)), (0, x7), (0, 3)]) (S' := [(0, 3), (0, (n : Int)), (2, 192)]) r_142_127 rfl rfl rfl ?_
          refine gx_st (L' := [(2, 192), (0, (h : Int)), (0, a), (0, (n : Int)), (0, x7), (0, 3)]) (S' := [(0, 0), (0, 3), (0, (n : Int)), (2, 192)]) r_142_128 rfl rfl rfl ?_
          refine gx_st (L' := [(2, 192), (0, (h : Int)), (0, a), (0, (n : Int)), (0, x7), (0, 3)]) (S' := [(0, 3), (0, 0), (0, 3), (0, (n : Int)), (2, 192)]) r_142_129 rfl rfl rfl ?_
          refine gx_st (L' := [(2, 192), (0, (h : Int)), (0, a), (0, (n : Int)), (0, x7), (0, 3)]) (S' := [(0, 1), (0, 3), (0, 0), (0, 3), (0, (n : Int)), (2, 192)]) r_142_131 rfl rfl rfl ?_
          refine gx_ar (L' := [(2, 192), (0, (h : Int)), (0, a), (0, (n : Int)), (0, x7), (0, 3)]) (S' := [(0, 0), (0, 3), (0, (n : Int)), (2, 192)]) (t := 0) (e := w32 (3 - 1)) (z := 2) r_142_132 rfl rfl rfl (w32_eq (by omega) (by omega) (by omega)) ?_
          refine gx_st (L' := [(2, 192), (0, (h : Int)), (0, a), (0, (n : Int)), (0, x7), (0, 3)]) (S' := [(0, (max 0 2)), (0, 3), (0, (n : Int)), (2, 192)]) r_142_133 rfl rfl rfl ?_
          refine gx_cv (nx := 139) (S2 := []) (x_132 hT h_m33 (h := n) (k := 3) (by omega) (by omega) (max 0 2)) r_142_136 rfl rfl rfl rfl rfl (rcv_v rfl (tk_192 hT) (by decide) rfl (by decide)) rfl (by decide) rfl (fun n136 q136 => ?_)
          have h_n136 : Gam n136 := by rw [q136]; exact gu_200_dr h_m33 (h := n) (by omega) (by omega) (by omega)
          have f_n136 : Fr [90021, 90022, 98999, 99999, 100999, 102999] m n136 := Fr_tr f_m33 (by rw [q136]; exact Fr_ua rfl rfl)
          have r_n136 : RowFr n m n136 := by rw [q136]; exact RowFr_up r_m33 (by omega) (by omega)
          have aw_n136 : n136 200 (16 * n) = (m 200 (16 * h)) := by rw [q136, nu_ne (by omega)]; exact aw_m33
          have ow_n136 : n136 200 (16 * n + 1) = (m 200 (16 * h + 1)) := by rw [q136, nu_ne (by omega)]; exact ow_m33
          have s_n136 : FS n136 := FS_fr (W := [98999]) (by rw [q136]; exact Fr_ua rfl rfl) (by decide) s_m33
          show GX T 5 142 139 [(2, 192), (0, (h : Int)), (0, a), (0, (n : Int)), (0, x7), (0, 3)] [] n136 (RV (RD n m))
          refine gx_st (L' := [(2, 192), (0, (h : Int)), (0, a), (0, (n : Int)), (0, x7), (0, 3)]) (S' := [(0, 3)]) r_142_139 rfl rfl rfl ?_
          refine gx_i0 (P := ¬ 3 = 0) r_142_141 (rfl) (fun h141 => ?_) (fun h141 => ?_)
          · refine gx_st (L' := [(2, 192), (0, (h : Int)), (0, a), (0, (n : Int)), (0, x7), (0, 3)]) (S' := [(0, x7)]) r_142_152 rfl rfl rfl ?_
            refine gx_i0 (P := x7 = 0) r_142_154 (rfl) (fun h154 => ?_) (fun h154 => ?_)
            · refine gx_st (L' := [(2, 192), (0, (h : Int)), (0, a), (0, (n : Int)), (0, x7), (0, 3)]) (S' := [(0, x7)]) r_142_178 rfl rfl rfl ?_
              refine gx_i0 (P := x7 = 0) r_142_180 (rfl) (fun h180 => ?_) (fun h180 => ?_)
              · refine gx_st (L' := [(2, 192), (0, (h : Int)), (0, a), (0, (n : Int)), (0, x7), (0, 3)]) (S' := [(2, 192)]) r_142_201 rfl rfl rfl ?_
                refine gx_gf (x := 201) 2 r_142_202 rfl (tk_192 hT) ⟨by decide, rfl, by decide, by decide⟩ rfl (fun _ => by decide) (pr_192_17 h_n136) ?_
                refine gx_st (L' := [(2, 192), (0, (h : Int)), (0, a), (0, (n : Int)), (0, x7), (0, 3)]) (S' := [(0, (h : Int)), (2, 201)]) r_142_205 rfl rfl rfl ?_
                refine gx_st (L' := [(2, 192), (0, (h : Int)), (0, a), (0, (n : Int)), (0, x7), (0, 3)]) (S' := [(0, 1), (0, (h : Int)), (2, 201)]) r_142_206 rfl rfl rfl ?_
                obtain ⟨m34, e_m34⟩ : ∃ z, z = nu_up n136 201 (h) 1 := ⟨_, rfl⟩
                have h_m34 : Gam m34 := by rw [e_m34]; exact gu_201 h_n136 (i := h) (by omega) (by omega)
                have f_m34 : Fr [90021, 90022, 98999, 99999, 100999, 102999] m m34 := Fr_tr f_n136 (by rw [e_m34]; exact Fr_ua rfl rfl)
                have s_m34 : FS m34 := FS_fr (W := [99999]) (by rw [e_m34]; exact Fr_ua rfl rfl) (by decide) s_n136
                have r_m34 : RowFr n m m34 := by rw [e_m34]; exact RowFr_no r_n136 (by decide)
                have aw_m34 : m34 200 (16 * n) = (m 200 (16 * h)) := by rw [e_m34, nu_no (by decide)]; exact aw_n136
                have ow_m34 : m34 200 (16 * n + 1) = (m 200 (16 * h + 1)) := by rw [e_m34, nu_no (by decide)]; exact ow_n136
                refine gx_is (n := h) (x := 1) r_142_207 rfl (by decide) (tk_201 hT) (by omega) ⟨rfl, by omega⟩ e_m34.symm ?_
                exact gx_rt r_142_208 rfl rfl ⟨rfl, h_m34, r_m34, Or.inr (by rw [aw_m34] <;> omega), f_m34⟩
              · refine gx_st (L' := [(2, 192), (0, (h : Int)), (0, a), (0, (n : Int)), (0, x7), (0, 3)]) (S' := [(0, a)]) r_142_183 rfl rfl rfl ?_
                refine gx_st (L' := [(2, 192), (0, (h : Int)), (0, a), (0, (n : Int)), (0, x7), (0, 3)]) (S' := [(0, 10), (0, a)]) r_142_184 rfl rfl rfl ?_
                refine gx_ic (P := a < 10) r_142_186 (rfl) (fun h186 => ?_) (fun h186 => ?_)
                · refine gx_st (L' := [(2, 192), (0, (h : Int)), (0, a), (0, (n : Int)), (0, x7), (0, 3)]) (S' := [(2, 192)]) r_142_201 rfl rfl rfl ?_
                  refine gx_gf (x := 201) 2 r_142_202 rfl (tk_192 hT) ⟨by decide, rfl, by decide, by decide⟩ rfl (fun _ => by decide) (pr_192_17 h_n136) ?_
                  refine gx_st (L' := [(2, 192), (0, (h : Int)), (0, a), (0, (n : Int)), (0, x7), (0, 3)]) (S' := [(0, (h : Int)), (2, 201)]) r_142_205 rfl rfl rfl ?_
                  refine gx_st (L' := [(2, 192), (0, (h : Int)), (0, a), (0, (n : Int)), (0, x7), (0, 3)]) (S' := [(0, 1), (0, (h : Int)), (2, 201)]) r_142_206 rfl rfl rfl ?_
                  obtain ⟨m35, e_m35⟩ : ∃ z, z = nu_up n136 201 (h) 1 := ⟨_, rfl⟩
                  have h_m35 : Gam m35 := by rw [e_m35]; exact gu_201 h_n136 (i := h) (by omega) (by omega)
                  have f_m35 : Fr [90021, 90022, 98999, 99999, 100999, 102999] m m35 := Fr_tr f_n136 (by rw [e_m35]; exact Fr_ua rfl rfl)
                  have s_m35 : FS m35 := FS_fr (W := [99999]) (by rw [e_m35]; exact Fr_ua rfl rfl) (by decide) s_n136
                  have r_m35 : RowFr n m m35 := by rw [e_m35]; exact RowFr_no r_n136 (by decide)
                  have aw_m35 : m35 200 (16 * n) = (m 200 (16 * h)) := by rw [e_m35, nu_no (by decide)]; exact aw_n136
                  have ow_m35 : m35 200 (16 * n + 1) = (m 200 (16 * h + 1)) := by rw [e_m35, nu_no (by decide)]; exact ow_n136
                  refine gx_is (n := h) (x := 1) r_142_207 rfl (by decide) (tk_201 hT) (by omega) ⟨rfl, by omega⟩ e_m35.symm ?_
                  exact gx_rt r_142_208 rfl rfl ⟨rfl, h_m35, r_m35, Or.inr (by rw [aw_m35] <;> omega), f_m35⟩
                · obtain ⟨t, ht⟩ : ∃ t : Nat, a = 10 + (t : Int) := ⟨(a - 10).toNat, by omega⟩
                  refine gx_st (L' := [(2, 192), (0, (h : Int)), (0, a), (0, (n : Int)), (0, x7), (0, 3)]) (S' := [(2, 192)]) r_142_189 rfl rfl rfl ?_
                  refine gx_st (L' := [(2, 192), (0, (h : Int)), (0, a), (0, (n : Int)), (0, x7), (0, 3)]) (S' := [(0, (h : Int)), (2, 192)]) r_142_190 rfl rfl rfl ?_
                  refine gx_st (L' := [(2, 192), (0, (h : Int)), (0, a), (0, (n : Int)), (0, x7), (0, 3)]) (S' := [(0, a), (0, (h : Int)), (2, 192)]) r_142_191 rfl rfl rfl ?_
                  refine gx_st (L' := [(2, 192), (0, (h : Int)), (0, a), (0, (n : Int)), (0, x7), (0, 3)]) (S' := [(0, 10), (0, a), (0, (h : Int)), (2, 192)]) r_142_192 rfl rfl rfl ?_
                  refine gx_ar (L' := [(2, 192), (0, (h : Int)), (0, a), (0, (n : Int)), (0, x7), (0, 3)]) (S' := [(0, (h : Int)), (2, 192)]) (t := 0) (e := w32 (a - 10)) (z := (t : Int)) r_142_194 rfl rfl rfl (w32_eq (by omega) (by omega) (by omega)) ?_
                  refine gx_cv (nx := 198) (S2 := []) (x_139 hT h_n136 hh hn (t := t) (by omega) (by rw [ow_n136]; omega)) r_142_195 rfl rfl rfl rfl rfl (rcv_v rfl (tk_192 hT) (by decide) rfl (by decide)) rfl (by decide) rfl (fun n195 q195 => ?_)
                  refine gx_st (L' := [(2, 192), (0, (h : Int)), (0, a), (0, (n : Int)), (0, x7), (0, 3)]) (S' := []) r_142_198 rfl rfl rfl ?_
                  exact gx_rt r_142_208 rfl rfl ⟨rfl, RD_tr r_n136 f_n136 q195⟩
            · refine gx_st (L' := [(2, 192), (0, (h : Int)), (0, a), (0, (n : Int)), (0, x7), (0, 3)]) (S' := [(0, a)]) r_142_157 rfl rfl rfl ?_
              refine gx_st (L' := [(2, 192), (0, (h : Int)), (0, a), (0, (n : Int)), (0, x7), (0, 3)]) (S' := [(0, 2), (0, a)]) r_142_158 rfl rfl rfl ?_
              refine gx_ic (P := ¬ a = 2) r_142_159 (rfl) (fun h159 => ?_) (fun h159 => ?_)
              · refine gx_st (L' := [(2, 192), (0, (h : Int)), (0, a), (0, (n : Int)), (0, x7), (0, 3)]) (S' := [(0, x7)]) r_142_178 rfl rfl rfl ?_
                refine gx_i0 (P := x7 = 0) r_142_180 (rfl) (fun h180 => ?_) (fun h180 => ?_)
                · refine gx_st (L' := [(2, 192), (0, (h : Int)), (0, a), (0, (n : Int)), (0, x7), (0, 3)]) (S' := [(2, 192)]) r_142_201 rfl rfl rfl ?_
                  refine gx_gf (x := 201) 2 r_142_202 rfl (tk_192 hT) ⟨by decide, rfl, by decide, by decide⟩ rfl (fun _ => by decide) (pr_192_17 h_n136) ?_
                  refine gx_st (L' := [(2, 192), (0, (h : Int)), (0, a), (0, (n : Int)), (0, x7), (0, 3)]) (S' := [(0, (h : Int)), (2, 201)]) r_142_205 rfl rfl rfl ?_
                  refine gx_st (L' := [(2, 192), (0, (h : Int)), (0, a), (0, (n : Int)), (0, x7), (0, 3)]) (S' := [(0, 1), (0, (h : Int)), (2, 201)]) r_142_206 rfl rfl rfl ?_
                  obtain ⟨m36, e_m36⟩ : ∃ z, z = nu_up n136 201 (h) 1 := ⟨_, rfl⟩
                  have h_m36 : Gam m36 := by rw [e_m36]; exact gu_201 h_n136 (i := h) (by omega) (by omega)
                  have f_m36 : Fr [90021, 90022, 98999, 99999, 100999, 102999] m m36 := Fr_tr f_n136 (by rw [e_m36]; exact Fr_ua rfl rfl)
                  have s_m36 : FS m36 := FS_fr (W := [99999]) (by rw [e_m36]; exact Fr_ua rfl rfl) (by decide) s_n136
                  have r_m36 : RowFr n m m36 := by rw [e_m36]; exact RowFr_no r_n136 (by decide)
                  have aw_m36 : m36 200 (16 * n) = (m 200 (16 * h)) := by rw [e_m36, nu_no (by decide)]; exact aw_n136
                  have ow_m36 : m36 200 (16 * n + 1) = (m 200 (16 * h + 1)) := by rw [e_m36, nu_no (by decide)]; exact ow_n136
                  refine gx_is (n := h) (x := 1) r_142_207 rfl (by decide) (tk_201 hT) (by omega) ⟨rfl, by omega⟩ e_m36.symm ?_
                  exact gx_rt r_142_208 rfl rfl ⟨rfl, h_m36, r_m36, Or.inr (by rw [aw_m36] <;> omega), f_m36⟩
                · refine gx_st (L' := [(2, 192), (0, (h : Int)), (0, a), (0, (n : Int)), (0, x7), (0, 3)]) (S' := [(0, a)]) r_142_183 rfl rfl rfl ?_
                  refine gx_st (L' := [(2, 192), (0, (h : Int)), (0, a), (0, (n : Int)), (0, x7), (0, 3)]) (S' := [(0, 10), (0, a)]) r_142_184 rfl rfl rfl ?_
                  refine gx_ic (P := a < 10) r_142_186 (rfl) (fun h186 => ?_) (fun h186 => ?_)
                  · refine gx_st (L' := [(2, 192), (0, (h : Int)), (0, a), (0, (n : Int)), (0, x7), (0, 3)]) (S' := [(2, 192)]) r_142_201 rfl rfl rfl ?_
                    refine gx_gf (x := 201) 2 r_142_202 rfl (tk_192 hT) ⟨by decide, rfl, by decide, by decide⟩ rfl (fun _ => by decide) (pr_192_17 h_n136) ?_
                    refine gx_st (L' := [(2, 192), (0, (h : Int)), (0, a), (0, (n : Int)), (0, x7), (0, 3)]) (S' := [(0, (h : Int)), (2, 201)]) r_142_205 rfl rfl rfl ?_
                    refine gx_st (L' := [(2, 192), (0, (h : Int)), (0, a), (0, (n : Int)), (0, x7), (0, 3)]) (S' := [(0, 1), (0, (h : Int)), (2, 201)]) r_142_206 rfl rfl rfl ?_
                    obtain ⟨m37, e_m37⟩ : ∃ z, z = nu_up n136 201 (h) 1 := ⟨_, rfl⟩
                    have h_m37 : Gam m37 := by rw [e_m37]; exact gu_201 h_n136 (i := h) (by omega) (by omega)
                    have f_m37 : Fr [90021, 90022, 98999, 99999, 100999, 102999] m m37 := Fr_tr f_n136 (by rw [e_m37]; exact Fr_ua rfl rfl)
                    have s_m37 : FS m37 := FS_fr (W := [99999]) (by rw [e_m37]; exact Fr_ua rfl rfl) (by decide) s_n136
                    have r_m37 : RowFr n m m37 := by rw [e_m37]; exact RowFr_no r_n136 (by decide)
                    have aw_m37 : m37 200 (16 * n) = (m 200 (16 * h)) := by rw [e_m37, nu_no (by decide)]; exact aw_n136
                    have ow_m37 : m37 200 (16 * n + 1) = (m 200 (16 * h + 1)) := by rw [e_m37, nu_no (by decide)]; exact ow_n136
                    refine gx_is (n := h) (x := 1) r_142_207 rfl (by decide) (tk_201 hT) (by omega) ⟨rfl, by omega⟩ e_m37.symm ?_
                    exact gx_rt r_142_208 rfl rfl ⟨rfl, h_m37, r_m37, Or.inr (by rw [aw_m37] <;> omega), f_m37⟩
                  · obtain ⟨t, ht⟩ : ∃ t : Nat, a = 10 + (t : Int) := ⟨(a - 10).toNat, by omega⟩
                    refine gx_st (L' := [(2, 192), (0, (h : Int)), (0, a), (0, (n : Int)), (0, x7), (0, 3)]) (S' := [(2, 192)]) r_142_189 rfl rfl rfl ?_
                    refine gx_st (L' := [(2, 192), (0, (h : Int)), (0, a), (0, (n : Int)), (0, x7), (0, 3)]) (S' := [(0, (h : Int)), (2, 192)]) r_142_190 rfl rfl rfl ?_
                    refine gx_st (L' := [(2, 192), (0, (h : Int)), (0, a), (0, (n : Int)), (0, x7), (0, 3)]) (S' := [(0, a), (0, (h : Int)), (2, 192)]) r_142_191 rfl rfl rfl ?_
                    refine gx_st (L' := [(2, 192), (0, (h : Int)), (0, a), (0, (n : Int)), (0, x7), (0, 3)]) (S' := [(0, 10), (0, a), (0, (h : Int)), (2, 192)]) r_142_192 rfl rfl rfl ?_
                    refine gx_ar (L' := [(2, 192), (0, (h : Int)), (0, a), (0, (n : Int)), (0, x7), (0, 3)]) (S' := [(0, (h : Int)), (2, 192)]) (t := 0) (e := w32 (a - 10)) (z := (t : Int)) r_142_194 rfl rfl rfl (w32_eq (by omega) (by omega) (by omega)) ?_
                    refine gx_cv (nx := 198) (S2 := []) (x_139 hT h_n136 hh hn (t := t) (by omega) (by rw [ow_n136]; omega)) r_142_195 rfl rfl rfl rfl rfl (rcv_v rfl (tk_192 hT) (by decide) rfl (by decide)) rfl (by decide) rfl (fun n195 q195 => ?_)
                    refine gx_st (L' := [(2, 192), (0, (h : Int)), (0, a), (0, (n : Int)), (0, x7), (0, 3)]) (S' := []) r_142_198 rfl rfl rfl ?_
                    exact gx_rt r_142_208 rfl rfl ⟨rfl, RD_tr r_n136 f_n136 q195⟩
              · have h159 := Decidable.not_not.mp h159
                refine gx_st (L' := [(2, 192), (0, (h : Int)), (0, a), (0, (n : Int)), (0, x7), (0, 3)]) (S' := [(2, 192)]) r_142_162 rfl rfl rfl ?_
                refine gx_gf (x := 201) 2 r_142_163 rfl (tk_192 hT) ⟨by decide, rfl, by decide, by decide⟩ rfl (fun _ => by decide) (pr_192_17 h_n136) ?_
                refine gx_st (L' := [(2, 192), (0, (h : Int)), (0, a), (0, (n : Int)), (0, x7), (0, 3)]) (S' := [(0, (h : Int)), (2, 201)]) r_142_166 rfl rfl rfl ?_
                refine gx_st (L' := [(2, 192), (0, (h : Int)), (0, a), (0, (n : Int)), (0, x7), (0, 3)]) (S' := [(0, 5), (0, (h : Int)), (2, 201)]) r_142_167 rfl rfl rfl ?_
                obtain ⟨m38, e_m38⟩ : ∃ z, z = nu_up n136 201 (h) 5 := ⟨_, rfl⟩
                have h_m38 : Gam m38 := by rw [e_m38]; exact gu_201 h_n136 (i := h) (by omega) (by omega)
                have f_m38 : Fr [90021, 90022, 98999, 99999, 100999, 102999] m m38 := Fr_tr f_n136 (by rw [e_m38]; exact Fr_ua rfl rfl)
                have s_m38 : FS m38 := FS_fr (W := [99999]) (by rw [e_m38]; exact Fr_ua rfl rfl) (by decide) s_n136
                have r_m38 : RowFr n m m38 := by rw [e_m38]; exact RowFr_no r_n136 (by decide)
                have aw_m38 : m38 200 (16 * n) = (m 200 (16 * h)) := by rw [e_m38, nu_no (by decide)]; exact aw_n136
                have ow_m38 : m38 200 (16 * n + 1) = (m 200 (16 * h + 1)) := by rw [e_m38, nu_no (by decide)]; exact ow_n136
                refine gx_is (n := h) (x := 5) r_142_168 rfl (by decide) (tk_201 hT) (by omega) ⟨rfl, by omega⟩ e_m38.symm ?_
                refine gx_st (L' := [(2, 192), (0, (h : Int)), (0, a), (0, (n : Int)), (0, x7), (0, 3)]) (S' := [(2, 192)]) r_142_169 rfl rfl rfl ?_
                refine gx_st (L' := [(2, 192), (0, (h : Int)), (0, a), (0, (n : Int)), (0, x7), (0, 3)]) (S' := [(0, (h : Int)), (2, 192)]) r_142_170 rfl rfl rfl ?_
                refine gx_st (L' := [(2, 192), (0, (h : Int)), (0, a), (0, (n : Int)), (0, x7), (0, 3)]) (S' := [(0, 1), (0, (h : Int)), (2, 192)]) r_142_171 rfl rfl rfl ?_
                refine gx_cv (nx := 175) (S2 := []) (x_140 hT h_m38 hh hn (x := 1) (by omega) (by omega)) r_142_172 rfl rfl rfl rfl rfl (rcv_v rfl (tk_192 hT) (by decide) rfl (by decide)) rfl (by decide) rfl (fun n172 q172 => ?_)
                refine gx_st (L' := [(2, 192), (0, (h : Int)), (0, a), (0, (n : Int)), (0, x7), (0, 3)]) (S' := []) r_142_175 rfl rfl rfl ?_
                exact gx_rt r_142_208 rfl rfl ⟨rfl, RD_tr r_m38 f_m38 q172⟩
          · have h141 := Decidable.not_not.mp h141
            refine gx_st (L' := [(2, 192), (0, (h : Int)), (0, a), (0, (n : Int)), (0, x7), (0, 3)]) (S' := [(2, 192)]) r_142_144 rfl rfl rfl ?_
            refine gx_st (L' := [(2, 192), (0, (h : Int)), (0, a), (0, (n : Int)), (0, x7), (0, 3)]) (S' := [(0, (h : Int)), (2, 192)]) r_142_145 rfl rfl rfl ?_
            refine gx_cv (nx := 149) (S2 := []) (x_141 hT h_n136 hh hn s_n136 (by rw [ow_n136]; omega) (by rw [r_n136 (16 * h) (by omega)]; omega) (by rw [aw_n136]; omega)) r_142_146 rfl rfl rfl rfl rfl (rcv_v rfl (tk_192 hT) (by decide) rfl (by decide)) rfl (by decide) rfl (fun n146 q146 => ?_)
            refine gx_st (L' := [(2, 192), (0, (h : Int)), (0, a), (0, (n : Int)), (0, x7), (0, 3)]) (S' := []) r_142_149 rfl rfl rfl ?_
            exact gx_rt r_142_208 rfl rfl ⟨rfl, RD_tr r_n136 f_n136 q146⟩
  · have h63 := Decidable.not_not.mp h63
    exact gx_rt r_142_66 rfl rfl ⟨rfl, h_m2, r_m2, Or.inl (by rw [ow_m2] <;> omega), f_m2⟩
end HOUR
