/-! the ride of the reference: its hours -/
theorem r_135_0 : row 135 0 = some (.iconst (-1), 1, (-1), 0, 0, 0) := rfl
theorem r_135_1 : row 135 1 = some (.istore_n 3, 2, 0, 0, 0, 0) := rfl
theorem r_135_2 : row 135 2 = some (.iconst 0, 3, 0, 0, 0, 0) := rfl
theorem r_135_3 : row 135 3 = some (.istore 4, 5, 0, 0, 0, 0) := rfl
theorem r_135_5 : row 135 5 = some (.iload 4, 7, 0, 0, 0, 0) := rfl
theorem r_135_7 : row 135 7 = some (.aload_n 0, 8, 0, 0, 0, 0) := rfl
theorem r_135_8 : row 135 8 = some (.getfield 9, 11, 10, 1, 2, 6002) := rfl
theorem r_135_11 : row 135 11 = some (.iconst 5, 12, 5, 0, 0, 0) := rfl
theorem r_135_12 : row 135 12 = some (.iaload, 13, 0, 0, 0, 0) := rfl
theorem r_135_13 : row 135 13 = some (.if_icmp .ge 82, 16, 95, 0, 0, 0) := rfl
theorem r_135_16 : row 135 16 = some (.aload_n 0, 17, 0, 0, 0, 0) := rfl
theorem r_135_17 : row 135 17 = some (.iload 4, 19, 0, 0, 0, 0) := rfl
theorem r_135_19 : row 135 19 = some (.invokevirtual 260, 22, 133, 1, 0, 7134) := rfl
theorem r_135_22 : row 135 22 = some (.ifCond .eq 67, 25, 89, 0, 0, 0) := rfl
theorem r_135_25 : row 135 25 = some (.aload_n 0, 26, 0, 0, 0, 0) := rfl
theorem r_135_26 : row 135 26 = some (.iload_n 1, 27, 0, 0, 0, 0) := rfl
theorem r_135_27 : row 135 27 = some (.bipush 11, 29, 11, 0, 0, 0) := rfl
theorem r_135_29 : row 135 29 = some (.iload 4, 31, 0, 0, 0, 0) := rfl
theorem r_135_31 : row 135 31 = some (.iadd, 32, 0, 0, 0, 0) := rfl
theorem r_135_32 : row 135 32 = some (.invokevirtual 263, 35, 131, 2, 0, 7110) := rfl
theorem r_135_35 : row 135 35 = some (.ifCond .eq 54, 38, 89, 0, 0, 0) := rfl
theorem r_135_38 : row 135 38 = some (.aload_n 0, 39, 0, 0, 0, 0) := rfl
theorem r_135_39 : row 135 39 = some (.iload_n 2, 40, 0, 0, 0, 0) := rfl
theorem r_135_40 : row 135 40 = some (.aload_n 0, 41, 0, 0, 0, 0) := rfl
theorem r_135_41 : row 135 41 = some (.iload 4, 43, 0, 0, 0, 0) := rfl
theorem r_135_43 : row 135 43 = some (.invokevirtual 247, 46, 97, 1, 0, 7070) := rfl
theorem r_135_46 : row 135 46 = some (.invokevirtual 228, 49, 123, 2, 0, 7042) := rfl
theorem r_135_49 : row 135 49 = some (.ldc 227, 51, 1000000000, 0, 0, 7041) := rfl
theorem r_135_51 : row 135 51 = some (.if_icmp .lt 6, 54, 57, 0, 0, 0) := rfl
theorem r_135_54 : row 135 54 = some (.goto 35, 57, 89, 0, 0, 0) := rfl
theorem r_135_57 : row 135 57 = some (.iload_n 3, 58, 0, 0, 0, 0) := rfl
theorem r_135_58 : row 135 58 = some (.iconst (-1), 59, (-1), 0, 0, 0) := rfl
theorem r_135_59 : row 135 59 = some (.if_icmp .eq 27, 62, 86, 0, 0, 0) := rfl
theorem r_135_62 : row 135 62 = some (.aload_n 0, 63, 0, 0, 0, 0) := rfl
theorem r_135_63 : row 135 63 = some (.iload_n 2, 64, 0, 0, 0, 0) := rfl
theorem r_135_64 : row 135 64 = some (.aload_n 0, 65, 0, 0, 0, 0) := rfl
theorem r_135_65 : row 135 65 = some (.iload 4, 67, 0, 0, 0, 0) := rfl
theorem r_135_67 : row 135 67 = some (.invokevirtual 247, 70, 97, 1, 0, 7070) := rfl
theorem r_135_70 : row 135 70 = some (.invokevirtual 228, 73, 123, 2, 0, 7042) := rfl
theorem r_135_73 : row 135 73 = some (.aload_n 0, 74, 0, 0, 0, 0) := rfl
theorem r_135_74 : row 135 74 = some (.iload_n 2, 75, 0, 0, 0, 0) := rfl
theorem r_135_75 : row 135 75 = some (.aload_n 0, 76, 0, 0, 0, 0) := rfl
theorem r_135_76 : row 135 76 = some (.iload_n 3, 77, 0, 0, 0, 0) := rfl
theorem r_135_77 : row 135 77 = some (.invokevirtual 247, 80, 97, 1, 0, 7070) := rfl
theorem r_135_80 : row 135 80 = some (.invokevirtual 228, 83, 123, 2, 0, 7042) := rfl
theorem r_135_83 : row 135 83 = some (.if_icmp .ge 6, 86, 89, 0, 0, 0) := rfl
theorem r_135_86 : row 135 86 = some (.iload 4, 88, 0, 0, 0, 0) := rfl
theorem r_135_88 : row 135 88 = some (.istore_n 3, 89, 0, 0, 0, 0) := rfl
theorem r_135_89 : row 135 89 = some (.iinc 4 1, 92, 0, 0, 0, 0) := rfl
theorem r_135_92 : row 135 92 = some (.goto (-87), 95, 5, 0, 0, 0) := rfl
theorem r_135_95 : row 135 95 = some (.iload_n 3, 96, 0, 0, 0, 0) := rfl
theorem r_135_96 : row 135 96 = some (.ireturn, 97, 0, 0, 0, 0) := rfl
theorem r_137_0 : row 137 0 = some (.aload_n 0, 1, 0, 0, 0, 0) := rfl
theorem r_137_1 : row 137 1 = some (.iload_n 1, 2, 0, 0, 0, 0) := rfl
theorem r_137_2 : row 137 2 = some (.iconst 1, 3, 1, 0, 0, 0) := rfl
theorem r_137_3 : row 137 3 = some (.invokevirtual 263, 6, 131, 2, 0, 7110) := rfl
theorem r_137_6 : row 137 6 = some (.iconst (-1), 7, (-1), 0, 0, 0) := rfl
theorem r_137_7 : row 137 7 = some (.if_icmp .ne 5, 10, 12, 0, 0, 0) := rfl
theorem r_137_10 : row 137 10 = some (.iconst 0, 11, 0, 0, 0, 0) := rfl
theorem r_137_11 : row 137 11 = some (.ireturn, 12, 0, 0, 0, 0) := rfl
theorem r_137_12 : row 137 12 = some (.aload_n 0, 13, 0, 0, 0, 0) := rfl
theorem r_137_13 : row 137 13 = some (.iload_n 1, 14, 0, 0, 0, 0) := rfl
theorem r_137_14 : row 137 14 = some (.iconst 3, 15, 3, 0, 0, 0) := rfl
theorem r_137_15 : row 137 15 = some (.invokevirtual 263, 18, 131, 2, 0, 7110) := rfl
theorem r_137_18 : row 137 18 = some (.ifCond .le 7, 21, 25, 0, 0, 0) := rfl
theorem r_137_21 : row 137 21 = some (.iconst 1, 22, 1, 0, 0, 0) := rfl
theorem r_137_22 : row 137 22 = some (.goto 4, 25, 26, 0, 0, 0) := rfl
theorem r_137_25 : row 137 25 = some (.iconst 0, 26, 0, 0, 0, 0) := rfl
theorem r_137_26 : row 137 26 = some (.istore_n 3, 27, 0, 0, 0, 0) := rfl
theorem r_137_27 : row 137 27 = some (.iload_n 2, 28, 0, 0, 0, 0) := rfl
theorem r_137_28 : row 137 28 = some (.iconst 1, 29, 1, 0, 0, 0) := rfl
theorem r_137_29 : row 137 29 = some (.if_icmp .ne 23, 32, 52, 0, 0, 0) := rfl
theorem r_137_32 : row 137 32 = some (.iload_n 3, 33, 0, 0, 0, 0) := rfl
theorem r_137_33 : row 137 33 = some (.ifCond .ne 17, 36, 50, 0, 0, 0) := rfl
theorem r_137_36 : row 137 36 = some (.aload_n 0, 37, 0, 0, 0, 0) := rfl
theorem r_137_37 : row 137 37 = some (.iload_n 1, 38, 0, 0, 0, 0) := rfl
theorem r_137_38 : row 137 38 = some (.iload_n 1, 39, 0, 0, 0, 0) := rfl
theorem r_137_39 : row 137 39 = some (.invokevirtual 275, 42, 136, 2, 0, 7114) := rfl
theorem r_137_42 : row 137 42 = some (.iconst (-1), 43, (-1), 0, 0, 0) := rfl
theorem r_137_43 : row 137 43 = some (.if_icmp .eq 7, 46, 50, 0, 0, 0) := rfl
theorem r_137_46 : row 137 46 = some (.iconst 1, 47, 1, 0, 0, 0) := rfl
theorem r_137_47 : row 137 47 = some (.goto 4, 50, 51, 0, 0, 0) := rfl
theorem r_137_50 : row 137 50 = some (.iconst 0, 51, 0, 0, 0, 0) := rfl
theorem r_137_51 : row 137 51 = some (.ireturn, 52, 0, 0, 0, 0) := rfl
theorem r_137_52 : row 137 52 = some (.iload_n 3, 53, 0, 0, 0, 0) := rfl
theorem r_137_53 : row 137 53 = some (.ifCond .ne 5, 56, 58, 0, 0, 0) := rfl
theorem r_137_56 : row 137 56 = some (.iconst 0, 57, 0, 0, 0, 0) := rfl
theorem r_137_57 : row 137 57 = some (.ireturn, 58, 0, 0, 0, 0) := rfl
theorem r_137_58 : row 137 58 = some (.iload_n 2, 59, 0, 0, 0, 0) := rfl
theorem r_137_59 : row 137 59 = some (.iconst 2, 60, 2, 0, 0, 0) := rfl
theorem r_137_60 : row 137 60 = some (.if_icmp .ne 34, 63, 94, 0, 0, 0) := rfl
theorem r_137_63 : row 137 63 = some (.aload_n 0, 64, 0, 0, 0, 0) := rfl
theorem r_137_64 : row 137 64 = some (.getfield 9, 67, 10, 1, 2, 6002) := rfl
theorem r_137_67 : row 137 67 = some (.bipush 10, 69, 10, 0, 0, 0) := rfl
theorem r_137_69 : row 137 69 = some (.iaload, 70, 0, 0, 0, 0) := rfl
theorem r_137_70 : row 137 70 = some (.aload_n 0, 71, 0, 0, 0, 0) := rfl
theorem r_137_71 : row 137 71 = some (.getfield 278, 74, 10, 25, 0, 6026) := rfl
theorem r_137_74 : row 137 74 = some (.ior, 75, 0, 0, 0, 0) := rfl
theorem r_137_75 : row 137 75 = some (.aload_n 0, 76, 0, 0, 0, 0) := rfl
theorem r_137_76 : row 137 76 = some (.iload_n 1, 77, 0, 0, 0, 0) := rfl
theorem r_137_77 : row 137 77 = some (.iconst 0, 78, 0, 0, 0, 0) := rfl
theorem r_137_78 : row 137 78 = some (.invokevirtual 263, 81, 131, 2, 0, 7110) := rfl
theorem r_137_81 : row 137 81 = some (.invokestatic 272, 84, 87, 2, 0, 7122) := rfl
theorem r_137_84 : row 137 84 = some (.iconst 1, 85, 1, 0, 0, 0) := rfl
theorem r_137_85 : row 137 85 = some (.if_icmp .ne 7, 88, 92, 0, 0, 0) := rfl
theorem r_137_88 : row 137 88 = some (.iconst 1, 89, 1, 0, 0, 0) := rfl
theorem r_137_89 : row 137 89 = some (.goto 4, 92, 93, 0, 0, 0) := rfl
theorem r_137_92 : row 137 92 = some (.iconst 0, 93, 0, 0, 0, 0) := rfl
theorem r_137_93 : row 137 93 = some (.ireturn, 94, 0, 0, 0, 0) := rfl
theorem r_137_94 : row 137 94 = some (.iload_n 2, 95, 0, 0, 0, 0) := rfl
theorem r_137_95 : row 137 95 = some (.bipush 10, 97, 10, 0, 0, 0) := rfl
theorem r_137_97 : row 137 97 = some (.if_icmp .lt 25, 100, 122, 0, 0, 0) := rfl
theorem r_137_100 : row 137 100 = some (.aload_n 0, 101, 0, 0, 0, 0) := rfl
theorem r_137_101 : row 137 101 = some (.aload_n 0, 102, 0, 0, 0, 0) := rfl
theorem r_137_102 : row 137 102 = some (.iload_n 1, 103, 0, 0, 0, 0) := rfl
theorem r_137_103 : row 137 103 = some (.iconst 0, 104, 0, 0, 0, 0) := rfl
theorem r_137_104 : row 137 104 = some (.invokevirtual 263, 107, 131, 2, 0, 7110) := rfl
theorem r_137_107 : row 137 107 = some (.iload_n 2, 108, 0, 0, 0, 0) := rfl
theorem r_137_108 : row 137 108 = some (.bipush 10, 110, 10, 0, 0, 0) := rfl
theorem r_137_110 : row 137 110 = some (.isub, 111, 0, 0, 0, 0) := rfl
theorem r_137_111 : row 137 111 = some (.invokevirtual 228, 114, 123, 2, 0, 7042) := rfl
theorem r_137_114 : row 137 114 = some (.iconst 1, 115, 1, 0, 0, 0) := rfl
theorem r_137_115 : row 137 115 = some (.if_icmp .ne 7, 118, 122, 0, 0, 0) := rfl
theorem r_137_118 : row 137 118 = some (.iconst 1, 119, 1, 0, 0, 0) := rfl
theorem r_137_119 : row 137 119 = some (.goto 4, 122, 123, 0, 0, 0) := rfl
theorem r_137_122 : row 137 122 = some (.iconst 0, 123, 0, 0, 0, 0) := rfl
theorem r_137_123 : row 137 123 = some (.ireturn, 124, 0, 0, 0, 0) := rfl
theorem r_138_0 : row 138 0 = some (.iload_n 1, 1, 0, 0, 0, 0) := rfl
theorem r_138_1 : row 138 1 = some (.aload_n 0, 2, 0, 0, 0, 0) := rfl
theorem r_138_2 : row 138 2 = some (.getfield 281, 5, 10, 27, 0, 6028) := rfl
theorem r_138_5 : row 138 5 = some (.if_icmp .ne 10, 8, 15, 0, 0, 0) := rfl
theorem r_138_8 : row 138 8 = some (.aload_n 0, 9, 0, 0, 0, 0) := rfl
theorem r_138_9 : row 138 9 = some (.getfield 284, 12, 10, 28, 0, 6029) := rfl
theorem r_138_12 : row 138 12 = some (.goto 16, 15, 28, 0, 0, 0) := rfl
theorem r_138_15 : row 138 15 = some (.aload_n 0, 16, 0, 0, 0, 0) := rfl
theorem r_138_16 : row 138 16 = some (.getfield 9, 19, 10, 1, 2, 6002) := rfl
theorem r_138_19 : row 138 19 = some (.bipush 47, 21, 47, 0, 0, 0) := rfl
theorem r_138_21 : row 138 21 = some (.iconst 2, 22, 2, 0, 0, 0) := rfl
theorem r_138_22 : row 138 22 = some (.iload_n 1, 23, 0, 0, 0, 0) := rfl
theorem r_138_23 : row 138 23 = some (.imul, 24, 0, 0, 0, 0) := rfl
theorem r_138_24 : row 138 24 = some (.iadd, 25, 0, 0, 0, 0) := rfl
theorem r_138_25 : row 138 25 = some (.iconst 1, 26, 1, 0, 0, 0) := rfl
theorem r_138_26 : row 138 26 = some (.iadd, 27, 0, 0, 0, 0) := rfl
theorem r_138_27 : row 138 27 = some (.iaload, 28, 0, 0, 0, 0) := rfl
theorem r_138_28 : row 138 28 = some (.ireturn, 29, 0, 0, 0, 0) := rfl
theorem r_139_0 : row 139 0 = some (.iload_n 1, 1, 0, 0, 0, 0) := rfl
theorem r_139_1 : row 139 1 = some (.iconst 1, 2, 1, 0, 0, 0) := rfl
theorem r_139_2 : row 139 2 = some (.iadd, 3, 0, 0, 0, 0) := rfl
theorem r_139_3 : row 139 3 = some (.istore_n 3, 4, 0, 0, 0, 0) := rfl
theorem r_139_4 : row 139 4 = some (.aload_n 0, 5, 0, 0, 0, 0) := rfl
theorem r_139_5 : row 139 5 = some (.iload_n 3, 6, 0, 0, 0, 0) := rfl
theorem r_139_6 : row 139 6 = some (.iconst 1, 7, 1, 0, 0, 0) := rfl
theorem r_139_7 : row 139 7 = some (.invokevirtual 263, 10, 131, 2, 0, 7110) := rfl
theorem r_139_10 : row 139 10 = some (.istore 4, 12, 0, 0, 0, 0) := rfl
theorem r_139_12 : row 139 12 = some (.aload_n 0, 13, 0, 0, 0, 0) := rfl
theorem r_139_13 : row 139 13 = some (.getfield 49, 16, 10, 20, 2, 6021) := rfl
theorem r_139_16 : row 139 16 = some (.iload 4, 18, 0, 0, 0, 0) := rfl
theorem r_139_18 : row 139 18 = some (.dup2, 19, 0, 0, 0, 0) := rfl
theorem r_139_19 : row 139 19 = some (.iaload, 20, 0, 0, 0, 0) := rfl
theorem r_139_20 : row 139 20 = some (.iconst 1, 21, 1, 0, 0, 0) := rfl
theorem r_139_21 : row 139 21 = some (.iadd, 22, 0, 0, 0, 0) := rfl
theorem r_139_22 : row 139 22 = some (.iastore, 23, 0, 0, 0, 0) := rfl
theorem r_139_23 : row 139 23 = some (.aload_n 0, 24, 0, 0, 0, 0) := rfl
theorem r_139_24 : row 139 24 = some (.getfield 40, 27, 10, 17, 2, 6018) := rfl
theorem r_139_27 : row 139 27 = some (.iload_n 1, 28, 0, 0, 0, 0) := rfl
theorem r_139_28 : row 139 28 = some (.iconst 3, 29, 3, 0, 0, 0) := rfl
theorem r_139_29 : row 139 29 = some (.iastore, 30, 0, 0, 0, 0) := rfl
theorem r_139_30 : row 139 30 = some (.aload_n 0, 31, 0, 0, 0, 0) := rfl
theorem r_139_31 : row 139 31 = some (.iload_n 3, 32, 0, 0, 0, 0) := rfl
theorem r_139_32 : row 139 32 = some (.iconst 0, 33, 0, 0, 0, 0) := rfl
theorem r_139_33 : row 139 33 = some (.iload_n 2, 34, 0, 0, 0, 0) := rfl
theorem r_139_34 : row 139 34 = some (.invokevirtual 253, 37, 132, 3, 0, 7098) := rfl
theorem r_139_37 : row 139 37 = some (.aload_n 0, 38, 0, 0, 0, 0) := rfl
theorem r_139_38 : row 139 38 = some (.iload_n 3, 39, 0, 0, 0, 0) := rfl
theorem r_139_39 : row 139 39 = some (.bipush 6, 41, 6, 0, 0, 0) := rfl
theorem r_139_41 : row 139 41 = some (.iload 4, 43, 0, 0, 0, 0) := rfl
theorem r_139_43 : row 139 43 = some (.iadd, 44, 0, 0, 0, 0) := rfl
theorem r_139_44 : row 139 44 = some (.aload_n 0, 45, 0, 0, 0, 0) := rfl
theorem r_139_45 : row 139 45 = some (.iload_n 3, 46, 0, 0, 0, 0) := rfl
theorem r_139_46 : row 139 46 = some (.bipush 6, 48, 6, 0, 0, 0) := rfl
theorem r_139_48 : row 139 48 = some (.iload 4, 50, 0, 0, 0, 0) := rfl
theorem r_139_50 : row 139 50 = some (.iadd, 51, 0, 0, 0, 0) := rfl
theorem r_139_51 : row 139 51 = some (.invokevirtual 263, 54, 131, 2, 0, 7110) := rfl
theorem r_139_54 : row 139 54 = some (.aload_n 0, 55, 0, 0, 0, 0) := rfl
theorem r_139_55 : row 139 55 = some (.iload_n 3, 56, 0, 0, 0, 0) := rfl
theorem r_139_56 : row 139 56 = some (.iconst 2, 57, 2, 0, 0, 0) := rfl
theorem r_139_57 : row 139 57 = some (.invokevirtual 263, 60, 131, 2, 0, 7110) := rfl
theorem r_139_60 : row 139 60 = some (.iadd, 61, 0, 0, 0, 0) := rfl
theorem r_139_61 : row 139 61 = some (.invokevirtual 253, 64, 132, 3, 0, 7098) := rfl
theorem r_139_64 : row 139 64 = some (.aload_n 0, 65, 0, 0, 0, 0) := rfl
theorem r_139_65 : row 139 65 = some (.iload_n 3, 66, 0, 0, 0, 0) := rfl
theorem r_139_66 : row 139 66 = some (.bipush 6, 68, 6, 0, 0, 0) := rfl
theorem r_139_68 : row 139 68 = some (.iload 4, 70, 0, 0, 0, 0) := rfl
theorem r_139_70 : row 139 70 = some (.iadd, 71, 0, 0, 0, 0) := rfl
theorem r_139_71 : row 139 71 = some (.invokevirtual 263, 74, 131, 2, 0, 7110) := rfl
theorem r_139_74 : row 139 74 = some (.aload_n 0, 75, 0, 0, 0, 0) := rfl
theorem r_139_75 : row 139 75 = some (.iload 4, 77, 0, 0, 0, 0) := rfl
theorem r_139_77 : row 139 77 = some (.invokevirtual 287, 80, 138, 1, 0, 7142) := rfl
theorem r_139_80 : row 139 80 = some (.if_icmp .gt 4, 83, 84, 0, 0, 0) := rfl
theorem r_139_83 : row 139 83 = some (.return_, 84, 0, 0, 0, 0) := rfl
theorem r_139_84 : row 139 84 = some (.aload_n 0, 85, 0, 0, 0, 0) := rfl
theorem r_139_85 : row 139 85 = some (.iload_n 3, 86, 0, 0, 0, 0) := rfl
theorem r_139_86 : row 139 86 = some (.iconst 5, 87, 5, 0, 0, 0) := rfl
theorem r_139_87 : row 139 87 = some (.aload_n 0, 88, 0, 0, 0, 0) := rfl
theorem r_139_88 : row 139 88 = some (.iload_n 3, 89, 0, 0, 0, 0) := rfl
theorem r_139_89 : row 139 89 = some (.iconst 5, 90, 5, 0, 0, 0) := rfl
theorem r_139_90 : row 139 90 = some (.invokevirtual 263, 93, 131, 2, 0, 7110) := rfl
theorem r_139_93 : row 139 93 = some (.iconst 1, 94, 1, 0, 0, 0) := rfl
theorem r_139_94 : row 139 94 = some (.iload 4, 96, 0, 0, 0, 0) := rfl
theorem r_139_96 : row 139 96 = some (.ishl, 97, 0, 0, 0, 0) := rfl
theorem r_139_97 : row 139 97 = some (.ior, 98, 0, 0, 0, 0) := rfl
theorem r_139_98 : row 139 98 = some (.invokevirtual 253, 101, 132, 3, 0, 7098) := rfl
theorem r_139_101 : row 139 101 = some (.iconst (-1), 102, (-1), 0, 0, 0) := rfl
theorem r_139_102 : row 139 102 = some (.istore 5, 104, 0, 0, 0, 0) := rfl
theorem r_139_104 : row 139 104 = some (.iconst 0, 105, 0, 0, 0, 0) := rfl
theorem r_139_105 : row 139 105 = some (.istore 6, 107, 0, 0, 0, 0) := rfl
theorem r_139_107 : row 139 107 = some (.iload 6, 109, 0, 0, 0, 0) := rfl
theorem r_139_109 : row 139 109 = some (.aload_n 0, 110, 0, 0, 0, 0) := rfl
theorem r_139_110 : row 139 110 = some (.getfield 9, 113, 10, 1, 2, 6002) := rfl
theorem r_139_113 : row 139 113 = some (.bipush 7, 115, 7, 0, 0, 0) := rfl
theorem r_139_115 : row 139 115 = some (.iaload, 116, 0, 0, 0, 0) := rfl
theorem r_139_116 : row 139 116 = some (.if_icmp .ge 58, 119, 174, 0, 0, 0) := rfl
theorem r_139_119 : row 139 119 = some (.aload_n 0, 120, 0, 0, 0, 0) := rfl
theorem r_139_120 : row 139 120 = some (.iload_n 3, 121, 0, 0, 0, 0) := rfl
theorem r_139_121 : row 139 121 = some (.iconst 5, 122, 5, 0, 0, 0) := rfl
theorem r_139_122 : row 139 122 = some (.invokevirtual 263, 125, 131, 2, 0, 7110) := rfl
theorem r_139_125 : row 139 125 = some (.iload 6, 127, 0, 0, 0, 0) := rfl
theorem r_139_127 : row 139 127 = some (.invokestatic 272, 130, 87, 2, 0, 7122) := rfl
theorem r_139_130 : row 139 130 = some (.ifCond .ne 38, 133, 168, 0, 0, 0) := rfl
theorem r_139_133 : row 139 133 = some (.aload_n 0, 134, 0, 0, 0, 0) := rfl
theorem r_139_134 : row 139 134 = some (.iload 6, 136, 0, 0, 0, 0) := rfl
theorem r_139_136 : row 139 136 = some (.invokevirtual 244, 139, 99, 1, 0, 7066) := rfl
theorem r_139_139 : row 139 139 = some (.iload_n 2, 140, 0, 0, 0, 0) := rfl
theorem r_139_140 : row 139 140 = some (.if_icmp .ne 28, 143, 168, 0, 0, 0) := rfl
theorem r_139_143 : row 139 143 = some (.iload 5, 145, 0, 0, 0, 0) := rfl
theorem r_139_145 : row 139 145 = some (.iconst (-1), 146, (-1), 0, 0, 0) := rfl
theorem r_139_146 : row 139 146 = some (.if_icmp .eq 18, 149, 164, 0, 0, 0) := rfl
theorem r_139_149 : row 139 149 = some (.aload_n 0, 150, 0, 0, 0, 0) := rfl
theorem r_139_150 : row 139 150 = some (.iload 6, 152, 0, 0, 0, 0) := rfl
theorem r_139_152 : row 139 152 = some (.invokevirtual 287, 155, 138, 1, 0, 7142) := rfl
theorem r_139_155 : row 139 155 = some (.aload_n 0, 156, 0, 0, 0, 0) := rfl
theorem r_139_156 : row 139 156 = some (.iload 5, 158, 0, 0, 0, 0) := rfl
theorem r_139_158 : row 139 158 = some (.invokevirtual 287, 161, 138, 1, 0, 7142) := rfl
theorem r_139_161 : row 139 161 = some (.if_icmp .le 7, 164, 168, 0, 0, 0) := rfl
theorem r_139_164 : row 139 164 = some (.iload 6, 166, 0, 0, 0, 0) := rfl
theorem r_139_166 : row 139 166 = some (.istore 5, 168, 0, 0, 0, 0) := rfl
theorem r_139_168 : row 139 168 = some (.iinc 6 1, 171, 0, 0, 0, 0) := rfl
theorem r_139_171 : row 139 171 = some (.goto (-64), 174, 107, 0, 0, 0) := rfl
theorem r_139_174 : row 139 174 = some (.aload_n 0, 175, 0, 0, 0, 0) := rfl
theorem r_139_175 : row 139 175 = some (.iload_n 3, 176, 0, 0, 0, 0) := rfl
theorem r_139_176 : row 139 176 = some (.iconst 1, 177, 1, 0, 0, 0) := rfl
theorem r_139_177 : row 139 177 = some (.iload 5, 179, 0, 0, 0, 0) := rfl
theorem r_139_179 : row 139 179 = some (.invokevirtual 253, 182, 132, 3, 0, 7098) := rfl
theorem r_139_182 : row 139 182 = some (.iload 5, 184, 0, 0, 0, 0) := rfl
theorem r_139_184 : row 139 184 = some (.iconst (-1), 185, (-1), 0, 0, 0) := rfl
theorem r_139_185 : row 139 185 = some (.if_icmp .ne 9, 188, 194, 0, 0, 0) := rfl
theorem r_139_188 : row 139 188 = some (.aload_n 0, 189, 0, 0, 0, 0) := rfl
theorem r_139_189 : row 139 189 = some (.iload_n 1, 190, 0, 0, 0, 0) := rfl
theorem r_139_190 : row 139 190 = some (.iconst 0, 191, 0, 0, 0, 0) := rfl
theorem r_139_191 : row 139 191 = some (.invokevirtual 289, 194, 140, 2, 0, 7146) := rfl
theorem r_139_194 : row 139 194 = some (.return_, 195, 0, 0, 0, 0) := rfl
theorem r_140_0 : row 140 0 = some (.aload_n 0, 1, 0, 0, 0, 0) := rfl
theorem r_140_1 : row 140 1 = some (.iload_n 1, 2, 0, 0, 0, 0) := rfl
theorem r_140_2 : row 140 2 = some (.putfield 293, 5, 10, 21, 0, 6022) := rfl
theorem r_140_5 : row 140 5 = some (.aload_n 0, 6, 0, 0, 0, 0) := rfl
theorem r_140_6 : row 140 6 = some (.iload_n 2, 7, 0, 0, 0, 0) := rfl
theorem r_140_7 : row 140 7 = some (.putfield 296, 10, 10, 22, 0, 6023) := rfl
theorem r_140_10 : row 140 10 = some (.aload_n 0, 11, 0, 0, 0, 0) := rfl
theorem r_140_11 : row 140 11 = some (.iload_n 1, 12, 0, 0, 0, 0) := rfl
theorem r_140_12 : row 140 12 = some (.iconst 1, 13, 1, 0, 0, 0) := rfl
theorem r_140_13 : row 140 13 = some (.iadd, 14, 0, 0, 0, 0) := rfl
theorem r_140_14 : row 140 14 = some (.iconst 0, 15, 0, 0, 0, 0) := rfl
theorem r_140_15 : row 140 15 = some (.iconst (-1), 16, (-1), 0, 0, 0) := rfl
theorem r_140_16 : row 140 16 = some (.invokevirtual 253, 19, 132, 3, 0, 7098) := rfl
theorem r_140_19 : row 140 19 = some (.aload_n 0, 20, 0, 0, 0, 0) := rfl
theorem r_140_20 : row 140 20 = some (.iload_n 1, 21, 0, 0, 0, 0) := rfl
theorem r_140_21 : row 140 21 = some (.iconst 1, 22, 1, 0, 0, 0) := rfl
theorem r_140_22 : row 140 22 = some (.iadd, 23, 0, 0, 0, 0) := rfl
theorem r_140_23 : row 140 23 = some (.iconst 1, 24, 1, 0, 0, 0) := rfl
theorem r_140_24 : row 140 24 = some (.iconst (-1), 25, (-1), 0, 0, 0) := rfl
theorem r_140_25 : row 140 25 = some (.invokevirtual 253, 28, 132, 3, 0, 7098) := rfl
theorem r_140_28 : row 140 28 = some (.return_, 29, 0, 0, 0, 0) := rfl
/-- rows but n are as they were -/
def RowFr (n : Nat) (m0 m : Mm) : Prop := ∀ i : Nat, (i < 16 * n ∨ 16 * n + 16 ≤ i) → m 200 i = m0 200 i
theorem RowFr_rf {n : Nat} {m : Mm} : RowFr n m m := fun _ _ => rfl
theorem RowFr_up {n k h : Nat} {m0 m : Mm} {x : Int} (h1 : RowFr n m0 m) (hk : k < 16) (hh : h = n) : RowFr n m0 (nu_up m 200 (16 * h + k) x) := fun i hi => by
  rw [nu_ne (by omega)]; exact h1 i hi
theorem RowFr_tr {n : Nat} {a b c : Mm} (h1 : RowFr n a b) (h2 : RowFr n b c) : RowFr n a c := fun i hi => (h2 i hi).trans (h1 i hi)
theorem RowFr_no {n o i : Nat} {m0 m : Mm} {x : Int} (h1 : RowFr n m0 m) (ho : ¬ 200 = o) : RowFr n m0 (nu_up m o i x) := fun j hj => by
  rw [nu_no ho]; exact h1 j hj
theorem RowFr_fr {n : Nat} {m0 m m1 : Mm} {W : List Nat} (h1 : RowFr n m0 m) (h2 : Fr W m m1) (hw : W.contains 98999 = false) : RowFr n m0 m1 := fun j hj => by
  rw [Fr_cell (o := 200) h2 hw (by decide) j]; exact h1 j hj
/-- an hour's work on row n -/
def RD (n : Nat) (m0 m : Mm) : Prop := Gam m ∧ RowFr n m0 m ∧ (m 200 (16 * n + 1) = -1 ∨ 0 ≤ m 200 (16 * n)) ∧ Fr [90021, 90022, 98999, 99999, 100999, 102999] m0 m
theorem RD_tr {n : Nat} {a b c : Mm} (h1 : RowFr n a b) (h2 : Fr [90021, 90022, 98999, 99999, 100999, 102999] a b) (h : RD n b c) : RD n a c := ⟨h.1, RowFr_tr h1 h.2.1, h.2.2.1, Fr_tr h2 h.2.2.2⟩
section RIDE
variable {T : List Kd} {m : Mm}
theorem x_138 (hT : TT T) (hm : Gam m) {k : Nat} (hk : k < 5) : GX T 0 138 0 [(2, 192), (0, (k : Int))] [] m (RI (fun v m1 => v = (if (k : Int) = m 192 27 then m 192 28 else m 193 (48 + 2 * k)) ∧ m1 = m)) := by
  refine gx_st (L' := [(2, 192), (0, (k : Int))]) (S' := [(0, (k : Int))]) r_138_0 rfl rfl rfl ?_
  refine gx_st (L' := [(2, 192), (0, (k : Int))]) (S' := [(2, 192), (0, (k : Int))]) r_138_1 rfl rfl rfl ?_
  refine gx_gf (x := (m 192 27)) 0 r_138_2 rfl (tk_192 hT) ⟨by decide, rfl, by decide, by decide⟩ rfl (fun z => absurd z (by decide)) (rfl) ?_
  refine gx_ic (P := ¬ (k : Int) = (m 192 27)) r_138_5 (rfl) (fun h5 => ?_) (fun h5 => ?_)
  · refine gx_st (L' := [(2, 192), (0, (k : Int))]) (S' := [(2, 192)]) r_138_15 rfl rfl rfl ?_
    refine gx_gf (x := 193) 2 r_138_16 rfl (tk_192 hT) ⟨by decide, rfl, by decide, by decide⟩ rfl (fun _ => by decide) (pr_192_1 hm) ?_
    refine gx_st (L' := [(2, 192), (0, (k : Int))]) (S' := [(0, 47), (2, 193)]) r_138_19 rfl rfl rfl ?_
    refine gx_st (L' := [(2, 192), (0, (k : Int))]) (S' := [(0, 2), (0, 47), (2, 193)]) r_138_21 rfl rfl rfl ?_
    refine gx_st (L' := [(2, 192), (0, (k : Int))]) (S' := [(0, (k : Int)), (0, 2), (0, 47), (2, 193)]) r_138_22 rfl rfl rfl ?_
    refine gx_ar (L' := [(2, 192), (0, (k : Int))]) (S' := [(0, 47), (2, 193)]) (t := 0) (e := w32 (2 * (k : Int))) (z := 2 * (k : Int)) r_138_23 rfl rfl rfl (w32_eq (by omega) (by omega) (by omega)) ?_
    refine gx_ar (L' := [(2, 192), (0, (k : Int))]) (S' := [(2, 193)]) (t := 0) (e := w32 (47 + (2 * (k : Int)))) (z := 2 * (k : Int) + 47) r_138_24 rfl rfl rfl (w32_eq (by omega) (by omega) (by omega)) ?_
    refine gx_st (L' := [(2, 192), (0, (k : Int))]) (S' := [(0, 1), (0, 2 * (k : Int) + 47), (2, 193)]) r_138_25 rfl rfl rfl ?_
    refine gx_ar (L' := [(2, 192), (0, (k : Int))]) (S' := [(2, 193)]) (t := 0) (e := w32 ((2 * (k : Int) + 47) + 1)) (z := 2 * (k : Int) + 48) r_138_26 rfl rfl rfl (w32_eq (by omega) (by omega) (by omega)) ?_
    refine gx_ia (n := 48 + 2 * k) (x := (m 193 (48 + 2 * k))) r_138_27 rfl (tk_193 hT) (by omega) ⟨rfl, by omega⟩ (rfl) ?_
    exact gx_rt r_138_28 rfl rfl ⟨_, rfl, ⟨by rw [if_neg (by omega)], rfl⟩⟩
  · have h5 := Decidable.not_not.mp h5
    refine gx_st (L' := [(2, 192), (0, (k : Int))]) (S' := [(2, 192)]) r_138_8 rfl rfl rfl ?_
    refine gx_gf (x := (m 192 28)) 0 r_138_9 rfl (tk_192 hT) ⟨by decide, rfl, by decide, by decide⟩ rfl (fun z => absurd z (by decide)) (rfl) ?_
    refine gx_st (L' := [(2, 192), (0, (k : Int))]) (S' := [(0, (m 192 28))]) r_138_12 rfl rfl rfl ?_
    exact gx_rt r_138_28 rfl rfl ⟨_, rfl, ⟨by rw [if_pos (by omega)], rfl⟩⟩
theorem str_in (hm : Gam m) {k : Nat} (hk : k < 5) : -2147483648 ≤ (if (k : Int) = m 192 27 then m 192 28 else m 193 (48 + 2 * k)) ∧ (if (k : Int) = m 192 27 then m 192 28 else m 193 (48 + 2 * k)) ≤ 2147483647 := by
  have h1 := gb_192_28 hm
  have h2 := gb_193 hm (i := 48 + 2 * k) (by omega)
  split <;> omega
theorem x_140 (hT : TT T) (hm : Gam m) {h n : Nat} (hh : h < 12) (hn : n = h + 1) {x : Int} (hx1 : -2147483648 ≤ x) (hx2 : x ≤ 2147483647) : GX T 1 140 0 [(2, 192), (0, (h : Int)), (0, x)] [] m (RV (RD n m)) := by
  refine gx_st (L' := [(2, 192), (0, (h : Int)), (0, x)]) (S' := [(2, 192)]) r_140_0 rfl rfl rfl ?_
  refine gx_st (L' := [(2, 192), (0, (h : Int)), (0, x)]) (S' := [(0, (h : Int)), (2, 192)]) r_140_1 rfl rfl rfl ?_
  obtain ⟨m1, e_m1⟩ : ∃ z, z = nu_up m 192 21 (h : Int) := ⟨_, rfl⟩
  have h_m1 : Gam m1 := by rw [e_m1]; exact gu_192_21 hm (by omega) (by omega)
  have f_m1 : Fr [90021, 90022, 98999, 99999, 100999, 102999] m m1 := Fr_tr Fr_rf (by rw [e_m1]; exact Fr_up rfl)
  have r_m1 : RowFr n m m1 := by rw [e_m1]; exact RowFr_no RowFr_rf (by decide)
  have aw_m1 : m1 200 (16 * n) = (m 200 (16 * n)) := by rw [e_m1, nu_no (by decide)]
  have ow_m1 : m1 200 (16 * n + 1) = (m 200 (16 * n + 1)) := by rw [e_m1, nu_no (by decide)]
  refine gx_pf (x := (h : Int)) 0 r_140_2 rfl (tk_192 hT) ⟨by decide, rfl, by decide, by decide⟩ rfl (fun z => absurd z (by decide)) (fun z => absurd z (by decide)) e_m1.symm ?_
  refine gx_st (L' := [(2, 192), (0, (h : Int)), (0, x)]) (S' := [(2, 192)]) r_140_5 rfl rfl rfl ?_
  refine gx_st (L' := [(2, 192), (0, (h : Int)), (0, x)]) (S' := [(0, x), (2, 192)]) r_140_6 rfl rfl rfl ?_
  obtain ⟨m2, e_m2⟩ : ∃ z, z = nu_up m1 192 22 x := ⟨_, rfl⟩
  have h_m2 : Gam m2 := by rw [e_m2]; exact gu_192_22 h_m1 (by omega) (by omega)
  have f_m2 : Fr [90021, 90022, 98999, 99999, 100999, 102999] m m2 := Fr_tr f_m1 (by rw [e_m2]; exact Fr_up rfl)
  have r_m2 : RowFr n m m2 := by rw [e_m2]; exact RowFr_no r_m1 (by decide)
  have aw_m2 : m2 200 (16 * n) = (m 200 (16 * n)) := by rw [e_m2, nu_no (by decide)]; exact aw_m1
  have ow_m2 : m2 200 (16 * n + 1) = (m 200 (16 * n + 1)) := by rw [e_m2, nu_no (by decide)]; exact ow_m1
  refine gx_pf (x := x) 0 r_140_7 rfl (tk_192 hT) ⟨by decide, rfl, by decide, by decide⟩ rfl (fun z => absurd z (by decide)) (fun z => absurd z (by decide)) e_m2.symm ?_
  refine gx_st (L' := [(2, 192), (0, (h : Int)), (0, x)]) (S' := [(2, 192)]) r_140_10 rfl rfl rfl ?_
  refine gx_st (L' := [(2, 192), (0, (h : Int)), (0, x)]) (S' := [(0, (h : Int)), (2, 192)]) r_140_11 rfl rfl rfl ?_
  refine gx_st (L' := [(2, 192), (0, (h : Int)), (0, x)]) (S' := [(0, 1), (0, (h : Int)), (2, 192)]) r_140_12 rfl rfl rfl ?_
  refine gx_ar (L' := [(2, 192), (0, (h : Int)), (0, x)]) (S' := [(2, 192)]) (t := 0) (e := w32 ((h : Int) + 1)) (z := (n : Int)) r_140_13 rfl rfl rfl (w32_eq (by omega) (by omega) (by omega)) ?_
  refine gx_st (L' := [(2, 192), (0, (h : Int)), (0, x)]) (S' := [(0, 0), (0, (n : Int)), (2, 192)]) r_140_14 rfl rfl rfl ?_
  refine gx_st (L' := [(2, 192), (0, (h : Int)), (0, x)]) (S' := [(0, (-1)), (0, 0), (0, (n : Int)), (2, 192)]) r_140_15 rfl rfl rfl ?_
  refine gx_cv (nx := 19) (S2 := []) (x_132 hT h_m2 (h := n) (k := 0) (by omega) (by omega) (-1)) r_140_16 rfl rfl rfl rfl rfl (rcv_v rfl (tk_192 hT) (by decide) rfl (by decide)) rfl (by decide) rfl (fun n16 q16 => ?_)
  have h_n16 : Gam n16 := by rw [q16]; exact gu_200_at h_m2 (h := n) (by omega) (by omega) (by omega)
  have f_n16 : Fr [90021, 90022, 98999, 99999, 100999, 102999] m n16 := Fr_tr f_m2 (by rw [q16]; exact Fr_ua rfl rfl)
  have r_n16 : RowFr n m n16 := by rw [q16]; exact RowFr_up r_m2 (by omega) (by omega)
  have aw_n16 : n16 200 (16 * n) = (-1) := by rw [q16]; exact nu_at
  have ow_n16 : n16 200 (16 * n + 1) = (m 200 (16 * n + 1)) := by rw [q16, nu_ne (by omega)]; exact ow_m2
  show GX T 1 140 19 [(2, 192), (0, (h : Int)), (0, x)] [] n16 (RV (RD n m))
  refine gx_st (L' := [(2, 192), (0, (h : Int)), (0, x)]) (S' := [(2, 192)]) r_140_19 rfl rfl rfl ?_
  refine gx_st (L' := [(2, 192), (0, (h : Int)), (0, x)]) (S' := [(0, (h : Int)), (2, 192)]) r_140_20 rfl rfl rfl ?_
  refine gx_st (L' := [(2, 192), (0, (h : Int)), (0, x)]) (S' := [(0, 1), (0, (h : Int)), (2, 192)]) r_140_21 rfl rfl rfl ?_
  refine gx_ar (L' := [(2, 192), (0, (h : Int)), (0, x)]) (S' := [(2, 192)]) (t := 0) (e := w32 ((h : Int) + 1)) (z := (n : Int)) r_140_22 rfl rfl rfl (w32_eq (by omega) (by omega) (by omega)) ?_
  refine gx_st (L' := [(2, 192), (0, (h : Int)), (0, x)]) (S' := [(0, 1), (0, (n : Int)), (2, 192)]) r_140_23 rfl rfl rfl ?_
  refine gx_st (L' := [(2, 192), (0, (h : Int)), (0, x)]) (S' := [(0, (-1)), (0, 1), (0, (n : Int)), (2, 192)]) r_140_24 rfl rfl rfl ?_
  refine gx_cv (nx := 28) (S2 := []) (x_132 hT h_n16 (h := n) (k := 1) (by omega) (by omega) (-1)) r_140_25 rfl rfl rfl rfl rfl (rcv_v rfl (tk_192 hT) (by decide) rfl (by decide)) rfl (by decide) rfl (fun n25 q25 => ?_)
  have h_n25 : Gam n25 := by rw [q25]; exact gu_200_on h_n16 (h := n) (by omega) (by omega) (by omega)
  have f_n25 : Fr [90021, 90022, 98999, 99999, 100999, 102999] m n25 := Fr_tr f_n16 (by rw [q25]; exact Fr_ua rfl rfl)
  have r_n25 : RowFr n m n25 := by rw [q25]; exact RowFr_up r_n16 (by omega) (by omega)
  have aw_n25 : n25 200 (16 * n) = (-1) := by rw [q25, nu_ne (by omega)]; exact aw_n16
  have ow_n25 : n25 200 (16 * n + 1) = (-1) := by rw [q25]; exact nu_at
  show GX T 1 140 28 [(2, 192), (0, (h : Int)), (0, x)] [] n25 (RV (RD n m))
  exact gx_rt r_140_28 rfl rfl ⟨rfl, h_n25, r_n25, Or.inl (by rw [ow_n25] <;> omega), f_n25⟩
theorem carry_l (hT : TT T) (hm : Gam m) {Q : AV → Mm → Prop} {h t n b c : Nat} (hn : n < 13) (hc : m 193 7 = (c : Int)) (hout : ∀ (k : Nat) (y : Int), -1 ≤ y → y ≤ 4 → GX T 3 139 174 [(2, 192), (0, (h : Int)), (0, (t : Int)), (0, (n : Int)), (0, (b : Int)), (0, y), (0, (k : Int))] [] m Q) : ∀ (N k : Nat) (y : Int), c - k < N → k ≤ c → -1 ≤ y → y ≤ 4 → GX T 3 139 107 [(2, 192), (0, (h : Int)), (0, (t : Int)), (0, (n : Int)), (0, (b : Int)), (0, y), (0, (k : Int))] [] m Q := by
  intro N
  induction N with
  | zero => intro k y hN; exact absurd hN (Nat.not_lt_zero _)
  | succ N ih =>
    intro k y hN hk hy1 hy2
    have bc := gb_193_7 hm
    refine gx_st (L' := [(2, 192), (0, (h : Int)), (0, (t : Int)), (0, (n : Int)), (0, (b : Int)), (0, y), (0, (k : Int))]) (S' := [(0, (k : Int))]) r_139_107 rfl rfl rfl ?_
    refine gx_st (L' := [(2, 192), (0, (h : Int)), (0, (t : Int)), (0, (n : Int)), (0, (b : Int)), (0, y), (0, (k : Int))]) (S' := [(2, 192), (0, (k : Int))]) r_139_109 rfl rfl rfl ?_
    refine gx_gf (x := 193) 2 r_139_110 rfl (tk_192 hT) ⟨by decide, rfl, by decide, by decide⟩ rfl (fun _ => by decide) (pr_192_1 hm) ?_
    refine gx_st (L' := [(2, 192), (0, (h : Int)), (0, (t : Int)), (0, (n : Int)), (0, (b : Int)), (0, y), (0, (k : Int))]) (S' := [(0, 7), (2, 193), (0, (k : Int))]) r_139_113 rfl rfl rfl ?_
    refine gx_ia (n := 7) (x := (c : Int)) r_139_115 rfl (tk_193 hT) (rfl) ⟨rfl, by decide⟩ (hc) ?_
    refine gx_ic (P := (c : Int) ≤ (k : Int)) r_139_116 (rfl) (fun h116 => ?_) (fun h116 => ?_)
    · exact hout k y hy1 hy2
    · refine gx_st (L' := [(2, 192), (0, (h : Int)), (0, (t : Int)), (0, (n : Int)), (0, (b : Int)), (0, y), (0, (k : Int))]) (S' := [(2, 192)]) r_139_119 rfl rfl rfl ?_
      refine gx_st (L' := [(2, 192), (0, (h : Int)), (0, (t : Int)), (0, (n : Int)), (0, (b : Int)), (0, y), (0, (k : Int))]) (S' := [(0, (n : Int)), (2, 192)]) r_139_120 rfl rfl rfl ?_
      refine gx_st (L' := [(2, 192), (0, (h : Int)), (0, (t : Int)), (0, (n : Int)), (0, (b : Int)), (0, y), (0, (k : Int))]) (S' := [(0, 5), (0, (n : Int)), (2, 192)]) r_139_121 rfl rfl rfl ?_
      refine gx_ci (nx := 125) (S2 := []) (x_131 hT hm (h := n) (k := 5) (by omega) (by omega)) r_139_122 rfl rfl rfl rfl rfl (rcv_v rfl (tk_192 hT) (by decide) rfl (by decide)) rfl (by decide) rfl (fun x122 n122 q122 => ?_)
      obtain ⟨e_x122, z_x122⟩ := q122
      obtain rfl := z_x122.symm
      have b_x122 := gb_200 hm (i := 16 * (n) + (5)) (by omega)
      rw [← e_x122] at b_x122
      show GX T 3 139 125 [(2, 192), (0, (h : Int)), (0, (t : Int)), (0, (n : Int)), (0, (b : Int)), (0, y), (0, (k : Int))] [(0, x122)] m Q
      refine gx_st (L' := [(2, 192), (0, (h : Int)), (0, (t : Int)), (0, (n : Int)), (0, (b : Int)), (0, y), (0, (k : Int))]) (S' := [(0, (k : Int)), (0, x122)]) r_139_125 rfl rfl rfl ?_
      refine gx_ci (nx := 130) (S2 := []) (x_87 x122 (k : Int)) r_139_127 rfl rfl rfl rfl rfl rfl rfl (by decide) rfl (fun x127 n127 q127 => ?_)
      obtain ⟨e_x127, z_x127⟩ := q127
      obtain rfl := z_x127.symm
      have b_x127 : -2147483648 ≤ x127 ∧ x127 ≤ 2147483647 := by rw [e_x127]; exact i32_in _
      show GX T 3 139 130 [(2, 192), (0, (h : Int)), (0, (t : Int)), (0, (n : Int)), (0, (b : Int)), (0, y), (0, (k : Int))] [(0, x127)] m Q
      refine gx_i0 (P := ¬ x127 = 0) r_139_130 (rfl) (fun h130 => ?_) (fun h130 => ?_)
      · refine gx_li (z := (k : Int) + 1) (L' := [(2, 192), (0, (h : Int)), (0, (t : Int)), (0, (n : Int)), (0, (b : Int)), (0, y), (0, (k : Int) + 1)]) r_139_168 rfl (w32_eq (by omega) (by omega) (by omega)) rfl ?_
        refine gx_st (L' := [(2, 192), (0, (h : Int)), (0, (t : Int)), (0, (n : Int)), (0, (b : Int)), (0, y), (0, (k : Int) + 1)]) (S' := []) r_139_171 rfl rfl rfl ?_
        rw [show (k : Int) + 1 = ((k + 1 : Nat) : Int) from rfl]
        exact ih (k + 1) _ (by omega) (by omega) (by omega) (by omega)
      · have h130 := Decidable.not_not.mp h130
        refine gx_st (L' := [(2, 192), (0, (h : Int)), (0, (t : Int)), (0, (n : Int)), (0, (b : Int)), (0, y), (0, (k : Int))]) (S' := [(2, 192)]) r_139_133 rfl rfl rfl ?_
        refine gx_st (L' := [(2, 192), (0, (h : Int)), (0, (t : Int)), (0, (n : Int)), (0, (b : Int)), (0, y), (0, (k : Int))]) (S' := [(0, (k : Int)), (2, 192)]) r_139_134 rfl rfl rfl ?_
        refine gx_ci (nx := 139) (S2 := []) (x_99 hT hm (k := k) (by omega)) r_139_136 rfl rfl rfl rfl rfl (rcv_v rfl (tk_192 hT) (by decide) rfl (by decide)) rfl (by decide) rfl (fun x136 n136 q136 => ?_)
        obtain ⟨e_x136, z_x136⟩ := q136
        obtain rfl := z_x136.symm
        have b_x136 := gb_193_bp hm (k := k) (by omega)
        rw [← e_x136] at b_x136
        show GX T 3 139 139 [(2, 192), (0, (h : Int)), (0, (t : Int)), (0, (n : Int)), (0, (b : Int)), (0, y), (0, (k : Int))] [(0, x136)] m Q
        refine gx_st (L' := [(2, 192), (0, (h : Int)), (0, (t : Int)), (0, (n : Int)), (0, (b : Int)), (0, y), (0, (k : Int))]) (S' := [(0, (t : Int)), (0, x136)]) r_139_139 rfl rfl rfl ?_
        refine gx_ic (P := ¬ x136 = (t : Int)) r_139_140 (rfl) (fun h140 => ?_) (fun h140 => ?_)
        · refine gx_li (z := (k : Int) + 1) (L' := [(2, 192), (0, (h : Int)), (0, (t : Int)), (0, (n : Int)), (0, (b : Int)), (0, y), (0, (k : Int) + 1)]) r_139_168 rfl (w32_eq (by omega) (by omega) (by omega)) rfl ?_
          refine gx_st (L' := [(2, 192), (0, (h : Int)), (0, (t : Int)), (0, (n : Int)), (0, (b : Int)), (0, y), (0, (k : Int) + 1)]) (S' := []) r_139_171 rfl rfl rfl ?_
          rw [show (k : Int) + 1 = ((k + 1 : Nat) : Int) from rfl]
          exact ih (k + 1) _ (by omega) (by omega) (by omega) (by omega)
        · have h140 := Decidable.not_not.mp h140
          refine gx_st (L' := [(2, 192), (0, (h : Int)), (0, (t : Int)), (0, (n : Int)), (0, (b : Int)), (0, y), (0, (k : Int))]) (S' := [(0, y)]) r_139_143 rfl rfl rfl ?_
          refine gx_st (L' := [(2, 192), (0, (h : Int)), (0, (t : Int)), (0, (n : Int)), (0, (b : Int)), (0, y), (0, (k : Int))]) (S' := [(0, (-1)), (0, y)]) r_139_145 rfl rfl rfl ?_
          refine gx_ic (P := y = (-1)) r_139_146 (rfl) (fun h146 => ?_) (fun h146 => ?_)
          · refine gx_st (L' := [(2, 192), (0, (h : Int)), (0, (t : Int)), (0, (n : Int)), (0, (b : Int)), (0, y), (0, (k : Int))]) (S' := [(0, (k : Int))]) r_139_164 rfl rfl rfl ?_
            refine gx_st (L' := [(2, 192), (0, (h : Int)), (0, (t : Int)), (0, (n : Int)), (0, (b : Int)), (0, (k : Int)), (0, (k : Int))]) (S' := []) r_139_166 rfl rfl rfl ?_
            refine gx_li (z := (k : Int) + 1) (L' := [(2, 192), (0, (h : Int)), (0, (t : Int)), (0, (n : Int)), (0, (b : Int)), (0, (k : Int)), (0, (k : Int) + 1)]) r_139_168 rfl (w32_eq (by omega) (by omega) (by omega)) rfl ?_
            refine gx_st (L' := [(2, 192), (0, (h : Int)), (0, (t : Int)), (0, (n : Int)), (0, (b : Int)), (0, (k : Int)), (0, (k : Int) + 1)]) (S' := []) r_139_171 rfl rfl rfl ?_
            rw [show (k : Int) + 1 = ((k + 1 : Nat) : Int) from rfl]
            exact ih (k + 1) _ (by omega) (by omega) (by omega) (by omega)
          · obtain ⟨q, rfl⟩ : ∃ q : Nat, y = (q : Int) := ⟨y.toNat, by omega⟩
            refine gx_st (L' := [(2, 192), (0, (h : Int)), (0, (t : Int)), (0, (n : Int)), (0, (b : Int)), (0, (q : Int)), (0, (k : Int))]) (S' := [(2, 192)]) r_139_149 rfl rfl rfl ?_
            refine gx_st (L' := [(2, 192), (0, (h : Int)), (0, (t : Int)), (0, (n : Int)), (0, (b : Int)), (0, (q : Int)), (0, (k : Int))]) (S' := [(0, (k : Int)), (2, 192)]) r_139_150 rfl rfl rfl ?_
            refine gx_ci (nx := 155) (S2 := []) (x_138 hT hm (k := k) (by omega)) r_139_152 rfl rfl rfl rfl rfl (rcv_v rfl (tk_192 hT) (by decide) rfl (by decide)) rfl (by decide) rfl (fun x152 n152 q152 => ?_)
            obtain ⟨e_x152, z_x152⟩ := q152
            obtain rfl := z_x152.symm
            have b_x152 : -2147483648 ≤ x152 ∧ x152 ≤ 2147483647 := by rw [e_x152]; exact str_in hm (by omega)
            show GX T 3 139 155 [(2, 192), (0, (h : Int)), (0, (t : Int)), (0, (n : Int)), (0, (b : Int)), (0, (q : Int)), (0, (k : Int))] [(0, x152)] m Q
            refine gx_st (L' := [(2, 192), (0, (h : Int)), (0, (t : Int)), (0, (n : Int)), (0, (b : Int)), (0, (q : Int)), (0, (k : Int))]) (S' := [(2, 192), (0, x152)]) r_139_155 rfl rfl rfl ?_
            refine gx_st (L' := [(2, 192), (0, (h : Int)), (0, (t : Int)), (0, (n : Int)), (0, (b : Int)), (0, (q : Int)), (0, (k : Int))]) (S' := [(0, (q : Int)), (2, 192), (0, x152)]) r_139_156 rfl rfl rfl ?_
            refine gx_ci (nx := 161) (S2 := [(0, x152)]) (x_138 hT hm (k := q) (by omega)) r_139_158 rfl rfl rfl rfl rfl (rcv_v rfl (tk_192 hT) (by decide) rfl (by decide)) rfl (by decide) rfl (fun x158 n158 q158 => ?_)
            obtain ⟨e_x158, z_x158⟩ := q158
            obtain rfl := z_x158.symm
            have b_x158 : -2147483648 ≤ x158 ∧ x158 ≤ 2147483647 := by rw [e_x158]; exact str_in hm (by omega)
            show GX T 3 139 161 [(2, 192), (0, (h : Int)), (0, (t : Int)), (0, (n : Int)), (0, (b : Int)), (0, (q : Int)), (0, (k : Int))] [(0, x158), (0, x152)] m Q
            refine gx_ic (P := x152 ≤ x158) r_139_161 (rfl) (fun h161 => ?_) (fun h161 => ?_)
            · refine gx_li (z := (k : Int) + 1) (L' := [(2, 192), (0, (h : Int)), (0, (t : Int)), (0, (n : Int)), (0, (b : Int)), (0, (q : Int)), (0, (k : Int) + 1)]) r_139_168 rfl (w32_eq (by omega) (by omega) (by omega)) rfl ?_
              refine gx_st (L' := [(2, 192), (0, (h : Int)), (0, (t : Int)), (0, (n : Int)), (0, (b : Int)), (0, (q : Int)), (0, (k : Int) + 1)]) (S' := []) r_139_171 rfl rfl rfl ?_
              rw [show (k : Int) + 1 = ((k + 1 : Nat) : Int) from rfl]
              exact ih (k + 1) _ (by omega) (by omega) (by omega) (by omega)
            · refine gx_st (L' := [(2, 192), (0, (h : Int)), (0, (t : Int)), (0, (n : Int)), (0, (b : Int)), (0, (q : Int)), (0, (k : Int))]) (S' := [(0, (k : Int))]) r_139_164 rfl rfl rfl ?_
              refine gx_st (L' := [(2, 192), (0, (h : Int)), (0, (t : Int)), (0, (n : Int)), (0, (b : Int)), (0, (k : Int)), (0, (k : Int))]) (S' := []) r_139_166 rfl rfl rfl ?_
              refine gx_li (z := (k : Int) + 1) (L' := [(2, 192), (0, (h : Int)), (0, (t : Int)), (0, (n : Int)), (0, (b : Int)), (0, (k : Int)), (0, (k : Int) + 1)]) r_139_168 rfl (w32_eq (by omega) (by omega) (by omega)) rfl ?_
              refine gx_st (L' := [(2, 192), (0, (h : Int)), (0, (t : Int)), (0, (n : Int)), (0, (b : Int)), (0, (k : Int)), (0, (k : Int) + 1)]) (S' := []) r_139_171 rfl rfl rfl ?_
              rw [show (k : Int) + 1 = ((k + 1 : Nat) : Int) from rfl]
              exact ih (k + 1) _ (by omega) (by omega) (by omega) (by omega)
theorem x_139 (hT : TT T) (hm : Gam m) {h n : Nat} (hh : h < 12) (hn : n = h + 1) {t : Nat} (ht : t < 7) (hb0 : 0 ≤ m 200 (16 * n + 1)) : GX T 3 139 0 [(2, 192), (0, (h : Int)), (0, (t : Int)), (9, 0), (9, 0), (9, 0), (9, 0)] [] m (RV (RD n m)) := by
  have bon := gb_200_on hm (h := n) (by omega)
  obtain ⟨b, hb⟩ : ∃ b : Nat, m 200 (16 * n + 1) = (b : Int) := ⟨(m 200 (16 * n + 1)).toNat, by omega⟩
  refine gx_st (L' := [(2, 192), (0, (h : Int)), (0, (t : Int)), (9, 0), (9, 0), (9, 0), (9, 0)]) (S' := [(0, (h : Int))]) r_139_0 rfl rfl rfl ?_
  refine gx_st (L' := [(2, 192), (0, (h : Int)), (0, (t : Int)), (9, 0), (9, 0), (9, 0), (9, 0)]) (S' := [(0, 1), (0, (h : Int))]) r_139_1 rfl rfl rfl ?_
  refine gx_ar (L' := [(2, 192), (0, (h : Int)), (0, (t : Int)), (9, 0), (9, 0), (9, 0), (9, 0)]) (S' := []) (t := 0) (e := w32 ((h : Int) + 1)) (z := (n : Int)) r_139_2 rfl rfl rfl (w32_eq (by omega) (by omega) (by omega)) ?_
  refine gx_st (L' := [(2, 192), (0, (h : Int)), (0, (t : Int)), (0, (n : Int)), (9, 0), (9, 0), (9, 0)]) (S' := []) r_139_3 rfl rfl rfl ?_
  refine gx_st (L' := [(2, 192), (0, (h : Int)), (0, (t : Int)), (0, (n : Int)), (9, 0), (9, 0), (9, 0)]) (S' := [(2, 192)]) r_139_4 rfl rfl rfl ?_
  refine gx_st (L' := [(2, 192), (0, (h : Int)), (0, (t : Int)), (0, (n : Int)), (9, 0), (9, 0), (9, 0)]) (S' := [(0, (n : Int)), (2, 192)]) r_139_5 rfl rfl rfl ?_
  refine gx_st (L' := [(2, 192), (0, (h : Int)), (0, (t : Int)), (0, (n : Int)), (9, 0), (9, 0), (9, 0)]) (S' := [(0, 1), (0, (n : Int)), (2, 192)]) r_139_6 rfl rfl rfl ?_
  refine gx_ci (nx := 10) (S2 := []) (x_131 hT hm (h := n) (k := 1) (by omega) (by omega)) r_139_7 rfl rfl rfl rfl rfl (rcv_v rfl (tk_192 hT) (by decide) rfl (by decide)) rfl (by decide) rfl (fun x7 n7 q7 => ?_)
  obtain rfl := q7.1.symm
  obtain rfl := q7.2.symm
  show GX T 3 139 10 [(2, 192), (0, (h : Int)), (0, (t : Int)), (0, (n : Int)), (9, 0), (9, 0), (9, 0)] [(0, (m 200 (16 * n + 1)))] m (RV (RD n m))
  rw [hb]
  refine gx_st (L' := [(2, 192), (0, (h : Int)), (0, (t : Int)), (0, (n : Int)), (0, (b : Int)), (9, 0), (9, 0)]) (S' := []) r_139_10 rfl rfl rfl ?_
  refine gx_st (L' := [(2, 192), (0, (h : Int)), (0, (t : Int)), (0, (n : Int)), (0, (b : Int)), (9, 0), (9, 0)]) (S' := [(2, 192)]) r_139_12 rfl rfl rfl ?_
  refine gx_gf (x := 204) 2 r_139_13 rfl (tk_192 hT) ⟨by decide, rfl, by decide, by decide⟩ rfl (fun _ => by decide) (pr_192_20 hm) ?_
  refine gx_st (L' := [(2, 192), (0, (h : Int)), (0, (t : Int)), (0, (n : Int)), (0, (b : Int)), (9, 0), (9, 0)]) (S' := [(0, (b : Int)), (2, 204)]) r_139_16 rfl rfl rfl ?_
  refine gx_st (L' := [(2, 192), (0, (h : Int)), (0, (t : Int)), (0, (n : Int)), (0, (b : Int)), (9, 0), (9, 0)]) (S' := [(0, (b : Int)), (2, 204), (0, (b : Int)), (2, 204)]) r_139_18 rfl rfl rfl ?_
  obtain ⟨x19, e_x19⟩ : ∃ z, z = m 204 (b) := ⟨_, rfl⟩
  have b_x19 := gb_204 hm (i := b) (by omega)
  rw [← e_x19] at b_x19
  refine gx_ia (n := b) (x := x19) r_139_19 rfl (tk_204 hT) (by omega) ⟨rfl, by omega⟩ (e_x19.symm) ?_
  refine gx_st (L' := [(2, 192), (0, (h : Int)), (0, (t : Int)), (0, (n : Int)), (0, (b : Int)), (9, 0), (9, 0)]) (S' := [(0, 1), (0, x19), (0, (b : Int)), (2, 204)]) r_139_20 rfl rfl rfl ?_
  refine gx_st (L' := [(2, 192), (0, (h : Int)), (0, (t : Int)), (0, (n : Int)), (0, (b : Int)), (9, 0), (9, 0)]) (S' := [(0, (w32 (x19 + 1))), (0, (b : Int)), (2, 204)]) r_139_21 rfl rfl rfl ?_
  have k21 := w32_in (x19 + 1)
  unfold in32 at k21
  obtain ⟨m1, e_m1⟩ : ∃ z, z = nu_up m 204 (b) ((w32 (x19 + 1))) := ⟨_, rfl⟩
  have h_m1 : Gam m1 := by rw [e_m1]; exact gu_204 hm (i := b) (by omega) (by omega)
  have f_m1 : Fr [90021, 90022, 98999, 99999, 100999, 102999] m m1 := Fr_tr Fr_rf (by rw [e_m1]; exact Fr_ua rfl rfl)
  have r_m1 : RowFr n m m1 := by rw [e_m1]; exact RowFr_no RowFr_rf (by decide)
  have aw_m1 : m1 200 (16 * n) = (m 200 (16 * n)) := by rw [e_m1, nu_no (by decide)]
  have ow_m1 : m1 200 (16 * n + 1) = (b : Int) := by rw [e_m1, nu_no (by decide)]; exact hb
  refine gx_is (n := b) (x := (w32 (x19 + 1))) r_139_22 rfl (by decide) (tk_204 hT) (by omega) ⟨rfl, by omega⟩ e_m1.symm ?_
  refine gx_st (L' := [(2, 192), (0, (h : Int)), (0, (t : Int)), (0, (n : Int)), (0, (b : Int)), (9, 0), (9, 0)]) (S' := [(2, 192)]) r_139_23 rfl rfl rfl ?_
  refine gx_gf (x := 201) 2 r_139_24 rfl (tk_192 hT) ⟨by decide, rfl, by decide, by decide⟩ rfl (fun _ => by decide) (pr_192_17 h_m1) ?_
  refine gx_st (L' := [(2, 192), (0, (h : Int)), (0, (t : Int)), (0, (n : Int)), (0, (b : Int)), (9, 0), (9, 0)]) (S' := [(0, (h : Int)), (2, 201)]) r_139_27 rfl rfl rfl ?_
  refine gx_st (L' := [(2, 192), (0, (h : Int)), (0, (t : Int)), (0, (n : Int)), (0, (b : Int)), (9, 0), (9, 0)]) (S' := [(0, 3), (0, (h : Int)), (2, 201)]) r_139_28 rfl rfl rfl ?_
  obtain ⟨m2, e_m2⟩ : ∃ z, z = nu_up m1 201 (h) 3 := ⟨_, rfl⟩
  have h_m2 : Gam m2 := by rw [e_m2]; exact gu_201 h_m1 (i := h) (by omega) (by omega)
  have f_m2 : Fr [90021, 90022, 98999, 99999, 100999, 102999] m m2 := Fr_tr f_m1 (by rw [e_m2]; exact Fr_ua rfl rfl)
  have r_m2 : RowFr n m m2 := by rw [e_m2]; exact RowFr_no r_m1 (by decide)
  have aw_m2 : m2 200 (16 * n) = (m 200 (16 * n)) := by rw [e_m2, nu_no (by decide)]; exact aw_m1
  have ow_m2 : m2 200 (16 * n + 1) = (b : Int) := by rw [e_m2, nu_no (by decide)]; exact ow_m1
  refine gx_is (n := h) (x := 3) r_139_29 rfl (by decide) (tk_201 hT) (by omega) ⟨rfl, by omega⟩ e_m2.symm ?_
  refine gx_st (L' := [(2, 192), (0, (h : Int)), (0, (t : Int)), (0, (n : Int)), (0, (b : Int)), (9, 0), (9, 0)]) (S' := [(2, 192)]) r_139_30 rfl rfl rfl ?_
  refine gx_st (L' := [(2, 192), (0, (h : Int)), (0, (t : Int)), (0, (n : Int)), (0, (b : Int)), (9, 0), (9, 0)]) (S' := [(0, (n : Int)), (2, 192)]) r_139_31 rfl rfl rfl ?_
  refine gx_st (L' := [(2, 192), (0, (h : Int)), (0, (t : Int)), (0, (n : Int)), (0, (b : Int)), (9, 0), (9, 0)]) (S' := [(0, 0), (0, (n : Int)), (2, 192)]) r_139_32 rfl rfl rfl ?_
  refine gx_st (L' := [(2, 192), (0, (h : Int)), (0, (t : Int)), (0, (n : Int)), (0, (b : Int)), (9, 0), (9, 0)]) (S' := [(0, (t : Int)), (0, 0), (0, (n : Int)), (2, 192)]) r_139_33 rfl rfl rfl ?_
  refine gx_cv (nx := 37) (S2 := []) (x_132 hT h_m2 (h := n) (k := 0) (by omega) (by omega) (t : Int)) r_139_34 rfl rfl rfl rfl rfl (rcv_v rfl (tk_192 hT) (by decide) rfl (by decide)) rfl (by decide) rfl (fun n34 q34 => ?_)
  have h_n34 : Gam n34 := by rw [q34]; exact gu_200_at h_m2 (h := n) (by omega) (by omega) (by omega)
  have f_n34 : Fr [90021, 90022, 98999, 99999, 100999, 102999] m n34 := Fr_tr f_m2 (by rw [q34]; exact Fr_ua rfl rfl)
  have r_n34 : RowFr n m n34 := by rw [q34]; exact RowFr_up r_m2 (by omega) (by omega)
  have aw_n34 : n34 200 (16 * n) = (t : Int) := by rw [q34]; exact nu_at
  have ow_n34 : n34 200 (16 * n + 1) = (b : Int) := by rw [q34, nu_ne (by omega)]; exact ow_m2
  show GX T 3 139 37 [(2, 192), (0, (h : Int)), (0, (t : Int)), (0, (n : Int)), (0, (b : Int)), (9, 0), (9, 0)] [] n34 (RV (RD n m))
  refine gx_st (L' := [(2, 192), (0, (h : Int)), (0, (t : Int)), (0, (n : Int)), (0, (b : Int)), (9, 0), (9, 0)]) (S' := [(2, 192)]) r_139_37 rfl rfl rfl ?_
  refine gx_st (L' := [(2, 192), (0, (h : Int)), (0, (t : Int)), (0, (n : Int)), (0, (b : Int)), (9, 0), (9, 0)]) (S' := [(0, (n : Int)), (2, 192)]) r_139_38 rfl rfl rfl ?_
  refine gx_st (L' := [(2, 192), (0, (h : Int)), (0, (t : Int)), (0, (n : Int)), (0, (b : Int)), (9, 0), (9, 0)]) (S' := [(0, 6), (0, (n : Int)), (2, 192)]) r_139_39 rfl rfl rfl ?_
  refine gx_st (L' := [(2, 192), (0, (h : Int)), (0, (t : Int)), (0, (n : Int)), (0, (b : Int)), (9, 0), (9, 0)]) (S' := [(0, (b : Int)), (0, 6), (0, (n : Int)), (2, 192)]) r_139_41 rfl rfl rfl ?_
  refine gx_ar (L' := [(2, 192), (0, (h : Int)), (0, (t : Int)), (0, (n : Int)), (0, (b : Int)), (9, 0), (9, 0)]) (S' := [(0, (n : Int)), (2, 192)]) (t := 0) (e := w32 (6 + (b : Int))) (z := (b : Int) + 6) r_139_43 rfl rfl rfl (w32_eq (by omega) (by omega) (by omega)) ?_
  refine gx_st (L' := [(2, 192), (0, (h : Int)), (0, (t : Int)), (0, (n : Int)), (0, (b : Int)), (9, 0), (9, 0)]) (S' := [(2, 192), (0, (b : Int) + 6), (0, (n : Int)), (2, 192)]) r_139_44 rfl rfl rfl ?_
  refine gx_st (L' := [(2, 192), (0, (h : Int)), (0, (t : Int)), (0, (n : Int)), (0, (b : Int)), (9, 0), (9, 0)]) (S' := [(0, (n : Int)), (2, 192), (0, (b : Int) + 6), (0, (n : Int)), (2, 192)]) r_139_45 rfl rfl rfl ?_
  refine gx_st (L' := [(2, 192), (0, (h : Int)), (0, (t : Int)), (0, (n : Int)), (0, (b : Int)), (9, 0), (9, 0)]) (S' := [(0, 6), (0, (n : Int)), (2, 192), (0, (b : Int) + 6), (0, (n : Int)), (2, 192)]) r_139_46 rfl rfl rfl ?_
  refine gx_st (L' := [(2, 192), (0, (h : Int)), (0, (t : Int)), (0, (n : Int)), (0, (b : Int)), (9, 0), (9, 0)]) (S' := [(0, (b : Int)), (0, 6), (0, (n : Int)), (2, 192), (0, (b : Int) + 6), (0, (n : Int)), (2, 192)]) r_139_48 rfl rfl rfl ?_
  refine gx_ar (L' := [(2, 192), (0, (h : Int)), (0, (t : Int)), (0, (n : Int)), (0, (b : Int)), (9, 0), (9, 0)]) (S' := [(0, (n : Int)), (2, 192), (0, (b : Int) + 6), (0, (n : Int)), (2, 192)]) (t := 0) (e := w32 (6 + (b : Int))) (z := (b : Int) + 6) r_139_50 rfl rfl rfl (w32_eq (by omega) (by omega) (by omega)) ?_
  refine gx_ci (nx := 54) (S2 := [(0, (b : Int) + 6), (0, (n : Int)), (2, 192)]) (x_131 hT h_n34 (h := n) (k := b + 6) (by omega) (by omega)) r_139_51 rfl rfl rfl rfl rfl (rcv_v rfl (tk_192 hT) (by decide) rfl (by decide)) rfl (by decide) rfl (fun x51 n51 q51 => ?_)
  obtain ⟨e_x51, z_x51⟩ := q51
  obtain rfl := z_x51.symm
  have b_x51 := gb_200 h_n34 (i := 16 * (n) + (b + 6)) (by omega)
  rw [← e_x51] at b_x51
  show GX T 3 139 54 [(2, 192), (0, (h : Int)), (0, (t : Int)), (0, (n : Int)), (0, (b : Int)), (9, 0), (9, 0)] [(0, x51), (0, (b : Int) + 6), (0, (n : Int)), (2, 192)] n34 (RV (RD n m))
  refine gx_st (L' := [(2, 192), (0, (h : Int)), (0, (t : Int)), (0, (n : Int)), (0, (b : Int)), (9, 0), (9, 0)]) (S' := [(2, 192), (0, x51), (0, (b : Int) + 6), (0, (n : Int)), (2, 192)]) r_139_54 rfl rfl rfl ?_
  refine gx_st (L' := [(2, 192), (0, (h : Int)), (0, (t : Int)), (0, (n : Int)), (0, (b : Int)), (9, 0), (9, 0)]) (S' := [(0, (n : Int)), (2, 192), (0, x51), (0, (b : Int) + 6), (0, (n : Int)), (2, 192)]) r_139_55 rfl rfl rfl ?_
  refine gx_st (L' := [(2, 192), (0, (h : Int)), (0, (t : Int)), (0, (n : Int)), (0, (b : Int)), (9, 0), (9, 0)]) (S' := [(0, 2), (0, (n : Int)), (2, 192), (0, x51), (0, (b : Int) + 6), (0, (n : Int)), (2, 192)]) r_139_56 rfl rfl rfl ?_
  refine gx_ci (nx := 60) (S2 := [(0, x51), (0, (b : Int) + 6), (0, (n : Int)), (2, 192)]) (x_131 hT h_n34 (h := n) (k := 2) (by omega) (by omega)) r_139_57 rfl rfl rfl rfl rfl (rcv_v rfl (tk_192 hT) (by decide) rfl (by decide)) rfl (by decide) rfl (fun x57 n57 q57 => ?_)
  obtain ⟨e_x57, z_x57⟩ := q57
  obtain rfl := z_x57.symm
  have b_x57 := gb_200 h_n34 (i := 16 * (n) + (2)) (by omega)
  rw [← e_x57] at b_x57
  show GX T 3 139 60 [(2, 192), (0, (h : Int)), (0, (t : Int)), (0, (n : Int)), (0, (b : Int)), (9, 0), (9, 0)] [(0, x57), (0, x51), (0, (b : Int) + 6), (0, (n : Int)), (2, 192)] n34 (RV (RD n m))
  refine gx_st (L' := [(2, 192), (0, (h : Int)), (0, (t : Int)), (0, (n : Int)), (0, (b : Int)), (9, 0), (9, 0)]) (S' := [(0, (w32 (x51 + x57))), (0, (b : Int) + 6), (0, (n : Int)), (2, 192)]) r_139_60 rfl rfl rfl ?_
  have k60 := w32_in (x51 + x57)
  unfold in32 at k60
  refine gx_cv (nx := 64) (S2 := []) (x_132 hT h_n34 (h := n) (k := b + 6) (by omega) (by omega) ((w32 (x51 + x57)))) r_139_61 rfl rfl rfl rfl rfl (rcv_v rfl (tk_192 hT) (by decide) rfl (by decide)) rfl (by decide) rfl (fun n61 q61 => ?_)
  have h_n61 : Gam n61 := by rw [q61]; exact gu_200_x h_n34 (i := 16 * n + (b + 6)) (by omega) (by omega) (by omega) (by omega) (by omega) (by omega)
  have f_n61 : Fr [90021, 90022, 98999, 99999, 100999, 102999] m n61 := Fr_tr f_n34 (by rw [q61]; exact Fr_ua rfl rfl)
  have r_n61 : RowFr n m n61 := by rw [q61]; exact RowFr_up r_n34 (by omega) (by omega)
  have aw_n61 : n61 200 (16 * n) = (t : Int) := by rw [q61, nu_ne (by omega)]; exact aw_n34
  have ow_n61 : n61 200 (16 * n + 1) = (b : Int) := by rw [q61, nu_ne (by omega)]; exact ow_n34
  show GX T 3 139 64 [(2, 192), (0, (h : Int)), (0, (t : Int)), (0, (n : Int)), (0, (b : Int)), (9, 0), (9, 0)] [] n61 (RV (RD n m))
  refine gx_st (L' := [(2, 192), (0, (h : Int)), (0, (t : Int)), (0, (n : Int)), (0, (b : Int)), (9, 0), (9, 0)]) (S' := [(2, 192)]) r_139_64 rfl rfl rfl ?_
  refine gx_st (L' := [(2, 192), (0, (h : Int)), (0, (t : Int)), (0, (n : Int)), (0, (b : Int)), (9, 0), (9, 0)]) (S' := [(0, (n : Int)), (2, 192)]) r_139_65 rfl rfl rfl ?_
  refine gx_st (L' := [(2, 192), (0, (h : Int)), (0, (t : Int)), (0, (n : Int)), (0, (b : Int)), (9, 0), (9, 0)]) (S' := [(0, 6), (0, (n : Int)), (2, 192)]) r_139_66 rfl rfl rfl ?_
  refine gx_st (L' := [(2, 192), (0, (h : Int)), (0, (t : Int)), (0, (n : Int)), (0, (b : Int)), (9, 0), (9, 0)]) (S' := [(0, (b : Int)), (0, 6), (0, (n : Int)), (2, 192)]) r_139_68 rfl rfl rfl ?_
  refine gx_ar (L' := [(2, 192), (0, (h : Int)), (0, (t : Int)), (0, (n : Int)), (0, (b : Int)), (9, 0), (9, 0)]) (S' := [(0, (n : Int)), (2, 192)]) (t := 0) (e := w32 (6 + (b : Int))) (z := (b : Int) + 6) r_139_70 rfl rfl rfl (w32_eq (by omega) (by omega) (by omega)) ?_
  refine gx_ci (nx := 74) (S2 := []) (x_131 hT h_n61 (h := n) (k := b + 6) (by omega) (by omega)) r_139_71 rfl rfl rfl rfl rfl (rcv_v rfl (tk_192 hT) (by decide) rfl (by decide)) rfl (by decide) rfl (fun x71 n71 q71 => ?_)
  obtain ⟨e_x71, z_x71⟩ := q71
  obtain rfl := z_x71.symm
  have b_x71 := gb_200 h_n61 (i := 16 * (n) + (b + 6)) (by omega)
  rw [← e_x71] at b_x71
  show GX T 3 139 74 [(2, 192), (0, (h : Int)), (0, (t : Int)), (0, (n : Int)), (0, (b : Int)), (9, 0), (9, 0)] [(0, x71)] n61 (RV (RD n m))
  refine gx_st (L' := [(2, 192), (0, (h : Int)), (0, (t : Int)), (0, (n : Int)), (0, (b : Int)), (9, 0), (9, 0)]) (S' := [(2, 192), (0, x71)]) r_139_74 rfl rfl rfl ?_
  refine gx_st (L' := [(2, 192), (0, (h : Int)), (0, (t : Int)), (0, (n : Int)), (0, (b : Int)), (9, 0), (9, 0)]) (S' := [(0, (b : Int)), (2, 192), (0, x71)]) r_139_75 rfl rfl rfl ?_
  refine gx_ci (nx := 80) (S2 := [(0, x71)]) (x_138 hT h_n61 (k := b) (by omega)) r_139_77 rfl rfl rfl rfl rfl (rcv_v rfl (tk_192 hT) (by decide) rfl (by decide)) rfl (by decide) rfl (fun x77 n77 q77 => ?_)
  obtain ⟨e_x77, z_x77⟩ := q77
  obtain rfl := z_x77.symm
  have b_x77 : -2147483648 ≤ x77 ∧ x77 ≤ 2147483647 := by rw [e_x77]; exact str_in h_n61 (by omega)
  show GX T 3 139 80 [(2, 192), (0, (h : Int)), (0, (t : Int)), (0, (n : Int)), (0, (b : Int)), (9, 0), (9, 0)] [(0, x77), (0, x71)] n61 (RV (RD n m))
  refine gx_ic (P := x77 < x71) r_139_80 (rfl) (fun h80 => ?_) (fun h80 => ?_)
  · refine gx_st (L' := [(2, 192), (0, (h : Int)), (0, (t : Int)), (0, (n : Int)), (0, (b : Int)), (9, 0), (9, 0)]) (S' := [(2, 192)]) r_139_84 rfl rfl rfl ?_
    refine gx_st (L' := [(2, 192), (0, (h : Int)), (0, (t : Int)), (0, (n : Int)), (0, (b : Int)), (9, 0), (9, 0)]) (S' := [(0, (n : Int)), (2, 192)]) r_139_85 rfl rfl rfl ?_
    refine gx_st (L' := [(2, 192), (0, (h : Int)), (0, (t : Int)), (0, (n : Int)), (0, (b : Int)), (9, 0), (9, 0)]) (S' := [(0, 5), (0, (n : Int)), (2, 192)]) r_139_86 rfl rfl rfl ?_
    refine gx_st (L' := [(2, 192), (0, (h : Int)), (0, (t : Int)), (0, (n : Int)), (0, (b : Int)), (9, 0), (9, 0)]) (S' := [(2, 192), (0, 5), (0, (n : Int)), (2, 192)]) r_139_87 rfl rfl rfl ?_
    refine gx_st (L' := [(2, 192), (0, (h : Int)), (0, (t : Int)), (0, (n : Int)), (0, (b : Int)), (9, 0), (9, 0)]) (S' := [(0, (n : Int)), (2, 192), (0, 5), (0, (n : Int)), (2, 192)]) r_139_88 rfl rfl rfl ?_
    refine gx_st (L' := [(2, 192), (0, (h : Int)), (0, (t : Int)), (0, (n : Int)), (0, (b : Int)), (9, 0), (9, 0)]) (S' := [(0, 5), (0, (n : Int)), (2, 192), (0, 5), (0, (n : Int)), (2, 192)]) r_139_89 rfl rfl rfl ?_
    refine gx_ci (nx := 93) (S2 := [(0, 5), (0, (n : Int)), (2, 192)]) (x_131 hT h_n61 (h := n) (k := 5) (by omega) (by omega)) r_139_90 rfl rfl rfl rfl rfl (rcv_v rfl (tk_192 hT) (by decide) rfl (by decide)) rfl (by decide) rfl (fun x90 n90 q90 => ?_)
    obtain ⟨e_x90, z_x90⟩ := q90
    obtain rfl := z_x90.symm
    have b_x90 := gb_200 h_n61 (i := 16 * (n) + (5)) (by omega)
    rw [← e_x90] at b_x90
    show GX T 3 139 93 [(2, 192), (0, (h : Int)), (0, (t : Int)), (0, (n : Int)), (0, (b : Int)), (9, 0), (9, 0)] [(0, x90), (0, 5), (0, (n : Int)), (2, 192)] n61 (RV (RD n m))
    refine gx_st (L' := [(2, 192), (0, (h : Int)), (0, (t : Int)), (0, (n : Int)), (0, (b : Int)), (9, 0), (9, 0)]) (S' := [(0, 1), (0, x90), (0, 5), (0, (n : Int)), (2, 192)]) r_139_93 rfl rfl rfl ?_
    refine gx_st (L' := [(2, 192), (0, (h : Int)), (0, (t : Int)), (0, (n : Int)), (0, (b : Int)), (9, 0), (9, 0)]) (S' := [(0, (b : Int)), (0, 1), (0, x90), (0, 5), (0, (n : Int)), (2, 192)]) r_139_94 rfl rfl rfl ?_
    refine gx_st (L' := [(2, 192), (0, (h : Int)), (0, (t : Int)), (0, (n : Int)), (0, (b : Int)), (9, 0), (9, 0)]) (S' := [(0, (ishl 1 (b : Int))), (0, x90), (0, 5), (0, (n : Int)), (2, 192)]) r_139_96 rfl rfl rfl ?_
    have b97 : -2147483648 ≤ (ishl 1 (b : Int)) ∧ (ishl 1 (b : Int)) ≤ 2147483647 := i32_in _
    refine gx_st (L' := [(2, 192), (0, (h : Int)), (0, (t : Int)), (0, (n : Int)), (0, (b : Int)), (9, 0), (9, 0)]) (S' := [(0, (ior x90 ((ishl 1 (b : Int))))), (0, 5), (0, (n : Int)), (2, 192)]) r_139_97 rfl rfl rfl ?_
    have b98 : -2147483648 ≤ (ior x90 ((ishl 1 (b : Int)))) ∧ (ior x90 ((ishl 1 (b : Int)))) ≤ 2147483647 := i32_in _
    refine gx_cv (nx := 101) (S2 := []) (x_132 hT h_n61 (h := n) (k := 5) (by omega) (by omega) ((ior x90 ((ishl 1 (b : Int)))))) r_139_98 rfl rfl rfl rfl rfl (rcv_v rfl (tk_192 hT) (by decide) rfl (by decide)) rfl (by decide) rfl (fun n98 q98 => ?_)
    have h_n98 : Gam n98 := by rw [q98]; exact gu_200_x h_n61 (i := 16 * n + 5) (by omega) (by omega) (by omega) (by omega) (by omega) (by omega)
    have f_n98 : Fr [90021, 90022, 98999, 99999, 100999, 102999] m n98 := Fr_tr f_n61 (by rw [q98]; exact Fr_ua rfl rfl)
    have r_n98 : RowFr n m n98 := by rw [q98]; exact RowFr_up r_n61 (by omega) (by omega)
    have aw_n98 : n98 200 (16 * n) = (t : Int) := by rw [q98, nu_ne (by omega)]; exact aw_n61
    have ow_n98 : n98 200 (16 * n + 1) = (b : Int) := by rw [q98, nu_ne (by omega)]; exact ow_n61
    show GX T 3 139 101 [(2, 192), (0, (h : Int)), (0, (t : Int)), (0, (n : Int)), (0, (b : Int)), (9, 0), (9, 0)] [] n98 (RV (RD n m))
    refine gx_st (L' := [(2, 192), (0, (h : Int)), (0, (t : Int)), (0, (n : Int)), (0, (b : Int)), (9, 0), (9, 0)]) (S' := [(0, (-1))]) r_139_101 rfl rfl rfl ?_
    refine gx_st (L' := [(2, 192), (0, (h : Int)), (0, (t : Int)), (0, (n : Int)), (0, (b : Int)), (0, (-1)), (9, 0)]) (S' := []) r_139_102 rfl rfl rfl ?_
    refine gx_st (L' := [(2, 192), (0, (h : Int)), (0, (t : Int)), (0, (n : Int)), (0, (b : Int)), (0, (-1)), (9, 0)]) (S' := [(0, 0)]) r_139_104 rfl rfl rfl ?_
    refine gx_st (L' := [(2, 192), (0, (h : Int)), (0, (t : Int)), (0, (n : Int)), (0, (b : Int)), (0, (-1)), (0, 0)]) (S' := []) r_139_105 rfl rfl rfl ?_
    obtain ⟨c, hc⟩ : ∃ c : Nat, n98 193 7 = (c : Int) := ⟨(n98 193 7).toNat, by have := gb_193_7 h_n98; omega⟩
    have bc := gb_193_7 h_n98
    refine carry_l hT h_n98 (by omega) hc (fun k y hy1 hy2 => ?_) (c + 1) 0 (-1) (by omega) (by omega) (by omega) (by omega)
    refine gx_st (L' := [(2, 192), (0, (h : Int)), (0, (t : Int)), (0, (n : Int)), (0, (b : Int)), (0, y), (0, (k : Int))]) (S' := [(2, 192)]) r_139_174 rfl rfl rfl ?_
    refine gx_st (L' := [(2, 192), (0, (h : Int)), (0, (t : Int)), (0, (n : Int)), (0, (b : Int)), (0, y), (0, (k : Int))]) (S' := [(0, (n : Int)), (2, 192)]) r_139_175 rfl rfl rfl ?_
    refine gx_st (L' := [(2, 192), (0, (h : Int)), (0, (t : Int)), (0, (n : Int)), (0, (b : Int)), (0, y), (0, (k : Int))]) (S' := [(0, 1), (0, (n : Int)), (2, 192)]) r_139_176 rfl rfl rfl ?_
    refine gx_st (L' := [(2, 192), (0, (h : Int)), (0, (t : Int)), (0, (n : Int)), (0, (b : Int)), (0, y), (0, (k : Int))]) (S' := [(0, y), (0, 1), (0, (n : Int)), (2, 192)]) r_139_177 rfl rfl rfl ?_
    refine gx_cv (nx := 182) (S2 := []) (x_132 hT h_n98 (h := n) (k := 1) (by omega) (by omega) y) r_139_179 rfl rfl rfl rfl rfl (rcv_v rfl (tk_192 hT) (by decide) rfl (by decide)) rfl (by decide) rfl (fun n179 q179 => ?_)
    have h_n179 : Gam n179 := by rw [q179]; exact gu_200_on h_n98 (h := n) (by omega) (by omega) (by omega)
    have f_n179 : Fr [90021, 90022, 98999, 99999, 100999, 102999] m n179 := Fr_tr f_n98 (by rw [q179]; exact Fr_ua rfl rfl)
    have r_n179 : RowFr n m n179 := by rw [q179]; exact RowFr_up r_n98 (by omega) (by omega)
    have aw_n179 : n179 200 (16 * n) = (t : Int) := by rw [q179, nu_ne (by omega)]; exact aw_n98
    have ow_n179 : n179 200 (16 * n + 1) = y := by rw [q179]; exact nu_at
    show GX T 3 139 182 [(2, 192), (0, (h : Int)), (0, (t : Int)), (0, (n : Int)), (0, (b : Int)), (0, y), (0, (k : Int))] [] n179 (RV (RD n m))
    refine gx_st (L' := [(2, 192), (0, (h : Int)), (0, (t : Int)), (0, (n : Int)), (0, (b : Int)), (0, y), (0, (k : Int))]) (S' := [(0, y)]) r_139_182 rfl rfl rfl ?_
    refine gx_st (L' := [(2, 192), (0, (h : Int)), (0, (t : Int)), (0, (n : Int)), (0, (b : Int)), (0, y), (0, (k : Int))]) (S' := [(0, (-1)), (0, y)]) r_139_184 rfl rfl rfl ?_
    refine gx_ic (P := ¬ y = (-1)) r_139_185 (rfl) (fun h185 => ?_) (fun h185 => ?_)
    · exact gx_rt r_139_194 rfl rfl ⟨rfl, h_n179, r_n179, Or.inr (by rw [aw_n179] <;> omega), f_n179⟩
    · have h185 := Decidable.not_not.mp h185
      refine gx_st (L' := [(2, 192), (0, (h : Int)), (0, (t : Int)), (0, (n : Int)), (0, (b : Int)), (0, y), (0, (k : Int))]) (S' := [(2, 192)]) r_139_188 rfl rfl rfl ?_
      refine gx_st (L' := [(2, 192), (0, (h : Int)), (0, (t : Int)), (0, (n : Int)), (0, (b : Int)), (0, y), (0, (k : Int))]) (S' := [(0, (h : Int)), (2, 192)]) r_139_189 rfl rfl rfl ?_
      refine gx_st (L' := [(2, 192), (0, (h : Int)), (0, (t : Int)), (0, (n : Int)), (0, (b : Int)), (0, y), (0, (k : Int))]) (S' := [(0, 0), (0, (h : Int)), (2, 192)]) r_139_190 rfl rfl rfl ?_
      refine gx_cv (nx := 194) (S2 := []) (x_140 hT h_n179 hh hn (x := 0) (by omega) (by omega)) r_139_191 rfl rfl rfl rfl rfl (rcv_v rfl (tk_192 hT) (by decide) rfl (by decide)) rfl (by decide) rfl (fun n191 q191 => ?_)
      exact gx_rt r_139_194 rfl rfl ⟨rfl, RD_tr r_n179 f_n179 q191⟩
  · exact gx_rt r_139_83 rfl rfl ⟨rfl, h_n61, r_n61, Or.inr (by rw [aw_n61] <;> omega), f_n61⟩
/-- steered to: none, or a tree to which there is a way -/
def StY (m : Mm) (p : Nat) (y : Int) : Prop := y = -1 ∨ ∃ q : Nat, q < 5 ∧ y = (q : Int) ∧ m 199 (7 * p + (m 193 (31 + 2 * q)).toNat) < FAR
theorem steer_l (hT : TT T) (hm : Gam m) {Q : AV → Mm → Prop} {h p c : Nat} (hh : h < 13) (hp : p < 7) (hc : m 193 5 = (c : Int)) (hout : ∀ y : Int, StY m p y → Q (0, y) m) : ∀ (N k : Nat) (y : Int), c - k < N → k ≤ c → StY m p y → GX T 1 135 5 [(2, 192), (0, (h : Int)), (0, (p : Int)), (0, y), (0, (k : Int))] [] m Q := by
  intro N
  induction N with
  | zero => intro k y hN; exact absurd hN (Nat.not_lt_zero _)
  | succ N ih =>
    intro k y hN hk hy
    have bc := gb_193_5 hm
    refine gx_st (L' := [(2, 192), (0, (h : Int)), (0, (p : Int)), (0, y), (0, (k : Int))]) (S' := [(0, (k : Int))]) r_135_5 rfl rfl rfl ?_
    refine gx_st (L' := [(2, 192), (0, (h : Int)), (0, (p : Int)), (0, y), (0, (k : Int))]) (S' := [(2, 192), (0, (k : Int))]) r_135_7 rfl rfl rfl ?_
    refine gx_gf (x := 193) 2 r_135_8 rfl (tk_192 hT) ⟨by decide, rfl, by decide, by decide⟩ rfl (fun _ => by decide) (pr_192_1 hm) ?_
    refine gx_st (L' := [(2, 192), (0, (h : Int)), (0, (p : Int)), (0, y), (0, (k : Int))]) (S' := [(0, 5), (2, 193), (0, (k : Int))]) r_135_11 rfl rfl rfl ?_
    refine gx_ia (n := 5) (x := (c : Int)) r_135_12 rfl (tk_193 hT) (rfl) ⟨rfl, by decide⟩ (hc) ?_
    refine gx_ic (P := (c : Int) ≤ (k : Int)) r_135_13 (rfl) (fun h13 => ?_) (fun h13 => ?_)
    · refine gx_st (L' := [(2, 192), (0, (h : Int)), (0, (p : Int)), (0, y), (0, (k : Int))]) (S' := [(0, y)]) r_135_95 rfl rfl rfl ?_
      exact gx_rt r_135_96 rfl rfl (hout y hy)
    · refine gx_st (L' := [(2, 192), (0, (h : Int)), (0, (p : Int)), (0, y), (0, (k : Int))]) (S' := [(2, 192)]) r_135_16 rfl rfl rfl ?_
      refine gx_st (L' := [(2, 192), (0, (h : Int)), (0, (p : Int)), (0, y), (0, (k : Int))]) (S' := [(0, (k : Int)), (2, 192)]) r_135_17 rfl rfl rfl ?_
      refine gx_ci (nx := 22) (S2 := []) (x_133 hT hm (k : Int)) r_135_19 rfl rfl rfl rfl rfl (rcv_v rfl (tk_192 hT) (by decide) rfl (by decide)) rfl (by decide) rfl (fun x19 n19 q19 => ?_)
      obtain rfl := q19.1.symm
      obtain rfl := q19.2.symm
      show GX T 1 135 22 [(2, 192), (0, (h : Int)), (0, (p : Int)), (0, y), (0, (k : Int))] [(0, (if ¬ (k : Int) = m 192 23 then 1 else 0))] m Q
      refine gx_i0 (P := ¬ (¬ (k : Int) = m 192 23)) r_135_22 (b01_eq) (fun h22 => ?_) (fun h22 => ?_)
      · refine gx_li (z := (k : Int) + 1) (L' := [(2, 192), (0, (h : Int)), (0, (p : Int)), (0, y), (0, (k : Int) + 1)]) r_135_89 rfl (w32_eq (by omega) (by omega) (by omega)) rfl ?_
        refine gx_st (L' := [(2, 192), (0, (h : Int)), (0, (p : Int)), (0, y), (0, (k : Int) + 1)]) (S' := []) r_135_92 rfl rfl rfl ?_
        rw [show (k : Int) + 1 = ((k + 1 : Nat) : Int) from rfl]
        exact ih (k + 1) _ (by omega) (by omega) hy
      · have h22 := Decidable.not_not.mp h22
        refine gx_st (L' := [(2, 192), (0, (h : Int)), (0, (p : Int)), (0, y), (0, (k : Int))]) (S' := [(2, 192)]) r_135_25 rfl rfl rfl ?_
        refine gx_st (L' := [(2, 192), (0, (h : Int)), (0, (p : Int)), (0, y), (0, (k : Int))]) (S' := [(0, (h : Int)), (2, 192)]) r_135_26 rfl rfl rfl ?_
        refine gx_st (L' := [(2, 192), (0, (h : Int)), (0, (p : Int)), (0, y), (0, (k : Int))]) (S' := [(0, 11), (0, (h : Int)), (2, 192)]) r_135_27 rfl rfl rfl ?_
        refine gx_st (L' := [(2, 192), (0, (h : Int)), (0, (p : Int)), (0, y), (0, (k : Int))]) (S' := [(0, (k : Int)), (0, 11), (0, (h : Int)), (2, 192)]) r_135_29 rfl rfl rfl ?_
        refine gx_ar (L' := [(2, 192), (0, (h : Int)), (0, (p : Int)), (0, y), (0, (k : Int))]) (S' := [(0, (h : Int)), (2, 192)]) (t := 0) (e := w32 (11 + (k : Int))) (z := (k : Int) + 11) r_135_31 rfl rfl rfl (w32_eq (by omega) (by omega) (by omega)) ?_
        refine gx_ci (nx := 35) (S2 := []) (x_131 hT hm (h := h) (k := k + 11) (by omega) (by omega)) r_135_32 rfl rfl rfl rfl rfl (rcv_v rfl (tk_192 hT) (by decide) rfl (by decide)) rfl (by decide) rfl (fun x32 n32 q32 => ?_)
        obtain ⟨e_x32, z_x32⟩ := q32
        obtain rfl := z_x32.symm
        have b_x32 := gb_200 hm (i := 16 * (h) + (k + 11)) (by omega)
        rw [← e_x32] at b_x32
        show GX T 1 135 35 [(2, 192), (0, (h : Int)), (0, (p : Int)), (0, y), (0, (k : Int))] [(0, x32)] m Q
        refine gx_i0 (P := x32 = 0) r_135_35 (rfl) (fun h35 => ?_) (fun h35 => ?_)
        · refine gx_li (z := (k : Int) + 1) (L' := [(2, 192), (0, (h : Int)), (0, (p : Int)), (0, y), (0, (k : Int) + 1)]) r_135_89 rfl (w32_eq (by omega) (by omega) (by omega)) rfl ?_
          refine gx_st (L' := [(2, 192), (0, (h : Int)), (0, (p : Int)), (0, y), (0, (k : Int) + 1)]) (S' := []) r_135_92 rfl rfl rfl ?_
          rw [show (k : Int) + 1 = ((k + 1 : Nat) : Int) from rfl]
          exact ih (k + 1) _ (by omega) (by omega) hy
        · refine gx_st (L' := [(2, 192), (0, (h : Int)), (0, (p : Int)), (0, y), (0, (k : Int))]) (S' := [(2, 192)]) r_135_38 rfl rfl rfl ?_
          refine gx_st (L' := [(2, 192), (0, (h : Int)), (0, (p : Int)), (0, y), (0, (k : Int))]) (S' := [(0, (p : Int)), (2, 192)]) r_135_39 rfl rfl rfl ?_
          refine gx_st (L' := [(2, 192), (0, (h : Int)), (0, (p : Int)), (0, y), (0, (k : Int))]) (S' := [(2, 192), (0, (p : Int)), (2, 192)]) r_135_40 rfl rfl rfl ?_
          refine gx_st (L' := [(2, 192), (0, (h : Int)), (0, (p : Int)), (0, y), (0, (k : Int))]) (S' := [(0, (k : Int)), (2, 192), (0, (p : Int)), (2, 192)]) r_135_41 rfl rfl rfl ?_
          obtain ⟨t43, e_t43⟩ : ∃ z : Nat, m 193 (31 + 2 * k) = (z : Int) := ⟨(m 193 (31 + 2 * k)).toNat, by have := gb_193_tp hm (k := k) (by omega); omega⟩
          have b_t43 := gb_193_tp hm (k := k) (by omega)
          rw [e_t43] at b_t43
          refine gx_ci (nx := 46) (S2 := [(0, (p : Int)), (2, 192)]) (x_97 hT hm (k := k) (by omega)) r_135_43 rfl rfl rfl rfl rfl (rcv_v rfl (tk_192 hT) (by decide) rfl (by decide)) rfl (by decide) rfl (fun x43 n43 q43 => ?_)
          obtain rfl := q43.1.symm
          obtain rfl := q43.2.symm
          show GX T 1 135 46 [(2, 192), (0, (h : Int)), (0, (p : Int)), (0, y), (0, (k : Int))] [(0, (m 193 (31 + 2 * k))), (0, (p : Int)), (2, 192)] m Q
          rw [e_t43]
          refine gx_ci (nx := 49) (S2 := []) (x_123 hT hm (a := p) (b := t43) (by omega) (by omega)) r_135_46 rfl rfl rfl rfl rfl (rcv_v rfl (tk_192 hT) (by decide) rfl (by decide)) rfl (by decide) rfl (fun x46 n46 q46 => ?_)
          obtain ⟨e_x46, z_x46⟩ := q46
          obtain rfl := z_x46.symm
          have b_x46 := gb_199 hm (i := 7 * (p) + (t43)) (by omega)
          rw [← e_x46] at b_x46
          show GX T 1 135 49 [(2, 192), (0, (h : Int)), (0, (p : Int)), (0, y), (0, (k : Int))] [(0, x46)] m Q
          refine gx_st (L' := [(2, 192), (0, (h : Int)), (0, (p : Int)), (0, y), (0, (k : Int))]) (S' := [(0, 1000000000), (0, x46)]) r_135_49 rfl rfl rfl ?_
          refine gx_ic (P := x46 < 1000000000) r_135_51 (rfl) (fun h51 => ?_) (fun h51 => ?_)
          · refine gx_st (L' := [(2, 192), (0, (h : Int)), (0, (p : Int)), (0, y), (0, (k : Int))]) (S' := [(0, y)]) r_135_57 rfl rfl rfl ?_
            refine gx_st (L' := [(2, 192), (0, (h : Int)), (0, (p : Int)), (0, y), (0, (k : Int))]) (S' := [(0, (-1)), (0, y)]) r_135_58 rfl rfl rfl ?_
            refine gx_ic (P := y = (-1)) r_135_59 (rfl) (fun h59 => ?_) (fun h59 => ?_)
            · refine gx_st (L' := [(2, 192), (0, (h : Int)), (0, (p : Int)), (0, y), (0, (k : Int))]) (S' := [(0, (k : Int))]) r_135_86 rfl rfl rfl ?_
              refine gx_st (L' := [(2, 192), (0, (h : Int)), (0, (p : Int)), (0, (k : Int)), (0, (k : Int))]) (S' := []) r_135_88 rfl rfl rfl ?_
              refine gx_li (z := (k : Int) + 1) (L' := [(2, 192), (0, (h : Int)), (0, (p : Int)), (0, (k : Int)), (0, (k : Int) + 1)]) r_135_89 rfl (w32_eq (by omega) (by omega) (by omega)) rfl ?_
              refine gx_st (L' := [(2, 192), (0, (h : Int)), (0, (p : Int)), (0, (k : Int)), (0, (k : Int) + 1)]) (S' := []) r_135_92 rfl rfl rfl ?_
              rw [show (k : Int) + 1 = ((k + 1 : Nat) : Int) from rfl]
              refine ih (k + 1) _ (by omega) (by omega) (Or.inr ⟨k, by omega, rfl, ?_⟩)
              rw [e_t43]
              show m 199 (7 * p + t43) < FAR
              unfold FAR
              omega
            · refine gx_st (L' := [(2, 192), (0, (h : Int)), (0, (p : Int)), (0, y), (0, (k : Int))]) (S' := [(2, 192)]) r_135_62 rfl rfl rfl ?_
              refine gx_st (L' := [(2, 192), (0, (h : Int)), (0, (p : Int)), (0, y), (0, (k : Int))]) (S' := [(0, (p : Int)), (2, 192)]) r_135_63 rfl rfl rfl ?_
              refine gx_st (L' := [(2, 192), (0, (h : Int)), (0, (p : Int)), (0, y), (0, (k : Int))]) (S' := [(2, 192), (0, (p : Int)), (2, 192)]) r_135_64 rfl rfl rfl ?_
              refine gx_st (L' := [(2, 192), (0, (h : Int)), (0, (p : Int)), (0, y), (0, (k : Int))]) (S' := [(0, (k : Int)), (2, 192), (0, (p : Int)), (2, 192)]) r_135_65 rfl rfl rfl ?_
              obtain ⟨t67, e_t67⟩ : ∃ z : Nat, m 193 (31 + 2 * k) = (z : Int) := ⟨(m 193 (31 + 2 * k)).toNat, by have := gb_193_tp hm (k := k) (by omega); omega⟩
              have b_t67 := gb_193_tp hm (k := k) (by omega)
              rw [e_t67] at b_t67
              refine gx_ci (nx := 70) (S2 := [(0, (p : Int)), (2, 192)]) (x_97 hT hm (k := k) (by omega)) r_135_67 rfl rfl rfl rfl rfl (rcv_v rfl (tk_192 hT) (by decide) rfl (by decide)) rfl (by decide) rfl (fun x67 n67 q67 => ?_)
              obtain rfl := q67.1.symm
              obtain rfl := q67.2.symm
              show GX T 1 135 70 [(2, 192), (0, (h : Int)), (0, (p : Int)), (0, y), (0, (k : Int))] [(0, (m 193 (31 + 2 * k))), (0, (p : Int)), (2, 192)] m Q
              rw [e_t67]
              refine gx_ci (nx := 73) (S2 := []) (x_123 hT hm (a := p) (b := t67) (by omega) (by omega)) r_135_70 rfl rfl rfl rfl rfl (rcv_v rfl (tk_192 hT) (by decide) rfl (by decide)) rfl (by decide) rfl (fun x70 n70 q70 => ?_)
              obtain ⟨e_x70, z_x70⟩ := q70
              obtain rfl := z_x70.symm
              have b_x70 := gb_199 hm (i := 7 * (p) + (t67)) (by omega)
              rw [← e_x70] at b_x70
              show GX T 1 135 73 [(2, 192), (0, (h : Int)), (0, (p : Int)), (0, y), (0, (k : Int))] [(0, x70)] m Q
              have hy2 : ∃ q : Nat, q < 5 ∧ y = (q : Int) ∧ m 199 (7 * p + (m 193 (31 + 2 * q)).toNat) < FAR := by
                rcases hy with z | z
                · exact absurd z h59
                · exact z
              obtain ⟨q, hq1, rfl, hq2⟩ := hy2
              refine gx_st (L' := [(2, 192), (0, (h : Int)), (0, (p : Int)), (0, (q : Int)), (0, (k : Int))]) (S' := [(2, 192), (0, x70)]) r_135_73 rfl rfl rfl ?_
              refine gx_st (L' := [(2, 192), (0, (h : Int)), (0, (p : Int)), (0, (q : Int)), (0, (k : Int))]) (S' := [(0, (p : Int)), (2, 192), (0, x70)]) r_135_74 rfl rfl rfl ?_
              refine gx_st (L' := [(2, 192), (0, (h : Int)), (0, (p : Int)), (0, (q : Int)), (0, (k : Int))]) (S' := [(2, 192), (0, (p : Int)), (2, 192), (0, x70)]) r_135_75 rfl rfl rfl ?_
              refine gx_st (L' := [(2, 192), (0, (h : Int)), (0, (p : Int)), (0, (q : Int)), (0, (k : Int))]) (S' := [(0, (q : Int)), (2, 192), (0, (p : Int)), (2, 192), (0, x70)]) r_135_76 rfl rfl rfl ?_
              obtain ⟨t77, e_t77⟩ : ∃ z : Nat, m 193 (31 + 2 * q) = (z : Int) := ⟨(m 193 (31 + 2 * q)).toNat, by have := gb_193_tp hm (k := q) (by omega); omega⟩
              have b_t77 := gb_193_tp hm (k := q) (by omega)
              rw [e_t77] at b_t77
              refine gx_ci (nx := 80) (S2 := [(0, (p : Int)), (2, 192), (0, x70)]) (x_97 hT hm (k := q) (by omega)) r_135_77 rfl rfl rfl rfl rfl (rcv_v rfl (tk_192 hT) (by decide) rfl (by decide)) rfl (by decide) rfl (fun x77 n77 q77 => ?_)
              obtain rfl := q77.1.symm
              obtain rfl := q77.2.symm
              show GX T 1 135 80 [(2, 192), (0, (h : Int)), (0, (p : Int)), (0, (q : Int)), (0, (k : Int))] [(0, (m 193 (31 + 2 * q))), (0, (p : Int)), (2, 192), (0, x70)] m Q
              rw [e_t77]
              refine gx_ci (nx := 83) (S2 := [(0, x70)]) (x_123 hT hm (a := p) (b := t77) (by omega) (by omega)) r_135_80 rfl rfl rfl rfl rfl (rcv_v rfl (tk_192 hT) (by decide) rfl (by decide)) rfl (by decide) rfl (fun x80 n80 q80 => ?_)
              obtain ⟨e_x80, z_x80⟩ := q80
              obtain rfl := z_x80.symm
              have b_x80 := gb_199 hm (i := 7 * (p) + (t77)) (by omega)
              rw [← e_x80] at b_x80
              show GX T 1 135 83 [(2, 192), (0, (h : Int)), (0, (p : Int)), (0, (q : Int)), (0, (k : Int))] [(0, x80), (0, x70)] m Q
              refine gx_ic (P := x80 ≤ x70) r_135_83 (rfl) (fun h83 => ?_) (fun h83 => ?_)
              · refine gx_li (z := (k : Int) + 1) (L' := [(2, 192), (0, (h : Int)), (0, (p : Int)), (0, (q : Int)), (0, (k : Int) + 1)]) r_135_89 rfl (w32_eq (by omega) (by omega) (by omega)) rfl ?_
                refine gx_st (L' := [(2, 192), (0, (h : Int)), (0, (p : Int)), (0, (q : Int)), (0, (k : Int) + 1)]) (S' := []) r_135_92 rfl rfl rfl ?_
                rw [show (k : Int) + 1 = ((k + 1 : Nat) : Int) from rfl]
                exact ih (k + 1) _ (by omega) (by omega) (Or.inr ⟨q, hq1, rfl, hq2⟩)
              · refine gx_st (L' := [(2, 192), (0, (h : Int)), (0, (p : Int)), (0, (q : Int)), (0, (k : Int))]) (S' := [(0, (k : Int))]) r_135_86 rfl rfl rfl ?_
                refine gx_st (L' := [(2, 192), (0, (h : Int)), (0, (p : Int)), (0, (k : Int)), (0, (k : Int))]) (S' := []) r_135_88 rfl rfl rfl ?_
                refine gx_li (z := (k : Int) + 1) (L' := [(2, 192), (0, (h : Int)), (0, (p : Int)), (0, (k : Int)), (0, (k : Int) + 1)]) r_135_89 rfl (w32_eq (by omega) (by omega) (by omega)) rfl ?_
                refine gx_st (L' := [(2, 192), (0, (h : Int)), (0, (p : Int)), (0, (k : Int)), (0, (k : Int) + 1)]) (S' := []) r_135_92 rfl rfl rfl ?_
                rw [show (k : Int) + 1 = ((k + 1 : Nat) : Int) from rfl]
                refine ih (k + 1) _ (by omega) (by omega) (Or.inr ⟨k, by omega, rfl, ?_⟩)
                rw [e_t43]
                show m 199 (7 * p + t43) < FAR
                unfold FAR
                omega
          · refine gx_st (L' := [(2, 192), (0, (h : Int)), (0, (p : Int)), (0, y), (0, (k : Int))]) (S' := []) r_135_54 rfl rfl rfl ?_
            refine gx_li (z := (k : Int) + 1) (L' := [(2, 192), (0, (h : Int)), (0, (p : Int)), (0, y), (0, (k : Int) + 1)]) r_135_89 rfl (w32_eq (by omega) (by omega) (by omega)) rfl ?_
            refine gx_st (L' := [(2, 192), (0, (h : Int)), (0, (p : Int)), (0, y), (0, (k : Int) + 1)]) (S' := []) r_135_92 rfl rfl rfl ?_
            rw [show (k : Int) + 1 = ((k + 1 : Nat) : Int) from rfl]
            exact ih (k + 1) _ (by omega) (by omega) hy
theorem x_135 (hT : TT T) (hm : Gam m) {h p : Nat} (hh : h < 13) (hp : p < 7) : GX T 1 135 0 [(2, 192), (0, (h : Int)), (0, (p : Int)), (9, 0), (9, 0)] [] m (RI (fun y m1 => StY m p y ∧ m1 = m)) := by
  refine gx_st (L' := [(2, 192), (0, (h : Int)), (0, (p : Int)), (9, 0), (9, 0)]) (S' := [(0, (-1))]) r_135_0 rfl rfl rfl ?_
  refine gx_st (L' := [(2, 192), (0, (h : Int)), (0, (p : Int)), (0, (-1)), (9, 0)]) (S' := []) r_135_1 rfl rfl rfl ?_
  refine gx_st (L' := [(2, 192), (0, (h : Int)), (0, (p : Int)), (0, (-1)), (9, 0)]) (S' := [(0, 0)]) r_135_2 rfl rfl rfl ?_
  refine gx_st (L' := [(2, 192), (0, (h : Int)), (0, (p : Int)), (0, (-1)), (0, 0)]) (S' := []) r_135_3 rfl rfl rfl ?_
  obtain ⟨c, hc⟩ : ∃ c : Nat, m 193 5 = (c : Int) := ⟨(m 193 5).toNat, by have := gb_193_5 hm; omega⟩
  exact steer_l hT hm hh hp hc (fun y hy => ⟨y, rfl, hy, rfl⟩) (c + 1) 0 (-1) (by omega) (by omega) (Or.inl rfl)
theorem gq_o192 : gq0 (2, 90, 0) (2, 192) := (gq_2 rfl).mpr ⟨rfl, by decide, by decide, by decide⟩
theorem x_137 (hT : TT T) (h136 : ConH T cn_136) (hm : Gam m) {h : Nat} (hh : h < 13) {a : Int} (ha1 : 0 ≤ a) (ha2 : a ≤ 16) (hrow : m 200 (16 * h + 1) = -1 ∨ 0 ≤ m 200 (16 * h)) : GX T 2 137 0 [(2, 192), (0, (h : Int)), (0, a), (9, 0)] [] m (RI (fun v m1 => ((v = 0 ∨ v = 1) ∧ (v = 1 → ¬ m 200 (16 * h + 1) = -1)) ∧ m1 = m)) := by
  refine gx_st (L' := [(2, 192), (0, (h : Int)), (0, a), (9, 0)]) (S' := [(2, 192)]) r_137_0 rfl rfl rfl ?_
  refine gx_st (L' := [(2, 192), (0, (h : Int)), (0, a), (9, 0)]) (S' := [(0, (h : Int)), (2, 192)]) r_137_1 rfl rfl rfl ?_
  refine gx_st (L' := [(2, 192), (0, (h : Int)), (0, a), (9, 0)]) (S' := [(0, 1), (0, (h : Int)), (2, 192)]) r_137_2 rfl rfl rfl ?_
  refine gx_ci (nx := 6) (S2 := []) (x_131 hT hm (h := h) (k := 1) (by omega) (by omega)) r_137_3 rfl rfl rfl rfl rfl (rcv_v rfl (tk_192 hT) (by decide) rfl (by decide)) rfl (by decide) rfl (fun x3 n3 q3 => ?_)
  obtain ⟨e_x3, z_x3⟩ := q3
  obtain rfl := z_x3.symm
  have b_x3 : -1 ≤ x3 ∧ x3 ≤ 4 := by rw [e_x3]; exact gb_200_on hm (h := h) (by omega)
  show GX T 2 137 6 [(2, 192), (0, (h : Int)), (0, a), (9, 0)] [(0, x3)] m (RI (fun v m1 => ((v = 0 ∨ v = 1) ∧ (v = 1 → ¬ m 200 (16 * h + 1) = -1)) ∧ m1 = m))
  refine gx_st (L' := [(2, 192), (0, (h : Int)), (0, a), (9, 0)]) (S' := [(0, (-1)), (0, x3)]) r_137_6 rfl rfl rfl ?_
  refine gx_ic (P := ¬ x3 = (-1)) r_137_7 (rfl) (fun h7 => ?_) (fun h7 => ?_)
  · refine gx_st (L' := [(2, 192), (0, (h : Int)), (0, a), (9, 0)]) (S' := [(2, 192)]) r_137_12 rfl rfl rfl ?_
    refine gx_st (L' := [(2, 192), (0, (h : Int)), (0, a), (9, 0)]) (S' := [(0, (h : Int)), (2, 192)]) r_137_13 rfl rfl rfl ?_
    refine gx_st (L' := [(2, 192), (0, (h : Int)), (0, a), (9, 0)]) (S' := [(0, 3), (0, (h : Int)), (2, 192)]) r_137_14 rfl rfl rfl ?_
    refine gx_ci (nx := 18) (S2 := []) (x_131 hT hm (h := h) (k := 3) (by omega) (by omega)) r_137_15 rfl rfl rfl rfl rfl (rcv_v rfl (tk_192 hT) (by decide) rfl (by decide)) rfl (by decide) rfl (fun x15 n15 q15 => ?_)
    obtain ⟨e_x15, z_x15⟩ := q15
    obtain rfl := z_x15.symm
    have b_x15 : 0 ≤ x15 ∧ x15 ≤ 3 := by rw [e_x15]; exact gb_200_dr hm (h := h) (by omega)
    show GX T 2 137 18 [(2, 192), (0, (h : Int)), (0, a), (9, 0)] [(0, x15)] m (RI (fun v m1 => ((v = 0 ∨ v = 1) ∧ (v = 1 → ¬ m 200 (16 * h + 1) = -1)) ∧ m1 = m))
    refine gx_i0 (P := x15 ≤ 0) r_137_18 (rfl) (fun h18 => ?_) (fun h18 => ?_)
    · refine gx_st (L' := [(2, 192), (0, (h : Int)), (0, a), (9, 0)]) (S' := [(0, 0)]) r_137_25 rfl rfl rfl ?_
      refine gx_st (L' := [(2, 192), (0, (h : Int)), (0, a), (0, 0)]) (S' := []) r_137_26 rfl rfl rfl ?_
      refine gx_st (L' := [(2, 192), (0, (h : Int)), (0, a), (0, 0)]) (S' := [(0, a)]) r_137_27 rfl rfl rfl ?_
      refine gx_st (L' := [(2, 192), (0, (h : Int)), (0, a), (0, 0)]) (S' := [(0, 1), (0, a)]) r_137_28 rfl rfl rfl ?_
      refine gx_ic (P := ¬ a = 1) r_137_29 (rfl) (fun h29 => ?_) (fun h29 => ?_)
      · refine gx_st (L' := [(2, 192), (0, (h : Int)), (0, a), (0, 0)]) (S' := [(0, 0)]) r_137_52 rfl rfl rfl ?_
        refine gx_i0 (P := ¬ 0 = 0) r_137_53 (rfl) (fun h53 => ?_) (fun h53 => ?_)
        · refine gx_st (L' := [(2, 192), (0, (h : Int)), (0, a), (0, 0)]) (S' := [(0, a)]) r_137_58 rfl rfl rfl ?_
          refine gx_st (L' := [(2, 192), (0, (h : Int)), (0, a), (0, 0)]) (S' := [(0, 2), (0, a)]) r_137_59 rfl rfl rfl ?_
          refine gx_ic (P := ¬ a = 2) r_137_60 (rfl) (fun h60 => ?_) (fun h60 => ?_)
          · refine gx_st (L' := [(2, 192), (0, (h : Int)), (0, a), (0, 0)]) (S' := [(0, a)]) r_137_94 rfl rfl rfl ?_
            refine gx_st (L' := [(2, 192), (0, (h : Int)), (0, a), (0, 0)]) (S' := [(0, 10), (0, a)]) r_137_95 rfl rfl rfl ?_
            refine gx_ic (P := a < 10) r_137_97 (rfl) (fun h97 => ?_) (fun h97 => ?_)
            · refine gx_st (L' := [(2, 192), (0, (h : Int)), (0, a), (0, 0)]) (S' := [(0, 0)]) r_137_122 rfl rfl rfl ?_
              exact gx_rt r_137_123 rfl rfl ⟨_, rfl, ⟨⟨by omega, by omega⟩, rfl⟩⟩
            · have hat : 0 ≤ m 200 (16 * h) := hrow.resolve_left (fun z => h7 (e_x3.trans z))
              obtain ⟨p, hp⟩ : ∃ p : Nat, m 200 (16 * h) = (p : Int) := ⟨(m 200 (16 * h)).toNat, by omega⟩
              have bat := gb_200_at hm (h := h) (by omega)
              obtain ⟨e, he⟩ : ∃ e : Nat, a = 10 + (e : Int) := ⟨(a - 10).toNat, by omega⟩
              refine gx_st (L' := [(2, 192), (0, (h : Int)), (0, a), (0, 0)]) (S' := [(2, 192)]) r_137_100 rfl rfl rfl ?_
              refine gx_st (L' := [(2, 192), (0, (h : Int)), (0, a), (0, 0)]) (S' := [(2, 192), (2, 192)]) r_137_101 rfl rfl rfl ?_
              refine gx_st (L' := [(2, 192), (0, (h : Int)), (0, a), (0, 0)]) (S' := [(0, (h : Int)), (2, 192), (2, 192)]) r_137_102 rfl rfl rfl ?_
              refine gx_st (L' := [(2, 192), (0, (h : Int)), (0, a), (0, 0)]) (S' := [(0, 0), (0, (h : Int)), (2, 192), (2, 192)]) r_137_103 rfl rfl rfl ?_
              refine gx_ci (nx := 107) (S2 := [(2, 192)]) (x_131 hT hm (h := h) (k := 0) (by omega) (by omega)) r_137_104 rfl rfl rfl rfl rfl (rcv_v rfl (tk_192 hT) (by decide) rfl (by decide)) rfl (by decide) rfl (fun x104 n104 q104 => ?_)
              obtain rfl := q104.1.symm
              obtain rfl := q104.2.symm
              show GX T 2 137 107 [(2, 192), (0, (h : Int)), (0, a), (0, 0)] [(0, (m 200 (16 * h + 0))), (2, 192)] m (RI (fun v m1 => ((v = 0 ∨ v = 1) ∧ (v = 1 → ¬ m 200 (16 * h + 1) = -1)) ∧ m1 = m))
              rw [show m 200 (16 * h + 0) = (p : Int) from hp]
              refine gx_st (L' := [(2, 192), (0, (h : Int)), (0, a), (0, 0)]) (S' := [(0, a), (0, (p : Int)), (2, 192)]) r_137_107 rfl rfl rfl ?_
              refine gx_st (L' := [(2, 192), (0, (h : Int)), (0, a), (0, 0)]) (S' := [(0, 10), (0, a), (0, (p : Int)), (2, 192)]) r_137_108 rfl rfl rfl ?_
              refine gx_ar (L' := [(2, 192), (0, (h : Int)), (0, a), (0, 0)]) (S' := [(0, (p : Int)), (2, 192)]) (t := 0) (e := w32 (a - 10)) (z := (e : Int)) r_137_110 rfl rfl rfl (w32_eq (by omega) (by omega) (by omega)) ?_
              refine gx_ci (nx := 114) (S2 := []) (x_123 hT hm (a := p) (b := e) (by omega) (by omega)) r_137_111 rfl rfl rfl rfl rfl (rcv_v rfl (tk_192 hT) (by decide) rfl (by decide)) rfl (by decide) rfl (fun x111 n111 q111 => ?_)
              obtain ⟨e_x111, z_x111⟩ := q111
              obtain rfl := z_x111.symm
              have b_x111 := gb_199 hm (i := 7 * (p) + (e)) (by omega)
              rw [← e_x111] at b_x111
              show GX T 2 137 114 [(2, 192), (0, (h : Int)), (0, a), (0, 0)] [(0, x111)] m (RI (fun v m1 => ((v = 0 ∨ v = 1) ∧ (v = 1 → ¬ m 200 (16 * h + 1) = -1)) ∧ m1 = m))
              refine gx_st (L' := [(2, 192), (0, (h : Int)), (0, a), (0, 0)]) (S' := [(0, 1), (0, x111)]) r_137_114 rfl rfl rfl ?_
              refine gx_ic (P := ¬ x111 = 1) r_137_115 (rfl) (fun h115 => ?_) (fun h115 => ?_)
              · refine gx_st (L' := [(2, 192), (0, (h : Int)), (0, a), (0, 0)]) (S' := [(0, 0)]) r_137_122 rfl rfl rfl ?_
                exact gx_rt r_137_123 rfl rfl ⟨_, rfl, ⟨⟨by omega, by omega⟩, rfl⟩⟩
              · have h115 := Decidable.not_not.mp h115
                refine gx_st (L' := [(2, 192), (0, (h : Int)), (0, a), (0, 0)]) (S' := [(0, 1)]) r_137_118 rfl rfl rfl ?_
                refine gx_st (L' := [(2, 192), (0, (h : Int)), (0, a), (0, 0)]) (S' := [(0, 1)]) r_137_119 rfl rfl rfl ?_
                exact gx_rt r_137_123 rfl rfl ⟨_, rfl, ⟨⟨by omega, by omega⟩, rfl⟩⟩
          · have h60 := Decidable.not_not.mp h60
            refine gx_st (L' := [(2, 192), (0, (h : Int)), (0, a), (0, 0)]) (S' := [(2, 192)]) r_137_63 rfl rfl rfl ?_
            refine gx_gf (x := 193) 2 r_137_64 rfl (tk_192 hT) ⟨by decide, rfl, by decide, by decide⟩ rfl (fun _ => by decide) (pr_192_1 hm) ?_
            refine gx_st (L' := [(2, 192), (0, (h : Int)), (0, a), (0, 0)]) (S' := [(0, 10), (2, 193)]) r_137_67 rfl rfl rfl ?_
            obtain ⟨x69, e_x69⟩ : ∃ z, z = m 193 (10) := ⟨_, rfl⟩
            have b_x69 := gb_193_10 hm
            rw [← e_x69] at b_x69
            refine gx_ia (n := 10) (x := x69) r_137_69 rfl (tk_193 hT) (rfl) ⟨rfl, by decide⟩ (e_x69.symm) ?_
            refine gx_st (L' := [(2, 192), (0, (h : Int)), (0, a), (0, 0)]) (S' := [(2, 192), (0, x69)]) r_137_70 rfl rfl rfl ?_
            obtain ⟨x71, e_x71⟩ : ∃ z, z = m 192 25 := ⟨_, rfl⟩
            have b_x71 := gb_192_25 hm
            rw [← e_x71] at b_x71
            refine gx_gf (x := x71) 0 r_137_71 rfl (tk_192 hT) ⟨by decide, rfl, by decide, by decide⟩ rfl (fun z => absurd z (by decide)) (e_x71.symm) ?_
            refine gx_st (L' := [(2, 192), (0, (h : Int)), (0, a), (0, 0)]) (S' := [(0, (ior x69 x71))]) r_137_74 rfl rfl rfl ?_
            have b75 : -2147483648 ≤ (ior x69 x71) ∧ (ior x69 x71) ≤ 2147483647 := i32_in _
            refine gx_st (L' := [(2, 192), (0, (h : Int)), (0, a), (0, 0)]) (S' := [(2, 192), (0, (ior x69 x71))]) r_137_75 rfl rfl rfl ?_
            refine gx_st (L' := [(2, 192), (0, (h : Int)), (0, a), (0, 0)]) (S' := [(0, (h : Int)), (2, 192), (0, (ior x69 x71))]) r_137_76 rfl rfl rfl ?_
            refine gx_st (L' := [(2, 192), (0, (h : Int)), (0, a), (0, 0)]) (S' := [(0, 0), (0, (h : Int)), (2, 192), (0, (ior x69 x71))]) r_137_77 rfl rfl rfl ?_
            refine gx_ci (nx := 81) (S2 := [(0, (ior x69 x71))]) (x_131 hT hm (h := h) (k := 0) (by omega) (by omega)) r_137_78 rfl rfl rfl rfl rfl (rcv_v rfl (tk_192 hT) (by decide) rfl (by decide)) rfl (by decide) rfl (fun x78 n78 q78 => ?_)
            obtain ⟨e_x78, z_x78⟩ := q78
            obtain rfl := z_x78.symm
            have b_x78 : -1 ≤ x78 ∧ x78 ≤ 6 := by rw [e_x78]; exact gb_200_at hm (h := h) (by omega)
            show GX T 2 137 81 [(2, 192), (0, (h : Int)), (0, a), (0, 0)] [(0, x78), (0, (ior x69 x71))] m (RI (fun v m1 => ((v = 0 ∨ v = 1) ∧ (v = 1 → ¬ m 200 (16 * h + 1) = -1)) ∧ m1 = m))
            refine gx_ci (nx := 84) (S2 := []) (x_87 (ior x69 x71) x78) r_137_81 rfl rfl rfl rfl rfl rfl rfl (by decide) rfl (fun x81 n81 q81 => ?_)
            obtain ⟨e_x81, z_x81⟩ := q81
            obtain rfl := z_x81.symm
            have b_x81 : -2147483648 ≤ x81 ∧ x81 ≤ 2147483647 := by rw [e_x81]; exact i32_in _
            show GX T 2 137 84 [(2, 192), (0, (h : Int)), (0, a), (0, 0)] [(0, x81)] m (RI (fun v m1 => ((v = 0 ∨ v = 1) ∧ (v = 1 → ¬ m 200 (16 * h + 1) = -1)) ∧ m1 = m))
            refine gx_st (L' := [(2, 192), (0, (h : Int)), (0, a), (0, 0)]) (S' := [(0, 1), (0, x81)]) r_137_84 rfl rfl rfl ?_
            refine gx_ic (P := ¬ x81 = 1) r_137_85 (rfl) (fun h85 => ?_) (fun h85 => ?_)
            · refine gx_st (L' := [(2, 192), (0, (h : Int)), (0, a), (0, 0)]) (S' := [(0, 0)]) r_137_92 rfl rfl rfl ?_
              exact gx_rt r_137_93 rfl rfl ⟨_, rfl, ⟨⟨by omega, by omega⟩, rfl⟩⟩
            · have h85 := Decidable.not_not.mp h85
              refine gx_st (L' := [(2, 192), (0, (h : Int)), (0, a), (0, 0)]) (S' := [(0, 1)]) r_137_88 rfl rfl rfl ?_
              refine gx_st (L' := [(2, 192), (0, (h : Int)), (0, a), (0, 0)]) (S' := [(0, 1)]) r_137_89 rfl rfl rfl ?_
              exact gx_rt r_137_93 rfl rfl ⟨_, rfl, ⟨⟨by omega, by omega⟩, rfl⟩⟩
        · have h53 := Decidable.not_not.mp h53
          refine gx_st (L' := [(2, 192), (0, (h : Int)), (0, a), (0, 0)]) (S' := [(0, 0)]) r_137_56 rfl rfl rfl ?_
          exact gx_rt r_137_57 rfl rfl ⟨_, rfl, ⟨⟨by omega, by omega⟩, rfl⟩⟩
      · have h29 := Decidable.not_not.mp h29
        refine gx_st (L' := [(2, 192), (0, (h : Int)), (0, a), (0, 0)]) (S' := [(0, 0)]) r_137_32 rfl rfl rfl ?_
        refine gx_i0 (P := ¬ 0 = 0) r_137_33 (rfl) (fun h33 => ?_) (fun h33 => ?_)
        · refine gx_st (L' := [(2, 192), (0, (h : Int)), (0, a), (0, 0)]) (S' := [(0, 0)]) r_137_50 rfl rfl rfl ?_
          exact gx_rt r_137_51 rfl rfl ⟨_, rfl, ⟨⟨by omega, by omega⟩, rfl⟩⟩
        · have h33 := Decidable.not_not.mp h33
          refine gx_st (L' := [(2, 192), (0, (h : Int)), (0, a), (0, 0)]) (S' := [(2, 192)]) r_137_36 rfl rfl rfl ?_
          refine gx_st (L' := [(2, 192), (0, (h : Int)), (0, a), (0, 0)]) (S' := [(0, (h : Int)), (2, 192)]) r_137_37 rfl rfl rfl ?_
          refine gx_st (L' := [(2, 192), (0, (h : Int)), (0, a), (0, 0)]) (S' := [(0, (h : Int)), (0, (h : Int)), (2, 192)]) r_137_38 rfl rfl rfl ?_
          refine gx_ci (nx := 42) (S2 := []) (gx_hi (args := [(2, 192), (0, (h : Int)), (0, (h : Int))]) h136 ⟨gq_o192, gq_any (by omega) (by omega), gq_any (by omega) (by omega), trivial⟩ hm rfl) r_137_39 rfl rfl rfl rfl rfl (rcv_v rfl (tk_192 hT) (by decide) rfl (by decide)) rfl (by decide) rfl (fun x39 n39 q39 => ?_)
          obtain rfl := (Fr_nil q39.2.2.2).symm
          have b_x39 := And.intro q39.1 q39.2.1
          show GX T 2 137 42 [(2, 192), (0, (h : Int)), (0, a), (0, 0)] [(0, x39)] m (RI (fun v m1 => ((v = 0 ∨ v = 1) ∧ (v = 1 → ¬ m 200 (16 * h + 1) = -1)) ∧ m1 = m))
          refine gx_st (L' := [(2, 192), (0, (h : Int)), (0, a), (0, 0)]) (S' := [(0, (-1)), (0, x39)]) r_137_42 rfl rfl rfl ?_
          refine gx_ic (P := x39 = (-1)) r_137_43 (rfl) (fun h43 => ?_) (fun h43 => ?_)
          · refine gx_st (L' := [(2, 192), (0, (h : Int)), (0, a), (0, 0)]) (S' := [(0, 0)]) r_137_50 rfl rfl rfl ?_
            exact gx_rt r_137_51 rfl rfl ⟨_, rfl, ⟨⟨by omega, by omega⟩, rfl⟩⟩
          · refine gx_st (L' := [(2, 192), (0, (h : Int)), (0, a), (0, 0)]) (S' := [(0, 1)]) r_137_46 rfl rfl rfl ?_
            refine gx_st (L' := [(2, 192), (0, (h : Int)), (0, a), (0, 0)]) (S' := [(0, 1)]) r_137_47 rfl rfl rfl ?_
            exact gx_rt r_137_51 rfl rfl ⟨_, rfl, ⟨⟨by omega, by omega⟩, rfl⟩⟩
    · refine gx_st (L' := [(2, 192), (0, (h : Int)), (0, a), (9, 0)]) (S' := [(0, 1)]) r_137_21 rfl rfl rfl ?_
      refine gx_st (L' := [(2, 192), (0, (h : Int)), (0, a), (9, 0)]) (S' := [(0, 1)]) r_137_22 rfl rfl rfl ?_
      refine gx_st (L' := [(2, 192), (0, (h : Int)), (0, a), (0, 1)]) (S' := []) r_137_26 rfl rfl rfl ?_
      refine gx_st (L' := [(2, 192), (0, (h : Int)), (0, a), (0, 1)]) (S' := [(0, a)]) r_137_27 rfl rfl rfl ?_
      refine gx_st (L' := [(2, 192), (0, (h : Int)), (0, a), (0, 1)]) (S' := [(0, 1), (0, a)]) r_137_28 rfl rfl rfl ?_
      refine gx_ic (P := ¬ a = 1) r_137_29 (rfl) (fun h29 => ?_) (fun h29 => ?_)
      · refine gx_st (L' := [(2, 192), (0, (h : Int)), (0, a), (0, 1)]) (S' := [(0, 1)]) r_137_52 rfl rfl rfl ?_
        refine gx_i0 (P := ¬ 1 = 0) r_137_53 (rfl) (fun h53 => ?_) (fun h53 => ?_)
        · refine gx_st (L' := [(2, 192), (0, (h : Int)), (0, a), (0, 1)]) (S' := [(0, a)]) r_137_58 rfl rfl rfl ?_
          refine gx_st (L' := [(2, 192), (0, (h : Int)), (0, a), (0, 1)]) (S' := [(0, 2), (0, a)]) r_137_59 rfl rfl rfl ?_
          refine gx_ic (P := ¬ a = 2) r_137_60 (rfl) (fun h60 => ?_) (fun h60 => ?_)
          · refine gx_st (L' := [(2, 192), (0, (h : Int)), (0, a), (0, 1)]) (S' := [(0, a)]) r_137_94 rfl rfl rfl ?_
            refine gx_st (L' := [(2, 192), (0, (h : Int)), (0, a), (0, 1)]) (S' := [(0, 10), (0, a)]) r_137_95 rfl rfl rfl ?_
            refine gx_ic (P := a < 10) r_137_97 (rfl) (fun h97 => ?_) (fun h97 => ?_)
            · refine gx_st (L' := [(2, 192), (0, (h : Int)), (0, a), (0, 1)]) (S' := [(0, 0)]) r_137_122 rfl rfl rfl ?_
              exact gx_rt r_137_123 rfl rfl ⟨_, rfl, ⟨⟨by omega, by omega⟩, rfl⟩⟩
            · have hat : 0 ≤ m 200 (16 * h) := hrow.resolve_left (fun z => h7 (e_x3.trans z))
              obtain ⟨p, hp⟩ : ∃ p : Nat, m 200 (16 * h) = (p : Int) := ⟨(m 200 (16 * h)).toNat, by omega⟩
              have bat := gb_200_at hm (h := h) (by omega)
              obtain ⟨e, he⟩ : ∃ e : Nat, a = 10 + (e : Int) := ⟨(a - 10).toNat, by omega⟩
              refine gx_st (L' := [(2, 192), (0, (h : Int)), (0, a), (0, 1)]) (S' := [(2, 192)]) r_137_100 rfl rfl rfl ?_
              refine gx_st (L' := [(2, 192), (0, (h : Int)), (0, a), (0, 1)]) (S' := [(2, 192), (2, 192)]) r_137_101 rfl rfl rfl ?_
              refine gx_st (L' := [(2, 192), (0, (h : Int)), (0, a), (0, 1)]) (S' := [(0, (h : Int)), (2, 192), (2, 192)]) r_137_102 rfl rfl rfl ?_
              refine gx_st (L' := [(2, 192), (0, (h : Int)), (0, a), (0, 1)]) (S' := [(0, 0), (0, (h : Int)), (2, 192), (2, 192)]) r_137_103 rfl rfl rfl ?_
              refine gx_ci (nx := 107) (S2 := [(2, 192)]) (x_131 hT hm (h := h) (k := 0) (by omega) (by omega)) r_137_104 rfl rfl rfl rfl rfl (rcv_v rfl (tk_192 hT) (by decide) rfl (by decide)) rfl (by decide) rfl (fun x104 n104 q104 => ?_)
              obtain rfl := q104.1.symm
              obtain rfl := q104.2.symm
              show GX T 2 137 107 [(2, 192), (0, (h : Int)), (0, a), (0, 1)] [(0, (m 200 (16 * h + 0))), (2, 192)] m (RI (fun v m1 => ((v = 0 ∨ v = 1) ∧ (v = 1 → ¬ m 200 (16 * h + 1) = -1)) ∧ m1 = m))
              rw [show m 200 (16 * h + 0) = (p : Int) from hp]
              refine gx_st (L' := [(2, 192), (0, (h : Int)), (0, a), (0, 1)]) (S' := [(0, a), (0, (p : Int)), (2, 192)]) r_137_107 rfl rfl rfl ?_
              refine gx_st (L' := [(2, 192), (0, (h : Int)), (0, a), (0, 1)]) (S' := [(0, 10), (0, a), (0, (p : Int)), (2, 192)]) r_137_108 rfl rfl rfl ?_
              refine gx_ar (L' := [(2, 192), (0, (h : Int)), (0, a), (0, 1)]) (S' := [(0, (p : Int)), (2, 192)]) (t := 0) (e := w32 (a - 10)) (z := (e : Int)) r_137_110 rfl rfl rfl (w32_eq (by omega) (by omega) (by omega)) ?_
              refine gx_ci (nx := 114) (S2 := []) (x_123 hT hm (a := p) (b := e) (by omega) (by omega)) r_137_111 rfl rfl rfl rfl rfl (rcv_v rfl (tk_192 hT) (by decide) rfl (by decide)) rfl (by decide) rfl (fun x111 n111 q111 => ?_)
              obtain ⟨e_x111, z_x111⟩ := q111
              obtain rfl := z_x111.symm
              have b_x111 := gb_199 hm (i := 7 * (p) + (e)) (by omega)
              rw [← e_x111] at b_x111
              show GX T 2 137 114 [(2, 192), (0, (h : Int)), (0, a), (0, 1)] [(0, x111)] m (RI (fun v m1 => ((v = 0 ∨ v = 1) ∧ (v = 1 → ¬ m 200 (16 * h + 1) = -1)) ∧ m1 = m))
              refine gx_st (L' := [(2, 192), (0, (h : Int)), (0, a), (0, 1)]) (S' := [(0, 1), (0, x111)]) r_137_114 rfl rfl rfl ?_
              refine gx_ic (P := ¬ x111 = 1) r_137_115 (rfl) (fun h115 => ?_) (fun h115 => ?_)
              · refine gx_st (L' := [(2, 192), (0, (h : Int)), (0, a), (0, 1)]) (S' := [(0, 0)]) r_137_122 rfl rfl rfl ?_
                exact gx_rt r_137_123 rfl rfl ⟨_, rfl, ⟨⟨by omega, by omega⟩, rfl⟩⟩
              · have h115 := Decidable.not_not.mp h115
                refine gx_st (L' := [(2, 192), (0, (h : Int)), (0, a), (0, 1)]) (S' := [(0, 1)]) r_137_118 rfl rfl rfl ?_
                refine gx_st (L' := [(2, 192), (0, (h : Int)), (0, a), (0, 1)]) (S' := [(0, 1)]) r_137_119 rfl rfl rfl ?_
                exact gx_rt r_137_123 rfl rfl ⟨_, rfl, ⟨⟨by omega, by omega⟩, rfl⟩⟩
          · have h60 := Decidable.not_not.mp h60
            refine gx_st (L' := [(2, 192), (0, (h : Int)), (0, a), (0, 1)]) (S' := [(2, 192)]) r_137_63 rfl rfl rfl ?_
            refine gx_gf (x := 193) 2 r_137_64 rfl (tk_192 hT) ⟨by decide, rfl, by decide, by decide⟩ rfl (fun _ => by decide) (pr_192_1 hm) ?_
            refine gx_st (L' := [(2, 192), (0, (h : Int)), (0, a), (0, 1)]) (S' := [(0, 10), (2, 193)]) r_137_67 rfl rfl rfl ?_
            obtain ⟨x69, e_x69⟩ : ∃ z, z = m 193 (10) := ⟨_, rfl⟩
            have b_x69 := gb_193_10 hm
            rw [← e_x69] at b_x69
            refine gx_ia (n := 10) (x := x69) r_137_69 rfl (tk_193 hT) (rfl) ⟨rfl, by decide⟩ (e_x69.symm) ?_
            refine gx_st (L' := [(2, 192), (0, (h : Int)), (0, a), (0, 1)]) (S' := [(2, 192), (0, x69)]) r_137_70 rfl rfl rfl ?_
            obtain ⟨x71, e_x71⟩ : ∃ z, z = m 192 25 := ⟨_, rfl⟩
            have b_x71 := gb_192_25 hm
            rw [← e_x71] at b_x71
            refine gx_gf (x := x71) 0 r_137_71 rfl (tk_192 hT) ⟨by decide, rfl, by decide, by decide⟩ rfl (fun z => absurd z (by decide)) (e_x71.symm) ?_
            refine gx_st (L' := [(2, 192), (0, (h : Int)), (0, a), (0, 1)]) (S' := [(0, (ior x69 x71))]) r_137_74 rfl rfl rfl ?_
            have b75 : -2147483648 ≤ (ior x69 x71) ∧ (ior x69 x71) ≤ 2147483647 := i32_in _
            refine gx_st (L' := [(2, 192), (0, (h : Int)), (0, a), (0, 1)]) (S' := [(2, 192), (0, (ior x69 x71))]) r_137_75 rfl rfl rfl ?_
            refine gx_st (L' := [(2, 192), (0, (h : Int)), (0, a), (0, 1)]) (S' := [(0, (h : Int)), (2, 192), (0, (ior x69 x71))]) r_137_76 rfl rfl rfl ?_
            refine gx_st (L' := [(2, 192), (0, (h : Int)), (0, a), (0, 1)]) (S' := [(0, 0), (0, (h : Int)), (2, 192), (0, (ior x69 x71))]) r_137_77 rfl rfl rfl ?_
            refine gx_ci (nx := 81) (S2 := [(0, (ior x69 x71))]) (x_131 hT hm (h := h) (k := 0) (by omega) (by omega)) r_137_78 rfl rfl rfl rfl rfl (rcv_v rfl (tk_192 hT) (by decide) rfl (by decide)) rfl (by decide) rfl (fun x78 n78 q78 => ?_)
            obtain ⟨e_x78, z_x78⟩ := q78
            obtain rfl := z_x78.symm
            have b_x78 : -1 ≤ x78 ∧ x78 ≤ 6 := by rw [e_x78]; exact gb_200_at hm (h := h) (by omega)
            show GX T 2 137 81 [(2, 192), (0, (h : Int)), (0, a), (0, 1)] [(0, x78), (0, (ior x69 x71))] m (RI (fun v m1 => ((v = 0 ∨ v = 1) ∧ (v = 1 → ¬ m 200 (16 * h + 1) = -1)) ∧ m1 = m))
            refine gx_ci (nx := 84) (S2 := []) (x_87 (ior x69 x71) x78) r_137_81 rfl rfl rfl rfl rfl rfl rfl (by decide) rfl (fun x81 n81 q81 => ?_)
            obtain ⟨e_x81, z_x81⟩ := q81
            obtain rfl := z_x81.symm
            have b_x81 : -2147483648 ≤ x81 ∧ x81 ≤ 2147483647 := by rw [e_x81]; exact i32_in _
            show GX T 2 137 84 [(2, 192), (0, (h : Int)), (0, a), (0, 1)] [(0, x81)] m (RI (fun v m1 => ((v = 0 ∨ v = 1) ∧ (v = 1 → ¬ m 200 (16 * h + 1) = -1)) ∧ m1 = m))
            refine gx_st (L' := [(2, 192), (0, (h : Int)), (0, a), (0, 1)]) (S' := [(0, 1), (0, x81)]) r_137_84 rfl rfl rfl ?_
            refine gx_ic (P := ¬ x81 = 1) r_137_85 (rfl) (fun h85 => ?_) (fun h85 => ?_)
            · refine gx_st (L' := [(2, 192), (0, (h : Int)), (0, a), (0, 1)]) (S' := [(0, 0)]) r_137_92 rfl rfl rfl ?_
              exact gx_rt r_137_93 rfl rfl ⟨_, rfl, ⟨⟨by omega, by omega⟩, rfl⟩⟩
            · have h85 := Decidable.not_not.mp h85
              refine gx_st (L' := [(2, 192), (0, (h : Int)), (0, a), (0, 1)]) (S' := [(0, 1)]) r_137_88 rfl rfl rfl ?_
              refine gx_st (L' := [(2, 192), (0, (h : Int)), (0, a), (0, 1)]) (S' := [(0, 1)]) r_137_89 rfl rfl rfl ?_
              exact gx_rt r_137_93 rfl rfl ⟨_, rfl, ⟨⟨by omega, by omega⟩, rfl⟩⟩
        · have h53 := Decidable.not_not.mp h53
          refine gx_st (L' := [(2, 192), (0, (h : Int)), (0, a), (0, 1)]) (S' := [(0, 0)]) r_137_56 rfl rfl rfl ?_
          exact gx_rt r_137_57 rfl rfl ⟨_, rfl, ⟨⟨by omega, by omega⟩, rfl⟩⟩
      · have h29 := Decidable.not_not.mp h29
        refine gx_st (L' := [(2, 192), (0, (h : Int)), (0, a), (0, 1)]) (S' := [(0, 1)]) r_137_32 rfl rfl rfl ?_
        refine gx_i0 (P := ¬ 1 = 0) r_137_33 (rfl) (fun h33 => ?_) (fun h33 => ?_)
        · refine gx_st (L' := [(2, 192), (0, (h : Int)), (0, a), (0, 1)]) (S' := [(0, 0)]) r_137_50 rfl rfl rfl ?_
          exact gx_rt r_137_51 rfl rfl ⟨_, rfl, ⟨⟨by omega, by omega⟩, rfl⟩⟩
        · have h33 := Decidable.not_not.mp h33
          refine gx_st (L' := [(2, 192), (0, (h : Int)), (0, a), (0, 1)]) (S' := [(2, 192)]) r_137_36 rfl rfl rfl ?_
          refine gx_st (L' := [(2, 192), (0, (h : Int)), (0, a), (0, 1)]) (S' := [(0, (h : Int)), (2, 192)]) r_137_37 rfl rfl rfl ?_
          refine gx_st (L' := [(2, 192), (0, (h : Int)), (0, a), (0, 1)]) (S' := [(0, (h : Int)), (0, (h : Int)), (2, 192)]) r_137_38 rfl rfl rfl ?_
          refine gx_ci (nx := 42) (S2 := []) (gx_hi (args := [(2, 192), (0, (h : Int)), (0, (h : Int))]) h136 ⟨gq_o192, gq_any (by omega) (by omega), gq_any (by omega) (by omega), trivial⟩ hm rfl) r_137_39 rfl rfl rfl rfl rfl (rcv_v rfl (tk_192 hT) (by decide) rfl (by decide)) rfl (by decide) rfl (fun x39 n39 q39 => ?_)
          obtain rfl := (Fr_nil q39.2.2.2).symm
          have b_x39 := And.intro q39.1 q39.2.1
          show GX T 2 137 42 [(2, 192), (0, (h : Int)), (0, a), (0, 1)] [(0, x39)] m (RI (fun v m1 => ((v = 0 ∨ v = 1) ∧ (v = 1 → ¬ m 200 (16 * h + 1) = -1)) ∧ m1 = m))
          refine gx_st (L' := [(2, 192), (0, (h : Int)), (0, a), (0, 1)]) (S' := [(0, (-1)), (0, x39)]) r_137_42 rfl rfl rfl ?_
          refine gx_ic (P := x39 = (-1)) r_137_43 (rfl) (fun h43 => ?_) (fun h43 => ?_)
          · refine gx_st (L' := [(2, 192), (0, (h : Int)), (0, a), (0, 1)]) (S' := [(0, 0)]) r_137_50 rfl rfl rfl ?_
            exact gx_rt r_137_51 rfl rfl ⟨_, rfl, ⟨⟨by omega, by omega⟩, rfl⟩⟩
          · refine gx_st (L' := [(2, 192), (0, (h : Int)), (0, a), (0, 1)]) (S' := [(0, 1)]) r_137_46 rfl rfl rfl ?_
            refine gx_st (L' := [(2, 192), (0, (h : Int)), (0, a), (0, 1)]) (S' := [(0, 1)]) r_137_47 rfl rfl rfl ?_
            exact gx_rt r_137_51 rfl rfl ⟨_, rfl, ⟨⟨by omega, by omega⟩, rfl⟩⟩
  · have h7 := Decidable.not_not.mp h7
    refine gx_st (L' := [(2, 192), (0, (h : Int)), (0, a), (9, 0)]) (S' := [(0, 0)]) r_137_10 rfl rfl rfl ?_
    exact gx_rt r_137_11 rfl rfl ⟨_, rfl, ⟨⟨by omega, by omega⟩, rfl⟩⟩
end RIDE
