/-! slots exactly -/
theorem r_66_0 : row 66 0 = some (.iload_n 1, 1, 0, 0, 0, 0) := rfl
theorem r_66_1 : row 66 1 = some (.aload_n 0, 2, 0, 0, 0, 0) := rfl
theorem r_66_2 : row 66 2 = some (.getfield 77, 5, 9, 12, 2, 2170) := rfl
theorem r_66_5 : row 66 5 = some (.arraylength, 6, 0, 0, 0, 0) := rfl
theorem r_66_6 : row 66 6 = some (.invokestatic 126, 9, 71, 2, 0, 4020) := rfl
theorem r_66_9 : row 66 9 = some (.ifCond .eq 15, 12, 24, 0, 0, 0) := rfl
theorem r_66_12 : row 66 12 = some (.iload_n 1, 13, 0, 0, 0, 0) := rfl
theorem r_66_13 : row 66 13 = some (.aload_n 0, 14, 0, 0, 0, 0) := rfl
theorem r_66_14 : row 66 14 = some (.getfield 81, 17, 9, 13, 2, 2171) := rfl
theorem r_66_17 : row 66 17 = some (.arraylength, 18, 0, 0, 0, 0) := rfl
theorem r_66_18 : row 66 18 = some (.invokestatic 126, 21, 71, 2, 0, 4020) := rfl
theorem r_66_21 : row 66 21 = some (.ifCond .ne 6, 24, 27, 0, 0, 0) := rfl
theorem r_66_24 : row 66 24 = some (.bipush (-2), 26, (-2), 0, 0, 0) := rfl
theorem r_66_26 : row 66 26 = some (.ireturn, 27, 0, 0, 0, 0) := rfl
theorem r_66_27 : row 66 27 = some (.aload_n 0, 28, 0, 0, 0, 0) := rfl
theorem r_66_28 : row 66 28 = some (.getfield 77, 31, 9, 12, 2, 2170) := rfl
theorem r_66_31 : row 66 31 = some (.iload_n 1, 32, 0, 0, 0, 0) := rfl
theorem r_66_32 : row 66 32 = some (.aaload, 33, 0, 0, 0, 0) := rfl
theorem r_66_33 : row 66 33 = some (.aload_n 0, 34, 0, 0, 0, 0) := rfl
theorem r_66_34 : row 66 34 = some (.getfield 19, 37, 9, 1, 2, 2159) := rfl
theorem r_66_37 : row 66 37 = some (.invokevirtual 104, 40, 254, 1, 10, 3146) := rfl
theorem r_66_40 : row 66 40 = some (.aload_n 0, 41, 0, 0, 0, 0) := rfl
theorem r_66_41 : row 66 41 = some (.getfield 81, 44, 9, 13, 2, 2171) := rfl
theorem r_66_44 : row 66 44 = some (.iload_n 1, 45, 0, 0, 0, 0) := rfl
theorem r_66_45 : row 66 45 = some (.aaload, 46, 0, 0, 0, 0) := rfl
theorem r_66_46 : row 66 46 = some (.aload_n 0, 47, 0, 0, 0, 0) := rfl
theorem r_66_47 : row 66 47 = some (.getfield 29, 50, 9, 3, 2, 2161) := rfl
theorem r_66_50 : row 66 50 = some (.invokevirtual 350, 53, 236, 1, 10, 5198) := rfl
theorem r_66_53 : row 66 53 = some (.aload_n 0, 54, 0, 0, 0, 0) := rfl
theorem r_66_54 : row 66 54 = some (.dup, 55, 0, 0, 0, 0) := rfl
theorem r_66_55 : row 66 55 = some (.getfield 85, 58, 9, 14, 0, 2172) := rfl
theorem r_66_58 : row 66 58 = some (.iconst 1, 59, 1, 0, 0, 0) := rfl
theorem r_66_59 : row 66 59 = some (.iload_n 1, 60, 0, 0, 0, 0) := rfl
theorem r_66_60 : row 66 60 = some (.ishl, 61, 0, 0, 0, 0) := rfl
theorem r_66_61 : row 66 61 = some (.ior, 62, 0, 0, 0, 0) := rfl
theorem r_66_62 : row 66 62 = some (.putfield 85, 65, 9, 14, 0, 2172) := rfl
theorem r_66_65 : row 66 65 = some (.iconst 0, 66, 0, 0, 0, 0) := rfl
theorem r_66_66 : row 66 66 = some (.ireturn, 67, 0, 0, 0, 0) := rfl
theorem r_67_0 : row 67 0 = some (.iload_n 1, 1, 0, 0, 0, 0) := rfl
theorem r_67_1 : row 67 1 = some (.aload_n 0, 2, 0, 0, 0, 0) := rfl
theorem r_67_2 : row 67 2 = some (.getfield 77, 5, 9, 12, 2, 2170) := rfl
theorem r_67_5 : row 67 5 = some (.arraylength, 6, 0, 0, 0, 0) := rfl
theorem r_67_6 : row 67 6 = some (.invokestatic 126, 9, 71, 2, 0, 4020) := rfl
theorem r_67_9 : row 67 9 = some (.ifCond .eq 15, 12, 24, 0, 0, 0) := rfl
theorem r_67_12 : row 67 12 = some (.iload_n 1, 13, 0, 0, 0, 0) := rfl
theorem r_67_13 : row 67 13 = some (.aload_n 0, 14, 0, 0, 0, 0) := rfl
theorem r_67_14 : row 67 14 = some (.getfield 81, 17, 9, 13, 2, 2171) := rfl
theorem r_67_17 : row 67 17 = some (.arraylength, 18, 0, 0, 0, 0) := rfl
theorem r_67_18 : row 67 18 = some (.invokestatic 126, 21, 71, 2, 0, 4020) := rfl
theorem r_67_21 : row 67 21 = some (.ifCond .ne 6, 24, 27, 0, 0, 0) := rfl
theorem r_67_24 : row 67 24 = some (.bipush (-2), 26, (-2), 0, 0, 0) := rfl
theorem r_67_26 : row 67 26 = some (.ireturn, 27, 0, 0, 0, 0) := rfl
theorem r_67_27 : row 67 27 = some (.aload_n 0, 28, 0, 0, 0, 0) := rfl
theorem r_67_28 : row 67 28 = some (.getfield 85, 31, 9, 14, 0, 2172) := rfl
theorem r_67_31 : row 67 31 = some (.iload_n 1, 32, 0, 0, 0, 0) := rfl
theorem r_67_32 : row 67 32 = some (.invokestatic 187, 35, 242, 2, 10, 4070) := rfl
theorem r_67_35 : row 67 35 = some (.ifCond .ne 6, 38, 41, 0, 0, 0) := rfl
theorem r_67_38 : row 67 38 = some (.bipush (-6), 40, (-6), 0, 0, 0) := rfl
theorem r_67_40 : row 67 40 = some (.ireturn, 41, 0, 0, 0, 0) := rfl
theorem r_67_41 : row 67 41 = some (.aload_n 0, 42, 0, 0, 0, 0) := rfl
theorem r_67_42 : row 67 42 = some (.getfield 19, 45, 9, 1, 2, 2159) := rfl
theorem r_67_45 : row 67 45 = some (.aload_n 0, 46, 0, 0, 0, 0) := rfl
theorem r_67_46 : row 67 46 = some (.getfield 77, 49, 9, 12, 2, 2170) := rfl
theorem r_67_49 : row 67 49 = some (.iload_n 1, 50, 0, 0, 0, 0) := rfl
theorem r_67_50 : row 67 50 = some (.aaload, 51, 0, 0, 0, 0) := rfl
theorem r_67_51 : row 67 51 = some (.invokevirtual 104, 54, 254, 1, 10, 3146) := rfl
theorem r_67_54 : row 67 54 = some (.aload_n 0, 55, 0, 0, 0, 0) := rfl
theorem r_67_55 : row 67 55 = some (.getfield 29, 58, 9, 3, 2, 2161) := rfl
theorem r_67_58 : row 67 58 = some (.aload_n 0, 59, 0, 0, 0, 0) := rfl
theorem r_67_59 : row 67 59 = some (.getfield 81, 62, 9, 13, 2, 2171) := rfl
theorem r_67_62 : row 67 62 = some (.iload_n 1, 63, 0, 0, 0, 0) := rfl
theorem r_67_63 : row 67 63 = some (.aaload, 64, 0, 0, 0, 0) := rfl
theorem r_67_64 : row 67 64 = some (.invokevirtual 350, 67, 236, 1, 10, 5198) := rfl
theorem r_67_67 : row 67 67 = some (.aload_n 0, 68, 0, 0, 0, 0) := rfl
theorem r_67_68 : row 67 68 = some (.invokevirtual 111, 71, 75, 0, 0, 3162) := rfl
theorem r_67_71 : row 67 71 = some (.iconst 0, 72, 0, 0, 0, 0) := rfl
theorem r_67_72 : row 67 72 = some (.ireturn, 73, 0, 0, 0, 0) := rfl
theorem r_68_0 : row 68 0 = some (.iload_n 1, 1, 0, 0, 0, 0) := rfl
theorem r_68_1 : row 68 1 = some (.aload_n 0, 2, 0, 0, 0, 0) := rfl
theorem r_68_2 : row 68 2 = some (.getfield 72, 5, 9, 11, 2, 2169) := rfl
theorem r_68_5 : row 68 5 = some (.arraylength, 6, 0, 0, 0, 0) := rfl
theorem r_68_6 : row 68 6 = some (.invokestatic 126, 9, 71, 2, 0, 4020) := rfl
theorem r_68_9 : row 68 9 = some (.ifCond .eq 17, 12, 26, 0, 0, 0) := rfl
theorem r_68_12 : row 68 12 = some (.iload_n 2, 13, 0, 0, 0, 0) := rfl
theorem r_68_13 : row 68 13 = some (.iconst 4, 14, 4, 0, 0, 0) := rfl
theorem r_68_14 : row 68 14 = some (.invokestatic 126, 17, 71, 2, 0, 4020) := rfl
theorem r_68_17 : row 68 17 = some (.ifCond .eq 9, 20, 26, 0, 0, 0) := rfl
theorem r_68_20 : row 68 20 = some (.iload_n 3, 21, 0, 0, 0, 0) := rfl
theorem r_68_21 : row 68 21 = some (.bipush 60, 23, 60, 0, 0, 0) := rfl
theorem r_68_23 : row 68 23 = some (.if_icmp .le 6, 26, 29, 0, 0, 0) := rfl
theorem r_68_26 : row 68 26 = some (.bipush (-2), 28, (-2), 0, 0, 0) := rfl
theorem r_68_28 : row 68 28 = some (.ireturn, 29, 0, 0, 0, 0) := rfl
theorem r_68_29 : row 68 29 = some (.iload_n 3, 30, 0, 0, 0, 0) := rfl
theorem r_68_30 : row 68 30 = some (.ifCond .ge 6, 33, 36, 0, 0, 0) := rfl
theorem r_68_33 : row 68 33 = some (.bipush (-3), 35, (-3), 0, 0, 0) := rfl
theorem r_68_35 : row 68 35 = some (.ireturn, 36, 0, 0, 0, 0) := rfl
theorem r_68_36 : row 68 36 = some (.aload_n 0, 37, 0, 0, 0, 0) := rfl
theorem r_68_37 : row 68 37 = some (.getfield 72, 40, 9, 11, 2, 2169) := rfl
theorem r_68_40 : row 68 40 = some (.iload_n 1, 41, 0, 0, 0, 0) := rfl
theorem r_68_41 : row 68 41 = some (.aaload, 42, 0, 0, 0, 0) := rfl
theorem r_68_42 : row 68 42 = some (.iload_n 2, 43, 0, 0, 0, 0) := rfl
theorem r_68_43 : row 68 43 = some (.iload_n 3, 44, 0, 0, 0, 0) := rfl
theorem r_68_44 : row 68 44 = some (.invokevirtual 353, 47, 282, 2, 10, 5211) := rfl
theorem r_68_47 : row 68 47 = some (.iconst 0, 48, 0, 0, 0, 0) := rfl
theorem r_68_48 : row 68 48 = some (.ireturn, 49, 0, 0, 0, 0) := rfl
theorem r_69_0 : row 69 0 = some (.iload_n 1, 1, 0, 0, 0, 0) := rfl
theorem r_69_1 : row 69 1 = some (.aload_n 0, 2, 0, 0, 0, 0) := rfl
theorem r_69_2 : row 69 2 = some (.getfield 72, 5, 9, 11, 2, 2169) := rfl
theorem r_69_5 : row 69 5 = some (.arraylength, 6, 0, 0, 0, 0) := rfl
theorem r_69_6 : row 69 6 = some (.invokestatic 126, 9, 71, 2, 0, 4020) := rfl
theorem r_69_9 : row 69 9 = some (.ifCond .ne 6, 12, 15, 0, 0, 0) := rfl
theorem r_69_12 : row 69 12 = some (.bipush (-2), 14, (-2), 0, 0, 0) := rfl
theorem r_69_14 : row 69 14 = some (.ireturn, 15, 0, 0, 0, 0) := rfl
theorem r_69_15 : row 69 15 = some (.aload_n 0, 16, 0, 0, 0, 0) := rfl
theorem r_69_16 : row 69 16 = some (.getfield 72, 19, 9, 11, 2, 2169) := rfl
theorem r_69_19 : row 69 19 = some (.iload_n 1, 20, 0, 0, 0, 0) := rfl
theorem r_69_20 : row 69 20 = some (.aaload, 21, 0, 0, 0, 0) := rfl
theorem r_69_21 : row 69 21 = some (.astore 5, 23, 0, 0, 0, 0) := rfl
theorem r_69_23 : row 69 23 = some (.aload 5, 25, 0, 0, 0, 0) := rfl
theorem r_69_25 : row 69 25 = some (.getfield 357, 28, 6, 2, 10, 2147) := rfl
theorem r_69_28 : row 69 28 = some (.iconst (-1), 29, (-1), 0, 0, 0) := rfl
theorem r_69_29 : row 69 29 = some (.if_icmp .ne 6, 32, 35, 0, 0, 0) := rfl
theorem r_69_32 : row 69 32 = some (.bipush (-6), 34, (-6), 0, 0, 0) := rfl
theorem r_69_34 : row 69 34 = some (.ireturn, 35, 0, 0, 0, 0) := rfl
theorem r_69_35 : row 69 35 = some (.iload_n 2, 36, 0, 0, 0, 0) := rfl
theorem r_69_36 : row 69 36 = some (.aload 5, 38, 0, 0, 0, 0) := rfl
theorem r_69_38 : row 69 38 = some (.getfield 357, 41, 6, 2, 10, 2147) := rfl
theorem r_69_41 : row 69 41 = some (.invokestatic 126, 44, 71, 2, 0, 4020) := rfl
theorem r_69_44 : row 69 44 = some (.ifCond .ne 6, 47, 50, 0, 0, 0) := rfl
theorem r_69_47 : row 69 47 = some (.bipush (-7), 49, (-7), 0, 0, 0) := rfl
theorem r_69_49 : row 69 49 = some (.ireturn, 50, 0, 0, 0, 0) := rfl
theorem r_69_50 : row 69 50 = some (.aload 5, 52, 0, 0, 0, 0) := rfl
theorem r_69_52 : row 69 52 = some (.iload_n 2, 53, 0, 0, 0, 0) := rfl
theorem r_69_53 : row 69 53 = some (.lload_n 3, 54, 0, 0, 0, 0) := rfl
theorem r_69_54 : row 69 54 = some (.invokevirtual 358, 57, 284, 2, 10, 5219) := rfl
theorem r_69_57 : row 69 57 = some (.iconst 0, 58, 0, 0, 0, 0) := rfl
theorem r_69_58 : row 69 58 = some (.ireturn, 59, 0, 0, 0, 0) := rfl
theorem r_228_0 : row 228 0 = some (.iload_n 1, 1, 0, 0, 0, 0) := rfl
theorem r_228_1 : row 228 1 = some (.invokestatic 386, 4, 226, 1, 0, 8107) := rfl
theorem r_228_4 : row 228 4 = some (.ifCond .eq 21, 7, 25, 0, 0, 0) := rfl
theorem r_228_7 : row 228 7 = some (.iload_n 2, 8, 0, 0, 0, 0) := rfl
theorem r_228_8 : row 228 8 = some (.i2l, 9, 0, 0, 0, 0) := rfl
theorem r_228_9 : row 228 9 = some (.lconst 0, 10, 0, 0, 0, 0) := rfl
theorem r_228_10 : row 228 10 = some (.ldc2_w 464, 13, 3, 0, 0, 8110) := rfl
theorem r_228_13 : row 228 13 = some (.invokestatic 82, 16, 86, 3, 0, 6131) := rfl
theorem r_228_16 : row 228 16 = some (.ifCond .eq 9, 19, 25, 0, 0, 0) := rfl
theorem r_228_19 : row 228 19 = some (.iload_n 3, 20, 0, 0, 0, 0) := rfl
theorem r_228_20 : row 228 20 = some (.bipush 60, 22, 60, 0, 0, 0) := rfl
theorem r_228_22 : row 228 22 = some (.if_icmp .le 6, 25, 28, 0, 0, 0) := rfl
theorem r_228_25 : row 228 25 = some (.bipush (-2), 27, (-2), 0, 0, 0) := rfl
theorem r_228_27 : row 228 27 = some (.ireturn, 28, 0, 0, 0, 0) := rfl
theorem r_228_28 : row 228 28 = some (.iload_n 3, 29, 0, 0, 0, 0) := rfl
theorem r_228_29 : row 228 29 = some (.ifCond .ge 6, 32, 35, 0, 0, 0) := rfl
theorem r_228_32 : row 228 32 = some (.bipush (-3), 34, (-3), 0, 0, 0) := rfl
theorem r_228_34 : row 228 34 = some (.ireturn, 35, 0, 0, 0, 0) := rfl
theorem r_228_35 : row 228 35 = some (.aload_n 0, 36, 0, 0, 0, 0) := rfl
theorem r_228_36 : row 228 36 = some (.getfield 64, 39, 10, 37, 2, 6038) := rfl
theorem r_228_39 : row 228 39 = some (.iload_n 1, 40, 0, 0, 0, 0) := rfl
theorem r_228_40 : row 228 40 = some (.iload_n 3, 41, 0, 0, 0, 0) := rfl
theorem r_228_41 : row 228 41 = some (.iastore, 42, 0, 0, 0, 0) := rfl
theorem r_228_42 : row 228 42 = some (.aload_n 0, 43, 0, 0, 0, 0) := rfl
theorem r_228_43 : row 228 43 = some (.getfield 67, 46, 10, 38, 2, 6039) := rfl
theorem r_228_46 : row 228 46 = some (.iload_n 1, 47, 0, 0, 0, 0) := rfl
theorem r_228_47 : row 228 47 = some (.iload_n 2, 48, 0, 0, 0, 0) := rfl
theorem r_228_48 : row 228 48 = some (.iastore, 49, 0, 0, 0, 0) := rfl
theorem r_228_49 : row 228 49 = some (.iconst 0, 50, 0, 0, 0, 0) := rfl
theorem r_228_50 : row 228 50 = some (.istore 4, 52, 0, 0, 0, 0) := rfl
theorem r_228_52 : row 228 52 = some (.iload 4, 54, 0, 0, 0, 0) := rfl
theorem r_228_54 : row 228 54 = some (.bipush 60, 56, 60, 0, 0, 0) := rfl
theorem r_228_56 : row 228 56 = some (.if_icmp .ge 22, 59, 78, 0, 0, 0) := rfl
theorem r_228_59 : row 228 59 = some (.aload_n 0, 60, 0, 0, 0, 0) := rfl
theorem r_228_60 : row 228 60 = some (.getfield 70, 63, 10, 39, 2, 6040) := rfl
theorem r_228_63 : row 228 63 = some (.bipush 60, 65, 60, 0, 0, 0) := rfl
theorem r_228_65 : row 228 65 = some (.iload_n 1, 66, 0, 0, 0, 0) := rfl
theorem r_228_66 : row 228 66 = some (.imul, 67, 0, 0, 0, 0) := rfl
theorem r_228_67 : row 228 67 = some (.iload 4, 69, 0, 0, 0, 0) := rfl
theorem r_228_69 : row 228 69 = some (.iadd, 70, 0, 0, 0, 0) := rfl
theorem r_228_70 : row 228 70 = some (.lconst 0, 71, 0, 0, 0, 0) := rfl
theorem r_228_71 : row 228 71 = some (.lastore, 72, 0, 0, 0, 0) := rfl
theorem r_228_72 : row 228 72 = some (.iinc 4 1, 75, 0, 0, 0, 0) := rfl
theorem r_228_75 : row 228 75 = some (.goto (-23), 78, 52, 0, 0, 0) := rfl
theorem r_228_78 : row 228 78 = some (.iconst 0, 79, 0, 0, 0, 0) := rfl
theorem r_228_79 : row 228 79 = some (.ireturn, 80, 0, 0, 0, 0) := rfl
theorem r_229_0 : row 229 0 = some (.iload_n 1, 1, 0, 0, 0, 0) := rfl
theorem r_229_1 : row 229 1 = some (.invokestatic 386, 4, 226, 1, 0, 8107) := rfl
theorem r_229_4 : row 229 4 = some (.ifCond .ne 6, 7, 10, 0, 0, 0) := rfl
theorem r_229_7 : row 229 7 = some (.bipush (-2), 9, (-2), 0, 0, 0) := rfl
theorem r_229_9 : row 229 9 = some (.ireturn, 10, 0, 0, 0, 0) := rfl
theorem r_229_10 : row 229 10 = some (.aload_n 0, 11, 0, 0, 0, 0) := rfl
theorem r_229_11 : row 229 11 = some (.getfield 64, 14, 10, 37, 2, 6038) := rfl
theorem r_229_14 : row 229 14 = some (.iload_n 1, 15, 0, 0, 0, 0) := rfl
theorem r_229_15 : row 229 15 = some (.iaload, 16, 0, 0, 0, 0) := rfl
theorem r_229_16 : row 229 16 = some (.iconst (-1), 17, (-1), 0, 0, 0) := rfl
theorem r_229_17 : row 229 17 = some (.if_icmp .ne 6, 20, 23, 0, 0, 0) := rfl
theorem r_229_20 : row 229 20 = some (.bipush (-6), 22, (-6), 0, 0, 0) := rfl
theorem r_229_22 : row 229 22 = some (.ireturn, 23, 0, 0, 0, 0) := rfl
theorem r_229_23 : row 229 23 = some (.iload_n 2, 24, 0, 0, 0, 0) := rfl
theorem r_229_24 : row 229 24 = some (.i2l, 25, 0, 0, 0, 0) := rfl
theorem r_229_25 : row 229 25 = some (.lconst 0, 26, 0, 0, 0, 0) := rfl
theorem r_229_26 : row 229 26 = some (.aload_n 0, 27, 0, 0, 0, 0) := rfl
theorem r_229_27 : row 229 27 = some (.getfield 64, 30, 10, 37, 2, 6038) := rfl
theorem r_229_30 : row 229 30 = some (.iload_n 1, 31, 0, 0, 0, 0) := rfl
theorem r_229_31 : row 229 31 = some (.iaload, 32, 0, 0, 0, 0) := rfl
theorem r_229_32 : row 229 32 = some (.iconst 1, 33, 1, 0, 0, 0) := rfl
theorem r_229_33 : row 229 33 = some (.isub, 34, 0, 0, 0, 0) := rfl
theorem r_229_34 : row 229 34 = some (.i2l, 35, 0, 0, 0, 0) := rfl
theorem r_229_35 : row 229 35 = some (.invokestatic 82, 38, 86, 3, 0, 6131) := rfl
theorem r_229_38 : row 229 38 = some (.ifCond .ne 6, 41, 44, 0, 0, 0) := rfl
theorem r_229_41 : row 229 41 = some (.bipush (-7), 43, (-7), 0, 0, 0) := rfl
theorem r_229_43 : row 229 43 = some (.ireturn, 44, 0, 0, 0, 0) := rfl
theorem r_229_44 : row 229 44 = some (.aload_n 0, 45, 0, 0, 0, 0) := rfl
theorem r_229_45 : row 229 45 = some (.getfield 70, 48, 10, 39, 2, 6040) := rfl
theorem r_229_48 : row 229 48 = some (.bipush 60, 50, 60, 0, 0, 0) := rfl
theorem r_229_50 : row 229 50 = some (.iload_n 1, 51, 0, 0, 0, 0) := rfl
theorem r_229_51 : row 229 51 = some (.imul, 52, 0, 0, 0, 0) := rfl
theorem r_229_52 : row 229 52 = some (.iload_n 2, 53, 0, 0, 0, 0) := rfl
theorem r_229_53 : row 229 53 = some (.iadd, 54, 0, 0, 0, 0) := rfl
theorem r_229_54 : row 229 54 = some (.lload_n 3, 55, 0, 0, 0, 0) := rfl
theorem r_229_55 : row 229 55 = some (.aload_n 0, 56, 0, 0, 0, 0) := rfl
theorem r_229_56 : row 229 56 = some (.getfield 67, 59, 10, 38, 2, 6039) := rfl
theorem r_229_59 : row 229 59 = some (.iload_n 1, 60, 0, 0, 0, 0) := rfl
theorem r_229_60 : row 229 60 = some (.iaload, 61, 0, 0, 0, 0) := rfl
theorem r_229_61 : row 229 61 = some (.invokestatic 466, 64, 227, 2, 0, 9008) := rfl
theorem r_229_64 : row 229 64 = some (.lastore, 65, 0, 0, 0, 0) := rfl
theorem r_229_65 : row 229 65 = some (.iconst 0, 66, 0, 0, 0, 0) := rfl
theorem r_229_66 : row 229 66 = some (.ireturn, 67, 0, 0, 0, 0) := rfl
theorem r_242_0 : row 242 0 = some (.iload_n 1, 1, 0, 0, 0, 0) := rfl
theorem r_242_1 : row 242 1 = some (.ifCond .lt 22, 4, 23, 0, 0, 0) := rfl
theorem r_242_4 : row 242 4 = some (.iload_n 1, 5, 0, 0, 0, 0) := rfl
theorem r_242_5 : row 242 5 = some (.bipush 32, 7, 32, 0, 0, 0) := rfl
theorem r_242_7 : row 242 7 = some (.if_icmp .ge 16, 10, 23, 0, 0, 0) := rfl
theorem r_242_10 : row 242 10 = some (.iload_n 0, 11, 0, 0, 0, 0) := rfl
theorem r_242_11 : row 242 11 = some (.iload_n 1, 12, 0, 0, 0, 0) := rfl
theorem r_242_12 : row 242 12 = some (.ishr, 13, 0, 0, 0, 0) := rfl
theorem r_242_13 : row 242 13 = some (.iconst 1, 14, 1, 0, 0, 0) := rfl
theorem r_242_14 : row 242 14 = some (.iand, 15, 0, 0, 0, 0) := rfl
theorem r_242_15 : row 242 15 = some (.iconst 1, 16, 1, 0, 0, 0) := rfl
theorem r_242_16 : row 242 16 = some (.if_icmp .ne 7, 19, 23, 0, 0, 0) := rfl
theorem r_242_19 : row 242 19 = some (.iconst 1, 20, 1, 0, 0, 0) := rfl
theorem r_242_20 : row 242 20 = some (.goto 4, 23, 24, 0, 0, 0) := rfl
theorem r_242_23 : row 242 23 = some (.iconst 0, 24, 0, 0, 0, 0) := rfl
theorem r_242_24 : row 242 24 = some (.ireturn, 25, 0, 0, 0, 0) := rfl
theorem r_282_0 : row 282 0 = some (.aload_n 0, 1, 0, 0, 0, 0) := rfl
theorem r_282_1 : row 282 1 = some (.iload_n 1, 2, 0, 0, 0, 0) := rfl
theorem r_282_2 : row 282 2 = some (.putfield 15, 5, 6, 1, 0, 2143) := rfl
theorem r_282_5 : row 282 5 = some (.aload_n 0, 6, 0, 0, 0, 0) := rfl
theorem r_282_6 : row 282 6 = some (.iload_n 2, 7, 0, 0, 0, 0) := rfl
theorem r_282_7 : row 282 7 = some (.putfield 19, 10, 6, 2, 0, 2145) := rfl
theorem r_282_10 : row 282 10 = some (.iconst 0, 11, 0, 0, 0, 0) := rfl
theorem r_282_11 : row 282 11 = some (.istore_n 3, 12, 0, 0, 0, 0) := rfl
theorem r_282_12 : row 282 12 = some (.iload_n 3, 13, 0, 0, 0, 0) := rfl
theorem r_282_13 : row 282 13 = some (.aload_n 0, 14, 0, 0, 0, 0) := rfl
theorem r_282_14 : row 282 14 = some (.getfield 9, 17, 6, 0, 2, 2141) := rfl
theorem r_282_17 : row 282 17 = some (.arraylength, 18, 0, 0, 0, 0) := rfl
theorem r_282_18 : row 282 18 = some (.if_icmp .ge 16, 21, 34, 0, 0, 0) := rfl
theorem r_282_21 : row 282 21 = some (.aload_n 0, 22, 0, 0, 0, 0) := rfl
theorem r_282_22 : row 282 22 = some (.getfield 9, 25, 6, 0, 2, 2141) := rfl
theorem r_282_25 : row 282 25 = some (.iload_n 3, 26, 0, 0, 0, 0) := rfl
theorem r_282_26 : row 282 26 = some (.lconst 0, 27, 0, 0, 0, 0) := rfl
theorem r_282_27 : row 282 27 = some (.lastore, 28, 0, 0, 0, 0) := rfl
theorem r_282_28 : row 282 28 = some (.iinc 3 1, 31, 0, 0, 0, 0) := rfl
theorem r_282_31 : row 282 31 = some (.goto (-19), 34, 12, 0, 0, 0) := rfl
theorem r_282_34 : row 282 34 = some (.return_, 35, 0, 0, 0, 0) := rfl
section SLOTS
variable {T : List Kd} {m : Mm}
theorem pin_211 (j : Nat) : pinF 211 j = 0 := rfl
theorem pin_no {o : Nat} (h : (pinT.getD o []) = []) (j : Nat) : pinF o j = 0 := by unfold pinF; rw [h]; rfl
theorem ren_l (hT : TT T) {o : Nat} (ho : SlT T o) {a b : Int} {m0 : Mm} (hr : SlR m0 o) {Q : AV → Mm → Prop} (hQ : ∀ m : Mm, (∀ i : Nat, i < 60 → m (o + 1) i = 0) → (∀ p j : Nat, ¬ p = o + 1 → m p j = m0 p j) → Q (9, 0) m) : ∀ (N k : Nat) (m : Mm), 60 - k < N → k ≤ 60 → (∀ p j : Nat, ¬ p = o + 1 → m p j = m0 p j) → (∀ i : Nat, i < k → m (o + 1) i = 0) → GX T 0 282 12 [(2, (o : Int)), (0, a), (0, b), (0, (k : Int))] [] m Q := by
  intro N
  induction N with
  | zero => intro k  m hN; exact absurd hN (Nat.not_lt_zero _)
  | succ N ih =>
    intro k  m hN hk i1 i2
    have ho0 := ho.1
    refine gx_st (L' := [(2, (o : Int)), (0, a), (0, b), (0, (k : Int))]) (S' := [(0, (k : Int))]) r_282_12 rfl rfl rfl ?_
    refine gx_st (L' := [(2, (o : Int)), (0, a), (0, b), (0, (k : Int))]) (S' := [(2, (o : Int)), (0, (k : Int))]) r_282_13 rfl rfl rfl ?_
    refine gx_gf (x := (o : Int) + 1) 2 r_282_14 (rfl) (tsl_0 ho) ⟨by omega, rfl, by decide, by decide⟩ rfl (fun _ => by omega) (((i1 o 0 (by omega)).trans hr)) ?_
    refine gx_al r_282_17 (by omega) (tsl_1 ho) ⟨by decide, by decide, by decide⟩ ?_
    show GX T 0 282 18 [(2, (o : Int)), (0, a), (0, b), (0, (k : Int))] [(0, 60), (0, (k : Int))] m Q
    refine gx_ic (P := 60 ≤ (k : Int)) r_282_18 (rfl) (fun h18 => ?_) (fun h18 => ?_)
    · exact gx_rt r_282_34 rfl rfl (hQ m (by rw [show k = 60 by omega] at i2; exact i2) i1)
    · refine gx_st (L' := [(2, (o : Int)), (0, a), (0, b), (0, (k : Int))]) (S' := [(2, (o : Int))]) r_282_21 rfl rfl rfl ?_
      refine gx_gf (x := (o : Int) + 1) 2 r_282_22 (rfl) (tsl_0 ho) ⟨by omega, rfl, by decide, by decide⟩ rfl (fun _ => by omega) (((i1 o 0 (by omega)).trans hr)) ?_
      refine gx_st (L' := [(2, (o : Int)), (0, a), (0, b), (0, (k : Int))]) (S' := [(0, (k : Int)), (2, (o : Int) + 1)]) r_282_25 rfl rfl rfl ?_
      refine gx_st (L' := [(2, (o : Int)), (0, a), (0, b), (0, (k : Int))]) (S' := [(1, 0), (0, (k : Int)), (2, (o : Int) + 1)]) r_282_26 rfl rfl rfl ?_
      obtain ⟨m1, e_m1⟩ : ∃ z, z = nu_up m (o + 1) k 0 := ⟨_, rfl⟩
      refine gx_ls (n := k) (x := 0) r_282_27 (by omega) (by omega) (tsl_1 ho) (by omega) ⟨rfl, by omega⟩ e_m1.symm ?_
      refine gx_li (z := (k : Int) + 1) (L' := [(2, (o : Int)), (0, a), (0, b), (0, (k : Int) + 1)]) r_282_28 rfl (w32_eq (by omega) (by omega) (by omega)) rfl ?_
      refine gx_st (L' := [(2, (o : Int)), (0, a), (0, b), (0, (k : Int) + 1)]) (S' := []) r_282_31 rfl rfl rfl ?_
      rw [show (k : Int) + 1 = ((k + 1 : Nat) : Int) from rfl]
      refine ih (k + 1)  m1 (by omega) (by omega) (fun p j hp => by rw [e_m1, nu_no hp]; exact i1 p j hp) ?_
      · intro i hi
        rw [e_m1]
        by_cases e : i = k
        · rw [e, nu_at]
        · rw [nu_ne e]; exact i2 i (by omega)
theorem x_282 (hT : TT T) {o : Nat} (ho : SlT T o) (hr : SlR m o) (a b : Int) : GX T 0 282 0 [(2, (o : Int)), (0, a), (0, b), (9, 0)] [] m (RV (fun m1 => (∀ i : Nat, i < 60 → m1 (o + 1) i = 0) ∧ m1 o 1 = a ∧ m1 o 2 = b ∧ ∀ p j : Nat, ¬ p = o + 1 → ¬ (p = o ∧ (j = 1 ∨ j = 2)) → m1 p j = m p j)) := by
  have ho0 := ho.1
  refine gx_st (L' := [(2, (o : Int)), (0, a), (0, b), (9, 0)]) (S' := [(2, (o : Int))]) r_282_0 rfl rfl rfl ?_
  refine gx_st (L' := [(2, (o : Int)), (0, a), (0, b), (9, 0)]) (S' := [(0, a), (2, (o : Int))]) r_282_1 rfl rfl rfl ?_
  obtain ⟨m1, e_m1⟩ : ∃ z, z = nu_up m o 1 a := ⟨_, rfl⟩
  refine gx_pf (x := a) 0 r_282_2 (rfl) (tsl_0 ho) ⟨by omega, rfl, by decide, by decide⟩ rfl (fun z => absurd z (by decide)) (fun z => absurd z (by decide)) e_m1.symm ?_
  refine gx_st (L' := [(2, (o : Int)), (0, a), (0, b), (9, 0)]) (S' := [(2, (o : Int))]) r_282_5 rfl rfl rfl ?_
  refine gx_st (L' := [(2, (o : Int)), (0, a), (0, b), (9, 0)]) (S' := [(0, b), (2, (o : Int))]) r_282_6 rfl rfl rfl ?_
  obtain ⟨m2, e_m2⟩ : ∃ z, z = nu_up m1 o 2 b := ⟨_, rfl⟩
  refine gx_pf (x := b) 0 r_282_7 (rfl) (tsl_0 ho) ⟨by omega, rfl, by decide, by decide⟩ rfl (fun z => absurd z (by decide)) (fun z => absurd z (by decide)) e_m2.symm ?_
  refine gx_st (L' := [(2, (o : Int)), (0, a), (0, b), (9, 0)]) (S' := [(0, 0)]) r_282_10 rfl rfl rfl ?_
  refine gx_st (L' := [(2, (o : Int)), (0, a), (0, b), (0, 0)]) (S' := []) r_282_11 rfl rfl rfl ?_
  refine ren_l hT ho (m0 := m2) (by show m2 o 0 = _; rw [e_m2, nu_ne (by decide), e_m1, nu_ne (by decide)]; exact hr) (fun m9 h1 h2 => ⟨rfl, h1, ?_, ?_, ?_⟩) 61 0 m2 (by omega) (by omega) (fun _ _ _ => rfl) (fun i hi => absurd hi (Nat.not_lt_zero _))
  · rw [h2 o 1 (by omega), e_m2, nu_ne (by decide), e_m1, nu_at]
  · rw [h2 o 2 (by omega), e_m2, nu_at]
  · intro p j hp h
    rw [h2 p j hp, e_m2]
    by_cases e : p = o
    · subst e; rw [nu_ne (fun z => h ⟨rfl, Or.inr z⟩), e_m1, nu_ne (fun z => h ⟨rfl, Or.inl z⟩)]
    · rw [nu_no e, e_m1, nu_no e]
theorem sl_in : ∀ i : Nat, i < 4 → ([146, 148, 150, 152] : List Nat).contains (146 + 2 * i) = true ∧ pinF 145 i = 146 + 2 * i := by decide +kernel
theorem x_68 (hT : TT T) (hp : PinR m) (a w n : Int) : GX T 1 68 0 [(2, 1), (0, a), (0, w), (0, n)] [] m (RI (fun v m1 => ((¬ (0 ≤ a ∧ a < 4) ∨ ¬ (0 ≤ w ∧ w < 4) ∨ 60 < n) → v = -2 ∧ m1 = m) ∧ ((0 ≤ a ∧ a < 4) ∧ (0 ≤ w ∧ w < 4) ∧ n < 0 → v = -3 ∧ m1 = m) ∧ ∀ i : Nat, i < 4 → a = (i : Int) → (0 ≤ w ∧ w < 4) → 0 ≤ n → n ≤ 60 → v = 0 ∧ (∀ k : Nat, k < 60 → m1 (146 + 2 * i + 1) k = 0) ∧ m1 (146 + 2 * i) 1 = w ∧ m1 (146 + 2 * i) 2 = n ∧ ∀ p j : Nat, ¬ p = 146 + 2 * i + 1 → ¬ (p = 146 + 2 * i ∧ (j = 1 ∨ j = 2)) → m1 p j = m p j)) := by
  refine gx_st (L' := [(2, 1), (0, a), (0, w), (0, n)]) (S' := [(0, a)]) r_68_0 rfl rfl rfl ?_
  refine gx_st (L' := [(2, 1), (0, a), (0, w), (0, n)]) (S' := [(2, 1), (0, a)]) r_68_1 rfl rfl rfl ?_
  refine gx_gf (x := 145) 2 r_68_2 (rfl) (ty_1 hT) ⟨by decide, rfl, by decide, by decide⟩ rfl (fun _ => by omega) (pin_at hp (t := 145) rfl (by decide)) ?_
  refine gx_al r_68_5 (rfl) (ty_145 hT) ⟨by decide, by decide, by decide⟩ ?_
  show GX T 1 68 6 [(2, 1), (0, a), (0, w), (0, n)] [(0, 4), (0, a)] m (RI (fun v m1 => ((¬ (0 ≤ a ∧ a < 4) ∨ ¬ (0 ≤ w ∧ w < 4) ∨ 60 < n) → v = -2 ∧ m1 = m) ∧ ((0 ≤ a ∧ a < 4) ∧ (0 ≤ w ∧ w < 4) ∧ n < 0 → v = -3 ∧ m1 = m) ∧ ∀ i : Nat, i < 4 → a = (i : Int) → (0 ≤ w ∧ w < 4) → 0 ≤ n → n ≤ 60 → v = 0 ∧ (∀ k : Nat, k < 60 → m1 (146 + 2 * i + 1) k = 0) ∧ m1 (146 + 2 * i) 1 = w ∧ m1 (146 + 2 * i) 2 = n ∧ ∀ p j : Nat, ¬ p = 146 + 2 * i + 1 → ¬ (p = 146 + 2 * i ∧ (j = 1 ∨ j = 2)) → m1 p j = m p j))
  refine gx_ci (nx := 9) (S2 := []) (x_71 a 4) r_68_6 rfl rfl rfl rfl rfl rfl rfl (by decide) rfl (fun x6 n6 q6 => ?_)
  obtain rfl := q6.1.symm
  obtain rfl := q6.2.symm
  show GX T 1 68 9 [(2, 1), (0, a), (0, w), (0, n)] [(0, (if 0 ≤ a ∧ a < 4 then 1 else 0))] m (RI (fun v m1 => ((¬ (0 ≤ a ∧ a < 4) ∨ ¬ (0 ≤ w ∧ w < 4) ∨ 60 < n) → v = -2 ∧ m1 = m) ∧ ((0 ≤ a ∧ a < 4) ∧ (0 ≤ w ∧ w < 4) ∧ n < 0 → v = -3 ∧ m1 = m) ∧ ∀ i : Nat, i < 4 → a = (i : Int) → (0 ≤ w ∧ w < 4) → 0 ≤ n → n ≤ 60 → v = 0 ∧ (∀ k : Nat, k < 60 → m1 (146 + 2 * i + 1) k = 0) ∧ m1 (146 + 2 * i) 1 = w ∧ m1 (146 + 2 * i) 2 = n ∧ ∀ p j : Nat, ¬ p = 146 + 2 * i + 1 → ¬ (p = 146 + 2 * i ∧ (j = 1 ∨ j = 2)) → m1 p j = m p j))
  refine gx_i0 (P := ¬ (0 ≤ a ∧ a < 4)) r_68_9 (b01_eq) (fun h9 => ?_) (fun h9 => ?_)
  · refine gx_st (L' := [(2, 1), (0, a), (0, w), (0, n)]) (S' := [(0, (-2))]) r_68_26 rfl rfl rfl ?_
    exact gx_rt r_68_28 rfl rfl ⟨_, rfl, fun z => ⟨rfl, rfl⟩, fun z => by omega, fun i2 hi2 h2 _ _ _ => by omega⟩
  · have h9 := Decidable.not_not.mp h9
    refine gx_st (L' := [(2, 1), (0, a), (0, w), (0, n)]) (S' := [(0, w)]) r_68_12 rfl rfl rfl ?_
    refine gx_st (L' := [(2, 1), (0, a), (0, w), (0, n)]) (S' := [(0, 4), (0, w)]) r_68_13 rfl rfl rfl ?_
    refine gx_ci (nx := 17) (S2 := []) (x_71 w 4) r_68_14 rfl rfl rfl rfl rfl rfl rfl (by decide) rfl (fun x14 n14 q14 => ?_)
    obtain rfl := q14.1.symm
    obtain rfl := q14.2.symm
    show GX T 1 68 17 [(2, 1), (0, a), (0, w), (0, n)] [(0, (if 0 ≤ w ∧ w < 4 then 1 else 0))] m (RI (fun v m1 => ((¬ (0 ≤ a ∧ a < 4) ∨ ¬ (0 ≤ w ∧ w < 4) ∨ 60 < n) → v = -2 ∧ m1 = m) ∧ ((0 ≤ a ∧ a < 4) ∧ (0 ≤ w ∧ w < 4) ∧ n < 0 → v = -3 ∧ m1 = m) ∧ ∀ i : Nat, i < 4 → a = (i : Int) → (0 ≤ w ∧ w < 4) → 0 ≤ n → n ≤ 60 → v = 0 ∧ (∀ k : Nat, k < 60 → m1 (146 + 2 * i + 1) k = 0) ∧ m1 (146 + 2 * i) 1 = w ∧ m1 (146 + 2 * i) 2 = n ∧ ∀ p j : Nat, ¬ p = 146 + 2 * i + 1 → ¬ (p = 146 + 2 * i ∧ (j = 1 ∨ j = 2)) → m1 p j = m p j))
    refine gx_i0 (P := ¬ (0 ≤ w ∧ w < 4)) r_68_17 (b01_eq) (fun h17 => ?_) (fun h17 => ?_)
    · refine gx_st (L' := [(2, 1), (0, a), (0, w), (0, n)]) (S' := [(0, (-2))]) r_68_26 rfl rfl rfl ?_
      exact gx_rt r_68_28 rfl rfl ⟨_, rfl, fun z => ⟨rfl, rfl⟩, fun z => by omega, fun i2 hi2 h2 _ _ _ => by omega⟩
    · have h17 := Decidable.not_not.mp h17
      refine gx_st (L' := [(2, 1), (0, a), (0, w), (0, n)]) (S' := [(0, n)]) r_68_20 rfl rfl rfl ?_
      refine gx_st (L' := [(2, 1), (0, a), (0, w), (0, n)]) (S' := [(0, 60), (0, n)]) r_68_21 rfl rfl rfl ?_
      refine gx_ic (P := n ≤ 60) r_68_23 (rfl) (fun h23 => ?_) (fun h23 => ?_)
      · refine gx_st (L' := [(2, 1), (0, a), (0, w), (0, n)]) (S' := [(0, n)]) r_68_29 rfl rfl rfl ?_
        refine gx_i0 (P := 0 ≤ n) r_68_30 (rfl) (fun h30 => ?_) (fun h30 => ?_)
        · obtain ⟨ii, hia⟩ : ∃ i : Nat, a = (i : Int) := ⟨a.toNat, by omega⟩
          have hi : ii < 4 := by omega
          obtain ⟨o, h_o⟩ : ∃ o : Nat, o = 146 + 2 * ii := ⟨_, rfl⟩
          have ho : SlT T o := SlT_of hT (by rw [h_o]; exact (sl_in ii hi).1)
          have hr : SlR m o := SlR_of hp (by rw [h_o]; exact (sl_in ii hi).1)
          have ho0 := ho.1
          rw [hia]
          refine gx_st (L' := [(2, 1), (0, (ii : Int)), (0, w), (0, n)]) (S' := [(2, 1)]) r_68_36 rfl rfl rfl ?_
          refine gx_gf (x := 145) 2 r_68_37 (rfl) (ty_1 hT) ⟨by decide, rfl, by decide, by decide⟩ rfl (fun _ => by omega) (pin_at hp (t := 145) rfl (by decide)) ?_
          refine gx_st (L' := [(2, 1), (0, (ii : Int)), (0, w), (0, n)]) (S' := [(0, (ii : Int)), (2, 145)]) r_68_40 rfl rfl rfl ?_
          refine gx_aa (n := ii) (x := (o : Int)) r_68_41 (rfl) (by omega) (ty_145 hT) (by omega) ⟨by decide, by decide, by omega⟩ ((by rw [h_o]; exact pin_at hp (sl_in ii hi).2 (by omega))) (by omega) ?_
          refine gx_st (L' := [(2, 1), (0, (ii : Int)), (0, w), (0, n)]) (S' := [(0, w), (2, (o : Int))]) r_68_42 rfl rfl rfl ?_
          refine gx_st (L' := [(2, 1), (0, (ii : Int)), (0, w), (0, n)]) (S' := [(0, n), (0, w), (2, (o : Int))]) r_68_43 rfl rfl rfl ?_
          refine gx_cv (nx := 47) (S2 := []) (x_282 hT ho hr w n) r_68_44 rfl rfl rfl rfl rfl (rcv_v rfl (tsl_0 ho) (by omega) rfl (by decide)) rfl (by decide) rfl (fun n44 q44 => ?_)
          refine gx_st (L' := [(2, 1), (0, (ii : Int)), (0, w), (0, n)]) (S' := [(0, 0)]) r_68_47 rfl rfl rfl ?_
          exact gx_rt r_68_48 rfl rfl ⟨_, rfl, fun z => by omega, fun z => by omega, fun i2 hi2 h2 _ _ _ => ⟨rfl, by rw [show i2 = ii by omega, ← h_o]; exact q44⟩⟩
        · refine gx_st (L' := [(2, 1), (0, a), (0, w), (0, n)]) (S' := [(0, (-3))]) r_68_33 rfl rfl rfl ?_
          exact gx_rt r_68_35 rfl rfl ⟨_, rfl, fun z => by omega, fun z => ⟨rfl, rfl⟩, fun i2 hi2 h2 _ _ _ => by omega⟩
      · refine gx_st (L' := [(2, 1), (0, a), (0, w), (0, n)]) (S' := [(0, (-2))]) r_68_26 rfl rfl rfl ?_
        exact gx_rt r_68_28 rfl rfl ⟨_, rfl, fun z => ⟨rfl, rfl⟩, fun z => by omega, fun i2 hi2 h2 _ _ _ => by omega⟩
set_option maxRecDepth 100000 in
theorem cz_613 : conL[613]? = some (284, [(2, 74, 0), (0, (-2147483648), 2147483647), (1, (-9223372036854775808), 9223372036854775807)], (9, 0, 0), [75999], 1) := rfl
theorem pz_613 (hT : TT T) : ConH T (284, [(2, 74, 0), (0, (-2147483648), 2147483647), (1, (-9223372036854775808), 9223372036854775807)], (9, 0, 0), [75999], 1) := fun args m => ((all_con hT 613).1 (by decide)) _ cz_613 args m
theorem ty_sl : ∀ i : Nat, i < 4 → tyO (146 + 2 * i) = 74 := by decide +kernel
theorem gq_sl {o i : Nat} (hi : i < 4) (h : o = 146 + 2 * i) : gq0 (2, 74, 0) (2, (o : Int)) := (gq_2 rfl).mpr ⟨rfl, by show (0 : Int) < (o : Int); omega, by show (o : Int) < 213; omega, by
  show (tyO ((o : Int)).toNat : Int) = 74
  rw [show ((o : Int)).toNat = o from rfl, h, ty_sl i hi]
  rfl⟩
theorem x_69 (hT : TT T) (hm : Gam m) (hp : PinR m) (a b v : Int) (hb : -2147483648 ≤ b ∧ b ≤ 2147483647) (hv : in64 v) : GX T 3 69 0 [(2, 1), (0, a), (0, b), (1, v), (9, 0), (9, 0)] [] m (RI (fun v m1 => (¬ (0 ≤ a ∧ a < 4) → v = -2) ∧ (∀ i : Nat, i < 4 → a = (i : Int) → (m (146 + 2 * i) 2 = -1 → v = -6) ∧ (¬ m (146 + 2 * i) 2 = -1 → ¬ (0 ≤ b ∧ b < m (146 + 2 * i) 2) → v = -7) ∧ (¬ m (146 + 2 * i) 2 = -1 → (0 ≤ b ∧ b < m (146 + 2 * i) 2) → v = 0)) ∧ Fr [75999] m m1)) := by
  refine gx_st (L' := [(2, 1), (0, a), (0, b), (1, v), (9, 0), (9, 0)]) (S' := [(0, a)]) r_69_0 rfl rfl rfl ?_
  refine gx_st (L' := [(2, 1), (0, a), (0, b), (1, v), (9, 0), (9, 0)]) (S' := [(2, 1), (0, a)]) r_69_1 rfl rfl rfl ?_
  refine gx_gf (x := 145) 2 r_69_2 (rfl) (ty_1 hT) ⟨by decide, rfl, by decide, by decide⟩ rfl (fun _ => by omega) (pin_at hp (t := 145) rfl (by decide)) ?_
  refine gx_al r_69_5 (rfl) (ty_145 hT) ⟨by decide, by decide, by decide⟩ ?_
  show GX T 3 69 6 [(2, 1), (0, a), (0, b), (1, v), (9, 0), (9, 0)] [(0, 4), (0, a)] m (RI (fun v m1 => (¬ (0 ≤ a ∧ a < 4) → v = -2) ∧ (∀ i : Nat, i < 4 → a = (i : Int) → (m (146 + 2 * i) 2 = -1 → v = -6) ∧ (¬ m (146 + 2 * i) 2 = -1 → ¬ (0 ≤ b ∧ b < m (146 + 2 * i) 2) → v = -7) ∧ (¬ m (146 + 2 * i) 2 = -1 → (0 ≤ b ∧ b < m (146 + 2 * i) 2) → v = 0)) ∧ Fr [75999] m m1))
  refine gx_ci (nx := 9) (S2 := []) (x_71 a 4) r_69_6 rfl rfl rfl rfl rfl rfl rfl (by decide) rfl (fun x6 n6 q6 => ?_)
  obtain rfl := q6.1.symm
  obtain rfl := q6.2.symm
  show GX T 3 69 9 [(2, 1), (0, a), (0, b), (1, v), (9, 0), (9, 0)] [(0, (if 0 ≤ a ∧ a < 4 then 1 else 0))] m (RI (fun v m1 => (¬ (0 ≤ a ∧ a < 4) → v = -2) ∧ (∀ i : Nat, i < 4 → a = (i : Int) → (m (146 + 2 * i) 2 = -1 → v = -6) ∧ (¬ m (146 + 2 * i) 2 = -1 → ¬ (0 ≤ b ∧ b < m (146 + 2 * i) 2) → v = -7) ∧ (¬ m (146 + 2 * i) 2 = -1 → (0 ≤ b ∧ b < m (146 + 2 * i) 2) → v = 0)) ∧ Fr [75999] m m1))
  refine gx_i0 (P := 0 ≤ a ∧ a < 4) r_69_9 (b01_ne) (fun h9 => ?_) (fun h9 => ?_)
  · obtain ⟨ii, hia⟩ : ∃ i : Nat, a = (i : Int) := ⟨a.toNat, by omega⟩
    have hi : ii < 4 := by omega
    obtain ⟨o, h_o⟩ : ∃ o : Nat, o = 146 + 2 * ii := ⟨_, rfl⟩
    have ho : SlT T o := SlT_of hT (by rw [h_o]; exact (sl_in ii hi).1)
    have hr : SlR m o := SlR_of hp (by rw [h_o]; exact (sl_in ii hi).1)
    have ho0 := ho.1
    rw [hia]
    refine gx_st (L' := [(2, 1), (0, (ii : Int)), (0, b), (1, v), (9, 0), (9, 0)]) (S' := [(2, 1)]) r_69_15 rfl rfl rfl ?_
    refine gx_gf (x := 145) 2 r_69_16 (rfl) (ty_1 hT) ⟨by decide, rfl, by decide, by decide⟩ rfl (fun _ => by omega) (pin_at hp (t := 145) rfl (by decide)) ?_
    refine gx_st (L' := [(2, 1), (0, (ii : Int)), (0, b), (1, v), (9, 0), (9, 0)]) (S' := [(0, (ii : Int)), (2, 145)]) r_69_19 rfl rfl rfl ?_
    refine gx_aa (n := ii) (x := (o : Int)) r_69_20 (rfl) (by omega) (ty_145 hT) (by omega) ⟨by decide, by decide, by omega⟩ ((by rw [h_o]; exact pin_at hp (sl_in ii hi).2 (by omega))) (by omega) ?_
    refine gx_st (L' := [(2, 1), (0, (ii : Int)), (0, b), (1, v), (9, 0), (2, (o : Int))]) (S' := []) r_69_21 rfl rfl rfl ?_
    refine gx_st (L' := [(2, 1), (0, (ii : Int)), (0, b), (1, v), (9, 0), (2, (o : Int))]) (S' := [(2, (o : Int))]) r_69_23 rfl rfl rfl ?_
    obtain ⟨c, hc⟩ : ∃ z, z = m o 2 := ⟨_, rfl⟩
    have bc := so_2 hm (s := o) ⟨by omega, by omega, by rw [h_o]; exact ty_sl ii hi⟩
    rw [← hc] at bc
    refine gx_gf (x := c) 0 r_69_25 (rfl) (tsl_0 ho) ⟨by omega, rfl, by decide, by decide⟩ rfl (fun z => absurd z (by decide)) (hc.symm) ?_
    refine gx_st (L' := [(2, 1), (0, (ii : Int)), (0, b), (1, v), (9, 0), (2, (o : Int))]) (S' := [(0, (-1)), (0, c)]) r_69_28 rfl rfl rfl ?_
    refine gx_ic (P := ¬ c = (-1)) r_69_29 (rfl) (fun h29 => ?_) (fun h29 => ?_)
    · refine gx_st (L' := [(2, 1), (0, (ii : Int)), (0, b), (1, v), (9, 0), (2, (o : Int))]) (S' := [(0, b)]) r_69_35 rfl rfl rfl ?_
      refine gx_st (L' := [(2, 1), (0, (ii : Int)), (0, b), (1, v), (9, 0), (2, (o : Int))]) (S' := [(2, (o : Int)), (0, b)]) r_69_36 rfl rfl rfl ?_
      refine gx_gf (x := c) 0 r_69_38 (rfl) (tsl_0 ho) ⟨by omega, rfl, by decide, by decide⟩ rfl (fun z => absurd z (by decide)) (hc.symm) ?_
      refine gx_ci (nx := 44) (S2 := []) (x_71 b c) r_69_41 rfl rfl rfl rfl rfl rfl rfl (by decide) rfl (fun x41 n41 q41 => ?_)
      obtain rfl := q41.1.symm
      obtain rfl := q41.2.symm
      show GX T 3 69 44 [(2, 1), (0, (ii : Int)), (0, b), (1, v), (9, 0), (2, (o : Int))] [(0, (if 0 ≤ b ∧ b < c then 1 else 0))] m (RI (fun v m1 => (¬ (0 ≤ (ii : Int) ∧ (ii : Int) < 4) → v = -2) ∧ (∀ i : Nat, i < 4 → (ii : Int) = (i : Int) → (m (146 + 2 * i) 2 = -1 → v = -6) ∧ (¬ m (146 + 2 * i) 2 = -1 → ¬ (0 ≤ b ∧ b < m (146 + 2 * i) 2) → v = -7) ∧ (¬ m (146 + 2 * i) 2 = -1 → (0 ≤ b ∧ b < m (146 + 2 * i) 2) → v = 0)) ∧ Fr [75999] m m1))
      refine gx_i0 (P := 0 ≤ b ∧ b < c) r_69_44 (b01_ne) (fun h44 => ?_) (fun h44 => ?_)
      · refine gx_st (L' := [(2, 1), (0, (ii : Int)), (0, b), (1, v), (9, 0), (2, (o : Int))]) (S' := [(2, (o : Int))]) r_69_50 rfl rfl rfl ?_
        refine gx_st (L' := [(2, 1), (0, (ii : Int)), (0, b), (1, v), (9, 0), (2, (o : Int))]) (S' := [(0, b), (2, (o : Int))]) r_69_52 rfl rfl rfl ?_
        refine gx_st (L' := [(2, 1), (0, (ii : Int)), (0, b), (1, v), (9, 0), (2, (o : Int))]) (S' := [(1, v), (0, b), (2, (o : Int))]) r_69_53 rfl rfl rfl ?_
        refine gx_cv (nx := 57) (S2 := []) (gx_hv (args := [(2, (o : Int)), (0, b), (1, v)]) (pz_613 hT) ⟨gq_sl hi h_o, gq_any (by omega) (by omega), q64_ok hv, trivial⟩ hm rfl) r_69_54 rfl rfl rfl rfl rfl (rcv_v rfl (tsl_0 ho) (by omega) rfl (by decide)) rfl (by decide) rfl (fun n54 q54 => ?_)
        refine gx_st (L' := [(2, 1), (0, (ii : Int)), (0, b), (1, v), (9, 0), (2, (o : Int))]) (S' := [(0, 0)]) r_69_57 rfl rfl rfl ?_
        refine gx_rt r_69_58 rfl rfl ⟨_, rfl, fun z => by omega, fun i2 hi2 h2 => ?_, q54.2⟩
        have e : i2 = ii := by omega
        rw [e, ← h_o, ← hc]
        exact ⟨fun z => by omega, fun z1 z2 => by omega, fun z1 z2 => rfl⟩
      · refine gx_st (L' := [(2, 1), (0, (ii : Int)), (0, b), (1, v), (9, 0), (2, (o : Int))]) (S' := [(0, (-7))]) r_69_47 rfl rfl rfl ?_
        refine gx_rt r_69_49 rfl rfl ⟨_, rfl, fun z => by omega, fun i2 hi2 h2 => ?_, Fr_rf⟩
        have e : i2 = ii := by omega
        rw [e, ← h_o, ← hc]
        exact ⟨fun z => by omega, fun z1 z2 => rfl, fun z1 z2 => by omega⟩
    · have h29 := Decidable.not_not.mp h29
      refine gx_st (L' := [(2, 1), (0, (ii : Int)), (0, b), (1, v), (9, 0), (2, (o : Int))]) (S' := [(0, (-6))]) r_69_32 rfl rfl rfl ?_
      refine gx_rt r_69_34 rfl rfl ⟨_, rfl, fun z => by omega, fun i2 hi2 h2 => ?_, Fr_rf⟩
      have e : i2 = ii := by omega
      rw [e, ← h_o, ← hc]
      exact ⟨fun z => rfl, fun z1 z2 => by omega, fun z1 z2 => by omega⟩
  · refine gx_st (L' := [(2, 1), (0, a), (0, b), (1, v), (9, 0), (9, 0)]) (S' := [(0, (-2))]) r_69_12 rfl rfl rfl ?_
    exact gx_rt r_69_14 rfl rfl ⟨_, rfl, fun _ => rfl, fun i2 hi2 h2 => by omega, Fr_rf⟩
theorem ke_in : ∀ i : Nat, i < 3 → pinF 154 i = 156 + 12 * i ∧ pinF 155 i = 165 + 12 * i ∧ tyO (156 + 12 * i) = 78 ∧ tyO (165 + 12 * i) = 87 := by decide +kernel
theorem gq_o4 : gq0 (2, 4, 0) (2, 4) := (gq_2 rfl).mpr ⟨rfl, by decide, by decide, by decide⟩
theorem gq_o22 : gq0 (2, 22, 0) (2, 22) := (gq_2 rfl).mpr ⟨rfl, by decide, by decide, by decide⟩
theorem gq_ki {k ii : Nat} (hi : ii < 3) (h : k = 156 + 12 * ii) : gq0 (2, 78, 0) (2, (k : Int)) := (gq_2 rfl).mpr ⟨rfl, by show (0 : Int) < (k : Int); omega, by show (k : Int) < 213; omega, by
  show (tyO ((k : Int)).toNat : Int) = 78
  rw [show ((k : Int)).toNat = k from rfl, h, (ke_in ii hi).2.2.1]
  rfl⟩
theorem gq_ka {k ii : Nat} (hi : ii < 3) (h : k = 165 + 12 * ii) : gq0 (2, 87, 0) (2, (k : Int)) := (gq_2 rfl).mpr ⟨rfl, by show (0 : Int) < (k : Int); omega, by show (k : Int) < 213; omega, by
  show (tyO ((k : Int)).toNat : Int) = 87
  rw [show ((k : Int)).toNat = k from rfl, h, (ke_in ii hi).2.2.2]
  rfl⟩
theorem isl_in : ∀ i : Nat, i < 3 → ([4, 13, 156, 168, 180] : List Nat).contains (156 + 12 * i) = true ∧ ([22, 25, 165, 177, 189] : List Nat).contains (165 + 12 * i) = true := by decide +kernel
set_option maxRecDepth 100000 in
theorem cz_571 : conL[571]? = some (254, [(2, 78, 0), (2, 4, 0)], (9, 0, 0), [78000, 78001, 78002, 78003, 78004, 78005, 78006, 78007, 78008, 78009, 79999, 80999, 81999, 82999, 83999, 84999, 85999, 86999], 1) := rfl
theorem pz_571 (hT : TT T) : ConH T (254, [(2, 78, 0), (2, 4, 0)], (9, 0, 0), [78000, 78001, 78002, 78003, 78004, 78005, 78006, 78007, 78008, 78009, 79999, 80999, 81999, 82999, 83999, 84999, 85999, 86999], 1) := fun args m => ((all_con hT 571).1 (by decide)) _ cz_571 args m
set_option maxRecDepth 100000 in
theorem cz_574 : conL[574]? = some (236, [(2, 87, 0), (2, 22, 0)], (9, 0, 0), [87002, 88999, 89999], 1) := rfl
theorem pz_574 (hT : TT T) : ConH T (236, [(2, 87, 0), (2, 22, 0)], (9, 0, 0), [87002, 88999, 89999], 1) := fun args m => ((all_con hT 574).1 (by decide)) _ cz_574 args m
set_option maxRecDepth 100000 in
theorem cz_588 : conL[588]? = some (254, [(2, 4, 0), (2, 78, 0)], (9, 0, 0), [4000, 4001, 4002, 4003, 4004, 4005, 4006, 4007, 4008, 4009, 5999, 6999, 7999, 8999, 9999, 10999, 11999, 12999], 1) := rfl
theorem pz_588 (hT : TT T) : ConH T (254, [(2, 4, 0), (2, 78, 0)], (9, 0, 0), [4000, 4001, 4002, 4003, 4004, 4005, 4006, 4007, 4008, 4009, 5999, 6999, 7999, 8999, 9999, 10999, 11999, 12999], 1) := fun args m => ((all_con hT 588).1 (by decide)) _ cz_588 args m
set_option maxRecDepth 100000 in
theorem cz_591 : conL[591]? = some (236, [(2, 22, 0), (2, 87, 0)], (9, 0, 0), [22002, 23999, 24999], 1) := rfl
theorem pz_591 (hT : TT T) : ConH T (236, [(2, 22, 0), (2, 87, 0)], (9, 0, 0), [22002, 23999, 24999], 1) := fun args m => ((all_con hT 591).1 (by decide)) _ cz_591 args m
theorem x_66 (hT : TT T) (hm : Gam m) (hp : PinR m) {c : Int} (hc : m 1 14 = c) (a : Int) : GX T 2 66 0 [(2, 1), (0, a)] [] m (RI (fun v m1 => (¬ (0 ≤ a ∧ a < 3) → v = -2 ∧ m1 = m) ∧ ∀ i : Nat, i < 3 → a = (i : Int) → v = 0 ∧ m1 1 14 = ior c (ishl 1 (i : Int)))) := by
  refine gx_st (L' := [(2, 1), (0, a)]) (S' := [(0, a)]) r_66_0 rfl rfl rfl ?_
  refine gx_st (L' := [(2, 1), (0, a)]) (S' := [(2, 1), (0, a)]) r_66_1 rfl rfl rfl ?_
  refine gx_gf (x := 154) 2 r_66_2 (rfl) (ty_1 hT) ⟨by decide, rfl, by decide, by decide⟩ rfl (fun _ => by omega) (pin_at hp (t := 154) rfl (by decide)) ?_
  refine gx_al r_66_5 (rfl) (ty_154 hT) ⟨by decide, by decide, by decide⟩ ?_
  show GX T 2 66 6 [(2, 1), (0, a)] [(0, 3), (0, a)] m (RI (fun v m1 => (¬ (0 ≤ a ∧ a < 3) → v = -2 ∧ m1 = m) ∧ ∀ i : Nat, i < 3 → a = (i : Int) → v = 0 ∧ m1 1 14 = ior c (ishl 1 (i : Int))))
  refine gx_ci (nx := 9) (S2 := []) (x_71 a 3) r_66_6 rfl rfl rfl rfl rfl rfl rfl (by decide) rfl (fun x6 n6 q6 => ?_)
  obtain rfl := q6.1.symm
  obtain rfl := q6.2.symm
  show GX T 2 66 9 [(2, 1), (0, a)] [(0, (if 0 ≤ a ∧ a < 3 then 1 else 0))] m (RI (fun v m1 => (¬ (0 ≤ a ∧ a < 3) → v = -2 ∧ m1 = m) ∧ ∀ i : Nat, i < 3 → a = (i : Int) → v = 0 ∧ m1 1 14 = ior c (ishl 1 (i : Int))))
  refine gx_i0 (P := ¬ (0 ≤ a ∧ a < 3)) r_66_9 (b01_eq) (fun h9 => ?_) (fun h9 => ?_)
  · refine gx_st (L' := [(2, 1), (0, a)]) (S' := [(0, (-2))]) r_66_24 rfl rfl rfl ?_
    exact gx_rt r_66_26 rfl rfl ⟨_, rfl, fun _ => ⟨rfl, rfl⟩, fun i2 hi2 h2 => by omega⟩
  · have h9 := Decidable.not_not.mp h9
    refine gx_st (L' := [(2, 1), (0, a)]) (S' := [(0, a)]) r_66_12 rfl rfl rfl ?_
    refine gx_st (L' := [(2, 1), (0, a)]) (S' := [(2, 1), (0, a)]) r_66_13 rfl rfl rfl ?_
    refine gx_gf (x := 155) 2 r_66_14 (rfl) (ty_1 hT) ⟨by decide, rfl, by decide, by decide⟩ rfl (fun _ => by omega) (pin_at hp (t := 155) rfl (by decide)) ?_
    refine gx_al r_66_17 (rfl) (ty_155 hT) ⟨by decide, by decide, by decide⟩ ?_
    show GX T 2 66 18 [(2, 1), (0, a)] [(0, 3), (0, a)] m (RI (fun v m1 => (¬ (0 ≤ a ∧ a < 3) → v = -2 ∧ m1 = m) ∧ ∀ i : Nat, i < 3 → a = (i : Int) → v = 0 ∧ m1 1 14 = ior c (ishl 1 (i : Int))))
    refine gx_ci (nx := 21) (S2 := []) (x_71 a 3) r_66_18 rfl rfl rfl rfl rfl rfl rfl (by decide) rfl (fun x18 n18 q18 => ?_)
    obtain rfl := q18.1.symm
    obtain rfl := q18.2.symm
    show GX T 2 66 21 [(2, 1), (0, a)] [(0, (if 0 ≤ a ∧ a < 3 then 1 else 0))] m (RI (fun v m1 => (¬ (0 ≤ a ∧ a < 3) → v = -2 ∧ m1 = m) ∧ ∀ i : Nat, i < 3 → a = (i : Int) → v = 0 ∧ m1 1 14 = ior c (ishl 1 (i : Int))))
    refine gx_i0 (P := 0 ≤ a ∧ a < 3) r_66_21 (b01_ne) (fun h21 => ?_) (fun h21 => ?_)
    · obtain ⟨ii, hia⟩ : ∃ i : Nat, a = (i : Int) := ⟨a.toNat, by omega⟩
      have hi : ii < 3 := by omega
      obtain ⟨o, h_o⟩ : ∃ o : Nat, o = 156 + 12 * ii := ⟨_, rfl⟩
      obtain ⟨p, h_p⟩ : ∃ o : Nat, o = 165 + 12 * ii := ⟨_, rfl⟩
      have ho : IsleT T o := IsleT_of hT (by rw [h_o]; exact (isl_in ii hi).1)
      have hq : ActsT T p := ActsT_of hT (by rw [h_p]; exact (isl_in ii hi).2)
      have ho0 := ho.1
      have hq0 := hq.1
      rw [hia]
      refine gx_st (L' := [(2, 1), (0, (ii : Int))]) (S' := [(2, 1)]) r_66_27 rfl rfl rfl ?_
      refine gx_gf (x := 154) 2 r_66_28 (rfl) (ty_1 hT) ⟨by decide, rfl, by decide, by decide⟩ rfl (fun _ => by omega) (pin_at hp (t := 154) rfl (by decide)) ?_
      refine gx_st (L' := [(2, 1), (0, (ii : Int))]) (S' := [(0, (ii : Int)), (2, 154)]) r_66_31 rfl rfl rfl ?_
      refine gx_aa (n := ii) (x := (o : Int)) r_66_32 (rfl) (by omega) (ty_154 hT) (by omega) ⟨by decide, by decide, by omega⟩ ((by rw [h_o]; exact pin_at hp (ke_in ii hi).1 (by omega))) (by omega) ?_
      refine gx_st (L' := [(2, 1), (0, (ii : Int))]) (S' := [(2, 1), (2, (o : Int))]) r_66_33 rfl rfl rfl ?_
      refine gx_gf (x := 4) 2 r_66_34 (rfl) (ty_1 hT) ⟨by decide, rfl, by decide, by decide⟩ rfl (fun _ => by omega) (pin_at hp (t := 4) rfl (by decide)) ?_
      refine gx_cv (nx := 40) (S2 := []) (gx_hv (args := [(2, (o : Int)), (2, 4)]) (pz_571 hT) ⟨gq_ki hi h_o, gq_o4, trivial⟩ hm rfl) r_66_37 rfl rfl rfl rfl rfl (rcv_v rfl (tisle_0 ho) (by omega) rfl (by decide)) rfl (by decide) rfl (fun n37 q37 => ?_)
      have p_n37 : PinR n37 := PinR_fr q37.2 (by decide) hp
      have f_n37 : Fr [78000, 78001, 78002, 78003, 78004, 78005, 78006, 78007, 78008, 78009, 79999, 80999, 81999, 82999, 83999, 84999, 85999, 86999, 87002, 88999, 89999] m n37 := Fr_tr Fr_rf (Fr_sub q37.2 (by decide))
      refine gx_st (L' := [(2, 1), (0, (ii : Int))]) (S' := [(2, 1)]) r_66_40 rfl rfl rfl ?_
      refine gx_gf (x := 155) 2 r_66_41 (rfl) (ty_1 hT) ⟨by decide, rfl, by decide, by decide⟩ rfl (fun _ => by omega) (pin_at p_n37 (t := 155) rfl (by decide)) ?_
      refine gx_st (L' := [(2, 1), (0, (ii : Int))]) (S' := [(0, (ii : Int)), (2, 155)]) r_66_44 rfl rfl rfl ?_
      refine gx_aa (n := ii) (x := (p : Int)) r_66_45 (rfl) (by omega) (ty_155 hT) (by omega) ⟨by decide, by decide, by omega⟩ ((by rw [h_p]; exact pin_at p_n37 (ke_in ii hi).2.1 (by omega))) (by omega) ?_
      refine gx_st (L' := [(2, 1), (0, (ii : Int))]) (S' := [(2, 1), (2, (p : Int))]) r_66_46 rfl rfl rfl ?_
      refine gx_gf (x := 22) 2 r_66_47 (rfl) (ty_1 hT) ⟨by decide, rfl, by decide, by decide⟩ rfl (fun _ => by omega) (pin_at p_n37 (t := 22) rfl (by decide)) ?_
      refine gx_cv (nx := 53) (S2 := []) (gx_hv (args := [(2, (p : Int)), (2, 22)]) (pz_574 hT) ⟨gq_ka hi h_p, gq_o22, trivial⟩ q37.1 rfl) r_66_50 rfl rfl rfl rfl rfl (rcv_v rfl (tacts_0 hq) (by omega) rfl (by decide)) rfl (by decide) rfl (fun n50 q50 => ?_)
      have p_n50 : PinR n50 := PinR_fr q50.2 (by decide) p_n37
      have f_n50 : Fr [78000, 78001, 78002, 78003, 78004, 78005, 78006, 78007, 78008, 78009, 79999, 80999, 81999, 82999, 83999, 84999, 85999, 86999, 87002, 88999, 89999] m n50 := Fr_tr f_n37 (Fr_sub q50.2 (by decide))
      refine gx_st (L' := [(2, 1), (0, (ii : Int))]) (S' := [(2, 1)]) r_66_53 rfl rfl rfl ?_
      refine gx_st (L' := [(2, 1), (0, (ii : Int))]) (S' := [(2, 1), (2, 1)]) r_66_54 rfl rfl rfl ?_
      refine gx_gf (x := c) 0 r_66_55 (rfl) (ty_1 hT) ⟨by decide, rfl, by decide, by decide⟩ rfl (fun z => absurd z (by decide)) ((f_n50 1 14 rfl).trans hc) ?_
      refine gx_st (L' := [(2, 1), (0, (ii : Int))]) (S' := [(0, 1), (0, c), (2, 1)]) r_66_58 rfl rfl rfl ?_
      refine gx_st (L' := [(2, 1), (0, (ii : Int))]) (S' := [(0, (ii : Int)), (0, 1), (0, c), (2, 1)]) r_66_59 rfl rfl rfl ?_
      refine gx_st (L' := [(2, 1), (0, (ii : Int))]) (S' := [(0, (ishl 1 (ii : Int))), (0, c), (2, 1)]) r_66_60 rfl rfl rfl ?_
      refine gx_st (L' := [(2, 1), (0, (ii : Int))]) (S' := [(0, (ior c ((ishl 1 (ii : Int))))), (2, 1)]) r_66_61 rfl rfl rfl ?_
      obtain ⟨m1, e_m1⟩ : ∃ z, z = nu_up n50 1 14 ((ior c ((ishl 1 (ii : Int))))) := ⟨_, rfl⟩
      refine gx_pf (x := (ior c ((ishl 1 (ii : Int))))) 0 r_66_62 (rfl) (ty_1 hT) ⟨by decide, rfl, by decide, by decide⟩ rfl (fun z => absurd z (by decide)) (fun z => absurd z (by decide)) e_m1.symm ?_
      refine gx_st (L' := [(2, 1), (0, (ii : Int))]) (S' := [(0, 0)]) r_66_65 rfl rfl rfl ?_
      exact gx_rt r_66_66 rfl rfl ⟨_, rfl, fun z => by omega, fun i2 hi2 h2 => ⟨rfl, by rw [e_m1, nu_at, h2]⟩⟩
    · refine gx_st (L' := [(2, 1), (0, a)]) (S' := [(0, (-2))]) r_66_24 rfl rfl rfl ?_
      exact gx_rt r_66_26 rfl rfl ⟨_, rfl, fun _ => ⟨rfl, rfl⟩, fun i2 hi2 h2 => by omega⟩
theorem x_242 (x k : Int) : GX T 0 242 0 [(0, x), (0, k)] [] m (RI (fun v m1 => v = (if 0 ≤ k ∧ k < 32 ∧ iand (ishr x k) 1 = 1 then 1 else 0) ∧ m1 = m)) := by
  refine gx_st (L' := [(0, x), (0, k)]) (S' := [(0, k)]) r_242_0 rfl rfl rfl ?_
  refine gx_i0 (P := k < 0) r_242_1 (rfl) (fun h1 => ?_) (fun h1 => ?_)
  · refine gx_st (L' := [(0, x), (0, k)]) (S' := [(0, 0)]) r_242_23 rfl rfl rfl ?_
    exact gx_rt r_242_24 rfl rfl ⟨_, rfl, ⟨by rw [if_neg (by omega)], rfl⟩⟩
  · refine gx_st (L' := [(0, x), (0, k)]) (S' := [(0, k)]) r_242_4 rfl rfl rfl ?_
    refine gx_st (L' := [(0, x), (0, k)]) (S' := [(0, 32), (0, k)]) r_242_5 rfl rfl rfl ?_
    refine gx_ic (P := 32 ≤ k) r_242_7 (rfl) (fun h7 => ?_) (fun h7 => ?_)
    · refine gx_st (L' := [(0, x), (0, k)]) (S' := [(0, 0)]) r_242_23 rfl rfl rfl ?_
      exact gx_rt r_242_24 rfl rfl ⟨_, rfl, ⟨by rw [if_neg (by omega)], rfl⟩⟩
    · refine gx_st (L' := [(0, x), (0, k)]) (S' := [(0, x)]) r_242_10 rfl rfl rfl ?_
      refine gx_st (L' := [(0, x), (0, k)]) (S' := [(0, k), (0, x)]) r_242_11 rfl rfl rfl ?_
      refine gx_st (L' := [(0, x), (0, k)]) (S' := [(0, (ishr x k))]) r_242_12 rfl rfl rfl ?_
      refine gx_st (L' := [(0, x), (0, k)]) (S' := [(0, 1), (0, (ishr x k))]) r_242_13 rfl rfl rfl ?_
      refine gx_st (L' := [(0, x), (0, k)]) (S' := [(0, (iand (ishr x k) 1))]) r_242_14 rfl rfl rfl ?_
      refine gx_st (L' := [(0, x), (0, k)]) (S' := [(0, 1), (0, (iand (ishr x k) 1))]) r_242_15 rfl rfl rfl ?_
      refine gx_ic (P := ¬ (iand (ishr x k) 1) = 1) r_242_16 (rfl) (fun h16 => ?_) (fun h16 => ?_)
      · refine gx_st (L' := [(0, x), (0, k)]) (S' := [(0, 0)]) r_242_23 rfl rfl rfl ?_
        exact gx_rt r_242_24 rfl rfl ⟨_, rfl, ⟨by rw [if_neg (by omega)], rfl⟩⟩
      · have h16 := Decidable.not_not.mp h16
        refine gx_st (L' := [(0, x), (0, k)]) (S' := [(0, 1)]) r_242_19 rfl rfl rfl ?_
        refine gx_st (L' := [(0, x), (0, k)]) (S' := [(0, 1)]) r_242_20 rfl rfl rfl ?_
        exact gx_rt r_242_24 rfl rfl ⟨_, rfl, ⟨by rw [if_pos (by omega)], rfl⟩⟩
set_option maxRecDepth 100000 in
theorem cz_277 : conL[277]? = some (75, [(2, 1, 0)], (9, 0, 0), [1015, 28010, 28011, 28012, 28013, 29000, 29001, 29002, 29003, 29004, 29005, 29006, 29007, 30999, 31999, 32999, 33999, 34999, 35999, 36999, 37999, 38999, 39999, 40999], 5) := rfl
theorem pz_277 (hT : TT T) : ConH T (75, [(2, 1, 0)], (9, 0, 0), [1015, 28010, 28011, 28012, 28013, 29000, 29001, 29002, 29003, 29004, 29005, 29006, 29007, 30999, 31999, 32999, 33999, 34999, 35999, 36999, 37999, 38999, 39999, 40999], 5) := fun args m => ((all_con hT 277).1 (by decide)) _ cz_277 args m
theorem gq_o1x : gq0 (2, 1, 0) (2, 1) := (gq_2 rfl).mpr ⟨rfl, by decide, by decide, by decide⟩
theorem x_67 (hT : TT T) (hm : Gam m) (hp : PinR m) {c : Int} (hc : m 1 14 = c) (a : Int) : GX T 6 67 0 [(2, 1), (0, a)] [] m (RI (fun v m1 => (¬ (0 ≤ a ∧ a < 3) → v = -2) ∧ ∀ i : Nat, i < 3 → a = (i : Int) → (¬ iand (ishr c (i : Int)) 1 = 1 → v = -6) ∧ (iand (ishr c (i : Int)) 1 = 1 → v = 0))) := by
  refine gx_st (L' := [(2, 1), (0, a)]) (S' := [(0, a)]) r_67_0 rfl rfl rfl ?_
  refine gx_st (L' := [(2, 1), (0, a)]) (S' := [(2, 1), (0, a)]) r_67_1 rfl rfl rfl ?_
  refine gx_gf (x := 154) 2 r_67_2 (rfl) (ty_1 hT) ⟨by decide, rfl, by decide, by decide⟩ rfl (fun _ => by omega) (pin_at hp (t := 154) rfl (by decide)) ?_
  refine gx_al r_67_5 (rfl) (ty_154 hT) ⟨by decide, by decide, by decide⟩ ?_
  show GX T 6 67 6 [(2, 1), (0, a)] [(0, 3), (0, a)] m (RI (fun v m1 => (¬ (0 ≤ a ∧ a < 3) → v = -2) ∧ ∀ i : Nat, i < 3 → a = (i : Int) → (¬ iand (ishr c (i : Int)) 1 = 1 → v = -6) ∧ (iand (ishr c (i : Int)) 1 = 1 → v = 0)))
  refine gx_ci (nx := 9) (S2 := []) (x_71 a 3) r_67_6 rfl rfl rfl rfl rfl rfl rfl (by decide) rfl (fun x6 n6 q6 => ?_)
  obtain rfl := q6.1.symm
  obtain rfl := q6.2.symm
  show GX T 6 67 9 [(2, 1), (0, a)] [(0, (if 0 ≤ a ∧ a < 3 then 1 else 0))] m (RI (fun v m1 => (¬ (0 ≤ a ∧ a < 3) → v = -2) ∧ ∀ i : Nat, i < 3 → a = (i : Int) → (¬ iand (ishr c (i : Int)) 1 = 1 → v = -6) ∧ (iand (ishr c (i : Int)) 1 = 1 → v = 0)))
  refine gx_i0 (P := ¬ (0 ≤ a ∧ a < 3)) r_67_9 (b01_eq) (fun h9 => ?_) (fun h9 => ?_)
  · refine gx_st (L' := [(2, 1), (0, a)]) (S' := [(0, (-2))]) r_67_24 rfl rfl rfl ?_
    exact gx_rt r_67_26 rfl rfl ⟨_, rfl, fun _ => rfl, fun i2 hi2 h2 => by omega⟩
  · have h9 := Decidable.not_not.mp h9
    refine gx_st (L' := [(2, 1), (0, a)]) (S' := [(0, a)]) r_67_12 rfl rfl rfl ?_
    refine gx_st (L' := [(2, 1), (0, a)]) (S' := [(2, 1), (0, a)]) r_67_13 rfl rfl rfl ?_
    refine gx_gf (x := 155) 2 r_67_14 (rfl) (ty_1 hT) ⟨by decide, rfl, by decide, by decide⟩ rfl (fun _ => by omega) (pin_at hp (t := 155) rfl (by decide)) ?_
    refine gx_al r_67_17 (rfl) (ty_155 hT) ⟨by decide, by decide, by decide⟩ ?_
    show GX T 6 67 18 [(2, 1), (0, a)] [(0, 3), (0, a)] m (RI (fun v m1 => (¬ (0 ≤ a ∧ a < 3) → v = -2) ∧ ∀ i : Nat, i < 3 → a = (i : Int) → (¬ iand (ishr c (i : Int)) 1 = 1 → v = -6) ∧ (iand (ishr c (i : Int)) 1 = 1 → v = 0)))
    refine gx_ci (nx := 21) (S2 := []) (x_71 a 3) r_67_18 rfl rfl rfl rfl rfl rfl rfl (by decide) rfl (fun x18 n18 q18 => ?_)
    obtain rfl := q18.1.symm
    obtain rfl := q18.2.symm
    show GX T 6 67 21 [(2, 1), (0, a)] [(0, (if 0 ≤ a ∧ a < 3 then 1 else 0))] m (RI (fun v m1 => (¬ (0 ≤ a ∧ a < 3) → v = -2) ∧ ∀ i : Nat, i < 3 → a = (i : Int) → (¬ iand (ishr c (i : Int)) 1 = 1 → v = -6) ∧ (iand (ishr c (i : Int)) 1 = 1 → v = 0)))
    refine gx_i0 (P := 0 ≤ a ∧ a < 3) r_67_21 (b01_ne) (fun h21 => ?_) (fun h21 => ?_)
    · refine gx_st (L' := [(2, 1), (0, a)]) (S' := [(2, 1)]) r_67_27 rfl rfl rfl ?_
      refine gx_gf (x := c) 0 r_67_28 (rfl) (ty_1 hT) ⟨by decide, rfl, by decide, by decide⟩ rfl (fun z => absurd z (by decide)) (hc) ?_
      refine gx_st (L' := [(2, 1), (0, a)]) (S' := [(0, a), (0, c)]) r_67_31 rfl rfl rfl ?_
      refine gx_ci (nx := 35) (S2 := []) (x_242 c a) r_67_32 rfl rfl rfl rfl rfl rfl rfl (by decide) rfl (fun x32 n32 q32 => ?_)
      obtain rfl := q32.1.symm
      obtain rfl := q32.2.symm
      show GX T 6 67 35 [(2, 1), (0, a)] [(0, (if 0 ≤ a ∧ a < 32 ∧ iand (ishr c a) 1 = 1 then 1 else 0))] m (RI (fun v m1 => (¬ (0 ≤ a ∧ a < 3) → v = -2) ∧ ∀ i : Nat, i < 3 → a = (i : Int) → (¬ iand (ishr c (i : Int)) 1 = 1 → v = -6) ∧ (iand (ishr c (i : Int)) 1 = 1 → v = 0)))
      refine gx_i0 (P := 0 ≤ a ∧ a < 32 ∧ iand (ishr c a) 1 = 1) r_67_35 (b01_ne) (fun h35 => ?_) (fun h35 => ?_)
      · obtain ⟨ii, hia⟩ : ∃ i : Nat, a = (i : Int) := ⟨a.toNat, by omega⟩
        have hi : ii < 3 := by omega
        obtain ⟨o, h_o⟩ : ∃ o : Nat, o = 156 + 12 * ii := ⟨_, rfl⟩
        obtain ⟨p, h_p⟩ : ∃ o : Nat, o = 165 + 12 * ii := ⟨_, rfl⟩
        have ho : IsleT T o := IsleT_of hT (by rw [h_o]; exact (isl_in ii hi).1)
        have hq : ActsT T p := ActsT_of hT (by rw [h_p]; exact (isl_in ii hi).2)
        have ho0 := ho.1
        have hq0 := hq.1
        rw [hia]
        refine gx_st (L' := [(2, 1), (0, (ii : Int))]) (S' := [(2, 1)]) r_67_41 rfl rfl rfl ?_
        refine gx_gf (x := 4) 2 r_67_42 (rfl) (ty_1 hT) ⟨by decide, rfl, by decide, by decide⟩ rfl (fun _ => by omega) (pin_at hp (t := 4) rfl (by decide)) ?_
        refine gx_st (L' := [(2, 1), (0, (ii : Int))]) (S' := [(2, 1), (2, 4)]) r_67_45 rfl rfl rfl ?_
        refine gx_gf (x := 154) 2 r_67_46 (rfl) (ty_1 hT) ⟨by decide, rfl, by decide, by decide⟩ rfl (fun _ => by omega) (pin_at hp (t := 154) rfl (by decide)) ?_
        refine gx_st (L' := [(2, 1), (0, (ii : Int))]) (S' := [(0, (ii : Int)), (2, 154), (2, 4)]) r_67_49 rfl rfl rfl ?_
        refine gx_aa (n := ii) (x := (o : Int)) r_67_50 (rfl) (by omega) (ty_154 hT) (by omega) ⟨by decide, by decide, by omega⟩ ((by rw [h_o]; exact pin_at hp (ke_in ii hi).1 (by omega))) (by omega) ?_
        refine gx_cv (nx := 54) (S2 := []) (gx_hv (args := [(2, 4), (2, (o : Int))]) (pz_588 hT) ⟨gq_o4, gq_ki hi h_o, trivial⟩ hm rfl) r_67_51 rfl rfl rfl rfl rfl (rcv_v rfl (ty_4 hT) (by decide) rfl (by decide)) rfl (by decide) rfl (fun n51 q51 => ?_)
        have p_n51 : PinR n51 := PinR_fr q51.2 (by decide) hp
        refine gx_st (L' := [(2, 1), (0, (ii : Int))]) (S' := [(2, 1)]) r_67_54 rfl rfl rfl ?_
        refine gx_gf (x := 22) 2 r_67_55 (rfl) (ty_1 hT) ⟨by decide, rfl, by decide, by decide⟩ rfl (fun _ => by omega) (pin_at p_n51 (t := 22) rfl (by decide)) ?_
        refine gx_st (L' := [(2, 1), (0, (ii : Int))]) (S' := [(2, 1), (2, 22)]) r_67_58 rfl rfl rfl ?_
        refine gx_gf (x := 155) 2 r_67_59 (rfl) (ty_1 hT) ⟨by decide, rfl, by decide, by decide⟩ rfl (fun _ => by omega) (pin_at p_n51 (t := 155) rfl (by decide)) ?_
        refine gx_st (L' := [(2, 1), (0, (ii : Int))]) (S' := [(0, (ii : Int)), (2, 155), (2, 22)]) r_67_62 rfl rfl rfl ?_
        refine gx_aa (n := ii) (x := (p : Int)) r_67_63 (rfl) (by omega) (ty_155 hT) (by omega) ⟨by decide, by decide, by omega⟩ ((by rw [h_p]; exact pin_at p_n51 (ke_in ii hi).2.1 (by omega))) (by omega) ?_
        refine gx_cv (nx := 67) (S2 := []) (gx_hv (args := [(2, 22), (2, (p : Int))]) (pz_591 hT) ⟨gq_o22, gq_ka hi h_p, trivial⟩ q51.1 rfl) r_67_64 rfl rfl rfl rfl rfl (rcv_v rfl (ty_22 hT) (by decide) rfl (by decide)) rfl (by decide) rfl (fun n64 q64 => ?_)
        have p_n64 : PinR n64 := PinR_fr q64.2 (by decide) p_n51
        refine gx_st (L' := [(2, 1), (0, (ii : Int))]) (S' := [(2, 1)]) r_67_67 rfl rfl rfl ?_
        refine gx_cv (nx := 71) (S2 := []) (gx_hv (args := [(2, 1)]) (pz_277 hT) ⟨gq_o1x, trivial⟩ q64.1 rfl) r_67_68 rfl rfl rfl rfl rfl (rcv_v rfl (ty_1 hT) (by decide) rfl (by decide)) rfl (by decide) rfl (fun n68 q68 => ?_)
        refine gx_st (L' := [(2, 1), (0, (ii : Int))]) (S' := [(0, 0)]) r_67_71 rfl rfl rfl ?_
        exact gx_rt r_67_72 rfl rfl ⟨_, rfl, fun z => by omega, fun i2 hi2 h2 => ⟨fun z => absurd (by rw [← h2, ← hia]; exact h35.2.2) z, fun _ => rfl⟩⟩
      · refine gx_st (L' := [(2, 1), (0, a)]) (S' := [(0, (-6))]) r_67_38 rfl rfl rfl ?_
        exact gx_rt r_67_40 rfl rfl ⟨_, rfl, fun z => by omega, fun i2 hi2 h2 => ⟨fun _ => rfl, fun z => absurd ⟨by omega, by omega, by rw [h2]; exact z⟩ h35⟩⟩
    · refine gx_st (L' := [(2, 1), (0, a)]) (S' := [(0, (-2))]) r_67_24 rfl rfl rfl ?_
      exact gx_rt r_67_26 rfl rfl ⟨_, rfl, fun _ => rfl, fun i2 hi2 h2 => by omega⟩
theorem row_l (hT : TT T) {i : Nat} (hi : i < 4) {w n : Int} {m0 : Mm} (hp0 : PinR m0) {Q : AV → Mm → Prop} (hQ : ∀ m : Mm, (∀ k : Nat, k < 60 → m 211 (60 * i + k) = 0) → (∀ p j : Nat, ¬ (p = 211 ∧ 60 * i ≤ j ∧ j < 60 * i + 60) → m p j = m0 p j) → Q (0, 0) m) : ∀ (N k : Nat) (m : Mm), 60 - k < N → k ≤ 60 → (∀ p j : Nat, ¬ (p = 211 ∧ 60 * i ≤ j ∧ j < 60 * i + 60) → m p j = m0 p j) → (∀ j : Nat, j < k → m 211 (60 * i + j) = 0) → GX T 2 228 52 [(2, 192), (0, (i : Int)), (0, w), (0, n), (0, (k : Int))] [] m Q := by
  intro N
  induction N with
  | zero => intro k  m hN; exact absurd hN (Nat.not_lt_zero _)
  | succ N ih =>
    intro k  m hN hk i1 i2
    have hp : PinR m := fun o j hq => (i1 o j (fun z => hq (by rw [z.1]; exact pin_211 j))).trans (hp0 o j hq)
    refine gx_st (L' := [(2, 192), (0, (i : Int)), (0, w), (0, n), (0, (k : Int))]) (S' := [(0, (k : Int))]) r_228_52 rfl rfl rfl ?_
    refine gx_st (L' := [(2, 192), (0, (i : Int)), (0, w), (0, n), (0, (k : Int))]) (S' := [(0, 60), (0, (k : Int))]) r_228_54 rfl rfl rfl ?_
    refine gx_ic (P := 60 ≤ (k : Int)) r_228_56 (rfl) (fun h56 => ?_) (fun h56 => ?_)
    · refine gx_st (L' := [(2, 192), (0, (i : Int)), (0, w), (0, n), (0, (k : Int))]) (S' := [(0, 0)]) r_228_78 rfl rfl rfl ?_
      exact gx_rt r_228_79 rfl rfl (hQ m (by rw [show k = 60 by omega] at i2; exact i2) i1)
    · refine gx_st (L' := [(2, 192), (0, (i : Int)), (0, w), (0, n), (0, (k : Int))]) (S' := [(2, 192)]) r_228_59 rfl rfl rfl ?_
      refine gx_gf (x := 211) 2 r_228_60 (rfl) (ty_192 hT) ⟨by decide, rfl, by decide, by decide⟩ rfl (fun _ => by omega) (pin_at hp (t := 211) rfl (by decide)) ?_
      refine gx_st (L' := [(2, 192), (0, (i : Int)), (0, w), (0, n), (0, (k : Int))]) (S' := [(0, 60), (2, 211)]) r_228_63 rfl rfl rfl ?_
      refine gx_st (L' := [(2, 192), (0, (i : Int)), (0, w), (0, n), (0, (k : Int))]) (S' := [(0, (i : Int)), (0, 60), (2, 211)]) r_228_65 rfl rfl rfl ?_
      refine gx_ar (L' := [(2, 192), (0, (i : Int)), (0, w), (0, n), (0, (k : Int))]) (S' := [(2, 211)]) (t := 0) (e := w32 (60 * (i : Int))) (z := 60 * (i : Int)) r_228_66 rfl rfl rfl (w32_eq (by omega) (by omega) (by omega)) ?_
      refine gx_st (L' := [(2, 192), (0, (i : Int)), (0, w), (0, n), (0, (k : Int))]) (S' := [(0, (k : Int)), (0, 60 * (i : Int)), (2, 211)]) r_228_67 rfl rfl rfl ?_
      refine gx_ar (L' := [(2, 192), (0, (i : Int)), (0, w), (0, n), (0, (k : Int))]) (S' := [(2, 211)]) (t := 0) (e := w32 ((60 * (i : Int)) + (k : Int))) (z := 60 * (i : Int) + (k : Int)) r_228_69 rfl rfl rfl (w32_eq (by omega) (by omega) (by omega)) ?_
      refine gx_st (L' := [(2, 192), (0, (i : Int)), (0, w), (0, n), (0, (k : Int))]) (S' := [(1, 0), (0, 60 * (i : Int) + (k : Int)), (2, 211)]) r_228_70 rfl rfl rfl ?_
      obtain ⟨m1, e_m1⟩ : ∃ z, z = nu_up m 211 (60 * i + k) 0 := ⟨_, rfl⟩
      refine gx_ls (n := 60 * i + k) (x := 0) r_228_71 (rfl) (by omega) (ty_211 hT) (by omega) ⟨rfl, by omega⟩ e_m1.symm ?_
      refine gx_li (z := (k : Int) + 1) (L' := [(2, 192), (0, (i : Int)), (0, w), (0, n), (0, (k : Int) + 1)]) r_228_72 rfl (w32_eq (by omega) (by omega) (by omega)) rfl ?_
      refine gx_st (L' := [(2, 192), (0, (i : Int)), (0, w), (0, n), (0, (k : Int) + 1)]) (S' := []) r_228_75 rfl rfl rfl ?_
      rw [show (k : Int) + 1 = ((k + 1 : Nat) : Int) from rfl]
      refine ih (k + 1)  m1 (by omega) (by omega) ?_ ?_
      · intro p j hpj
        rw [e_m1]
        by_cases e : p = 211
        · subst e; rw [nu_ne (by omega)]; exact i1 211 j hpj
        · rw [nu_no e]; exact i1 p j hpj
      · intro j hj
        rw [e_m1]
        by_cases e : j = k
        · rw [e, nu_at]
        · rw [nu_ne (by omega)]; exact i2 j (by omega)
theorem x_228 (hT : TT T) (hp : PinR m) (a w n : Int) : GX T 2 228 0 [(2, 192), (0, a), (0, w), (0, n), (9, 0)] [] m (RI (fun v m1 => ((¬ (0 ≤ a ∧ a < 4) ∨ ¬ (0 ≤ w ∧ w < 4) ∨ 60 < n) → v = -2 ∧ m1 = m) ∧ ((0 ≤ a ∧ a < 4) ∧ (0 ≤ w ∧ w < 4) ∧ n < 0 → v = -3 ∧ m1 = m) ∧ ∀ i : Nat, i < 4 → a = (i : Int) → (0 ≤ w ∧ w < 4) → 0 ≤ n → n ≤ 60 → v = 0 ∧ (∀ k : Nat, k < 60 → m1 211 (60 * i + k) = 0) ∧ m1 209 i = n ∧ m1 210 i = w ∧ ∀ p j : Nat, ¬ (p = 211 ∧ 60 * i ≤ j ∧ j < 60 * i + 60) → ¬ ((p = 209 ∨ p = 210) ∧ j = i) → m1 p j = m p j)) := by
  refine gx_st (L' := [(2, 192), (0, a), (0, w), (0, n), (9, 0)]) (S' := [(0, a)]) r_228_0 rfl rfl rfl ?_
  refine gx_ci (nx := 4) (S2 := []) (x_226 a) r_228_1 rfl rfl rfl rfl rfl rfl rfl (by decide) rfl (fun x1 n1 q1 => ?_)
  obtain rfl := q1.1.symm
  obtain rfl := q1.2.symm
  show GX T 2 228 4 [(2, 192), (0, a), (0, w), (0, n), (9, 0)] [(0, (if 0 ≤ a ∧ a ≤ 3 then 1 else 0))] m (RI (fun v m1 => ((¬ (0 ≤ a ∧ a < 4) ∨ ¬ (0 ≤ w ∧ w < 4) ∨ 60 < n) → v = -2 ∧ m1 = m) ∧ ((0 ≤ a ∧ a < 4) ∧ (0 ≤ w ∧ w < 4) ∧ n < 0 → v = -3 ∧ m1 = m) ∧ ∀ i : Nat, i < 4 → a = (i : Int) → (0 ≤ w ∧ w < 4) → 0 ≤ n → n ≤ 60 → v = 0 ∧ (∀ k : Nat, k < 60 → m1 211 (60 * i + k) = 0) ∧ m1 209 i = n ∧ m1 210 i = w ∧ ∀ p j : Nat, ¬ (p = 211 ∧ 60 * i ≤ j ∧ j < 60 * i + 60) → ¬ ((p = 209 ∨ p = 210) ∧ j = i) → m1 p j = m p j))
  refine gx_i0 (P := ¬ (0 ≤ a ∧ a ≤ 3)) r_228_4 (b01_eq) (fun h4 => ?_) (fun h4 => ?_)
  · refine gx_st (L' := [(2, 192), (0, a), (0, w), (0, n), (9, 0)]) (S' := [(0, (-2))]) r_228_25 rfl rfl rfl ?_
    exact gx_rt r_228_27 rfl rfl ⟨_, rfl, fun z => ⟨rfl, rfl⟩, fun z => by omega, fun i2 hi2 h2 _ _ _ => by omega⟩
  · have h4 := Decidable.not_not.mp h4
    refine gx_st (L' := [(2, 192), (0, a), (0, w), (0, n), (9, 0)]) (S' := [(0, w)]) r_228_7 rfl rfl rfl ?_
    refine gx_st (L' := [(2, 192), (0, a), (0, w), (0, n), (9, 0)]) (S' := [(1, w)]) r_228_8 rfl rfl rfl ?_
    refine gx_st (L' := [(2, 192), (0, a), (0, w), (0, n), (9, 0)]) (S' := [(1, 0), (1, w)]) r_228_9 rfl rfl rfl ?_
    refine gx_st (L' := [(2, 192), (0, a), (0, w), (0, n), (9, 0)]) (S' := [(1, 3), (1, 0), (1, w)]) r_228_10 rfl rfl rfl ?_
    refine gx_ci (nx := 16) (S2 := []) (x_86 w 0 3) r_228_13 rfl rfl rfl rfl rfl rfl rfl (by decide) rfl (fun x13 n13 q13 => ?_)
    obtain rfl := q13.1.symm
    obtain rfl := q13.2.symm
    show GX T 2 228 16 [(2, 192), (0, a), (0, w), (0, n), (9, 0)] [(0, (if 0 ≤ w ∧ w ≤ 3 then 1 else 0))] m (RI (fun v m1 => ((¬ (0 ≤ a ∧ a < 4) ∨ ¬ (0 ≤ w ∧ w < 4) ∨ 60 < n) → v = -2 ∧ m1 = m) ∧ ((0 ≤ a ∧ a < 4) ∧ (0 ≤ w ∧ w < 4) ∧ n < 0 → v = -3 ∧ m1 = m) ∧ ∀ i : Nat, i < 4 → a = (i : Int) → (0 ≤ w ∧ w < 4) → 0 ≤ n → n ≤ 60 → v = 0 ∧ (∀ k : Nat, k < 60 → m1 211 (60 * i + k) = 0) ∧ m1 209 i = n ∧ m1 210 i = w ∧ ∀ p j : Nat, ¬ (p = 211 ∧ 60 * i ≤ j ∧ j < 60 * i + 60) → ¬ ((p = 209 ∨ p = 210) ∧ j = i) → m1 p j = m p j))
    refine gx_i0 (P := ¬ (0 ≤ w ∧ w ≤ 3)) r_228_16 (b01_eq) (fun h16 => ?_) (fun h16 => ?_)
    · refine gx_st (L' := [(2, 192), (0, a), (0, w), (0, n), (9, 0)]) (S' := [(0, (-2))]) r_228_25 rfl rfl rfl ?_
      exact gx_rt r_228_27 rfl rfl ⟨_, rfl, fun z => ⟨rfl, rfl⟩, fun z => by omega, fun i2 hi2 h2 _ _ _ => by omega⟩
    · have h16 := Decidable.not_not.mp h16
      refine gx_st (L' := [(2, 192), (0, a), (0, w), (0, n), (9, 0)]) (S' := [(0, n)]) r_228_19 rfl rfl rfl ?_
      refine gx_st (L' := [(2, 192), (0, a), (0, w), (0, n), (9, 0)]) (S' := [(0, 60), (0, n)]) r_228_20 rfl rfl rfl ?_
      refine gx_ic (P := n ≤ 60) r_228_22 (rfl) (fun h22 => ?_) (fun h22 => ?_)
      · refine gx_st (L' := [(2, 192), (0, a), (0, w), (0, n), (9, 0)]) (S' := [(0, n)]) r_228_28 rfl rfl rfl ?_
        refine gx_i0 (P := 0 ≤ n) r_228_29 (rfl) (fun h29 => ?_) (fun h29 => ?_)
        · obtain ⟨ii, hia⟩ : ∃ i : Nat, a = (i : Int) := ⟨a.toNat, by omega⟩
          have hi : ii < 4 := by omega
          rw [hia]
          refine gx_st (L' := [(2, 192), (0, (ii : Int)), (0, w), (0, n), (9, 0)]) (S' := [(2, 192)]) r_228_35 rfl rfl rfl ?_
          refine gx_gf (x := 209) 2 r_228_36 (rfl) (ty_192 hT) ⟨by decide, rfl, by decide, by decide⟩ rfl (fun _ => by omega) (pin_at hp (t := 209) rfl (by decide)) ?_
          refine gx_st (L' := [(2, 192), (0, (ii : Int)), (0, w), (0, n), (9, 0)]) (S' := [(0, (ii : Int)), (2, 209)]) r_228_39 rfl rfl rfl ?_
          refine gx_st (L' := [(2, 192), (0, (ii : Int)), (0, w), (0, n), (9, 0)]) (S' := [(0, n), (0, (ii : Int)), (2, 209)]) r_228_40 rfl rfl rfl ?_
          obtain ⟨m1, e_m1⟩ : ∃ z, z = nu_up m 209 ii n := ⟨_, rfl⟩
          refine gx_is (n := ii) (x := n) r_228_41 (rfl) (by omega) (ty_209 hT) (by omega) ⟨rfl, by omega⟩ e_m1.symm ?_
          refine gx_st (L' := [(2, 192), (0, (ii : Int)), (0, w), (0, n), (9, 0)]) (S' := [(2, 192)]) r_228_42 rfl rfl rfl ?_
          refine gx_gf (x := 210) 2 r_228_43 (rfl) (ty_192 hT) ⟨by decide, rfl, by decide, by decide⟩ rfl (fun _ => by omega) (by rw [e_m1, nu_no (by decide)]; exact pin_at hp (t := 210) rfl (by decide)) ?_
          refine gx_st (L' := [(2, 192), (0, (ii : Int)), (0, w), (0, n), (9, 0)]) (S' := [(0, (ii : Int)), (2, 210)]) r_228_46 rfl rfl rfl ?_
          refine gx_st (L' := [(2, 192), (0, (ii : Int)), (0, w), (0, n), (9, 0)]) (S' := [(0, w), (0, (ii : Int)), (2, 210)]) r_228_47 rfl rfl rfl ?_
          obtain ⟨m2, e_m2⟩ : ∃ z, z = nu_up m1 210 ii w := ⟨_, rfl⟩
          refine gx_is (n := ii) (x := w) r_228_48 (rfl) (by omega) (ty_210 hT) (by omega) ⟨rfl, by omega⟩ e_m2.symm ?_
          refine gx_st (L' := [(2, 192), (0, (ii : Int)), (0, w), (0, n), (9, 0)]) (S' := [(0, 0)]) r_228_49 rfl rfl rfl ?_
          refine gx_st (L' := [(2, 192), (0, (ii : Int)), (0, w), (0, n), (0, 0)]) (S' := []) r_228_50 rfl rfl rfl ?_
          refine row_l hT hi (m0 := m2) (by rw [e_m2, e_m1]; exact PinR_up (PinR_up hp (pin_no (by decide) ii)) (pin_no (by decide) ii)) (fun m9 h1 h2 => ⟨_, rfl, fun z => by omega, fun z => by omega, fun i2 hi2 h3 _ _ _ => ⟨rfl, ?_⟩⟩) 61 0 m2 (by omega) (by omega) (fun _ _ _ => rfl) (fun j hj => absurd hj (Nat.not_lt_zero _))
          have e : i2 = ii := by omega
          rw [e]
          refine ⟨h1, ?_, ?_, fun p j a1 a2 => ?_⟩
          · rw [h2 209 ii (by omega), e_m2, nu_no (by decide), e_m1, nu_at]
          · rw [h2 210 ii (by omega), e_m2, nu_at]
          · rw [h2 p j a1, e_m2]
            by_cases y : p = 210
            · subst y; rw [nu_ne (fun z => a2 ⟨Or.inr rfl, z⟩), e_m1, nu_no (by decide)]
            · rw [nu_no y, e_m1]
              by_cases y2 : p = 209
              · subst y2; rw [nu_ne (fun z => a2 ⟨Or.inl rfl, z⟩)]
              · rw [nu_no y2]
        · refine gx_st (L' := [(2, 192), (0, a), (0, w), (0, n), (9, 0)]) (S' := [(0, (-3))]) r_228_32 rfl rfl rfl ?_
          exact gx_rt r_228_34 rfl rfl ⟨_, rfl, fun z => by omega, fun z => ⟨rfl, rfl⟩, fun i2 hi2 h2 _ _ _ => by omega⟩
      · refine gx_st (L' := [(2, 192), (0, a), (0, w), (0, n), (9, 0)]) (S' := [(0, (-2))]) r_228_25 rfl rfl rfl ?_
        exact gx_rt r_228_27 rfl rfl ⟨_, rfl, fun z => ⟨rfl, rfl⟩, fun z => by omega, fun i2 hi2 h2 _ _ _ => by omega⟩
set_option maxRecDepth 100000 in
theorem cz_1023 : conL[1023]? = some (227, [(1, (-9223372036854775808), 9223372036854775807), (0, 0, 3)], (1, (-9223372036854775808), 9223372036854775807), [], 0) := rfl
theorem pz_1023 (hT : TT T) : ConH T (227, [(1, (-9223372036854775808), 9223372036854775807), (0, 0, 3)], (1, (-9223372036854775808), 9223372036854775807), [], 0) := fun args m => ((all_con hT 1023).1 (by decide)) _ cz_1023 args m
theorem x_229 (hT : TT T) (hm : Gam m) (hp : PinR m) (a b v : Int) (hb : -2147483648 ≤ b ∧ b ≤ 2147483647) (hv : in64 v) : GX T 2 229 0 [(2, 192), (0, a), (0, b), (1, v), (9, 0)] [] m (RI (fun v m1 => (¬ (0 ≤ a ∧ a < 4) → v = -2) ∧ (∀ i : Nat, i < 4 → a = (i : Int) → (m 209 i = -1 → v = -6) ∧ (¬ m 209 i = -1 → ¬ (0 ≤ b ∧ b < m 209 i) → v = -7) ∧ (¬ m 209 i = -1 → (0 ≤ b ∧ b < m 209 i) → v = 0)) ∧ Fr [109999] m m1)) := by
  refine gx_st (L' := [(2, 192), (0, a), (0, b), (1, v), (9, 0)]) (S' := [(0, a)]) r_229_0 rfl rfl rfl ?_
  refine gx_ci (nx := 4) (S2 := []) (x_226 a) r_229_1 rfl rfl rfl rfl rfl rfl rfl (by decide) rfl (fun x1 n1 q1 => ?_)
  obtain rfl := q1.1.symm
  obtain rfl := q1.2.symm
  show GX T 2 229 4 [(2, 192), (0, a), (0, b), (1, v), (9, 0)] [(0, (if 0 ≤ a ∧ a ≤ 3 then 1 else 0))] m (RI (fun v m1 => (¬ (0 ≤ a ∧ a < 4) → v = -2) ∧ (∀ i : Nat, i < 4 → a = (i : Int) → (m 209 i = -1 → v = -6) ∧ (¬ m 209 i = -1 → ¬ (0 ≤ b ∧ b < m 209 i) → v = -7) ∧ (¬ m 209 i = -1 → (0 ≤ b ∧ b < m 209 i) → v = 0)) ∧ Fr [109999] m m1))
  refine gx_i0 (P := 0 ≤ a ∧ a ≤ 3) r_229_4 (b01_ne) (fun h4 => ?_) (fun h4 => ?_)
  · obtain ⟨ii, hia⟩ : ∃ i : Nat, a = (i : Int) := ⟨a.toNat, by omega⟩
    have hi : ii < 4 := by omega
    rw [hia]
    refine gx_st (L' := [(2, 192), (0, (ii : Int)), (0, b), (1, v), (9, 0)]) (S' := [(2, 192)]) r_229_10 rfl rfl rfl ?_
    refine gx_gf (x := 209) 2 r_229_11 (rfl) (ty_192 hT) ⟨by decide, rfl, by decide, by decide⟩ rfl (fun _ => by omega) (pin_at hp (t := 209) rfl (by decide)) ?_
    refine gx_st (L' := [(2, 192), (0, (ii : Int)), (0, b), (1, v), (9, 0)]) (S' := [(0, (ii : Int)), (2, 209)]) r_229_14 rfl rfl rfl ?_
    obtain ⟨c, hc⟩ : ∃ z, z = m 209 ii := ⟨_, rfl⟩
    have bc := gb_209 hm hi
    rw [← hc] at bc
    refine gx_ia (n := ii) (x := c) r_229_15 (rfl) (ty_209 hT) (by omega) ⟨rfl, by omega⟩ (hc.symm) ?_
    refine gx_st (L' := [(2, 192), (0, (ii : Int)), (0, b), (1, v), (9, 0)]) (S' := [(0, (-1)), (0, c)]) r_229_16 rfl rfl rfl ?_
    refine gx_ic (P := ¬ c = (-1)) r_229_17 (rfl) (fun h17 => ?_) (fun h17 => ?_)
    · refine gx_st (L' := [(2, 192), (0, (ii : Int)), (0, b), (1, v), (9, 0)]) (S' := [(0, b)]) r_229_23 rfl rfl rfl ?_
      refine gx_st (L' := [(2, 192), (0, (ii : Int)), (0, b), (1, v), (9, 0)]) (S' := [(1, b)]) r_229_24 rfl rfl rfl ?_
      refine gx_st (L' := [(2, 192), (0, (ii : Int)), (0, b), (1, v), (9, 0)]) (S' := [(1, 0), (1, b)]) r_229_25 rfl rfl rfl ?_
      refine gx_st (L' := [(2, 192), (0, (ii : Int)), (0, b), (1, v), (9, 0)]) (S' := [(2, 192), (1, 0), (1, b)]) r_229_26 rfl rfl rfl ?_
      refine gx_gf (x := 209) 2 r_229_27 (rfl) (ty_192 hT) ⟨by decide, rfl, by decide, by decide⟩ rfl (fun _ => by omega) (pin_at hp (t := 209) rfl (by decide)) ?_
      refine gx_st (L' := [(2, 192), (0, (ii : Int)), (0, b), (1, v), (9, 0)]) (S' := [(0, (ii : Int)), (2, 209), (1, 0), (1, b)]) r_229_30 rfl rfl rfl ?_
      refine gx_ia (n := ii) (x := c) r_229_31 (rfl) (ty_209 hT) (by omega) ⟨rfl, by omega⟩ (hc.symm) ?_
      refine gx_st (L' := [(2, 192), (0, (ii : Int)), (0, b), (1, v), (9, 0)]) (S' := [(0, 1), (0, c), (1, 0), (1, b)]) r_229_32 rfl rfl rfl ?_
      refine gx_ar (L' := [(2, 192), (0, (ii : Int)), (0, b), (1, v), (9, 0)]) (S' := [(1, 0), (1, b)]) (t := 0) (e := w32 (c - 1)) (z := c - 1) r_229_33 rfl rfl rfl (w32_eq (by omega) (by omega) (by omega)) ?_
      refine gx_st (L' := [(2, 192), (0, (ii : Int)), (0, b), (1, v), (9, 0)]) (S' := [(1, c - 1), (1, 0), (1, b)]) r_229_34 rfl rfl rfl ?_
      refine gx_ci (nx := 38) (S2 := []) (x_86 b 0 (c - 1)) r_229_35 rfl rfl rfl rfl rfl rfl rfl (by decide) rfl (fun x35 n35 q35 => ?_)
      obtain rfl := q35.1.symm
      obtain rfl := q35.2.symm
      show GX T 2 229 38 [(2, 192), (0, (ii : Int)), (0, b), (1, v), (9, 0)] [(0, (if 0 ≤ b ∧ b ≤ c - 1 then 1 else 0))] m (RI (fun v m1 => (¬ (0 ≤ (ii : Int) ∧ (ii : Int) < 4) → v = -2) ∧ (∀ i : Nat, i < 4 → (ii : Int) = (i : Int) → (m 209 i = -1 → v = -6) ∧ (¬ m 209 i = -1 → ¬ (0 ≤ b ∧ b < m 209 i) → v = -7) ∧ (¬ m 209 i = -1 → (0 ≤ b ∧ b < m 209 i) → v = 0)) ∧ Fr [109999] m m1))
      refine gx_i0 (P := 0 ≤ b ∧ b ≤ c - 1) r_229_38 (b01_ne) (fun h38 => ?_) (fun h38 => ?_)
      · obtain ⟨j, hj⟩ : ∃ j : Nat, b = (j : Int) := ⟨b.toNat, by omega⟩
        rw [hj]
        refine gx_st (L' := [(2, 192), (0, (ii : Int)), (0, (j : Int)), (1, v), (9, 0)]) (S' := [(2, 192)]) r_229_44 rfl rfl rfl ?_
        refine gx_gf (x := 211) 2 r_229_45 (rfl) (ty_192 hT) ⟨by decide, rfl, by decide, by decide⟩ rfl (fun _ => by omega) (pin_at hp (t := 211) rfl (by decide)) ?_
        refine gx_st (L' := [(2, 192), (0, (ii : Int)), (0, (j : Int)), (1, v), (9, 0)]) (S' := [(0, 60), (2, 211)]) r_229_48 rfl rfl rfl ?_
        refine gx_st (L' := [(2, 192), (0, (ii : Int)), (0, (j : Int)), (1, v), (9, 0)]) (S' := [(0, (ii : Int)), (0, 60), (2, 211)]) r_229_50 rfl rfl rfl ?_
        refine gx_ar (L' := [(2, 192), (0, (ii : Int)), (0, (j : Int)), (1, v), (9, 0)]) (S' := [(2, 211)]) (t := 0) (e := w32 (60 * (ii : Int))) (z := 60 * (ii : Int)) r_229_51 rfl rfl rfl (w32_eq (by omega) (by omega) (by omega)) ?_
        refine gx_st (L' := [(2, 192), (0, (ii : Int)), (0, (j : Int)), (1, v), (9, 0)]) (S' := [(0, (j : Int)), (0, 60 * (ii : Int)), (2, 211)]) r_229_52 rfl rfl rfl ?_
        refine gx_ar (L' := [(2, 192), (0, (ii : Int)), (0, (j : Int)), (1, v), (9, 0)]) (S' := [(2, 211)]) (t := 0) (e := w32 ((60 * (ii : Int)) + (j : Int))) (z := 60 * (ii : Int) + (j : Int)) r_229_53 rfl rfl rfl (w32_eq (by omega) (by omega) (by omega)) ?_
        refine gx_st (L' := [(2, 192), (0, (ii : Int)), (0, (j : Int)), (1, v), (9, 0)]) (S' := [(1, v), (0, 60 * (ii : Int) + (j : Int)), (2, 211)]) r_229_54 rfl rfl rfl ?_
        refine gx_st (L' := [(2, 192), (0, (ii : Int)), (0, (j : Int)), (1, v), (9, 0)]) (S' := [(2, 192), (1, v), (0, 60 * (ii : Int) + (j : Int)), (2, 211)]) r_229_55 rfl rfl rfl ?_
        refine gx_gf (x := 210) 2 r_229_56 (rfl) (ty_192 hT) ⟨by decide, rfl, by decide, by decide⟩ rfl (fun _ => by omega) (pin_at hp (t := 210) rfl (by decide)) ?_
        refine gx_st (L' := [(2, 192), (0, (ii : Int)), (0, (j : Int)), (1, v), (9, 0)]) (S' := [(0, (ii : Int)), (2, 210), (1, v), (0, 60 * (ii : Int) + (j : Int)), (2, 211)]) r_229_59 rfl rfl rfl ?_
        obtain ⟨x60, e_x60⟩ : ∃ z, z = m 210 ii := ⟨_, rfl⟩
        have b_x60 := gu_i (hm 210 (by decide) (by decide) (ii) (by show ii < 4; omega)) rfl
        rw [← e_x60] at b_x60
        refine gx_ia (n := ii) (x := x60) r_229_60 (rfl) (ty_210 hT) (by omega) ⟨rfl, by omega⟩ (e_x60.symm) ?_
        refine gx_cl (nx := 64) (S2 := [(0, 60 * (ii : Int) + (j : Int)), (2, 211)]) (gx_hl (args := [(1, v), (0, x60)]) (pz_1023 hT) ⟨q64_ok hv, gq_any (by omega) (by omega), trivial⟩ hm rfl) r_229_61 rfl rfl rfl rfl rfl rfl rfl (by decide) rfl (fun x61 n61 q61 => ?_)
        obtain rfl := (Fr_nil q61.2.2.2).symm
        show GX T 2 229 64 [(2, 192), (0, (ii : Int)), (0, (j : Int)), (1, v), (9, 0)] [(1, x61), (0, 60 * (ii : Int) + (j : Int)), (2, 211)] m (RI (fun v m1 => (¬ (0 ≤ (ii : Int) ∧ (ii : Int) < 4) → v = -2) ∧ (∀ i : Nat, i < 4 → (ii : Int) = (i : Int) → (m 209 i = -1 → v = -6) ∧ (¬ m 209 i = -1 → ¬ (0 ≤ (j : Int) ∧ (j : Int) < m 209 i) → v = -7) ∧ (¬ m 209 i = -1 → (0 ≤ (j : Int) ∧ (j : Int) < m 209 i) → v = 0)) ∧ Fr [109999] m m1))
        obtain ⟨m1, e_m1⟩ : ∃ z, z = nu_up m 211 (60 * ii + j) x61 := ⟨_, rfl⟩
        refine gx_ls (n := 60 * ii + j) (x := x61) r_229_64 (rfl) (by omega) (ty_211 hT) (by omega) ⟨rfl, by omega⟩ e_m1.symm ?_
        refine gx_st (L' := [(2, 192), (0, (ii : Int)), (0, (j : Int)), (1, v), (9, 0)]) (S' := [(0, 0)]) r_229_65 rfl rfl rfl ?_
        refine gx_rt r_229_66 rfl rfl ⟨_, rfl, fun z => by omega, fun i2 hi2 h2 => ?_, (by rw [e_m1]; exact Fr_ua rfl rfl)⟩
        have e : i2 = ii := by omega
        rw [e, ← hc]
        exact ⟨fun z => by omega, fun z1 z2 => by omega, fun z1 z2 => rfl⟩
      · refine gx_st (L' := [(2, 192), (0, (ii : Int)), (0, b), (1, v), (9, 0)]) (S' := [(0, (-7))]) r_229_41 rfl rfl rfl ?_
        refine gx_rt r_229_43 rfl rfl ⟨_, rfl, fun z => by omega, fun i2 hi2 h2 => ?_, Fr_rf⟩
        have e : i2 = ii := by omega
        rw [e, ← hc]
        exact ⟨fun z => by omega, fun z1 z2 => rfl, fun z1 z2 => by omega⟩
    · have h17 := Decidable.not_not.mp h17
      refine gx_st (L' := [(2, 192), (0, (ii : Int)), (0, b), (1, v), (9, 0)]) (S' := [(0, (-6))]) r_229_20 rfl rfl rfl ?_
      refine gx_rt r_229_22 rfl rfl ⟨_, rfl, fun z => by omega, fun i2 hi2 h2 => ?_, Fr_rf⟩
      have e : i2 = ii := by omega
      rw [e, ← hc]
      exact ⟨fun z => rfl, fun z1 z2 => by omega, fun z1 z2 => by omega⟩
  · refine gx_st (L' := [(2, 192), (0, a), (0, b), (1, v), (9, 0)]) (S' := [(0, (-2))]) r_229_7 rfl rfl rfl ?_
    exact gx_rt r_229_9 rfl rfl ⟨_, rfl, fun _ => rfl, fun i2 hi2 h2 => by omega, Fr_rf⟩
end SLOTS
