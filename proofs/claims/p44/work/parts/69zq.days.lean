/-! days drawn -/
theorem r_57_0 : row 57 0 = some (.aload_n 0, 1, 0, 0, 0, 0) := rfl
theorem r_57_1 : row 57 1 = some (.getfield 19, 4, 9, 1, 2, 2159) := rfl
theorem r_57_4 : row 57 4 = some (.invokevirtual 162, 7, 252, 0, 10, 4036) := rfl
theorem r_57_7 : row 57 7 = some (.ifCond .eq 22, 10, 29, 0, 0, 0) := rfl
theorem r_57_10 : row 57 10 = some (.iload_n 1, 11, 0, 0, 0, 0) := rfl
theorem r_57_11 : row 57 11 = some (.ifCond .lt 18, 14, 29, 0, 0, 0) := rfl
theorem r_57_14 : row 57 14 = some (.iload_n 1, 15, 0, 0, 0, 0) := rfl
theorem r_57_15 : row 57 15 = some (.ldc_w 324, 18, 2000000000, 0, 0, 5133) := rfl
theorem r_57_18 : row 57 18 = some (.if_icmp .gt 11, 21, 29, 0, 0, 0) := rfl
theorem r_57_21 : row 57 21 = some (.iload_n 2, 22, 0, 0, 0, 0) := rfl
theorem r_57_22 : row 57 22 = some (.iconst 3, 23, 3, 0, 0, 0) := rfl
theorem r_57_23 : row 57 23 = some (.invokestatic 126, 26, 71, 2, 0, 4020) := rfl
theorem r_57_26 : row 57 26 = some (.ifCond .ne 6, 29, 32, 0, 0, 0) := rfl
theorem r_57_29 : row 57 29 = some (.bipush (-2), 31, (-2), 0, 0, 0) := rfl
theorem r_57_31 : row 57 31 = some (.ireturn, 32, 0, 0, 0, 0) := rfl
theorem r_57_32 : row 57 32 = some (.aload_n 0, 33, 0, 0, 0, 0) := rfl
theorem r_57_33 : row 57 33 = some (.getfield 66, 36, 9, 10, 2, 2168) := rfl
theorem r_57_36 : row 57 36 = some (.aload_n 0, 37, 0, 0, 0, 0) := rfl
theorem r_57_37 : row 57 37 = some (.getfield 19, 40, 9, 1, 2, 2159) := rfl
theorem r_57_40 : row 57 40 = some (.aload_n 0, 41, 0, 0, 0, 0) := rfl
theorem r_57_41 : row 57 41 = some (.getfield 39, 44, 9, 5, 2, 2163) := rfl
theorem r_57_44 : row 57 44 = some (.iload_n 1, 45, 0, 0, 0, 0) := rfl
theorem r_57_45 : row 57 45 = some (.invokevirtual 325, 48, 244, 3, 10, 5134) := rfl
theorem r_57_48 : row 57 48 = some (.iload_n 2, 49, 0, 0, 0, 0) := rfl
theorem r_57_49 : row 57 49 = some (.ifCond .ne 11, 52, 60, 0, 0, 0) := rfl
theorem r_57_52 : row 57 52 = some (.aload_n 0, 53, 0, 0, 0, 0) := rfl
theorem r_57_53 : row 57 53 = some (.getfield 66, 56, 9, 10, 2, 2168) := rfl
theorem r_57_56 : row 57 56 = some (.getfield 329, 59, 1, 0, 10, 2122) := rfl
theorem r_57_59 : row 57 59 = some (.ireturn, 60, 0, 0, 0, 0) := rfl
theorem r_57_60 : row 57 60 = some (.iload_n 2, 61, 0, 0, 0, 0) := rfl
theorem r_57_61 : row 57 61 = some (.iconst 1, 62, 1, 0, 0, 0) := rfl
theorem r_57_62 : row 57 62 = some (.if_icmp .ne 13, 65, 75, 0, 0, 0) := rfl
theorem r_57_65 : row 57 65 = some (.aload_n 0, 66, 0, 0, 0, 0) := rfl
theorem r_57_66 : row 57 66 = some (.getfield 66, 69, 9, 10, 2, 2168) := rfl
theorem r_57_69 : row 57 69 = some (.getfield 330, 72, 1, 1, 10, 2124) := rfl
theorem r_57_72 : row 57 72 = some (.goto 10, 75, 82, 0, 0, 0) := rfl
theorem r_57_75 : row 57 75 = some (.aload_n 0, 76, 0, 0, 0, 0) := rfl
theorem r_57_76 : row 57 76 = some (.getfield 66, 79, 9, 10, 2, 2168) := rfl
theorem r_57_79 : row 57 79 = some (.getfield 333, 82, 1, 2, 10, 2126) := rfl
theorem r_57_82 : row 57 82 = some (.ireturn, 83, 0, 0, 0, 0) := rfl
theorem r_58_0 : row 58 0 = some (.aload_n 0, 1, 0, 0, 0, 0) := rfl
theorem r_58_1 : row 58 1 = some (.getfield 19, 4, 9, 1, 2, 2159) := rfl
theorem r_58_4 : row 58 4 = some (.invokevirtual 162, 7, 252, 0, 10, 4036) := rfl
theorem r_58_7 : row 58 7 = some (.ifCond .eq 25, 10, 32, 0, 0, 0) := rfl
theorem r_58_10 : row 58 10 = some (.iload_n 1, 11, 0, 0, 0, 0) := rfl
theorem r_58_11 : row 58 11 = some (.ifCond .lt 21, 14, 32, 0, 0, 0) := rfl
theorem r_58_14 : row 58 14 = some (.iload_n 1, 15, 0, 0, 0, 0) := rfl
theorem r_58_15 : row 58 15 = some (.ldc_w 324, 18, 2000000000, 0, 0, 5133) := rfl
theorem r_58_18 : row 58 18 = some (.if_icmp .gt 14, 21, 32, 0, 0, 0) := rfl
theorem r_58_21 : row 58 21 = some (.iload_n 2, 22, 0, 0, 0, 0) := rfl
theorem r_58_22 : row 58 22 = some (.iconst 1, 23, 1, 0, 0, 0) := rfl
theorem r_58_23 : row 58 23 = some (.if_icmp .lt 9, 26, 32, 0, 0, 0) := rfl
theorem r_58_26 : row 58 26 = some (.iload_n 2, 27, 0, 0, 0, 0) := rfl
theorem r_58_27 : row 58 27 = some (.bipush 20, 29, 20, 0, 0, 0) := rfl
theorem r_58_29 : row 58 29 = some (.if_icmp .le 6, 32, 35, 0, 0, 0) := rfl
theorem r_58_32 : row 58 32 = some (.bipush (-2), 34, (-2), 0, 0, 0) := rfl
theorem r_58_34 : row 58 34 = some (.ireturn, 35, 0, 0, 0, 0) := rfl
theorem r_58_35 : row 58 35 = some (.iconst 0, 36, 0, 0, 0, 0) := rfl
theorem r_58_36 : row 58 36 = some (.istore_n 3, 37, 0, 0, 0, 0) := rfl
theorem r_58_37 : row 58 37 = some (.iconst 0, 38, 0, 0, 0, 0) := rfl
theorem r_58_38 : row 58 38 = some (.istore 4, 40, 0, 0, 0, 0) := rfl
theorem r_58_40 : row 58 40 = some (.iload 4, 42, 0, 0, 0, 0) := rfl
theorem r_58_42 : row 58 42 = some (.iload_n 2, 43, 0, 0, 0, 0) := rfl
theorem r_58_43 : row 58 43 = some (.if_icmp .ge 38, 46, 81, 0, 0, 0) := rfl
theorem r_58_46 : row 58 46 = some (.aload_n 0, 47, 0, 0, 0, 0) := rfl
theorem r_58_47 : row 58 47 = some (.getfield 66, 50, 9, 10, 2, 2168) := rfl
theorem r_58_50 : row 58 50 = some (.aload_n 0, 51, 0, 0, 0, 0) := rfl
theorem r_58_51 : row 58 51 = some (.getfield 19, 54, 9, 1, 2, 2159) := rfl
theorem r_58_54 : row 58 54 = some (.aload_n 0, 55, 0, 0, 0, 0) := rfl
theorem r_58_55 : row 58 55 = some (.getfield 39, 58, 9, 5, 2, 2163) := rfl
theorem r_58_58 : row 58 58 = some (.iload_n 1, 59, 0, 0, 0, 0) := rfl
theorem r_58_59 : row 58 59 = some (.iload 4, 61, 0, 0, 0, 0) := rfl
theorem r_58_61 : row 58 61 = some (.iadd, 62, 0, 0, 0, 0) := rfl
theorem r_58_62 : row 58 62 = some (.invokevirtual 325, 65, 244, 3, 10, 5134) := rfl
theorem r_58_65 : row 58 65 = some (.iload_n 3, 66, 0, 0, 0, 0) := rfl
theorem r_58_66 : row 58 66 = some (.aload_n 0, 67, 0, 0, 0, 0) := rfl
theorem r_58_67 : row 58 67 = some (.getfield 66, 70, 9, 10, 2, 2168) := rfl
theorem r_58_70 : row 58 70 = some (.getfield 330, 73, 1, 1, 10, 2124) := rfl
theorem r_58_73 : row 58 73 = some (.iadd, 74, 0, 0, 0, 0) := rfl
theorem r_58_74 : row 58 74 = some (.istore_n 3, 75, 0, 0, 0, 0) := rfl
theorem r_58_75 : row 58 75 = some (.iinc 4 1, 78, 0, 0, 0, 0) := rfl
theorem r_58_78 : row 58 78 = some (.goto (-38), 81, 40, 0, 0, 0) := rfl
theorem r_58_81 : row 58 81 = some (.iload_n 3, 82, 0, 0, 0, 0) := rfl
theorem r_58_82 : row 58 82 = some (.ireturn, 83, 0, 0, 0, 0) := rfl
theorem r_220_0 : row 220 0 = some (.aload_n 0, 1, 0, 0, 0, 0) := rfl
theorem r_220_1 : row 220 1 = some (.invokevirtual 330, 4, 146, 0, 0, 7078) := rfl
theorem r_220_4 : row 220 4 = some (.pop, 5, 0, 0, 0, 0) := rfl
theorem r_220_5 : row 220 5 = some (.lload_n 1, 6, 0, 0, 0, 0) := rfl
theorem r_220_6 : row 220 6 = some (.lstore_n 3, 7, 0, 0, 0, 0) := rfl
theorem r_220_7 : row 220 7 = some (.aload_n 0, 8, 0, 0, 0, 0) := rfl
theorem r_220_8 : row 220 8 = some (.iconst 0, 9, 0, 0, 0, 0) := rfl
theorem r_220_9 : row 220 9 = some (.putfield 443, 12, 10, 36, 0, 6037) := rfl
theorem r_220_12 : row 220 12 = some (.iconst 0, 13, 0, 0, 0, 0) := rfl
theorem r_220_13 : row 220 13 = some (.istore 5, 15, 0, 0, 0, 0) := rfl
theorem r_220_15 : row 220 15 = some (.iload 5, 17, 0, 0, 0, 0) := rfl
theorem r_220_17 : row 220 17 = some (.aload_n 0, 18, 0, 0, 0, 0) := rfl
theorem r_220_18 : row 220 18 = some (.getfield 9, 21, 10, 1, 2, 6002) := rfl
theorem r_220_21 : row 220 21 = some (.iconst 1, 22, 1, 0, 0, 0) := rfl
theorem r_220_22 : row 220 22 = some (.iaload, 23, 0, 0, 0, 0) := rfl
theorem r_220_23 : row 220 23 = some (.if_icmp .ge 78, 26, 101, 0, 0, 0) := rfl
theorem r_220_26 : row 220 26 = some (.aload_n 0, 27, 0, 0, 0, 0) := rfl
theorem r_220_27 : row 220 27 = some (.getfield 40, 30, 10, 17, 2, 6018) := rfl
theorem r_220_30 : row 220 30 = some (.iload 5, 32, 0, 0, 0, 0) := rfl
theorem r_220_32 : row 220 32 = some (.iaload, 33, 0, 0, 0, 0) := rfl
theorem r_220_33 : row 220 33 = some (.iconst 2, 34, 2, 0, 0, 0) := rfl
theorem r_220_34 : row 220 34 = some (.if_icmp .eq 6, 37, 40, 0, 0, 0) := rfl
theorem r_220_37 : row 220 37 = some (.goto 58, 40, 95, 0, 0, 0) := rfl
theorem r_220_40 : row 220 40 = some (.ldc2_w 446, 43, 1103515245, 0, 0, 8223) := rfl
theorem r_220_43 : row 220 43 = some (.lload_n 3, 44, 0, 0, 0, 0) := rfl
theorem r_220_44 : row 220 44 = some (.lmul, 45, 0, 0, 0, 0) := rfl
theorem r_220_45 : row 220 45 = some (.ldc2_w 448, 48, 12345, 0, 0, 8224) := rfl
theorem r_220_48 : row 220 48 = some (.ladd, 49, 0, 0, 0, 0) := rfl
theorem r_220_49 : row 220 49 = some (.ldc2_w 450, 52, 2147483648, 0, 0, 8225) := rfl
theorem r_220_52 : row 220 52 = some (.lrem, 53, 0, 0, 0, 0) := rfl
theorem r_220_53 : row 220 53 = some (.lstore_n 3, 54, 0, 0, 0, 0) := rfl
theorem r_220_54 : row 220 54 = some (.aload_n 0, 55, 0, 0, 0, 0) := rfl
theorem r_220_55 : row 220 55 = some (.dup, 56, 0, 0, 0, 0) := rfl
theorem r_220_56 : row 220 56 = some (.getfield 443, 59, 10, 36, 0, 6037) := rfl
theorem r_220_59 : row 220 59 = some (.iconst 1, 60, 1, 0, 0, 0) := rfl
theorem r_220_60 : row 220 60 = some (.iadd, 61, 0, 0, 0, 0) := rfl
theorem r_220_61 : row 220 61 = some (.putfield 443, 64, 10, 36, 0, 6037) := rfl
theorem r_220_64 : row 220 64 = some (.lload_n 3, 65, 0, 0, 0, 0) := rfl
theorem r_220_65 : row 220 65 = some (.ldc2_w 452, 68, 65536, 0, 0, 8226) := rfl
theorem r_220_68 : row 220 68 = some (.ldiv, 69, 0, 0, 0, 0) := rfl
theorem r_220_69 : row 220 69 = some (.ldc2_w 424, 72, 10, 0, 0, 8165) := rfl
theorem r_220_72 : row 220 72 = some (.lrem, 73, 0, 0, 0, 0) := rfl
theorem r_220_73 : row 220 73 = some (.aload_n 0, 74, 0, 0, 0, 0) := rfl
theorem r_220_74 : row 220 74 = some (.getfield 9, 77, 10, 1, 2, 6002) := rfl
theorem r_220_77 : row 220 77 = some (.iconst 3, 78, 3, 0, 0, 0) := rfl
theorem r_220_78 : row 220 78 = some (.iaload, 79, 0, 0, 0, 0) := rfl
theorem r_220_79 : row 220 79 = some (.i2l, 80, 0, 0, 0, 0) := rfl
theorem r_220_80 : row 220 80 = some (.lcmp, 81, 0, 0, 0, 0) := rfl
theorem r_220_81 : row 220 81 = some (.ifCond .lt 6, 84, 87, 0, 0, 0) := rfl
theorem r_220_84 : row 220 84 = some (.goto 11, 87, 95, 0, 0, 0) := rfl
theorem r_220_87 : row 220 87 = some (.aload_n 0, 88, 0, 0, 0, 0) := rfl
theorem r_220_88 : row 220 88 = some (.iload 5, 90, 0, 0, 0, 0) := rfl
theorem r_220_90 : row 220 90 = some (.putfield 293, 93, 10, 21, 0, 6022) := rfl
theorem r_220_93 : row 220 93 = some (.iconst 1, 94, 1, 0, 0, 0) := rfl
theorem r_220_94 : row 220 94 = some (.ireturn, 95, 0, 0, 0, 0) := rfl
theorem r_220_95 : row 220 95 = some (.iinc 5 1, 98, 0, 0, 0, 0) := rfl
theorem r_220_98 : row 220 98 = some (.goto (-83), 101, 15, 0, 0, 0) := rfl
theorem r_220_101 : row 220 101 = some (.iconst 0, 102, 0, 0, 0, 0) := rfl
theorem r_220_102 : row 220 102 = some (.ireturn, 103, 0, 0, 0, 0) := rfl
theorem r_221_0 : row 221 0 = some (.iload_n 0, 1, 0, 0, 0, 0) := rfl
theorem r_221_1 : row 221 1 = some (.i2l, 2, 0, 0, 0, 0) := rfl
theorem r_221_2 : row 221 2 = some (.lconst 0, 3, 0, 0, 0, 0) := rfl
theorem r_221_3 : row 221 3 = some (.ldc2_w 454, 6, 2000000000, 0, 0, 8218) := rfl
theorem r_221_6 : row 221 6 = some (.invokestatic 82, 9, 86, 3, 0, 6131) := rfl
theorem r_221_9 : row 221 9 = some (.ireturn, 10, 0, 0, 0, 0) := rfl
theorem r_222_0 : row 222 0 = some (.aload_n 0, 1, 0, 0, 0, 0) := rfl
theorem r_222_1 : row 222 1 = some (.invokevirtual 86, 4, 90, 0, 0, 7025) := rfl
theorem r_222_4 : row 222 4 = some (.ifCond .eq 22, 7, 26, 0, 0, 0) := rfl
theorem r_222_7 : row 222 7 = some (.iload_n 1, 8, 0, 0, 0, 0) := rfl
theorem r_222_8 : row 222 8 = some (.invokestatic 456, 11, 221, 1, 0, 8215) := rfl
theorem r_222_11 : row 222 11 = some (.ifCond .eq 15, 14, 26, 0, 0, 0) := rfl
theorem r_222_14 : row 222 14 = some (.iload_n 2, 15, 0, 0, 0, 0) := rfl
theorem r_222_15 : row 222 15 = some (.i2l, 16, 0, 0, 0, 0) := rfl
theorem r_222_16 : row 222 16 = some (.lconst 0, 17, 0, 0, 0, 0) := rfl
theorem r_222_17 : row 222 17 = some (.ldc2_w 80, 20, 2, 0, 0, 6130) := rfl
theorem r_222_20 : row 222 20 = some (.invokestatic 82, 23, 86, 3, 0, 6131) := rfl
theorem r_222_23 : row 222 23 = some (.ifCond .ne 6, 26, 29, 0, 0, 0) := rfl
theorem r_222_26 : row 222 26 = some (.bipush (-2), 28, (-2), 0, 0, 0) := rfl
theorem r_222_28 : row 222 28 = some (.ireturn, 29, 0, 0, 0, 0) := rfl
theorem r_222_29 : row 222 29 = some (.aload_n 0, 30, 0, 0, 0, 0) := rfl
theorem r_222_30 : row 222 30 = some (.iload_n 1, 31, 0, 0, 0, 0) := rfl
theorem r_222_31 : row 222 31 = some (.i2l, 32, 0, 0, 0, 0) := rfl
theorem r_222_32 : row 222 32 = some (.invokevirtual 459, 35, 220, 1, 0, 8219) := rfl
theorem r_222_35 : row 222 35 = some (.istore_n 3, 36, 0, 0, 0, 0) := rfl
theorem r_222_36 : row 222 36 = some (.iload_n 2, 37, 0, 0, 0, 0) := rfl
theorem r_222_37 : row 222 37 = some (.ifCond .ne 10, 40, 47, 0, 0, 0) := rfl
theorem r_222_40 : row 222 40 = some (.aload_n 0, 41, 0, 0, 0, 0) := rfl
theorem r_222_41 : row 222 41 = some (.getfield 293, 44, 10, 21, 0, 6022) := rfl
theorem r_222_44 : row 222 44 = some (.goto 24, 47, 68, 0, 0, 0) := rfl
theorem r_222_47 : row 222 47 = some (.iload_n 2, 48, 0, 0, 0, 0) := rfl
theorem r_222_48 : row 222 48 = some (.iconst 2, 49, 2, 0, 0, 0) := rfl
theorem r_222_49 : row 222 49 = some (.if_icmp .ne 10, 52, 59, 0, 0, 0) := rfl
theorem r_222_52 : row 222 52 = some (.aload_n 0, 53, 0, 0, 0, 0) := rfl
theorem r_222_53 : row 222 53 = some (.getfield 443, 56, 10, 36, 0, 6037) := rfl
theorem r_222_56 : row 222 56 = some (.goto 12, 59, 68, 0, 0, 0) := rfl
theorem r_222_59 : row 222 59 = some (.iload_n 3, 60, 0, 0, 0, 0) := rfl
theorem r_222_60 : row 222 60 = some (.ifCond .eq 7, 63, 67, 0, 0, 0) := rfl
theorem r_222_63 : row 222 63 = some (.iconst 1, 64, 1, 0, 0, 0) := rfl
theorem r_222_64 : row 222 64 = some (.goto 4, 67, 68, 0, 0, 0) := rfl
theorem r_222_67 : row 222 67 = some (.iconst 0, 68, 0, 0, 0, 0) := rfl
theorem r_222_68 : row 222 68 = some (.ireturn, 69, 0, 0, 0, 0) := rfl
theorem r_223_0 : row 223 0 = some (.aload_n 0, 1, 0, 0, 0, 0) := rfl
theorem r_223_1 : row 223 1 = some (.invokevirtual 86, 4, 90, 0, 0, 7025) := rfl
theorem r_223_4 : row 223 4 = some (.ifCond .eq 22, 7, 26, 0, 0, 0) := rfl
theorem r_223_7 : row 223 7 = some (.iload_n 1, 8, 0, 0, 0, 0) := rfl
theorem r_223_8 : row 223 8 = some (.invokestatic 456, 11, 221, 1, 0, 8215) := rfl
theorem r_223_11 : row 223 11 = some (.ifCond .eq 15, 14, 26, 0, 0, 0) := rfl
theorem r_223_14 : row 223 14 = some (.iload_n 2, 15, 0, 0, 0, 0) := rfl
theorem r_223_15 : row 223 15 = some (.i2l, 16, 0, 0, 0, 0) := rfl
theorem r_223_16 : row 223 16 = some (.lconst 1, 17, 1, 0, 0, 0) := rfl
theorem r_223_17 : row 223 17 = some (.ldc2_w 462, 20, 20, 0, 0, 8231) := rfl
theorem r_223_20 : row 223 20 = some (.invokestatic 82, 23, 86, 3, 0, 6131) := rfl
theorem r_223_23 : row 223 23 = some (.ifCond .ne 6, 26, 29, 0, 0, 0) := rfl
theorem r_223_26 : row 223 26 = some (.bipush (-2), 28, (-2), 0, 0, 0) := rfl
theorem r_223_28 : row 223 28 = some (.ireturn, 29, 0, 0, 0, 0) := rfl
theorem r_223_29 : row 223 29 = some (.iconst 0, 30, 0, 0, 0, 0) := rfl
theorem r_223_30 : row 223 30 = some (.istore_n 3, 31, 0, 0, 0, 0) := rfl
theorem r_223_31 : row 223 31 = some (.iconst 0, 32, 0, 0, 0, 0) := rfl
theorem r_223_32 : row 223 32 = some (.istore 4, 34, 0, 0, 0, 0) := rfl
theorem r_223_34 : row 223 34 = some (.iload 4, 36, 0, 0, 0, 0) := rfl
theorem r_223_36 : row 223 36 = some (.iload_n 2, 37, 0, 0, 0, 0) := rfl
theorem r_223_37 : row 223 37 = some (.if_icmp .ge 30, 40, 67, 0, 0, 0) := rfl
theorem r_223_40 : row 223 40 = some (.iload_n 3, 41, 0, 0, 0, 0) := rfl
theorem r_223_41 : row 223 41 = some (.aload_n 0, 42, 0, 0, 0, 0) := rfl
theorem r_223_42 : row 223 42 = some (.iload_n 1, 43, 0, 0, 0, 0) := rfl
theorem r_223_43 : row 223 43 = some (.i2l, 44, 0, 0, 0, 0) := rfl
theorem r_223_44 : row 223 44 = some (.iload 4, 46, 0, 0, 0, 0) := rfl
theorem r_223_46 : row 223 46 = some (.i2l, 47, 0, 0, 0, 0) := rfl
theorem r_223_47 : row 223 47 = some (.ladd, 48, 0, 0, 0, 0) := rfl
theorem r_223_48 : row 223 48 = some (.invokevirtual 459, 51, 220, 1, 0, 8219) := rfl
theorem r_223_51 : row 223 51 = some (.ifCond .eq 7, 54, 58, 0, 0, 0) := rfl
theorem r_223_54 : row 223 54 = some (.iconst 1, 55, 1, 0, 0, 0) := rfl
theorem r_223_55 : row 223 55 = some (.goto 4, 58, 59, 0, 0, 0) := rfl
theorem r_223_58 : row 223 58 = some (.iconst 0, 59, 0, 0, 0, 0) := rfl
theorem r_223_59 : row 223 59 = some (.iadd, 60, 0, 0, 0, 0) := rfl
theorem r_223_60 : row 223 60 = some (.istore_n 3, 61, 0, 0, 0, 0) := rfl
theorem r_223_61 : row 223 61 = some (.iinc 4 1, 64, 0, 0, 0, 0) := rfl
theorem r_223_64 : row 223 64 = some (.goto (-30), 67, 34, 0, 0, 0) := rfl
theorem r_223_67 : row 223 67 = some (.iload_n 3, 68, 0, 0, 0, 0) := rfl
theorem r_223_68 : row 223 68 = some (.ireturn, 69, 0, 0, 0, 0) := rfl
theorem r_244_0 : row 244 0 = some (.iload_n 3, 1, 0, 0, 0, 0) := rfl
theorem r_244_1 : row 244 1 = some (.i2l, 2, 0, 0, 0, 0) := rfl
theorem r_244_2 : row 244 2 = some (.lstore 4, 4, 0, 0, 0, 0) := rfl
theorem r_244_4 : row 244 4 = some (.aload_n 0, 5, 0, 0, 0, 0) := rfl
theorem r_244_5 : row 244 5 = some (.aload_n 2, 6, 0, 0, 0, 0) := rfl
theorem r_244_6 : row 244 6 = some (.getfield 21, 9, 7, 11, 10, 2024) := rfl
theorem r_244_9 : row 244 9 = some (.putfield 9, 12, 1, 0, 0, 2121) := rfl
theorem r_244_12 : row 244 12 = some (.aload_n 0, 13, 0, 0, 0, 0) := rfl
theorem r_244_13 : row 244 13 = some (.iconst 0, 14, 0, 0, 0, 0) := rfl
theorem r_244_14 : row 244 14 = some (.putfield 15, 17, 1, 1, 0, 2123) := rfl
theorem r_244_17 : row 244 17 = some (.aload_n 0, 18, 0, 0, 0, 0) := rfl
theorem r_244_18 : row 244 18 = some (.iconst 0, 19, 0, 0, 0, 0) := rfl
theorem r_244_19 : row 244 19 = some (.putfield 18, 22, 1, 2, 0, 2125) := rfl
theorem r_244_22 : row 244 22 = some (.iconst 0, 23, 0, 0, 0, 0) := rfl
theorem r_244_23 : row 244 23 = some (.istore 6, 25, 0, 0, 0, 0) := rfl
theorem r_244_25 : row 244 25 = some (.iload 6, 27, 0, 0, 0, 0) := rfl
theorem r_244_27 : row 244 27 = some (.aload_n 1, 28, 0, 0, 0, 0) := rfl
theorem r_244_28 : row 244 28 = some (.getfield 24, 31, 3, 2, 10, 1075) := rfl
theorem r_244_31 : row 244 31 = some (.if_icmp .ge 85, 34, 116, 0, 0, 0) := rfl
theorem r_244_34 : row 244 34 = some (.aload_n 0, 35, 0, 0, 0, 0) := rfl
theorem r_244_35 : row 244 35 = some (.getfield 15, 38, 1, 1, 0, 2123) := rfl
theorem r_244_38 : row 244 38 = some (.ifCond .ne 78, 41, 116, 0, 0, 0) := rfl
theorem r_244_41 : row 244 41 = some (.aload_n 2, 42, 0, 0, 0, 0) := rfl
theorem r_244_42 : row 244 42 = some (.getfield 29, 45, 7, 6, 12, 2013) := rfl
theorem r_244_45 : row 244 45 = some (.iload 6, 47, 0, 0, 0, 0) := rfl
theorem r_244_47 : row 244 47 = some (.invokestatic 33, 50, 237, 2, 10, 5138) := rfl
theorem r_244_50 : row 244 50 = some (.iconst 2, 51, 2, 0, 0, 0) := rfl
theorem r_244_51 : row 244 51 = some (.if_icmp .ne 59, 54, 110, 0, 0, 0) := rfl
theorem r_244_54 : row 244 54 = some (.ldc2_w 39, 57, 1103515245, 0, 0, 5139) := rfl
theorem r_244_57 : row 244 57 = some (.lload 4, 59, 0, 0, 0, 0) := rfl
theorem r_244_59 : row 244 59 = some (.lmul, 60, 0, 0, 0, 0) := rfl
theorem r_244_60 : row 244 60 = some (.ldc2_w 41, 63, 12345, 0, 0, 5140) := rfl
theorem r_244_63 : row 244 63 = some (.ladd, 64, 0, 0, 0, 0) := rfl
theorem r_244_64 : row 244 64 = some (.ldc2_w 43, 67, 2147483647, 0, 0, 5141) := rfl
theorem r_244_67 : row 244 67 = some (.land, 68, 0, 0, 0, 0) := rfl
theorem r_244_68 : row 244 68 = some (.lstore 4, 70, 0, 0, 0, 0) := rfl
theorem r_244_70 : row 244 70 = some (.aload_n 0, 71, 0, 0, 0, 0) := rfl
theorem r_244_71 : row 244 71 = some (.dup, 72, 0, 0, 0, 0) := rfl
theorem r_244_72 : row 244 72 = some (.getfield 18, 75, 1, 2, 0, 2125) := rfl
theorem r_244_75 : row 244 75 = some (.iconst 1, 76, 1, 0, 0, 0) := rfl
theorem r_244_76 : row 244 76 = some (.iadd, 77, 0, 0, 0, 0) := rfl
theorem r_244_77 : row 244 77 = some (.putfield 18, 80, 1, 2, 0, 2125) := rfl
theorem r_244_80 : row 244 80 = some (.lload 4, 82, 0, 0, 0, 0) := rfl
theorem r_244_82 : row 244 82 = some (.ldc2_w 45, 85, 65536, 0, 0, 5142) := rfl
theorem r_244_85 : row 244 85 = some (.ldiv, 86, 0, 0, 0, 0) := rfl
theorem r_244_86 : row 244 86 = some (.ldc2_w 47, 89, 10, 0, 0, 5143) := rfl
theorem r_244_89 : row 244 89 = some (.lrem, 90, 0, 0, 0, 0) := rfl
theorem r_244_90 : row 244 90 = some (.aload_n 1, 91, 0, 0, 0, 0) := rfl
theorem r_244_91 : row 244 91 = some (.getfield 49, 94, 3, 4, 10, 1085) := rfl
theorem r_244_94 : row 244 94 = some (.i2l, 95, 0, 0, 0, 0) := rfl
theorem r_244_95 : row 244 95 = some (.lcmp, 96, 0, 0, 0, 0) := rfl
theorem r_244_96 : row 244 96 = some (.ifCond .ge 14, 99, 110, 0, 0, 0) := rfl
theorem r_244_99 : row 244 99 = some (.aload_n 0, 100, 0, 0, 0, 0) := rfl
theorem r_244_100 : row 244 100 = some (.iconst 1, 101, 1, 0, 0, 0) := rfl
theorem r_244_101 : row 244 101 = some (.putfield 15, 104, 1, 1, 0, 2123) := rfl
theorem r_244_104 : row 244 104 = some (.aload_n 0, 105, 0, 0, 0, 0) := rfl
theorem r_244_105 : row 244 105 = some (.iload 6, 107, 0, 0, 0, 0) := rfl
theorem r_244_107 : row 244 107 = some (.putfield 9, 110, 1, 0, 0, 2121) := rfl
theorem r_244_110 : row 244 110 = some (.iinc 6 1, 113, 0, 0, 0, 0) := rfl
theorem r_244_113 : row 244 113 = some (.goto (-88), 116, 25, 0, 0, 0) := rfl
theorem r_244_116 : row 244 116 = some (.return_, 117, 0, 0, 0, 0) := rfl
theorem land_31 {y : Int} (h0 : 0 ≤ y) (h1 : y < 9223372036854775808) : land y 2147483647 = y % 2147483648 := by
  obtain ⟨n, rfl⟩ : ∃ n : Nat, y = (n : Int) := ⟨y.toNat, by omega⟩
  show (BitVec.ofNat 64 n &&& BitVec.ofNat 64 2147483647).toInt = _
  have e : (BitVec.ofNat 64 n &&& BitVec.ofNat 64 2147483647).toNat = n % 2147483648 := by
    rw [BitVec.toNat_and, BitVec.toNat_ofNat, BitVec.toNat_ofNat, Nat.mod_eq_of_lt (show n < 2 ^ 64 by omega), Nat.mod_eq_of_lt (show 2147483647 < 2 ^ 64 by decide)]
    exact Nat.and_two_pow_sub_one_eq_mod n 31
  rw [BitVec.toInt_eq_toNat_of_lt (by rw [e]; omega), e]
  omega
/-- the next draw -/
def lcg (x : Int) : Int := (1103515245 * x + 12345) % 2147483648
theorem lcg_b (x : Int) : 0 ≤ lcg x ∧ lcg x < 2147483648 := by unfold lcg; omega
/-- a day of k hours: the draw's number, how many draws, the hour in which he chokes or -1 -/
def dyS (f : Nat → Int) (od sd : Int) : Nat → Int × Nat × Int
  | 0 => (sd, 0, -1)
  | k + 1 => if (dyS f od sd k).2.2 = -1 ∧ f k = 2 then (lcg (dyS f od sd k).1, (dyS f od sd k).2.1 + 1, if lcg (dyS f od sd k).1 / 65536 % 10 < od then (k : Int) else -1) else dyS f od sd k
theorem dyS_n {f : Nat → Int} {od sd : Int} {k : Nat} (h : ¬ f k = 2) : dyS f od sd (k + 1) = dyS f od sd k := if_neg (fun z => h z.2)
theorem dyS_y {f : Nat → Int} {od sd x : Int} {k d : Nat} (hs : dyS f od sd k = (x, d, -1)) (h : f k = 2) : dyS f od sd (k + 1) = (lcg x, d + 1, if lcg x / 65536 % 10 < od then (k : Int) else -1) := by
  show (if (dyS f od sd k).2.2 = -1 ∧ f k = 2 then (lcg (dyS f od sd k).1, (dyS f od sd k).2.1 + 1, if lcg (dyS f od sd k).1 / 65536 % 10 < od then (k : Int) else -1) else dyS f od sd k) = _
  rw [hs, if_pos ⟨rfl, h⟩]
theorem dyS_fz {f : Nat → Int} {od sd : Int} {k : Nat} (h : ¬ (dyS f od sd k).2.2 = -1) : ∀ n : Nat, k ≤ n → dyS f od sd n = dyS f od sd k := by
  intro n
  induction n with
  | zero => intro hk; rw [show k = 0 by omega]
  | succ n ih =>
    intro hk
    by_cases c : k = n + 1
    · rw [c]
    · have e := ih (by omega)
      show (if (dyS f od sd n).2.2 = -1 ∧ f n = 2 then (lcg (dyS f od sd n).1, (dyS f od sd n).2.1 + 1, if lcg (dyS f od sd n).1 / 65536 % 10 < od then (n : Int) else -1) else dyS f od sd n) = _
      rw [e, if_neg (fun z => h z.1)]
theorem dyS_c {f g : Nat → Int} {od sd : Int} : ∀ k : Nat, (∀ h : Nat, h < k → f h = g h) → dyS f od sd k = dyS g od sd k := by
  intro k
  induction k with
  | zero => intro _; rfl
  | succ k ih =>
    intro e
    show (if (dyS f od sd k).2.2 = -1 ∧ f k = 2 then (lcg (dyS f od sd k).1, (dyS f od sd k).2.1 + 1, if lcg (dyS f od sd k).1 / 65536 % 10 < od then (k : Int) else -1) else dyS f od sd k) = (if (dyS g od sd k).2.2 = -1 ∧ g k = 2 then (lcg (dyS g od sd k).1, (dyS g od sd k).2.1 + 1, if lcg (dyS g od sd k).1 / 65536 % 10 < od then (k : Int) else -1) else dyS g od sd k)
    rw [ih (fun h hh => e h (by omega)), e k (by omega)]
/-- what a day leaves: the hour it ends in, whether he chokes, how many draws -/
def DyR (E : Int) (d : Int × Nat × Int) (a b c : Int) : Prop := a = (if d.2.2 = -1 then E else d.2.2) ∧ b = (if d.2.2 = -1 then 0 else 1) ∧ c = (d.2.1 : Int)
theorem dyr_n {E a b c x : Int} {d : Int × Nat × Int} {k : Nat} (h : d = (x, k, -1)) (ha : a = E) (hb : b = 0) (hc : c = (k : Int)) : DyR E d a b c := by
  subst h; exact ⟨ha.trans (if_pos rfl).symm, hb.trans (if_pos rfl).symm, hc⟩
theorem dyr_y {E a b c x e : Int} {d : Int × Nat × Int} {k : Nat} (h : d = (x, k, e)) (he : ¬ e = -1) (ha : a = e) (hb : b = 1) (hc : c = (k : Int)) : DyR E d a b c := by
  subst h; exact ⟨ha.trans (if_neg he).symm, hb.trans (if_neg he).symm, hc⟩
section DAYS
variable {T : List Kd} {m : Mm}
theorem pin_144 : ∀ i : Nat, i < 3 → pinF 144 i = 0 := by decide
theorem dx_l (hT : TT T) (hp : PinR m) (h1 : m 144 1 = 1) (sd x h : Int) : GX T 1 244 25 [(2, 144), (2, 4), (2, 28), (0, sd), (1, x), (9, 0), (0, h)] [] m (RV (fun m1 => m1 = m)) := by
  refine gx_st (L' := [(2, 144), (2, 4), (2, 28), (0, sd), (1, x), (9, 0), (0, h)]) (S' := [(0, h)]) r_244_25 rfl rfl rfl ?_
  refine gx_st (L' := [(2, 144), (2, 4), (2, 28), (0, sd), (1, x), (9, 0), (0, h)]) (S' := [(2, 4), (0, h)]) r_244_27 rfl rfl rfl ?_
  refine gx_gf (x := (m 4 2)) 0 r_244_28 (rfl) (ty_4 hT) ⟨by decide, rfl, by decide, by decide⟩ rfl (fun z => absurd z (by decide)) (rfl) ?_
  refine gx_ic (P := (m 4 2) ≤ h) r_244_31 (rfl) (fun h31 => ?_) (fun h31 => ?_)
  · exact gx_rt r_244_116 rfl rfl ⟨rfl, rfl⟩
  · refine gx_st (L' := [(2, 144), (2, 4), (2, 28), (0, sd), (1, x), (9, 0), (0, h)]) (S' := [(2, 144)]) r_244_34 rfl rfl rfl ?_
    refine gx_gf (x := 1) 0 r_244_35 (rfl) (ty_144 hT) ⟨by decide, rfl, by decide, by decide⟩ rfl (fun z => absurd z (by decide)) (h1) ?_
    refine gx_i0 (P := ¬ 1 = 0) r_244_38 (rfl) (fun h38 => ?_) (fun h38 => ?_)
    · exact gx_rt r_244_116 rfl rfl ⟨rfl, rfl⟩
    · have h38 := Decidable.not_not.mp h38
      omega
theorem dc_l (hT : TT T) (hp : PinR m) {n : Nat} {sd : Int} (hn : m 4 2 = (n : Int)) (hn12 : n ≤ 12) : ∀ (N k : Nat) (p : Mm) (x : Int) (d : Nat), n - k < N → k ≤ n → (∀ o i : Nat, ¬ (o = 144 ∧ i < 3) → p o i = m o i) → p 144 0 = m 28 11 → p 144 1 = 0 → p 144 2 = (d : Int) → dyS (fun h => m 37 h) (m 4 4) sd k = (x, d, -1) → (0 ≤ x ∧ x < 2147483648) → d ≤ k → GX T 1 244 25 [(2, 144), (2, 4), (2, 28), (0, sd), (1, x), (9, 0), (0, (k : Int))] [] p (RV (fun m1 => DyR (m 28 11) (dyS (fun h => m 37 h) (m 4 4) sd n) (m1 144 0) (m1 144 1) (m1 144 2) ∧ ∀ o i : Nat, ¬ (o = 144 ∧ i < 3) → m1 o i = m o i)) := by
  intro N
  induction N with
  | zero => intro k p x d hN; exact absurd hN (Nat.not_lt_zero _)
  | succ N ih =>
    intro k p x d hN hk hf z0 z1 z2 hs hb hd
    have pp : PinR p := fun o i hq => (hf o i (fun z => by obtain ⟨z1, z2⟩ := z; subst z1; exact hq (pin_144 i z2))).trans (hp o i hq)
    have bl := lcg_b x
    refine gx_st (L' := [(2, 144), (2, 4), (2, 28), (0, sd), (1, x), (9, 0), (0, (k : Int))]) (S' := [(0, (k : Int))]) r_244_25 rfl rfl rfl ?_
    refine gx_st (L' := [(2, 144), (2, 4), (2, 28), (0, sd), (1, x), (9, 0), (0, (k : Int))]) (S' := [(2, 4), (0, (k : Int))]) r_244_27 rfl rfl rfl ?_
    refine gx_gf (x := (n : Int)) 0 r_244_28 (rfl) (ty_4 hT) ⟨by decide, rfl, by decide, by decide⟩ rfl (fun z => absurd z (by decide)) (((hf 4 2 (by omega)).trans hn)) ?_
    refine gx_ic (P := (n : Int) ≤ (k : Int)) r_244_31 (rfl) (fun h31 => ?_) (fun h31 => ?_)
    · have hkn : k = n := by omega
      subst hkn
      exact gx_rt r_244_116 rfl rfl ⟨rfl, dyr_n hs z0 z1 z2, hf⟩
    · refine gx_st (L' := [(2, 144), (2, 4), (2, 28), (0, sd), (1, x), (9, 0), (0, (k : Int))]) (S' := [(2, 144)]) r_244_34 rfl rfl rfl ?_
      refine gx_gf (x := 0) 0 r_244_35 (rfl) (ty_144 hT) ⟨by decide, rfl, by decide, by decide⟩ rfl (fun z => absurd z (by decide)) (z1) ?_
      refine gx_i0 (P := ¬ 0 = 0) r_244_38 (rfl) (fun h38 => ?_) (fun h38 => ?_)
      · omega
      · have h38 := Decidable.not_not.mp h38
        refine gx_st (L' := [(2, 144), (2, 4), (2, 28), (0, sd), (1, x), (9, 0), (0, (k : Int))]) (S' := [(2, 28)]) r_244_41 rfl rfl rfl ?_
        refine gx_gf (x := 37) 2 r_244_42 (rfl) (ty_28 hT) ⟨by decide, rfl, by decide, by decide⟩ rfl (fun _ => by omega) (pin_at pp (t := 37) rfl (by decide)) ?_
        refine gx_st (L' := [(2, 144), (2, 4), (2, 28), (0, sd), (1, x), (9, 0), (0, (k : Int))]) (S' := [(0, (k : Int)), (2, 37)]) r_244_45 rfl rfl rfl ?_
        refine gx_ci (nx := 50) (S2 := []) (c_237 (r := 37) (n := 12) (ty_37 hT) (by decide) (by decide) (k := k) (by omega)) r_244_47 rfl rfl rfl rfl rfl rfl rfl (by decide) rfl (fun x47 n47 q47 => ?_)
        obtain ⟨e_x47, z_x47⟩ := q47
        obtain rfl := z_x47.symm
        rw [e_x47, hf 37 k (by omega)]
        show GX T 1 244 50 [(2, 144), (2, 4), (2, 28), (0, sd), (1, x), (9, 0), (0, (k : Int))] [(0, (m 37 k))] p (RV (fun m1 => DyR (m 28 11) (dyS (fun h => m 37 h) (m 4 4) sd n) (m1 144 0) (m1 144 1) (m1 144 2) ∧ ∀ o i : Nat, ¬ (o = 144 ∧ i < 3) → m1 o i = m o i))
        refine gx_st (L' := [(2, 144), (2, 4), (2, 28), (0, sd), (1, x), (9, 0), (0, (k : Int))]) (S' := [(0, 2), (0, (m 37 k))]) r_244_50 rfl rfl rfl ?_
        refine gx_ic (P := ¬ (m 37 k) = 2) r_244_51 (rfl) (fun h51 => ?_) (fun h51 => ?_)
        · refine gx_li (z := (k : Int) + 1) (L' := [(2, 144), (2, 4), (2, 28), (0, sd), (1, x), (9, 0), (0, (k : Int) + 1)]) r_244_110 rfl (w32_eq (by omega) (by omega) (by omega)) rfl ?_
          refine gx_st (L' := [(2, 144), (2, 4), (2, 28), (0, sd), (1, x), (9, 0), (0, (k : Int) + 1)]) (S' := []) r_244_113 rfl rfl rfl ?_
          rw [show (k : Int) + 1 = ((k + 1 : Nat) : Int) from rfl]
          exact ih (k + 1) p x d (by omega) (by omega) hf z0 z1 z2 ((dyS_n (f := fun h => m 37 h) h51).trans hs) hb (by omega)
        · have h51 := Decidable.not_not.mp h51
          refine gx_st (L' := [(2, 144), (2, 4), (2, 28), (0, sd), (1, x), (9, 0), (0, (k : Int))]) (S' := [(1, 1103515245)]) r_244_54 rfl rfl rfl ?_
          refine gx_st (L' := [(2, 144), (2, 4), (2, 28), (0, sd), (1, x), (9, 0), (0, (k : Int))]) (S' := [(1, x), (1, 1103515245)]) r_244_57 rfl rfl rfl ?_
          refine gx_ar (L' := [(2, 144), (2, 4), (2, 28), (0, sd), (1, x), (9, 0), (0, (k : Int))]) (S' := []) (t := 1) (e := w64 (1103515245 * x)) (z := 1103515245 * x) r_244_59 rfl rfl rfl (w64_eq (by omega) (by omega) (by omega)) ?_
          refine gx_st (L' := [(2, 144), (2, 4), (2, 28), (0, sd), (1, x), (9, 0), (0, (k : Int))]) (S' := [(1, 12345), (1, 1103515245 * x)]) r_244_60 rfl rfl rfl ?_
          refine gx_ar (L' := [(2, 144), (2, 4), (2, 28), (0, sd), (1, x), (9, 0), (0, (k : Int))]) (S' := []) (t := 1) (e := w64 ((1103515245 * x) + 12345)) (z := 1103515245 * x + 12345) r_244_63 rfl rfl rfl (w64_eq (by omega) (by omega) (by omega)) ?_
          refine gx_st (L' := [(2, 144), (2, 4), (2, 28), (0, sd), (1, x), (9, 0), (0, (k : Int))]) (S' := [(1, 2147483647), (1, 1103515245 * x + 12345)]) r_244_64 rfl rfl rfl ?_
          refine gx_st (L' := [(2, 144), (2, 4), (2, 28), (0, sd), (1, x), (9, 0), (0, (k : Int))]) (S' := [(1, (land (1103515245 * x + 12345) 2147483647))]) r_244_67 rfl rfl rfl ?_
          rw [show (land (1103515245 * x + 12345) 2147483647) = (lcg x) from land_31 (by omega) (by omega)]
          refine gx_st (L' := [(2, 144), (2, 4), (2, 28), (0, sd), (1, (lcg x)), (9, 0), (0, (k : Int))]) (S' := []) r_244_68 rfl rfl rfl ?_
          refine gx_st (L' := [(2, 144), (2, 4), (2, 28), (0, sd), (1, (lcg x)), (9, 0), (0, (k : Int))]) (S' := [(2, 144)]) r_244_70 rfl rfl rfl ?_
          refine gx_st (L' := [(2, 144), (2, 4), (2, 28), (0, sd), (1, (lcg x)), (9, 0), (0, (k : Int))]) (S' := [(2, 144), (2, 144)]) r_244_71 rfl rfl rfl ?_
          refine gx_gf (x := (d : Int)) 0 r_244_72 (rfl) (ty_144 hT) ⟨by decide, rfl, by decide, by decide⟩ rfl (fun z => absurd z (by decide)) (z2) ?_
          refine gx_st (L' := [(2, 144), (2, 4), (2, 28), (0, sd), (1, (lcg x)), (9, 0), (0, (k : Int))]) (S' := [(0, 1), (0, (d : Int)), (2, 144)]) r_244_75 rfl rfl rfl ?_
          refine gx_ar (L' := [(2, 144), (2, 4), (2, 28), (0, sd), (1, (lcg x)), (9, 0), (0, (k : Int))]) (S' := [(2, 144)]) (t := 0) (e := w32 ((d : Int) + 1)) (z := (d : Int) + 1) r_244_76 rfl rfl rfl (w32_eq (by omega) (by omega) (by omega)) ?_
          obtain ⟨m1, e_m1⟩ : ∃ z, z = nu_up p 144 2 ((d : Int) + 1) := ⟨_, rfl⟩
          refine gx_pf (x := (d : Int) + 1) 0 r_244_77 (rfl) (ty_144 hT) ⟨by decide, rfl, by decide, by decide⟩ rfl (fun z => absurd z (by decide)) (fun z => absurd z (by decide)) e_m1.symm ?_
          refine gx_st (L' := [(2, 144), (2, 4), (2, 28), (0, sd), (1, (lcg x)), (9, 0), (0, (k : Int))]) (S' := [(1, (lcg x))]) r_244_80 rfl rfl rfl ?_
          refine gx_st (L' := [(2, 144), (2, 4), (2, 28), (0, sd), (1, (lcg x)), (9, 0), (0, (k : Int))]) (S' := [(1, 65536), (1, (lcg x))]) r_244_82 rfl rfl rfl ?_
          refine gx_ldv (z := ((lcg x) / 65536)) r_244_85 (by decide) (w64_td (by omega) rfl (by omega) (by omega)) ?_
          refine gx_st (L' := [(2, 144), (2, 4), (2, 28), (0, sd), (1, (lcg x)), (9, 0), (0, (k : Int))]) (S' := [(1, 10), (1, ((lcg x) / 65536))]) r_244_86 rfl rfl rfl ?_
          refine gx_lrm (z := ((((lcg x) / 65536)) % 10)) r_244_89 (by decide) (tm_eq (by omega) rfl) ?_
          refine gx_st (L' := [(2, 144), (2, 4), (2, 28), (0, sd), (1, (lcg x)), (9, 0), (0, (k : Int))]) (S' := [(2, 4), (1, ((((lcg x) / 65536)) % 10))]) r_244_90 rfl rfl rfl ?_
          refine gx_gf (x := (m 4 4)) 0 r_244_91 (rfl) (ty_4 hT) ⟨by decide, rfl, by decide, by decide⟩ rfl (fun z => absurd z (by decide)) (by show m1 4 4 = _; rw [e_m1, nu_no (by decide)]; exact (hf 4 4 (by omega))) ?_
          refine gx_st (L' := [(2, 144), (2, 4), (2, 28), (0, sd), (1, (lcg x)), (9, 0), (0, (k : Int))]) (S' := [(1, (m 4 4)), (1, ((((lcg x) / 65536)) % 10))]) r_244_94 rfl rfl rfl ?_
          refine gx_st (L' := [(2, 144), (2, 4), (2, 28), (0, sd), (1, (lcg x)), (9, 0), (0, (k : Int))]) (S' := [(0, (if (((((lcg x) / 65536)) % 10)) < (m 4 4) then -1 else if (((((lcg x) / 65536)) % 10)) = (m 4 4) then 0 else 1))]) r_244_95 rfl rfl rfl ?_
          refine gx_i0 (P := (m 4 4) ≤ (((((lcg x) / 65536)) % 10))) r_244_96 (lc_ge) (fun h96 => ?_) (fun h96 => ?_)
          · refine gx_li (z := (k : Int) + 1) (L' := [(2, 144), (2, 4), (2, 28), (0, sd), (1, (lcg x)), (9, 0), (0, (k : Int) + 1)]) r_244_110 rfl (w32_eq (by omega) (by omega) (by omega)) rfl ?_
            refine gx_st (L' := [(2, 144), (2, 4), (2, 28), (0, sd), (1, (lcg x)), (9, 0), (0, (k : Int) + 1)]) (S' := []) r_244_113 rfl rfl rfl ?_
            rw [show (k : Int) + 1 = ((k + 1 : Nat) : Int) from rfl]
            have hy := dyS_y (f := fun h => m 37 h) hs h51
            rw [if_neg (by omega)] at hy
            exact ih (k + 1) m1 (lcg x) (d + 1) (by omega) (by omega) (fun o i z => by rw [e_m1, nu_x (by omega)]; exact hf o i z) (by rw [e_m1, nu_ne (by decide)]; exact z0) (by rw [e_m1, nu_ne (by decide)]; exact z1) (by rw [e_m1, nu_at]; omega) hy bl (by omega)
          · refine gx_st (L' := [(2, 144), (2, 4), (2, 28), (0, sd), (1, (lcg x)), (9, 0), (0, (k : Int))]) (S' := [(2, 144)]) r_244_99 rfl rfl rfl ?_
            refine gx_st (L' := [(2, 144), (2, 4), (2, 28), (0, sd), (1, (lcg x)), (9, 0), (0, (k : Int))]) (S' := [(0, 1), (2, 144)]) r_244_100 rfl rfl rfl ?_
            obtain ⟨m2, e_m2⟩ : ∃ z, z = nu_up m1 144 1 1 := ⟨_, rfl⟩
            refine gx_pf (x := 1) 0 r_244_101 (rfl) (ty_144 hT) ⟨by decide, rfl, by decide, by decide⟩ rfl (fun z => absurd z (by decide)) (fun z => absurd z (by decide)) e_m2.symm ?_
            refine gx_st (L' := [(2, 144), (2, 4), (2, 28), (0, sd), (1, (lcg x)), (9, 0), (0, (k : Int))]) (S' := [(2, 144)]) r_244_104 rfl rfl rfl ?_
            refine gx_st (L' := [(2, 144), (2, 4), (2, 28), (0, sd), (1, (lcg x)), (9, 0), (0, (k : Int))]) (S' := [(0, (k : Int)), (2, 144)]) r_244_105 rfl rfl rfl ?_
            obtain ⟨m3, e_m3⟩ : ∃ z, z = nu_up m2 144 0 (k : Int) := ⟨_, rfl⟩
            refine gx_pf (x := (k : Int)) 0 r_244_107 (rfl) (ty_144 hT) ⟨by decide, rfl, by decide, by decide⟩ rfl (fun z => absurd z (by decide)) (fun z => absurd z (by decide)) e_m3.symm ?_
            refine gx_li (z := (k : Int) + 1) (L' := [(2, 144), (2, 4), (2, 28), (0, sd), (1, (lcg x)), (9, 0), (0, (k : Int) + 1)]) r_244_110 rfl (w32_eq (by omega) (by omega) (by omega)) rfl ?_
            refine gx_st (L' := [(2, 144), (2, 4), (2, 28), (0, sd), (1, (lcg x)), (9, 0), (0, (k : Int) + 1)]) (S' := []) r_244_113 rfl rfl rfl ?_
            have hy := dyS_y (f := fun h => m 37 h) hs h51
            rw [if_pos (by omega)] at hy
            have pq : PinR m3 := by rw [e_m3, e_m2, e_m1]; exact PinR_up (PinR_up (PinR_up pp rfl) rfl) rfl
            refine gx_imp (dx_l hT pq (by rw [e_m3, nu_ne (by decide), e_m2, nu_at]) sd (lcg x) ((k : Int) + 1)) (fun v m1 ⟨u1, u2⟩ => ⟨u1, ?_, ?_⟩)
            · subst u2
              have fz := dyS_fz (f := fun h => m 37 h) (od := m 4 4) (sd := sd) (k := k + 1) (by rw [hy]; show ¬ (k : Int) = -1; omega) n (by omega)
              exact dyr_y (fz.trans hy) (by omega) (by rw [e_m3, nu_at]) (by rw [e_m3, nu_ne (by decide), e_m2, nu_at]) (by rw [e_m3, nu_ne (by decide), e_m2, nu_ne (by decide), e_m1, nu_at]; omega)
            · subst u2
              intro o i z
              rw [e_m3, nu_x (by omega), e_m2, nu_x (by omega), e_m1, nu_x (by omega)]; exact hf o i z
theorem z_244 (hT : TT T) (hp : PinR m) {n : Nat} (hn : m 4 2 = (n : Int)) (hn12 : n ≤ 12) {sd : Int} (hs0 : 0 ≤ sd ∧ sd < 2147483648) : GX T 1 244 0 [(2, 144), (2, 4), (2, 28), (0, sd), (9, 0), (9, 0), (9, 0)] [] m (RV (fun m1 => DyR (m 28 11) (dyS (fun h => m 37 h) (m 4 4) sd n) (m1 144 0) (m1 144 1) (m1 144 2) ∧ ∀ o i : Nat, ¬ (o = 144 ∧ i < 3) → m1 o i = m o i)) := by
  refine gx_st (L' := [(2, 144), (2, 4), (2, 28), (0, sd), (9, 0), (9, 0), (9, 0)]) (S' := [(0, sd)]) r_244_0 rfl rfl rfl ?_
  refine gx_st (L' := [(2, 144), (2, 4), (2, 28), (0, sd), (9, 0), (9, 0), (9, 0)]) (S' := [(1, sd)]) r_244_1 rfl rfl rfl ?_
  refine gx_st (L' := [(2, 144), (2, 4), (2, 28), (0, sd), (1, sd), (9, 0), (9, 0)]) (S' := []) r_244_2 rfl rfl rfl ?_
  refine gx_st (L' := [(2, 144), (2, 4), (2, 28), (0, sd), (1, sd), (9, 0), (9, 0)]) (S' := [(2, 144)]) r_244_4 rfl rfl rfl ?_
  refine gx_st (L' := [(2, 144), (2, 4), (2, 28), (0, sd), (1, sd), (9, 0), (9, 0)]) (S' := [(2, 28), (2, 144)]) r_244_5 rfl rfl rfl ?_
  refine gx_gf (x := (m 28 11)) 0 r_244_6 (rfl) (ty_28 hT) ⟨by decide, rfl, by decide, by decide⟩ rfl (fun z => absurd z (by decide)) (rfl) ?_
  obtain ⟨m1, e_m1⟩ : ∃ z, z = nu_up m 144 0 (m 28 11) := ⟨_, rfl⟩
  refine gx_pf (x := (m 28 11)) 0 r_244_9 (rfl) (ty_144 hT) ⟨by decide, rfl, by decide, by decide⟩ rfl (fun z => absurd z (by decide)) (fun z => absurd z (by decide)) e_m1.symm ?_
  refine gx_st (L' := [(2, 144), (2, 4), (2, 28), (0, sd), (1, sd), (9, 0), (9, 0)]) (S' := [(2, 144)]) r_244_12 rfl rfl rfl ?_
  refine gx_st (L' := [(2, 144), (2, 4), (2, 28), (0, sd), (1, sd), (9, 0), (9, 0)]) (S' := [(0, 0), (2, 144)]) r_244_13 rfl rfl rfl ?_
  obtain ⟨m2, e_m2⟩ : ∃ z, z = nu_up m1 144 1 0 := ⟨_, rfl⟩
  refine gx_pf (x := 0) 0 r_244_14 (rfl) (ty_144 hT) ⟨by decide, rfl, by decide, by decide⟩ rfl (fun z => absurd z (by decide)) (fun z => absurd z (by decide)) e_m2.symm ?_
  refine gx_st (L' := [(2, 144), (2, 4), (2, 28), (0, sd), (1, sd), (9, 0), (9, 0)]) (S' := [(2, 144)]) r_244_17 rfl rfl rfl ?_
  refine gx_st (L' := [(2, 144), (2, 4), (2, 28), (0, sd), (1, sd), (9, 0), (9, 0)]) (S' := [(0, 0), (2, 144)]) r_244_18 rfl rfl rfl ?_
  obtain ⟨m3, e_m3⟩ : ∃ z, z = nu_up m2 144 2 0 := ⟨_, rfl⟩
  refine gx_pf (x := 0) 0 r_244_19 (rfl) (ty_144 hT) ⟨by decide, rfl, by decide, by decide⟩ rfl (fun z => absurd z (by decide)) (fun z => absurd z (by decide)) e_m3.symm ?_
  refine gx_st (L' := [(2, 144), (2, 4), (2, 28), (0, sd), (1, sd), (9, 0), (9, 0)]) (S' := [(0, 0)]) r_244_22 rfl rfl rfl ?_
  refine gx_st (L' := [(2, 144), (2, 4), (2, 28), (0, sd), (1, sd), (9, 0), (0, 0)]) (S' := []) r_244_23 rfl rfl rfl ?_
  refine dc_l hT hp hn hn12 (n + 1) 0 m3 sd 0 (by omega) (by omega) (fun o i z => by rw [e_m3, nu_x (by omega), e_m2, nu_x (by omega), e_m1, nu_x (by omega)]) (by rw [e_m3, nu_ne (by decide), e_m2, nu_ne (by decide), e_m1, nu_at]) (by rw [e_m3, nu_ne (by decide), e_m2, nu_at]) (by show m3 144 2 = 0; rw [e_m3, nu_at]) rfl hs0 (by omega)
theorem z_57 (hT : TT T) (hp : PinR m) (a b : Int) (h12 : 0 ≤ m 4 2 ∧ m 4 2 ≤ 12) : GX T 2 57 0 [(2, 1), (0, a), (0, b)] [] m (RI (fun v m1 => (¬ (0 < m 4 0 ∧ (0 ≤ a ∧ a ≤ 2000000000) ∧ 0 ≤ b ∧ b < 3) → v = -2) ∧ ∀ k : Nat, m 4 2 = (k : Int) → (0 < m 4 0 ∧ (0 ≤ a ∧ a ≤ 2000000000) ∧ 0 ≤ b ∧ b < 3) → ∃ x y z : Int, DyR (m 28 11) (dyS (fun h => m 37 h) (m 4 4) a k) x y z ∧ (b = 0 → v = x) ∧ (b = 1 → v = y) ∧ (b = 2 → v = z))) := by
  refine gx_st (L' := [(2, 1), (0, a), (0, b)]) (S' := [(2, 1)]) r_57_0 rfl rfl rfl ?_
  refine gx_gf (x := 4) 2 r_57_1 (rfl) (ty_1 hT) ⟨by decide, rfl, by decide, by decide⟩ rfl (fun _ => by omega) (pin_at hp (t := 4) rfl (by decide)) ?_
  refine gx_ci (nx := 7) (S2 := []) (x_252 hT) r_57_4 rfl rfl rfl rfl rfl (rcv_v rfl (ty_4 hT) (by decide) rfl (by decide)) rfl (by decide) rfl (fun x4 n4 q4 => ?_)
  obtain rfl := q4.1.symm
  obtain rfl := q4.2.symm
  show GX T 2 57 7 [(2, 1), (0, a), (0, b)] [(0, (if 0 < m 4 0 then 1 else 0))] m (RI (fun v m1 => (¬ (0 < m 4 0 ∧ (0 ≤ a ∧ a ≤ 2000000000) ∧ 0 ≤ b ∧ b < 3) → v = -2) ∧ ∀ k : Nat, m 4 2 = (k : Int) → (0 < m 4 0 ∧ (0 ≤ a ∧ a ≤ 2000000000) ∧ 0 ≤ b ∧ b < 3) → ∃ x y z : Int, DyR (m 28 11) (dyS (fun h => m 37 h) (m 4 4) a k) x y z ∧ (b = 0 → v = x) ∧ (b = 1 → v = y) ∧ (b = 2 → v = z)))
  refine gx_i0 (P := ¬ (0 < m 4 0)) r_57_7 (b01_eq) (fun h7 => ?_) (fun h7 => ?_)
  · refine gx_st (L' := [(2, 1), (0, a), (0, b)]) (S' := [(0, (-2))]) r_57_29 rfl rfl rfl ?_
    exact gx_rt r_57_31 rfl rfl ⟨_, rfl, fun _ => rfl, fun k e z => (by exfalso; omega)⟩
  · have h7 := Decidable.not_not.mp h7
    refine gx_st (L' := [(2, 1), (0, a), (0, b)]) (S' := [(0, a)]) r_57_10 rfl rfl rfl ?_
    refine gx_i0 (P := a < 0) r_57_11 (rfl) (fun h11 => ?_) (fun h11 => ?_)
    · refine gx_st (L' := [(2, 1), (0, a), (0, b)]) (S' := [(0, (-2))]) r_57_29 rfl rfl rfl ?_
      exact gx_rt r_57_31 rfl rfl ⟨_, rfl, fun _ => rfl, fun k e z => (by exfalso; omega)⟩
    · refine gx_st (L' := [(2, 1), (0, a), (0, b)]) (S' := [(0, a)]) r_57_14 rfl rfl rfl ?_
      refine gx_st (L' := [(2, 1), (0, a), (0, b)]) (S' := [(0, 2000000000), (0, a)]) r_57_15 rfl rfl rfl ?_
      refine gx_ic (P := 2000000000 < a) r_57_18 (rfl) (fun h18 => ?_) (fun h18 => ?_)
      · refine gx_st (L' := [(2, 1), (0, a), (0, b)]) (S' := [(0, (-2))]) r_57_29 rfl rfl rfl ?_
        exact gx_rt r_57_31 rfl rfl ⟨_, rfl, fun _ => rfl, fun k e z => (by exfalso; omega)⟩
      · refine gx_st (L' := [(2, 1), (0, a), (0, b)]) (S' := [(0, b)]) r_57_21 rfl rfl rfl ?_
        refine gx_st (L' := [(2, 1), (0, a), (0, b)]) (S' := [(0, 3), (0, b)]) r_57_22 rfl rfl rfl ?_
        refine gx_ci (nx := 26) (S2 := []) (x_71 b 3) r_57_23 rfl rfl rfl rfl rfl rfl rfl (by decide) rfl (fun x23 n23 q23 => ?_)
        obtain rfl := q23.1.symm
        obtain rfl := q23.2.symm
        show GX T 2 57 26 [(2, 1), (0, a), (0, b)] [(0, (if 0 ≤ b ∧ b < 3 then 1 else 0))] m (RI (fun v m1 => (¬ (0 < m 4 0 ∧ (0 ≤ a ∧ a ≤ 2000000000) ∧ 0 ≤ b ∧ b < 3) → v = -2) ∧ ∀ k : Nat, m 4 2 = (k : Int) → (0 < m 4 0 ∧ (0 ≤ a ∧ a ≤ 2000000000) ∧ 0 ≤ b ∧ b < 3) → ∃ x y z : Int, DyR (m 28 11) (dyS (fun h => m 37 h) (m 4 4) a k) x y z ∧ (b = 0 → v = x) ∧ (b = 1 → v = y) ∧ (b = 2 → v = z)))
        refine gx_i0 (P := 0 ≤ b ∧ b < 3) r_57_26 (b01_ne) (fun h26 => ?_) (fun h26 => ?_)
        · obtain ⟨n, hn⟩ : ∃ n : Nat, m 4 2 = (n : Int) := ⟨(m 4 2).toNat, by omega⟩
          have hn12 : n ≤ 12 := by omega
          refine gx_st (L' := [(2, 1), (0, a), (0, b)]) (S' := [(2, 1)]) r_57_32 rfl rfl rfl ?_
          refine gx_gf (x := 144) 2 r_57_33 (rfl) (ty_1 hT) ⟨by decide, rfl, by decide, by decide⟩ rfl (fun _ => by omega) (pin_at hp (t := 144) rfl (by decide)) ?_
          refine gx_st (L' := [(2, 1), (0, a), (0, b)]) (S' := [(2, 1), (2, 144)]) r_57_36 rfl rfl rfl ?_
          refine gx_gf (x := 4) 2 r_57_37 (rfl) (ty_1 hT) ⟨by decide, rfl, by decide, by decide⟩ rfl (fun _ => by omega) (pin_at hp (t := 4) rfl (by decide)) ?_
          refine gx_st (L' := [(2, 1), (0, a), (0, b)]) (S' := [(2, 1), (2, 4), (2, 144)]) r_57_40 rfl rfl rfl ?_
          refine gx_gf (x := 28) 2 r_57_41 (rfl) (ty_1 hT) ⟨by decide, rfl, by decide, by decide⟩ rfl (fun _ => by omega) (pin_at hp (t := 28) rfl (by decide)) ?_
          refine gx_st (L' := [(2, 1), (0, a), (0, b)]) (S' := [(0, a), (2, 28), (2, 4), (2, 144)]) r_57_44 rfl rfl rfl ?_
          refine gx_cv (nx := 48) (S2 := []) (z_244 hT hp (n := n) (sd := a) hn hn12 (by omega)) r_57_45 rfl rfl rfl rfl rfl (rcv_v rfl (ty_144 hT) (by decide) rfl (by decide)) rfl (by decide) rfl (fun n45 q45 => ?_)
          have pn_n45 : PinR n45 := fun o i hq => (q45.2 o i (fun z => by obtain ⟨z1, z2⟩ := z; subst z1; exact hq (pin_144 i z2))).trans (hp o i hq)
          show GX T 2 57 48 [(2, 1), (0, a), (0, b)] [] n45 (RI (fun v m1 => (¬ (0 < m 4 0 ∧ (0 ≤ a ∧ a ≤ 2000000000) ∧ 0 ≤ b ∧ b < 3) → v = -2) ∧ ∀ k : Nat, m 4 2 = (k : Int) → (0 < m 4 0 ∧ (0 ≤ a ∧ a ≤ 2000000000) ∧ 0 ≤ b ∧ b < 3) → ∃ x y z : Int, DyR (m 28 11) (dyS (fun h => m 37 h) (m 4 4) a k) x y z ∧ (b = 0 → v = x) ∧ (b = 1 → v = y) ∧ (b = 2 → v = z)))
          refine gx_st (L' := [(2, 1), (0, a), (0, b)]) (S' := [(0, b)]) r_57_48 rfl rfl rfl ?_
          refine gx_i0 (P := ¬ b = 0) r_57_49 (rfl) (fun h49 => ?_) (fun h49 => ?_)
          · refine gx_st (L' := [(2, 1), (0, a), (0, b)]) (S' := [(0, b)]) r_57_60 rfl rfl rfl ?_
            refine gx_st (L' := [(2, 1), (0, a), (0, b)]) (S' := [(0, 1), (0, b)]) r_57_61 rfl rfl rfl ?_
            refine gx_ic (P := ¬ b = 1) r_57_62 (rfl) (fun h62 => ?_) (fun h62 => ?_)
            · refine gx_st (L' := [(2, 1), (0, a), (0, b)]) (S' := [(2, 1)]) r_57_75 rfl rfl rfl ?_
              refine gx_gf (x := 144) 2 r_57_76 (rfl) (ty_1 hT) ⟨by decide, rfl, by decide, by decide⟩ rfl (fun _ => by omega) (pin_at pn_n45 (t := 144) rfl (by decide)) ?_
              refine gx_gf (x := (n45 144 2)) 0 r_57_79 (rfl) (ty_144 hT) ⟨by decide, rfl, by decide, by decide⟩ rfl (fun z => absurd z (by decide)) (rfl) ?_
              exact gx_rt r_57_82 rfl rfl ⟨_, rfl, fun z => absurd z (by omega), fun k e z => ⟨(n45 144 0), (n45 144 1), (n45 144 2), by rw [show k = n by omega]; exact q45.1, fun z0 => by exfalso; omega, fun z1 => by exfalso; omega, fun z2 => rfl⟩⟩
            · have h62 := Decidable.not_not.mp h62
              refine gx_st (L' := [(2, 1), (0, a), (0, b)]) (S' := [(2, 1)]) r_57_65 rfl rfl rfl ?_
              refine gx_gf (x := 144) 2 r_57_66 (rfl) (ty_1 hT) ⟨by decide, rfl, by decide, by decide⟩ rfl (fun _ => by omega) (pin_at pn_n45 (t := 144) rfl (by decide)) ?_
              refine gx_gf (x := (n45 144 1)) 0 r_57_69 (rfl) (ty_144 hT) ⟨by decide, rfl, by decide, by decide⟩ rfl (fun z => absurd z (by decide)) (rfl) ?_
              refine gx_st (L' := [(2, 1), (0, a), (0, b)]) (S' := [(0, (n45 144 1))]) r_57_72 rfl rfl rfl ?_
              exact gx_rt r_57_82 rfl rfl ⟨_, rfl, fun z => absurd z (by omega), fun k e z => ⟨(n45 144 0), (n45 144 1), (n45 144 2), by rw [show k = n by omega]; exact q45.1, fun z0 => by exfalso; omega, fun z1 => rfl, fun z2 => by exfalso; omega⟩⟩
          · have h49 := Decidable.not_not.mp h49
            refine gx_st (L' := [(2, 1), (0, a), (0, b)]) (S' := [(2, 1)]) r_57_52 rfl rfl rfl ?_
            refine gx_gf (x := 144) 2 r_57_53 (rfl) (ty_1 hT) ⟨by decide, rfl, by decide, by decide⟩ rfl (fun _ => by omega) (pin_at pn_n45 (t := 144) rfl (by decide)) ?_
            refine gx_gf (x := (n45 144 0)) 0 r_57_56 (rfl) (ty_144 hT) ⟨by decide, rfl, by decide, by decide⟩ rfl (fun z => absurd z (by decide)) (rfl) ?_
            exact gx_rt r_57_59 rfl rfl ⟨_, rfl, fun z => absurd z (by omega), fun k e z => ⟨(n45 144 0), (n45 144 1), (n45 144 2), by rw [show k = n by omega]; exact q45.1, fun z0 => rfl, fun z1 => by exfalso; omega, fun z2 => by exfalso; omega⟩⟩
        · refine gx_st (L' := [(2, 1), (0, a), (0, b)]) (S' := [(0, (-2))]) r_57_29 rfl rfl rfl ?_
          exact gx_rt r_57_31 rfl rfl ⟨_, rfl, fun _ => rfl, fun k e z => (by exfalso; omega)⟩
theorem lk_l (hT : TT T) (hp : PinR m) {n c : Nat} {a : Int} (hn : m 4 2 = (n : Int)) (hn12 : n ≤ 12) (ha : 0 ≤ a ∧ a ≤ 2000000000) (hc : c ≤ 20) : ∀ (N k : Nat) (p : Mm), c - k < N → k ≤ c → (∀ o i : Nat, ¬ (o = 144 ∧ i < 3) → p o i = m o i) → GX T 2 58 40 [(2, 1), (0, a), (0, (c : Int)), (0, sumW (fun i => if (dyS (fun h => m 37 h) (m 4 4) (a + (i : Int)) n).2.2 = -1 then 0 else 1) k), (0, (k : Int))] [] p (RI (fun v m1 => v = sumW (fun i => if (dyS (fun h => m 37 h) (m 4 4) (a + (i : Int)) n).2.2 = -1 then 0 else 1) c)) := by
  intro N
  induction N with
  | zero => intro k p hN; exact absurd hN (Nat.not_lt_zero _)
  | succ N ih =>
    intro k p hN hk hf
    have pp : PinR p := fun o i hq => (hf o i (fun z => by obtain ⟨z1, z2⟩ := z; subst z1; exact hq (pin_144 i z2))).trans (hp o i hq)
    refine gx_st (L' := [(2, 1), (0, a), (0, (c : Int)), (0, (sumW (fun i => if (dyS (fun h => m 37 h) (m 4 4) (a + (i : Int)) n).2.2 = -1 then 0 else 1) k)), (0, (k : Int))]) (S' := [(0, (k : Int))]) r_58_40 rfl rfl rfl ?_
    refine gx_st (L' := [(2, 1), (0, a), (0, (c : Int)), (0, (sumW (fun i => if (dyS (fun h => m 37 h) (m 4 4) (a + (i : Int)) n).2.2 = -1 then 0 else 1) k)), (0, (k : Int))]) (S' := [(0, (c : Int)), (0, (k : Int))]) r_58_42 rfl rfl rfl ?_
    refine gx_ic (P := (c : Int) ≤ (k : Int)) r_58_43 (rfl) (fun h43 => ?_) (fun h43 => ?_)
    · refine gx_st (L' := [(2, 1), (0, a), (0, (c : Int)), (0, (sumW (fun i => if (dyS (fun h => m 37 h) (m 4 4) (a + (i : Int)) n).2.2 = -1 then 0 else 1) k)), (0, (k : Int))]) (S' := [(0, (sumW (fun i => if (dyS (fun h => m 37 h) (m 4 4) (a + (i : Int)) n).2.2 = -1 then 0 else 1) k))]) r_58_81 rfl rfl rfl ?_
      have hkn : k = c := by omega
      subst hkn
      exact gx_rt r_58_82 rfl rfl ⟨_, rfl, rfl⟩
    · refine gx_st (L' := [(2, 1), (0, a), (0, (c : Int)), (0, (sumW (fun i => if (dyS (fun h => m 37 h) (m 4 4) (a + (i : Int)) n).2.2 = -1 then 0 else 1) k)), (0, (k : Int))]) (S' := [(2, 1)]) r_58_46 rfl rfl rfl ?_
      refine gx_gf (x := 144) 2 r_58_47 (rfl) (ty_1 hT) ⟨by decide, rfl, by decide, by decide⟩ rfl (fun _ => by omega) (pin_at pp (t := 144) rfl (by decide)) ?_
      refine gx_st (L' := [(2, 1), (0, a), (0, (c : Int)), (0, (sumW (fun i => if (dyS (fun h => m 37 h) (m 4 4) (a + (i : Int)) n).2.2 = -1 then 0 else 1) k)), (0, (k : Int))]) (S' := [(2, 1), (2, 144)]) r_58_50 rfl rfl rfl ?_
      refine gx_gf (x := 4) 2 r_58_51 (rfl) (ty_1 hT) ⟨by decide, rfl, by decide, by decide⟩ rfl (fun _ => by omega) (pin_at pp (t := 4) rfl (by decide)) ?_
      refine gx_st (L' := [(2, 1), (0, a), (0, (c : Int)), (0, (sumW (fun i => if (dyS (fun h => m 37 h) (m 4 4) (a + (i : Int)) n).2.2 = -1 then 0 else 1) k)), (0, (k : Int))]) (S' := [(2, 1), (2, 4), (2, 144)]) r_58_54 rfl rfl rfl ?_
      refine gx_gf (x := 28) 2 r_58_55 (rfl) (ty_1 hT) ⟨by decide, rfl, by decide, by decide⟩ rfl (fun _ => by omega) (pin_at pp (t := 28) rfl (by decide)) ?_
      refine gx_st (L' := [(2, 1), (0, a), (0, (c : Int)), (0, (sumW (fun i => if (dyS (fun h => m 37 h) (m 4 4) (a + (i : Int)) n).2.2 = -1 then 0 else 1) k)), (0, (k : Int))]) (S' := [(0, a), (2, 28), (2, 4), (2, 144)]) r_58_58 rfl rfl rfl ?_
      refine gx_st (L' := [(2, 1), (0, a), (0, (c : Int)), (0, (sumW (fun i => if (dyS (fun h => m 37 h) (m 4 4) (a + (i : Int)) n).2.2 = -1 then 0 else 1) k)), (0, (k : Int))]) (S' := [(0, (k : Int)), (0, a), (2, 28), (2, 4), (2, 144)]) r_58_59 rfl rfl rfl ?_
      refine gx_ar (L' := [(2, 1), (0, a), (0, (c : Int)), (0, (sumW (fun i => if (dyS (fun h => m 37 h) (m 4 4) (a + (i : Int)) n).2.2 = -1 then 0 else 1) k)), (0, (k : Int))]) (S' := [(2, 28), (2, 4), (2, 144)]) (t := 0) (e := w32 (a + (k : Int))) (z := a + (k : Int)) r_58_61 rfl rfl rfl (w32_eq (by omega) (by omega) (by omega)) ?_
      refine gx_cv (nx := 65) (S2 := []) (z_244 hT pp (n := n) (sd := a + (k : Int)) ((hf 4 2 (by omega)).trans hn) hn12 (by omega)) r_58_62 rfl rfl rfl rfl rfl (rcv_v rfl (ty_144 hT) (by decide) rfl (by decide)) rfl (by decide) rfl (fun n62 q62 => ?_)
      obtain ⟨u1, u2⟩ := q62
      have hf2 : ∀ o i : Nat, ¬ (o = 144 ∧ i < 3) → n62 o i = m o i := fun o i z => (u2 o i z).trans (hf o i z)
      have pn_n62 : PinR n62 := fun o i hq => (hf2 o i (fun z => by obtain ⟨z1, z2⟩ := z; subst z1; exact hq (pin_144 i z2))).trans (hp o i hq)
      have e37 : p 37 = m 37 := funext fun i => hf 37 i (by omega)
      have u := u1.2.1
      rw [e37, hf 4 4 (by omega)] at u
      show GX T 2 58 65 [(2, 1), (0, a), (0, (c : Int)), (0, (sumW (fun i => if (dyS (fun h => m 37 h) (m 4 4) (a + (i : Int)) n).2.2 = -1 then 0 else 1) k)), (0, (k : Int))] [] n62 (RI (fun v m1 => v = sumW (fun i => if (dyS (fun h => m 37 h) (m 4 4) (a + (i : Int)) n).2.2 = -1 then 0 else 1) c))
      refine gx_st (L' := [(2, 1), (0, a), (0, (c : Int)), (0, (sumW (fun i => if (dyS (fun h => m 37 h) (m 4 4) (a + (i : Int)) n).2.2 = -1 then 0 else 1) k)), (0, (k : Int))]) (S' := [(0, (sumW (fun i => if (dyS (fun h => m 37 h) (m 4 4) (a + (i : Int)) n).2.2 = -1 then 0 else 1) k))]) r_58_65 rfl rfl rfl ?_
      refine gx_st (L' := [(2, 1), (0, a), (0, (c : Int)), (0, (sumW (fun i => if (dyS (fun h => m 37 h) (m 4 4) (a + (i : Int)) n).2.2 = -1 then 0 else 1) k)), (0, (k : Int))]) (S' := [(2, 1), (0, (sumW (fun i => if (dyS (fun h => m 37 h) (m 4 4) (a + (i : Int)) n).2.2 = -1 then 0 else 1) k))]) r_58_66 rfl rfl rfl ?_
      refine gx_gf (x := 144) 2 r_58_67 (rfl) (ty_1 hT) ⟨by decide, rfl, by decide, by decide⟩ rfl (fun _ => by omega) (pin_at pn_n62 (t := 144) rfl (by decide)) ?_
      refine gx_gf (x := ((fun i : Nat => if (dyS (fun h => m 37 h) (m 4 4) (a + (i : Int)) n).2.2 = -1 then (0 : Int) else 1) k)) 0 r_58_70 (rfl) (ty_144 hT) ⟨by decide, rfl, by decide, by decide⟩ rfl (fun z => absurd z (by decide)) (u) ?_
      refine gx_st (L' := [(2, 1), (0, a), (0, (c : Int)), (0, (sumW (fun i => if (dyS (fun h => m 37 h) (m 4 4) (a + (i : Int)) n).2.2 = -1 then 0 else 1) k)), (0, (k : Int))]) (S' := [(0, (w32 (((sumW (fun i => if (dyS (fun h => m 37 h) (m 4 4) (a + (i : Int)) n).2.2 = -1 then 0 else 1) k)) + (((fun i : Nat => if (dyS (fun h => m 37 h) (m 4 4) (a + (i : Int)) n).2.2 = -1 then (0 : Int) else 1) k)))))]) r_58_73 rfl rfl rfl ?_
      have k73 := w32_in (((sumW (fun i => if (dyS (fun h => m 37 h) (m 4 4) (a + (i : Int)) n).2.2 = -1 then 0 else 1) k)) + (((fun i : Nat => if (dyS (fun h => m 37 h) (m 4 4) (a + (i : Int)) n).2.2 = -1 then (0 : Int) else 1) k)))
      unfold in32 at k73
      refine gx_st (L' := [(2, 1), (0, a), (0, (c : Int)), (0, (w32 (((sumW (fun i => if (dyS (fun h => m 37 h) (m 4 4) (a + (i : Int)) n).2.2 = -1 then 0 else 1) k)) + (((fun i : Nat => if (dyS (fun h => m 37 h) (m 4 4) (a + (i : Int)) n).2.2 = -1 then (0 : Int) else 1) k))))), (0, (k : Int))]) (S' := []) r_58_74 rfl rfl rfl ?_
      refine gx_li (z := (k : Int) + 1) (L' := [(2, 1), (0, a), (0, (c : Int)), (0, (w32 (((sumW (fun i => if (dyS (fun h => m 37 h) (m 4 4) (a + (i : Int)) n).2.2 = -1 then 0 else 1) k)) + (((fun i : Nat => if (dyS (fun h => m 37 h) (m 4 4) (a + (i : Int)) n).2.2 = -1 then (0 : Int) else 1) k))))), (0, (k : Int) + 1)]) r_58_75 rfl (w32_eq (by omega) (by omega) (by omega)) rfl ?_
      refine gx_st (L' := [(2, 1), (0, a), (0, (c : Int)), (0, (w32 (((sumW (fun i => if (dyS (fun h => m 37 h) (m 4 4) (a + (i : Int)) n).2.2 = -1 then 0 else 1) k)) + (((fun i : Nat => if (dyS (fun h => m 37 h) (m 4 4) (a + (i : Int)) n).2.2 = -1 then (0 : Int) else 1) k))))), (0, (k : Int) + 1)]) (S' := []) r_58_78 rfl rfl rfl ?_
      rw [show (k : Int) + 1 = ((k + 1 : Nat) : Int) from rfl]
      exact ih (k + 1) n62 (by omega) (by omega) hf2
theorem z_58 (hT : TT T) (hp : PinR m) (a b : Int) (h12 : 0 ≤ m 4 2 ∧ m 4 2 ≤ 12) : GX T 3 58 0 [(2, 1), (0, a), (0, b), (9, 0), (9, 0)] [] m (RI (fun v m1 => (¬ (0 < m 4 0 ∧ (0 ≤ a ∧ a ≤ 2000000000) ∧ 1 ≤ b ∧ b ≤ 20) → v = -2) ∧ ∀ n c : Nat, m 4 2 = (n : Int) → b = (c : Int) → (0 < m 4 0 ∧ (0 ≤ a ∧ a ≤ 2000000000) ∧ 1 ≤ b ∧ b ≤ 20) → v = sumW (fun i => if (dyS (fun h => m 37 h) (m 4 4) (a + (i : Int)) n).2.2 = -1 then 0 else 1) c)) := by
  refine gx_st (L' := [(2, 1), (0, a), (0, b), (9, 0), (9, 0)]) (S' := [(2, 1)]) r_58_0 rfl rfl rfl ?_
  refine gx_gf (x := 4) 2 r_58_1 (rfl) (ty_1 hT) ⟨by decide, rfl, by decide, by decide⟩ rfl (fun _ => by omega) (pin_at hp (t := 4) rfl (by decide)) ?_
  refine gx_ci (nx := 7) (S2 := []) (x_252 hT) r_58_4 rfl rfl rfl rfl rfl (rcv_v rfl (ty_4 hT) (by decide) rfl (by decide)) rfl (by decide) rfl (fun x4 n4 q4 => ?_)
  obtain rfl := q4.1.symm
  obtain rfl := q4.2.symm
  show GX T 3 58 7 [(2, 1), (0, a), (0, b), (9, 0), (9, 0)] [(0, (if 0 < m 4 0 then 1 else 0))] m (RI (fun v m1 => (¬ (0 < m 4 0 ∧ (0 ≤ a ∧ a ≤ 2000000000) ∧ 1 ≤ b ∧ b ≤ 20) → v = -2) ∧ ∀ n c : Nat, m 4 2 = (n : Int) → b = (c : Int) → (0 < m 4 0 ∧ (0 ≤ a ∧ a ≤ 2000000000) ∧ 1 ≤ b ∧ b ≤ 20) → v = sumW (fun i => if (dyS (fun h => m 37 h) (m 4 4) (a + (i : Int)) n).2.2 = -1 then 0 else 1) c))
  refine gx_i0 (P := ¬ (0 < m 4 0)) r_58_7 (b01_eq) (fun h7 => ?_) (fun h7 => ?_)
  · refine gx_st (L' := [(2, 1), (0, a), (0, b), (9, 0), (9, 0)]) (S' := [(0, (-2))]) r_58_32 rfl rfl rfl ?_
    exact gx_rt r_58_34 rfl rfl ⟨_, rfl, fun _ => rfl, fun n c e1 e2 z => (by exfalso; omega)⟩
  · have h7 := Decidable.not_not.mp h7
    refine gx_st (L' := [(2, 1), (0, a), (0, b), (9, 0), (9, 0)]) (S' := [(0, a)]) r_58_10 rfl rfl rfl ?_
    refine gx_i0 (P := a < 0) r_58_11 (rfl) (fun h11 => ?_) (fun h11 => ?_)
    · refine gx_st (L' := [(2, 1), (0, a), (0, b), (9, 0), (9, 0)]) (S' := [(0, (-2))]) r_58_32 rfl rfl rfl ?_
      exact gx_rt r_58_34 rfl rfl ⟨_, rfl, fun _ => rfl, fun n c e1 e2 z => (by exfalso; omega)⟩
    · refine gx_st (L' := [(2, 1), (0, a), (0, b), (9, 0), (9, 0)]) (S' := [(0, a)]) r_58_14 rfl rfl rfl ?_
      refine gx_st (L' := [(2, 1), (0, a), (0, b), (9, 0), (9, 0)]) (S' := [(0, 2000000000), (0, a)]) r_58_15 rfl rfl rfl ?_
      refine gx_ic (P := 2000000000 < a) r_58_18 (rfl) (fun h18 => ?_) (fun h18 => ?_)
      · refine gx_st (L' := [(2, 1), (0, a), (0, b), (9, 0), (9, 0)]) (S' := [(0, (-2))]) r_58_32 rfl rfl rfl ?_
        exact gx_rt r_58_34 rfl rfl ⟨_, rfl, fun _ => rfl, fun n c e1 e2 z => (by exfalso; omega)⟩
      · refine gx_st (L' := [(2, 1), (0, a), (0, b), (9, 0), (9, 0)]) (S' := [(0, b)]) r_58_21 rfl rfl rfl ?_
        refine gx_st (L' := [(2, 1), (0, a), (0, b), (9, 0), (9, 0)]) (S' := [(0, 1), (0, b)]) r_58_22 rfl rfl rfl ?_
        refine gx_ic (P := b < 1) r_58_23 (rfl) (fun h23 => ?_) (fun h23 => ?_)
        · refine gx_st (L' := [(2, 1), (0, a), (0, b), (9, 0), (9, 0)]) (S' := [(0, (-2))]) r_58_32 rfl rfl rfl ?_
          exact gx_rt r_58_34 rfl rfl ⟨_, rfl, fun _ => rfl, fun n c e1 e2 z => (by exfalso; omega)⟩
        · refine gx_st (L' := [(2, 1), (0, a), (0, b), (9, 0), (9, 0)]) (S' := [(0, b)]) r_58_26 rfl rfl rfl ?_
          refine gx_st (L' := [(2, 1), (0, a), (0, b), (9, 0), (9, 0)]) (S' := [(0, 20), (0, b)]) r_58_27 rfl rfl rfl ?_
          refine gx_ic (P := b ≤ 20) r_58_29 (rfl) (fun h29 => ?_) (fun h29 => ?_)
          · obtain ⟨c, hcb⟩ : ∃ c : Nat, b = (c : Int) := ⟨b.toNat, by omega⟩
            rw [hcb]
            refine gx_st (L' := [(2, 1), (0, a), (0, (c : Int)), (9, 0), (9, 0)]) (S' := [(0, 0)]) r_58_35 rfl rfl rfl ?_
            refine gx_st (L' := [(2, 1), (0, a), (0, (c : Int)), (0, 0), (9, 0)]) (S' := []) r_58_36 rfl rfl rfl ?_
            refine gx_st (L' := [(2, 1), (0, a), (0, (c : Int)), (0, 0), (9, 0)]) (S' := [(0, 0)]) r_58_37 rfl rfl rfl ?_
            refine gx_st (L' := [(2, 1), (0, a), (0, (c : Int)), (0, 0), (0, 0)]) (S' := []) r_58_38 rfl rfl rfl ?_
            exact gx_imp (gx_d (lk_l hT hp (n := (m 4 2).toNat) (c := c) (a := a) (by omega) (by omega) (by omega) (by omega) (c + 1) 0 m (by omega) (by omega) (fun _ _ _ => rfl)) (by decide)) (fun v m1 ⟨x, e, q⟩ => ⟨x, e, fun z => absurd z (by omega), fun n2 c2 e1 e2 z => by rw [show n2 = (m 4 2).toNat by omega, show c2 = c by omega]; exact q⟩)
          · refine gx_st (L' := [(2, 1), (0, a), (0, b), (9, 0), (9, 0)]) (S' := [(0, (-2))]) r_58_32 rfl rfl rfl ?_
            exact gx_rt r_58_34 rfl rfl ⟨_, rfl, fun _ => rfl, fun n c e1 e2 z => (by exfalso; omega)⟩
theorem y_221 (a : Int) : GX T 1 221 0 [(0, a)] [] m (RI (fun v m1 => v = (if 0 ≤ a ∧ a ≤ 2000000000 then 1 else 0) ∧ m1 = m)) := by
  refine gx_st (L' := [(0, a)]) (S' := [(0, a)]) r_221_0 rfl rfl rfl ?_
  refine gx_st (L' := [(0, a)]) (S' := [(1, a)]) r_221_1 rfl rfl rfl ?_
  refine gx_st (L' := [(0, a)]) (S' := [(1, 0), (1, a)]) r_221_2 rfl rfl rfl ?_
  refine gx_st (L' := [(0, a)]) (S' := [(1, 2000000000), (1, 0), (1, a)]) r_221_3 rfl rfl rfl ?_
  refine gx_ci (nx := 9) (S2 := []) (x_86 a 0 2000000000) r_221_6 rfl rfl rfl rfl rfl rfl rfl (by decide) rfl (fun x6 n6 q6 => ?_)
  obtain rfl := q6.1.symm
  obtain rfl := q6.2.symm
  show GX T 1 221 9 [(0, a)] [(0, (if 0 ≤ a ∧ a ≤ 2000000000 then 1 else 0))] m (RI (fun v m1 => v = (if 0 ≤ a ∧ a ≤ 2000000000 then 1 else 0) ∧ m1 = m))
  exact gx_rb r_221_9 rfl (by split <;> omega) ⟨_, rfl, rfl, rfl⟩
theorem dr_l (hT : TT T) (hp : PinR m) {n : Nat} {sd : Int} (hn : m 193 1 = (n : Int)) (hn12 : n ≤ 12) : ∀ (N k : Nat) (p : Mm) (x : Int) (d : Nat), n - k < N → k ≤ n → (∀ o i : Nat, ¬ (o = 192 ∧ (i = 21 ∨ i = 36)) → p o i = m o i) → p 192 21 = m 192 21 → p 192 36 = (d : Int) → dyS (fun h => m 201 h) (m 193 3) sd k = (x, d, -1) → (0 ≤ x ∧ x < 2147483648) → d ≤ k → GX T 0 220 15 [(2, 192), (1, sd), (9, 0), (1, x), (9, 0), (0, (k : Int))] [] p (RI (fun v m1 => DyR (m 192 21) (dyS (fun h => m 201 h) (m 193 3) sd n) (m1 192 21) v (m1 192 36))) := by
  intro N
  induction N with
  | zero => intro k p x d hN; exact absurd hN (Nat.not_lt_zero _)
  | succ N ih =>
    intro k p x d hN hk hf z0 z2 hs hb hd
    have pp : PinR p := fun o i hq => (hf o i (fun z => by obtain ⟨z1, z2 | z2⟩ := z <;> (subst z1; subst z2; exact hq rfl))).trans (hp o i hq)
    have bl := lcg_b x
    refine gx_st (L' := [(2, 192), (1, sd), (9, 0), (1, x), (9, 0), (0, (k : Int))]) (S' := [(0, (k : Int))]) r_220_15 rfl rfl rfl ?_
    refine gx_st (L' := [(2, 192), (1, sd), (9, 0), (1, x), (9, 0), (0, (k : Int))]) (S' := [(2, 192), (0, (k : Int))]) r_220_17 rfl rfl rfl ?_
    refine gx_gf (x := 193) 2 r_220_18 (rfl) (ty_192 hT) ⟨by decide, rfl, by decide, by decide⟩ rfl (fun _ => by omega) (pin_at pp (t := 193) rfl (by decide)) ?_
    refine gx_st (L' := [(2, 192), (1, sd), (9, 0), (1, x), (9, 0), (0, (k : Int))]) (S' := [(0, 1), (2, 193), (0, (k : Int))]) r_220_21 rfl rfl rfl ?_
    refine gx_ia (n := 1) (x := (n : Int)) r_220_22 (rfl) (ty_193 hT) (rfl) ⟨rfl, by decide⟩ (((hf 193 1 (by omega)).trans hn)) ?_
    refine gx_ic (P := (n : Int) ≤ (k : Int)) r_220_23 (rfl) (fun h23 => ?_) (fun h23 => ?_)
    · refine gx_st (L' := [(2, 192), (1, sd), (9, 0), (1, x), (9, 0), (0, (k : Int))]) (S' := [(0, 0)]) r_220_101 rfl rfl rfl ?_
      have hkn : k = n := by omega
      subst hkn
      exact gx_rb r_220_102 rfl (by decide) ⟨_, rfl, dyr_n hs z0 rfl z2⟩
    · refine gx_st (L' := [(2, 192), (1, sd), (9, 0), (1, x), (9, 0), (0, (k : Int))]) (S' := [(2, 192)]) r_220_26 rfl rfl rfl ?_
      refine gx_gf (x := 201) 2 r_220_27 (rfl) (ty_192 hT) ⟨by decide, rfl, by decide, by decide⟩ rfl (fun _ => by omega) (pin_at pp (t := 201) rfl (by decide)) ?_
      refine gx_st (L' := [(2, 192), (1, sd), (9, 0), (1, x), (9, 0), (0, (k : Int))]) (S' := [(0, (k : Int)), (2, 201)]) r_220_30 rfl rfl rfl ?_
      refine gx_ia (n := k) (x := (m 201 k)) r_220_32 (rfl) (ty_201 hT) (by omega) ⟨rfl, by omega⟩ ((hf 201 k (by omega))) ?_
      refine gx_st (L' := [(2, 192), (1, sd), (9, 0), (1, x), (9, 0), (0, (k : Int))]) (S' := [(0, 2), (0, (m 201 k))]) r_220_33 rfl rfl rfl ?_
      refine gx_ic (P := (m 201 k) = 2) r_220_34 (rfl) (fun h34 => ?_) (fun h34 => ?_)
      · refine gx_st (L' := [(2, 192), (1, sd), (9, 0), (1, x), (9, 0), (0, (k : Int))]) (S' := [(1, 1103515245)]) r_220_40 rfl rfl rfl ?_
        refine gx_st (L' := [(2, 192), (1, sd), (9, 0), (1, x), (9, 0), (0, (k : Int))]) (S' := [(1, x), (1, 1103515245)]) r_220_43 rfl rfl rfl ?_
        refine gx_ar (L' := [(2, 192), (1, sd), (9, 0), (1, x), (9, 0), (0, (k : Int))]) (S' := []) (t := 1) (e := w64 (1103515245 * x)) (z := 1103515245 * x) r_220_44 rfl rfl rfl (w64_eq (by omega) (by omega) (by omega)) ?_
        refine gx_st (L' := [(2, 192), (1, sd), (9, 0), (1, x), (9, 0), (0, (k : Int))]) (S' := [(1, 12345), (1, 1103515245 * x)]) r_220_45 rfl rfl rfl ?_
        refine gx_ar (L' := [(2, 192), (1, sd), (9, 0), (1, x), (9, 0), (0, (k : Int))]) (S' := []) (t := 1) (e := w64 ((1103515245 * x) + 12345)) (z := 1103515245 * x + 12345) r_220_48 rfl rfl rfl (w64_eq (by omega) (by omega) (by omega)) ?_
        refine gx_st (L' := [(2, 192), (1, sd), (9, 0), (1, x), (9, 0), (0, (k : Int))]) (S' := [(1, 2147483648), (1, 1103515245 * x + 12345)]) r_220_49 rfl rfl rfl ?_
        refine gx_lrm (z := ((1103515245 * x + 12345) % 2147483648)) r_220_52 (by decide) (tm_eq (by omega) rfl) ?_
        show GX T 0 220 53 [(2, 192), (1, sd), (9, 0), (1, x), (9, 0), (0, (k : Int))] [(1, (lcg x))] p (RI (fun v m1 => DyR (m 192 21) (dyS (fun h => m 201 h) (m 193 3) sd n) (m1 192 21) v (m1 192 36)))
        refine gx_st (L' := [(2, 192), (1, sd), (9, 0), (1, (lcg x)), (9, 0), (0, (k : Int))]) (S' := []) r_220_53 rfl rfl rfl ?_
        refine gx_st (L' := [(2, 192), (1, sd), (9, 0), (1, (lcg x)), (9, 0), (0, (k : Int))]) (S' := [(2, 192)]) r_220_54 rfl rfl rfl ?_
        refine gx_st (L' := [(2, 192), (1, sd), (9, 0), (1, (lcg x)), (9, 0), (0, (k : Int))]) (S' := [(2, 192), (2, 192)]) r_220_55 rfl rfl rfl ?_
        refine gx_gf (x := (d : Int)) 0 r_220_56 (rfl) (ty_192 hT) ⟨by decide, rfl, by decide, by decide⟩ rfl (fun z => absurd z (by decide)) (z2) ?_
        refine gx_st (L' := [(2, 192), (1, sd), (9, 0), (1, (lcg x)), (9, 0), (0, (k : Int))]) (S' := [(0, 1), (0, (d : Int)), (2, 192)]) r_220_59 rfl rfl rfl ?_
        refine gx_ar (L' := [(2, 192), (1, sd), (9, 0), (1, (lcg x)), (9, 0), (0, (k : Int))]) (S' := [(2, 192)]) (t := 0) (e := w32 ((d : Int) + 1)) (z := (d : Int) + 1) r_220_60 rfl rfl rfl (w32_eq (by omega) (by omega) (by omega)) ?_
        obtain ⟨m1, e_m1⟩ : ∃ z, z = nu_up p 192 36 ((d : Int) + 1) := ⟨_, rfl⟩
        refine gx_pf (x := (d : Int) + 1) 0 r_220_61 (rfl) (ty_192 hT) ⟨by decide, rfl, by decide, by decide⟩ rfl (fun z => absurd z (by decide)) (fun z => absurd z (by decide)) e_m1.symm ?_
        refine gx_st (L' := [(2, 192), (1, sd), (9, 0), (1, (lcg x)), (9, 0), (0, (k : Int))]) (S' := [(1, (lcg x))]) r_220_64 rfl rfl rfl ?_
        refine gx_st (L' := [(2, 192), (1, sd), (9, 0), (1, (lcg x)), (9, 0), (0, (k : Int))]) (S' := [(1, 65536), (1, (lcg x))]) r_220_65 rfl rfl rfl ?_
        refine gx_ldv (z := ((lcg x) / 65536)) r_220_68 (by decide) (w64_td (by omega) rfl (by omega) (by omega)) ?_
        refine gx_st (L' := [(2, 192), (1, sd), (9, 0), (1, (lcg x)), (9, 0), (0, (k : Int))]) (S' := [(1, 10), (1, ((lcg x) / 65536))]) r_220_69 rfl rfl rfl ?_
        refine gx_lrm (z := ((((lcg x) / 65536)) % 10)) r_220_72 (by decide) (tm_eq (by omega) rfl) ?_
        refine gx_st (L' := [(2, 192), (1, sd), (9, 0), (1, (lcg x)), (9, 0), (0, (k : Int))]) (S' := [(2, 192), (1, ((((lcg x) / 65536)) % 10))]) r_220_73 rfl rfl rfl ?_
        refine gx_gf (x := 193) 2 r_220_74 (rfl) (ty_192 hT) ⟨by decide, rfl, by decide, by decide⟩ rfl (fun _ => by omega) (by show m1 192 1 = _; rw [e_m1, nu_ne (by decide)]; exact pin_at pp (t := 193) rfl (by decide)) ?_
        refine gx_st (L' := [(2, 192), (1, sd), (9, 0), (1, (lcg x)), (9, 0), (0, (k : Int))]) (S' := [(0, 3), (2, 193), (1, ((((lcg x) / 65536)) % 10))]) r_220_77 rfl rfl rfl ?_
        refine gx_ia (n := 3) (x := (m 193 3)) r_220_78 (rfl) (ty_193 hT) (rfl) ⟨rfl, by decide⟩ (by show m1 193 3 = _; rw [e_m1, nu_no (by decide)]; exact (hf 193 3 (by omega))) ?_
        refine gx_st (L' := [(2, 192), (1, sd), (9, 0), (1, (lcg x)), (9, 0), (0, (k : Int))]) (S' := [(1, (m 193 3)), (1, ((((lcg x) / 65536)) % 10))]) r_220_79 rfl rfl rfl ?_
        refine gx_st (L' := [(2, 192), (1, sd), (9, 0), (1, (lcg x)), (9, 0), (0, (k : Int))]) (S' := [(0, (if (((((lcg x) / 65536)) % 10)) < (m 193 3) then -1 else if (((((lcg x) / 65536)) % 10)) = (m 193 3) then 0 else 1))]) r_220_80 rfl rfl rfl ?_
        refine gx_i0 (P := (((((lcg x) / 65536)) % 10)) < (m 193 3)) r_220_81 (lc_lt) (fun h81 => ?_) (fun h81 => ?_)
        · refine gx_st (L' := [(2, 192), (1, sd), (9, 0), (1, (lcg x)), (9, 0), (0, (k : Int))]) (S' := [(2, 192)]) r_220_87 rfl rfl rfl ?_
          refine gx_st (L' := [(2, 192), (1, sd), (9, 0), (1, (lcg x)), (9, 0), (0, (k : Int))]) (S' := [(0, (k : Int)), (2, 192)]) r_220_88 rfl rfl rfl ?_
          obtain ⟨m2, e_m2⟩ : ∃ z, z = nu_up m1 192 21 (k : Int) := ⟨_, rfl⟩
          refine gx_pf (x := (k : Int)) 0 r_220_90 (rfl) (ty_192 hT) ⟨by decide, rfl, by decide, by decide⟩ rfl (fun z => absurd z (by decide)) (fun z => absurd z (by decide)) e_m2.symm ?_
          refine gx_st (L' := [(2, 192), (1, sd), (9, 0), (1, (lcg x)), (9, 0), (0, (k : Int))]) (S' := [(0, 1)]) r_220_93 rfl rfl rfl ?_
          have hy := dyS_y (f := fun h => m 201 h) hs h34
          rw [if_pos (by omega)] at hy
          have fz := dyS_fz (f := fun h => m 201 h) (od := m 193 3) (sd := sd) (k := k + 1) (by rw [hy]; show ¬ (k : Int) = -1; omega) n (by omega)
          exact gx_rb r_220_94 rfl (by decide) ⟨_, rfl, dyr_y (fz.trans hy) (by omega) (by rw [e_m2, nu_at]) rfl (by rw [e_m2, nu_ne (by decide), e_m1, nu_at]; omega)⟩
        · refine gx_st (L' := [(2, 192), (1, sd), (9, 0), (1, (lcg x)), (9, 0), (0, (k : Int))]) (S' := []) r_220_84 rfl rfl rfl ?_
          refine gx_li (z := (k : Int) + 1) (L' := [(2, 192), (1, sd), (9, 0), (1, (lcg x)), (9, 0), (0, (k : Int) + 1)]) r_220_95 rfl (w32_eq (by omega) (by omega) (by omega)) rfl ?_
          refine gx_st (L' := [(2, 192), (1, sd), (9, 0), (1, (lcg x)), (9, 0), (0, (k : Int) + 1)]) (S' := []) r_220_98 rfl rfl rfl ?_
          rw [show (k : Int) + 1 = ((k + 1 : Nat) : Int) from rfl]
          have hy := dyS_y (f := fun h => m 201 h) hs h34
          rw [if_neg (by omega)] at hy
          exact ih (k + 1) m1 (lcg x) (d + 1) (by omega) (by omega) (fun o i z => by rw [e_m1, nu_x (by omega)]; exact hf o i z) (by rw [e_m1, nu_ne (by decide)]; exact z0) (by rw [e_m1, nu_at]; omega) hy bl (by omega)
      · refine gx_st (L' := [(2, 192), (1, sd), (9, 0), (1, x), (9, 0), (0, (k : Int))]) (S' := []) r_220_37 rfl rfl rfl ?_
        refine gx_li (z := (k : Int) + 1) (L' := [(2, 192), (1, sd), (9, 0), (1, x), (9, 0), (0, (k : Int) + 1)]) r_220_95 rfl (w32_eq (by omega) (by omega) (by omega)) rfl ?_
        refine gx_st (L' := [(2, 192), (1, sd), (9, 0), (1, x), (9, 0), (0, (k : Int) + 1)]) (S' := []) r_220_98 rfl rfl rfl ?_
        rw [show (k : Int) + 1 = ((k + 1 : Nat) : Int) from rfl]
        exact ih (k + 1) p x d (by omega) (by omega) hf z0 z2 ((dyS_n (f := fun h => m 201 h) h34).trans hs) hb (by omega)
theorem v_220 (hT : TT T) (h136 : ConH T cn_136) (hp : PinR m) (hm : Gam m) (hx : Ext m) (wb : WB (pw (m 193))) (wp : WP (pw (m 193))) {sd : Int} (hs0 : 0 ≤ sd ∧ sd < 2147483648) : GX T 11 220 0 [(2, 192), (1, sd), (9, 0), (9, 0), (9, 0), (9, 0)] [] m (RI (fun v m1 => ∃ m0 : Mm, AskR m m0 ∧ ∀ k : Nat, m 193 1 = (k : Int) → DyR (m0 192 21) (dyS (fun h => m0 201 h) (m 193 3) sd k) (m1 192 21) v (m1 192 36))) := by
  refine gx_st (L' := [(2, 192), (1, sd), (9, 0), (9, 0), (9, 0), (9, 0)]) (S' := [(2, 192)]) r_220_0 rfl rfl rfl ?_
  refine gx_ci (nx := 4) (S2 := []) (y_146 hT h136 hp hm hx wb wp) r_220_1 rfl rfl rfl rfl rfl (rcv_v rfl (ty_192 hT) (by decide) rfl (by decide)) rfl (by decide) rfl (fun x1 n1 q1 => ?_)
  obtain ⟨e_x1, ak, hp1, gm1, gx1, f1, fs1⟩ := q1
  have e193 : n1 193 = m 193 := funext (Fr_cell (o := 193) f1 (by decide) (by decide))
  rw [e_x1]
  show GX T 11 220 4 [(2, 192), (1, sd), (9, 0), (9, 0), (9, 0), (9, 0)] [(0, (if 0 < m 193 9 then 1 else 0))] n1 (RI (fun v m1 => ∃ m0 : Mm, AskR m m0 ∧ ∀ k : Nat, m 193 1 = (k : Int) → DyR (m0 192 21) (dyS (fun h => m0 201 h) (m 193 3) sd k) (m1 192 21) v (m1 192 36)))
  show GX T 11 220 4 [(2, 192), (1, sd), (9, 0), (9, 0), (9, 0), (9, 0)] [(0, (if 0 < m 193 9 then 1 else 0))] n1 (RI (fun v m1 => ∃ m0 : Mm, AskR m m0 ∧ ∀ k : Nat, m 193 1 = (k : Int) → DyR (m0 192 21) (dyS (fun h => m0 201 h) (m 193 3) sd k) (m1 192 21) v (m1 192 36)))
  have b1 := gb_193_1 hm
  have b3 := gb_193_3 hm
  obtain ⟨n, hn⟩ : ∃ n : Nat, m 193 1 = (n : Int) := ⟨(m 193 1).toNat, by omega⟩
  refine gx_st (L' := [(2, 192), (1, sd), (9, 0), (9, 0), (9, 0), (9, 0)]) (S' := []) r_220_4 rfl rfl rfl ?_
  refine gx_st (L' := [(2, 192), (1, sd), (9, 0), (9, 0), (9, 0), (9, 0)]) (S' := [(1, sd)]) r_220_5 rfl rfl rfl ?_
  refine gx_st (L' := [(2, 192), (1, sd), (9, 0), (1, sd), (9, 0), (9, 0)]) (S' := []) r_220_6 rfl rfl rfl ?_
  refine gx_st (L' := [(2, 192), (1, sd), (9, 0), (1, sd), (9, 0), (9, 0)]) (S' := [(2, 192)]) r_220_7 rfl rfl rfl ?_
  refine gx_st (L' := [(2, 192), (1, sd), (9, 0), (1, sd), (9, 0), (9, 0)]) (S' := [(0, 0), (2, 192)]) r_220_8 rfl rfl rfl ?_
  obtain ⟨m1, e_m1⟩ : ∃ z, z = nu_up n1 192 36 0 := ⟨_, rfl⟩
  refine gx_pf (x := 0) 0 r_220_9 (rfl) (ty_192 hT) ⟨by decide, rfl, by decide, by decide⟩ rfl (fun z => absurd z (by decide)) (fun z => absurd z (by decide)) e_m1.symm ?_
  refine gx_st (L' := [(2, 192), (1, sd), (9, 0), (1, sd), (9, 0), (9, 0)]) (S' := [(0, 0)]) r_220_12 rfl rfl rfl ?_
  refine gx_st (L' := [(2, 192), (1, sd), (9, 0), (1, sd), (9, 0), (0, 0)]) (S' := []) r_220_13 rfl rfl rfl ?_
  refine gx_imp (gx_d (dr_l hT hp1 (n := n) (sd := sd) (by rw [e193]; exact hn) (by omega) (n + 1) 0 m1 sd 0 (by omega) (by omega) (fun o i z => by rw [e_m1, nu_x (by omega)]) (by rw [e_m1, nu_ne (by decide)]) (by rw [e_m1, nu_at]; rfl) rfl hs0 (by omega)) (by decide)) (fun v m1 ⟨y, e, q⟩ => ⟨y, e, n1, ak, fun k ek => ?_⟩)
  rw [e193] at q
  rw [show k = n by omega]
  exact q
set_option maxRecDepth 100000 in
theorem cu_220x : conL[932]? = some (220, [(2, 90, 0), (1, (-9223372036854775808), 9223372036854775807)], (0, 0, 1), [90021, 90022, 90023, 90024, 90025, 90026, 90027, 90036, 97999, 98999, 99999, 100999, 101999, 102999], 11) := rfl
set_option maxRecDepth 100000 in
theorem pu_220 (hT : TT T) : ConX T (220, [(2, 90, 0), (1, (-9223372036854775808), 9223372036854775807)], (0, 0, 1), [90021, 90022, 90023, 90024, 90025, 90026, 90027, 90036, 97999, 98999, 99999, 100999, 101999, 102999], 11) false true := by
  have z := ((all_con hT 932).2 (by decide)) _ cu_220x
  rw [show (Fl 932).2 = (false, true) by decide] at z
  exact z
theorem y_220 (hT : TT T) (h136 : ConH T cn_136) (hp : PinR m) (hm : Gam m) (hx : Ext m) (wb : WB (pw (m 193))) (wp : WP (pw (m 193))) {sd : Int} (hs0 : 0 ≤ sd ∧ sd < 2147483648) : GX T 11 220 0 [(2, 192), (1, sd), (9, 0), (9, 0), (9, 0), (9, 0)] [] m (RI (fun v m1 => (∃ m0 : Mm, AskR m m0 ∧ ∀ k : Nat, m 193 1 = (k : Int) → DyR (m0 192 21) (dyS (fun h => m0 201 h) (m 193 3) sd k) (m1 192 21) v (m1 192 36)) ∧ PinR m1 ∧ Gam m1 ∧ Ext m1 ∧ m1 193 = m 193)) := by
  have c := gx_xi (args := [(2, 192), (1, sd)]) (pu_220 hT) ⟨gq_o192, q64_ok (by unfold in64; omega), trivial⟩ hm hx (fun z => absurd z (by decide)) rfl
  exact gx_imp (gx_ai (v_220 hT h136 hp hm hx wb wp hs0) c) (fun v m1 ⟨x, e, a, _, _, g, y, f, _⟩ => ⟨x, e, a, PinR_fr f (by decide) hp, g, y, funext (Fr_cell (o := 193) f (by decide) (by decide))⟩)
theorem y_222 (hT : TT T) (h136 : ConH T cn_136) (hp : PinR m) (hm : Gam m) (hx : Ext m) (wb : WB (pw (m 193))) (wp : WP (pw (m 193))) (a b : Int) : GX T 12 222 0 [(2, 192), (0, a), (0, b), (9, 0)] [] m (RI (fun v m1 => (¬ (0 < m 193 9 ∧ (0 ≤ a ∧ a ≤ 2000000000) ∧ 0 ≤ b ∧ b ≤ 2) → v = -2) ∧ ∀ k : Nat, m 193 1 = (k : Int) → (0 < m 193 9 ∧ (0 ≤ a ∧ a ≤ 2000000000) ∧ 0 ≤ b ∧ b ≤ 2) → ∃ m0 : Mm, AskR m m0 ∧ ∃ x y z : Int, DyR (m0 192 21) (dyS (fun h => m0 201 h) (m 193 3) a k) x y z ∧ (b = 0 → v = x) ∧ (b = 1 → v = y) ∧ (b = 2 → v = z))) := by
  refine gx_st (L' := [(2, 192), (0, a), (0, b), (9, 0)]) (S' := [(2, 192)]) r_222_0 rfl rfl rfl ?_
  refine gx_ci (nx := 4) (S2 := []) (x_90 hT hm) r_222_1 rfl rfl rfl rfl rfl (rcv_v rfl (ty_192 hT) (by decide) rfl (by decide)) rfl (by decide) rfl (fun x1 n1 q1 => ?_)
  obtain rfl := q1.1.symm
  obtain rfl := q1.2.symm
  show GX T 12 222 4 [(2, 192), (0, a), (0, b), (9, 0)] [(0, (if 0 < m 193 9 then 1 else 0))] m (RI (fun v m1 => (¬ (0 < m 193 9 ∧ (0 ≤ a ∧ a ≤ 2000000000) ∧ 0 ≤ b ∧ b ≤ 2) → v = -2) ∧ ∀ k : Nat, m 193 1 = (k : Int) → (0 < m 193 9 ∧ (0 ≤ a ∧ a ≤ 2000000000) ∧ 0 ≤ b ∧ b ≤ 2) → ∃ m0 : Mm, AskR m m0 ∧ ∃ x y z : Int, DyR (m0 192 21) (dyS (fun h => m0 201 h) (m 193 3) a k) x y z ∧ (b = 0 → v = x) ∧ (b = 1 → v = y) ∧ (b = 2 → v = z)))
  refine gx_i0 (P := ¬ (0 < m 193 9)) r_222_4 (b01_eq) (fun h4 => ?_) (fun h4 => ?_)
  · refine gx_st (L' := [(2, 192), (0, a), (0, b), (9, 0)]) (S' := [(0, (-2))]) r_222_26 rfl rfl rfl ?_
    exact gx_rt r_222_28 rfl rfl ⟨_, rfl, fun _ => rfl, fun k e z => (by exfalso; omega)⟩
  · have h4 := Decidable.not_not.mp h4
    refine gx_st (L' := [(2, 192), (0, a), (0, b), (9, 0)]) (S' := [(0, a)]) r_222_7 rfl rfl rfl ?_
    refine gx_ci (nx := 11) (S2 := []) (y_221 a) r_222_8 rfl rfl rfl rfl rfl rfl rfl (by decide) rfl (fun x8 n8 q8 => ?_)
    obtain rfl := q8.1.symm
    obtain rfl := q8.2.symm
    show GX T 12 222 11 [(2, 192), (0, a), (0, b), (9, 0)] [(0, (if 0 ≤ a ∧ a ≤ 2000000000 then 1 else 0))] m (RI (fun v m1 => (¬ (0 < m 193 9 ∧ (0 ≤ a ∧ a ≤ 2000000000) ∧ 0 ≤ b ∧ b ≤ 2) → v = -2) ∧ ∀ k : Nat, m 193 1 = (k : Int) → (0 < m 193 9 ∧ (0 ≤ a ∧ a ≤ 2000000000) ∧ 0 ≤ b ∧ b ≤ 2) → ∃ m0 : Mm, AskR m m0 ∧ ∃ x y z : Int, DyR (m0 192 21) (dyS (fun h => m0 201 h) (m 193 3) a k) x y z ∧ (b = 0 → v = x) ∧ (b = 1 → v = y) ∧ (b = 2 → v = z)))
    refine gx_i0 (P := ¬ (0 ≤ a ∧ a ≤ 2000000000)) r_222_11 (b01_eq) (fun h11 => ?_) (fun h11 => ?_)
    · refine gx_st (L' := [(2, 192), (0, a), (0, b), (9, 0)]) (S' := [(0, (-2))]) r_222_26 rfl rfl rfl ?_
      exact gx_rt r_222_28 rfl rfl ⟨_, rfl, fun _ => rfl, fun k e z => (by exfalso; omega)⟩
    · have h11 := Decidable.not_not.mp h11
      refine gx_st (L' := [(2, 192), (0, a), (0, b), (9, 0)]) (S' := [(0, b)]) r_222_14 rfl rfl rfl ?_
      refine gx_st (L' := [(2, 192), (0, a), (0, b), (9, 0)]) (S' := [(1, b)]) r_222_15 rfl rfl rfl ?_
      refine gx_st (L' := [(2, 192), (0, a), (0, b), (9, 0)]) (S' := [(1, 0), (1, b)]) r_222_16 rfl rfl rfl ?_
      refine gx_st (L' := [(2, 192), (0, a), (0, b), (9, 0)]) (S' := [(1, 2), (1, 0), (1, b)]) r_222_17 rfl rfl rfl ?_
      refine gx_ci (nx := 23) (S2 := []) (x_86 b 0 2) r_222_20 rfl rfl rfl rfl rfl rfl rfl (by decide) rfl (fun x20 n20 q20 => ?_)
      obtain rfl := q20.1.symm
      obtain rfl := q20.2.symm
      show GX T 12 222 23 [(2, 192), (0, a), (0, b), (9, 0)] [(0, (if 0 ≤ b ∧ b ≤ 2 then 1 else 0))] m (RI (fun v m1 => (¬ (0 < m 193 9 ∧ (0 ≤ a ∧ a ≤ 2000000000) ∧ 0 ≤ b ∧ b ≤ 2) → v = -2) ∧ ∀ k : Nat, m 193 1 = (k : Int) → (0 < m 193 9 ∧ (0 ≤ a ∧ a ≤ 2000000000) ∧ 0 ≤ b ∧ b ≤ 2) → ∃ m0 : Mm, AskR m m0 ∧ ∃ x y z : Int, DyR (m0 192 21) (dyS (fun h => m0 201 h) (m 193 3) a k) x y z ∧ (b = 0 → v = x) ∧ (b = 1 → v = y) ∧ (b = 2 → v = z)))
      refine gx_i0 (P := 0 ≤ b ∧ b ≤ 2) r_222_23 (b01_ne) (fun h23 => ?_) (fun h23 => ?_)
      · have b1 := gb_193_1 hm
        refine gx_st (L' := [(2, 192), (0, a), (0, b), (9, 0)]) (S' := [(2, 192)]) r_222_29 rfl rfl rfl ?_
        refine gx_st (L' := [(2, 192), (0, a), (0, b), (9, 0)]) (S' := [(0, a), (2, 192)]) r_222_30 rfl rfl rfl ?_
        refine gx_st (L' := [(2, 192), (0, a), (0, b), (9, 0)]) (S' := [(1, a), (2, 192)]) r_222_31 rfl rfl rfl ?_
        refine gx_ci (nx := 35) (S2 := []) (y_220 hT h136 hp hm hx wb wp (sd := a) (by omega)) r_222_32 rfl rfl rfl rfl rfl (rcv_v rfl (ty_192 hT) (by decide) rfl (by decide)) rfl (by decide) rfl (fun x32 n32 q32 => ?_)
        obtain ⟨⟨m0, ak, dy⟩, hp1, gm1, gx1, e193⟩ := q32
        have dyb := (dy (m 193 1).toNat (by omega)).2.1
        show GX T 12 222 35 [(2, 192), (0, a), (0, b), (9, 0)] [(0, x32)] n32 (RI (fun v m1 => (¬ (0 < m 193 9 ∧ (0 ≤ a ∧ a ≤ 2000000000) ∧ 0 ≤ b ∧ b ≤ 2) → v = -2) ∧ ∀ k : Nat, m 193 1 = (k : Int) → (0 < m 193 9 ∧ (0 ≤ a ∧ a ≤ 2000000000) ∧ 0 ≤ b ∧ b ≤ 2) → ∃ m0 : Mm, AskR m m0 ∧ ∃ x y z : Int, DyR (m0 192 21) (dyS (fun h => m0 201 h) (m 193 3) a k) x y z ∧ (b = 0 → v = x) ∧ (b = 1 → v = y) ∧ (b = 2 → v = z)))
        refine gx_st (L' := [(2, 192), (0, a), (0, b), (0, x32)]) (S' := []) r_222_35 rfl rfl rfl ?_
        refine gx_st (L' := [(2, 192), (0, a), (0, b), (0, x32)]) (S' := [(0, b)]) r_222_36 rfl rfl rfl ?_
        refine gx_i0 (P := ¬ b = 0) r_222_37 (rfl) (fun h37 => ?_) (fun h37 => ?_)
        · refine gx_st (L' := [(2, 192), (0, a), (0, b), (0, x32)]) (S' := [(0, b)]) r_222_47 rfl rfl rfl ?_
          refine gx_st (L' := [(2, 192), (0, a), (0, b), (0, x32)]) (S' := [(0, 2), (0, b)]) r_222_48 rfl rfl rfl ?_
          refine gx_ic (P := ¬ b = 2) r_222_49 (rfl) (fun h49 => ?_) (fun h49 => ?_)
          · have x01 : x32 = 0 ∨ x32 = 1 := by rw [dyb]; split <;> omega
            refine gx_st (L' := [(2, 192), (0, a), (0, b), (0, x32)]) (S' := [(0, x32)]) r_222_59 rfl rfl rfl ?_
            refine gx_i0 (P := x32 = 0) r_222_60 (rfl) (fun h60 => ?_) (fun h60 => ?_)
            · refine gx_st (L' := [(2, 192), (0, a), (0, b), (0, x32)]) (S' := [(0, 0)]) r_222_67 rfl rfl rfl ?_
              exact gx_rt r_222_68 rfl rfl ⟨_, rfl, fun z => absurd z (by omega), fun k e z => ⟨m0, ak, n32 192 21, x32, n32 192 36, dy k e, fun z0 => by exfalso; omega, fun z1 => by have := h60; have w := dyb; by_cases c : (dyS (fun h => m0 201 h) (m 193 3) a (m 193 1).toNat).2.2 = -1 <;> simp only [c, if_true, if_false, ite_true, ite_false] at w <;> omega, fun z2 => by exfalso; omega⟩⟩
            · refine gx_st (L' := [(2, 192), (0, a), (0, b), (0, x32)]) (S' := [(0, 1)]) r_222_63 rfl rfl rfl ?_
              refine gx_st (L' := [(2, 192), (0, a), (0, b), (0, x32)]) (S' := [(0, 1)]) r_222_64 rfl rfl rfl ?_
              exact gx_rt r_222_68 rfl rfl ⟨_, rfl, fun z => absurd z (by omega), fun k e z => ⟨m0, ak, n32 192 21, x32, n32 192 36, dy k e, fun z0 => by exfalso; omega, fun z1 => by have := h60; have w := dyb; by_cases c : (dyS (fun h => m0 201 h) (m 193 3) a (m 193 1).toNat).2.2 = -1 <;> simp only [c, if_true, if_false, ite_true, ite_false] at w <;> omega, fun z2 => by exfalso; omega⟩⟩
          · have h49 := Decidable.not_not.mp h49
            refine gx_st (L' := [(2, 192), (0, a), (0, b), (0, x32)]) (S' := [(2, 192)]) r_222_52 rfl rfl rfl ?_
            refine gx_gf (x := (n32 192 36)) 0 r_222_53 (rfl) (ty_192 hT) ⟨by decide, rfl, by decide, by decide⟩ rfl (fun z => absurd z (by decide)) (rfl) ?_
            refine gx_st (L' := [(2, 192), (0, a), (0, b), (0, x32)]) (S' := [(0, (n32 192 36))]) r_222_56 rfl rfl rfl ?_
            exact gx_rt r_222_68 rfl rfl ⟨_, rfl, fun z => absurd z (by omega), fun k e z => ⟨m0, ak, n32 192 21, x32, n32 192 36, dy k e, fun z0 => by exfalso; omega, fun z1 => by exfalso; omega, fun z2 => rfl⟩⟩
        · have h37 := Decidable.not_not.mp h37
          refine gx_st (L' := [(2, 192), (0, a), (0, b), (0, x32)]) (S' := [(2, 192)]) r_222_40 rfl rfl rfl ?_
          refine gx_gf (x := (n32 192 21)) 0 r_222_41 (rfl) (ty_192 hT) ⟨by decide, rfl, by decide, by decide⟩ rfl (fun z => absurd z (by decide)) (rfl) ?_
          refine gx_st (L' := [(2, 192), (0, a), (0, b), (0, x32)]) (S' := [(0, (n32 192 21))]) r_222_44 rfl rfl rfl ?_
          exact gx_rt r_222_68 rfl rfl ⟨_, rfl, fun z => absurd z (by omega), fun k e z => ⟨m0, ak, n32 192 21, x32, n32 192 36, dy k e, fun z0 => rfl, fun z1 => by exfalso; omega, fun z2 => by exfalso; omega⟩⟩
      · refine gx_st (L' := [(2, 192), (0, a), (0, b), (9, 0)]) (S' := [(0, (-2))]) r_222_26 rfl rfl rfl ?_
        exact gx_rt r_222_28 rfl rfl ⟨_, rfl, fun _ => rfl, fun k e z => (by exfalso; omega)⟩
theorem lr3_l (hT : TT T) (h136 : ConH T cn_136) (wb : WB (pw (m 193))) (wp : WP (pw (m 193))) {n c : Nat} {a : Int} {F : Nat → Int} (hn : m 193 1 = (n : Int)) (ha : 0 ≤ a ∧ a ≤ 2000000000) (hc : c ≤ 20) (hF : ∀ p q : Mm, p 193 = m 193 → AskR p q → ∀ h : Nat, h < n → q 201 h = F h) : ∀ (N k : Nat) (p : Mm), c - k < N → k ≤ c → PinR p → Gam p → Ext p → p 193 = m 193 → GX T 12 223 34 [(2, 192), (0, a), (0, (c : Int)), (0, sumW (fun i => if (dyS F (m 193 3) (a + (i : Int)) n).2.2 = -1 then 0 else 1) k), (0, (k : Int))] [] p (RI (fun v m1 => v = sumW (fun i => if (dyS F (m 193 3) (a + (i : Int)) n).2.2 = -1 then 0 else 1) c)) := by
  intro N
  induction N with
  | zero => intro k p hN; exact absurd hN (Nat.not_lt_zero _)
  | succ N ih =>
    intro k p hN hk pp gp xp ep
    refine gx_st (L' := [(2, 192), (0, a), (0, (c : Int)), (0, (sumW (fun i => if (dyS F (m 193 3) (a + (i : Int)) n).2.2 = -1 then 0 else 1) k)), (0, (k : Int))]) (S' := [(0, (k : Int))]) r_223_34 rfl rfl rfl ?_
    refine gx_st (L' := [(2, 192), (0, a), (0, (c : Int)), (0, (sumW (fun i => if (dyS F (m 193 3) (a + (i : Int)) n).2.2 = -1 then 0 else 1) k)), (0, (k : Int))]) (S' := [(0, (c : Int)), (0, (k : Int))]) r_223_36 rfl rfl rfl ?_
    refine gx_ic (P := (c : Int) ≤ (k : Int)) r_223_37 (rfl) (fun h37 => ?_) (fun h37 => ?_)
    · refine gx_st (L' := [(2, 192), (0, a), (0, (c : Int)), (0, (sumW (fun i => if (dyS F (m 193 3) (a + (i : Int)) n).2.2 = -1 then 0 else 1) k)), (0, (k : Int))]) (S' := [(0, (sumW (fun i => if (dyS F (m 193 3) (a + (i : Int)) n).2.2 = -1 then 0 else 1) k))]) r_223_67 rfl rfl rfl ?_
      have hkn : k = c := by omega
      subst hkn
      exact gx_rt r_223_68 rfl rfl ⟨_, rfl, rfl⟩
    · refine gx_st (L' := [(2, 192), (0, a), (0, (c : Int)), (0, (sumW (fun i => if (dyS F (m 193 3) (a + (i : Int)) n).2.2 = -1 then 0 else 1) k)), (0, (k : Int))]) (S' := [(0, (sumW (fun i => if (dyS F (m 193 3) (a + (i : Int)) n).2.2 = -1 then 0 else 1) k))]) r_223_40 rfl rfl rfl ?_
      refine gx_st (L' := [(2, 192), (0, a), (0, (c : Int)), (0, (sumW (fun i => if (dyS F (m 193 3) (a + (i : Int)) n).2.2 = -1 then 0 else 1) k)), (0, (k : Int))]) (S' := [(2, 192), (0, (sumW (fun i => if (dyS F (m 193 3) (a + (i : Int)) n).2.2 = -1 then 0 else 1) k))]) r_223_41 rfl rfl rfl ?_
      refine gx_st (L' := [(2, 192), (0, a), (0, (c : Int)), (0, (sumW (fun i => if (dyS F (m 193 3) (a + (i : Int)) n).2.2 = -1 then 0 else 1) k)), (0, (k : Int))]) (S' := [(0, a), (2, 192), (0, (sumW (fun i => if (dyS F (m 193 3) (a + (i : Int)) n).2.2 = -1 then 0 else 1) k))]) r_223_42 rfl rfl rfl ?_
      refine gx_st (L' := [(2, 192), (0, a), (0, (c : Int)), (0, (sumW (fun i => if (dyS F (m 193 3) (a + (i : Int)) n).2.2 = -1 then 0 else 1) k)), (0, (k : Int))]) (S' := [(1, a), (2, 192), (0, (sumW (fun i => if (dyS F (m 193 3) (a + (i : Int)) n).2.2 = -1 then 0 else 1) k))]) r_223_43 rfl rfl rfl ?_
      refine gx_st (L' := [(2, 192), (0, a), (0, (c : Int)), (0, (sumW (fun i => if (dyS F (m 193 3) (a + (i : Int)) n).2.2 = -1 then 0 else 1) k)), (0, (k : Int))]) (S' := [(0, (k : Int)), (1, a), (2, 192), (0, (sumW (fun i => if (dyS F (m 193 3) (a + (i : Int)) n).2.2 = -1 then 0 else 1) k))]) r_223_44 rfl rfl rfl ?_
      refine gx_st (L' := [(2, 192), (0, a), (0, (c : Int)), (0, (sumW (fun i => if (dyS F (m 193 3) (a + (i : Int)) n).2.2 = -1 then 0 else 1) k)), (0, (k : Int))]) (S' := [(1, (k : Int)), (1, a), (2, 192), (0, (sumW (fun i => if (dyS F (m 193 3) (a + (i : Int)) n).2.2 = -1 then 0 else 1) k))]) r_223_46 rfl rfl rfl ?_
      refine gx_ar (L' := [(2, 192), (0, a), (0, (c : Int)), (0, (sumW (fun i => if (dyS F (m 193 3) (a + (i : Int)) n).2.2 = -1 then 0 else 1) k)), (0, (k : Int))]) (S' := [(2, 192), (0, (sumW (fun i => if (dyS F (m 193 3) (a + (i : Int)) n).2.2 = -1 then 0 else 1) k))]) (t := 1) (e := w64 (a + (k : Int))) (z := a + (k : Int)) r_223_47 rfl rfl rfl (w64_eq (by omega) (by omega) (by omega)) ?_
      refine gx_ci (nx := 51) (S2 := [(0, (sumW (fun i => if (dyS F (m 193 3) (a + (i : Int)) n).2.2 = -1 then 0 else 1) k))]) (y_220 hT h136 pp gp xp (by rw [ep]; exact wb) (by rw [ep]; exact wp) (sd := a + (k : Int)) (by omega)) r_223_48 rfl rfl rfl rfl rfl (rcv_v rfl (ty_192 hT) (by decide) rfl (by decide)) rfl (by decide) rfl (fun x48 n48 q48 => ?_)
      obtain ⟨⟨m0, ak, dy⟩, hp1, gm1, gx1, e193⟩ := q48
      have d2 := (dy n (by rw [ep]; exact hn)).2.1
      rw [dyS_c n (fun h hh => hF p m0 ep ak h hh), ep] at d2
      have e193b : n48 193 = m 193 := e193.trans ep
      have x01 : x48 = 0 ∨ x48 = 1 := by rw [d2]; split <;> omega
      show GX T 12 223 51 [(2, 192), (0, a), (0, (c : Int)), (0, (sumW (fun i => if (dyS F (m 193 3) (a + (i : Int)) n).2.2 = -1 then 0 else 1) k)), (0, (k : Int))] [(0, x48), (0, (sumW (fun i => if (dyS F (m 193 3) (a + (i : Int)) n).2.2 = -1 then 0 else 1) k))] n48 (RI (fun v m1 => v = sumW (fun i => if (dyS F (m 193 3) (a + (i : Int)) n).2.2 = -1 then 0 else 1) c))
      refine gx_i0 (P := x48 = 0) r_223_51 (rfl) (fun h51 => ?_) (fun h51 => ?_)
      · refine gx_st (L' := [(2, 192), (0, a), (0, (c : Int)), (0, (sumW (fun i => if (dyS F (m 193 3) (a + (i : Int)) n).2.2 = -1 then 0 else 1) k)), (0, (k : Int))]) (S' := [(0, 0), (0, (sumW (fun i => if (dyS F (m 193 3) (a + (i : Int)) n).2.2 = -1 then 0 else 1) k))]) r_223_58 rfl rfl rfl ?_
        refine gx_st (L' := [(2, 192), (0, a), (0, (c : Int)), (0, (sumW (fun i => if (dyS F (m 193 3) (a + (i : Int)) n).2.2 = -1 then 0 else 1) k)), (0, (k : Int))]) (S' := [(0, (w32 (((sumW (fun i => if (dyS F (m 193 3) (a + (i : Int)) n).2.2 = -1 then 0 else 1) k)) + 0)))]) r_223_59 rfl rfl rfl ?_
        have k59 := w32_in (((sumW (fun i => if (dyS F (m 193 3) (a + (i : Int)) n).2.2 = -1 then 0 else 1) k)) + 0)
        unfold in32 at k59
        refine gx_st (L' := [(2, 192), (0, a), (0, (c : Int)), (0, (w32 (((sumW (fun i => if (dyS F (m 193 3) (a + (i : Int)) n).2.2 = -1 then 0 else 1) k)) + 0))), (0, (k : Int))]) (S' := []) r_223_60 rfl rfl rfl ?_
        refine gx_li (z := (k : Int) + 1) (L' := [(2, 192), (0, a), (0, (c : Int)), (0, (w32 (((sumW (fun i => if (dyS F (m 193 3) (a + (i : Int)) n).2.2 = -1 then 0 else 1) k)) + 0))), (0, (k : Int) + 1)]) r_223_61 rfl (w32_eq (by omega) (by omega) (by omega)) rfl ?_
        refine gx_st (L' := [(2, 192), (0, a), (0, (c : Int)), (0, (w32 (((sumW (fun i => if (dyS F (m 193 3) (a + (i : Int)) n).2.2 = -1 then 0 else 1) k)) + 0))), (0, (k : Int) + 1)]) (S' := []) r_223_64 rfl rfl rfl ?_
        rw [show (k : Int) + 1 = ((k + 1 : Nat) : Int) from rfl]
        have z := ih (k + 1) n48 (by omega) (by omega) hp1 gm1 gx1 e193b
        rw [show sumW (fun i => if (dyS F (m 193 3) (a + (i : Int)) n).2.2 = -1 then 0 else 1) (k + 1) = (w32 (((sumW (fun i => if (dyS F (m 193 3) (a + (i : Int)) n).2.2 = -1 then 0 else 1) k)) + 0)) from by show w32 (_ + (fun i => if (dyS F (m 193 3) (a + (i : Int)) n).2.2 = -1 then 0 else 1) k) = _; rw [show (fun i => if (dyS F (m 193 3) (a + (i : Int)) n).2.2 = -1 then 0 else 1) k = x48 from d2.symm, show x48 = 0 by omega]] at z
        exact z
      · refine gx_st (L' := [(2, 192), (0, a), (0, (c : Int)), (0, (sumW (fun i => if (dyS F (m 193 3) (a + (i : Int)) n).2.2 = -1 then 0 else 1) k)), (0, (k : Int))]) (S' := [(0, 1), (0, (sumW (fun i => if (dyS F (m 193 3) (a + (i : Int)) n).2.2 = -1 then 0 else 1) k))]) r_223_54 rfl rfl rfl ?_
        refine gx_st (L' := [(2, 192), (0, a), (0, (c : Int)), (0, (sumW (fun i => if (dyS F (m 193 3) (a + (i : Int)) n).2.2 = -1 then 0 else 1) k)), (0, (k : Int))]) (S' := [(0, 1), (0, (sumW (fun i => if (dyS F (m 193 3) (a + (i : Int)) n).2.2 = -1 then 0 else 1) k))]) r_223_55 rfl rfl rfl ?_
        refine gx_st (L' := [(2, 192), (0, a), (0, (c : Int)), (0, (sumW (fun i => if (dyS F (m 193 3) (a + (i : Int)) n).2.2 = -1 then 0 else 1) k)), (0, (k : Int))]) (S' := [(0, (w32 (((sumW (fun i => if (dyS F (m 193 3) (a + (i : Int)) n).2.2 = -1 then 0 else 1) k)) + 1)))]) r_223_59 rfl rfl rfl ?_
        have k59 := w32_in (((sumW (fun i => if (dyS F (m 193 3) (a + (i : Int)) n).2.2 = -1 then 0 else 1) k)) + 1)
        unfold in32 at k59
        refine gx_st (L' := [(2, 192), (0, a), (0, (c : Int)), (0, (w32 (((sumW (fun i => if (dyS F (m 193 3) (a + (i : Int)) n).2.2 = -1 then 0 else 1) k)) + 1))), (0, (k : Int))]) (S' := []) r_223_60 rfl rfl rfl ?_
        refine gx_li (z := (k : Int) + 1) (L' := [(2, 192), (0, a), (0, (c : Int)), (0, (w32 (((sumW (fun i => if (dyS F (m 193 3) (a + (i : Int)) n).2.2 = -1 then 0 else 1) k)) + 1))), (0, (k : Int) + 1)]) r_223_61 rfl (w32_eq (by omega) (by omega) (by omega)) rfl ?_
        refine gx_st (L' := [(2, 192), (0, a), (0, (c : Int)), (0, (w32 (((sumW (fun i => if (dyS F (m 193 3) (a + (i : Int)) n).2.2 = -1 then 0 else 1) k)) + 1))), (0, (k : Int) + 1)]) (S' := []) r_223_64 rfl rfl rfl ?_
        rw [show (k : Int) + 1 = ((k + 1 : Nat) : Int) from rfl]
        have z := ih (k + 1) n48 (by omega) (by omega) hp1 gm1 gx1 e193b
        rw [show sumW (fun i => if (dyS F (m 193 3) (a + (i : Int)) n).2.2 = -1 then 0 else 1) (k + 1) = (w32 (((sumW (fun i => if (dyS F (m 193 3) (a + (i : Int)) n).2.2 = -1 then 0 else 1) k)) + 1)) from by show w32 (_ + (fun i => if (dyS F (m 193 3) (a + (i : Int)) n).2.2 = -1 then 0 else 1) k) = _; rw [show (fun i => if (dyS F (m 193 3) (a + (i : Int)) n).2.2 = -1 then 0 else 1) k = x48 from d2.symm, show x48 = 1 by omega]] at z
        exact z
theorem y_223 (hT : TT T) (h136 : ConH T cn_136) (hp : PinR m) (hm : Gam m) (hx : Ext m) (wb : WB (pw (m 193))) (wp : WP (pw (m 193))) (a b : Int) {F : Nat → Int} (hF : 0 < m 193 9 → ∀ p q : Mm, p 193 = m 193 → AskR p q → ∀ h : Nat, (h : Int) < m 193 1 → q 201 h = F h) : GX T 13 223 0 [(2, 192), (0, a), (0, b), (9, 0), (9, 0)] [] m (RI (fun v m1 => (¬ (0 < m 193 9 ∧ (0 ≤ a ∧ a ≤ 2000000000) ∧ 1 ≤ b ∧ b ≤ 20) → v = -2) ∧ ∀ n c : Nat, m 193 1 = (n : Int) → b = (c : Int) → (0 < m 193 9 ∧ (0 ≤ a ∧ a ≤ 2000000000) ∧ 1 ≤ b ∧ b ≤ 20) → v = sumW (fun i => if (dyS F (m 193 3) (a + (i : Int)) n).2.2 = -1 then 0 else 1) c)) := by
  refine gx_st (L' := [(2, 192), (0, a), (0, b), (9, 0), (9, 0)]) (S' := [(2, 192)]) r_223_0 rfl rfl rfl ?_
  refine gx_ci (nx := 4) (S2 := []) (x_90 hT hm) r_223_1 rfl rfl rfl rfl rfl (rcv_v rfl (ty_192 hT) (by decide) rfl (by decide)) rfl (by decide) rfl (fun x1 n1 q1 => ?_)
  obtain rfl := q1.1.symm
  obtain rfl := q1.2.symm
  show GX T 13 223 4 [(2, 192), (0, a), (0, b), (9, 0), (9, 0)] [(0, (if 0 < m 193 9 then 1 else 0))] m (RI (fun v m1 => (¬ (0 < m 193 9 ∧ (0 ≤ a ∧ a ≤ 2000000000) ∧ 1 ≤ b ∧ b ≤ 20) → v = -2) ∧ ∀ n c : Nat, m 193 1 = (n : Int) → b = (c : Int) → (0 < m 193 9 ∧ (0 ≤ a ∧ a ≤ 2000000000) ∧ 1 ≤ b ∧ b ≤ 20) → v = sumW (fun i => if (dyS F (m 193 3) (a + (i : Int)) n).2.2 = -1 then 0 else 1) c))
  refine gx_i0 (P := ¬ (0 < m 193 9)) r_223_4 (b01_eq) (fun h4 => ?_) (fun h4 => ?_)
  · refine gx_st (L' := [(2, 192), (0, a), (0, b), (9, 0), (9, 0)]) (S' := [(0, (-2))]) r_223_26 rfl rfl rfl ?_
    exact gx_rt r_223_28 rfl rfl ⟨_, rfl, fun _ => rfl, fun n c e1 e2 z => (by exfalso; omega)⟩
  · have h4 := Decidable.not_not.mp h4
    refine gx_st (L' := [(2, 192), (0, a), (0, b), (9, 0), (9, 0)]) (S' := [(0, a)]) r_223_7 rfl rfl rfl ?_
    refine gx_ci (nx := 11) (S2 := []) (y_221 a) r_223_8 rfl rfl rfl rfl rfl rfl rfl (by decide) rfl (fun x8 n8 q8 => ?_)
    obtain rfl := q8.1.symm
    obtain rfl := q8.2.symm
    show GX T 13 223 11 [(2, 192), (0, a), (0, b), (9, 0), (9, 0)] [(0, (if 0 ≤ a ∧ a ≤ 2000000000 then 1 else 0))] m (RI (fun v m1 => (¬ (0 < m 193 9 ∧ (0 ≤ a ∧ a ≤ 2000000000) ∧ 1 ≤ b ∧ b ≤ 20) → v = -2) ∧ ∀ n c : Nat, m 193 1 = (n : Int) → b = (c : Int) → (0 < m 193 9 ∧ (0 ≤ a ∧ a ≤ 2000000000) ∧ 1 ≤ b ∧ b ≤ 20) → v = sumW (fun i => if (dyS F (m 193 3) (a + (i : Int)) n).2.2 = -1 then 0 else 1) c))
    refine gx_i0 (P := ¬ (0 ≤ a ∧ a ≤ 2000000000)) r_223_11 (b01_eq) (fun h11 => ?_) (fun h11 => ?_)
    · refine gx_st (L' := [(2, 192), (0, a), (0, b), (9, 0), (9, 0)]) (S' := [(0, (-2))]) r_223_26 rfl rfl rfl ?_
      exact gx_rt r_223_28 rfl rfl ⟨_, rfl, fun _ => rfl, fun n c e1 e2 z => (by exfalso; omega)⟩
    · have h11 := Decidable.not_not.mp h11
      refine gx_st (L' := [(2, 192), (0, a), (0, b), (9, 0), (9, 0)]) (S' := [(0, b)]) r_223_14 rfl rfl rfl ?_
      refine gx_st (L' := [(2, 192), (0, a), (0, b), (9, 0), (9, 0)]) (S' := [(1, b)]) r_223_15 rfl rfl rfl ?_
      refine gx_st (L' := [(2, 192), (0, a), (0, b), (9, 0), (9, 0)]) (S' := [(1, 1), (1, b)]) r_223_16 rfl rfl rfl ?_
      refine gx_st (L' := [(2, 192), (0, a), (0, b), (9, 0), (9, 0)]) (S' := [(1, 20), (1, 1), (1, b)]) r_223_17 rfl rfl rfl ?_
      refine gx_ci (nx := 23) (S2 := []) (x_86 b 1 20) r_223_20 rfl rfl rfl rfl rfl rfl rfl (by decide) rfl (fun x20 n20 q20 => ?_)
      obtain rfl := q20.1.symm
      obtain rfl := q20.2.symm
      show GX T 13 223 23 [(2, 192), (0, a), (0, b), (9, 0), (9, 0)] [(0, (if 1 ≤ b ∧ b ≤ 20 then 1 else 0))] m (RI (fun v m1 => (¬ (0 < m 193 9 ∧ (0 ≤ a ∧ a ≤ 2000000000) ∧ 1 ≤ b ∧ b ≤ 20) → v = -2) ∧ ∀ n c : Nat, m 193 1 = (n : Int) → b = (c : Int) → (0 < m 193 9 ∧ (0 ≤ a ∧ a ≤ 2000000000) ∧ 1 ≤ b ∧ b ≤ 20) → v = sumW (fun i => if (dyS F (m 193 3) (a + (i : Int)) n).2.2 = -1 then 0 else 1) c))
      refine gx_i0 (P := 1 ≤ b ∧ b ≤ 20) r_223_23 (b01_ne) (fun h23 => ?_) (fun h23 => ?_)
      · have b1 := gb_193_1 hm
        obtain ⟨c, hcb⟩ : ∃ c : Nat, b = (c : Int) := ⟨b.toNat, by omega⟩
        rw [hcb]
        refine gx_st (L' := [(2, 192), (0, a), (0, (c : Int)), (9, 0), (9, 0)]) (S' := [(0, 0)]) r_223_29 rfl rfl rfl ?_
        refine gx_st (L' := [(2, 192), (0, a), (0, (c : Int)), (0, 0), (9, 0)]) (S' := []) r_223_30 rfl rfl rfl ?_
        refine gx_st (L' := [(2, 192), (0, a), (0, (c : Int)), (0, 0), (9, 0)]) (S' := [(0, 0)]) r_223_31 rfl rfl rfl ?_
        refine gx_st (L' := [(2, 192), (0, a), (0, (c : Int)), (0, 0), (0, 0)]) (S' := []) r_223_32 rfl rfl rfl ?_
        have ht : 0 < m 193 9 := by omega
        exact gx_imp (gx_d (lr3_l hT h136 wb wp (n := (m 193 1).toNat) (c := c) (a := a) (F := F) (by omega) (by omega) (by omega) (fun p q e k h hh => hF ht p q e k h (by omega)) (c + 1) 0 m (by omega) (by omega) hp hm hx rfl) (by decide)) (fun v m1 ⟨x, e, q⟩ => ⟨x, e, fun z => absurd z (by omega), fun n2 c2 e1 e2 z => by rw [show n2 = (m 193 1).toNat by omega, show c2 = c by omega]; exact q⟩)
      · refine gx_st (L' := [(2, 192), (0, a), (0, b), (9, 0), (9, 0)]) (S' := [(0, (-2))]) r_223_26 rfl rfl rfl ?_
        exact gx_rt r_223_28 rfl rfl ⟨_, rfl, fun _ => rfl, fun n c e1 e2 z => (by exfalso; omega)⟩
end DAYS
theorem dy_eq {E1 E2 x1 y1 z1 x2 y2 z2 : Int} {d1 d2 : Int × Nat × Int} (h1 : DyR E1 d1 x1 y1 z1) (h2 : DyR E2 d2 x2 y2 z2) (e : E1 = E2) (d : d1 = d2) : x1 = x2 ∧ y1 = y2 ∧ z1 = z2 := by
  subst e; subst d
  exact ⟨h1.1.trans h2.1.symm, h1.2.1.trans h2.2.1.symm, h1.2.2.trans h2.2.2.symm⟩
theorem q_57 {m m1 : Mm} {a b v1 v2 : Int} (hm : Gam m) (hx : Ext m) (r : WX m) (sx : StoryX m) (e : m1 193 = m 193) (h1 : (¬ (0 < m 4 0 ∧ (0 ≤ a ∧ a ≤ 2000000000) ∧ 0 ≤ b ∧ b < 3) → v1 = -2) ∧ ∀ k : Nat, m 4 2 = (k : Int) → (0 < m 4 0 ∧ (0 ≤ a ∧ a ≤ 2000000000) ∧ 0 ≤ b ∧ b < 3) → ∃ x y z : Int, DyR (m 28 11) (dyS (fun h => m 37 h) (m 4 4) a k) x y z ∧ (b = 0 → v1 = x) ∧ (b = 1 → v1 = y) ∧ (b = 2 → v1 = z)) (h2 : (¬ (0 < m1 193 9 ∧ (0 ≤ a ∧ a ≤ 2000000000) ∧ 0 ≤ b ∧ b ≤ 2) → v2 = -2) ∧ ∀ k : Nat, m1 193 1 = (k : Int) → (0 < m1 193 9 ∧ (0 ≤ a ∧ a ≤ 2000000000) ∧ 0 ≤ b ∧ b ≤ 2) → ∃ m0 : Mm, AskR m1 m0 ∧ ∃ x y z : Int, DyR (m0 192 21) (dyS (fun h => m0 201 h) (m1 193 3) a k) x y z ∧ (b = 0 → v2 = x) ∧ (b = 1 → v2 = y) ∧ (b = 2 → v2 = z)) : v1 = v2 := by
  have e40 : m 4 0 = m 193 9 := r.1.1.1
  have e44 : m 4 4 = m 193 3 := r.1.1.2.2.2.2.1
  have e42 : m 4 2 = m 193 1 := r.1.1.2.2.1
  have b1 := gb_193_1 hm
  rw [e] at h2
  by_cases c : 0 < m 4 0 ∧ (0 ≤ a ∧ a ≤ 2000000000) ∧ 0 ≤ b ∧ b < 3
  · obtain ⟨k, hk⟩ : ∃ i : Nat, m 193 1 = (i : Int) := ⟨(m 193 1).toNat, by omega⟩
    obtain ⟨x1, y1, z1, d1, u0, u1, u2⟩ := h1.2 k (by omega) c
    obtain ⟨m0, ak, x2, y2, z2, d2, w0, w1, w2⟩ := h2.2 k hk (by omega)
    obtain ⟨D, A, n, n1, n2, n3, -, a1, a2, s, p⟩ := ask_two hm hx r sx e ak c.1
    have kn : k = n := by omega
    subst kn
    obtain ⟨g1, g2, g3⟩ := dy_eq d1 d2 (s.1.2.2.2.2.trans p.2.2.1.symm) (by rw [e44]; exact dyS_c k (fun h hh => ((s.1.2.1 h hh).1).trans (p.2.1 h hh).symm))
    by_cases c0 : b = 0
    · rw [u0 c0, w0 c0, g1]
    · by_cases c1 : b = 1
      · rw [u1 c1, w1 c1, g2]
      · rw [u2 (by omega), w2 (by omega), g3]
  · rw [h1.1 c, h2.1 (by omega)]
theorem lk_F {m m1 : Mm} (hm : Gam m) (hx : Ext m) (r : WX m) (sx : StoryX m) (e : m1 193 = m 193) : 0 < m1 193 9 → ∀ p q : Mm, p 193 = m1 193 → AskR p q → ∀ h : Nat, (h : Int) < m1 193 1 → q 201 h = (fun h => m 37 h) h := by
  intro h0 p q ep k h hh
  have e40 : m 4 0 = m 193 9 := r.1.1.1
  rw [e] at h0 ep hh
  obtain ⟨D, A, n, n1, n2, n3, -, a1, a2, s, p⟩ := ask_two hm hx r sx ep k (by omega)
  exact (p.2.1 h (by omega)).trans ((s.1.2.1 h (by omega)).1).symm
theorem q_58 {m m1 : Mm} {a b v1 v2 : Int} (hm : Gam m) (r : WX m) (e : m1 193 = m 193) (h1 : (¬ (0 < m 4 0 ∧ (0 ≤ a ∧ a ≤ 2000000000) ∧ 1 ≤ b ∧ b ≤ 20) → v1 = -2) ∧ ∀ n c : Nat, m 4 2 = (n : Int) → b = (c : Int) → (0 < m 4 0 ∧ (0 ≤ a ∧ a ≤ 2000000000) ∧ 1 ≤ b ∧ b ≤ 20) → v1 = sumW (fun i => if (dyS (fun h => m 37 h) (m 4 4) (a + (i : Int)) n).2.2 = -1 then 0 else 1) c) (h2 : (¬ (0 < m1 193 9 ∧ (0 ≤ a ∧ a ≤ 2000000000) ∧ 1 ≤ b ∧ b ≤ 20) → v2 = -2) ∧ ∀ n c : Nat, m1 193 1 = (n : Int) → b = (c : Int) → (0 < m1 193 9 ∧ (0 ≤ a ∧ a ≤ 2000000000) ∧ 1 ≤ b ∧ b ≤ 20) → v2 = sumW (fun i => if (dyS (fun h => m 37 h) (m1 193 3) (a + (i : Int)) n).2.2 = -1 then 0 else 1) c) : v1 = v2 := by
  have e40 : m 4 0 = m 193 9 := r.1.1.1
  have e44 : m 4 4 = m 193 3 := r.1.1.2.2.2.2.1
  have e42 : m 4 2 = m 193 1 := r.1.1.2.2.1
  have b1 := gb_193_1 hm
  rw [e] at h2
  by_cases c : 0 < m 4 0 ∧ (0 ≤ a ∧ a ≤ 2000000000) ∧ 1 ≤ b ∧ b ≤ 20
  · obtain ⟨k, hk⟩ : ∃ i : Nat, m 193 1 = (i : Int) := ⟨(m 193 1).toNat, by omega⟩
    obtain ⟨d, hd⟩ : ∃ i : Nat, b = (i : Int) := ⟨b.toNat, by omega⟩
    rw [h1.2 k d (by omega) hd c, h2.2 k d hk hd (by omega), e44]
  · rw [h1.1 c, h2.1 (by omega)]
