/-! methods that need no memory -/
theorem lc_lt {x y : Int} : cnd .lt (if x < y then -1 else if x = y then 0 else 1) 0 = decide (x < y) := decide_eq_decide.mpr (by split <;> (try split) <;> omega)
theorem lc_ge {x y : Int} : cnd .ge (if x < y then -1 else if x = y then 0 else 1) 0 = decide (y ≤ x) := decide_eq_decide.mpr (by split <;> (try split) <;> omega)
theorem lc_gt {x y : Int} : cnd .gt (if x < y then -1 else if x = y then 0 else 1) 0 = decide (y < x) := decide_eq_decide.mpr (by split <;> (try split) <;> omega)
theorem lc_le {x y : Int} : cnd .le (if x < y then -1 else if x = y then 0 else 1) 0 = decide (x ≤ y) := decide_eq_decide.mpr (by split <;> (try split) <;> omega)
theorem lc_eq {x y : Int} : cnd .eq (if x < y then -1 else if x = y then 0 else 1) 0 = decide (x = y) := decide_eq_decide.mpr (by split <;> (try split) <;> omega)
theorem lc_ne {x y : Int} : cnd .ne (if x < y then -1 else if x = y then 0 else 1) 0 = decide (¬ x = y) := decide_eq_decide.mpr (by split <;> (try split) <;> omega)
theorem b01_eq {P : Prop} [Decidable P] : cnd .eq (if P then 1 else 0) 0 = decide (¬ P) := decide_eq_decide.mpr (by split <;> simp_all)
theorem b01_ne {P : Prop} [Decidable P] : cnd .ne (if P then 1 else 0) 0 = decide P := decide_eq_decide.mpr (by split <;> simp_all)
theorem r_52_0 : row 52 0 = some (.iload_n 1, 1, 0, 0, 0, 0) := rfl
theorem r_52_1 : row 52 1 = some (.iconst 1, 2, 1, 0, 0, 0) := rfl
theorem r_52_2 : row 52 2 = some (.if_icmp .lt 29, 5, 31, 0, 0, 0) := rfl
theorem r_52_5 : row 52 5 = some (.iload_n 1, 6, 0, 0, 0, 0) := rfl
theorem r_52_6 : row 52 6 = some (.bipush 9, 8, 9, 0, 0, 0) := rfl
theorem r_52_8 : row 52 8 = some (.if_icmp .gt 23, 11, 31, 0, 0, 0) := rfl
theorem r_52_11 : row 52 11 = some (.iload_n 2, 12, 0, 0, 0, 0) := rfl
theorem r_52_12 : row 52 12 = some (.sipush 1000, 15, 1000, 0, 0, 0) := rfl
theorem r_52_15 : row 52 15 = some (.invokestatic 126, 18, 71, 2, 0, 4020) := rfl
theorem r_52_18 : row 52 18 = some (.ifCond .eq 13, 21, 31, 0, 0, 0) := rfl
theorem r_52_21 : row 52 21 = some (.iload_n 3, 22, 0, 0, 0, 0) := rfl
theorem r_52_22 : row 52 22 = some (.sipush 1000, 25, 1000, 0, 0, 0) := rfl
theorem r_52_25 : row 52 25 = some (.invokestatic 126, 28, 71, 2, 0, 4020) := rfl
theorem r_52_28 : row 52 28 = some (.ifCond .ne 6, 31, 34, 0, 0, 0) := rfl
theorem r_52_31 : row 52 31 = some (.bipush (-2), 33, (-2), 0, 0, 0) := rfl
theorem r_52_33 : row 52 33 = some (.ireturn, 34, 0, 0, 0, 0) := rfl
theorem r_52_34 : row 52 34 = some (.iconst 1, 35, 1, 0, 0, 0) := rfl
theorem r_52_35 : row 52 35 = some (.istore 4, 37, 0, 0, 0, 0) := rfl
theorem r_52_37 : row 52 37 = some (.iconst 1, 38, 1, 0, 0, 0) := rfl
theorem r_52_38 : row 52 38 = some (.istore 5, 40, 0, 0, 0, 0) := rfl
theorem r_52_40 : row 52 40 = some (.iload 5, 42, 0, 0, 0, 0) := rfl
theorem r_52_42 : row 52 42 = some (.bipush 9, 44, 9, 0, 0, 0) := rfl
theorem r_52_44 : row 52 44 = some (.if_icmp .gt 30, 47, 74, 0, 0, 0) := rfl
theorem r_52_47 : row 52 47 = some (.iload 4, 49, 0, 0, 0, 0) := rfl
theorem r_52_49 : row 52 49 = some (.iload_n 1, 50, 0, 0, 0, 0) := rfl
theorem r_52_50 : row 52 50 = some (.imul, 51, 0, 0, 0, 0) := rfl
theorem r_52_51 : row 52 51 = some (.istore 4, 53, 0, 0, 0, 0) := rfl
theorem r_52_53 : row 52 53 = some (.iload 4, 55, 0, 0, 0, 0) := rfl
theorem r_52_55 : row 52 55 = some (.iload_n 3, 56, 0, 0, 0, 0) := rfl
theorem r_52_56 : row 52 56 = some (.isub, 57, 0, 0, 0, 0) := rfl
theorem r_52_57 : row 52 57 = some (.iconst 0, 58, 0, 0, 0, 0) := rfl
theorem r_52_58 : row 52 58 = some (.invokestatic 240, 61, (-3), 2, 0, 4162) := rfl
theorem r_52_61 : row 52 61 = some (.iload_n 2, 62, 0, 0, 0, 0) := rfl
theorem r_52_62 : row 52 62 = some (.if_icmp .lt 6, 65, 68, 0, 0, 0) := rfl
theorem r_52_65 : row 52 65 = some (.iload 5, 67, 0, 0, 0, 0) := rfl
theorem r_52_67 : row 52 67 = some (.ireturn, 68, 0, 0, 0, 0) := rfl
theorem r_52_68 : row 52 68 = some (.iinc 5 1, 71, 0, 0, 0, 0) := rfl
theorem r_52_71 : row 52 71 = some (.goto (-31), 74, 40, 0, 0, 0) := rfl
theorem r_52_74 : row 52 74 = some (.iconst (-1), 75, (-1), 0, 0, 0) := rfl
theorem r_52_75 : row 52 75 = some (.ireturn, 76, 0, 0, 0, 0) := rfl
theorem r_53_0 : row 53 0 = some (.iload_n 1, 1, 0, 0, 0, 0) := rfl
theorem r_53_1 : row 53 1 = some (.iconst 1, 2, 1, 0, 0, 0) := rfl
theorem r_53_2 : row 53 2 = some (.if_icmp .lt 36, 5, 38, 0, 0, 0) := rfl
theorem r_53_5 : row 53 5 = some (.iload_n 1, 6, 0, 0, 0, 0) := rfl
theorem r_53_6 : row 53 6 = some (.bipush 99, 8, 99, 0, 0, 0) := rfl
theorem r_53_8 : row 53 8 = some (.if_icmp .gt 30, 11, 38, 0, 0, 0) := rfl
theorem r_53_11 : row 53 11 = some (.iload_n 2, 12, 0, 0, 0, 0) := rfl
theorem r_53_12 : row 53 12 = some (.ifCond .lt 26, 15, 38, 0, 0, 0) := rfl
theorem r_53_15 : row 53 15 = some (.iload_n 2, 16, 0, 0, 0, 0) := rfl
theorem r_53_16 : row 53 16 = some (.iload_n 1, 17, 0, 0, 0, 0) := rfl
theorem r_53_17 : row 53 17 = some (.if_icmp .gt 21, 20, 38, 0, 0, 0) := rfl
theorem r_53_20 : row 53 20 = some (.iload_n 3, 21, 0, 0, 0, 0) := rfl
theorem r_53_21 : row 53 21 = some (.bipush 11, 23, 11, 0, 0, 0) := rfl
theorem r_53_23 : row 53 23 = some (.invokestatic 126, 26, 71, 2, 0, 4020) := rfl
theorem r_53_26 : row 53 26 = some (.ifCond .eq 12, 29, 38, 0, 0, 0) := rfl
theorem r_53_29 : row 53 29 = some (.iload 4, 31, 0, 0, 0, 0) := rfl
theorem r_53_31 : row 53 31 = some (.iconst 2, 32, 2, 0, 0, 0) := rfl
theorem r_53_32 : row 53 32 = some (.invokestatic 126, 35, 71, 2, 0, 4020) := rfl
theorem r_53_35 : row 53 35 = some (.ifCond .ne 6, 38, 41, 0, 0, 0) := rfl
theorem r_53_38 : row 53 38 = some (.bipush (-2), 40, (-2), 0, 0, 0) := rfl
theorem r_53_40 : row 53 40 = some (.ireturn, 41, 0, 0, 0, 0) := rfl
theorem r_53_41 : row 53 41 = some (.iload_n 1, 42, 0, 0, 0, 0) := rfl
theorem r_53_42 : row 53 42 = some (.iload_n 2, 43, 0, 0, 0, 0) := rfl
theorem r_53_43 : row 53 43 = some (.iload_n 3, 44, 0, 0, 0, 0) := rfl
theorem r_53_44 : row 53 44 = some (.invokestatic 307, 47, 295, 3, 10, 5108) := rfl
theorem r_53_47 : row 53 47 = some (.istore 5, 49, 0, 0, 0, 0) := rfl
theorem r_53_49 : row 53 49 = some (.iload 5, 51, 0, 0, 0, 0) := rfl
theorem r_53_51 : row 53 51 = some (.ifCond .ne 7, 54, 58, 0, 0, 0) := rfl
theorem r_53_54 : row 53 54 = some (.iconst (-1), 55, (-1), 0, 0, 0) := rfl
theorem r_53_55 : row 53 55 = some (.goto 17, 58, 72, 0, 0, 0) := rfl
theorem r_53_58 : row 53 58 = some (.bipush 10, 60, 10, 0, 0, 0) := rfl
theorem r_53_60 : row 53 60 = some (.iload_n 2, 61, 0, 0, 0, 0) := rfl
theorem r_53_61 : row 53 61 = some (.imul, 62, 0, 0, 0, 0) := rfl
theorem r_53_62 : row 53 62 = some (.i2l, 63, 0, 0, 0, 0) := rfl
theorem r_53_63 : row 53 63 = some (.iload 5, 65, 0, 0, 0, 0) := rfl
theorem r_53_65 : row 53 65 = some (.i2l, 66, 0, 0, 0, 0) := rfl
theorem r_53_66 : row 53 66 = some (.iload 4, 68, 0, 0, 0, 0) := rfl
theorem r_53_68 : row 53 68 = some (.invokestatic 231, 71, 293, 3, 10, 4143) := rfl
theorem r_53_71 : row 53 71 = some (.l2i, 72, 0, 0, 0, 0) := rfl
theorem r_53_72 : row 53 72 = some (.ireturn, 73, 0, 0, 0, 0) := rfl
theorem r_54_0 : row 54 0 = some (.iload_n 1, 1, 0, 0, 0, 0) := rfl
theorem r_54_1 : row 54 1 = some (.iconst 1, 2, 1, 0, 0, 0) := rfl
theorem r_54_2 : row 54 2 = some (.if_icmp .lt 27, 5, 29, 0, 0, 0) := rfl
theorem r_54_5 : row 54 5 = some (.iload_n 1, 6, 0, 0, 0, 0) := rfl
theorem r_54_6 : row 54 6 = some (.bipush 99, 8, 99, 0, 0, 0) := rfl
theorem r_54_8 : row 54 8 = some (.if_icmp .gt 21, 11, 29, 0, 0, 0) := rfl
theorem r_54_11 : row 54 11 = some (.iload_n 2, 12, 0, 0, 0, 0) := rfl
theorem r_54_12 : row 54 12 = some (.bipush 11, 14, 11, 0, 0, 0) := rfl
theorem r_54_14 : row 54 14 = some (.invokestatic 126, 17, 71, 2, 0, 4020) := rfl
theorem r_54_17 : row 54 17 = some (.ifCond .eq 12, 20, 29, 0, 0, 0) := rfl
theorem r_54_20 : row 54 20 = some (.iload_n 3, 21, 0, 0, 0, 0) := rfl
theorem r_54_21 : row 54 21 = some (.bipush 101, 23, 101, 0, 0, 0) := rfl
theorem r_54_23 : row 54 23 = some (.invokestatic 126, 26, 71, 2, 0, 4020) := rfl
theorem r_54_26 : row 54 26 = some (.ifCond .ne 6, 29, 32, 0, 0, 0) := rfl
theorem r_54_29 : row 54 29 = some (.bipush (-2), 31, (-2), 0, 0, 0) := rfl
theorem r_54_31 : row 54 31 = some (.ireturn, 32, 0, 0, 0, 0) := rfl
theorem r_54_32 : row 54 32 = some (.iload_n 1, 33, 0, 0, 0, 0) := rfl
theorem r_54_33 : row 54 33 = some (.istore 4, 35, 0, 0, 0, 0) := rfl
theorem r_54_35 : row 54 35 = some (.iload 4, 37, 0, 0, 0, 0) := rfl
theorem r_54_37 : row 54 37 = some (.ifCond .le 30, 40, 67, 0, 0, 0) := rfl
theorem r_54_40 : row 54 40 = some (.sipush 1000, 43, 1000, 0, 0, 0) := rfl
theorem r_54_43 : row 54 43 = some (.iload 4, 45, 0, 0, 0, 0) := rfl
theorem r_54_45 : row 54 45 = some (.imul, 46, 0, 0, 0, 0) := rfl
theorem r_54_46 : row 54 46 = some (.iload_n 3, 47, 0, 0, 0, 0) := rfl
theorem r_54_47 : row 54 47 = some (.iload_n 1, 48, 0, 0, 0, 0) := rfl
theorem r_54_48 : row 54 48 = some (.iload 4, 50, 0, 0, 0, 0) := rfl
theorem r_54_50 : row 54 50 = some (.iload_n 2, 51, 0, 0, 0, 0) := rfl
theorem r_54_51 : row 54 51 = some (.invokestatic 307, 54, 295, 3, 10, 5108) := rfl
theorem r_54_54 : row 54 54 = some (.imul, 55, 0, 0, 0, 0) := rfl
theorem r_54_55 : row 54 55 = some (.if_icmp .gt 6, 58, 61, 0, 0, 0) := rfl
theorem r_54_58 : row 54 58 = some (.iload 4, 60, 0, 0, 0, 0) := rfl
theorem r_54_60 : row 54 60 = some (.ireturn, 61, 0, 0, 0, 0) := rfl
theorem r_54_61 : row 54 61 = some (.iinc 4 (-1), 64, 0, 0, 0, 0) := rfl
theorem r_54_64 : row 54 64 = some (.goto (-29), 67, 35, 0, 0, 0) := rfl
theorem r_54_67 : row 54 67 = some (.iconst 0, 68, 0, 0, 0, 0) := rfl
theorem r_54_68 : row 54 68 = some (.ireturn, 69, 0, 0, 0, 0) := rfl
theorem r_71_0 : row 71 0 = some (.iload_n 0, 1, 0, 0, 0, 0) := rfl
theorem r_71_1 : row 71 1 = some (.ifCond .lt 12, 4, 13, 0, 0, 0) := rfl
theorem r_71_4 : row 71 4 = some (.iload_n 0, 5, 0, 0, 0, 0) := rfl
theorem r_71_5 : row 71 5 = some (.iload_n 1, 6, 0, 0, 0, 0) := rfl
theorem r_71_6 : row 71 6 = some (.if_icmp .ge 7, 9, 13, 0, 0, 0) := rfl
theorem r_71_9 : row 71 9 = some (.iconst 1, 10, 1, 0, 0, 0) := rfl
theorem r_71_10 : row 71 10 = some (.goto 4, 13, 14, 0, 0, 0) := rfl
theorem r_71_13 : row 71 13 = some (.iconst 0, 14, 0, 0, 0, 0) := rfl
theorem r_71_14 : row 71 14 = some (.ireturn, 15, 0, 0, 0, 0) := rfl
theorem r_86_0 : row 86 0 = some (.lload_n 0, 1, 0, 0, 0, 0) := rfl
theorem r_86_1 : row 86 1 = some (.lload_n 2, 2, 0, 0, 0, 0) := rfl
theorem r_86_2 : row 86 2 = some (.lcmp, 3, 0, 0, 0, 0) := rfl
theorem r_86_3 : row 86 3 = some (.ifCond .lt 14, 6, 17, 0, 0, 0) := rfl
theorem r_86_6 : row 86 6 = some (.lload_n 0, 7, 0, 0, 0, 0) := rfl
theorem r_86_7 : row 86 7 = some (.lload 4, 9, 0, 0, 0, 0) := rfl
theorem r_86_9 : row 86 9 = some (.lcmp, 10, 0, 0, 0, 0) := rfl
theorem r_86_10 : row 86 10 = some (.ifCond .gt 7, 13, 17, 0, 0, 0) := rfl
theorem r_86_13 : row 86 13 = some (.iconst 1, 14, 1, 0, 0, 0) := rfl
theorem r_86_14 : row 86 14 = some (.goto 4, 17, 18, 0, 0, 0) := rfl
theorem r_86_17 : row 86 17 = some (.iconst 0, 18, 0, 0, 0, 0) := rfl
theorem r_86_18 : row 86 18 = some (.ireturn, 19, 0, 0, 0, 0) := rfl
theorem r_163_0 : row 163 0 = some (.lload_n 0, 1, 0, 0, 0, 0) := rfl
theorem r_163_1 : row 163 1 = some (.lstore 4, 3, 0, 0, 0, 0) := rfl
theorem r_163_3 : row 163 3 = some (.lload_n 2, 4, 0, 0, 0, 0) := rfl
theorem r_163_4 : row 163 4 = some (.lstore 6, 6, 0, 0, 0, 0) := rfl
theorem r_163_6 : row 163 6 = some (.lload 6, 8, 0, 0, 0, 0) := rfl
theorem r_163_8 : row 163 8 = some (.lconst 0, 9, 0, 0, 0, 0) := rfl
theorem r_163_9 : row 163 9 = some (.lcmp, 10, 0, 0, 0, 0) := rfl
theorem r_163_10 : row 163 10 = some (.ifCond .eq 21, 13, 31, 0, 0, 0) := rfl
theorem r_163_13 : row 163 13 = some (.lload 4, 15, 0, 0, 0, 0) := rfl
theorem r_163_15 : row 163 15 = some (.lload 6, 17, 0, 0, 0, 0) := rfl
theorem r_163_17 : row 163 17 = some (.lrem, 18, 0, 0, 0, 0) := rfl
theorem r_163_18 : row 163 18 = some (.lstore 8, 20, 0, 0, 0, 0) := rfl
theorem r_163_20 : row 163 20 = some (.lload 6, 22, 0, 0, 0, 0) := rfl
theorem r_163_22 : row 163 22 = some (.lstore 4, 24, 0, 0, 0, 0) := rfl
theorem r_163_24 : row 163 24 = some (.lload 8, 26, 0, 0, 0, 0) := rfl
theorem r_163_26 : row 163 26 = some (.lstore 6, 28, 0, 0, 0, 0) := rfl
theorem r_163_28 : row 163 28 = some (.goto (-22), 31, 6, 0, 0, 0) := rfl
theorem r_163_31 : row 163 31 = some (.lload 4, 33, 0, 0, 0, 0) := rfl
theorem r_163_33 : row 163 33 = some (.lreturn, 34, 0, 0, 0, 0) := rfl
theorem r_164_0 : row 164 0 = some (.iload 4, 2, 0, 0, 0, 0) := rfl
theorem r_164_2 : row 164 2 = some (.ifCond .ne 7, 5, 9, 0, 0, 0) := rfl
theorem r_164_5 : row 164 5 = some (.lload_n 0, 6, 0, 0, 0, 0) := rfl
theorem r_164_6 : row 164 6 = some (.goto 4, 9, 10, 0, 0, 0) := rfl
theorem r_164_9 : row 164 9 = some (.lload_n 2, 10, 0, 0, 0, 0) := rfl
theorem r_164_10 : row 164 10 = some (.lload_n 0, 11, 0, 0, 0, 0) := rfl
theorem r_164_11 : row 164 11 = some (.lload_n 2, 12, 0, 0, 0, 0) := rfl
theorem r_164_12 : row 164 12 = some (.invokestatic 345, 15, 163, 2, 0, 7225) := rfl
theorem r_164_15 : row 164 15 = some (.ldiv, 16, 0, 0, 0, 0) := rfl
theorem r_164_16 : row 164 16 = some (.lreturn, 17, 0, 0, 0, 0) := rfl
theorem r_206_0 : row 206 0 = some (.iload_n 1, 1, 0, 0, 0, 0) := rfl
theorem r_206_1 : row 206 1 = some (.i2l, 2, 0, 0, 0, 0) := rfl
theorem r_206_2 : row 206 2 = some (.lconst 1, 3, 1, 0, 0, 0) := rfl
theorem r_206_3 : row 206 3 = some (.ldc2_w 393, 6, 9, 0, 0, 8115) := rfl
theorem r_206_6 : row 206 6 = some (.invokestatic 82, 9, 86, 3, 0, 6131) := rfl
theorem r_206_9 : row 206 9 = some (.ifCond .eq 27, 12, 36, 0, 0, 0) := rfl
theorem r_206_12 : row 206 12 = some (.iload_n 2, 13, 0, 0, 0, 0) := rfl
theorem r_206_13 : row 206 13 = some (.i2l, 14, 0, 0, 0, 0) := rfl
theorem r_206_14 : row 206 14 = some (.lconst 0, 15, 0, 0, 0, 0) := rfl
theorem r_206_15 : row 206 15 = some (.ldc2_w 420, 18, 999, 0, 0, 8154) := rfl
theorem r_206_18 : row 206 18 = some (.invokestatic 82, 21, 86, 3, 0, 6131) := rfl
theorem r_206_21 : row 206 21 = some (.ifCond .eq 15, 24, 36, 0, 0, 0) := rfl
theorem r_206_24 : row 206 24 = some (.iload_n 3, 25, 0, 0, 0, 0) := rfl
theorem r_206_25 : row 206 25 = some (.i2l, 26, 0, 0, 0, 0) := rfl
theorem r_206_26 : row 206 26 = some (.lconst 0, 27, 0, 0, 0, 0) := rfl
theorem r_206_27 : row 206 27 = some (.ldc2_w 420, 30, 999, 0, 0, 8154) := rfl
theorem r_206_30 : row 206 30 = some (.invokestatic 82, 33, 86, 3, 0, 6131) := rfl
theorem r_206_33 : row 206 33 = some (.ifCond .ne 6, 36, 39, 0, 0, 0) := rfl
theorem r_206_36 : row 206 36 = some (.bipush (-2), 38, (-2), 0, 0, 0) := rfl
theorem r_206_38 : row 206 38 = some (.ireturn, 39, 0, 0, 0, 0) := rfl
theorem r_206_39 : row 206 39 = some (.lconst 1, 40, 1, 0, 0, 0) := rfl
theorem r_206_40 : row 206 40 = some (.lstore 4, 42, 0, 0, 0, 0) := rfl
theorem r_206_42 : row 206 42 = some (.iconst 1, 43, 1, 0, 0, 0) := rfl
theorem r_206_43 : row 206 43 = some (.istore 6, 45, 0, 0, 0, 0) := rfl
theorem r_206_45 : row 206 45 = some (.iload 6, 47, 0, 0, 0, 0) := rfl
theorem r_206_47 : row 206 47 = some (.bipush 9, 49, 9, 0, 0, 0) := rfl
theorem r_206_49 : row 206 49 = some (.if_icmp .gt 34, 52, 83, 0, 0, 0) := rfl
theorem r_206_52 : row 206 52 = some (.lload 4, 54, 0, 0, 0, 0) := rfl
theorem r_206_54 : row 206 54 = some (.iload_n 1, 55, 0, 0, 0, 0) := rfl
theorem r_206_55 : row 206 55 = some (.i2l, 56, 0, 0, 0, 0) := rfl
theorem r_206_56 : row 206 56 = some (.lmul, 57, 0, 0, 0, 0) := rfl
theorem r_206_57 : row 206 57 = some (.lstore 4, 59, 0, 0, 0, 0) := rfl
theorem r_206_59 : row 206 59 = some (.lconst 0, 60, 0, 0, 0, 0) := rfl
theorem r_206_60 : row 206 60 = some (.lload 4, 62, 0, 0, 0, 0) := rfl
theorem r_206_62 : row 206 62 = some (.iload_n 3, 63, 0, 0, 0, 0) := rfl
theorem r_206_63 : row 206 63 = some (.i2l, 64, 0, 0, 0, 0) := rfl
theorem r_206_64 : row 206 64 = some (.lsub, 65, 0, 0, 0, 0) := rfl
theorem r_206_65 : row 206 65 = some (.invokestatic 422, 68, (-5), 2, 0, 8155) := rfl
theorem r_206_68 : row 206 68 = some (.iload_n 2, 69, 0, 0, 0, 0) := rfl
theorem r_206_69 : row 206 69 = some (.i2l, 70, 0, 0, 0, 0) := rfl
theorem r_206_70 : row 206 70 = some (.lcmp, 71, 0, 0, 0, 0) := rfl
theorem r_206_71 : row 206 71 = some (.ifCond .lt 6, 74, 77, 0, 0, 0) := rfl
theorem r_206_74 : row 206 74 = some (.iload 6, 76, 0, 0, 0, 0) := rfl
theorem r_206_76 : row 206 76 = some (.ireturn, 77, 0, 0, 0, 0) := rfl
theorem r_206_77 : row 206 77 = some (.iinc 6 1, 80, 0, 0, 0, 0) := rfl
theorem r_206_80 : row 206 80 = some (.goto (-35), 83, 45, 0, 0, 0) := rfl
theorem r_206_83 : row 206 83 = some (.iconst (-1), 84, (-1), 0, 0, 0) := rfl
theorem r_206_84 : row 206 84 = some (.ireturn, 85, 0, 0, 0, 0) := rfl
theorem r_207_0 : row 207 0 = some (.iload_n 0, 1, 0, 0, 0, 0) := rfl
theorem r_207_1 : row 207 1 = some (.i2l, 2, 0, 0, 0, 0) := rfl
theorem r_207_2 : row 207 2 = some (.lconst 1, 3, 1, 0, 0, 0) := rfl
theorem r_207_3 : row 207 3 = some (.ldc2_w 414, 6, 99, 0, 0, 8140) := rfl
theorem r_207_6 : row 207 6 = some (.invokestatic 82, 9, 86, 3, 0, 6131) := rfl
theorem r_207_9 : row 207 9 = some (.ifCond .eq 19, 12, 28, 0, 0, 0) := rfl
theorem r_207_12 : row 207 12 = some (.iload_n 1, 13, 0, 0, 0, 0) := rfl
theorem r_207_13 : row 207 13 = some (.i2l, 14, 0, 0, 0, 0) := rfl
theorem r_207_14 : row 207 14 = some (.lconst 0, 15, 0, 0, 0, 0) := rfl
theorem r_207_15 : row 207 15 = some (.ldc2_w 424, 18, 10, 0, 0, 8165) := rfl
theorem r_207_18 : row 207 18 = some (.invokestatic 82, 21, 86, 3, 0, 6131) := rfl
theorem r_207_21 : row 207 21 = some (.ifCond .eq 7, 24, 28, 0, 0, 0) := rfl
theorem r_207_24 : row 207 24 = some (.iconst 1, 25, 1, 0, 0, 0) := rfl
theorem r_207_25 : row 207 25 = some (.goto 4, 28, 29, 0, 0, 0) := rfl
theorem r_207_28 : row 207 28 = some (.iconst 0, 29, 0, 0, 0, 0) := rfl
theorem r_207_29 : row 207 29 = some (.ireturn, 30, 0, 0, 0, 0) := rfl
theorem r_208_0 : row 208 0 = some (.iload_n 1, 1, 0, 0, 0, 0) := rfl
theorem r_208_1 : row 208 1 = some (.iload_n 3, 2, 0, 0, 0, 0) := rfl
theorem r_208_2 : row 208 2 = some (.invokestatic 426, 5, 207, 2, 0, 8162) := rfl
theorem r_208_5 : row 208 5 = some (.ifCond .eq 25, 8, 30, 0, 0, 0) := rfl
theorem r_208_8 : row 208 8 = some (.iload_n 2, 9, 0, 0, 0, 0) := rfl
theorem r_208_9 : row 208 9 = some (.i2l, 10, 0, 0, 0, 0) := rfl
theorem r_208_10 : row 208 10 = some (.lconst 0, 11, 0, 0, 0, 0) := rfl
theorem r_208_11 : row 208 11 = some (.iload_n 1, 12, 0, 0, 0, 0) := rfl
theorem r_208_12 : row 208 12 = some (.i2l, 13, 0, 0, 0, 0) := rfl
theorem r_208_13 : row 208 13 = some (.invokestatic 82, 16, 86, 3, 0, 6131) := rfl
theorem r_208_16 : row 208 16 = some (.ifCond .eq 14, 19, 30, 0, 0, 0) := rfl
theorem r_208_19 : row 208 19 = some (.iload 4, 21, 0, 0, 0, 0) := rfl
theorem r_208_21 : row 208 21 = some (.i2l, 22, 0, 0, 0, 0) := rfl
theorem r_208_22 : row 208 22 = some (.lconst 0, 23, 0, 0, 0, 0) := rfl
theorem r_208_23 : row 208 23 = some (.lconst 1, 24, 1, 0, 0, 0) := rfl
theorem r_208_24 : row 208 24 = some (.invokestatic 82, 27, 86, 3, 0, 6131) := rfl
theorem r_208_27 : row 208 27 = some (.ifCond .ne 6, 30, 33, 0, 0, 0) := rfl
theorem r_208_30 : row 208 30 = some (.bipush (-2), 32, (-2), 0, 0, 0) := rfl
theorem r_208_32 : row 208 32 = some (.ireturn, 33, 0, 0, 0, 0) := rfl
theorem r_208_33 : row 208 33 = some (.bipush 10, 35, 10, 0, 0, 0) := rfl
theorem r_208_35 : row 208 35 = some (.iload_n 2, 36, 0, 0, 0, 0) := rfl
theorem r_208_36 : row 208 36 = some (.imul, 37, 0, 0, 0, 0) := rfl
theorem r_208_37 : row 208 37 = some (.iload_n 3, 38, 0, 0, 0, 0) := rfl
theorem r_208_38 : row 208 38 = some (.iload_n 1, 39, 0, 0, 0, 0) := rfl
theorem r_208_39 : row 208 39 = some (.iload_n 2, 40, 0, 0, 0, 0) := rfl
theorem r_208_40 : row 208 40 = some (.isub, 41, 0, 0, 0, 0) := rfl
theorem r_208_41 : row 208 41 = some (.imul, 42, 0, 0, 0, 0) := rfl
theorem r_208_42 : row 208 42 = some (.iadd, 43, 0, 0, 0, 0) := rfl
theorem r_208_43 : row 208 43 = some (.istore 5, 45, 0, 0, 0, 0) := rfl
theorem r_208_45 : row 208 45 = some (.iload 5, 47, 0, 0, 0, 0) := rfl
theorem r_208_47 : row 208 47 = some (.ifCond .ne 7, 50, 54, 0, 0, 0) := rfl
theorem r_208_50 : row 208 50 = some (.iconst (-1), 51, (-1), 0, 0, 0) := rfl
theorem r_208_51 : row 208 51 = some (.goto 17, 54, 68, 0, 0, 0) := rfl
theorem r_208_54 : row 208 54 = some (.bipush 10, 56, 10, 0, 0, 0) := rfl
theorem r_208_56 : row 208 56 = some (.iload_n 2, 57, 0, 0, 0, 0) := rfl
theorem r_208_57 : row 208 57 = some (.imul, 58, 0, 0, 0, 0) := rfl
theorem r_208_58 : row 208 58 = some (.i2l, 59, 0, 0, 0, 0) := rfl
theorem r_208_59 : row 208 59 = some (.iload 5, 61, 0, 0, 0, 0) := rfl
theorem r_208_61 : row 208 61 = some (.i2l, 62, 0, 0, 0, 0) := rfl
theorem r_208_62 : row 208 62 = some (.iload 4, 64, 0, 0, 0, 0) := rfl
theorem r_208_64 : row 208 64 = some (.invokestatic 349, 67, 164, 3, 0, 7222) := rfl
theorem r_208_67 : row 208 67 = some (.l2i, 68, 0, 0, 0, 0) := rfl
theorem r_208_68 : row 208 68 = some (.ireturn, 69, 0, 0, 0, 0) := rfl
theorem r_209_0 : row 209 0 = some (.iload_n 1, 1, 0, 0, 0, 0) := rfl
theorem r_209_1 : row 209 1 = some (.iload_n 2, 2, 0, 0, 0, 0) := rfl
theorem r_209_2 : row 209 2 = some (.invokestatic 426, 5, 207, 2, 0, 8162) := rfl
theorem r_209_5 : row 209 5 = some (.ifCond .eq 15, 8, 20, 0, 0, 0) := rfl
theorem r_209_8 : row 209 8 = some (.iload_n 3, 9, 0, 0, 0, 0) := rfl
theorem r_209_9 : row 209 9 = some (.i2l, 10, 0, 0, 0, 0) := rfl
theorem r_209_10 : row 209 10 = some (.lconst 0, 11, 0, 0, 0, 0) := rfl
theorem r_209_11 : row 209 11 = some (.ldc2_w 429, 14, 100, 0, 0, 8170) := rfl
theorem r_209_14 : row 209 14 = some (.invokestatic 82, 17, 86, 3, 0, 6131) := rfl
theorem r_209_17 : row 209 17 = some (.ifCond .ne 6, 20, 23, 0, 0, 0) := rfl
theorem r_209_20 : row 209 20 = some (.bipush (-2), 22, (-2), 0, 0, 0) := rfl
theorem r_209_22 : row 209 22 = some (.ireturn, 23, 0, 0, 0, 0) := rfl
theorem r_209_23 : row 209 23 = some (.iload_n 1, 24, 0, 0, 0, 0) := rfl
theorem r_209_24 : row 209 24 = some (.istore 4, 26, 0, 0, 0, 0) := rfl
theorem r_209_26 : row 209 26 = some (.sipush 1000, 29, 1000, 0, 0, 0) := rfl
theorem r_209_29 : row 209 29 = some (.iload 4, 31, 0, 0, 0, 0) := rfl
theorem r_209_31 : row 209 31 = some (.imul, 32, 0, 0, 0, 0) := rfl
theorem r_209_32 : row 209 32 = some (.iload_n 3, 33, 0, 0, 0, 0) := rfl
theorem r_209_33 : row 209 33 = some (.bipush 10, 35, 10, 0, 0, 0) := rfl
theorem r_209_35 : row 209 35 = some (.iload 4, 37, 0, 0, 0, 0) := rfl
theorem r_209_37 : row 209 37 = some (.imul, 38, 0, 0, 0, 0) := rfl
theorem r_209_38 : row 209 38 = some (.iload_n 2, 39, 0, 0, 0, 0) := rfl
theorem r_209_39 : row 209 39 = some (.iload_n 1, 40, 0, 0, 0, 0) := rfl
theorem r_209_40 : row 209 40 = some (.iload 4, 42, 0, 0, 0, 0) := rfl
theorem r_209_42 : row 209 42 = some (.isub, 43, 0, 0, 0, 0) := rfl
theorem r_209_43 : row 209 43 = some (.imul, 44, 0, 0, 0, 0) := rfl
theorem r_209_44 : row 209 44 = some (.iadd, 45, 0, 0, 0, 0) := rfl
theorem r_209_45 : row 209 45 = some (.imul, 46, 0, 0, 0, 0) := rfl
theorem r_209_46 : row 209 46 = some (.if_icmp .le 9, 49, 55, 0, 0, 0) := rfl
theorem r_209_49 : row 209 49 = some (.iinc 4 (-1), 52, 0, 0, 0, 0) := rfl
theorem r_209_52 : row 209 52 = some (.goto (-26), 55, 26, 0, 0, 0) := rfl
theorem r_209_55 : row 209 55 = some (.iload 4, 57, 0, 0, 0, 0) := rfl
theorem r_209_57 : row 209 57 = some (.ireturn, 58, 0, 0, 0, 0) := rfl
theorem r_293_0 : row 293 0 = some (.lload_n 0, 1, 0, 0, 0, 0) := rfl
theorem r_293_1 : row 293 1 = some (.lstore 5, 3, 0, 0, 0, 0) := rfl
theorem r_293_3 : row 293 3 = some (.lload_n 2, 4, 0, 0, 0, 0) := rfl
theorem r_293_4 : row 293 4 = some (.lstore 7, 6, 0, 0, 0, 0) := rfl
theorem r_293_6 : row 293 6 = some (.iconst 0, 7, 0, 0, 0, 0) := rfl
theorem r_293_7 : row 293 7 = some (.istore 9, 9, 0, 0, 0, 0) := rfl
theorem r_293_9 : row 293 9 = some (.iload 9, 11, 0, 0, 0, 0) := rfl
theorem r_293_11 : row 293 11 = some (.bipush 100, 13, 100, 0, 0, 0) := rfl
theorem r_293_13 : row 293 13 = some (.if_icmp .ge 31, 16, 44, 0, 0, 0) := rfl
theorem r_293_16 : row 293 16 = some (.lload 7, 18, 0, 0, 0, 0) := rfl
theorem r_293_18 : row 293 18 = some (.lconst 0, 19, 0, 0, 0, 0) := rfl
theorem r_293_19 : row 293 19 = some (.lcmp, 20, 0, 0, 0, 0) := rfl
theorem r_293_20 : row 293 20 = some (.ifCond .eq 24, 23, 44, 0, 0, 0) := rfl
theorem r_293_23 : row 293 23 = some (.lload 5, 25, 0, 0, 0, 0) := rfl
theorem r_293_25 : row 293 25 = some (.lload 7, 27, 0, 0, 0, 0) := rfl
theorem r_293_27 : row 293 27 = some (.lrem, 28, 0, 0, 0, 0) := rfl
theorem r_293_28 : row 293 28 = some (.lstore 10, 30, 0, 0, 0, 0) := rfl
theorem r_293_30 : row 293 30 = some (.lload 7, 32, 0, 0, 0, 0) := rfl
theorem r_293_32 : row 293 32 = some (.lstore 5, 34, 0, 0, 0, 0) := rfl
theorem r_293_34 : row 293 34 = some (.lload 10, 36, 0, 0, 0, 0) := rfl
theorem r_293_36 : row 293 36 = some (.lstore 7, 38, 0, 0, 0, 0) := rfl
theorem r_293_38 : row 293 38 = some (.iinc 9 1, 41, 0, 0, 0, 0) := rfl
theorem r_293_41 : row 293 41 = some (.goto (-32), 44, 9, 0, 0, 0) := rfl
theorem r_293_44 : row 293 44 = some (.iload 4, 46, 0, 0, 0, 0) := rfl
theorem r_293_46 : row 293 46 = some (.ifCond .ne 7, 49, 53, 0, 0, 0) := rfl
theorem r_293_49 : row 293 49 = some (.lload_n 0, 50, 0, 0, 0, 0) := rfl
theorem r_293_50 : row 293 50 = some (.goto 4, 53, 54, 0, 0, 0) := rfl
theorem r_293_53 : row 293 53 = some (.lload_n 2, 54, 0, 0, 0, 0) := rfl
theorem r_293_54 : row 293 54 = some (.lstore 9, 56, 0, 0, 0, 0) := rfl
theorem r_293_56 : row 293 56 = some (.lload 5, 58, 0, 0, 0, 0) := rfl
theorem r_293_58 : row 293 58 = some (.lconst 0, 59, 0, 0, 0, 0) := rfl
theorem r_293_59 : row 293 59 = some (.lcmp, 60, 0, 0, 0, 0) := rfl
theorem r_293_60 : row 293 60 = some (.ifCond .ne 8, 63, 68, 0, 0, 0) := rfl
theorem r_293_68 : row 293 68 = some (.lload 9, 70, 0, 0, 0, 0) := rfl
theorem r_293_70 : row 293 70 = some (.lload 5, 72, 0, 0, 0, 0) := rfl
theorem r_293_72 : row 293 72 = some (.ldiv, 73, 0, 0, 0, 0) := rfl
theorem r_293_73 : row 293 73 = some (.lreturn, 74, 0, 0, 0, 0) := rfl
theorem r_295_0 : row 295 0 = some (.bipush 10, 2, 10, 0, 0, 0) := rfl
theorem r_295_2 : row 295 2 = some (.iload_n 1, 3, 0, 0, 0, 0) := rfl
theorem r_295_3 : row 295 3 = some (.imul, 4, 0, 0, 0, 0) := rfl
theorem r_295_4 : row 295 4 = some (.iload_n 0, 5, 0, 0, 0, 0) := rfl
theorem r_295_5 : row 295 5 = some (.iload_n 1, 6, 0, 0, 0, 0) := rfl
theorem r_295_6 : row 295 6 = some (.isub, 7, 0, 0, 0, 0) := rfl
theorem r_295_7 : row 295 7 = some (.iload_n 2, 8, 0, 0, 0, 0) := rfl
theorem r_295_8 : row 295 8 = some (.imul, 9, 0, 0, 0, 0) := rfl
theorem r_295_9 : row 295 9 = some (.iadd, 10, 0, 0, 0, 0) := rfl
theorem r_295_10 : row 295 10 = some (.ireturn, 11, 0, 0, 0, 0) := rfl
theorem c_71 {d : Nat} {sh : List Kd} {m : Mm} (x b : Int) : Rn d 71 0 [(0, x), (0, b)] [] sh m ((0, if 0 ≤ x ∧ x < b then 1 else 0), sh, m) := by
  refine Rn_st r_71_0 rfl rfl rfl ?_
  refine Rn_i0 (P := x < 0) r_71_1 rfl (fun h1 => ?_) (fun h1 => ?_)
  · refine Rn_st r_71_13 rfl rfl rfl ?_
    exact Rn_rt r_71_14 rfl rfl (by rw [if_neg (by omega)])
  · refine Rn_st r_71_4 rfl rfl rfl ?_
    refine Rn_st r_71_5 rfl rfl rfl ?_
    refine Rn_ic (P := b ≤ x) r_71_6 rfl (fun h6 => ?_) (fun h6 => ?_)
    · refine Rn_st r_71_13 rfl rfl rfl ?_
      exact Rn_rt r_71_14 rfl rfl (by rw [if_neg (by omega)])
    · refine Rn_st r_71_9 rfl rfl rfl ?_
      refine Rn_st r_71_10 rfl rfl rfl ?_
      exact Rn_rt r_71_14 rfl rfl (by rw [if_pos (by omega)])
theorem c_86 {d : Nat} {sh : List Kd} {m : Mm} (x a b : Int) : Rn d 86 0 [(1, x), (9, 0), (1, a), (9, 0), (1, b), (9, 0)] [] sh m ((0, if a ≤ x ∧ x ≤ b then 1 else 0), sh, m) := by
  refine Rn_st r_86_0 rfl rfl rfl ?_
  refine Rn_st r_86_1 rfl rfl rfl ?_
  refine Rn_st r_86_2 rfl rfl rfl ?_
  refine Rn_i0 (P := x < a) r_86_3 (lc_lt) (fun h3 => ?_) (fun h3 => ?_)
  · refine Rn_st r_86_17 rfl rfl rfl ?_
    exact Rn_rt r_86_18 rfl rfl (by rw [if_neg (by omega)])
  · refine Rn_st r_86_6 rfl rfl rfl ?_
    refine Rn_st r_86_7 rfl rfl rfl ?_
    refine Rn_st r_86_9 rfl rfl rfl ?_
    refine Rn_i0 (P := b < x) r_86_10 (lc_gt) (fun h10 => ?_) (fun h10 => ?_)
    · refine Rn_st r_86_17 rfl rfl rfl ?_
      exact Rn_rt r_86_18 rfl rfl (by rw [if_neg (by omega)])
    · refine Rn_st r_86_13 rfl rfl rfl ?_
      refine Rn_st r_86_14 rfl rfl rfl ?_
      exact Rn_rt r_86_18 rfl rfl (by rw [if_pos (by omega)])
theorem c_295 {d : Nat} {sh : List Kd} {m : Mm} (n r p : Int) : Rn d 295 0 [(0, n), (0, r), (0, p)] [] sh m ((0, w32 (w32 (10 * r) + w32 (w32 (n - r) * p))), sh, m) := by
  refine Rn_st r_295_0 rfl rfl rfl ?_
  refine Rn_st r_295_2 rfl rfl rfl ?_
  refine Rn_st r_295_3 rfl rfl rfl ?_
  refine Rn_st r_295_4 rfl rfl rfl ?_
  refine Rn_st r_295_5 rfl rfl rfl ?_
  refine Rn_st r_295_6 rfl rfl rfl ?_
  refine Rn_st r_295_7 rfl rfl rfl ?_
  refine Rn_st r_295_8 rfl rfl rfl ?_
  refine Rn_st r_295_9 rfl rfl rfl ?_
  exact Rn_rt r_295_10 rfl rfl (rfl)
theorem c_207 {d : Nat} {sh : List Kd} {m : Mm} (n p : Int) : Rn (d + 1) 207 0 [(0, n), (0, p)] [] sh m ((0, if (1 ≤ n ∧ n ≤ 99) ∧ 0 ≤ p ∧ p ≤ 10 then 1 else 0), sh, m) := by
  refine Rn_st r_207_0 rfl rfl rfl ?_
  refine Rn_st r_207_1 rfl rfl rfl ?_
  refine Rn_st r_207_2 rfl rfl rfl ?_
  refine Rn_st r_207_3 rfl rfl rfl ?_
  refine Rn_cl (k := 86) (nx := 9) (S2 := [(0, if 1 ≤ n ∧ n ≤ 99 then 1 else 0)]) r_207_6 rfl rfl rfl rfl rfl rfl (c_86 n 1 99) rfl ?_
  refine Rn_i0 (P := ¬ (1 ≤ n ∧ n ≤ 99)) r_207_9 (b01_eq) (fun h9 => ?_) (fun h9 => ?_)
  · refine Rn_st r_207_28 rfl rfl rfl ?_
    exact Rn_rt r_207_29 rfl rfl (by rw [if_neg (by omega)])
  · refine Rn_st r_207_12 rfl rfl rfl ?_
    refine Rn_st r_207_13 rfl rfl rfl ?_
    refine Rn_st r_207_14 rfl rfl rfl ?_
    refine Rn_st r_207_15 rfl rfl rfl ?_
    refine Rn_cl (k := 86) (nx := 21) (S2 := [(0, if 0 ≤ p ∧ p ≤ 10 then 1 else 0)]) r_207_18 rfl rfl rfl rfl rfl rfl (c_86 p 0 10) rfl ?_
    refine Rn_i0 (P := ¬ (0 ≤ p ∧ p ≤ 10)) r_207_21 (b01_eq) (fun h21 => ?_) (fun h21 => ?_)
    · refine Rn_st r_207_28 rfl rfl rfl ?_
      exact Rn_rt r_207_29 rfl rfl (by rw [if_neg (by omega)])
    · refine Rn_st r_207_24 rfl rfl rfl ?_
      refine Rn_st r_207_25 rfl rfl rfl ?_
      exact Rn_rt r_207_29 rfl rfl (by rw [if_pos (by omega)])
def lowV (X Y : Nat) (w : Int) : Int := w64 (Int.tdiv (if w = 0 then (X : Int) else (Y : Int)) ((Nat.gcd X Y : Nat) : Int))
theorem low_head {d : Nat} {sh : List Kd} {m : Mm} {r : AV × List Kd × Mm} (x y w : Int) : ∀ (k A B s : Nat) (l1 l2 : AV), B < 2 ^ k → s + 2 * k ≤ 100 → (∀ (s2 : Nat) (l3 l4 : AV), Rn d 293 44 [(1, x), (9, 0), (1, y), (9, 0), (0, w), (1, ((Nat.gcd A B : Nat) : Int)), (9, 0), (1, 0), (9, 0), (0, (s2 : Int)), l3, l4] [] sh m r) → Rn d 293 9 [(1, x), (9, 0), (1, y), (9, 0), (0, w), (1, (A : Int)), (9, 0), (1, (B : Int)), (9, 0), (0, (s : Int)), l1, l2] [] sh m r := by
  have ex : ∀ (A s : Nat) (l1 l2 : AV), s ≤ 100 → (∀ (s2 : Nat) (l3 l4 : AV), Rn d 293 44 [(1, x), (9, 0), (1, y), (9, 0), (0, w), (1, (A : Int)), (9, 0), (1, 0), (9, 0), (0, (s2 : Int)), l3, l4] [] sh m r) → Rn d 293 9 [(1, x), (9, 0), (1, y), (9, 0), (0, w), (1, (A : Int)), (9, 0), (1, 0), (9, 0), (0, (s : Int)), l1, l2] [] sh m r := by
    intro A s l1 l2 hs h
    refine Rn_st r_293_9 rfl rfl rfl ?_
    refine Rn_st r_293_11 rfl rfl rfl ?_
    refine Rn_ic (P := 100 ≤ (s : Int)) r_293_13 rfl (fun h13 => ?_) (fun h13 => ?_)
    · exact h s l1 l2
    · refine Rn_st r_293_16 rfl rfl rfl ?_
      refine Rn_st r_293_18 rfl rfl rfl ?_
      refine Rn_st r_293_19 rfl rfl rfl ?_
      refine Rn_i0 (P := (0 : Int) = 0) r_293_20 (lc_eq) (fun h20 => ?_) (fun h20 => ?_)
      · exact h s l1 l2
      · exact absurd rfl h20
  have one : ∀ (A B s : Nat) (l1 l2 : AV), s < 100 → 0 < B → (∀ (l3 l4 : AV), Rn d 293 9 [(1, x), (9, 0), (1, y), (9, 0), (0, w), (1, (B : Int)), (9, 0), (1, ((A % B : Nat) : Int)), (9, 0), (0, ((s + 1 : Nat) : Int)), l3, l4] [] sh m r) → Rn d 293 9 [(1, x), (9, 0), (1, y), (9, 0), (0, w), (1, (A : Int)), (9, 0), (1, (B : Int)), (9, 0), (0, (s : Int)), l1, l2] [] sh m r := by
    intro A B s l1 l2 hs hB h
    refine Rn_st r_293_9 rfl rfl rfl ?_
    refine Rn_st r_293_11 rfl rfl rfl ?_
    refine Rn_ic (P := 100 ≤ (s : Int)) r_293_13 rfl (fun h13 => ?_) (fun h13 => ?_)
    · omega
    · refine Rn_st r_293_16 rfl rfl rfl ?_
      refine Rn_st r_293_18 rfl rfl rfl ?_
      refine Rn_st r_293_19 rfl rfl rfl ?_
      refine Rn_i0 (P := (B : Int) = 0) r_293_20 (lc_eq) (fun h20 => ?_) (fun h20 => ?_)
      · omega
      · refine Rn_st r_293_23 rfl rfl rfl ?_
        refine Rn_st r_293_25 rfl rfl rfl ?_
        refine Rn_lrem r_293_27 (by omega) ?_
        rw [show ((A : Int)).tmod ((B : Int)) = ((A % B : Nat) : Int) from by rw [Int.ofNat_tmod]]
        refine Rn_st (L' := [(1, x), (9, 0), (1, y), (9, 0), (0, w), (1, (A : Int)), (9, 0), (1, (B : Int)), (9, 0), (0, (s : Int)), (1, ((A % B : Nat) : Int)), (9, 0)]) (S' := []) r_293_28 rfl rfl rfl ?_
        refine Rn_st r_293_30 rfl rfl rfl ?_
        refine Rn_st (L' := [(1, x), (9, 0), (1, y), (9, 0), (0, w), (1, (B : Int)), (9, 0), (1, (B : Int)), (9, 0), (0, (s : Int)), (1, ((A % B : Nat) : Int)), (9, 0)]) (S' := []) r_293_32 rfl rfl rfl ?_
        refine Rn_st r_293_34 rfl rfl rfl ?_
        refine Rn_st (L' := [(1, x), (9, 0), (1, y), (9, 0), (0, w), (1, (B : Int)), (9, 0), (1, ((A % B : Nat) : Int)), (9, 0), (0, (s : Int)), (1, ((A % B : Nat) : Int)), (9, 0)]) (S' := []) r_293_36 rfl rfl rfl ?_
        refine Rn_st (L' := [(1, x), (9, 0), (1, y), (9, 0), (0, w), (1, (B : Int)), (9, 0), (1, ((A % B : Nat) : Int)), (9, 0), (0, w32 (((s : Int)) + 1)), (1, ((A % B : Nat) : Int)), (9, 0)]) (S' := []) r_293_38 rfl rfl rfl ?_
        rw [show w32 ((s : Int) + 1) = ((s + 1 : Nat) : Int) from by rw [w32_id ⟨by omega, by omega⟩]; omega]
        refine Rn_st r_293_41 rfl rfl rfl ?_
        exact h _ _
  intro k
  induction k with
  | zero =>
    intro A B s l1 l2 hB hs h
    obtain rfl : B = 0 := by omega
    rw [Nat.gcd_zero_right] at h
    exact ex A s l1 l2 (by omega) h
  | succ k ih =>
    intro A B s l1 l2 hB hs h
    by_cases h0 : B = 0
    · subst h0
      rw [Nat.gcd_zero_right] at h
      exact ex A s l1 l2 (by omega) h
    · refine one A B s l1 l2 (by omega) (by omega) fun l3 l4 => ?_
      have e1 : Nat.gcd A B = Nat.gcd B (A % B) := by rw [Nat.gcd_comm A B, Nat.gcd_rec B A, Nat.gcd_comm]
      rw [e1] at h
      generalize hc : A % B = C at *
      have hC : C < B := by rw [← hc]; exact Nat.mod_lt _ (by omega)
      by_cases h1 : C = 0
      · subst h1
        rw [Nat.gcd_zero_right] at h
        exact ex B (s + 1) l3 l4 (by omega) h
      · refine one B C (s + 1) l3 l4 (by omega) (by omega) fun l5 l6 => ?_
        have e2 : Nat.gcd B C = Nat.gcd C (B % C) := by rw [Nat.gcd_comm B C, Nat.gcd_rec C B, Nat.gcd_comm]
        rw [e2] at h
        refine ih C (B % C) (s + 2) l5 l6 ?_ (by omega) h
        rw [Nat.pow_succ] at hB
        by_cases h2 : C ≤ 2 ^ k
        · exact Nat.lt_of_lt_of_le (Nat.mod_lt _ (by omega)) h2
        · have : B % C = B - C := by rw [Nat.mod_eq_sub_mod (by omega), Nat.mod_eq_of_lt (by omega)]
          omega
theorem c_293 {d : Nat} {sh : List Kd} {m : Mm} (X Y : Nat) (w : Int) (hY : 0 < Y) (hb : Y < 2 ^ 40) : Rn d 293 0 [(1, (X : Int)), (9, 0), (1, (Y : Int)), (9, 0), (0, w), (9, 0), (9, 0), (9, 0), (9, 0), (9, 0), (9, 0), (9, 0)] [] sh m ((1, lowV X Y w), sh, m) := by
  have hG : 0 < Nat.gcd X Y := Nat.gcd_pos_of_pos_right _ hY
  refine Rn_st r_293_0 rfl rfl rfl ?_
  refine Rn_st (L' := [(1, (X : Int)), (9, 0), (1, (Y : Int)), (9, 0), (0, w), (1, (X : Int)), (9, 0), (9, 0), (9, 0), (9, 0), (9, 0), (9, 0)]) (S' := []) r_293_1 rfl rfl rfl ?_
  refine Rn_st r_293_3 rfl rfl rfl ?_
  refine Rn_st (L' := [(1, (X : Int)), (9, 0), (1, (Y : Int)), (9, 0), (0, w), (1, (X : Int)), (9, 0), (1, (Y : Int)), (9, 0), (9, 0), (9, 0), (9, 0)]) (S' := []) r_293_4 rfl rfl rfl ?_
  refine Rn_st r_293_6 rfl rfl rfl ?_
  refine Rn_st (L' := [(1, (X : Int)), (9, 0), (1, (Y : Int)), (9, 0), (0, w), (1, (X : Int)), (9, 0), (1, (Y : Int)), (9, 0), (0, 0), (9, 0), (9, 0)]) (S' := []) r_293_7 rfl rfl rfl ?_
  refine low_head _ _ _ 40 X Y 0 (9, 0) (9, 0) hb (by decide) fun s2 l3 l4 => ?_
  refine Rn_st r_293_44 rfl rfl rfl ?_
  refine Rn_i0 (P := ¬ w = 0) r_293_46 rfl (fun h46 => ?_) (fun h46 => ?_)
  · refine Rn_st r_293_53 rfl rfl rfl ?_
    refine Rn_st (L' := [(1, (X : Int)), (9, 0), (1, (Y : Int)), (9, 0), (0, w), (1, ((Nat.gcd X Y : Nat) : Int)), (9, 0), (1, 0), (9, 0), (1, (Y : Int)), (9, 0), l4]) (S' := []) r_293_54 rfl rfl rfl ?_
    refine Rn_st r_293_56 rfl rfl rfl ?_
    refine Rn_st r_293_58 rfl rfl rfl ?_
    refine Rn_st r_293_59 rfl rfl rfl ?_
    refine Rn_i0 (P := ¬ ((Nat.gcd X Y : Nat) : Int) = 0) r_293_60 (lc_ne) (fun h60 => ?_) (fun h60 => ?_)
    · refine Rn_st r_293_68 rfl rfl rfl ?_
      refine Rn_st r_293_70 rfl rfl rfl ?_
      refine Rn_ldiv r_293_72 (h60) ?_
      exact Rn_rt r_293_73 rfl rfl (by unfold lowV; rw [if_neg h46])
    · omega
  · refine Rn_st r_293_49 rfl rfl rfl ?_
    refine Rn_st r_293_50 rfl rfl rfl ?_
    refine Rn_st (L' := [(1, (X : Int)), (9, 0), (1, (Y : Int)), (9, 0), (0, w), (1, ((Nat.gcd X Y : Nat) : Int)), (9, 0), (1, 0), (9, 0), (1, (X : Int)), (9, 0), l4]) (S' := []) r_293_54 rfl rfl rfl ?_
    refine Rn_st r_293_56 rfl rfl rfl ?_
    refine Rn_st r_293_58 rfl rfl rfl ?_
    refine Rn_st r_293_59 rfl rfl rfl ?_
    refine Rn_i0 (P := ¬ ((Nat.gcd X Y : Nat) : Int) = 0) r_293_60 (lc_ne) (fun h60 => ?_) (fun h60 => ?_)
    · refine Rn_st r_293_68 rfl rfl rfl ?_
      refine Rn_st r_293_70 rfl rfl rfl ?_
      refine Rn_ldiv r_293_72 (h60) ?_
      exact Rn_rt r_293_73 rfl rfl (by unfold lowV; rw [if_pos (by omega)])
    · omega
theorem div_head {d : Nat} {sh : List Kd} {m : Mm} (x y : Int) : ∀ (B A : Nat) (l1 l2 : AV), Rn d 163 6 [(1, x), (9, 0), (1, y), (9, 0), (1, (A : Int)), (9, 0), (1, (B : Int)), (9, 0), l1, l2] [] sh m ((1, ((Nat.gcd A B : Nat) : Int)), sh, m) := by
  intro B
  induction B using Nat.strongRecOn with
  | _ B ih =>
    intro A l1 l2
    refine Rn_st r_163_6 rfl rfl rfl ?_
    refine Rn_st r_163_8 rfl rfl rfl ?_
    refine Rn_st r_163_9 rfl rfl rfl ?_
    refine Rn_i0 (P := (B : Int) = 0) r_163_10 (lc_eq) (fun h10 => ?_) (fun h10 => ?_)
    · refine Rn_st r_163_31 rfl rfl rfl ?_
      exact Rn_rt r_163_33 rfl rfl (by rw [show B = 0 by omega, Nat.gcd_zero_right])
    · refine Rn_st r_163_13 rfl rfl rfl ?_
      refine Rn_st r_163_15 rfl rfl rfl ?_
      refine Rn_lrem r_163_17 (by omega) ?_
      rw [show ((A : Int)).tmod ((B : Int)) = ((A % B : Nat) : Int) from by rw [Int.ofNat_tmod]]
      refine Rn_st (L' := [(1, x), (9, 0), (1, y), (9, 0), (1, (A : Int)), (9, 0), (1, (B : Int)), (9, 0), (1, ((A % B : Nat) : Int)), (9, 0)]) (S' := []) r_163_18 rfl rfl rfl ?_
      refine Rn_st r_163_20 rfl rfl rfl ?_
      refine Rn_st (L' := [(1, x), (9, 0), (1, y), (9, 0), (1, (B : Int)), (9, 0), (1, (B : Int)), (9, 0), (1, ((A % B : Nat) : Int)), (9, 0)]) (S' := []) r_163_22 rfl rfl rfl ?_
      refine Rn_st r_163_24 rfl rfl rfl ?_
      refine Rn_st (L' := [(1, x), (9, 0), (1, y), (9, 0), (1, (B : Int)), (9, 0), (1, ((A % B : Nat) : Int)), (9, 0), (1, ((A % B : Nat) : Int)), (9, 0)]) (S' := []) r_163_26 rfl rfl rfl ?_
      refine Rn_st r_163_28 rfl rfl rfl ?_
      rw [show Nat.gcd A B = Nat.gcd B (A % B) by rw [Nat.gcd_comm A B, Nat.gcd_rec B A, Nat.gcd_comm]]
      exact ih (A % B) (Nat.mod_lt _ (by omega)) B _ _
theorem c_163 {d : Nat} {sh : List Kd} {m : Mm} (X Y : Nat) : Rn d 163 0 [(1, (X : Int)), (9, 0), (1, (Y : Int)), (9, 0), (9, 0), (9, 0), (9, 0), (9, 0), (9, 0), (9, 0)] [] sh m ((1, ((Nat.gcd X Y : Nat) : Int)), sh, m) := by
  refine Rn_st r_163_0 rfl rfl rfl ?_
  refine Rn_st (L' := [(1, (X : Int)), (9, 0), (1, (Y : Int)), (9, 0), (1, (X : Int)), (9, 0), (9, 0), (9, 0), (9, 0), (9, 0)]) (S' := []) r_163_1 rfl rfl rfl ?_
  refine Rn_st r_163_3 rfl rfl rfl ?_
  refine Rn_st (L' := [(1, (X : Int)), (9, 0), (1, (Y : Int)), (9, 0), (1, (X : Int)), (9, 0), (1, (Y : Int)), (9, 0), (9, 0), (9, 0)]) (S' := []) r_163_4 rfl rfl rfl ?_
  exact div_head _ _ Y X _ _
theorem c_164 {d : Nat} {sh : List Kd} {m : Mm} (X Y : Nat) (w : Int) (hY : 0 < Y) : Rn (d + 1) 164 0 [(1, (X : Int)), (9, 0), (1, (Y : Int)), (9, 0), (0, w)] [] sh m ((1, lowV X Y w), sh, m) := by
  have hG : 0 < Nat.gcd X Y := Nat.gcd_pos_of_pos_right _ hY
  refine Rn_st r_164_0 rfl rfl rfl ?_
  refine Rn_i0 (P := ¬ w = 0) r_164_2 rfl (fun h2 => ?_) (fun h2 => ?_)
  · refine Rn_st r_164_9 rfl rfl rfl ?_
    refine Rn_st r_164_10 rfl rfl rfl ?_
    refine Rn_st r_164_11 rfl rfl rfl ?_
    refine Rn_cl (k := 163) (nx := 15) (S2 := [(1, ((Nat.gcd X Y : Nat) : Int)), (1, (Y : Int))]) r_164_12 rfl rfl rfl rfl rfl rfl (c_163 X Y) rfl ?_
    refine Rn_ldiv r_164_15 (by omega) ?_
    exact Rn_rt r_164_16 rfl rfl (by unfold lowV; rw [if_neg h2])
  · refine Rn_st r_164_5 rfl rfl rfl ?_
    refine Rn_st r_164_6 rfl rfl rfl ?_
    refine Rn_st r_164_10 rfl rfl rfl ?_
    refine Rn_st r_164_11 rfl rfl rfl ?_
    refine Rn_cl (k := 163) (nx := 15) (S2 := [(1, ((Nat.gcd X Y : Nat) : Int)), (1, (X : Int))]) r_164_12 rfl rfl rfl rfl rfl rfl (c_163 X Y) rfl ?_
    refine Rn_ldiv r_164_15 (by omega) ?_
    exact Rn_rt r_164_16 rfl rfl (by unfold lowV; rw [if_pos (by omega)])
def askA (n r p : Int) : Int := 10 * r + (n - r) * p
theorem askA_b {n r p : Int} (h1 : n ≤ 99) (h2 : 0 ≤ r) (h3 : r ≤ n) (h4 : 0 ≤ p) (h5 : p ≤ 10) : 0 ≤ (n - r) * p ∧ (n - r) * p ≤ 990 ∧ 0 ≤ askA n r p ∧ askA n r p ≤ 990 := by
  have g1 : 0 ≤ (n - r) * p := Int.mul_nonneg (by omega) h4
  have g2 : (n - r) * p ≤ (n - r) * 10 := Int.mul_le_mul_of_nonneg_left h5 (by omega)
  unfold askA
  omega
theorem ask_c {n r p : Int} (h1 : n ≤ 99) (h2 : 0 ≤ r) (h3 : r ≤ n) (h4 : 0 ≤ p) (h5 : p ≤ 10) : w32 (w32 (10 * r) + w32 (w32 (n - r) * p)) = askA n r p := by
  obtain ⟨g1, g2, g3, g4⟩ := askA_b h1 h2 h3 h4 h5
  unfold askA at *
  rw [w32_id (x := 10 * r) ⟨by omega, by omega⟩, w32_id (x := n - r) ⟨by omega, by omega⟩, w32_id (x := (n - r) * p) ⟨by omega, by omega⟩, w32_id ⟨by omega, by omega⟩]
theorem ask_r {n r p : Int} (h1 : n ≤ 99) (h2 : 0 ≤ r) (h3 : r ≤ n) (h4 : 0 ≤ p) (h5 : p ≤ 10) : w32 (w32 (10 * r) + w32 (p * w32 (n - r))) = askA n r p := by
  rw [Int.mul_comm p]
  exact ask_c h1 h2 h3 h4 h5
def askV (n r p w : Int) : Int := if (1 ≤ n ∧ n ≤ 99) ∧ (0 ≤ r ∧ r ≤ n) ∧ (0 ≤ p ∧ p ≤ 10) ∧ (0 ≤ w ∧ w ≤ 1) then (if askA n r p = 0 then -1 else w32 (lowV (10 * r).toNat (askA n r p).toNat w)) else -2
theorem c_53 {d : Nat} {sh : List Kd} {m : Mm} (o n r p w : Int) : Rn (d + 1) 53 0 [(2, o), (0, n), (0, r), (0, p), (0, w), (9, 0)] [] sh m ((0, askV n r p w), sh, m) := by
  refine Rn_st r_53_0 rfl rfl rfl ?_
  refine Rn_st r_53_1 rfl rfl rfl ?_
  refine Rn_ic (P := n < 1) r_53_2 rfl (fun h2 => ?_) (fun h2 => ?_)
  · refine Rn_st r_53_38 rfl rfl rfl ?_
    exact Rn_rt r_53_40 rfl rfl (by unfold askV; rw [if_neg (by omega)])
  · refine Rn_st r_53_5 rfl rfl rfl ?_
    refine Rn_st r_53_6 rfl rfl rfl ?_
    refine Rn_ic (P := 99 < n) r_53_8 rfl (fun h8 => ?_) (fun h8 => ?_)
    · refine Rn_st r_53_38 rfl rfl rfl ?_
      exact Rn_rt r_53_40 rfl rfl (by unfold askV; rw [if_neg (by omega)])
    · refine Rn_st r_53_11 rfl rfl rfl ?_
      refine Rn_i0 (P := r < 0) r_53_12 rfl (fun h12 => ?_) (fun h12 => ?_)
      · refine Rn_st r_53_38 rfl rfl rfl ?_
        exact Rn_rt r_53_40 rfl rfl (by unfold askV; rw [if_neg (by omega)])
      · refine Rn_st r_53_15 rfl rfl rfl ?_
        refine Rn_st r_53_16 rfl rfl rfl ?_
        refine Rn_ic (P := n < r) r_53_17 rfl (fun h17 => ?_) (fun h17 => ?_)
        · refine Rn_st r_53_38 rfl rfl rfl ?_
          exact Rn_rt r_53_40 rfl rfl (by unfold askV; rw [if_neg (by omega)])
        · refine Rn_st r_53_20 rfl rfl rfl ?_
          refine Rn_st r_53_21 rfl rfl rfl ?_
          refine Rn_cl (k := 71) (nx := 26) (S2 := [(0, if 0 ≤ p ∧ p < 11 then 1 else 0)]) r_53_23 rfl rfl rfl rfl rfl rfl (c_71 p 11) rfl ?_
          refine Rn_i0 (P := ¬ (0 ≤ p ∧ p < 11)) r_53_26 (b01_eq) (fun h26 => ?_) (fun h26 => ?_)
          · refine Rn_st r_53_38 rfl rfl rfl ?_
            exact Rn_rt r_53_40 rfl rfl (by unfold askV; rw [if_neg (by omega)])
          · refine Rn_st r_53_29 rfl rfl rfl ?_
            refine Rn_st r_53_31 rfl rfl rfl ?_
            refine Rn_cl (k := 71) (nx := 35) (S2 := [(0, if 0 ≤ w ∧ w < 2 then 1 else 0)]) r_53_32 rfl rfl rfl rfl rfl rfl (c_71 w 2) rfl ?_
            refine Rn_i0 (P := 0 ≤ w ∧ w < 2) r_53_35 (b01_ne) (fun h35 => ?_) (fun h35 => ?_)
            · refine Rn_st r_53_41 rfl rfl rfl ?_
              refine Rn_st r_53_42 rfl rfl rfl ?_
              refine Rn_st r_53_43 rfl rfl rfl ?_
              refine Rn_cl (k := 295) (nx := 47) (S2 := [(0, w32 (w32 (10 * r) + w32 (w32 (n - r) * p)))]) r_53_44 rfl rfl rfl rfl rfl rfl (c_295 n r p) rfl ?_
              rw [show w32 (w32 (10 * r) + w32 (w32 (n - r) * p)) = askA n r p from ask_c (by omega) (by omega) (by omega) (by omega) (by omega)]
              have hb := askA_b (n := n) (r := r) (p := p) (by omega) (by omega) (by omega) (by omega) (by omega)
              refine Rn_st (L' := [(2, o), (0, n), (0, r), (0, p), (0, w), (0, askA n r p)]) (S' := []) r_53_47 rfl rfl rfl ?_
              refine Rn_st r_53_49 rfl rfl rfl ?_
              refine Rn_i0 (P := ¬ askA n r p = 0) r_53_51 rfl (fun h51 => ?_) (fun h51 => ?_)
              · refine Rn_st r_53_58 rfl rfl rfl ?_
                refine Rn_st r_53_60 rfl rfl rfl ?_
                refine Rn_st r_53_61 rfl rfl rfl ?_
                rw [show w32 (10 * r) = (((10 * r).toNat : Nat) : Int) from by rw [w32_id ⟨by omega, by omega⟩]; omega]
                refine Rn_st r_53_62 rfl rfl rfl ?_
                refine Rn_st r_53_63 rfl rfl rfl ?_
                refine Rn_st r_53_65 rfl rfl rfl ?_
                rw [show askA n r p = (((askA n r p).toNat : Nat) : Int) from by omega]
                refine Rn_st r_53_66 rfl rfl rfl ?_
                refine Rn_cl (k := 293) (nx := 71) (S2 := [(1, lowV (10 * r).toNat (askA n r p).toNat w)]) r_53_68 rfl rfl rfl rfl rfl rfl (c_293 _ _ _ (by omega) (by omega)) rfl ?_
                refine Rn_st r_53_71 rfl rfl rfl ?_
                exact Rn_rt r_53_72 rfl rfl (by unfold askV; rw [if_pos (by omega), if_neg (by omega)])
              · refine Rn_st r_53_54 rfl rfl rfl ?_
                refine Rn_st r_53_55 rfl rfl rfl ?_
                exact Rn_rt r_53_72 rfl rfl (by unfold askV; rw [if_pos (by omega), if_pos (by omega)])
            · refine Rn_st r_53_38 rfl rfl rfl ?_
              exact Rn_rt r_53_40 rfl rfl (by unfold askV; rw [if_neg (by omega)])
theorem c_208 {d : Nat} {sh : List Kd} {m : Mm} (o n r p w : Int) : Rn (d + 2) 208 0 [(2, o), (0, n), (0, r), (0, p), (0, w), (9, 0)] [] sh m ((0, askV n r p w), sh, m) := by
  refine Rn_st r_208_0 rfl rfl rfl ?_
  refine Rn_st r_208_1 rfl rfl rfl ?_
  refine Rn_cl (k := 207) (nx := 5) (S2 := [(0, if (1 ≤ n ∧ n ≤ 99) ∧ 0 ≤ p ∧ p ≤ 10 then 1 else 0)]) r_208_2 rfl rfl rfl rfl rfl rfl (c_207 n p) rfl ?_
  refine Rn_i0 (P := ¬ ((1 ≤ n ∧ n ≤ 99) ∧ 0 ≤ p ∧ p ≤ 10)) r_208_5 (b01_eq) (fun h5 => ?_) (fun h5 => ?_)
  · refine Rn_st r_208_30 rfl rfl rfl ?_
    exact Rn_rt r_208_32 rfl rfl (by unfold askV; rw [if_neg (by omega)])
  · refine Rn_st r_208_8 rfl rfl rfl ?_
    refine Rn_st r_208_9 rfl rfl rfl ?_
    refine Rn_st r_208_10 rfl rfl rfl ?_
    refine Rn_st r_208_11 rfl rfl rfl ?_
    refine Rn_st r_208_12 rfl rfl rfl ?_
    refine Rn_cl (k := 86) (nx := 16) (S2 := [(0, if 0 ≤ r ∧ r ≤ n then 1 else 0)]) r_208_13 rfl rfl rfl rfl rfl rfl (c_86 r 0 n) rfl ?_
    refine Rn_i0 (P := ¬ (0 ≤ r ∧ r ≤ n)) r_208_16 (b01_eq) (fun h16 => ?_) (fun h16 => ?_)
    · refine Rn_st r_208_30 rfl rfl rfl ?_
      exact Rn_rt r_208_32 rfl rfl (by unfold askV; rw [if_neg (by omega)])
    · refine Rn_st r_208_19 rfl rfl rfl ?_
      refine Rn_st r_208_21 rfl rfl rfl ?_
      refine Rn_st r_208_22 rfl rfl rfl ?_
      refine Rn_st r_208_23 rfl rfl rfl ?_
      refine Rn_cl (k := 86) (nx := 27) (S2 := [(0, if 0 ≤ w ∧ w ≤ 1 then 1 else 0)]) r_208_24 rfl rfl rfl rfl rfl rfl (c_86 w 0 1) rfl ?_
      refine Rn_i0 (P := 0 ≤ w ∧ w ≤ 1) r_208_27 (b01_ne) (fun h27 => ?_) (fun h27 => ?_)
      · refine Rn_st r_208_33 rfl rfl rfl ?_
        refine Rn_st r_208_35 rfl rfl rfl ?_
        refine Rn_st r_208_36 rfl rfl rfl ?_
        refine Rn_st r_208_37 rfl rfl rfl ?_
        refine Rn_st r_208_38 rfl rfl rfl ?_
        refine Rn_st r_208_39 rfl rfl rfl ?_
        refine Rn_st r_208_40 rfl rfl rfl ?_
        refine Rn_st r_208_41 rfl rfl rfl ?_
        refine Rn_st r_208_42 rfl rfl rfl ?_
        rw [show w32 ((w32 (10 * r)) + (w32 (p * (w32 (n - r))))) = askA n r p from ask_r (by omega) (by omega) (by omega) (by omega) (by omega)]
        have hb := askA_b (n := n) (r := r) (p := p) (by omega) (by omega) (by omega) (by omega) (by omega)
        refine Rn_st (L' := [(2, o), (0, n), (0, r), (0, p), (0, w), (0, askA n r p)]) (S' := []) r_208_43 rfl rfl rfl ?_
        refine Rn_st r_208_45 rfl rfl rfl ?_
        refine Rn_i0 (P := ¬ askA n r p = 0) r_208_47 rfl (fun h47 => ?_) (fun h47 => ?_)
        · refine Rn_st r_208_54 rfl rfl rfl ?_
          refine Rn_st r_208_56 rfl rfl rfl ?_
          refine Rn_st r_208_57 rfl rfl rfl ?_
          rw [show w32 (10 * r) = (((10 * r).toNat : Nat) : Int) from by rw [w32_id ⟨by omega, by omega⟩]; omega]
          refine Rn_st r_208_58 rfl rfl rfl ?_
          refine Rn_st r_208_59 rfl rfl rfl ?_
          refine Rn_st r_208_61 rfl rfl rfl ?_
          rw [show askA n r p = (((askA n r p).toNat : Nat) : Int) from by omega]
          refine Rn_st r_208_62 rfl rfl rfl ?_
          refine Rn_cl (k := 164) (nx := 67) (S2 := [(1, lowV (10 * r).toNat (askA n r p).toNat w)]) r_208_64 rfl rfl rfl rfl rfl rfl (c_164 _ _ _ (by omega)) rfl ?_
          refine Rn_st r_208_67 rfl rfl rfl ?_
          exact Rn_rt r_208_68 rfl rfl (by unfold askV; rw [if_pos (by omega), if_neg (by omega)])
        · refine Rn_st r_208_50 rfl rfl rfl ?_
          refine Rn_st r_208_51 rfl rfl rfl ?_
          exact Rn_rt r_208_68 rfl rfl (by unfold askV; rw [if_pos (by omega), if_pos (by omega)])
      · refine Rn_st r_208_30 rfl rfl rfl ?_
        exact Rn_rt r_208_32 rfl rfl (by unfold askV; rw [if_neg (by omega)])
def trG (n p q : Int) : Nat → Int
  | 0 => 0
  | R + 1 => if 1000 * ((R + 1 : Nat) : Int) ≤ q * askA n ((R + 1 : Nat) : Int) p then ((R + 1 : Nat) : Int) else trG n p q R
def trV (n p q : Int) : Int := if (1 ≤ n ∧ n ≤ 99) ∧ (0 ≤ p ∧ p ≤ 10) ∧ (0 ≤ q ∧ q ≤ 100) then trG n p q n.toNat else -2
theorem tr_b {q A : Int} (h1 : 0 ≤ q) (h2 : q ≤ 100) (h3 : 0 ≤ A) (h4 : A ≤ 990) : 0 ≤ q * A ∧ q * A ≤ 99000 := by
  have g1 : 0 ≤ q * A := Int.mul_nonneg h1 h3
  have g2 : q * A ≤ 100 * A := Int.mul_le_mul_of_nonneg_right h2 h3
  omega
theorem tr_c {d : Nat} {sh : List Kd} {m : Mm} {o n p q : Int} (h1 : n ≤ 99) (h2 : 0 ≤ p) (h3 : p ≤ 10) (h4 : 0 ≤ q) (h5 : q ≤ 100) : ∀ R : Nat, (R : Int) ≤ n → Rn (d + 1) 54 35 [(2, o), (0, n), (0, p), (0, q), (0, (R : Int))] [] sh m ((0, trG n p q R), sh, m) := by
  intro R
  induction R with
  | zero =>
    intro hR
    refine Rn_st r_54_35 rfl rfl rfl ?_
    refine Rn_i0 (P := ((0 : Nat) : Int) ≤ 0) r_54_37 rfl (fun h37 => ?_) (fun h37 => ?_)
    · refine Rn_st r_54_67 rfl rfl rfl ?_
      exact Rn_rt r_54_68 rfl rfl (rfl)
    · omega
  | succ R ih =>
    intro hR
    refine Rn_st r_54_35 rfl rfl rfl ?_
    refine Rn_i0 (P := ((R + 1 : Nat) : Int) ≤ 0) r_54_37 rfl (fun h37 => ?_) (fun h37 => ?_)
    · omega
    · have hb := askA_b (n := n) (r := ((R + 1 : Nat) : Int)) (p := p) h1 (by omega) hR h2 h3
      have hq := tr_b h4 h5 hb.2.2.1 hb.2.2.2
      refine Rn_st r_54_40 rfl rfl rfl ?_
      refine Rn_st r_54_43 rfl rfl rfl ?_
      refine Rn_st r_54_45 rfl rfl rfl ?_
      rw [show w32 (1000 * (((R + 1 : Nat) : Int))) = 1000 * ((R + 1 : Nat) : Int) from w32_id ⟨by omega, by omega⟩]
      refine Rn_st r_54_46 rfl rfl rfl ?_
      refine Rn_st r_54_47 rfl rfl rfl ?_
      refine Rn_st r_54_48 rfl rfl rfl ?_
      refine Rn_st r_54_50 rfl rfl rfl ?_
      refine Rn_cl (k := 295) (nx := 54) (S2 := [(0, w32 (w32 (10 * ((R + 1 : Nat) : Int)) + w32 (w32 (n - ((R + 1 : Nat) : Int)) * p))), (0, q), (0, 1000 * ((R + 1 : Nat) : Int))]) r_54_51 rfl rfl rfl rfl rfl rfl (c_295 n ((R + 1 : Nat) : Int) p) rfl ?_
      rw [show w32 (w32 (10 * ((R + 1 : Nat) : Int)) + w32 (w32 (n - ((R + 1 : Nat) : Int)) * p)) = askA n ((R + 1 : Nat) : Int) p from ask_c h1 (by omega) hR h2 h3]
      refine Rn_st r_54_54 rfl rfl rfl ?_
      rw [show w32 (q * (askA n ((R + 1 : Nat) : Int) p)) = q * askA n ((R + 1 : Nat) : Int) p from w32_id ⟨by omega, by omega⟩]
      refine Rn_ic (P := q * askA n ((R + 1 : Nat) : Int) p < 1000 * ((R + 1 : Nat) : Int)) r_54_55 rfl (fun h55 => ?_) (fun h55 => ?_)
      · refine Rn_st (L' := [(2, o), (0, n), (0, p), (0, q), (0, w32 ((((R + 1 : Nat) : Int)) + (-1)))]) (S' := []) r_54_61 rfl rfl rfl ?_
        rw [show w32 (((R + 1 : Nat) : Int) + (-1)) = (R : Int) from by rw [w32_id ⟨by omega, by omega⟩]; omega]
        refine Rn_st r_54_64 rfl rfl rfl ?_
        rw [show trG n p q (R + 1) = trG n p q R from if_neg (by omega)]
        exact ih (by omega)
      · refine Rn_st r_54_58 rfl rfl rfl ?_
        exact Rn_rt r_54_60 rfl rfl (by unfold trG; rw [if_pos (by omega)])
theorem c_54 {d : Nat} {sh : List Kd} {m : Mm} (o n p q : Int) : Rn (d + 1) 54 0 [(2, o), (0, n), (0, p), (0, q), (9, 0)] [] sh m ((0, trV n p q), sh, m) := by
  refine Rn_st r_54_0 rfl rfl rfl ?_
  refine Rn_st r_54_1 rfl rfl rfl ?_
  refine Rn_ic (P := n < 1) r_54_2 rfl (fun h2 => ?_) (fun h2 => ?_)
  · refine Rn_st r_54_29 rfl rfl rfl ?_
    exact Rn_rt r_54_31 rfl rfl (by unfold trV; rw [if_neg (by omega)])
  · refine Rn_st r_54_5 rfl rfl rfl ?_
    refine Rn_st r_54_6 rfl rfl rfl ?_
    refine Rn_ic (P := 99 < n) r_54_8 rfl (fun h8 => ?_) (fun h8 => ?_)
    · refine Rn_st r_54_29 rfl rfl rfl ?_
      exact Rn_rt r_54_31 rfl rfl (by unfold trV; rw [if_neg (by omega)])
    · refine Rn_st r_54_11 rfl rfl rfl ?_
      refine Rn_st r_54_12 rfl rfl rfl ?_
      refine Rn_cl (k := 71) (nx := 17) (S2 := [(0, if 0 ≤ p ∧ p < 11 then 1 else 0)]) r_54_14 rfl rfl rfl rfl rfl rfl (c_71 p 11) rfl ?_
      refine Rn_i0 (P := ¬ (0 ≤ p ∧ p < 11)) r_54_17 (b01_eq) (fun h17 => ?_) (fun h17 => ?_)
      · refine Rn_st r_54_29 rfl rfl rfl ?_
        exact Rn_rt r_54_31 rfl rfl (by unfold trV; rw [if_neg (by omega)])
      · refine Rn_st r_54_20 rfl rfl rfl ?_
        refine Rn_st r_54_21 rfl rfl rfl ?_
        refine Rn_cl (k := 71) (nx := 26) (S2 := [(0, if 0 ≤ q ∧ q < 101 then 1 else 0)]) r_54_23 rfl rfl rfl rfl rfl rfl (c_71 q 101) rfl ?_
        refine Rn_i0 (P := 0 ≤ q ∧ q < 101) r_54_26 (b01_ne) (fun h26 => ?_) (fun h26 => ?_)
        · refine Rn_st r_54_32 rfl rfl rfl ?_
          refine Rn_st (L' := [(2, o), (0, n), (0, p), (0, q), (0, n)]) (S' := []) r_54_33 rfl rfl rfl ?_
          unfold trV
          rw [if_pos (by omega)]
          have e : n = ((n.toNat : Nat) : Int) := by omega
          have t := tr_c (d := d) (sh := sh) (m := m) (o := o) (n := n) (p := p) (q := q) (by omega) (by omega) (by omega) (by omega) (by omega) n.toNat (by omega)
          rw [← e] at t
          exact t
        · refine Rn_st r_54_29 rfl rfl rfl ?_
          exact Rn_rt r_54_31 rfl rfl (by unfold trV; rw [if_neg (by omega)])
theorem tr_r {d : Nat} {sh : List Kd} {m : Mm} {o n p q : Int} (h1 : n ≤ 99) (h2 : 0 ≤ p) (h3 : p ≤ 10) (h4 : 0 ≤ q) (h5 : q ≤ 100) : ∀ R : Nat, (R : Int) ≤ n → Rn d 209 26 [(2, o), (0, n), (0, p), (0, q), (0, (R : Int))] [] sh m ((0, trG n p q R), sh, m) := by
  intro R
  induction R with
  | zero =>
    intro hR
    have hb := askA_b (n := n) (r := ((0 : Nat) : Int)) (p := p) h1 (by omega) hR h2 h3
    have hq := tr_b h4 h5 hb.2.2.1 hb.2.2.2
    refine Rn_st r_209_26 rfl rfl rfl ?_
    refine Rn_st r_209_29 rfl rfl rfl ?_
    refine Rn_st r_209_31 rfl rfl rfl ?_
    rw [show w32 (1000 * (((0 : Nat) : Int))) = 1000 * ((0 : Nat) : Int) from w32_id ⟨by omega, by omega⟩]
    refine Rn_st r_209_32 rfl rfl rfl ?_
    refine Rn_st r_209_33 rfl rfl rfl ?_
    refine Rn_st r_209_35 rfl rfl rfl ?_
    refine Rn_st r_209_37 rfl rfl rfl ?_
    refine Rn_st r_209_38 rfl rfl rfl ?_
    refine Rn_st r_209_39 rfl rfl rfl ?_
    refine Rn_st r_209_40 rfl rfl rfl ?_
    refine Rn_st r_209_42 rfl rfl rfl ?_
    refine Rn_st r_209_43 rfl rfl rfl ?_
    refine Rn_st r_209_44 rfl rfl rfl ?_
    rw [show w32 ((w32 (10 * (((0 : Nat) : Int)))) + (w32 (p * (w32 (n - (((0 : Nat) : Int))))))) = askA n ((0 : Nat) : Int) p from ask_r h1 (by omega) hR h2 h3]
    refine Rn_st r_209_45 rfl rfl rfl ?_
    rw [show w32 (q * (askA n ((0 : Nat) : Int) p)) = q * askA n ((0 : Nat) : Int) p from w32_id ⟨by omega, by omega⟩]
    refine Rn_ic (P := 1000 * ((0 : Nat) : Int) ≤ q * askA n ((0 : Nat) : Int) p) r_209_46 rfl (fun h46 => ?_) (fun h46 => ?_)
    · refine Rn_st r_209_55 rfl rfl rfl ?_
      exact Rn_rt r_209_57 rfl rfl (rfl)
    · omega
  | succ R ih =>
    intro hR
    have hb := askA_b (n := n) (r := ((R + 1 : Nat) : Int)) (p := p) h1 (by omega) hR h2 h3
    have hq := tr_b h4 h5 hb.2.2.1 hb.2.2.2
    refine Rn_st r_209_26 rfl rfl rfl ?_
    refine Rn_st r_209_29 rfl rfl rfl ?_
    refine Rn_st r_209_31 rfl rfl rfl ?_
    rw [show w32 (1000 * (((R + 1 : Nat) : Int))) = 1000 * ((R + 1 : Nat) : Int) from w32_id ⟨by omega, by omega⟩]
    refine Rn_st r_209_32 rfl rfl rfl ?_
    refine Rn_st r_209_33 rfl rfl rfl ?_
    refine Rn_st r_209_35 rfl rfl rfl ?_
    refine Rn_st r_209_37 rfl rfl rfl ?_
    refine Rn_st r_209_38 rfl rfl rfl ?_
    refine Rn_st r_209_39 rfl rfl rfl ?_
    refine Rn_st r_209_40 rfl rfl rfl ?_
    refine Rn_st r_209_42 rfl rfl rfl ?_
    refine Rn_st r_209_43 rfl rfl rfl ?_
    refine Rn_st r_209_44 rfl rfl rfl ?_
    rw [show w32 ((w32 (10 * (((R + 1 : Nat) : Int)))) + (w32 (p * (w32 (n - (((R + 1 : Nat) : Int))))))) = askA n ((R + 1 : Nat) : Int) p from ask_r h1 (by omega) hR h2 h3]
    refine Rn_st r_209_45 rfl rfl rfl ?_
    rw [show w32 (q * (askA n ((R + 1 : Nat) : Int) p)) = q * askA n ((R + 1 : Nat) : Int) p from w32_id ⟨by omega, by omega⟩]
    refine Rn_ic (P := 1000 * ((R + 1 : Nat) : Int) ≤ q * askA n ((R + 1 : Nat) : Int) p) r_209_46 rfl (fun h46 => ?_) (fun h46 => ?_)
    · refine Rn_st r_209_55 rfl rfl rfl ?_
      exact Rn_rt r_209_57 rfl rfl (by unfold trG; rw [if_pos (by omega)])
    · refine Rn_st (L' := [(2, o), (0, n), (0, p), (0, q), (0, w32 ((((R + 1 : Nat) : Int)) + (-1)))]) (S' := []) r_209_49 rfl rfl rfl ?_
      rw [show w32 (((R + 1 : Nat) : Int) + (-1)) = (R : Int) from by rw [w32_id ⟨by omega, by omega⟩]; omega]
      refine Rn_st r_209_52 rfl rfl rfl ?_
      rw [show trG n p q (R + 1) = trG n p q R from if_neg (by omega)]
      exact ih (by omega)
theorem c_209 {d : Nat} {sh : List Kd} {m : Mm} (o n p q : Int) : Rn (d + 2) 209 0 [(2, o), (0, n), (0, p), (0, q), (9, 0)] [] sh m ((0, trV n p q), sh, m) := by
  refine Rn_st r_209_0 rfl rfl rfl ?_
  refine Rn_st r_209_1 rfl rfl rfl ?_
  refine Rn_cl (k := 207) (nx := 5) (S2 := [(0, if (1 ≤ n ∧ n ≤ 99) ∧ 0 ≤ p ∧ p ≤ 10 then 1 else 0)]) r_209_2 rfl rfl rfl rfl rfl rfl (c_207 n p) rfl ?_
  refine Rn_i0 (P := ¬ ((1 ≤ n ∧ n ≤ 99) ∧ 0 ≤ p ∧ p ≤ 10)) r_209_5 (b01_eq) (fun h5 => ?_) (fun h5 => ?_)
  · refine Rn_st r_209_20 rfl rfl rfl ?_
    exact Rn_rt r_209_22 rfl rfl (by unfold trV; rw [if_neg (by omega)])
  · refine Rn_st r_209_8 rfl rfl rfl ?_
    refine Rn_st r_209_9 rfl rfl rfl ?_
    refine Rn_st r_209_10 rfl rfl rfl ?_
    refine Rn_st r_209_11 rfl rfl rfl ?_
    refine Rn_cl (k := 86) (nx := 17) (S2 := [(0, if 0 ≤ q ∧ q ≤ 100 then 1 else 0)]) r_209_14 rfl rfl rfl rfl rfl rfl (c_86 q 0 100) rfl ?_
    refine Rn_i0 (P := 0 ≤ q ∧ q ≤ 100) r_209_17 (b01_ne) (fun h17 => ?_) (fun h17 => ?_)
    · refine Rn_st r_209_23 rfl rfl rfl ?_
      refine Rn_st (L' := [(2, o), (0, n), (0, p), (0, q), (0, n)]) (S' := []) r_209_24 rfl rfl rfl ?_
      unfold trV
      rw [if_pos (by omega)]
      have e : n = ((n.toNat : Nat) : Int) := by omega
      have t := tr_r (d := d + 2) (sh := sh) (m := m) (o := o) (n := n) (p := p) (q := q) (by omega) (by omega) (by omega) (by omega) (by omega) n.toNat (by omega)
      rw [← e] at t
      exact t
    · refine Rn_st r_209_20 rfl rfl rfl ?_
      exact Rn_rt r_209_22 rfl rfl (by unfold trV; rw [if_neg (by omega)])
def sgB : Nat → Int
  | 0 => 387420489
  | 1 => 43046721
  | 2 => 4782969
  | 3 => 531441
  | 4 => 59049
  | 5 => 6561
  | 6 => 729
  | 7 => 81
  | 8 => 9
  | _ => 1
theorem sgB_s : ∀ i : Nat, i < 9 → sgB (i + 1) * 9 = sgB i ∧ sgB i ≤ 387420489 := by decide
def sgG (k n kn : Int) : Nat → Int → Int
  | 0, _ => -1
  | i + 1, wd => if n ≤ max (wd * k - kn) 0 then 9 - (i : Int) else sgG k n kn i (wd * k)
def sgV (k n kn : Int) : Int := if (1 ≤ k ∧ k ≤ 9) ∧ (0 ≤ n ∧ n ≤ 999) ∧ (0 ≤ kn ∧ kn ≤ 999) then sgG k n kn 9 1 else -2
theorem sg_b {i : Nat} {k wd : Int} (hi : i < 9) (h1 : 1 ≤ k) (h2 : k ≤ 9) (h3 : 0 ≤ wd) (h4 : wd ≤ sgB (i + 1)) : 0 ≤ wd * k ∧ wd * k ≤ sgB i ∧ wd * k ≤ 387420489 := by
  have g1 : 0 ≤ wd * k := Int.mul_nonneg h3 (by omega)
  have g2 : wd * k ≤ wd * 9 := Int.mul_le_mul_of_nonneg_left h2 h3
  have g3 := sgB_s i hi
  omega
theorem sg_c {d : Nat} {sh : List Kd} {m : Mm} {o k n kn : Int} (h1 : 1 ≤ k) (h2 : k ≤ 9) (h3 : 0 ≤ n) (h4 : n ≤ 999) (h5 : 0 ≤ kn) (h6 : kn ≤ 999) : ∀ (i : Nat) (wd : Int), i ≤ 9 → 0 ≤ wd → wd ≤ sgB i → Rn d 52 40 [(2, o), (0, k), (0, n), (0, kn), (0, wd), (0, 10 - (i : Int))] [] sh m ((0, sgG k n kn i wd), sh, m) := by
  intro i
  induction i with
  | zero =>
    intro wd hi hw1 hw2
    refine Rn_st r_52_40 rfl rfl rfl ?_
    refine Rn_st r_52_42 rfl rfl rfl ?_
    refine Rn_ic (P := 9 < 10 - ((0 : Nat) : Int)) r_52_44 rfl (fun h44 => ?_) (fun h44 => ?_)
    · refine Rn_st r_52_74 rfl rfl rfl ?_
      exact Rn_rt r_52_75 rfl rfl (rfl)
    · omega
  | succ i ih =>
    intro wd hi hw1 hw2
    refine Rn_st r_52_40 rfl rfl rfl ?_
    refine Rn_st r_52_42 rfl rfl rfl ?_
    refine Rn_ic (P := 9 < 10 - ((i + 1 : Nat) : Int)) r_52_44 rfl (fun h44 => ?_) (fun h44 => ?_)
    · omega
    · have hb := sg_b (by omega) h1 h2 hw1 hw2
      refine Rn_st r_52_47 rfl rfl rfl ?_
      refine Rn_st r_52_49 rfl rfl rfl ?_
      refine Rn_st r_52_50 rfl rfl rfl ?_
      rw [show w32 (wd * k) = wd * k from w32_id ⟨by omega, by omega⟩]
      refine Rn_st (L' := [(2, o), (0, k), (0, n), (0, kn), (0, wd * k), (0, 10 - ((i + 1 : Nat) : Int))]) (S' := []) r_52_51 rfl rfl rfl ?_
      refine Rn_st r_52_53 rfl rfl rfl ?_
      refine Rn_st r_52_55 rfl rfl rfl ?_
      refine Rn_st r_52_56 rfl rfl rfl ?_
      rw [show w32 ((wd * k) - kn) = wd * k - kn from w32_id ⟨by omega, by omega⟩]
      refine Rn_st r_52_57 rfl rfl rfl ?_
      refine Rn_st r_52_58 rfl rfl rfl ?_
      refine Rn_st r_52_61 rfl rfl rfl ?_
      refine Rn_ic (P := max (wd * k - kn) 0 < n) r_52_62 rfl (fun h62 => ?_) (fun h62 => ?_)
      · refine Rn_st (L' := [(2, o), (0, k), (0, n), (0, kn), (0, wd * k), (0, w32 ((10 - ((i + 1 : Nat) : Int)) + 1))]) (S' := []) r_52_68 rfl rfl rfl ?_
        rw [show w32 (10 - ((i + 1 : Nat) : Int) + 1) = 10 - (i : Int) from by rw [w32_id ⟨by omega, by omega⟩]; omega]
        refine Rn_st r_52_71 rfl rfl rfl ?_
        rw [show sgG k n kn (i + 1) wd = sgG k n kn i (wd * k) from if_neg (by omega)]
        exact ih _ (by omega) hb.1 hb.2.1
      · refine Rn_st r_52_65 rfl rfl rfl ?_
        exact Rn_rt r_52_67 rfl rfl (by unfold sgG; rw [if_pos (by omega)]; exact congrArg _ (by omega))
theorem sg_r {d : Nat} {sh : List Kd} {m : Mm} {o k n kn : Int} (h1 : 1 ≤ k) (h2 : k ≤ 9) (h3 : 0 ≤ n) (h4 : n ≤ 999) (h5 : 0 ≤ kn) (h6 : kn ≤ 999) : ∀ (i : Nat) (wd : Int), i ≤ 9 → 0 ≤ wd → wd ≤ sgB i → Rn d 206 45 [(2, o), (0, k), (0, n), (0, kn), (1, wd), (9, 0), (0, 10 - (i : Int))] [] sh m ((0, sgG k n kn i wd), sh, m) := by
  intro i
  induction i with
  | zero =>
    intro wd hi hw1 hw2
    refine Rn_st r_206_45 rfl rfl rfl ?_
    refine Rn_st r_206_47 rfl rfl rfl ?_
    refine Rn_ic (P := 9 < 10 - ((0 : Nat) : Int)) r_206_49 rfl (fun h49 => ?_) (fun h49 => ?_)
    · refine Rn_st r_206_83 rfl rfl rfl ?_
      exact Rn_rt r_206_84 rfl rfl (rfl)
    · omega
  | succ i ih =>
    intro wd hi hw1 hw2
    refine Rn_st r_206_45 rfl rfl rfl ?_
    refine Rn_st r_206_47 rfl rfl rfl ?_
    refine Rn_ic (P := 9 < 10 - ((i + 1 : Nat) : Int)) r_206_49 rfl (fun h49 => ?_) (fun h49 => ?_)
    · omega
    · have hb := sg_b (by omega) h1 h2 hw1 hw2
      refine Rn_st r_206_52 rfl rfl rfl ?_
      refine Rn_st r_206_54 rfl rfl rfl ?_
      refine Rn_st r_206_55 rfl rfl rfl ?_
      refine Rn_st r_206_56 rfl rfl rfl ?_
      rw [show w64 (wd * k) = wd * k from w64_id ⟨by omega, by omega⟩]
      refine Rn_st (L' := [(2, o), (0, k), (0, n), (0, kn), (1, wd * k), (9, 0), (0, 10 - ((i + 1 : Nat) : Int))]) (S' := []) r_206_57 rfl rfl rfl ?_
      refine Rn_st r_206_59 rfl rfl rfl ?_
      refine Rn_st r_206_60 rfl rfl rfl ?_
      refine Rn_st r_206_62 rfl rfl rfl ?_
      refine Rn_st r_206_63 rfl rfl rfl ?_
      refine Rn_st r_206_64 rfl rfl rfl ?_
      rw [show w64 ((wd * k) - kn) = wd * k - kn from w64_id ⟨by omega, by omega⟩]
      refine Rn_st r_206_65 rfl rfl rfl ?_
      rw [show max 0 (wd * k - kn) = max (wd * k - kn) 0 from by omega]
      refine Rn_st r_206_68 rfl rfl rfl ?_
      refine Rn_st r_206_69 rfl rfl rfl ?_
      refine Rn_st r_206_70 rfl rfl rfl ?_
      refine Rn_i0 (P := max (wd * k - kn) 0 < n) r_206_71 (lc_lt) (fun h71 => ?_) (fun h71 => ?_)
      · refine Rn_st (L' := [(2, o), (0, k), (0, n), (0, kn), (1, wd * k), (9, 0), (0, w32 ((10 - ((i + 1 : Nat) : Int)) + 1))]) (S' := []) r_206_77 rfl rfl rfl ?_
        rw [show w32 (10 - ((i + 1 : Nat) : Int) + 1) = 10 - (i : Int) from by rw [w32_id ⟨by omega, by omega⟩]; omega]
        refine Rn_st r_206_80 rfl rfl rfl ?_
        rw [show sgG k n kn (i + 1) wd = sgG k n kn i (wd * k) from if_neg (by omega)]
        exact ih _ (by omega) hb.1 hb.2.1
      · refine Rn_st r_206_74 rfl rfl rfl ?_
        exact Rn_rt r_206_76 rfl rfl (by unfold sgG; rw [if_pos (by omega)]; exact congrArg _ (by omega))
theorem c_52 {d : Nat} {sh : List Kd} {m : Mm} (o k n kn : Int) : Rn (d + 1) 52 0 [(2, o), (0, k), (0, n), (0, kn), (9, 0), (9, 0)] [] sh m ((0, sgV k n kn), sh, m) := by
  refine Rn_st r_52_0 rfl rfl rfl ?_
  refine Rn_st r_52_1 rfl rfl rfl ?_
  refine Rn_ic (P := k < 1) r_52_2 rfl (fun h2 => ?_) (fun h2 => ?_)
  · refine Rn_st r_52_31 rfl rfl rfl ?_
    exact Rn_rt r_52_33 rfl rfl (by unfold sgV; rw [if_neg (by omega)])
  · refine Rn_st r_52_5 rfl rfl rfl ?_
    refine Rn_st r_52_6 rfl rfl rfl ?_
    refine Rn_ic (P := 9 < k) r_52_8 rfl (fun h8 => ?_) (fun h8 => ?_)
    · refine Rn_st r_52_31 rfl rfl rfl ?_
      exact Rn_rt r_52_33 rfl rfl (by unfold sgV; rw [if_neg (by omega)])
    · refine Rn_st r_52_11 rfl rfl rfl ?_
      refine Rn_st r_52_12 rfl rfl rfl ?_
      refine Rn_cl (k := 71) (nx := 18) (S2 := [(0, if 0 ≤ n ∧ n < 1000 then 1 else 0)]) r_52_15 rfl rfl rfl rfl rfl rfl (c_71 n 1000) rfl ?_
      refine Rn_i0 (P := ¬ (0 ≤ n ∧ n < 1000)) r_52_18 (b01_eq) (fun h18 => ?_) (fun h18 => ?_)
      · refine Rn_st r_52_31 rfl rfl rfl ?_
        exact Rn_rt r_52_33 rfl rfl (by unfold sgV; rw [if_neg (by omega)])
      · refine Rn_st r_52_21 rfl rfl rfl ?_
        refine Rn_st r_52_22 rfl rfl rfl ?_
        refine Rn_cl (k := 71) (nx := 28) (S2 := [(0, if 0 ≤ kn ∧ kn < 1000 then 1 else 0)]) r_52_25 rfl rfl rfl rfl rfl rfl (c_71 kn 1000) rfl ?_
        refine Rn_i0 (P := 0 ≤ kn ∧ kn < 1000) r_52_28 (b01_ne) (fun h28 => ?_) (fun h28 => ?_)
        · refine Rn_st r_52_34 rfl rfl rfl ?_
          refine Rn_st (L' := [(2, o), (0, k), (0, n), (0, kn), (0, 1), (9, 0)]) (S' := []) r_52_35 rfl rfl rfl ?_
          refine Rn_st r_52_37 rfl rfl rfl ?_
          refine Rn_st (L' := [(2, o), (0, k), (0, n), (0, kn), (0, 1), (0, 1)]) (S' := []) r_52_38 rfl rfl rfl ?_
          unfold sgV
          rw [if_pos (by omega)]
          exact sg_c (by omega) (by omega) (by omega) (by omega) (by omega) (by omega) 9 1 (by omega) (by omega) (by decide)
        · refine Rn_st r_52_31 rfl rfl rfl ?_
          exact Rn_rt r_52_33 rfl rfl (by unfold sgV; rw [if_neg (by omega)])
theorem c_206 {d : Nat} {sh : List Kd} {m : Mm} (o k n kn : Int) : Rn (d + 1) 206 0 [(2, o), (0, k), (0, n), (0, kn), (9, 0), (9, 0), (9, 0)] [] sh m ((0, sgV k n kn), sh, m) := by
  refine Rn_st r_206_0 rfl rfl rfl ?_
  refine Rn_st r_206_1 rfl rfl rfl ?_
  refine Rn_st r_206_2 rfl rfl rfl ?_
  refine Rn_st r_206_3 rfl rfl rfl ?_
  refine Rn_cl (k := 86) (nx := 9) (S2 := [(0, if 1 ≤ k ∧ k ≤ 9 then 1 else 0)]) r_206_6 rfl rfl rfl rfl rfl rfl (c_86 k 1 9) rfl ?_
  refine Rn_i0 (P := ¬ (1 ≤ k ∧ k ≤ 9)) r_206_9 (b01_eq) (fun h9 => ?_) (fun h9 => ?_)
  · refine Rn_st r_206_36 rfl rfl rfl ?_
    exact Rn_rt r_206_38 rfl rfl (by unfold sgV; rw [if_neg (by omega)])
  · refine Rn_st r_206_12 rfl rfl rfl ?_
    refine Rn_st r_206_13 rfl rfl rfl ?_
    refine Rn_st r_206_14 rfl rfl rfl ?_
    refine Rn_st r_206_15 rfl rfl rfl ?_
    refine Rn_cl (k := 86) (nx := 21) (S2 := [(0, if 0 ≤ n ∧ n ≤ 999 then 1 else 0)]) r_206_18 rfl rfl rfl rfl rfl rfl (c_86 n 0 999) rfl ?_
    refine Rn_i0 (P := ¬ (0 ≤ n ∧ n ≤ 999)) r_206_21 (b01_eq) (fun h21 => ?_) (fun h21 => ?_)
    · refine Rn_st r_206_36 rfl rfl rfl ?_
      exact Rn_rt r_206_38 rfl rfl (by unfold sgV; rw [if_neg (by omega)])
    · refine Rn_st r_206_24 rfl rfl rfl ?_
      refine Rn_st r_206_25 rfl rfl rfl ?_
      refine Rn_st r_206_26 rfl rfl rfl ?_
      refine Rn_st r_206_27 rfl rfl rfl ?_
      refine Rn_cl (k := 86) (nx := 33) (S2 := [(0, if 0 ≤ kn ∧ kn ≤ 999 then 1 else 0)]) r_206_30 rfl rfl rfl rfl rfl rfl (c_86 kn 0 999) rfl ?_
      refine Rn_i0 (P := 0 ≤ kn ∧ kn ≤ 999) r_206_33 (b01_ne) (fun h33 => ?_) (fun h33 => ?_)
      · refine Rn_st r_206_39 rfl rfl rfl ?_
        refine Rn_st (L' := [(2, o), (0, k), (0, n), (0, kn), (1, 1), (9, 0), (9, 0)]) (S' := []) r_206_40 rfl rfl rfl ?_
        refine Rn_st r_206_42 rfl rfl rfl ?_
        refine Rn_st (L' := [(2, o), (0, k), (0, n), (0, kn), (1, 1), (9, 0), (0, 1)]) (S' := []) r_206_43 rfl rfl rfl ?_
        unfold sgV
        rw [if_pos (by omega)]
        exact sg_r (by omega) (by omega) (by omega) (by omega) (by omega) (by omega) 9 1 (by omega) (by omega) (by decide)
      · refine Rn_st r_206_36 rfl rfl rfl ?_
        exact Rn_rt r_206_38 rfl rfl (by unfold sgV; rw [if_neg (by omega)])
