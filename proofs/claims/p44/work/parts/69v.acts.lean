/-! the acts of the class exactly -/
theorem r_59_0 : row 59 0 = some (.aload_n 0, 1, 0, 0, 0, 0) := rfl
theorem r_59_1 : row 59 1 = some (.iload_n 1, 2, 0, 0, 0, 0) := rfl
theorem r_59_2 : row 59 2 = some (.invokevirtual 207, 5, 73, 1, 0, 4107) := rfl
theorem r_59_5 : row 59 5 = some (.ifCond .eq 12, 8, 17, 0, 0, 0) := rfl
theorem r_59_8 : row 59 8 = some (.aload_n 0, 9, 0, 0, 0, 0) := rfl
theorem r_59_9 : row 59 9 = some (.iload_n 1, 10, 0, 0, 0, 0) := rfl
theorem r_59_10 : row 59 10 = some (.iconst 1, 11, 1, 0, 0, 0) := rfl
theorem r_59_11 : row 59 11 = some (.invokevirtual 336, 14, 76, 2, 0, 5152) := rfl
theorem r_59_14 : row 59 14 = some (.goto 5, 17, 19, 0, 0, 0) := rfl
theorem r_59_17 : row 59 17 = some (.bipush (-2), 19, (-2), 0, 0, 0) := rfl
theorem r_59_19 : row 59 19 = some (.ireturn, 20, 0, 0, 0, 0) := rfl
theorem r_60_0 : row 60 0 = some (.aload_n 0, 1, 0, 0, 0, 0) := rfl
theorem r_60_1 : row 60 1 = some (.iload_n 1, 2, 0, 0, 0, 0) := rfl
theorem r_60_2 : row 60 2 = some (.invokevirtual 207, 5, 73, 1, 0, 4107) := rfl
theorem r_60_5 : row 60 5 = some (.ifCond .eq 23, 8, 28, 0, 0, 0) := rfl
theorem r_60_8 : row 60 8 = some (.aload_n 0, 9, 0, 0, 0, 0) := rfl
theorem r_60_9 : row 60 9 = some (.iload_n 2, 10, 0, 0, 0, 0) := rfl
theorem r_60_10 : row 60 10 = some (.invokevirtual 169, 13, 72, 1, 0, 4044) := rfl
theorem r_60_13 : row 60 13 = some (.ifCond .eq 15, 16, 28, 0, 0, 0) := rfl
theorem r_60_16 : row 60 16 = some (.aload_n 0, 17, 0, 0, 0, 0) := rfl
theorem r_60_17 : row 60 17 = some (.iload_n 1, 18, 0, 0, 0, 0) := rfl
theorem r_60_18 : row 60 18 = some (.bipush 10, 20, 10, 0, 0, 0) := rfl
theorem r_60_20 : row 60 20 = some (.iload_n 2, 21, 0, 0, 0, 0) := rfl
theorem r_60_21 : row 60 21 = some (.iadd, 22, 0, 0, 0, 0) := rfl
theorem r_60_22 : row 60 22 = some (.invokevirtual 336, 25, 76, 2, 0, 5152) := rfl
theorem r_60_25 : row 60 25 = some (.goto 5, 28, 30, 0, 0, 0) := rfl
theorem r_60_28 : row 60 28 = some (.bipush (-2), 30, (-2), 0, 0, 0) := rfl
theorem r_60_30 : row 60 30 = some (.ireturn, 31, 0, 0, 0, 0) := rfl
theorem r_61_0 : row 61 0 = some (.aload_n 0, 1, 0, 0, 0, 0) := rfl
theorem r_61_1 : row 61 1 = some (.iload_n 1, 2, 0, 0, 0, 0) := rfl
theorem r_61_2 : row 61 2 = some (.invokevirtual 207, 5, 73, 1, 0, 4107) := rfl
theorem r_61_5 : row 61 5 = some (.ifCond .eq 12, 8, 17, 0, 0, 0) := rfl
theorem r_61_8 : row 61 8 = some (.aload_n 0, 9, 0, 0, 0, 0) := rfl
theorem r_61_9 : row 61 9 = some (.iload_n 1, 10, 0, 0, 0, 0) := rfl
theorem r_61_10 : row 61 10 = some (.iconst 2, 11, 2, 0, 0, 0) := rfl
theorem r_61_11 : row 61 11 = some (.invokevirtual 336, 14, 76, 2, 0, 5152) := rfl
theorem r_61_14 : row 61 14 = some (.goto 5, 17, 19, 0, 0, 0) := rfl
theorem r_61_17 : row 61 17 = some (.bipush (-2), 19, (-2), 0, 0, 0) := rfl
theorem r_61_19 : row 61 19 = some (.ireturn, 20, 0, 0, 0, 0) := rfl
theorem r_62_0 : row 62 0 = some (.aload_n 0, 1, 0, 0, 0, 0) := rfl
theorem r_62_1 : row 62 1 = some (.getfield 19, 4, 9, 1, 2, 2159) := rfl
theorem r_62_4 : row 62 4 = some (.invokevirtual 162, 7, 252, 0, 10, 4036) := rfl
theorem r_62_7 : row 62 7 = some (.ifCond .ne 6, 10, 13, 0, 0, 0) := rfl
theorem r_62_10 : row 62 10 = some (.bipush (-2), 12, (-2), 0, 0, 0) := rfl
theorem r_62_12 : row 62 12 = some (.ireturn, 13, 0, 0, 0, 0) := rfl
theorem r_62_13 : row 62 13 = some (.aload_n 0, 14, 0, 0, 0, 0) := rfl
theorem r_62_14 : row 62 14 = some (.getfield 29, 17, 9, 3, 2, 2161) := rfl
theorem r_62_17 : row 62 17 = some (.getfield 339, 20, 0, 2, 10, 1180) := rfl
theorem r_62_20 : row 62 20 = some (.ifCond .ne 6, 23, 26, 0, 0, 0) := rfl
theorem r_62_23 : row 62 23 = some (.bipush (-5), 25, (-5), 0, 0, 0) := rfl
theorem r_62_25 : row 62 25 = some (.ireturn, 26, 0, 0, 0, 0) := rfl
theorem r_62_26 : row 62 26 = some (.aload_n 0, 27, 0, 0, 0, 0) := rfl
theorem r_62_27 : row 62 27 = some (.getfield 29, 30, 9, 3, 2, 2161) := rfl
theorem r_62_30 : row 62 30 = some (.invokevirtual 340, 33, 234, 0, 10, 5174) := rfl
theorem r_62_33 : row 62 33 = some (.aload_n 0, 34, 0, 0, 0, 0) := rfl
theorem r_62_34 : row 62 34 = some (.getfield 39, 37, 9, 5, 2, 2163) := rfl
theorem r_62_37 : row 62 37 = some (.aload_n 0, 38, 0, 0, 0, 0) := rfl
theorem r_62_38 : row 62 38 = some (.getfield 19, 41, 9, 1, 2, 2159) := rfl
theorem r_62_41 : row 62 41 = some (.aload_n 0, 42, 0, 0, 0, 0) := rfl
theorem r_62_42 : row 62 42 = some (.getfield 29, 45, 9, 3, 2, 2161) := rfl
theorem r_62_45 : row 62 45 = some (.iconst 0, 46, 0, 0, 0, 0) := rfl
theorem r_62_46 : row 62 46 = some (.aload_n 0, 47, 0, 0, 0, 0) := rfl
theorem r_62_47 : row 62 47 = some (.getfield 19, 50, 9, 1, 2, 2159) := rfl
theorem r_62_50 : row 62 50 = some (.iconst 0, 51, 0, 0, 0, 0) := rfl
theorem r_62_51 : row 62 51 = some (.invokevirtual 155, 54, 258, 1, 10, 3166) := rfl
theorem r_62_54 : row 62 54 = some (.invokevirtual 255, 57, 288, 4, 10, 3170) := rfl
theorem r_62_57 : row 62 57 = some (.aload_n 0, 58, 0, 0, 0, 0) := rfl
theorem r_62_58 : row 62 58 = some (.getfield 29, 61, 9, 3, 2, 2161) := rfl
theorem r_62_61 : row 62 61 = some (.getfield 339, 64, 0, 2, 10, 1180) := rfl
theorem r_62_64 : row 62 64 = some (.ireturn, 65, 0, 0, 0, 0) := rfl
theorem r_63_0 : row 63 0 = some (.aload_n 0, 1, 0, 0, 0, 0) := rfl
theorem r_63_1 : row 63 1 = some (.getfield 19, 4, 9, 1, 2, 2159) := rfl
theorem r_63_4 : row 63 4 = some (.invokevirtual 162, 7, 252, 0, 10, 4036) := rfl
theorem r_63_7 : row 63 7 = some (.ifCond .ne 6, 10, 13, 0, 0, 0) := rfl
theorem r_63_10 : row 63 10 = some (.bipush (-2), 12, (-2), 0, 0, 0) := rfl
theorem r_63_12 : row 63 12 = some (.ireturn, 13, 0, 0, 0, 0) := rfl
theorem r_63_13 : row 63 13 = some (.aload_n 0, 14, 0, 0, 0, 0) := rfl
theorem r_63_14 : row 63 14 = some (.getfield 29, 17, 9, 3, 2, 2161) := rfl
theorem r_63_17 : row 63 17 = some (.getfield 339, 20, 0, 2, 10, 1180) := rfl
theorem r_63_20 : row 63 20 = some (.istore_n 1, 21, 0, 0, 0, 0) := rfl
theorem r_63_21 : row 63 21 = some (.aload_n 0, 22, 0, 0, 0, 0) := rfl
theorem r_63_22 : row 63 22 = some (.getfield 29, 25, 9, 3, 2, 2161) := rfl
theorem r_63_25 : row 63 25 = some (.invokevirtual 108, 28, 235, 0, 10, 3157) := rfl
theorem r_63_28 : row 63 28 = some (.aload_n 0, 29, 0, 0, 0, 0) := rfl
theorem r_63_29 : row 63 29 = some (.getfield 39, 32, 9, 5, 2, 2163) := rfl
theorem r_63_32 : row 63 32 = some (.aload_n 0, 33, 0, 0, 0, 0) := rfl
theorem r_63_33 : row 63 33 = some (.getfield 19, 36, 9, 1, 2, 2159) := rfl
theorem r_63_36 : row 63 36 = some (.aload_n 0, 37, 0, 0, 0, 0) := rfl
theorem r_63_37 : row 63 37 = some (.getfield 29, 40, 9, 3, 2, 2161) := rfl
theorem r_63_40 : row 63 40 = some (.iconst 0, 41, 0, 0, 0, 0) := rfl
theorem r_63_41 : row 63 41 = some (.aload_n 0, 42, 0, 0, 0, 0) := rfl
theorem r_63_42 : row 63 42 = some (.getfield 19, 45, 9, 1, 2, 2159) := rfl
theorem r_63_45 : row 63 45 = some (.iconst 0, 46, 0, 0, 0, 0) := rfl
theorem r_63_46 : row 63 46 = some (.invokevirtual 155, 49, 258, 1, 10, 3166) := rfl
theorem r_63_49 : row 63 49 = some (.invokevirtual 255, 52, 288, 4, 10, 3170) := rfl
theorem r_63_52 : row 63 52 = some (.iload_n 1, 53, 0, 0, 0, 0) := rfl
theorem r_63_53 : row 63 53 = some (.ireturn, 54, 0, 0, 0, 0) := rfl
theorem r_64_0 : row 64 0 = some (.iload_n 1, 1, 0, 0, 0, 0) := rfl
theorem r_64_1 : row 64 1 = some (.aload_n 0, 2, 0, 0, 0, 0) := rfl
theorem r_64_2 : row 64 2 = some (.getfield 19, 5, 9, 1, 2, 2159) := rfl
theorem r_64_5 : row 64 5 = some (.getfield 123, 8, 3, 6, 10, 1093) := rfl
theorem r_64_8 : row 64 8 = some (.invokestatic 126, 11, 71, 2, 0, 4020) := rfl
theorem r_64_11 : row 64 11 = some (.ifCond .eq 12, 14, 23, 0, 0, 0) := rfl
theorem r_64_14 : row 64 14 = some (.iload_n 2, 15, 0, 0, 0, 0) := rfl
theorem r_64_15 : row 64 15 = some (.bipush 10, 17, 10, 0, 0, 0) := rfl
theorem r_64_17 : row 64 17 = some (.invokestatic 126, 20, 71, 2, 0, 4020) := rfl
theorem r_64_20 : row 64 20 = some (.ifCond .ne 6, 23, 26, 0, 0, 0) := rfl
theorem r_64_23 : row 64 23 = some (.bipush (-2), 25, (-2), 0, 0, 0) := rfl
theorem r_64_25 : row 64 25 = some (.ireturn, 26, 0, 0, 0, 0) := rfl
theorem r_64_26 : row 64 26 = some (.aload_n 0, 27, 0, 0, 0, 0) := rfl
theorem r_64_27 : row 64 27 = some (.getfield 29, 30, 9, 3, 2, 2161) := rfl
theorem r_64_30 : row 64 30 = some (.getfield 339, 33, 0, 2, 10, 1180) := rfl
theorem r_64_33 : row 64 33 = some (.ifCond .le 6, 36, 39, 0, 0, 0) := rfl
theorem r_64_36 : row 64 36 = some (.bipush (-5), 38, (-5), 0, 0, 0) := rfl
theorem r_64_38 : row 64 38 = some (.ireturn, 39, 0, 0, 0, 0) := rfl
theorem r_64_39 : row 64 39 = some (.aload_n 0, 40, 0, 0, 0, 0) := rfl
theorem r_64_40 : row 64 40 = some (.getfield 19, 43, 9, 1, 2, 2159) := rfl
theorem r_64_43 : row 64 43 = some (.getfield 140, 46, 3, 11, 12, 1114) := rfl
theorem r_64_46 : row 64 46 = some (.iload_n 1, 47, 0, 0, 0, 0) := rfl
theorem r_64_47 : row 64 47 = some (.invokestatic 134, 50, 237, 2, 10, 4023) := rfl
theorem r_64_50 : row 64 50 = some (.istore_n 3, 51, 0, 0, 0, 0) := rfl
theorem r_64_51 : row 64 51 = some (.aload_n 0, 52, 0, 0, 0, 0) := rfl
theorem r_64_52 : row 64 52 = some (.getfield 19, 55, 9, 1, 2, 2159) := rfl
theorem r_64_55 : row 64 55 = some (.getfield 140, 58, 3, 11, 12, 1114) := rfl
theorem r_64_58 : row 64 58 = some (.iload_n 1, 59, 0, 0, 0, 0) := rfl
theorem r_64_59 : row 64 59 = some (.iload_n 2, 60, 0, 0, 0, 0) := rfl
theorem r_64_60 : row 64 60 = some (.invokestatic 251, 63, 238, 3, 10, 4190) := rfl
theorem r_64_63 : row 64 63 = some (.aload_n 0, 64, 0, 0, 0, 0) := rfl
theorem r_64_64 : row 64 64 = some (.invokevirtual 111, 67, 75, 0, 0, 3162) := rfl
theorem r_64_67 : row 64 67 = some (.iload_n 3, 68, 0, 0, 0, 0) := rfl
theorem r_64_68 : row 64 68 = some (.ireturn, 69, 0, 0, 0, 0) := rfl
theorem r_72_0 : row 72 0 = some (.iload_n 1, 1, 0, 0, 0, 0) := rfl
theorem r_72_1 : row 72 1 = some (.aload_n 0, 2, 0, 0, 0, 0) := rfl
theorem r_72_2 : row 72 2 = some (.getfield 19, 5, 9, 1, 2, 2159) := rfl
theorem r_72_5 : row 72 5 = some (.getfield 284, 8, 3, 1, 10, 1072) := rfl
theorem r_72_8 : row 72 8 = some (.invokestatic 126, 11, 71, 2, 0, 4020) := rfl
theorem r_72_11 : row 72 11 = some (.ireturn, 12, 0, 0, 0, 0) := rfl
theorem r_73_0 : row 73 0 = some (.iload_n 1, 1, 0, 0, 0, 0) := rfl
theorem r_73_1 : row 73 1 = some (.aload_n 0, 2, 0, 0, 0, 0) := rfl
theorem r_73_2 : row 73 2 = some (.getfield 19, 5, 9, 1, 2, 2159) := rfl
theorem r_73_5 : row 73 5 = some (.getfield 237, 8, 3, 2, 10, 1079) := rfl
theorem r_73_8 : row 73 8 = some (.invokestatic 126, 11, 71, 2, 0, 4020) := rfl
theorem r_73_11 : row 73 11 = some (.ireturn, 12, 0, 0, 0, 0) := rfl
theorem r_76_0 : row 76 0 = some (.aload_n 0, 1, 0, 0, 0, 0) := rfl
theorem r_76_1 : row 76 1 = some (.getfield 29, 4, 9, 3, 2, 2161) := rfl
theorem r_76_4 : row 76 4 = some (.iload_n 1, 5, 0, 0, 0, 0) := rfl
theorem r_76_5 : row 76 5 = some (.invokevirtual 378, 8, 232, 1, 10, 5156) := rfl
theorem r_76_8 : row 76 8 = some (.ifCond .eq 6, 11, 14, 0, 0, 0) := rfl
theorem r_76_11 : row 76 11 = some (.bipush (-5), 13, (-5), 0, 0, 0) := rfl
theorem r_76_13 : row 76 13 = some (.ireturn, 14, 0, 0, 0, 0) := rfl
theorem r_76_14 : row 76 14 = some (.aload_n 0, 15, 0, 0, 0, 0) := rfl
theorem r_76_15 : row 76 15 = some (.getfield 29, 18, 9, 3, 2, 2161) := rfl
theorem r_76_18 : row 76 18 = some (.iload_n 1, 19, 0, 0, 0, 0) := rfl
theorem r_76_19 : row 76 19 = some (.iload_n 2, 20, 0, 0, 0, 0) := rfl
theorem r_76_20 : row 76 20 = some (.invokevirtual 381, 23, 233, 2, 10, 5157) := rfl
theorem r_76_23 : row 76 23 = some (.aload_n 0, 24, 0, 0, 0, 0) := rfl
theorem r_76_24 : row 76 24 = some (.getfield 39, 27, 9, 5, 2, 2163) := rfl
theorem r_76_27 : row 76 27 = some (.aload_n 0, 28, 0, 0, 0, 0) := rfl
theorem r_76_28 : row 76 28 = some (.getfield 19, 31, 9, 1, 2, 2159) := rfl
theorem r_76_31 : row 76 31 = some (.aload_n 0, 32, 0, 0, 0, 0) := rfl
theorem r_76_32 : row 76 32 = some (.getfield 29, 35, 9, 3, 2, 2161) := rfl
theorem r_76_35 : row 76 35 = some (.iconst 0, 36, 0, 0, 0, 0) := rfl
theorem r_76_36 : row 76 36 = some (.aload_n 0, 37, 0, 0, 0, 0) := rfl
theorem r_76_37 : row 76 37 = some (.getfield 19, 40, 9, 1, 2, 2159) := rfl
theorem r_76_40 : row 76 40 = some (.iconst 0, 41, 0, 0, 0, 0) := rfl
theorem r_76_41 : row 76 41 = some (.invokevirtual 155, 44, 258, 1, 10, 3166) := rfl
theorem r_76_44 : row 76 44 = some (.invokevirtual 255, 47, 288, 4, 10, 3170) := rfl
theorem r_76_47 : row 76 47 = some (.aload_n 0, 48, 0, 0, 0, 0) := rfl
theorem r_76_48 : row 76 48 = some (.getfield 39, 51, 9, 5, 2, 2163) := rfl
theorem r_76_51 : row 76 51 = some (.getfield 384, 54, 7, 8, 12, 2018) := rfl
theorem r_76_54 : row 76 54 = some (.iload_n 1, 55, 0, 0, 0, 0) := rfl
theorem r_76_55 : row 76 55 = some (.invokestatic 134, 58, 237, 2, 10, 4023) := rfl
theorem r_76_58 : row 76 58 = some (.ireturn, 59, 0, 0, 0, 0) := rfl
theorem r_232_0 : row 232 0 = some (.aload_n 0, 1, 0, 0, 0, 0) := rfl
theorem r_232_1 : row 232 1 = some (.getfield 9, 4, 0, 0, 2, 1177) := rfl
theorem r_232_4 : row 232 4 = some (.iload_n 1, 5, 0, 0, 0, 0) := rfl
theorem r_232_5 : row 232 5 = some (.invokestatic 22, 8, 237, 2, 10, 3191) := rfl
theorem r_232_8 : row 232 8 = some (.ireturn, 9, 0, 0, 0, 0) := rfl
theorem r_233_0 : row 233 0 = some (.aload_n 0, 1, 0, 0, 0, 0) := rfl
theorem r_233_1 : row 233 1 = some (.getfield 9, 4, 0, 0, 2, 1177) := rfl
theorem r_233_4 : row 233 4 = some (.iload_n 1, 5, 0, 0, 0, 0) := rfl
theorem r_233_5 : row 233 5 = some (.iload_n 2, 6, 0, 0, 0, 0) := rfl
theorem r_233_6 : row 233 6 = some (.invokestatic 28, 9, 238, 3, 10, 5161) := rfl
theorem r_233_9 : row 233 9 = some (.aload_n 0, 10, 0, 0, 0, 0) := rfl
theorem r_233_10 : row 233 10 = some (.getfield 15, 13, 0, 1, 2, 1178) := rfl
theorem r_233_13 : row 233 13 = some (.aload_n 0, 14, 0, 0, 0, 0) := rfl
theorem r_233_14 : row 233 14 = some (.getfield 18, 17, 0, 2, 0, 1179) := rfl
theorem r_233_17 : row 233 17 = some (.iload_n 1, 18, 0, 0, 0, 0) := rfl
theorem r_233_18 : row 233 18 = some (.invokestatic 28, 21, 238, 3, 10, 5161) := rfl
theorem r_233_21 : row 233 21 = some (.aload_n 0, 22, 0, 0, 0, 0) := rfl
theorem r_233_22 : row 233 22 = some (.dup, 23, 0, 0, 0, 0) := rfl
theorem r_233_23 : row 233 23 = some (.getfield 18, 26, 0, 2, 0, 1179) := rfl
theorem r_233_26 : row 233 26 = some (.iconst 1, 27, 1, 0, 0, 0) := rfl
theorem r_233_27 : row 233 27 = some (.iadd, 28, 0, 0, 0, 0) := rfl
theorem r_233_28 : row 233 28 = some (.putfield 18, 31, 0, 2, 0, 1179) := rfl
theorem r_233_31 : row 233 31 = some (.return_, 32, 0, 0, 0, 0) := rfl
theorem r_234_0 : row 234 0 = some (.aload_n 0, 1, 0, 0, 0, 0) := rfl
theorem r_234_1 : row 234 1 = some (.dup, 2, 0, 0, 0, 0) := rfl
theorem r_234_2 : row 234 2 = some (.getfield 18, 5, 0, 2, 0, 1179) := rfl
theorem r_234_5 : row 234 5 = some (.iconst 1, 6, 1, 0, 0, 0) := rfl
theorem r_234_6 : row 234 6 = some (.isub, 7, 0, 0, 0, 0) := rfl
theorem r_234_7 : row 234 7 = some (.putfield 18, 10, 0, 2, 0, 1179) := rfl
theorem r_234_10 : row 234 10 = some (.aload_n 0, 11, 0, 0, 0, 0) := rfl
theorem r_234_11 : row 234 11 = some (.getfield 9, 14, 0, 0, 2, 1177) := rfl
theorem r_234_14 : row 234 14 = some (.aload_n 0, 15, 0, 0, 0, 0) := rfl
theorem r_234_15 : row 234 15 = some (.getfield 15, 18, 0, 1, 2, 1178) := rfl
theorem r_234_18 : row 234 18 = some (.aload_n 0, 19, 0, 0, 0, 0) := rfl
theorem r_234_19 : row 234 19 = some (.getfield 18, 22, 0, 2, 0, 1179) := rfl
theorem r_234_22 : row 234 22 = some (.invokestatic 22, 25, 237, 2, 10, 3191) := rfl
theorem r_234_25 : row 234 25 = some (.iconst 0, 26, 0, 0, 0, 0) := rfl
theorem r_234_26 : row 234 26 = some (.invokestatic 28, 29, 238, 3, 10, 5161) := rfl
theorem r_234_29 : row 234 29 = some (.return_, 30, 0, 0, 0, 0) := rfl
theorem r_252_0 : row 252 0 = some (.aload_n 0, 1, 0, 0, 0, 0) := rfl
theorem r_252_1 : row 252 1 = some (.getfield 9, 4, 3, 0, 0, 1066) := rfl
theorem r_252_4 : row 252 4 = some (.ifCond .le 7, 7, 11, 0, 0, 0) := rfl
theorem r_252_7 : row 252 7 = some (.iconst 1, 8, 1, 0, 0, 0) := rfl
theorem r_252_8 : row 252 8 = some (.goto 4, 11, 12, 0, 0, 0) := rfl
theorem r_252_11 : row 252 11 = some (.iconst 0, 12, 0, 0, 0, 0) := rfl
theorem r_252_12 : row 252 12 = some (.ireturn, 13, 0, 0, 0, 0) := rfl
section ACTSC
variable {T : List Kd} {m : Mm}
/-- one act more: of hour h, with code a; n: how many there were -/
def ActU (m m1 : Mm) (n h : Nat) (a : Int) : Prop := m1 22 2 = (n : Int) + 1 ∧ (∀ k : Nat, k < 12 → m1 23 k = if k = h then a else m 23 k) ∧ (∀ k : Nat, k < 12 → m1 24 k = if k = n then (h : Int) else m 24 k)
/-- the latest act is dropped: n are left, it was of hour h -/
def ActD (m m1 : Mm) (n h : Nat) : Prop := m1 22 2 = (n : Int) ∧ (∀ k : Nat, k < 12 → m1 23 k = if k = h then 0 else m 23 k) ∧ (∀ k : Nat, k < 12 → m1 24 k = m 24 k)
/-- the acts are the same -/
def ActS (m m1 : Mm) : Prop := m1 22 2 = m 22 2 ∧ (∀ k : Nat, k < 12 → m1 23 k = m 23 k) ∧ (∀ k : Nat, k < 12 → m1 24 k = m 24 k)
theorem ActS_fr {W : List Nat} {m m' : Mm} (h : Fr W m m') (h1 : W.contains 22002 = false) (h2 : W.contains 23999 = false) (h3 : W.contains 24999 = false) : ActS m m' := ⟨h 22 2 h1, fun k _ => h 23 k h2, fun k _ => h 24 k h3⟩
theorem ActU_fr {m m1 m2 : Mm} {n h : Nat} {a : Int} (q : ActU m m1 n h a) (f : ActS m1 m2) : ActU m m2 n h a := ⟨f.1.trans q.1, fun k hk => (f.2.1 k hk).trans (q.2.1 k hk), fun k hk => (f.2.2 k hk).trans (q.2.2 k hk)⟩
theorem ActD_fr {m m1 m2 : Mm} {n h : Nat} (q : ActD m m1 n h) (f : ActS m1 m2) : ActD m m2 n h := ⟨f.1.trans q.1, fun k hk => (f.2.1 k hk).trans (q.2.1 k hk), fun k hk => (f.2.2 k hk).trans (q.2.2 k hk)⟩
theorem ActS_rf (m : Mm) : ActS m m := ⟨rfl, fun _ _ => rfl, fun _ _ => rfl⟩
theorem gq_o1y2 : gq0 (2, 1, 0) (2, 1) := (gq_2 rfl).mpr ⟨rfl, by decide, by decide, by decide⟩
theorem gq_o4y2 : gq0 (2, 4, 0) (2, 4) := (gq_2 rfl).mpr ⟨rfl, by decide, by decide, by decide⟩
theorem gq_o22y2 : gq0 (2, 22, 0) (2, 22) := (gq_2 rfl).mpr ⟨rfl, by decide, by decide, by decide⟩
theorem gq_o6y2 : gq0 (2, 6, 0) (2, 6) := (gq_2 rfl).mpr ⟨rfl, by decide, by decide, by decide⟩
theorem gq_o28y2 : gq0 (2, 28, 0) (2, 28) := (gq_2 rfl).mpr ⟨rfl, by decide, by decide, by decide⟩
theorem z_232 (hT : TT T) (hp : PinR m) {h : Nat} (hh : h < 12) : GX T 1 232 0 [(2, 22), (0, (h : Int))] [] m (RI (fun v m1 => v = m 23 h ∧ m1 = m)) := by
  refine gx_st (L' := [(2, 22), (0, (h : Int))]) (S' := [(2, 22)]) r_232_0 rfl rfl rfl ?_
  refine gx_gf (x := 23) 2 r_232_1 (rfl) (ty_22 hT) ⟨by decide, rfl, by decide, by decide⟩ rfl (fun _ => by omega) (pin_at hp (t := 23) rfl (by decide)) ?_
  refine gx_st (L' := [(2, 22), (0, (h : Int))]) (S' := [(0, (h : Int)), (2, 23)]) r_232_4 rfl rfl rfl ?_
  refine gx_ci (nx := 8) (S2 := []) (c_237 (r := 23) (n := 12) (ty_23 hT) (by decide) (by decide) hh) r_232_5 rfl rfl rfl rfl rfl rfl rfl (by decide) rfl (fun x5 n5 q5 => ?_)
  obtain rfl := q5.1.symm
  obtain rfl := q5.2.symm
  show GX T 1 232 8 [(2, 22), (0, (h : Int))] [(0, (m 23 h))] m (RI (fun v m1 => v = m 23 h ∧ m1 = m))
  exact gx_rt r_232_8 rfl rfl ⟨_, rfl, ⟨rfl, rfl⟩⟩
theorem z_233 (hT : TT T) (hp : PinR m) {h n : Nat} (hh : h < 12) (hn : m 22 2 = (n : Int)) (hn12 : n < 12) (a : Int) : GX T 1 233 0 [(2, 22), (0, (h : Int)), (0, a)] [] m (RV (fun m1 => ActU m m1 n h a ∧ ∀ o i : Nat, ¬ (o = 22 ∧ i = 2) → ¬ o = 23 → ¬ o = 24 → m1 o i = m o i)) := by
  refine gx_st (L' := [(2, 22), (0, (h : Int)), (0, a)]) (S' := [(2, 22)]) r_233_0 rfl rfl rfl ?_
  refine gx_gf (x := 23) 2 r_233_1 (rfl) (ty_22 hT) ⟨by decide, rfl, by decide, by decide⟩ rfl (fun _ => by omega) (pin_at hp (t := 23) rfl (by decide)) ?_
  refine gx_st (L' := [(2, 22), (0, (h : Int)), (0, a)]) (S' := [(0, (h : Int)), (2, 23)]) r_233_4 rfl rfl rfl ?_
  refine gx_st (L' := [(2, 22), (0, (h : Int)), (0, a)]) (S' := [(0, a), (0, (h : Int)), (2, 23)]) r_233_5 rfl rfl rfl ?_
  refine gx_cv (nx := 9) (S2 := []) (c_238 (r := 23) (n := 12) (ty_23 hT) (by decide) (by decide) (k := h) hh a) r_233_6 rfl rfl rfl rfl rfl rfl rfl (by decide) rfl (fun n6 q6 => ?_)
  have p6 : PinR n6 := by rw [q6]; exact PinR_up hp rfl
  have c6 : n6 22 2 = (n : Int) := by rw [q6, nu_no (by decide)]; exact hn
  refine gx_st (L' := [(2, 22), (0, (h : Int)), (0, a)]) (S' := [(2, 22)]) r_233_9 rfl rfl rfl ?_
  refine gx_gf (x := 24) 2 r_233_10 (rfl) (ty_22 hT) ⟨by decide, rfl, by decide, by decide⟩ rfl (fun _ => by omega) (pin_at p6 (t := 24) rfl (by decide)) ?_
  refine gx_st (L' := [(2, 22), (0, (h : Int)), (0, a)]) (S' := [(2, 22), (2, 24)]) r_233_13 rfl rfl rfl ?_
  refine gx_gf (x := (n : Int)) 0 r_233_14 (rfl) (ty_22 hT) ⟨by decide, rfl, by decide, by decide⟩ rfl (fun z => absurd z (by decide)) (c6) ?_
  refine gx_st (L' := [(2, 22), (0, (h : Int)), (0, a)]) (S' := [(0, (h : Int)), (0, (n : Int)), (2, 24)]) r_233_17 rfl rfl rfl ?_
  refine gx_cv (nx := 21) (S2 := []) (c_238 (r := 24) (n := 12) (ty_24 hT) (by decide) (by decide) (k := n) hn12 (h : Int)) r_233_18 rfl rfl rfl rfl rfl rfl rfl (by decide) rfl (fun n18 q18 => ?_)
  have p18 : PinR n18 := by rw [q18]; exact PinR_up p6 rfl
  have c18 : n18 22 2 = (n : Int) := by rw [q18, nu_no (by decide)]; exact c6
  refine gx_st (L' := [(2, 22), (0, (h : Int)), (0, a)]) (S' := [(2, 22)]) r_233_21 rfl rfl rfl ?_
  refine gx_st (L' := [(2, 22), (0, (h : Int)), (0, a)]) (S' := [(2, 22), (2, 22)]) r_233_22 rfl rfl rfl ?_
  refine gx_gf (x := (n : Int)) 0 r_233_23 (rfl) (ty_22 hT) ⟨by decide, rfl, by decide, by decide⟩ rfl (fun z => absurd z (by decide)) (c18) ?_
  refine gx_st (L' := [(2, 22), (0, (h : Int)), (0, a)]) (S' := [(0, 1), (0, (n : Int)), (2, 22)]) r_233_26 rfl rfl rfl ?_
  refine gx_ar (L' := [(2, 22), (0, (h : Int)), (0, a)]) (S' := [(2, 22)]) (t := 0) (e := w32 ((n : Int) + 1)) (z := (n : Int) + 1) r_233_27 rfl rfl rfl (w32_eq (by omega) (by omega) (by omega)) ?_
  obtain ⟨m1, e_m1⟩ : ∃ z, z = nu_up n18 22 2 ((n : Int) + 1) := ⟨_, rfl⟩
  refine gx_pf (x := (n : Int) + 1) 0 r_233_28 (rfl) (ty_22 hT) ⟨by decide, rfl, by decide, by decide⟩ rfl (fun z => absurd z (by decide)) (fun z => absurd z (by decide)) e_m1.symm ?_
  refine gx_rt r_233_31 rfl rfl ⟨rfl, ⟨by rw [e_m1, nu_at], fun k hk => ?_, fun k hk => ?_⟩, fun o i h1 h2 h3 => ?_⟩
  · rw [e_m1, nu_no (by decide), q18, nu_no (by decide), q6]
    by_cases e : k = h
    · rw [if_pos e, e, nu_at]
    · rw [if_neg e, nu_ne e]
  · rw [e_m1, nu_no (by decide), q18]
    by_cases e : k = n
    · rw [if_pos e, e, nu_at]
    · rw [if_neg e, nu_ne e, q6, nu_no (by decide)]
  · rw [e_m1]
    by_cases e : o = 22
    · subst e; rw [nu_ne (fun z => h1 ⟨rfl, z⟩), q18, nu_no (by decide), q6, nu_no (by decide)]
    · rw [nu_no e, q18, nu_no h3, q6, nu_no h2]
theorem z_234 (hT : TT T) (hp : PinR m) {h n : Nat} (hn : m 22 2 = (n : Int) + 1) (hn12 : n < 12) (ho : m 24 n = (h : Int)) (hh : h < 12) : GX T 1 234 0 [(2, 22)] [] m (RV (fun m1 => ActD m m1 n h ∧ ∀ o i : Nat, ¬ (o = 22 ∧ i = 2) → ¬ o = 23 → m1 o i = m o i)) := by
  refine gx_st (L' := [(2, 22)]) (S' := [(2, 22)]) r_234_0 rfl rfl rfl ?_
  refine gx_st (L' := [(2, 22)]) (S' := [(2, 22), (2, 22)]) r_234_1 rfl rfl rfl ?_
  refine gx_gf (x := (n : Int) + 1) 0 r_234_2 (rfl) (ty_22 hT) ⟨by decide, rfl, by decide, by decide⟩ rfl (fun z => absurd z (by decide)) (hn) ?_
  refine gx_st (L' := [(2, 22)]) (S' := [(0, 1), (0, (n : Int) + 1), (2, 22)]) r_234_5 rfl rfl rfl ?_
  refine gx_ar (L' := [(2, 22)]) (S' := [(2, 22)]) (t := 0) (e := w32 (((n : Int) + 1) - 1)) (z := (n : Int)) r_234_6 rfl rfl rfl (w32_eq (by omega) (by omega) (by omega)) ?_
  obtain ⟨m1, e_m1⟩ : ∃ z, z = nu_up m 22 2 (n : Int) := ⟨_, rfl⟩
  refine gx_pf (x := (n : Int)) 0 r_234_7 (rfl) (ty_22 hT) ⟨by decide, rfl, by decide, by decide⟩ rfl (fun z => absurd z (by decide)) (fun z => absurd z (by decide)) e_m1.symm ?_
  refine gx_st (L' := [(2, 22)]) (S' := [(2, 22)]) r_234_10 rfl rfl rfl ?_
  refine gx_gf (x := 23) 2 r_234_11 (rfl) (ty_22 hT) ⟨by decide, rfl, by decide, by decide⟩ rfl (fun _ => by omega) (by show m1 22 0 = _; rw [e_m1, nu_ne (by decide)]; exact pin_at hp (t := 23) rfl (by decide)) ?_
  refine gx_st (L' := [(2, 22)]) (S' := [(2, 22), (2, 23)]) r_234_14 rfl rfl rfl ?_
  refine gx_gf (x := 24) 2 r_234_15 (rfl) (ty_22 hT) ⟨by decide, rfl, by decide, by decide⟩ rfl (fun _ => by omega) (by show m1 22 1 = _; rw [e_m1, nu_ne (by decide)]; exact pin_at hp (t := 24) rfl (by decide)) ?_
  refine gx_st (L' := [(2, 22)]) (S' := [(2, 22), (2, 24), (2, 23)]) r_234_18 rfl rfl rfl ?_
  refine gx_gf (x := (n : Int)) 0 r_234_19 (rfl) (ty_22 hT) ⟨by decide, rfl, by decide, by decide⟩ rfl (fun z => absurd z (by decide)) (by show m1 22 2 = _; rw [e_m1, nu_at]) ?_
  refine gx_ci (nx := 25) (S2 := [(2, 23)]) (c_237 (r := 24) (n := 12) (ty_24 hT) (by decide) (by decide) (k := n) hn12) r_234_22 rfl rfl rfl rfl rfl rfl rfl (by decide) rfl (fun x22 n22 q22 => ?_)
  have z22 := q22.2.symm
  subst z22
  have e24 : x22 = (h : Int) := q22.1.trans (by rw [e_m1, nu_no (by decide)]; exact ho)
  rw [e24]
  show GX T 1 234 25 [(2, 22)] [(0, (h : Int)), (2, 23)] m1 (RV (fun m1 => ActD m m1 n h ∧ ∀ o i : Nat, ¬ (o = 22 ∧ i = 2) → ¬ o = 23 → m1 o i = m o i))
  refine gx_st (L' := [(2, 22)]) (S' := [(0, 0), (0, (h : Int)), (2, 23)]) r_234_25 rfl rfl rfl ?_
  refine gx_cv (nx := 29) (S2 := []) (c_238 (r := 23) (n := 12) (ty_23 hT) (by decide) (by decide) (k := h) hh 0) r_234_26 rfl rfl rfl rfl rfl rfl rfl (by decide) rfl (fun n26 q26 => ?_)
  refine gx_rt r_234_29 rfl rfl ⟨rfl, ⟨by rw [q26, nu_no (by decide), e_m1, nu_at], fun k hk => ?_, fun k hk => by rw [q26, nu_no (by decide), e_m1, nu_no (by decide)]⟩, fun o i h1 h2 => ?_⟩
  · rw [q26]
    by_cases e : k = h
    · rw [if_pos e, e, nu_at]
    · rw [if_neg e, nu_ne e, e_m1, nu_no (by decide)]
  · rw [q26, nu_no h2, e_m1]
    by_cases e : o = 22
    · subst e; rw [nu_ne (fun z => h1 ⟨rfl, z⟩)]
    · rw [nu_no e]
set_option maxRecDepth 100000 in
theorem cu_276 : conL[276]? = some (288, [(2, 28, 0), (2, 4, 0), (2, 22, 0), (0, (-2147483648), 2147483647), (0, (-2147483648), 2147483647)], (9, 0, 0), [28010, 28011, 28012, 28013, 29000, 29001, 29002, 29003, 29004, 29005, 29006, 29007, 30999, 31999, 32999, 33999, 34999, 35999, 36999, 37999, 38999, 39999, 40999], 4) := rfl
theorem pu_276 (hT : TT T) : ConH T (288, [(2, 28, 0), (2, 4, 0), (2, 22, 0), (0, (-2147483648), 2147483647), (0, (-2147483648), 2147483647)], (9, 0, 0), [28010, 28011, 28012, 28013, 29000, 29001, 29002, 29003, 29004, 29005, 29006, 29007, 30999, 31999, 32999, 33999, 34999, 35999, 36999, 37999, 38999, 39999, 40999], 4) := fun args m => ((all_con hT 276).1 (by decide)) _ cu_276 args m
set_option maxRecDepth 100000 in
theorem cu_236 : conL[236]? = some (258, [(2, 4, 0), (0, (-2147483648), 2147483647)], (0, (-2147483648), 2147483647), [], 1) := rfl
theorem pu_236 (hT : TT T) : ConH T (258, [(2, 4, 0), (0, (-2147483648), 2147483647)], (0, (-2147483648), 2147483647), [], 1) := fun args m => ((all_con hT 236).1 (by decide)) _ cu_236 args m
set_option maxRecDepth 100000 in
theorem cu_556 : conL[556]? = some (238, [(2, 6, 0), (0, (-2147483648), 2147483647), (0, (-2147483648), 2147483647)], (9, 0, 0), [6999], 0) := rfl
theorem pu_556 (hT : TT T) : ConH T (238, [(2, 6, 0), (0, (-2147483648), 2147483647), (0, (-2147483648), 2147483647)], (9, 0, 0), [6999], 0) := fun args m => ((all_con hT 556).1 (by decide)) _ cu_556 args m
set_option maxRecDepth 100000 in
theorem cu_545 : conL[545]? = some (233, [(2, 22, 0), (0, (-2147483648), 2147483647), (0, (-2147483648), 2147483647)], (9, 0, 0), [22002, 23999, 24999], 1) := rfl
theorem pu_545 (hT : TT T) : ConH T (233, [(2, 22, 0), (0, (-2147483648), 2147483647), (0, (-2147483648), 2147483647)], (9, 0, 0), [22002, 23999, 24999], 1) := fun args m => ((all_con hT 545).1 (by decide)) _ cu_545 args m
set_option maxRecDepth 100000 in
theorem cu_552 : conL[552]? = some (234, [(2, 22, 0)], (9, 0, 0), [22002, 23999], 1) := rfl
theorem pu_552 (hT : TT T) : ConH T (234, [(2, 22, 0)], (9, 0, 0), [22002, 23999], 1) := fun args m => ((all_con hT 552).1 (by decide)) _ cu_552 args m
theorem z_76 (hT : TT T) (hm : Gam m) (hp : PinR m) {n : Nat} (hn : m 22 2 = (n : Int)) {h : Nat} (hn12 : m 23 h = 0 → n < 12) (hh : h < 12) {a : Int} (ha : -2147483648 ≤ a ∧ a ≤ 2147483647) : GX T 5 76 0 [(2, 1), (0, (h : Int)), (0, a)] [] m (RI (fun v m1 => (¬ m 23 h = 0 → v = -5 ∧ m1 = m) ∧ (m 23 h = 0 → ActU m m1 n h a ∧ v = m1 39 h))) := by
  refine gx_st (L' := [(2, 1), (0, (h : Int)), (0, a)]) (S' := [(2, 1)]) r_76_0 rfl rfl rfl ?_
  refine gx_gf (x := 22) 2 r_76_1 (rfl) (ty_1 hT) ⟨by decide, rfl, by decide, by decide⟩ rfl (fun _ => by omega) (pin_at hp (t := 22) rfl (by decide)) ?_
  refine gx_st (L' := [(2, 1), (0, (h : Int)), (0, a)]) (S' := [(0, (h : Int)), (2, 22)]) r_76_4 rfl rfl rfl ?_
  refine gx_ci (nx := 8) (S2 := []) (z_232 hT hp hh) r_76_5 rfl rfl rfl rfl rfl (rcv_v rfl (ty_22 hT) (by decide) rfl (by decide)) rfl (by decide) rfl (fun x5 n5 q5 => ?_)
  obtain rfl := q5.1.symm
  obtain rfl := q5.2.symm
  show GX T 5 76 8 [(2, 1), (0, (h : Int)), (0, a)] [(0, (m 23 h))] m (RI (fun v m1 => (¬ m 23 h = 0 → v = -5 ∧ m1 = m) ∧ (m 23 h = 0 → ActU m m1 n h a ∧ v = m1 39 h)))
  refine gx_i0 (P := (m 23 h) = 0) r_76_8 (rfl) (fun h8 => ?_) (fun h8 => ?_)
  · refine gx_st (L' := [(2, 1), (0, (h : Int)), (0, a)]) (S' := [(2, 1)]) r_76_14 rfl rfl rfl ?_
    refine gx_gf (x := 22) 2 r_76_15 (rfl) (ty_1 hT) ⟨by decide, rfl, by decide, by decide⟩ rfl (fun _ => by omega) (pin_at hp (t := 22) rfl (by decide)) ?_
    refine gx_st (L' := [(2, 1), (0, (h : Int)), (0, a)]) (S' := [(0, (h : Int)), (2, 22)]) r_76_18 rfl rfl rfl ?_
    refine gx_st (L' := [(2, 1), (0, (h : Int)), (0, a)]) (S' := [(0, a), (0, (h : Int)), (2, 22)]) r_76_19 rfl rfl rfl ?_
    have hn2 := hn12 h8
    refine gx_cv (nx := 23) (S2 := []) (gx_av (z_233 hT hp hh hn hn2 a) (gx_hv (args := [(2, 22), (0, (h : Int)), (0, a)]) (pu_545 hT) ⟨gq_o22y2, gq_any (by omega) (by omega), gq_any ha.1 ha.2, trivial⟩ hm rfl)) r_76_20 rfl rfl rfl rfl rfl (rcv_v rfl (ty_22 hT) (by decide) rfl (by decide)) rfl (by decide) rfl (fun n20 q20 => ?_)
    have p20 : PinR n20 := PinR_fr q20.2.2 (by decide) hp
    refine gx_st (L' := [(2, 1), (0, (h : Int)), (0, a)]) (S' := [(2, 1)]) r_76_23 rfl rfl rfl ?_
    refine gx_gf (x := 28) 2 r_76_24 (rfl) (ty_1 hT) ⟨by decide, rfl, by decide, by decide⟩ rfl (fun _ => by omega) (pin_at p20 (t := 28) rfl (by decide)) ?_
    refine gx_st (L' := [(2, 1), (0, (h : Int)), (0, a)]) (S' := [(2, 1), (2, 28)]) r_76_27 rfl rfl rfl ?_
    refine gx_gf (x := 4) 2 r_76_28 (rfl) (ty_1 hT) ⟨by decide, rfl, by decide, by decide⟩ rfl (fun _ => by omega) (pin_at p20 (t := 4) rfl (by decide)) ?_
    refine gx_st (L' := [(2, 1), (0, (h : Int)), (0, a)]) (S' := [(2, 1), (2, 4), (2, 28)]) r_76_31 rfl rfl rfl ?_
    refine gx_gf (x := 22) 2 r_76_32 (rfl) (ty_1 hT) ⟨by decide, rfl, by decide, by decide⟩ rfl (fun _ => by omega) (pin_at p20 (t := 22) rfl (by decide)) ?_
    refine gx_st (L' := [(2, 1), (0, (h : Int)), (0, a)]) (S' := [(0, 0), (2, 22), (2, 4), (2, 28)]) r_76_35 rfl rfl rfl ?_
    refine gx_st (L' := [(2, 1), (0, (h : Int)), (0, a)]) (S' := [(2, 1), (0, 0), (2, 22), (2, 4), (2, 28)]) r_76_36 rfl rfl rfl ?_
    refine gx_gf (x := 4) 2 r_76_37 (rfl) (ty_1 hT) ⟨by decide, rfl, by decide, by decide⟩ rfl (fun _ => by omega) (pin_at p20 (t := 4) rfl (by decide)) ?_
    refine gx_st (L' := [(2, 1), (0, (h : Int)), (0, a)]) (S' := [(0, 0), (2, 4), (0, 0), (2, 22), (2, 4), (2, 28)]) r_76_40 rfl rfl rfl ?_
    refine gx_ci (nx := 44) (S2 := [(0, 0), (2, 22), (2, 4), (2, 28)]) (gx_hi (args := [(2, 4), (0, 0)]) (pu_236 hT) ⟨gq_o4y2, gq_any (by decide) (by decide), trivial⟩ q20.2.1 rfl) r_76_41 rfl rfl rfl rfl rfl (rcv_v rfl (ty_4 hT) (by decide) rfl (by decide)) rfl (by decide) rfl (fun x41 n41 q41 => ?_)
    have z41 : n20 = n41 := (Fr_nil q41.2.2.2).symm
    subst z41
    show GX T 5 76 44 [(2, 1), (0, (h : Int)), (0, a)] [(0, x41), (0, 0), (2, 22), (2, 4), (2, 28)] n20 (RI (fun v m1 => (¬ m 23 h = 0 → v = -5 ∧ m1 = m) ∧ (m 23 h = 0 → ActU m m1 n h a ∧ v = m1 39 h)))
    refine gx_cv (nx := 47) (S2 := []) (gx_hv (args := [(2, 28), (2, 4), (2, 22), (0, 0), (0, x41)]) (pu_276 hT) ⟨gq_o28y2, gq_o4y2, gq_o22y2, gq_any (by decide) (by decide), gq_any q41.1 q41.2.1, trivial⟩ q20.2.1 rfl) r_76_44 rfl rfl rfl rfl rfl (rcv_v rfl (ty_28 hT) (by decide) rfl (by decide)) rfl (by decide) rfl (fun n44 q44 => ?_)
    have p44 : PinR n44 := PinR_fr q44.2 (by decide) p20
    have s44 : ActS n20 n44 := ActS_fr q44.2 rfl rfl rfl
    refine gx_st (L' := [(2, 1), (0, (h : Int)), (0, a)]) (S' := [(2, 1)]) r_76_47 rfl rfl rfl ?_
    refine gx_gf (x := 28) 2 r_76_48 (rfl) (ty_1 hT) ⟨by decide, rfl, by decide, by decide⟩ rfl (fun _ => by omega) (pin_at p44 (t := 28) rfl (by decide)) ?_
    refine gx_gf (x := 39) 2 r_76_51 (rfl) (ty_28 hT) ⟨by decide, rfl, by decide, by decide⟩ rfl (fun _ => by omega) (pin_at p44 (t := 39) rfl (by decide)) ?_
    refine gx_st (L' := [(2, 1), (0, (h : Int)), (0, a)]) (S' := [(0, (h : Int)), (2, 39)]) r_76_54 rfl rfl rfl ?_
    refine gx_ci (nx := 58) (S2 := []) (c_237 (r := 39) (n := 12) (ty_39 hT) (by decide) (by decide) hh) r_76_55 rfl rfl rfl rfl rfl rfl rfl (by decide) rfl (fun x55 n55 q55 => ?_)
    obtain rfl := q55.1.symm
    obtain rfl := q55.2.symm
    show GX T 5 76 58 [(2, 1), (0, (h : Int)), (0, a)] [(0, (n44 39 h))] n44 (RI (fun v m1 => (¬ m 23 h = 0 → v = -5 ∧ m1 = m) ∧ (m 23 h = 0 → ActU m m1 n h a ∧ v = m1 39 h)))
    exact gx_rt r_76_58 rfl rfl ⟨_, rfl, fun z => absurd h8 z, fun z => ⟨ActU_fr q20.1.1 s44, rfl⟩⟩
  · refine gx_st (L' := [(2, 1), (0, (h : Int)), (0, a)]) (S' := [(0, (-5))]) r_76_11 rfl rfl rfl ?_
    exact gx_rt r_76_13 rfl rfl ⟨_, rfl, fun z => ⟨rfl, rfl⟩, fun z => absurd z h8⟩
theorem x_73 (hT : TT T) (hp : PinR m) (a : Int) : GX T 1 73 0 [(2, 1), (0, a)] [] m (RI (fun v m1 => v = (if 0 ≤ a ∧ a < m 4 2 then 1 else 0) ∧ m1 = m)) := by
  refine gx_st (L' := [(2, 1), (0, a)]) (S' := [(0, a)]) r_73_0 rfl rfl rfl ?_
  refine gx_st (L' := [(2, 1), (0, a)]) (S' := [(2, 1), (0, a)]) r_73_1 rfl rfl rfl ?_
  refine gx_gf (x := 4) 2 r_73_2 (rfl) (ty_1 hT) ⟨by decide, rfl, by decide, by decide⟩ rfl (fun _ => by omega) (pin_at hp (t := 4) rfl (by decide)) ?_
  refine gx_gf (x := (m 4 2)) 0 r_73_5 (rfl) (ty_4 hT) ⟨by decide, rfl, by decide, by decide⟩ rfl (fun z => absurd z (by decide)) (rfl) ?_
  refine gx_ci (nx := 11) (S2 := []) (x_71 a (m 4 2)) r_73_8 rfl rfl rfl rfl rfl rfl rfl (by decide) rfl (fun x8 n8 q8 => ?_)
  obtain rfl := q8.1.symm
  obtain rfl := q8.2.symm
  show GX T 1 73 11 [(2, 1), (0, a)] [(0, (if 0 ≤ a ∧ a < (m 4 2) then 1 else 0))] m (RI (fun v m1 => v = (if 0 ≤ a ∧ a < m 4 2 then 1 else 0) ∧ m1 = m))
  exact gx_rb r_73_11 rfl (by split <;> omega) ⟨_, rfl, rfl, rfl⟩
theorem x_72 (hT : TT T) (hp : PinR m) (a : Int) : GX T 1 72 0 [(2, 1), (0, a)] [] m (RI (fun v m1 => v = (if 0 ≤ a ∧ a < m 4 1 then 1 else 0) ∧ m1 = m)) := by
  refine gx_st (L' := [(2, 1), (0, a)]) (S' := [(0, a)]) r_72_0 rfl rfl rfl ?_
  refine gx_st (L' := [(2, 1), (0, a)]) (S' := [(2, 1), (0, a)]) r_72_1 rfl rfl rfl ?_
  refine gx_gf (x := 4) 2 r_72_2 (rfl) (ty_1 hT) ⟨by decide, rfl, by decide, by decide⟩ rfl (fun _ => by omega) (pin_at hp (t := 4) rfl (by decide)) ?_
  refine gx_gf (x := (m 4 1)) 0 r_72_5 (rfl) (ty_4 hT) ⟨by decide, rfl, by decide, by decide⟩ rfl (fun z => absurd z (by decide)) (rfl) ?_
  refine gx_ci (nx := 11) (S2 := []) (x_71 a (m 4 1)) r_72_8 rfl rfl rfl rfl rfl rfl rfl (by decide) rfl (fun x8 n8 q8 => ?_)
  obtain rfl := q8.1.symm
  obtain rfl := q8.2.symm
  show GX T 1 72 11 [(2, 1), (0, a)] [(0, (if 0 ≤ a ∧ a < (m 4 1) then 1 else 0))] m (RI (fun v m1 => v = (if 0 ≤ a ∧ a < m 4 1 then 1 else 0) ∧ m1 = m))
  exact gx_rb r_72_11 rfl (by split <;> omega) ⟨_, rfl, rfl, rfl⟩
theorem x_59 (hT : TT T) (hm : Gam m) (hp : PinR m) {n : Nat} (hn : m 22 2 = (n : Int)) (h42 : m 4 2 ≤ 12) (hz : ∀ h : Nat, h < 12 → m 23 h = 0 → n < 12) (t : Int) : GX T 6 59 0 [(2, 1), (0, t)] [] m (RI (fun v m1 => (¬ (0 ≤ t ∧ t < m 4 2) → v = -2 ∧ m1 = m) ∧ ∀ h : Nat, t = (h : Int) → (h : Int) < m 4 2 → (¬ m 23 h = 0 → v = -5 ∧ m1 = m) ∧ (m 23 h = 0 → ActU m m1 n h 1 ∧ v = m1 39 h))) := by
  refine gx_st (L' := [(2, 1), (0, t)]) (S' := [(2, 1)]) r_59_0 rfl rfl rfl ?_
  refine gx_st (L' := [(2, 1), (0, t)]) (S' := [(0, t), (2, 1)]) r_59_1 rfl rfl rfl ?_
  refine gx_ci (nx := 5) (S2 := []) (x_73 hT hp t) r_59_2 rfl rfl rfl rfl rfl (rcv_v rfl (ty_1 hT) (by decide) rfl (by decide)) rfl (by decide) rfl (fun x2 n2 q2 => ?_)
  obtain rfl := q2.1.symm
  obtain rfl := q2.2.symm
  show GX T 6 59 5 [(2, 1), (0, t)] [(0, (if 0 ≤ t ∧ t < m 4 2 then 1 else 0))] m (RI (fun v m1 => (¬ (0 ≤ t ∧ t < m 4 2) → v = -2 ∧ m1 = m) ∧ ∀ h : Nat, t = (h : Int) → (h : Int) < m 4 2 → (¬ m 23 h = 0 → v = -5 ∧ m1 = m) ∧ (m 23 h = 0 → ActU m m1 n h 1 ∧ v = m1 39 h)))
  refine gx_i0 (P := ¬ (0 ≤ t ∧ t < m 4 2)) r_59_5 (b01_eq) (fun h5 => ?_) (fun h5 => ?_)
  · refine gx_st (L' := [(2, 1), (0, t)]) (S' := [(0, (-2))]) r_59_17 rfl rfl rfl ?_
    exact gx_rt r_59_19 rfl rfl ⟨_, rfl, fun z => ⟨rfl, rfl⟩, fun h e h2 => (by exfalso; omega)⟩
  · have h5 := Decidable.not_not.mp h5
    obtain ⟨hh, hia⟩ : ∃ i : Nat, t = (i : Int) := ⟨t.toNat, by omega⟩
    have hh12 : hh < 12 := by omega
    rw [hia]
    refine gx_st (L' := [(2, 1), (0, (hh : Int))]) (S' := [(2, 1)]) r_59_8 rfl rfl rfl ?_
    refine gx_st (L' := [(2, 1), (0, (hh : Int))]) (S' := [(0, (hh : Int)), (2, 1)]) r_59_9 rfl rfl rfl ?_
    refine gx_st (L' := [(2, 1), (0, (hh : Int))]) (S' := [(0, 1), (0, (hh : Int)), (2, 1)]) r_59_10 rfl rfl rfl ?_
    refine gx_ci (nx := 14) (S2 := []) (z_76 hT hm hp hn (h := hh) (hz hh hh12) hh12 (a := 1) ⟨by omega, by omega⟩) r_59_11 rfl rfl rfl rfl rfl (rcv_v rfl (ty_1 hT) (by decide) rfl (by decide)) rfl (by decide) rfl (fun x11 n11 q11 => ?_)
    show GX T 6 59 14 [(2, 1), (0, (hh : Int))] [(0, x11)] n11 (RI (fun v m1 => (¬ (0 ≤ (hh : Int) ∧ (hh : Int) < m 4 2) → v = -2 ∧ m1 = m) ∧ ∀ h : Nat, (hh : Int) = (h : Int) → (h : Int) < m 4 2 → (¬ m 23 h = 0 → v = -5 ∧ m1 = m) ∧ (m 23 h = 0 → ActU m m1 n h 1 ∧ v = m1 39 h)))
    refine gx_st (L' := [(2, 1), (0, (hh : Int))]) (S' := [(0, x11)]) r_59_14 rfl rfl rfl ?_
    exact gx_rt r_59_19 rfl rfl ⟨_, rfl, fun z => absurd (by omega) z, fun h e h2 => (show h = hh by omega) ▸ q11⟩
theorem x_61 (hT : TT T) (hm : Gam m) (hp : PinR m) {n : Nat} (hn : m 22 2 = (n : Int)) (h42 : m 4 2 ≤ 12) (hz : ∀ h : Nat, h < 12 → m 23 h = 0 → n < 12) (t : Int) : GX T 6 61 0 [(2, 1), (0, t)] [] m (RI (fun v m1 => (¬ (0 ≤ t ∧ t < m 4 2) → v = -2 ∧ m1 = m) ∧ ∀ h : Nat, t = (h : Int) → (h : Int) < m 4 2 → (¬ m 23 h = 0 → v = -5 ∧ m1 = m) ∧ (m 23 h = 0 → ActU m m1 n h 2 ∧ v = m1 39 h))) := by
  refine gx_st (L' := [(2, 1), (0, t)]) (S' := [(2, 1)]) r_61_0 rfl rfl rfl ?_
  refine gx_st (L' := [(2, 1), (0, t)]) (S' := [(0, t), (2, 1)]) r_61_1 rfl rfl rfl ?_
  refine gx_ci (nx := 5) (S2 := []) (x_73 hT hp t) r_61_2 rfl rfl rfl rfl rfl (rcv_v rfl (ty_1 hT) (by decide) rfl (by decide)) rfl (by decide) rfl (fun x2 n2 q2 => ?_)
  obtain rfl := q2.1.symm
  obtain rfl := q2.2.symm
  show GX T 6 61 5 [(2, 1), (0, t)] [(0, (if 0 ≤ t ∧ t < m 4 2 then 1 else 0))] m (RI (fun v m1 => (¬ (0 ≤ t ∧ t < m 4 2) → v = -2 ∧ m1 = m) ∧ ∀ h : Nat, t = (h : Int) → (h : Int) < m 4 2 → (¬ m 23 h = 0 → v = -5 ∧ m1 = m) ∧ (m 23 h = 0 → ActU m m1 n h 2 ∧ v = m1 39 h)))
  refine gx_i0 (P := ¬ (0 ≤ t ∧ t < m 4 2)) r_61_5 (b01_eq) (fun h5 => ?_) (fun h5 => ?_)
  · refine gx_st (L' := [(2, 1), (0, t)]) (S' := [(0, (-2))]) r_61_17 rfl rfl rfl ?_
    exact gx_rt r_61_19 rfl rfl ⟨_, rfl, fun z => ⟨rfl, rfl⟩, fun h e h2 => (by exfalso; omega)⟩
  · have h5 := Decidable.not_not.mp h5
    obtain ⟨hh, hia⟩ : ∃ i : Nat, t = (i : Int) := ⟨t.toNat, by omega⟩
    have hh12 : hh < 12 := by omega
    rw [hia]
    refine gx_st (L' := [(2, 1), (0, (hh : Int))]) (S' := [(2, 1)]) r_61_8 rfl rfl rfl ?_
    refine gx_st (L' := [(2, 1), (0, (hh : Int))]) (S' := [(0, (hh : Int)), (2, 1)]) r_61_9 rfl rfl rfl ?_
    refine gx_st (L' := [(2, 1), (0, (hh : Int))]) (S' := [(0, 2), (0, (hh : Int)), (2, 1)]) r_61_10 rfl rfl rfl ?_
    refine gx_ci (nx := 14) (S2 := []) (z_76 hT hm hp hn (h := hh) (hz hh hh12) hh12 (a := 2) ⟨by omega, by omega⟩) r_61_11 rfl rfl rfl rfl rfl (rcv_v rfl (ty_1 hT) (by decide) rfl (by decide)) rfl (by decide) rfl (fun x11 n11 q11 => ?_)
    show GX T 6 61 14 [(2, 1), (0, (hh : Int))] [(0, x11)] n11 (RI (fun v m1 => (¬ (0 ≤ (hh : Int) ∧ (hh : Int) < m 4 2) → v = -2 ∧ m1 = m) ∧ ∀ h : Nat, (hh : Int) = (h : Int) → (h : Int) < m 4 2 → (¬ m 23 h = 0 → v = -5 ∧ m1 = m) ∧ (m 23 h = 0 → ActU m m1 n h 2 ∧ v = m1 39 h)))
    refine gx_st (L' := [(2, 1), (0, (hh : Int))]) (S' := [(0, x11)]) r_61_14 rfl rfl rfl ?_
    exact gx_rt r_61_19 rfl rfl ⟨_, rfl, fun z => absurd (by omega) z, fun h e h2 => (show h = hh by omega) ▸ q11⟩
theorem x_60 (hT : TT T) (hm : Gam m) (hp : PinR m) {n : Nat} (hn : m 22 2 = (n : Int)) (h42 : m 4 2 ≤ 12) (hz : ∀ h : Nat, h < 12 → m 23 h = 0 → n < 12) (t p : Int) (h41 : m 4 1 ≤ 7) : GX T 6 60 0 [(2, 1), (0, t), (0, p)] [] m (RI (fun v m1 => (¬ ((0 ≤ t ∧ t < m 4 2) ∧ (0 ≤ p ∧ p < m 4 1)) → v = -2 ∧ m1 = m) ∧ ∀ h : Nat, t = (h : Int) → (h : Int) < m 4 2 → (0 ≤ p ∧ p < m 4 1) → (¬ m 23 h = 0 → v = -5 ∧ m1 = m) ∧ (m 23 h = 0 → ActU m m1 n h (p + 10) ∧ v = m1 39 h))) := by
  refine gx_st (L' := [(2, 1), (0, t), (0, p)]) (S' := [(2, 1)]) r_60_0 rfl rfl rfl ?_
  refine gx_st (L' := [(2, 1), (0, t), (0, p)]) (S' := [(0, t), (2, 1)]) r_60_1 rfl rfl rfl ?_
  refine gx_ci (nx := 5) (S2 := []) (x_73 hT hp t) r_60_2 rfl rfl rfl rfl rfl (rcv_v rfl (ty_1 hT) (by decide) rfl (by decide)) rfl (by decide) rfl (fun x2 n2 q2 => ?_)
  obtain rfl := q2.1.symm
  obtain rfl := q2.2.symm
  show GX T 6 60 5 [(2, 1), (0, t), (0, p)] [(0, (if 0 ≤ t ∧ t < m 4 2 then 1 else 0))] m (RI (fun v m1 => (¬ ((0 ≤ t ∧ t < m 4 2) ∧ (0 ≤ p ∧ p < m 4 1)) → v = -2 ∧ m1 = m) ∧ ∀ h : Nat, t = (h : Int) → (h : Int) < m 4 2 → (0 ≤ p ∧ p < m 4 1) → (¬ m 23 h = 0 → v = -5 ∧ m1 = m) ∧ (m 23 h = 0 → ActU m m1 n h (p + 10) ∧ v = m1 39 h)))
  refine gx_i0 (P := ¬ (0 ≤ t ∧ t < m 4 2)) r_60_5 (b01_eq) (fun h5 => ?_) (fun h5 => ?_)
  · refine gx_st (L' := [(2, 1), (0, t), (0, p)]) (S' := [(0, (-2))]) r_60_28 rfl rfl rfl ?_
    exact gx_rt r_60_30 rfl rfl ⟨_, rfl, fun z => ⟨rfl, rfl⟩, fun h e h2 h3 => (by exfalso; omega)⟩
  · have h5 := Decidable.not_not.mp h5
    refine gx_st (L' := [(2, 1), (0, t), (0, p)]) (S' := [(2, 1)]) r_60_8 rfl rfl rfl ?_
    refine gx_st (L' := [(2, 1), (0, t), (0, p)]) (S' := [(0, p), (2, 1)]) r_60_9 rfl rfl rfl ?_
    refine gx_ci (nx := 13) (S2 := []) (x_72 hT hp p) r_60_10 rfl rfl rfl rfl rfl (rcv_v rfl (ty_1 hT) (by decide) rfl (by decide)) rfl (by decide) rfl (fun x10 n10 q10 => ?_)
    obtain rfl := q10.1.symm
    obtain rfl := q10.2.symm
    show GX T 6 60 13 [(2, 1), (0, t), (0, p)] [(0, (if 0 ≤ p ∧ p < m 4 1 then 1 else 0))] m (RI (fun v m1 => (¬ ((0 ≤ t ∧ t < m 4 2) ∧ (0 ≤ p ∧ p < m 4 1)) → v = -2 ∧ m1 = m) ∧ ∀ h : Nat, t = (h : Int) → (h : Int) < m 4 2 → (0 ≤ p ∧ p < m 4 1) → (¬ m 23 h = 0 → v = -5 ∧ m1 = m) ∧ (m 23 h = 0 → ActU m m1 n h (p + 10) ∧ v = m1 39 h)))
    refine gx_i0 (P := ¬ (0 ≤ p ∧ p < m 4 1)) r_60_13 (b01_eq) (fun h13 => ?_) (fun h13 => ?_)
    · refine gx_st (L' := [(2, 1), (0, t), (0, p)]) (S' := [(0, (-2))]) r_60_28 rfl rfl rfl ?_
      exact gx_rt r_60_30 rfl rfl ⟨_, rfl, fun z => ⟨rfl, rfl⟩, fun h e h2 h3 => (by exfalso; omega)⟩
    · have h13 := Decidable.not_not.mp h13
      obtain ⟨hh, hia⟩ : ∃ i : Nat, t = (i : Int) := ⟨t.toNat, by omega⟩
      have hh12 : hh < 12 := by omega
      rw [hia]
      refine gx_st (L' := [(2, 1), (0, (hh : Int)), (0, p)]) (S' := [(2, 1)]) r_60_16 rfl rfl rfl ?_
      refine gx_st (L' := [(2, 1), (0, (hh : Int)), (0, p)]) (S' := [(0, (hh : Int)), (2, 1)]) r_60_17 rfl rfl rfl ?_
      refine gx_st (L' := [(2, 1), (0, (hh : Int)), (0, p)]) (S' := [(0, 10), (0, (hh : Int)), (2, 1)]) r_60_18 rfl rfl rfl ?_
      refine gx_st (L' := [(2, 1), (0, (hh : Int)), (0, p)]) (S' := [(0, p), (0, 10), (0, (hh : Int)), (2, 1)]) r_60_20 rfl rfl rfl ?_
      refine gx_ar (L' := [(2, 1), (0, (hh : Int)), (0, p)]) (S' := [(0, (hh : Int)), (2, 1)]) (t := 0) (e := w32 (10 + p)) (z := p + 10) r_60_21 rfl rfl rfl (w32_eq (by omega) (by omega) (by omega)) ?_
      refine gx_ci (nx := 25) (S2 := []) (z_76 hT hm hp hn (h := hh) (hz hh hh12) hh12 (a := (p + 10)) ⟨by omega, by omega⟩) r_60_22 rfl rfl rfl rfl rfl (rcv_v rfl (ty_1 hT) (by decide) rfl (by decide)) rfl (by decide) rfl (fun x22 n22 q22 => ?_)
      show GX T 6 60 25 [(2, 1), (0, (hh : Int)), (0, p)] [(0, x22)] n22 (RI (fun v m1 => (¬ ((0 ≤ (hh : Int) ∧ (hh : Int) < m 4 2) ∧ (0 ≤ p ∧ p < m 4 1)) → v = -2 ∧ m1 = m) ∧ ∀ h : Nat, (hh : Int) = (h : Int) → (h : Int) < m 4 2 → (0 ≤ p ∧ p < m 4 1) → (¬ m 23 h = 0 → v = -5 ∧ m1 = m) ∧ (m 23 h = 0 → ActU m m1 n h (p + 10) ∧ v = m1 39 h)))
      refine gx_st (L' := [(2, 1), (0, (hh : Int)), (0, p)]) (S' := [(0, x22)]) r_60_25 rfl rfl rfl ?_
      exact gx_rt r_60_30 rfl rfl ⟨_, rfl, fun z => absurd (by omega) z, fun h e h2 h3 => (show h = hh by omega) ▸ q22⟩
theorem x_252 (hT : TT T) : GX T 0 252 0 [(2, 4)] [] m (RI (fun v m1 => v = (if 0 < m 4 0 then 1 else 0) ∧ m1 = m)) := by
  refine gx_st (L' := [(2, 4)]) (S' := [(2, 4)]) r_252_0 rfl rfl rfl ?_
  refine gx_gf (x := (m 4 0)) 0 r_252_1 (rfl) (ty_4 hT) ⟨by decide, rfl, by decide, by decide⟩ rfl (fun z => absurd z (by decide)) (rfl) ?_
  refine gx_i0 (P := (m 4 0) ≤ 0) r_252_4 (rfl) (fun h4 => ?_) (fun h4 => ?_)
  · refine gx_st (L' := [(2, 4)]) (S' := [(0, 0)]) r_252_11 rfl rfl rfl ?_
    exact gx_rb r_252_12 rfl (Or.inl rfl) ⟨_, rfl, (if_neg (by omega)).symm, rfl⟩
  · refine gx_st (L' := [(2, 4)]) (S' := [(0, 1)]) r_252_7 rfl rfl rfl ?_
    refine gx_st (L' := [(2, 4)]) (S' := [(0, 1)]) r_252_8 rfl rfl rfl ?_
    exact gx_rb r_252_12 rfl (Or.inr rfl) ⟨_, rfl, (if_pos (by omega)).symm, rfl⟩
theorem x_62 (hT : TT T) (hm : Gam m) (hp : PinR m) {n : Nat} (hn : m 22 2 = (n : Int)) {h : Nat} (ho : 0 < n → m 24 (n - 1) = (h : Int)) (hn12 : n ≤ 12) (hh : h < 12) : GX T 5 62 0 [(2, 1)] [] m (RI (fun v m1 => (¬ 0 < m 4 0 → v = -2 ∧ m1 = m) ∧ (0 < m 4 0 → n = 0 → v = -5 ∧ m1 = m) ∧ (0 < m 4 0 → ¬ n = 0 → v = ((n - 1 : Nat) : Int) ∧ ActD m m1 (n - 1) h))) := by
  refine gx_st (L' := [(2, 1)]) (S' := [(2, 1)]) r_62_0 rfl rfl rfl ?_
  refine gx_gf (x := 4) 2 r_62_1 (rfl) (ty_1 hT) ⟨by decide, rfl, by decide, by decide⟩ rfl (fun _ => by omega) (pin_at hp (t := 4) rfl (by decide)) ?_
  refine gx_ci (nx := 7) (S2 := []) (x_252 hT) r_62_4 rfl rfl rfl rfl rfl (rcv_v rfl (ty_4 hT) (by decide) rfl (by decide)) rfl (by decide) rfl (fun x4 n4 q4 => ?_)
  obtain rfl := q4.1.symm
  obtain rfl := q4.2.symm
  show GX T 5 62 7 [(2, 1)] [(0, (if 0 < m 4 0 then 1 else 0))] m (RI (fun v m1 => (¬ 0 < m 4 0 → v = -2 ∧ m1 = m) ∧ (0 < m 4 0 → n = 0 → v = -5 ∧ m1 = m) ∧ (0 < m 4 0 → ¬ n = 0 → v = ((n - 1 : Nat) : Int) ∧ ActD m m1 (n - 1) h)))
  refine gx_i0 (P := 0 < m 4 0) r_62_7 (b01_ne) (fun h7 => ?_) (fun h7 => ?_)
  · refine gx_st (L' := [(2, 1)]) (S' := [(2, 1)]) r_62_13 rfl rfl rfl ?_
    refine gx_gf (x := 22) 2 r_62_14 (rfl) (ty_1 hT) ⟨by decide, rfl, by decide, by decide⟩ rfl (fun _ => by omega) (pin_at hp (t := 22) rfl (by decide)) ?_
    refine gx_gf (x := (n : Int)) 0 r_62_17 (rfl) (ty_22 hT) ⟨by decide, rfl, by decide, by decide⟩ rfl (fun z => absurd z (by decide)) (hn) ?_
    refine gx_i0 (P := ¬ (n : Int) = 0) r_62_20 (rfl) (fun h20 => ?_) (fun h20 => ?_)
    · refine gx_st (L' := [(2, 1)]) (S' := [(2, 1)]) r_62_26 rfl rfl rfl ?_
      refine gx_gf (x := 22) 2 r_62_27 (rfl) (ty_1 hT) ⟨by decide, rfl, by decide, by decide⟩ rfl (fun _ => by omega) (pin_at hp (t := 22) rfl (by decide)) ?_
      refine gx_cv (nx := 33) (S2 := []) (gx_av (z_234 hT hp (n := n - 1) (h := h) (by rw [hn]; omega) (by omega) (ho (by omega)) hh) (gx_hv (args := [(2, 22)]) (pu_552 hT) ⟨gq_o22y2, trivial⟩ hm rfl)) r_62_30 rfl rfl rfl rfl rfl (rcv_v rfl (ty_22 hT) (by decide) rfl (by decide)) rfl (by decide) rfl (fun n30 q30 => ?_)
      have p30 : PinR n30 := PinR_fr q30.2.2 (by decide) hp
      refine gx_st (L' := [(2, 1)]) (S' := [(2, 1)]) r_62_33 rfl rfl rfl ?_
      refine gx_gf (x := 28) 2 r_62_34 (rfl) (ty_1 hT) ⟨by decide, rfl, by decide, by decide⟩ rfl (fun _ => by omega) (pin_at p30 (t := 28) rfl (by decide)) ?_
      refine gx_st (L' := [(2, 1)]) (S' := [(2, 1), (2, 28)]) r_62_37 rfl rfl rfl ?_
      refine gx_gf (x := 4) 2 r_62_38 (rfl) (ty_1 hT) ⟨by decide, rfl, by decide, by decide⟩ rfl (fun _ => by omega) (pin_at p30 (t := 4) rfl (by decide)) ?_
      refine gx_st (L' := [(2, 1)]) (S' := [(2, 1), (2, 4), (2, 28)]) r_62_41 rfl rfl rfl ?_
      refine gx_gf (x := 22) 2 r_62_42 (rfl) (ty_1 hT) ⟨by decide, rfl, by decide, by decide⟩ rfl (fun _ => by omega) (pin_at p30 (t := 22) rfl (by decide)) ?_
      refine gx_st (L' := [(2, 1)]) (S' := [(0, 0), (2, 22), (2, 4), (2, 28)]) r_62_45 rfl rfl rfl ?_
      refine gx_st (L' := [(2, 1)]) (S' := [(2, 1), (0, 0), (2, 22), (2, 4), (2, 28)]) r_62_46 rfl rfl rfl ?_
      refine gx_gf (x := 4) 2 r_62_47 (rfl) (ty_1 hT) ⟨by decide, rfl, by decide, by decide⟩ rfl (fun _ => by omega) (pin_at p30 (t := 4) rfl (by decide)) ?_
      refine gx_st (L' := [(2, 1)]) (S' := [(0, 0), (2, 4), (0, 0), (2, 22), (2, 4), (2, 28)]) r_62_50 rfl rfl rfl ?_
      refine gx_ci (nx := 54) (S2 := [(0, 0), (2, 22), (2, 4), (2, 28)]) (gx_hi (args := [(2, 4), (0, 0)]) (pu_236 hT) ⟨gq_o4y2, gq_any (by decide) (by decide), trivial⟩ q30.2.1 rfl) r_62_51 rfl rfl rfl rfl rfl (rcv_v rfl (ty_4 hT) (by decide) rfl (by decide)) rfl (by decide) rfl (fun x51 n51 q51 => ?_)
      have z51 : n30 = n51 := (Fr_nil q51.2.2.2).symm
      subst z51
      show GX T 5 62 54 [(2, 1)] [(0, x51), (0, 0), (2, 22), (2, 4), (2, 28)] n30 (RI (fun v m1 => (¬ 0 < m 4 0 → v = -2 ∧ m1 = m) ∧ (0 < m 4 0 → n = 0 → v = -5 ∧ m1 = m) ∧ (0 < m 4 0 → ¬ n = 0 → v = ((n - 1 : Nat) : Int) ∧ ActD m m1 (n - 1) h)))
      refine gx_cv (nx := 57) (S2 := []) (gx_hv (args := [(2, 28), (2, 4), (2, 22), (0, 0), (0, x51)]) (pu_276 hT) ⟨gq_o28y2, gq_o4y2, gq_o22y2, gq_any (by decide) (by decide), gq_any q51.1 q51.2.1, trivial⟩ q30.2.1 rfl) r_62_54 rfl rfl rfl rfl rfl (rcv_v rfl (ty_28 hT) (by decide) rfl (by decide)) rfl (by decide) rfl (fun n54 q54 => ?_)
      have p54 : PinR n54 := PinR_fr q54.2 (by decide) p30
      have s54 : ActS n30 n54 := ActS_fr q54.2 rfl rfl rfl
      refine gx_st (L' := [(2, 1)]) (S' := [(2, 1)]) r_62_57 rfl rfl rfl ?_
      refine gx_gf (x := 22) 2 r_62_58 (rfl) (ty_1 hT) ⟨by decide, rfl, by decide, by decide⟩ rfl (fun _ => by omega) (pin_at p54 (t := 22) rfl (by decide)) ?_
      refine gx_gf (x := ((n - 1 : Nat) : Int)) 0 r_62_61 (rfl) (ty_22 hT) ⟨by decide, rfl, by decide, by decide⟩ rfl (fun z => absurd z (by decide)) (s54.1.trans q30.1.1.1) ?_
      exact gx_rt r_62_64 rfl rfl ⟨_, rfl, fun z => absurd h7 z, fun z z2 => absurd z2 (show ¬ n = 0 by omega), fun z z2 => ⟨rfl, ActD_fr q30.1.1 s54⟩⟩
    · have h20 := Decidable.not_not.mp h20
      refine gx_st (L' := [(2, 1)]) (S' := [(0, (-5))]) r_62_23 rfl rfl rfl ?_
      exact gx_rt r_62_25 rfl rfl ⟨_, rfl, fun z => absurd h7 z, fun z z2 => ⟨rfl, rfl⟩, fun z z2 => absurd (show n = 0 by omega) z2⟩
  · refine gx_st (L' := [(2, 1)]) (S' := [(0, (-2))]) r_62_10 rfl rfl rfl ?_
    exact gx_rt r_62_12 rfl rfl ⟨_, rfl, fun z => ⟨rfl, rfl⟩, fun z => absurd z h7, fun z => absurd z h7⟩
theorem x_63 (hT : TT T) (hm : Gam m) (hp : PinR m) {n : Nat} (hn : m 22 2 = (n : Int)) : GX T 5 63 0 [(2, 1), (9, 0)] [] m (RI (fun v m1 => (¬ 0 < m 4 0 → v = -2 ∧ m1 = m) ∧ (0 < m 4 0 → v = (n : Int) ∧ m1 22 2 = 0 ∧ ∀ k : Nat, k < 12 → m1 23 k = 0))) := by
  refine gx_st (L' := [(2, 1), (9, 0)]) (S' := [(2, 1)]) r_63_0 rfl rfl rfl ?_
  refine gx_gf (x := 4) 2 r_63_1 (rfl) (ty_1 hT) ⟨by decide, rfl, by decide, by decide⟩ rfl (fun _ => by omega) (pin_at hp (t := 4) rfl (by decide)) ?_
  refine gx_ci (nx := 7) (S2 := []) (x_252 hT) r_63_4 rfl rfl rfl rfl rfl (rcv_v rfl (ty_4 hT) (by decide) rfl (by decide)) rfl (by decide) rfl (fun x4 n4 q4 => ?_)
  obtain rfl := q4.1.symm
  obtain rfl := q4.2.symm
  show GX T 5 63 7 [(2, 1), (9, 0)] [(0, (if 0 < m 4 0 then 1 else 0))] m (RI (fun v m1 => (¬ 0 < m 4 0 → v = -2 ∧ m1 = m) ∧ (0 < m 4 0 → v = (n : Int) ∧ m1 22 2 = 0 ∧ ∀ k : Nat, k < 12 → m1 23 k = 0)))
  refine gx_i0 (P := 0 < m 4 0) r_63_7 (b01_ne) (fun h7 => ?_) (fun h7 => ?_)
  · refine gx_st (L' := [(2, 1), (9, 0)]) (S' := [(2, 1)]) r_63_13 rfl rfl rfl ?_
    refine gx_gf (x := 22) 2 r_63_14 (rfl) (ty_1 hT) ⟨by decide, rfl, by decide, by decide⟩ rfl (fun _ => by omega) (pin_at hp (t := 22) rfl (by decide)) ?_
    refine gx_gf (x := (n : Int)) 0 r_63_17 (rfl) (ty_22 hT) ⟨by decide, rfl, by decide, by decide⟩ rfl (fun z => absurd z (by decide)) (hn) ?_
    refine gx_st (L' := [(2, 1), (0, (n : Int))]) (S' := []) r_63_20 rfl rfl rfl ?_
    refine gx_st (L' := [(2, 1), (0, (n : Int))]) (S' := [(2, 1)]) r_63_21 rfl rfl rfl ?_
    refine gx_gf (x := 22) 2 r_63_22 (rfl) (ty_1 hT) ⟨by decide, rfl, by decide, by decide⟩ rfl (fun _ => by omega) (pin_at hp (t := 22) rfl (by decide)) ?_
    refine gx_cv (nx := 28) (S2 := []) (gx_av (z_235 (o := 22) (ActsT_of hT rfl) (ActsR_of hp rfl)) (gx_hv (args := [(2, 22)]) (pu_234 hT) ⟨gq_o22y2, trivial⟩ hm rfl)) r_63_25 rfl rfl rfl rfl rfl (rcv_v rfl (ty_22 hT) (by decide) rfl (by decide)) rfl (by decide) rfl (fun n25 q25 => ?_)
    have p25 : PinR n25 := PinR_fr q25.2.2 (by decide) hp
    refine gx_st (L' := [(2, 1), (0, (n : Int))]) (S' := [(2, 1)]) r_63_28 rfl rfl rfl ?_
    refine gx_gf (x := 28) 2 r_63_29 (rfl) (ty_1 hT) ⟨by decide, rfl, by decide, by decide⟩ rfl (fun _ => by omega) (pin_at p25 (t := 28) rfl (by decide)) ?_
    refine gx_st (L' := [(2, 1), (0, (n : Int))]) (S' := [(2, 1), (2, 28)]) r_63_32 rfl rfl rfl ?_
    refine gx_gf (x := 4) 2 r_63_33 (rfl) (ty_1 hT) ⟨by decide, rfl, by decide, by decide⟩ rfl (fun _ => by omega) (pin_at p25 (t := 4) rfl (by decide)) ?_
    refine gx_st (L' := [(2, 1), (0, (n : Int))]) (S' := [(2, 1), (2, 4), (2, 28)]) r_63_36 rfl rfl rfl ?_
    refine gx_gf (x := 22) 2 r_63_37 (rfl) (ty_1 hT) ⟨by decide, rfl, by decide, by decide⟩ rfl (fun _ => by omega) (pin_at p25 (t := 22) rfl (by decide)) ?_
    refine gx_st (L' := [(2, 1), (0, (n : Int))]) (S' := [(0, 0), (2, 22), (2, 4), (2, 28)]) r_63_40 rfl rfl rfl ?_
    refine gx_st (L' := [(2, 1), (0, (n : Int))]) (S' := [(2, 1), (0, 0), (2, 22), (2, 4), (2, 28)]) r_63_41 rfl rfl rfl ?_
    refine gx_gf (x := 4) 2 r_63_42 (rfl) (ty_1 hT) ⟨by decide, rfl, by decide, by decide⟩ rfl (fun _ => by omega) (pin_at p25 (t := 4) rfl (by decide)) ?_
    refine gx_st (L' := [(2, 1), (0, (n : Int))]) (S' := [(0, 0), (2, 4), (0, 0), (2, 22), (2, 4), (2, 28)]) r_63_45 rfl rfl rfl ?_
    refine gx_ci (nx := 49) (S2 := [(0, 0), (2, 22), (2, 4), (2, 28)]) (gx_hi (args := [(2, 4), (0, 0)]) (pu_236 hT) ⟨gq_o4y2, gq_any (by decide) (by decide), trivial⟩ q25.2.1 rfl) r_63_46 rfl rfl rfl rfl rfl (rcv_v rfl (ty_4 hT) (by decide) rfl (by decide)) rfl (by decide) rfl (fun x46 n46 q46 => ?_)
    have z46 : n25 = n46 := (Fr_nil q46.2.2.2).symm
    subst z46
    show GX T 5 63 49 [(2, 1), (0, (n : Int))] [(0, x46), (0, 0), (2, 22), (2, 4), (2, 28)] n25 (RI (fun v m1 => (¬ 0 < m 4 0 → v = -2 ∧ m1 = m) ∧ (0 < m 4 0 → v = (n : Int) ∧ m1 22 2 = 0 ∧ ∀ k : Nat, k < 12 → m1 23 k = 0)))
    refine gx_cv (nx := 52) (S2 := []) (gx_hv (args := [(2, 28), (2, 4), (2, 22), (0, 0), (0, x46)]) (pu_276 hT) ⟨gq_o28y2, gq_o4y2, gq_o22y2, gq_any (by decide) (by decide), gq_any q46.1 q46.2.1, trivial⟩ q25.2.1 rfl) r_63_49 rfl rfl rfl rfl rfl (rcv_v rfl (ty_28 hT) (by decide) rfl (by decide)) rfl (by decide) rfl (fun n49 q49 => ?_)
    have p49 : PinR n49 := PinR_fr q49.2 (by decide) p25
    have s49 : ActS n25 n49 := ActS_fr q49.2 rfl rfl rfl
    refine gx_st (L' := [(2, 1), (0, (n : Int))]) (S' := [(0, (n : Int))]) r_63_52 rfl rfl rfl ?_
    exact gx_rt r_63_53 rfl rfl ⟨_, rfl, fun z => absurd h7 z, fun z => ⟨rfl, s49.1.trans q25.1.2.1, fun k hk => (s49.2.1 k hk).trans (q25.1.1 k hk)⟩⟩
  · refine gx_st (L' := [(2, 1), (9, 0)]) (S' := [(0, (-2))]) r_63_10 rfl rfl rfl ?_
    exact gx_rt r_63_12 rfl rfl ⟨_, rfl, fun z => ⟨rfl, rfl⟩, fun z => absurd z h7⟩
theorem x_64 (hT : TT T) (hm : Gam m) (hp : PinR m) {n : Nat} (hn : m 22 2 = (n : Int)) (a b : Int) (h46 : m 4 6 ≤ 5) : GX T 6 64 0 [(2, 1), (0, a), (0, b), (9, 0)] [] m (RI (fun v m1 => (¬ ((0 ≤ a ∧ a < m 4 6) ∧ 0 ≤ b ∧ b < 10) → v = -2 ∧ m1 = m) ∧ (((0 ≤ a ∧ a < m 4 6) ∧ 0 ≤ b ∧ b < 10) → 0 < n → v = -5 ∧ m1 = m) ∧ (∀ i : Nat, a = (i : Int) → ((0 ≤ a ∧ a < m 4 6) ∧ 0 ≤ b ∧ b < 10) → n = 0 → v = m 6 i ∧ ∀ k : Nat, k < 5 → m1 6 k = nu_up m 6 i b 6 k))) := by
  refine gx_st (L' := [(2, 1), (0, a), (0, b), (9, 0)]) (S' := [(0, a)]) r_64_0 rfl rfl rfl ?_
  refine gx_st (L' := [(2, 1), (0, a), (0, b), (9, 0)]) (S' := [(2, 1), (0, a)]) r_64_1 rfl rfl rfl ?_
  refine gx_gf (x := 4) 2 r_64_2 (rfl) (ty_1 hT) ⟨by decide, rfl, by decide, by decide⟩ rfl (fun _ => by omega) (pin_at hp (t := 4) rfl (by decide)) ?_
  refine gx_gf (x := (m 4 6)) 0 r_64_5 (rfl) (ty_4 hT) ⟨by decide, rfl, by decide, by decide⟩ rfl (fun z => absurd z (by decide)) (rfl) ?_
  refine gx_ci (nx := 11) (S2 := []) (x_71 a (m 4 6)) r_64_8 rfl rfl rfl rfl rfl rfl rfl (by decide) rfl (fun x8 n8 q8 => ?_)
  obtain rfl := q8.1.symm
  obtain rfl := q8.2.symm
  show GX T 6 64 11 [(2, 1), (0, a), (0, b), (9, 0)] [(0, (if 0 ≤ a ∧ a < (m 4 6) then 1 else 0))] m (RI (fun v m1 => (¬ ((0 ≤ a ∧ a < m 4 6) ∧ 0 ≤ b ∧ b < 10) → v = -2 ∧ m1 = m) ∧ (((0 ≤ a ∧ a < m 4 6) ∧ 0 ≤ b ∧ b < 10) → 0 < n → v = -5 ∧ m1 = m) ∧ (∀ i : Nat, a = (i : Int) → ((0 ≤ a ∧ a < m 4 6) ∧ 0 ≤ b ∧ b < 10) → n = 0 → v = m 6 i ∧ ∀ k : Nat, k < 5 → m1 6 k = nu_up m 6 i b 6 k)))
  refine gx_i0 (P := ¬ (0 ≤ a ∧ a < (m 4 6))) r_64_11 (b01_eq) (fun h11 => ?_) (fun h11 => ?_)
  · refine gx_st (L' := [(2, 1), (0, a), (0, b), (9, 0)]) (S' := [(0, (-2))]) r_64_23 rfl rfl rfl ?_
    exact gx_rt r_64_25 rfl rfl ⟨_, rfl, fun z => ⟨rfl, rfl⟩, fun z => absurd z (by omega), fun i e z => absurd z (by omega)⟩
  · have h11 := Decidable.not_not.mp h11
    refine gx_st (L' := [(2, 1), (0, a), (0, b), (9, 0)]) (S' := [(0, b)]) r_64_14 rfl rfl rfl ?_
    refine gx_st (L' := [(2, 1), (0, a), (0, b), (9, 0)]) (S' := [(0, 10), (0, b)]) r_64_15 rfl rfl rfl ?_
    refine gx_ci (nx := 20) (S2 := []) (x_71 b 10) r_64_17 rfl rfl rfl rfl rfl rfl rfl (by decide) rfl (fun x17 n17 q17 => ?_)
    obtain rfl := q17.1.symm
    obtain rfl := q17.2.symm
    show GX T 6 64 20 [(2, 1), (0, a), (0, b), (9, 0)] [(0, (if 0 ≤ b ∧ b < 10 then 1 else 0))] m (RI (fun v m1 => (¬ ((0 ≤ a ∧ a < m 4 6) ∧ 0 ≤ b ∧ b < 10) → v = -2 ∧ m1 = m) ∧ (((0 ≤ a ∧ a < m 4 6) ∧ 0 ≤ b ∧ b < 10) → 0 < n → v = -5 ∧ m1 = m) ∧ (∀ i : Nat, a = (i : Int) → ((0 ≤ a ∧ a < m 4 6) ∧ 0 ≤ b ∧ b < 10) → n = 0 → v = m 6 i ∧ ∀ k : Nat, k < 5 → m1 6 k = nu_up m 6 i b 6 k)))
    refine gx_i0 (P := 0 ≤ b ∧ b < 10) r_64_20 (b01_ne) (fun h20 => ?_) (fun h20 => ?_)
    · obtain ⟨ii, hia⟩ : ∃ i : Nat, a = (i : Int) := ⟨a.toNat, by omega⟩
      rw [hia]
      refine gx_st (L' := [(2, 1), (0, (ii : Int)), (0, b), (9, 0)]) (S' := [(2, 1)]) r_64_26 rfl rfl rfl ?_
      refine gx_gf (x := 22) 2 r_64_27 (rfl) (ty_1 hT) ⟨by decide, rfl, by decide, by decide⟩ rfl (fun _ => by omega) (pin_at hp (t := 22) rfl (by decide)) ?_
      refine gx_gf (x := (n : Int)) 0 r_64_30 (rfl) (ty_22 hT) ⟨by decide, rfl, by decide, by decide⟩ rfl (fun z => absurd z (by decide)) (hn) ?_
      refine gx_i0 (P := (n : Int) ≤ 0) r_64_33 (rfl) (fun h33 => ?_) (fun h33 => ?_)
      · refine gx_st (L' := [(2, 1), (0, (ii : Int)), (0, b), (9, 0)]) (S' := [(2, 1)]) r_64_39 rfl rfl rfl ?_
        refine gx_gf (x := 4) 2 r_64_40 (rfl) (ty_1 hT) ⟨by decide, rfl, by decide, by decide⟩ rfl (fun _ => by omega) (pin_at hp (t := 4) rfl (by decide)) ?_
        refine gx_gf (x := 6) 2 r_64_43 (rfl) (ty_4 hT) ⟨by decide, rfl, by decide, by decide⟩ rfl (fun _ => by omega) (pin_at hp (t := 6) rfl (by decide)) ?_
        refine gx_st (L' := [(2, 1), (0, (ii : Int)), (0, b), (9, 0)]) (S' := [(0, (ii : Int)), (2, 6)]) r_64_46 rfl rfl rfl ?_
        refine gx_ci (nx := 50) (S2 := []) (c_237 (r := 6) (n := 5) (ty_6 hT) (by decide) (by decide) (k := ii) (by omega)) r_64_47 rfl rfl rfl rfl rfl rfl rfl (by decide) rfl (fun x47 n47 q47 => ?_)
        obtain rfl := q47.1.symm
        obtain rfl := q47.2.symm
        show GX T 6 64 50 [(2, 1), (0, (ii : Int)), (0, b), (9, 0)] [(0, (m 6 ii))] m (RI (fun v m1 => (¬ ((0 ≤ (ii : Int) ∧ (ii : Int) < m 4 6) ∧ 0 ≤ b ∧ b < 10) → v = -2 ∧ m1 = m) ∧ (((0 ≤ (ii : Int) ∧ (ii : Int) < m 4 6) ∧ 0 ≤ b ∧ b < 10) → 0 < n → v = -5 ∧ m1 = m) ∧ (∀ i : Nat, (ii : Int) = (i : Int) → ((0 ≤ (ii : Int) ∧ (ii : Int) < m 4 6) ∧ 0 ≤ b ∧ b < 10) → n = 0 → v = m 6 i ∧ ∀ k : Nat, k < 5 → m1 6 k = nu_up m 6 i b 6 k)))
        refine gx_st (L' := [(2, 1), (0, (ii : Int)), (0, b), (0, (m 6 ii))]) (S' := []) r_64_50 rfl rfl rfl ?_
        refine gx_st (L' := [(2, 1), (0, (ii : Int)), (0, b), (0, (m 6 ii))]) (S' := [(2, 1)]) r_64_51 rfl rfl rfl ?_
        refine gx_gf (x := 4) 2 r_64_52 (rfl) (ty_1 hT) ⟨by decide, rfl, by decide, by decide⟩ rfl (fun _ => by omega) (pin_at hp (t := 4) rfl (by decide)) ?_
        refine gx_gf (x := 6) 2 r_64_55 (rfl) (ty_4 hT) ⟨by decide, rfl, by decide, by decide⟩ rfl (fun _ => by omega) (pin_at hp (t := 6) rfl (by decide)) ?_
        refine gx_st (L' := [(2, 1), (0, (ii : Int)), (0, b), (0, (m 6 ii))]) (S' := [(0, (ii : Int)), (2, 6)]) r_64_58 rfl rfl rfl ?_
        refine gx_st (L' := [(2, 1), (0, (ii : Int)), (0, b), (0, (m 6 ii))]) (S' := [(0, b), (0, (ii : Int)), (2, 6)]) r_64_59 rfl rfl rfl ?_
        refine gx_cv (nx := 63) (S2 := []) (gx_av (c_238 (r := 6) (n := 5) (ty_6 hT) (by decide) (by decide) (k := ii) (by omega) b) (gx_hv (args := [(2, 6), (0, (ii : Int)), (0, b)]) (pu_556 hT) ⟨gq_o6y2, gq_any (by omega) (by omega), gq_any (by omega) (by omega), trivial⟩ hm rfl)) r_64_60 rfl rfl rfl rfl rfl rfl rfl (by decide) rfl (fun n60 q60 => ?_)
        obtain ⟨q60, g63, -⟩ := q60
        have p63 : PinR n60 := by rw [q60]; exact PinR_up hp rfl
        refine gx_st (L' := [(2, 1), (0, (ii : Int)), (0, b), (0, (m 6 ii))]) (S' := [(2, 1)]) r_64_63 rfl rfl rfl ?_
        refine gx_cv (nx := 67) (S2 := []) (gx_hv (args := [(2, 1)]) (pu_277 hT) ⟨gq_o1y2, trivial⟩ g63 rfl) r_64_64 rfl rfl rfl rfl rfl (rcv_v rfl (ty_1 hT) (by decide) rfl (by decide)) rfl (by decide) rfl (fun n64 q64 => ?_)
        refine gx_st (L' := [(2, 1), (0, (ii : Int)), (0, b), (0, (m 6 ii))]) (S' := [(0, (m 6 ii))]) r_64_67 rfl rfl rfl ?_
        exact gx_rt r_64_68 rfl rfl ⟨_, rfl, fun z => absurd z (by omega), fun z z2 => absurd z2 (by omega), fun i e z z2 => by rw [show i = ii by omega]; exact ⟨rfl, fun k hk => (q64.2 6 k rfl).trans (by rw [q60])⟩⟩
      · refine gx_st (L' := [(2, 1), (0, (ii : Int)), (0, b), (9, 0)]) (S' := [(0, (-5))]) r_64_36 rfl rfl rfl ?_
        exact gx_rt r_64_38 rfl rfl ⟨_, rfl, fun z => absurd z (by omega), fun z z2 => ⟨rfl, rfl⟩, fun i e z z2 => absurd z2 (by omega)⟩
    · refine gx_st (L' := [(2, 1), (0, a), (0, b), (9, 0)]) (S' := [(0, (-2))]) r_64_23 rfl rfl rfl ?_
      exact gx_rt r_64_25 rfl rfl ⟨_, rfl, fun z => ⟨rfl, rfl⟩, fun z => absurd z (by omega), fun i e z => absurd z (by omega)⟩
end ACTSC
