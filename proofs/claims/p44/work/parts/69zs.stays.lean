/-! where he stays -/
theorem r_19_0 : row 19 0 = some (.aload_n 0, 1, 0, 0, 0, 0) := rfl
theorem r_19_1 : row 19 1 = some (.iload_n 1, 2, 0, 0, 0, 0) := rfl
theorem r_19_2 : row 19 2 = some (.invokevirtual 207, 5, 73, 1, 0, 4107) := rfl
theorem r_19_5 : row 19 5 = some (.ifCond .eq 17, 8, 22, 0, 0, 0) := rfl
theorem r_19_8 : row 19 8 = some (.aload_n 0, 9, 0, 0, 0, 0) := rfl
theorem r_19_9 : row 19 9 = some (.getfield 39, 12, 9, 5, 2, 2163) := rfl
theorem r_19_12 : row 19 12 = some (.getfield 210, 15, 7, 6, 12, 2014) := rfl
theorem r_19_15 : row 19 15 = some (.iload_n 1, 16, 0, 0, 0, 0) := rfl
theorem r_19_16 : row 19 16 = some (.invokestatic 134, 19, 237, 2, 10, 4023) := rfl
theorem r_19_19 : row 19 19 = some (.goto 5, 22, 24, 0, 0, 0) := rfl
theorem r_19_22 : row 19 22 = some (.bipush (-2), 24, (-2), 0, 0, 0) := rfl
theorem r_19_24 : row 19 24 = some (.ireturn, 25, 0, 0, 0, 0) := rfl
theorem r_24_0 : row 24 0 = some (.iload_n 1, 1, 0, 0, 0, 0) := rfl
theorem r_24_1 : row 24 1 = some (.aload_n 0, 2, 0, 0, 0, 0) := rfl
theorem r_24_2 : row 24 2 = some (.getfield 19, 5, 9, 1, 2, 2159) := rfl
theorem r_24_5 : row 24 5 = some (.getfield 152, 8, 3, 8, 10, 1101) := rfl
theorem r_24_8 : row 24 8 = some (.invokestatic 126, 11, 71, 2, 0, 4020) := rfl
theorem r_24_11 : row 24 11 = some (.ifCond .eq 17, 14, 28, 0, 0, 0) := rfl
theorem r_24_14 : row 24 14 = some (.aload_n 0, 15, 0, 0, 0, 0) := rfl
theorem r_24_15 : row 24 15 = some (.getfield 39, 18, 9, 5, 2, 2163) := rfl
theorem r_24_18 : row 24 18 = some (.getfield 225, 21, 7, 9, 12, 2020) := rfl
theorem r_24_21 : row 24 21 = some (.iload_n 1, 22, 0, 0, 0, 0) := rfl
theorem r_24_22 : row 24 22 = some (.invokestatic 134, 25, 237, 2, 10, 4023) := rfl
theorem r_24_25 : row 24 25 = some (.goto 5, 28, 30, 0, 0, 0) := rfl
theorem r_24_28 : row 24 28 = some (.bipush (-2), 30, (-2), 0, 0, 0) := rfl
theorem r_24_30 : row 24 30 = some (.ireturn, 31, 0, 0, 0, 0) := rfl
theorem r_29_0 : row 29 0 = some (.aload_n 0, 1, 0, 0, 0, 0) := rfl
theorem r_29_1 : row 29 1 = some (.iload_n 1, 2, 0, 0, 0, 0) := rfl
theorem r_29_2 : row 29 2 = some (.invokevirtual 169, 5, 72, 1, 0, 4044) := rfl
theorem r_29_5 : row 29 5 = some (.ifCond .ne 6, 8, 11, 0, 0, 0) := rfl
theorem r_29_8 : row 29 8 = some (.bipush (-2), 10, (-2), 0, 0, 0) := rfl
theorem r_29_10 : row 29 10 = some (.ireturn, 11, 0, 0, 0, 0) := rfl
theorem r_29_11 : row 29 11 = some (.iconst 0, 12, 0, 0, 0, 0) := rfl
theorem r_29_12 : row 29 12 = some (.istore_n 2, 13, 0, 0, 0, 0) := rfl
theorem r_29_13 : row 29 13 = some (.iconst 0, 14, 0, 0, 0, 0) := rfl
theorem r_29_14 : row 29 14 = some (.istore_n 3, 15, 0, 0, 0, 0) := rfl
theorem r_29_15 : row 29 15 = some (.iload_n 3, 16, 0, 0, 0, 0) := rfl
theorem r_29_16 : row 29 16 = some (.aload_n 0, 17, 0, 0, 0, 0) := rfl
theorem r_29_17 : row 29 17 = some (.getfield 19, 20, 9, 1, 2, 2159) := rfl
theorem r_29_20 : row 29 20 = some (.getfield 237, 23, 3, 2, 10, 1079) := rfl
theorem r_29_23 : row 29 23 = some (.if_icmp .gt 30, 26, 53, 0, 0, 0) := rfl
theorem r_29_26 : row 29 26 = some (.aload_n 0, 27, 0, 0, 0, 0) := rfl
theorem r_29_27 : row 29 27 = some (.getfield 39, 30, 9, 5, 2, 2163) := rfl
theorem r_29_30 : row 29 30 = some (.getfield 193, 33, 7, 1, 12, 2005) := rfl
theorem r_29_33 : row 29 33 = some (.iload_n 3, 34, 0, 0, 0, 0) := rfl
theorem r_29_34 : row 29 34 = some (.invokestatic 134, 37, 237, 2, 10, 4023) := rfl
theorem r_29_37 : row 29 37 = some (.iload_n 1, 38, 0, 0, 0, 0) := rfl
theorem r_29_38 : row 29 38 = some (.if_icmp .ne 9, 41, 47, 0, 0, 0) := rfl
theorem r_29_41 : row 29 41 = some (.iload_n 2, 42, 0, 0, 0, 0) := rfl
theorem r_29_42 : row 29 42 = some (.iconst 1, 43, 1, 0, 0, 0) := rfl
theorem r_29_43 : row 29 43 = some (.iload_n 3, 44, 0, 0, 0, 0) := rfl
theorem r_29_44 : row 29 44 = some (.ishl, 45, 0, 0, 0, 0) := rfl
theorem r_29_45 : row 29 45 = some (.ior, 46, 0, 0, 0, 0) := rfl
theorem r_29_46 : row 29 46 = some (.istore_n 2, 47, 0, 0, 0, 0) := rfl
theorem r_29_47 : row 29 47 = some (.iinc 3 1, 50, 0, 0, 0, 0) := rfl
theorem r_29_50 : row 29 50 = some (.goto (-35), 53, 15, 0, 0, 0) := rfl
theorem r_29_53 : row 29 53 = some (.iload_n 2, 54, 0, 0, 0, 0) := rfl
theorem r_29_54 : row 29 54 = some (.ireturn, 55, 0, 0, 0, 0) := rfl
theorem r_31_0 : row 31 0 = some (.iload_n 1, 1, 0, 0, 0, 0) := rfl
theorem r_31_1 : row 31 1 = some (.aload_n 0, 2, 0, 0, 0, 0) := rfl
theorem r_31_2 : row 31 2 = some (.getfield 19, 5, 9, 1, 2, 2159) := rfl
theorem r_31_5 : row 31 5 = some (.getfield 152, 8, 3, 8, 10, 1101) := rfl
theorem r_31_8 : row 31 8 = some (.invokestatic 126, 11, 71, 2, 0, 4020) := rfl
theorem r_31_11 : row 31 11 = some (.ifCond .ne 6, 14, 17, 0, 0, 0) := rfl
theorem r_31_14 : row 31 14 = some (.bipush (-2), 16, (-2), 0, 0, 0) := rfl
theorem r_31_16 : row 31 16 = some (.ireturn, 17, 0, 0, 0, 0) := rfl
theorem r_31_17 : row 31 17 = some (.iconst 0, 18, 0, 0, 0, 0) := rfl
theorem r_31_18 : row 31 18 = some (.istore_n 2, 19, 0, 0, 0, 0) := rfl
theorem r_31_19 : row 31 19 = some (.iconst 0, 20, 0, 0, 0, 0) := rfl
theorem r_31_20 : row 31 20 = some (.istore_n 3, 21, 0, 0, 0, 0) := rfl
theorem r_31_21 : row 31 21 = some (.iload_n 3, 22, 0, 0, 0, 0) := rfl
theorem r_31_22 : row 31 22 = some (.aload_n 0, 23, 0, 0, 0, 0) := rfl
theorem r_31_23 : row 31 23 = some (.getfield 19, 26, 9, 1, 2, 2159) := rfl
theorem r_31_26 : row 31 26 = some (.getfield 237, 29, 3, 2, 10, 1079) := rfl
theorem r_31_29 : row 31 29 = some (.if_icmp .gt 23, 32, 52, 0, 0, 0) := rfl
theorem r_31_32 : row 31 32 = some (.iload_n 2, 33, 0, 0, 0, 0) := rfl
theorem r_31_33 : row 31 33 = some (.aload_n 0, 34, 0, 0, 0, 0) := rfl
theorem r_31_34 : row 31 34 = some (.getfield 39, 37, 9, 5, 2, 2163) := rfl
theorem r_31_37 : row 31 37 = some (.iload_n 1, 38, 0, 0, 0, 0) := rfl
theorem r_31_38 : row 31 38 = some (.iload_n 3, 39, 0, 0, 0, 0) := rfl
theorem r_31_39 : row 31 39 = some (.invokevirtual 201, 42, 291, 2, 10, 4091) := rfl
theorem r_31_42 : row 31 42 = some (.invokestatic 240, 45, (-3), 2, 0, 4162) := rfl
theorem r_31_45 : row 31 45 = some (.istore_n 2, 46, 0, 0, 0, 0) := rfl
theorem r_31_46 : row 31 46 = some (.iinc 3 1, 49, 0, 0, 0, 0) := rfl
theorem r_31_49 : row 31 49 = some (.goto (-28), 52, 21, 0, 0, 0) := rfl
theorem r_31_52 : row 31 52 = some (.iload_n 2, 53, 0, 0, 0, 0) := rfl
theorem r_31_53 : row 31 53 = some (.ireturn, 54, 0, 0, 0, 0) := rfl
theorem r_33_0 : row 33 0 = some (.iload_n 1, 1, 0, 0, 0, 0) := rfl
theorem r_33_1 : row 33 1 = some (.aload_n 0, 2, 0, 0, 0, 0) := rfl
theorem r_33_2 : row 33 2 = some (.getfield 19, 5, 9, 1, 2, 2159) := rfl
theorem r_33_5 : row 33 5 = some (.getfield 143, 8, 3, 7, 10, 1097) := rfl
theorem r_33_8 : row 33 8 = some (.invokestatic 126, 11, 71, 2, 0, 4020) := rfl
theorem r_33_11 : row 33 11 = some (.ifCond .ne 6, 14, 17, 0, 0, 0) := rfl
theorem r_33_14 : row 33 14 = some (.bipush (-2), 16, (-2), 0, 0, 0) := rfl
theorem r_33_16 : row 33 16 = some (.ireturn, 17, 0, 0, 0, 0) := rfl
theorem r_33_17 : row 33 17 = some (.aload_n 0, 18, 0, 0, 0, 0) := rfl
theorem r_33_18 : row 33 18 = some (.getfield 19, 21, 9, 1, 2, 2159) := rfl
theorem r_33_21 : row 33 21 = some (.getfield 146, 24, 3, 12, 12, 1118) := rfl
theorem r_33_24 : row 33 24 = some (.iload_n 1, 25, 0, 0, 0, 0) := rfl
theorem r_33_25 : row 33 25 = some (.invokestatic 134, 28, 237, 2, 10, 4023) := rfl
theorem r_33_28 : row 33 28 = some (.istore_n 2, 29, 0, 0, 0, 0) := rfl
theorem r_33_29 : row 33 29 = some (.aload_n 0, 30, 0, 0, 0, 0) := rfl
theorem r_33_30 : row 33 30 = some (.getfield 19, 33, 9, 1, 2, 2159) := rfl
theorem r_33_33 : row 33 33 = some (.getfield 149, 36, 3, 13, 12, 1122) := rfl
theorem r_33_36 : row 33 36 = some (.iload_n 1, 37, 0, 0, 0, 0) := rfl
theorem r_33_37 : row 33 37 = some (.invokestatic 134, 40, 237, 2, 10, 4023) := rfl
theorem r_33_40 : row 33 40 = some (.istore_n 3, 41, 0, 0, 0, 0) := rfl
theorem r_33_41 : row 33 41 = some (.iload_n 3, 42, 0, 0, 0, 0) := rfl
theorem r_33_42 : row 33 42 = some (.aload_n 0, 43, 0, 0, 0, 0) := rfl
theorem r_33_43 : row 33 43 = some (.getfield 19, 46, 9, 1, 2, 2159) := rfl
theorem r_33_46 : row 33 46 = some (.getfield 237, 49, 3, 2, 10, 1079) := rfl
theorem r_33_49 : row 33 49 = some (.if_icmp .ge 26, 52, 75, 0, 0, 0) := rfl
theorem r_33_52 : row 33 52 = some (.aload_n 0, 53, 0, 0, 0, 0) := rfl
theorem r_33_53 : row 33 53 = some (.getfield 39, 56, 9, 5, 2, 2163) := rfl
theorem r_33_56 : row 33 56 = some (.getfield 193, 59, 7, 1, 12, 2005) := rfl
theorem r_33_59 : row 33 59 = some (.iload_n 3, 60, 0, 0, 0, 0) := rfl
theorem r_33_60 : row 33 60 = some (.invokestatic 134, 63, 237, 2, 10, 4023) := rfl
theorem r_33_63 : row 33 63 = some (.iload_n 2, 64, 0, 0, 0, 0) := rfl
theorem r_33_64 : row 33 64 = some (.if_icmp .ne 5, 67, 69, 0, 0, 0) := rfl
theorem r_33_67 : row 33 67 = some (.iload_n 3, 68, 0, 0, 0, 0) := rfl
theorem r_33_68 : row 33 68 = some (.ireturn, 69, 0, 0, 0, 0) := rfl
theorem r_33_69 : row 33 69 = some (.iinc 3 1, 72, 0, 0, 0, 0) := rfl
theorem r_33_72 : row 33 72 = some (.goto (-31), 75, 41, 0, 0, 0) := rfl
theorem r_33_75 : row 33 75 = some (.iconst (-1), 76, (-1), 0, 0, 0) := rfl
theorem r_33_76 : row 33 76 = some (.ireturn, 77, 0, 0, 0, 0) := rfl
theorem r_154_0 : row 154 0 = some (.aload_n 0, 1, 0, 0, 0, 0) := rfl
theorem r_154_1 : row 154 1 = some (.invokevirtual 330, 4, 146, 0, 0, 7078) := rfl
theorem r_154_4 : row 154 4 = some (.pop, 5, 0, 0, 0, 0) := rfl
theorem r_154_5 : row 154 5 = some (.aload_n 0, 6, 0, 0, 0, 0) := rfl
theorem r_154_6 : row 154 6 = some (.iload_n 1, 7, 0, 0, 0, 0) := rfl
theorem r_154_7 : row 154 7 = some (.invokevirtual 339, 10, 92, 1, 0, 7182) := rfl
theorem r_154_10 : row 154 10 = some (.ifCond .eq 12, 13, 22, 0, 0, 0) := rfl
theorem r_154_13 : row 154 13 = some (.aload_n 0, 14, 0, 0, 0, 0) := rfl
theorem r_154_14 : row 154 14 = some (.getfield 40, 17, 10, 17, 2, 6018) := rfl
theorem r_154_17 : row 154 17 = some (.iload_n 1, 18, 0, 0, 0, 0) := rfl
theorem r_154_18 : row 154 18 = some (.iaload, 19, 0, 0, 0, 0) := rfl
theorem r_154_19 : row 154 19 = some (.goto 5, 22, 24, 0, 0, 0) := rfl
theorem r_154_22 : row 154 22 = some (.bipush (-2), 24, (-2), 0, 0, 0) := rfl
theorem r_154_24 : row 154 24 = some (.ireturn, 25, 0, 0, 0, 0) := rfl
theorem r_160_0 : row 160 0 = some (.aload_n 0, 1, 0, 0, 0, 0) := rfl
theorem r_160_1 : row 160 1 = some (.invokevirtual 330, 4, 146, 0, 0, 7078) := rfl
theorem r_160_4 : row 160 4 = some (.pop, 5, 0, 0, 0, 0) := rfl
theorem r_160_5 : row 160 5 = some (.aload_n 0, 6, 0, 0, 0, 0) := rfl
theorem r_160_6 : row 160 6 = some (.iload_n 1, 7, 0, 0, 0, 0) := rfl
theorem r_160_7 : row 160 7 = some (.invokevirtual 224, 10, 96, 1, 0, 7017) := rfl
theorem r_160_10 : row 160 10 = some (.ifCond .eq 12, 13, 22, 0, 0, 0) := rfl
theorem r_160_13 : row 160 13 = some (.aload_n 0, 14, 0, 0, 0, 0) := rfl
theorem r_160_14 : row 160 14 = some (.getfield 49, 17, 10, 20, 2, 6021) := rfl
theorem r_160_17 : row 160 17 = some (.iload_n 1, 18, 0, 0, 0, 0) := rfl
theorem r_160_18 : row 160 18 = some (.iaload, 19, 0, 0, 0, 0) := rfl
theorem r_160_19 : row 160 19 = some (.goto 5, 22, 24, 0, 0, 0) := rfl
theorem r_160_22 : row 160 22 = some (.bipush (-2), 24, (-2), 0, 0, 0) := rfl
theorem r_160_24 : row 160 24 = some (.ireturn, 25, 0, 0, 0, 0) := rfl
theorem r_166_0 : row 166 0 = some (.iconst 0, 1, 0, 0, 0, 0) := rfl
theorem r_166_1 : row 166 1 = some (.istore_n 2, 2, 0, 0, 0, 0) := rfl
theorem r_166_2 : row 166 2 = some (.iconst 0, 3, 0, 0, 0, 0) := rfl
theorem r_166_3 : row 166 3 = some (.istore_n 3, 4, 0, 0, 0, 0) := rfl
theorem r_166_4 : row 166 4 = some (.iload_n 3, 5, 0, 0, 0, 0) := rfl
theorem r_166_5 : row 166 5 = some (.aload_n 0, 6, 0, 0, 0, 0) := rfl
theorem r_166_6 : row 166 6 = some (.getfield 9, 9, 10, 1, 2, 6002) := rfl
theorem r_166_9 : row 166 9 = some (.iconst 1, 10, 1, 0, 0, 0) := rfl
theorem r_166_10 : row 166 10 = some (.iaload, 11, 0, 0, 0, 0) := rfl
theorem r_166_11 : row 166 11 = some (.if_icmp .gt 29, 14, 40, 0, 0, 0) := rfl
theorem r_166_14 : row 166 14 = some (.iload_n 2, 15, 0, 0, 0, 0) := rfl
theorem r_166_15 : row 166 15 = some (.aload_n 0, 16, 0, 0, 0, 0) := rfl
theorem r_166_16 : row 166 16 = some (.iload_n 3, 17, 0, 0, 0, 0) := rfl
theorem r_166_17 : row 166 17 = some (.iconst 0, 18, 0, 0, 0, 0) := rfl
theorem r_166_18 : row 166 18 = some (.invokevirtual 263, 21, 131, 2, 0, 7110) := rfl
theorem r_166_21 : row 166 21 = some (.iload_n 1, 22, 0, 0, 0, 0) := rfl
theorem r_166_22 : row 166 22 = some (.if_icmp .ne 9, 25, 31, 0, 0, 0) := rfl
theorem r_166_25 : row 166 25 = some (.iconst 1, 26, 1, 0, 0, 0) := rfl
theorem r_166_26 : row 166 26 = some (.iload_n 3, 27, 0, 0, 0, 0) := rfl
theorem r_166_27 : row 166 27 = some (.ishl, 28, 0, 0, 0, 0) := rfl
theorem r_166_28 : row 166 28 = some (.goto 4, 31, 32, 0, 0, 0) := rfl
theorem r_166_31 : row 166 31 = some (.iconst 0, 32, 0, 0, 0, 0) := rfl
theorem r_166_32 : row 166 32 = some (.ior, 33, 0, 0, 0, 0) := rfl
theorem r_166_33 : row 166 33 = some (.istore_n 2, 34, 0, 0, 0, 0) := rfl
theorem r_166_34 : row 166 34 = some (.iinc 3 1, 37, 0, 0, 0, 0) := rfl
theorem r_166_37 : row 166 37 = some (.goto (-33), 40, 4, 0, 0, 0) := rfl
theorem r_166_40 : row 166 40 = some (.iload_n 2, 41, 0, 0, 0, 0) := rfl
theorem r_166_41 : row 166 41 = some (.ireturn, 42, 0, 0, 0, 0) := rfl
theorem r_167_0 : row 167 0 = some (.aload_n 0, 1, 0, 0, 0, 0) := rfl
theorem r_167_1 : row 167 1 = some (.invokevirtual 330, 4, 146, 0, 0, 7078) := rfl
theorem r_167_4 : row 167 4 = some (.pop, 5, 0, 0, 0, 0) := rfl
theorem r_167_5 : row 167 5 = some (.aload_n 0, 6, 0, 0, 0, 0) := rfl
theorem r_167_6 : row 167 6 = some (.iload_n 1, 7, 0, 0, 0, 0) := rfl
theorem r_167_7 : row 167 7 = some (.i2l, 8, 0, 0, 0, 0) := rfl
theorem r_167_8 : row 167 8 = some (.invokevirtual 234, 11, 91, 1, 0, 7046) := rfl
theorem r_167_11 : row 167 11 = some (.ifCond .eq 11, 14, 22, 0, 0, 0) := rfl
theorem r_167_14 : row 167 14 = some (.aload_n 0, 15, 0, 0, 0, 0) := rfl
theorem r_167_15 : row 167 15 = some (.iload_n 1, 16, 0, 0, 0, 0) := rfl
theorem r_167_16 : row 167 16 = some (.invokevirtual 353, 19, 166, 1, 0, 7232) := rfl
theorem r_167_19 : row 167 19 = some (.goto 5, 22, 24, 0, 0, 0) := rfl
theorem r_167_22 : row 167 22 = some (.bipush (-2), 24, (-2), 0, 0, 0) := rfl
theorem r_167_24 : row 167 24 = some (.ireturn, 25, 0, 0, 0, 0) := rfl
theorem r_171_0 : row 171 0 = some (.aload_n 0, 1, 0, 0, 0, 0) := rfl
theorem r_171_1 : row 171 1 = some (.invokevirtual 330, 4, 146, 0, 0, 7078) := rfl
theorem r_171_4 : row 171 4 = some (.pop, 5, 0, 0, 0, 0) := rfl
theorem r_171_5 : row 171 5 = some (.aload_n 0, 6, 0, 0, 0, 0) := rfl
theorem r_171_6 : row 171 6 = some (.iload_n 1, 7, 0, 0, 0, 0) := rfl
theorem r_171_7 : row 171 7 = some (.invokevirtual 224, 10, 96, 1, 0, 7017) := rfl
theorem r_171_10 : row 171 10 = some (.ifCond .ne 6, 13, 16, 0, 0, 0) := rfl
theorem r_171_13 : row 171 13 = some (.bipush (-2), 15, (-2), 0, 0, 0) := rfl
theorem r_171_15 : row 171 15 = some (.ireturn, 16, 0, 0, 0, 0) := rfl
theorem r_171_16 : row 171 16 = some (.iconst 0, 17, 0, 0, 0, 0) := rfl
theorem r_171_17 : row 171 17 = some (.istore_n 2, 18, 0, 0, 0, 0) := rfl
theorem r_171_18 : row 171 18 = some (.iconst 0, 19, 0, 0, 0, 0) := rfl
theorem r_171_19 : row 171 19 = some (.istore_n 3, 20, 0, 0, 0, 0) := rfl
theorem r_171_20 : row 171 20 = some (.iload_n 3, 21, 0, 0, 0, 0) := rfl
theorem r_171_21 : row 171 21 = some (.aload_n 0, 22, 0, 0, 0, 0) := rfl
theorem r_171_22 : row 171 22 = some (.getfield 9, 25, 10, 1, 2, 6002) := rfl
theorem r_171_25 : row 171 25 = some (.iconst 1, 26, 1, 0, 0, 0) := rfl
theorem r_171_26 : row 171 26 = some (.iaload, 27, 0, 0, 0, 0) := rfl
theorem r_171_27 : row 171 27 = some (.if_icmp .gt 23, 30, 50, 0, 0, 0) := rfl
theorem r_171_30 : row 171 30 = some (.iload_n 2, 31, 0, 0, 0, 0) := rfl
theorem r_171_31 : row 171 31 = some (.aload_n 0, 32, 0, 0, 0, 0) := rfl
theorem r_171_32 : row 171 32 = some (.iload_n 3, 33, 0, 0, 0, 0) := rfl
theorem r_171_33 : row 171 33 = some (.bipush 6, 35, 6, 0, 0, 0) := rfl
theorem r_171_35 : row 171 35 = some (.iload_n 1, 36, 0, 0, 0, 0) := rfl
theorem r_171_36 : row 171 36 = some (.iadd, 37, 0, 0, 0, 0) := rfl
theorem r_171_37 : row 171 37 = some (.invokevirtual 263, 40, 131, 2, 0, 7110) := rfl
theorem r_171_40 : row 171 40 = some (.invokestatic 302, 43, (-3), 2, 0, 7125) := rfl
theorem r_171_43 : row 171 43 = some (.istore_n 2, 44, 0, 0, 0, 0) := rfl
theorem r_171_44 : row 171 44 = some (.iinc 3 1, 47, 0, 0, 0, 0) := rfl
theorem r_171_47 : row 171 47 = some (.goto (-27), 50, 20, 0, 0, 0) := rfl
theorem r_171_50 : row 171 50 = some (.iload_n 2, 51, 0, 0, 0, 0) := rfl
theorem r_171_51 : row 171 51 = some (.ireturn, 52, 0, 0, 0, 0) := rfl
theorem r_173_0 : row 173 0 = some (.aload_n 0, 1, 0, 0, 0, 0) := rfl
theorem r_173_1 : row 173 1 = some (.invokevirtual 330, 4, 146, 0, 0, 7078) := rfl
theorem r_173_4 : row 173 4 = some (.pop, 5, 0, 0, 0, 0) := rfl
theorem r_173_5 : row 173 5 = some (.aload_n 0, 6, 0, 0, 0, 0) := rfl
theorem r_173_6 : row 173 6 = some (.iload_n 1, 7, 0, 0, 0, 0) := rfl
theorem r_173_7 : row 173 7 = some (.invokevirtual 220, 10, 95, 1, 0, 7009) := rfl
theorem r_173_10 : row 173 10 = some (.ifCond .ne 6, 13, 16, 0, 0, 0) := rfl
theorem r_173_13 : row 173 13 = some (.bipush (-2), 15, (-2), 0, 0, 0) := rfl
theorem r_173_15 : row 173 15 = some (.ireturn, 16, 0, 0, 0, 0) := rfl
theorem r_173_16 : row 173 16 = some (.aload_n 0, 17, 0, 0, 0, 0) := rfl
theorem r_173_17 : row 173 17 = some (.getfield 9, 20, 10, 1, 2, 6002) := rfl
theorem r_173_20 : row 173 20 = some (.bipush 41, 22, 41, 0, 0, 0) := rfl
theorem r_173_22 : row 173 22 = some (.iconst 2, 23, 2, 0, 0, 0) := rfl
theorem r_173_23 : row 173 23 = some (.iload_n 1, 24, 0, 0, 0, 0) := rfl
theorem r_173_24 : row 173 24 = some (.imul, 25, 0, 0, 0, 0) := rfl
theorem r_173_25 : row 173 25 = some (.iadd, 26, 0, 0, 0, 0) := rfl
theorem r_173_26 : row 173 26 = some (.iconst 1, 27, 1, 0, 0, 0) := rfl
theorem r_173_27 : row 173 27 = some (.iadd, 28, 0, 0, 0, 0) := rfl
theorem r_173_28 : row 173 28 = some (.iaload, 29, 0, 0, 0, 0) := rfl
theorem r_173_29 : row 173 29 = some (.istore_n 2, 30, 0, 0, 0, 0) := rfl
theorem r_173_30 : row 173 30 = some (.iload_n 2, 31, 0, 0, 0, 0) := rfl
theorem r_173_31 : row 173 31 = some (.aload_n 0, 32, 0, 0, 0, 0) := rfl
theorem r_173_32 : row 173 32 = some (.getfield 9, 35, 10, 1, 2, 6002) := rfl
theorem r_173_35 : row 173 35 = some (.iconst 1, 36, 1, 0, 0, 0) := rfl
theorem r_173_36 : row 173 36 = some (.iaload, 37, 0, 0, 0, 0) := rfl
theorem r_173_37 : row 173 37 = some (.if_icmp .ge 25, 40, 62, 0, 0, 0) := rfl
theorem r_173_40 : row 173 40 = some (.aload_n 0, 41, 0, 0, 0, 0) := rfl
theorem r_173_41 : row 173 41 = some (.iload_n 2, 42, 0, 0, 0, 0) := rfl
theorem r_173_42 : row 173 42 = some (.iconst 0, 43, 0, 0, 0, 0) := rfl
theorem r_173_43 : row 173 43 = some (.invokevirtual 263, 46, 131, 2, 0, 7110) := rfl
theorem r_173_46 : row 173 46 = some (.aload_n 0, 47, 0, 0, 0, 0) := rfl
theorem r_173_47 : row 173 47 = some (.iload_n 1, 48, 0, 0, 0, 0) := rfl
theorem r_173_48 : row 173 48 = some (.invokevirtual 269, 51, 98, 1, 0, 7118) := rfl
theorem r_173_51 : row 173 51 = some (.if_icmp .ne 5, 54, 56, 0, 0, 0) := rfl
theorem r_173_54 : row 173 54 = some (.iload_n 2, 55, 0, 0, 0, 0) := rfl
theorem r_173_55 : row 173 55 = some (.ireturn, 56, 0, 0, 0, 0) := rfl
theorem r_173_56 : row 173 56 = some (.iinc 2 1, 59, 0, 0, 0, 0) := rfl
theorem r_173_59 : row 173 59 = some (.goto (-29), 62, 30, 0, 0, 0) := rfl
theorem r_173_62 : row 173 62 = some (.iconst (-1), 63, (-1), 0, 0, 0) := rfl
theorem r_173_63 : row 173 63 = some (.ireturn, 64, 0, 0, 0, 0) := rfl
/-- which of the first k have P, by bits -/
def bitsW (P : Nat → Bool) : Nat → Int
  | 0 => 0
  | k + 1 => if P k then ior (bitsW P k) (ishl 1 (k : Int)) else bitsW P k
theorem bitsW_c {P R : Nat → Bool} : ∀ k : Nat, (∀ i : Nat, i < k → P i = R i) → bitsW P k = bitsW R k := by
  intro k
  induction k with
  | zero => intro _; rfl
  | succ k ih =>
    intro e
    show (if P k then ior (bitsW P k) (ishl 1 (k : Int)) else bitsW P k) = (if R k then ior (bitsW R k) (ishl 1 (k : Int)) else bitsW R k)
    rw [ih (fun i hi => e i (by omega)), e k (by omega)]
theorem bitsW_in (P : Nat → Bool) : ∀ k : Nat, -2147483648 ≤ bitsW P k ∧ bitsW P k ≤ 2147483647 := by
  intro k
  induction k with
  | zero => exact ⟨(show (-2147483648 : Int) ≤ 0 by decide), (show (0 : Int) ≤ 2147483647 by decide)⟩
  | succ k ih =>
    show -2147483648 ≤ (if P k then ior (bitsW P k) (ishl 1 (k : Int)) else bitsW P k) ∧ (if P k then ior (bitsW P k) (ishl 1 (k : Int)) else bitsW P k) ≤ 2147483647
    split
    · exact i32_in _
    · exact ih
theorem bitsW_y {P : Nat → Bool} {k : Nat} (h : P k = true) : bitsW P (k + 1) = ior (bitsW P k) (ishl 1 (k : Int)) := if_pos h
theorem bitsW_n {P : Nat → Bool} {k : Nat} (h : ¬ P k = true) : bitsW P (k + 1) = bitsW P k := if_neg h
/-- the greatest of the first k, or 0 -/
def maxW (f : Nat → Int) : Nat → Int
  | 0 => 0
  | k + 1 => max (maxW f k) (f k)
theorem maxW_c {f g : Nat → Int} : ∀ k : Nat, (∀ i : Nat, i < k → f i = g i) → maxW f k = maxW g k := by
  intro k
  induction k with
  | zero => intro _; rfl
  | succ k ih =>
    intro e
    show max (maxW f k) (f k) = max (maxW g k) (g k)
    rw [ih (fun i hi => e i (by omega)), e k (by omega)]
/-- a sum of numbers -/
def sumN (g : Nat → Nat) : Nat → Nat
  | 0 => 0
  | k + 1 => sumN g k + g k
theorem sumN_c {f g : Nat → Nat} : ∀ k : Nat, (∀ i : Nat, i < k → f i = g i) → sumN f k = sumN g k := by
  intro k
  induction k with
  | zero => intro _; rfl
  | succ k ih =>
    intro e
    show sumN f k + f k = sumN g k + g k
    rw [ih (fun i hi => e i (by omega)), e k (by omega)]
theorem sumN_le {g : Nat → Nat} {c : Nat} : ∀ k : Nat, (∀ i : Nat, i < k → g i ≤ c) → sumN g k ≤ c * k := by
  intro k
  induction k with
  | zero => intro _; exact Nat.zero_le _
  | succ k ih =>
    intro e
    have h1 := ih (fun i hi => e i (by omega))
    have h2 := e k (by omega)
    show sumN g k + g k ≤ c * (k + 1)
    rw [Nat.mul_succ]; omega
section STAYS
variable {T : List Kd} {m : Mm}
theorem z_19 (hT : TT T) (hp : PinR m) (a : Int) (h12 : m 4 2 ≤ 12) : GX T 2 19 0 [(2, 1), (0, a)] [] m (RI (fun v m1 => (¬ (0 ≤ a ∧ a < m 4 2) → v = -2) ∧ ∀ h : Nat, a = (h : Int) → (0 ≤ a ∧ a < m 4 2) → v = m 37 h)) := by
  refine gx_st (L' := [(2, 1), (0, a)]) (S' := [(2, 1)]) r_19_0 rfl rfl rfl ?_
  refine gx_st (L' := [(2, 1), (0, a)]) (S' := [(0, a), (2, 1)]) r_19_1 rfl rfl rfl ?_
  refine gx_ci (nx := 5) (S2 := []) (x_73 hT hp a) r_19_2 rfl rfl rfl rfl rfl (rcv_v rfl (ty_1 hT) (by decide) rfl (by decide)) rfl (by decide) rfl (fun x2 n2 q2 => ?_)
  obtain rfl := q2.1.symm
  obtain rfl := q2.2.symm
  show GX T 2 19 5 [(2, 1), (0, a)] [(0, (if 0 ≤ a ∧ a < m 4 2 then 1 else 0))] m (RI (fun v m1 => (¬ (0 ≤ a ∧ a < m 4 2) → v = -2) ∧ ∀ h : Nat, a = (h : Int) → (0 ≤ a ∧ a < m 4 2) → v = m 37 h))
  refine gx_i0 (P := ¬ (0 ≤ a ∧ a < m 4 2)) r_19_5 (b01_eq) (fun h5 => ?_) (fun h5 => ?_)
  · refine gx_st (L' := [(2, 1), (0, a)]) (S' := [(0, (-2))]) r_19_22 rfl rfl rfl ?_
    exact gx_rt r_19_24 rfl rfl ⟨_, rfl, fun _ => rfl, fun h e z => (by exfalso; omega)⟩
  · have h5 := Decidable.not_not.mp h5
    obtain ⟨ii, h_ii⟩ : ∃ i : Nat, a = (i : Int) := ⟨a.toNat, by omega⟩
    rw [h_ii]
    refine gx_st (L' := [(2, 1), (0, (ii : Int))]) (S' := [(2, 1)]) r_19_8 rfl rfl rfl ?_
    refine gx_gf (x := 28) 2 r_19_9 (rfl) (ty_1 hT) ⟨by decide, rfl, by decide, by decide⟩ rfl (fun _ => by omega) (pin_at hp (t := 28) rfl (by decide)) ?_
    refine gx_gf (x := 37) 2 r_19_12 (rfl) (ty_28 hT) ⟨by decide, rfl, by decide, by decide⟩ rfl (fun _ => by omega) (pin_at hp (t := 37) rfl (by decide)) ?_
    refine gx_st (L' := [(2, 1), (0, (ii : Int))]) (S' := [(0, (ii : Int)), (2, 37)]) r_19_15 rfl rfl rfl ?_
    refine gx_ci (nx := 19) (S2 := []) (c_237 (r := 37) (n := 12) (ty_37 hT) (by decide) (by decide) (k := ii) (by omega)) r_19_16 rfl rfl rfl rfl rfl rfl rfl (by decide) rfl (fun x16 n16 q16 => ?_)
    obtain rfl := q16.1.symm
    obtain rfl := q16.2.symm
    show GX T 2 19 19 [(2, 1), (0, (ii : Int))] [(0, (m 37 ii))] m (RI (fun v m1 => (¬ (0 ≤ (ii : Int) ∧ (ii : Int) < m 4 2) → v = -2) ∧ ∀ h : Nat, (ii : Int) = (h : Int) → (0 ≤ (ii : Int) ∧ (ii : Int) < m 4 2) → v = m 37 h))
    refine gx_st (L' := [(2, 1), (0, (ii : Int))]) (S' := [(0, (m 37 ii))]) r_19_19 rfl rfl rfl ?_
    exact gx_rt r_19_24 rfl rfl ⟨_, rfl, fun z => absurd z (by omega), fun h e z => by rw [show h = ii by omega]⟩
theorem z_24 (hT : TT T) (hp : PinR m) (a : Int) (h5 : m 4 8 ≤ 5) : GX T 2 24 0 [(2, 1), (0, a)] [] m (RI (fun v m1 => (¬ (0 ≤ a ∧ a < m 4 8) → v = -2) ∧ ∀ h : Nat, a = (h : Int) → (0 ≤ a ∧ a < m 4 8) → v = m 40 h)) := by
  refine gx_st (L' := [(2, 1), (0, a)]) (S' := [(0, a)]) r_24_0 rfl rfl rfl ?_
  refine gx_st (L' := [(2, 1), (0, a)]) (S' := [(2, 1), (0, a)]) r_24_1 rfl rfl rfl ?_
  refine gx_gf (x := 4) 2 r_24_2 (rfl) (ty_1 hT) ⟨by decide, rfl, by decide, by decide⟩ rfl (fun _ => by omega) (pin_at hp (t := 4) rfl (by decide)) ?_
  refine gx_gf (x := (m 4 8)) 0 r_24_5 (rfl) (ty_4 hT) ⟨by decide, rfl, by decide, by decide⟩ rfl (fun z => absurd z (by decide)) (rfl) ?_
  refine gx_ci (nx := 11) (S2 := []) (x_71 a (m 4 8)) r_24_8 rfl rfl rfl rfl rfl rfl rfl (by decide) rfl (fun x8 n8 q8 => ?_)
  obtain rfl := q8.1.symm
  obtain rfl := q8.2.symm
  show GX T 2 24 11 [(2, 1), (0, a)] [(0, (if 0 ≤ a ∧ a < (m 4 8) then 1 else 0))] m (RI (fun v m1 => (¬ (0 ≤ a ∧ a < m 4 8) → v = -2) ∧ ∀ h : Nat, a = (h : Int) → (0 ≤ a ∧ a < m 4 8) → v = m 40 h))
  refine gx_i0 (P := ¬ (0 ≤ a ∧ a < (m 4 8))) r_24_11 (b01_eq) (fun h11 => ?_) (fun h11 => ?_)
  · refine gx_st (L' := [(2, 1), (0, a)]) (S' := [(0, (-2))]) r_24_28 rfl rfl rfl ?_
    exact gx_rt r_24_30 rfl rfl ⟨_, rfl, fun _ => rfl, fun h e z => (by exfalso; omega)⟩
  · have h11 := Decidable.not_not.mp h11
    obtain ⟨ii, h_ii⟩ : ∃ i : Nat, a = (i : Int) := ⟨a.toNat, by omega⟩
    rw [h_ii]
    refine gx_st (L' := [(2, 1), (0, (ii : Int))]) (S' := [(2, 1)]) r_24_14 rfl rfl rfl ?_
    refine gx_gf (x := 28) 2 r_24_15 (rfl) (ty_1 hT) ⟨by decide, rfl, by decide, by decide⟩ rfl (fun _ => by omega) (pin_at hp (t := 28) rfl (by decide)) ?_
    refine gx_gf (x := 40) 2 r_24_18 (rfl) (ty_28 hT) ⟨by decide, rfl, by decide, by decide⟩ rfl (fun _ => by omega) (pin_at hp (t := 40) rfl (by decide)) ?_
    refine gx_st (L' := [(2, 1), (0, (ii : Int))]) (S' := [(0, (ii : Int)), (2, 40)]) r_24_21 rfl rfl rfl ?_
    refine gx_ci (nx := 25) (S2 := []) (c_237 (r := 40) (n := 5) (ty_40 hT) (by decide) (by decide) (k := ii) (by omega)) r_24_22 rfl rfl rfl rfl rfl rfl rfl (by decide) rfl (fun x22 n22 q22 => ?_)
    obtain rfl := q22.1.symm
    obtain rfl := q22.2.symm
    show GX T 2 24 25 [(2, 1), (0, (ii : Int))] [(0, (m 40 ii))] m (RI (fun v m1 => (¬ (0 ≤ (ii : Int) ∧ (ii : Int) < m 4 8) → v = -2) ∧ ∀ h : Nat, (ii : Int) = (h : Int) → (0 ≤ (ii : Int) ∧ (ii : Int) < m 4 8) → v = m 40 h))
    refine gx_st (L' := [(2, 1), (0, (ii : Int))]) (S' := [(0, (m 40 ii))]) r_24_25 rfl rfl rfl ?_
    exact gx_rt r_24_30 rfl rfl ⟨_, rfl, fun z => absurd z (by omega), fun h e z => by rw [show h = ii by omega]⟩
theorem y_154 (hT : TT T) (h136 : ConH T cn_136) (hp : PinR m) (hm : Gam m) (hx : Ext m) (wb : WB (pw (m 193))) (wp : WP (pw (m 193))) (a : Int) : GX T 11 154 0 [(2, 192), (0, a)] [] m (RI (fun v m1 => AskR m m1 ∧ (¬ (0 ≤ a ∧ a < m 193 1) → v = -2) ∧ ∀ h : Nat, a = (h : Int) → (0 ≤ a ∧ a < m 193 1) → v = m1 201 h)) := by
  refine gx_st (L' := [(2, 192), (0, a)]) (S' := [(2, 192)]) r_154_0 rfl rfl rfl ?_
  refine gx_ci (nx := 4) (S2 := []) (y_146 hT h136 hp hm hx wb wp) r_154_1 rfl rfl rfl rfl rfl (rcv_v rfl (ty_192 hT) (by decide) rfl (by decide)) rfl (by decide) rfl (fun x1 n1 q1 => ?_)
  obtain ⟨e_x1, ak, hp1, gm1, gx1, f1, fs1⟩ := q1
  have e193 : n1 193 = m 193 := funext (Fr_cell (o := 193) f1 (by decide) (by decide))
  show GX T 11 154 4 [(2, 192), (0, a)] [(0, x1)] n1 (RI (fun v m1 => AskR m m1 ∧ (¬ (0 ≤ a ∧ a < m 193 1) → v = -2) ∧ ∀ h : Nat, a = (h : Int) → (0 ≤ a ∧ a < m 193 1) → v = m1 201 h))
  show GX T 11 154 4 [(2, 192), (0, a)] [(0, x1)] n1 (RI (fun v m1 => AskR m m1 ∧ (¬ (0 ≤ a ∧ a < m 193 1) → v = -2) ∧ ∀ h : Nat, a = (h : Int) → (0 ≤ a ∧ a < m 193 1) → v = m1 201 h))
  refine gx_st (L' := [(2, 192), (0, a)]) (S' := []) r_154_4 rfl rfl rfl ?_
  refine gx_st (L' := [(2, 192), (0, a)]) (S' := [(2, 192)]) r_154_5 rfl rfl rfl ?_
  refine gx_st (L' := [(2, 192), (0, a)]) (S' := [(0, a), (2, 192)]) r_154_6 rfl rfl rfl ?_
  refine gx_ci (nx := 10) (S2 := []) (x_92 hT gm1 a) r_154_7 rfl rfl rfl rfl rfl (rcv_v rfl (ty_192 hT) (by decide) rfl (by decide)) rfl (by decide) rfl (fun x7 n7 q7 => ?_)
  obtain ⟨e_x7, z_x7⟩ := q7
  obtain rfl := z_x7.symm
  rw [e_x7, e193]
  have b0 := gb_193_0 hm
  have b1 := gb_193_1 hm
  have b5 := gb_193_5 hm
  have b6 := gb_193_6 hm
  have b7 := gb_193_7 hm
  show GX T 11 154 10 [(2, 192), (0, a)] [(0, (if 0 ≤ a ∧ a ≤ m 193 1 - 1 then 1 else 0))] n1 (RI (fun v m1 => AskR m m1 ∧ (¬ (0 ≤ a ∧ a < m 193 1) → v = -2) ∧ ∀ h : Nat, a = (h : Int) → (0 ≤ a ∧ a < m 193 1) → v = m1 201 h))
  refine gx_i0 (P := ¬ (0 ≤ a ∧ a ≤ m 193 1 - 1)) r_154_10 (b01_eq) (fun h10 => ?_) (fun h10 => ?_)
  · refine gx_st (L' := [(2, 192), (0, a)]) (S' := [(0, (-2))]) r_154_22 rfl rfl rfl ?_
    exact gx_rt r_154_24 rfl rfl ⟨_, rfl, ak, fun _ => rfl, fun h e z => (by exfalso; omega)⟩
  · have h10 := Decidable.not_not.mp h10
    obtain ⟨ii, h_ii⟩ : ∃ i : Nat, a = (i : Int) := ⟨a.toNat, by omega⟩
    rw [h_ii]
    refine gx_st (L' := [(2, 192), (0, (ii : Int))]) (S' := [(2, 192)]) r_154_13 rfl rfl rfl ?_
    refine gx_gf (x := 201) 2 r_154_14 (rfl) (ty_192 hT) ⟨by decide, rfl, by decide, by decide⟩ rfl (fun _ => by omega) (pin_at hp1 (t := 201) rfl (by decide)) ?_
    refine gx_st (L' := [(2, 192), (0, (ii : Int))]) (S' := [(0, (ii : Int)), (2, 201)]) r_154_17 rfl rfl rfl ?_
    refine gx_ia (n := ii) (x := (n1 201 ii)) r_154_18 (rfl) (ty_201 hT) (by omega) ⟨rfl, by omega⟩ (rfl) ?_
    refine gx_st (L' := [(2, 192), (0, (ii : Int))]) (S' := [(0, (n1 201 ii))]) r_154_19 rfl rfl rfl ?_
    exact gx_rt r_154_24 rfl rfl ⟨_, rfl, ak, fun z => absurd z (by omega), fun h e z => by rw [show h = ii by omega]⟩
theorem y_160 (hT : TT T) (h136 : ConH T cn_136) (hp : PinR m) (hm : Gam m) (hx : Ext m) (wb : WB (pw (m 193))) (wp : WP (pw (m 193))) (a : Int) : GX T 11 160 0 [(2, 192), (0, a)] [] m (RI (fun v m1 => AskR m m1 ∧ (¬ (0 ≤ a ∧ a < m 193 7) → v = -2) ∧ ∀ h : Nat, a = (h : Int) → (0 ≤ a ∧ a < m 193 7) → v = m1 204 h)) := by
  refine gx_st (L' := [(2, 192), (0, a)]) (S' := [(2, 192)]) r_160_0 rfl rfl rfl ?_
  refine gx_ci (nx := 4) (S2 := []) (y_146 hT h136 hp hm hx wb wp) r_160_1 rfl rfl rfl rfl rfl (rcv_v rfl (ty_192 hT) (by decide) rfl (by decide)) rfl (by decide) rfl (fun x1 n1 q1 => ?_)
  obtain ⟨e_x1, ak, hp1, gm1, gx1, f1, fs1⟩ := q1
  have e193 : n1 193 = m 193 := funext (Fr_cell (o := 193) f1 (by decide) (by decide))
  show GX T 11 160 4 [(2, 192), (0, a)] [(0, x1)] n1 (RI (fun v m1 => AskR m m1 ∧ (¬ (0 ≤ a ∧ a < m 193 7) → v = -2) ∧ ∀ h : Nat, a = (h : Int) → (0 ≤ a ∧ a < m 193 7) → v = m1 204 h))
  show GX T 11 160 4 [(2, 192), (0, a)] [(0, x1)] n1 (RI (fun v m1 => AskR m m1 ∧ (¬ (0 ≤ a ∧ a < m 193 7) → v = -2) ∧ ∀ h : Nat, a = (h : Int) → (0 ≤ a ∧ a < m 193 7) → v = m1 204 h))
  refine gx_st (L' := [(2, 192), (0, a)]) (S' := []) r_160_4 rfl rfl rfl ?_
  refine gx_st (L' := [(2, 192), (0, a)]) (S' := [(2, 192)]) r_160_5 rfl rfl rfl ?_
  refine gx_st (L' := [(2, 192), (0, a)]) (S' := [(0, a), (2, 192)]) r_160_6 rfl rfl rfl ?_
  refine gx_ci (nx := 10) (S2 := []) (x_96 hT gm1 a) r_160_7 rfl rfl rfl rfl rfl (rcv_v rfl (ty_192 hT) (by decide) rfl (by decide)) rfl (by decide) rfl (fun x7 n7 q7 => ?_)
  obtain ⟨e_x7, z_x7⟩ := q7
  obtain rfl := z_x7.symm
  rw [e_x7, e193]
  have b0 := gb_193_0 hm
  have b1 := gb_193_1 hm
  have b5 := gb_193_5 hm
  have b6 := gb_193_6 hm
  have b7 := gb_193_7 hm
  show GX T 11 160 10 [(2, 192), (0, a)] [(0, (if 0 ≤ a ∧ a ≤ m 193 7 - 1 then 1 else 0))] n1 (RI (fun v m1 => AskR m m1 ∧ (¬ (0 ≤ a ∧ a < m 193 7) → v = -2) ∧ ∀ h : Nat, a = (h : Int) → (0 ≤ a ∧ a < m 193 7) → v = m1 204 h))
  refine gx_i0 (P := ¬ (0 ≤ a ∧ a ≤ m 193 7 - 1)) r_160_10 (b01_eq) (fun h10 => ?_) (fun h10 => ?_)
  · refine gx_st (L' := [(2, 192), (0, a)]) (S' := [(0, (-2))]) r_160_22 rfl rfl rfl ?_
    exact gx_rt r_160_24 rfl rfl ⟨_, rfl, ak, fun _ => rfl, fun h e z => (by exfalso; omega)⟩
  · have h10 := Decidable.not_not.mp h10
    obtain ⟨ii, h_ii⟩ : ∃ i : Nat, a = (i : Int) := ⟨a.toNat, by omega⟩
    rw [h_ii]
    refine gx_st (L' := [(2, 192), (0, (ii : Int))]) (S' := [(2, 192)]) r_160_13 rfl rfl rfl ?_
    refine gx_gf (x := 204) 2 r_160_14 (rfl) (ty_192 hT) ⟨by decide, rfl, by decide, by decide⟩ rfl (fun _ => by omega) (pin_at hp1 (t := 204) rfl (by decide)) ?_
    refine gx_st (L' := [(2, 192), (0, (ii : Int))]) (S' := [(0, (ii : Int)), (2, 204)]) r_160_17 rfl rfl rfl ?_
    refine gx_ia (n := ii) (x := (n1 204 ii)) r_160_18 (rfl) (ty_204 hT) (by omega) ⟨rfl, by omega⟩ (rfl) ?_
    refine gx_st (L' := [(2, 192), (0, (ii : Int))]) (S' := [(0, (n1 204 ii))]) r_160_19 rfl rfl rfl ?_
    exact gx_rt r_160_24 rfl rfl ⟨_, rfl, ak, fun z => absurd z (by omega), fun h e z => by rw [show h = ii by omega]⟩
theorem sty_l (hT : TT T) (hp : PinR m) {n : Nat} {p : Int} (hn : m 4 2 = (n : Int)) (hn12 : n ≤ 12) : ∀ (N k : Nat), (n + 1) - k < N → k ≤ (n + 1) → GX T 1 29 15 [(2, 1), (0, p), (0, (bitsW (fun h => decide (m 32 h = p)) k)), (0, (k : Int))] [] m (RI (fun v m1 => v = bitsW (fun h => decide (m 32 h = p)) (n + 1) ∧ m1 = m)) := by
  intro N
  induction N with
  | zero => intro k hN; exact absurd hN (Nat.not_lt_zero _)
  | succ N ih =>
    intro k hN hk
    refine gx_st (L' := [(2, 1), (0, p), (0, (bitsW (fun h => decide (m 32 h = p)) k)), (0, (k : Int))]) (S' := [(0, (k : Int))]) r_29_15 rfl rfl rfl ?_
    refine gx_st (L' := [(2, 1), (0, p), (0, (bitsW (fun h => decide (m 32 h = p)) k)), (0, (k : Int))]) (S' := [(2, 1), (0, (k : Int))]) r_29_16 rfl rfl rfl ?_
    refine gx_gf (x := 4) 2 r_29_17 (rfl) (ty_1 hT) ⟨by decide, rfl, by decide, by decide⟩ rfl (fun _ => by omega) (pin_at hp (t := 4) rfl (by decide)) ?_
    refine gx_gf (x := (n : Int)) 0 r_29_20 (rfl) (ty_4 hT) ⟨by decide, rfl, by decide, by decide⟩ rfl (fun z => absurd z (by decide)) (hn) ?_
    refine gx_ic (P := (n : Int) < (k : Int)) r_29_23 (rfl) (fun h23 => ?_) (fun h23 => ?_)
    · refine gx_st (L' := [(2, 1), (0, p), (0, (bitsW (fun h => decide (m 32 h = p)) k)), (0, (k : Int))]) (S' := [(0, (bitsW (fun h => decide (m 32 h = p)) k))]) r_29_53 rfl rfl rfl ?_
      have hkn : k = n + 1 := by omega
      subst hkn
      exact gx_rt r_29_54 rfl rfl ⟨_, rfl, rfl, rfl⟩
    · refine gx_st (L' := [(2, 1), (0, p), (0, (bitsW (fun h => decide (m 32 h = p)) k)), (0, (k : Int))]) (S' := [(2, 1)]) r_29_26 rfl rfl rfl ?_
      refine gx_gf (x := 28) 2 r_29_27 (rfl) (ty_1 hT) ⟨by decide, rfl, by decide, by decide⟩ rfl (fun _ => by omega) (pin_at hp (t := 28) rfl (by decide)) ?_
      refine gx_gf (x := 32) 2 r_29_30 (rfl) (ty_28 hT) ⟨by decide, rfl, by decide, by decide⟩ rfl (fun _ => by omega) (pin_at hp (t := 32) rfl (by decide)) ?_
      refine gx_st (L' := [(2, 1), (0, p), (0, (bitsW (fun h => decide (m 32 h = p)) k)), (0, (k : Int))]) (S' := [(0, (k : Int)), (2, 32)]) r_29_33 rfl rfl rfl ?_
      refine gx_ci (nx := 37) (S2 := []) (c_237 (r := 32) (n := 13) (ty_32 hT) (by decide) (by decide) (k := k) (by omega)) r_29_34 rfl rfl rfl rfl rfl rfl rfl (by decide) rfl (fun x34 n34 q34 => ?_)
      obtain rfl := q34.1.symm
      obtain rfl := q34.2.symm
      show GX T 1 29 37 [(2, 1), (0, p), (0, (bitsW (fun h => decide (m 32 h = p)) k)), (0, (k : Int))] [(0, (m 32 k))] m (RI (fun v m1 => v = bitsW (fun h => decide (m 32 h = p)) (n + 1) ∧ m1 = m))
      refine gx_st (L' := [(2, 1), (0, p), (0, (bitsW (fun h => decide (m 32 h = p)) k)), (0, (k : Int))]) (S' := [(0, p), (0, (m 32 k))]) r_29_37 rfl rfl rfl ?_
      refine gx_ic (P := ¬ (m 32 k) = p) r_29_38 (rfl) (fun h38 => ?_) (fun h38 => ?_)
      · refine gx_li (z := (k : Int) + 1) (L' := [(2, 1), (0, p), (0, (bitsW (fun h => decide (m 32 h = p)) k)), (0, (k : Int) + 1)]) r_29_47 rfl (w32_eq (by omega) (by omega) (by omega)) rfl ?_
        refine gx_st (L' := [(2, 1), (0, p), (0, (bitsW (fun h => decide (m 32 h = p)) k)), (0, (k : Int) + 1)]) (S' := []) r_29_50 rfl rfl rfl ?_
        rw [show (k : Int) + 1 = ((k + 1 : Nat) : Int) from rfl]
        have z := ih (k + 1) (by omega) (by omega)
        rw [bitsW_n (show ¬ (fun h => decide (m 32 h = p)) k = true from fun z => h38 (of_decide_eq_true z))] at z
        exact z
      · have h38 := Decidable.not_not.mp h38
        refine gx_st (L' := [(2, 1), (0, p), (0, (bitsW (fun h => decide (m 32 h = p)) k)), (0, (k : Int))]) (S' := [(0, (bitsW (fun h => decide (m 32 h = p)) k))]) r_29_41 rfl rfl rfl ?_
        refine gx_st (L' := [(2, 1), (0, p), (0, (bitsW (fun h => decide (m 32 h = p)) k)), (0, (k : Int))]) (S' := [(0, 1), (0, (bitsW (fun h => decide (m 32 h = p)) k))]) r_29_42 rfl rfl rfl ?_
        refine gx_st (L' := [(2, 1), (0, p), (0, (bitsW (fun h => decide (m 32 h = p)) k)), (0, (k : Int))]) (S' := [(0, (k : Int)), (0, 1), (0, (bitsW (fun h => decide (m 32 h = p)) k))]) r_29_43 rfl rfl rfl ?_
        refine gx_st (L' := [(2, 1), (0, p), (0, (bitsW (fun h => decide (m 32 h = p)) k)), (0, (k : Int))]) (S' := [(0, (ishl 1 (k : Int))), (0, (bitsW (fun h => decide (m 32 h = p)) k))]) r_29_44 rfl rfl rfl ?_
        refine gx_st (L' := [(2, 1), (0, p), (0, (bitsW (fun h => decide (m 32 h = p)) k)), (0, (k : Int))]) (S' := [(0, (ior ((bitsW (fun h => decide (m 32 h = p)) k)) ((ishl 1 (k : Int)))))]) r_29_45 rfl rfl rfl ?_
        refine gx_st (L' := [(2, 1), (0, p), (0, (ior ((bitsW (fun h => decide (m 32 h = p)) k)) ((ishl 1 (k : Int))))), (0, (k : Int))]) (S' := []) r_29_46 rfl rfl rfl ?_
        refine gx_li (z := (k : Int) + 1) (L' := [(2, 1), (0, p), (0, (ior ((bitsW (fun h => decide (m 32 h = p)) k)) ((ishl 1 (k : Int))))), (0, (k : Int) + 1)]) r_29_47 rfl (w32_eq (by omega) (by omega) (by omega)) rfl ?_
        refine gx_st (L' := [(2, 1), (0, p), (0, (ior ((bitsW (fun h => decide (m 32 h = p)) k)) ((ishl 1 (k : Int))))), (0, (k : Int) + 1)]) (S' := []) r_29_50 rfl rfl rfl ?_
        rw [show (k : Int) + 1 = ((k + 1 : Nat) : Int) from rfl]
        have z := ih (k + 1) (by omega) (by omega)
        rw [bitsW_y (show (fun h => decide (m 32 h = p)) k = true from decide_eq_true h38)] at z
        exact z
theorem sr3_l (hT : TT T) (hp : PinR m) {n : Nat} {p : Int} (hn : m 193 1 = (n : Int)) (hn12 : n ≤ 12) : ∀ (N k : Nat), (n + 1) - k < N → k ≤ (n + 1) → GX T 1 166 4 [(2, 192), (0, p), (0, (bitsW (fun h => decide (m 200 (16 * h + 0) = p)) k)), (0, (k : Int))] [] m (RI (fun v m1 => v = bitsW (fun h => decide (m 200 (16 * h + 0) = p)) (n + 1) ∧ m1 = m)) := by
  intro N
  induction N with
  | zero => intro k hN; exact absurd hN (Nat.not_lt_zero _)
  | succ N ih =>
    intro k hN hk
    refine gx_st (L' := [(2, 192), (0, p), (0, (bitsW (fun h => decide (m 200 (16 * h + 0) = p)) k)), (0, (k : Int))]) (S' := [(0, (k : Int))]) r_166_4 rfl rfl rfl ?_
    refine gx_st (L' := [(2, 192), (0, p), (0, (bitsW (fun h => decide (m 200 (16 * h + 0) = p)) k)), (0, (k : Int))]) (S' := [(2, 192), (0, (k : Int))]) r_166_5 rfl rfl rfl ?_
    refine gx_gf (x := 193) 2 r_166_6 (rfl) (ty_192 hT) ⟨by decide, rfl, by decide, by decide⟩ rfl (fun _ => by omega) (pin_at hp (t := 193) rfl (by decide)) ?_
    refine gx_st (L' := [(2, 192), (0, p), (0, (bitsW (fun h => decide (m 200 (16 * h + 0) = p)) k)), (0, (k : Int))]) (S' := [(0, 1), (2, 193), (0, (k : Int))]) r_166_9 rfl rfl rfl ?_
    refine gx_ia (n := 1) (x := (n : Int)) r_166_10 (rfl) (ty_193 hT) (rfl) ⟨rfl, by decide⟩ (hn) ?_
    refine gx_ic (P := (n : Int) < (k : Int)) r_166_11 (rfl) (fun h11 => ?_) (fun h11 => ?_)
    · refine gx_st (L' := [(2, 192), (0, p), (0, (bitsW (fun h => decide (m 200 (16 * h + 0) = p)) k)), (0, (k : Int))]) (S' := [(0, (bitsW (fun h => decide (m 200 (16 * h + 0) = p)) k))]) r_166_40 rfl rfl rfl ?_
      have hkn : k = n + 1 := by omega
      subst hkn
      exact gx_rt r_166_41 rfl rfl ⟨_, rfl, rfl, rfl⟩
    · refine gx_st (L' := [(2, 192), (0, p), (0, (bitsW (fun h => decide (m 200 (16 * h + 0) = p)) k)), (0, (k : Int))]) (S' := [(0, (bitsW (fun h => decide (m 200 (16 * h + 0) = p)) k))]) r_166_14 rfl rfl rfl ?_
      refine gx_st (L' := [(2, 192), (0, p), (0, (bitsW (fun h => decide (m 200 (16 * h + 0) = p)) k)), (0, (k : Int))]) (S' := [(2, 192), (0, (bitsW (fun h => decide (m 200 (16 * h + 0) = p)) k))]) r_166_15 rfl rfl rfl ?_
      refine gx_st (L' := [(2, 192), (0, p), (0, (bitsW (fun h => decide (m 200 (16 * h + 0) = p)) k)), (0, (k : Int))]) (S' := [(0, (k : Int)), (2, 192), (0, (bitsW (fun h => decide (m 200 (16 * h + 0) = p)) k))]) r_166_16 rfl rfl rfl ?_
      refine gx_st (L' := [(2, 192), (0, p), (0, (bitsW (fun h => decide (m 200 (16 * h + 0) = p)) k)), (0, (k : Int))]) (S' := [(0, 0), (0, (k : Int)), (2, 192), (0, (bitsW (fun h => decide (m 200 (16 * h + 0) = p)) k))]) r_166_17 rfl rfl rfl ?_
      refine gx_ci (nx := 21) (S2 := [(0, (bitsW (fun h => decide (m 200 (16 * h + 0) = p)) k))]) (l_131 hT hp (h := k) (k := 0) (i := 16 * k + 0) rfl (by omega)) r_166_18 rfl rfl rfl rfl rfl (rcv_v rfl (ty_192 hT) (by decide) rfl (by decide)) rfl (by decide) rfl (fun x18 n18 q18 => ?_)
      obtain rfl := q18.1.symm
      obtain rfl := q18.2.symm
      show GX T 1 166 21 [(2, 192), (0, p), (0, (bitsW (fun h => decide (m 200 (16 * h + 0) = p)) k)), (0, (k : Int))] [(0, (m 200 (16 * k + 0))), (0, (bitsW (fun h => decide (m 200 (16 * h + 0) = p)) k))] m (RI (fun v m1 => v = bitsW (fun h => decide (m 200 (16 * h + 0) = p)) (n + 1) ∧ m1 = m))
      refine gx_st (L' := [(2, 192), (0, p), (0, (bitsW (fun h => decide (m 200 (16 * h + 0) = p)) k)), (0, (k : Int))]) (S' := [(0, p), (0, (m 200 (16 * k + 0))), (0, (bitsW (fun h => decide (m 200 (16 * h + 0) = p)) k))]) r_166_21 rfl rfl rfl ?_
      refine gx_ic (P := ¬ (m 200 (16 * k + 0)) = p) r_166_22 (rfl) (fun h22 => ?_) (fun h22 => ?_)
      · refine gx_st (L' := [(2, 192), (0, p), (0, (bitsW (fun h => decide (m 200 (16 * h + 0) = p)) k)), (0, (k : Int))]) (S' := [(0, 0), (0, (bitsW (fun h => decide (m 200 (16 * h + 0) = p)) k))]) r_166_31 rfl rfl rfl ?_
        refine gx_st (L' := [(2, 192), (0, p), (0, (bitsW (fun h => decide (m 200 (16 * h + 0) = p)) k)), (0, (k : Int))]) (S' := [(0, (ior ((bitsW (fun h => decide (m 200 (16 * h + 0) = p)) k)) 0))]) r_166_32 rfl rfl rfl ?_
        rw [ior_0 (bitsW_in _ _)]
        show GX T 1 166 33 [(2, 192), (0, p), (0, (bitsW (fun h => decide (m 200 (16 * h + 0) = p)) k)), (0, (k : Int))] [(0, (bitsW (fun h => decide (m 200 (16 * h + 0) = p)) k))] m (RI (fun v m1 => v = bitsW (fun h => decide (m 200 (16 * h + 0) = p)) (n + 1) ∧ m1 = m))
        refine gx_st (L' := [(2, 192), (0, p), (0, (bitsW (fun h => decide (m 200 (16 * h + 0) = p)) k)), (0, (k : Int))]) (S' := []) r_166_33 rfl rfl rfl ?_
        refine gx_li (z := (k : Int) + 1) (L' := [(2, 192), (0, p), (0, (bitsW (fun h => decide (m 200 (16 * h + 0) = p)) k)), (0, (k : Int) + 1)]) r_166_34 rfl (w32_eq (by omega) (by omega) (by omega)) rfl ?_
        refine gx_st (L' := [(2, 192), (0, p), (0, (bitsW (fun h => decide (m 200 (16 * h + 0) = p)) k)), (0, (k : Int) + 1)]) (S' := []) r_166_37 rfl rfl rfl ?_
        rw [show (k : Int) + 1 = ((k + 1 : Nat) : Int) from rfl]
        have z := ih (k + 1) (by omega) (by omega)
        rw [bitsW_n (show ¬ (fun h => decide (m 200 (16 * h + 0) = p)) k = true from fun z => h22 (of_decide_eq_true z))] at z
        exact z
      · have h22 := Decidable.not_not.mp h22
        refine gx_st (L' := [(2, 192), (0, p), (0, (bitsW (fun h => decide (m 200 (16 * h + 0) = p)) k)), (0, (k : Int))]) (S' := [(0, 1), (0, (bitsW (fun h => decide (m 200 (16 * h + 0) = p)) k))]) r_166_25 rfl rfl rfl ?_
        refine gx_st (L' := [(2, 192), (0, p), (0, (bitsW (fun h => decide (m 200 (16 * h + 0) = p)) k)), (0, (k : Int))]) (S' := [(0, (k : Int)), (0, 1), (0, (bitsW (fun h => decide (m 200 (16 * h + 0) = p)) k))]) r_166_26 rfl rfl rfl ?_
        refine gx_st (L' := [(2, 192), (0, p), (0, (bitsW (fun h => decide (m 200 (16 * h + 0) = p)) k)), (0, (k : Int))]) (S' := [(0, (ishl 1 (k : Int))), (0, (bitsW (fun h => decide (m 200 (16 * h + 0) = p)) k))]) r_166_27 rfl rfl rfl ?_
        refine gx_st (L' := [(2, 192), (0, p), (0, (bitsW (fun h => decide (m 200 (16 * h + 0) = p)) k)), (0, (k : Int))]) (S' := [(0, (ishl 1 (k : Int))), (0, (bitsW (fun h => decide (m 200 (16 * h + 0) = p)) k))]) r_166_28 rfl rfl rfl ?_
        refine gx_st (L' := [(2, 192), (0, p), (0, (bitsW (fun h => decide (m 200 (16 * h + 0) = p)) k)), (0, (k : Int))]) (S' := [(0, (ior ((bitsW (fun h => decide (m 200 (16 * h + 0) = p)) k)) ((ishl 1 (k : Int)))))]) r_166_32 rfl rfl rfl ?_
        refine gx_st (L' := [(2, 192), (0, p), (0, (ior ((bitsW (fun h => decide (m 200 (16 * h + 0) = p)) k)) ((ishl 1 (k : Int))))), (0, (k : Int))]) (S' := []) r_166_33 rfl rfl rfl ?_
        refine gx_li (z := (k : Int) + 1) (L' := [(2, 192), (0, p), (0, (ior ((bitsW (fun h => decide (m 200 (16 * h + 0) = p)) k)) ((ishl 1 (k : Int))))), (0, (k : Int) + 1)]) r_166_34 rfl (w32_eq (by omega) (by omega) (by omega)) rfl ?_
        refine gx_st (L' := [(2, 192), (0, p), (0, (ior ((bitsW (fun h => decide (m 200 (16 * h + 0) = p)) k)) ((ishl 1 (k : Int))))), (0, (k : Int) + 1)]) (S' := []) r_166_37 rfl rfl rfl ?_
        rw [show (k : Int) + 1 = ((k + 1 : Nat) : Int) from rfl]
        have z := ih (k + 1) (by omega) (by omega)
        rw [bitsW_y (show (fun h => decide (m 200 (16 * h + 0) = p)) k = true from decide_eq_true h22)] at z
        exact z
theorem z_29 (hT : TT T) (hp : PinR m) (a : Int) (h12 : 0 ≤ m 4 2 ∧ m 4 2 ≤ 12) : GX T 2 29 0 [(2, 1), (0, a), (9, 0), (9, 0)] [] m (RI (fun v m1 => (¬ (0 ≤ a ∧ a < m 4 1) → v = -2) ∧ ∀ n : Nat, m 4 2 = (n : Int) → (0 ≤ a ∧ a < m 4 1) → v = bitsW (fun h => decide (m 32 h = a)) (n + 1))) := by
  refine gx_st (L' := [(2, 1), (0, a), (9, 0), (9, 0)]) (S' := [(2, 1)]) r_29_0 rfl rfl rfl ?_
  refine gx_st (L' := [(2, 1), (0, a), (9, 0), (9, 0)]) (S' := [(0, a), (2, 1)]) r_29_1 rfl rfl rfl ?_
  refine gx_ci (nx := 5) (S2 := []) (x_72 hT hp a) r_29_2 rfl rfl rfl rfl rfl (rcv_v rfl (ty_1 hT) (by decide) rfl (by decide)) rfl (by decide) rfl (fun x2 n2 q2 => ?_)
  obtain rfl := q2.1.symm
  obtain rfl := q2.2.symm
  show GX T 2 29 5 [(2, 1), (0, a), (9, 0), (9, 0)] [(0, (if 0 ≤ a ∧ a < m 4 1 then 1 else 0))] m (RI (fun v m1 => (¬ (0 ≤ a ∧ a < m 4 1) → v = -2) ∧ ∀ n : Nat, m 4 2 = (n : Int) → (0 ≤ a ∧ a < m 4 1) → v = bitsW (fun h => decide (m 32 h = a)) (n + 1)))
  refine gx_i0 (P := 0 ≤ a ∧ a < m 4 1) r_29_5 (b01_ne) (fun h5 => ?_) (fun h5 => ?_)
  · refine gx_st (L' := [(2, 1), (0, a), (9, 0), (9, 0)]) (S' := [(0, 0)]) r_29_11 rfl rfl rfl ?_
    refine gx_st (L' := [(2, 1), (0, a), (0, 0), (9, 0)]) (S' := []) r_29_12 rfl rfl rfl ?_
    refine gx_st (L' := [(2, 1), (0, a), (0, 0), (9, 0)]) (S' := [(0, 0)]) r_29_13 rfl rfl rfl ?_
    refine gx_st (L' := [(2, 1), (0, a), (0, 0), (0, 0)]) (S' := []) r_29_14 rfl rfl rfl ?_
    exact gx_imp (gx_d (sty_l hT hp (n := (m 4 2).toNat) (p := a) (by omega) (by omega) ((m 4 2).toNat + 2) 0 (by omega) (by omega)) (by decide)) (fun v m1 ⟨x, e, q, _⟩ => ⟨x, e, fun z => absurd z (by omega), fun n e1 z => by rw [q, show n = (m 4 2).toNat by omega]⟩)
  · refine gx_st (L' := [(2, 1), (0, a), (9, 0), (9, 0)]) (S' := [(0, (-2))]) r_29_8 rfl rfl rfl ?_
    exact gx_rt r_29_10 rfl rfl ⟨_, rfl, fun _ => rfl, fun n e1 z => (by exfalso; omega)⟩
theorem y_166 (hT : TT T) (hp : PinR m) (p : Int) {n : Nat} (hn : m 193 1 = (n : Int)) (hn12 : n ≤ 12) : GX T 1 166 0 [(2, 192), (0, p), (9, 0), (9, 0)] [] m (RI (fun v m1 => v = bitsW (fun h => decide (m 200 (16 * h + 0) = p)) (n + 1) ∧ m1 = m)) := by
  refine gx_st (L' := [(2, 192), (0, p), (9, 0), (9, 0)]) (S' := [(0, 0)]) r_166_0 rfl rfl rfl ?_
  refine gx_st (L' := [(2, 192), (0, p), (0, 0), (9, 0)]) (S' := []) r_166_1 rfl rfl rfl ?_
  refine gx_st (L' := [(2, 192), (0, p), (0, 0), (9, 0)]) (S' := [(0, 0)]) r_166_2 rfl rfl rfl ?_
  refine gx_st (L' := [(2, 192), (0, p), (0, 0), (0, 0)]) (S' := []) r_166_3 rfl rfl rfl ?_
  exact sr3_l hT hp hn hn12 (n + 2) 0 (by omega) (by omega)
theorem y_167 (hT : TT T) (h136 : ConH T cn_136) (hp : PinR m) (hm : Gam m) (hx : Ext m) (wb : WB (pw (m 193))) (wp : WP (pw (m 193))) (a : Int) : GX T 11 167 0 [(2, 192), (0, a)] [] m (RI (fun v m1 => AskR m m1 ∧ (¬ (0 ≤ a ∧ a < m 193 0) → v = -2) ∧ ∀ n : Nat, m 193 1 = (n : Int) → (0 ≤ a ∧ a < m 193 0) → v = bitsW (fun h => decide (m1 200 (16 * h + 0) = a)) (n + 1))) := by
  refine gx_st (L' := [(2, 192), (0, a)]) (S' := [(2, 192)]) r_167_0 rfl rfl rfl ?_
  refine gx_ci (nx := 4) (S2 := []) (y_146 hT h136 hp hm hx wb wp) r_167_1 rfl rfl rfl rfl rfl (rcv_v rfl (ty_192 hT) (by decide) rfl (by decide)) rfl (by decide) rfl (fun x1 n1 q1 => ?_)
  obtain ⟨e_x1, ak, hp1, gm1, gx1, f1, fs1⟩ := q1
  have e193 : n1 193 = m 193 := funext (Fr_cell (o := 193) f1 (by decide) (by decide))
  show GX T 11 167 4 [(2, 192), (0, a)] [(0, x1)] n1 (RI (fun v m1 => AskR m m1 ∧ (¬ (0 ≤ a ∧ a < m 193 0) → v = -2) ∧ ∀ n : Nat, m 193 1 = (n : Int) → (0 ≤ a ∧ a < m 193 0) → v = bitsW (fun h => decide (m1 200 (16 * h + 0) = a)) (n + 1)))
  show GX T 11 167 4 [(2, 192), (0, a)] [(0, x1)] n1 (RI (fun v m1 => AskR m m1 ∧ (¬ (0 ≤ a ∧ a < m 193 0) → v = -2) ∧ ∀ n : Nat, m 193 1 = (n : Int) → (0 ≤ a ∧ a < m 193 0) → v = bitsW (fun h => decide (m1 200 (16 * h + 0) = a)) (n + 1)))
  refine gx_st (L' := [(2, 192), (0, a)]) (S' := []) r_167_4 rfl rfl rfl ?_
  refine gx_st (L' := [(2, 192), (0, a)]) (S' := [(2, 192)]) r_167_5 rfl rfl rfl ?_
  refine gx_st (L' := [(2, 192), (0, a)]) (S' := [(0, a), (2, 192)]) r_167_6 rfl rfl rfl ?_
  refine gx_st (L' := [(2, 192), (0, a)]) (S' := [(1, a), (2, 192)]) r_167_7 rfl rfl rfl ?_
  refine gx_ci (nx := 11) (S2 := []) (x_91 hT gm1 a) r_167_8 rfl rfl rfl rfl rfl (rcv_v rfl (ty_192 hT) (by decide) rfl (by decide)) rfl (by decide) rfl (fun x8 n8 q8 => ?_)
  obtain ⟨e_x8, z_x8⟩ := q8
  obtain rfl := z_x8.symm
  rw [e_x8, e193]
  have b0 := gb_193_0 hm
  have b1 := gb_193_1 hm
  have b5 := gb_193_5 hm
  have b6 := gb_193_6 hm
  have b7 := gb_193_7 hm
  show GX T 11 167 11 [(2, 192), (0, a)] [(0, (if 0 ≤ a ∧ a ≤ m 193 0 - 1 then 1 else 0))] n1 (RI (fun v m1 => AskR m m1 ∧ (¬ (0 ≤ a ∧ a < m 193 0) → v = -2) ∧ ∀ n : Nat, m 193 1 = (n : Int) → (0 ≤ a ∧ a < m 193 0) → v = bitsW (fun h => decide (m1 200 (16 * h + 0) = a)) (n + 1)))
  refine gx_i0 (P := ¬ (0 ≤ a ∧ a ≤ m 193 0 - 1)) r_167_11 (b01_eq) (fun h11 => ?_) (fun h11 => ?_)
  · refine gx_st (L' := [(2, 192), (0, a)]) (S' := [(0, (-2))]) r_167_22 rfl rfl rfl ?_
    exact gx_rt r_167_24 rfl rfl ⟨_, rfl, ak, fun _ => rfl, fun n e1 z => (by exfalso; omega)⟩
  · have h11 := Decidable.not_not.mp h11
    refine gx_st (L' := [(2, 192), (0, a)]) (S' := [(2, 192)]) r_167_14 rfl rfl rfl ?_
    refine gx_st (L' := [(2, 192), (0, a)]) (S' := [(0, a), (2, 192)]) r_167_15 rfl rfl rfl ?_
    refine gx_ci (nx := 19) (S2 := []) (y_166 hT hp1 a (n := (m 193 1).toNat) (by rw [e193]; omega) (by omega)) r_167_16 rfl rfl rfl rfl rfl (rcv_v rfl (ty_192 hT) (by decide) rfl (by decide)) rfl (by decide) rfl (fun x16 n16 q16 => ?_)
    obtain ⟨e_x16, z_x16⟩ := q16
    obtain rfl := z_x16.symm
    show GX T 11 167 19 [(2, 192), (0, a)] [(0, x16)] n1 (RI (fun v m1 => AskR m m1 ∧ (¬ (0 ≤ a ∧ a < m 193 0) → v = -2) ∧ ∀ n : Nat, m 193 1 = (n : Int) → (0 ≤ a ∧ a < m 193 0) → v = bitsW (fun h => decide (m1 200 (16 * h + 0) = a)) (n + 1)))
    refine gx_st (L' := [(2, 192), (0, a)]) (S' := [(0, x16)]) r_167_19 rfl rfl rfl ?_
    exact gx_rt r_167_24 rfl rfl ⟨_, rfl, ak, fun z => absurd z (by omega), fun n e1 z => by rw [e_x16, show n = (m 193 1).toNat by omega]⟩
theorem pk_l (hT : TT T) (hp : PinR m) {n b : Nat} (hb : b < 5) (hn : m 4 2 = (n : Int)) (hn12 : n ≤ 12) : ∀ (N k : Nat), (n + 1) - k < N → k ≤ (n + 1) → GX T 2 31 21 [(2, 1), (0, (b : Int)), (0, (maxW (fun h => m 35 (5 * h + b)) k)), (0, (k : Int))] [] m (RI (fun v m1 => v = maxW (fun h => m 35 (5 * h + b)) (n + 1) ∧ m1 = m)) := by
  intro N
  induction N with
  | zero => intro k hN; exact absurd hN (Nat.not_lt_zero _)
  | succ N ih =>
    intro k hN hk
    refine gx_st (L' := [(2, 1), (0, (b : Int)), (0, (maxW (fun h => m 35 (5 * h + b)) k)), (0, (k : Int))]) (S' := [(0, (k : Int))]) r_31_21 rfl rfl rfl ?_
    refine gx_st (L' := [(2, 1), (0, (b : Int)), (0, (maxW (fun h => m 35 (5 * h + b)) k)), (0, (k : Int))]) (S' := [(2, 1), (0, (k : Int))]) r_31_22 rfl rfl rfl ?_
    refine gx_gf (x := 4) 2 r_31_23 (rfl) (ty_1 hT) ⟨by decide, rfl, by decide, by decide⟩ rfl (fun _ => by omega) (pin_at hp (t := 4) rfl (by decide)) ?_
    refine gx_gf (x := (n : Int)) 0 r_31_26 (rfl) (ty_4 hT) ⟨by decide, rfl, by decide, by decide⟩ rfl (fun z => absurd z (by decide)) (hn) ?_
    refine gx_ic (P := (n : Int) < (k : Int)) r_31_29 (rfl) (fun h29 => ?_) (fun h29 => ?_)
    · refine gx_st (L' := [(2, 1), (0, (b : Int)), (0, (maxW (fun h => m 35 (5 * h + b)) k)), (0, (k : Int))]) (S' := [(0, (maxW (fun h => m 35 (5 * h + b)) k))]) r_31_52 rfl rfl rfl ?_
      have hkn : k = n + 1 := by omega
      subst hkn
      exact gx_rt r_31_53 rfl rfl ⟨_, rfl, rfl, rfl⟩
    · refine gx_st (L' := [(2, 1), (0, (b : Int)), (0, (maxW (fun h => m 35 (5 * h + b)) k)), (0, (k : Int))]) (S' := [(0, (maxW (fun h => m 35 (5 * h + b)) k))]) r_31_32 rfl rfl rfl ?_
      refine gx_st (L' := [(2, 1), (0, (b : Int)), (0, (maxW (fun h => m 35 (5 * h + b)) k)), (0, (k : Int))]) (S' := [(2, 1), (0, (maxW (fun h => m 35 (5 * h + b)) k))]) r_31_33 rfl rfl rfl ?_
      refine gx_gf (x := 28) 2 r_31_34 (rfl) (ty_1 hT) ⟨by decide, rfl, by decide, by decide⟩ rfl (fun _ => by omega) (pin_at hp (t := 28) rfl (by decide)) ?_
      refine gx_st (L' := [(2, 1), (0, (b : Int)), (0, (maxW (fun h => m 35 (5 * h + b)) k)), (0, (k : Int))]) (S' := [(0, (b : Int)), (2, 28), (0, (maxW (fun h => m 35 (5 * h + b)) k))]) r_31_37 rfl rfl rfl ?_
      refine gx_st (L' := [(2, 1), (0, (b : Int)), (0, (maxW (fun h => m 35 (5 * h + b)) k)), (0, (k : Int))]) (S' := [(0, (k : Int)), (0, (b : Int)), (2, 28), (0, (maxW (fun h => m 35 (5 * h + b)) k))]) r_31_38 rfl rfl rfl ?_
      refine gx_ci (nx := 42) (S2 := [(0, (maxW (fun h => m 35 (5 * h + b)) k))]) (z_291 hT hp (i := b) (h := k) (by omega) (by omega)) r_31_39 rfl rfl rfl rfl rfl (rcv_v rfl (ty_28 hT) (by decide) rfl (by decide)) rfl (by decide) rfl (fun x39 n39 q39 => ?_)
      obtain rfl := q39.1.symm
      obtain rfl := q39.2.symm
      show GX T 2 31 42 [(2, 1), (0, (b : Int)), (0, (maxW (fun h => m 35 (5 * h + b)) k)), (0, (k : Int))] [(0, (m 35 (5 * k + b))), (0, (maxW (fun h => m 35 (5 * h + b)) k))] m (RI (fun v m1 => v = maxW (fun h => m 35 (5 * h + b)) (n + 1) ∧ m1 = m))
      refine gx_st (L' := [(2, 1), (0, (b : Int)), (0, (maxW (fun h => m 35 (5 * h + b)) k)), (0, (k : Int))]) (S' := [(0, (max ((maxW (fun h => m 35 (5 * h + b)) k)) ((m 35 (5 * k + b)))))]) r_31_42 rfl rfl rfl ?_
      refine gx_st (L' := [(2, 1), (0, (b : Int)), (0, (max ((maxW (fun h => m 35 (5 * h + b)) k)) ((m 35 (5 * k + b))))), (0, (k : Int))]) (S' := []) r_31_45 rfl rfl rfl ?_
      refine gx_li (z := (k : Int) + 1) (L' := [(2, 1), (0, (b : Int)), (0, (max ((maxW (fun h => m 35 (5 * h + b)) k)) ((m 35 (5 * k + b))))), (0, (k : Int) + 1)]) r_31_46 rfl (w32_eq (by omega) (by omega) (by omega)) rfl ?_
      refine gx_st (L' := [(2, 1), (0, (b : Int)), (0, (max ((maxW (fun h => m 35 (5 * h + b)) k)) ((m 35 (5 * k + b))))), (0, (k : Int) + 1)]) (S' := []) r_31_49 rfl rfl rfl ?_
      rw [show (k : Int) + 1 = ((k + 1 : Nat) : Int) from rfl]
      exact ih (k + 1) (by omega) (by omega)
theorem pr_l (hT : TT T) (hp : PinR m) {n b : Nat} (hb : b < 5) (hn : m 193 1 = (n : Int)) (hn12 : n ≤ 12) : ∀ (N k : Nat), (n + 1) - k < N → k ≤ (n + 1) → GX T 1 171 20 [(2, 192), (0, (b : Int)), (0, (maxW (fun h => m 200 (16 * h + (6 + b))) k)), (0, (k : Int))] [] m (RI (fun v m1 => v = maxW (fun h => m 200 (16 * h + (6 + b))) (n + 1) ∧ m1 = m)) := by
  intro N
  induction N with
  | zero => intro k hN; exact absurd hN (Nat.not_lt_zero _)
  | succ N ih =>
    intro k hN hk
    refine gx_st (L' := [(2, 192), (0, (b : Int)), (0, (maxW (fun h => m 200 (16 * h + (6 + b))) k)), (0, (k : Int))]) (S' := [(0, (k : Int))]) r_171_20 rfl rfl rfl ?_
    refine gx_st (L' := [(2, 192), (0, (b : Int)), (0, (maxW (fun h => m 200 (16 * h + (6 + b))) k)), (0, (k : Int))]) (S' := [(2, 192), (0, (k : Int))]) r_171_21 rfl rfl rfl ?_
    refine gx_gf (x := 193) 2 r_171_22 (rfl) (ty_192 hT) ⟨by decide, rfl, by decide, by decide⟩ rfl (fun _ => by omega) (pin_at hp (t := 193) rfl (by decide)) ?_
    refine gx_st (L' := [(2, 192), (0, (b : Int)), (0, (maxW (fun h => m 200 (16 * h + (6 + b))) k)), (0, (k : Int))]) (S' := [(0, 1), (2, 193), (0, (k : Int))]) r_171_25 rfl rfl rfl ?_
    refine gx_ia (n := 1) (x := (n : Int)) r_171_26 (rfl) (ty_193 hT) (rfl) ⟨rfl, by decide⟩ (hn) ?_
    refine gx_ic (P := (n : Int) < (k : Int)) r_171_27 (rfl) (fun h27 => ?_) (fun h27 => ?_)
    · refine gx_st (L' := [(2, 192), (0, (b : Int)), (0, (maxW (fun h => m 200 (16 * h + (6 + b))) k)), (0, (k : Int))]) (S' := [(0, (maxW (fun h => m 200 (16 * h + (6 + b))) k))]) r_171_50 rfl rfl rfl ?_
      have hkn : k = n + 1 := by omega
      subst hkn
      exact gx_rt r_171_51 rfl rfl ⟨_, rfl, rfl, rfl⟩
    · refine gx_st (L' := [(2, 192), (0, (b : Int)), (0, (maxW (fun h => m 200 (16 * h + (6 + b))) k)), (0, (k : Int))]) (S' := [(0, (maxW (fun h => m 200 (16 * h + (6 + b))) k))]) r_171_30 rfl rfl rfl ?_
      refine gx_st (L' := [(2, 192), (0, (b : Int)), (0, (maxW (fun h => m 200 (16 * h + (6 + b))) k)), (0, (k : Int))]) (S' := [(2, 192), (0, (maxW (fun h => m 200 (16 * h + (6 + b))) k))]) r_171_31 rfl rfl rfl ?_
      refine gx_st (L' := [(2, 192), (0, (b : Int)), (0, (maxW (fun h => m 200 (16 * h + (6 + b))) k)), (0, (k : Int))]) (S' := [(0, (k : Int)), (2, 192), (0, (maxW (fun h => m 200 (16 * h + (6 + b))) k))]) r_171_32 rfl rfl rfl ?_
      refine gx_st (L' := [(2, 192), (0, (b : Int)), (0, (maxW (fun h => m 200 (16 * h + (6 + b))) k)), (0, (k : Int))]) (S' := [(0, 6), (0, (k : Int)), (2, 192), (0, (maxW (fun h => m 200 (16 * h + (6 + b))) k))]) r_171_33 rfl rfl rfl ?_
      refine gx_st (L' := [(2, 192), (0, (b : Int)), (0, (maxW (fun h => m 200 (16 * h + (6 + b))) k)), (0, (k : Int))]) (S' := [(0, (b : Int)), (0, 6), (0, (k : Int)), (2, 192), (0, (maxW (fun h => m 200 (16 * h + (6 + b))) k))]) r_171_35 rfl rfl rfl ?_
      refine gx_ar (L' := [(2, 192), (0, (b : Int)), (0, (maxW (fun h => m 200 (16 * h + (6 + b))) k)), (0, (k : Int))]) (S' := [(0, (k : Int)), (2, 192), (0, (maxW (fun h => m 200 (16 * h + (6 + b))) k))]) (t := 0) (e := w32 (6 + (b : Int))) (z := (b : Int) + 6) r_171_36 rfl rfl rfl (w32_eq (by omega) (by omega) (by omega)) ?_
      refine gx_ci (nx := 40) (S2 := [(0, (maxW (fun h => m 200 (16 * h + (6 + b))) k))]) (l_131 hT hp (h := k) (k := b + 6) (i := 16 * k + (6 + b)) (by omega) (by omega)) r_171_37 rfl rfl rfl rfl rfl (rcv_v rfl (ty_192 hT) (by decide) rfl (by decide)) rfl (by decide) rfl (fun x37 n37 q37 => ?_)
      obtain rfl := q37.1.symm
      obtain rfl := q37.2.symm
      show GX T 1 171 40 [(2, 192), (0, (b : Int)), (0, (maxW (fun h => m 200 (16 * h + (6 + b))) k)), (0, (k : Int))] [(0, (m 200 (16 * k + (6 + b)))), (0, (maxW (fun h => m 200 (16 * h + (6 + b))) k))] m (RI (fun v m1 => v = maxW (fun h => m 200 (16 * h + (6 + b))) (n + 1) ∧ m1 = m))
      refine gx_st (L' := [(2, 192), (0, (b : Int)), (0, (maxW (fun h => m 200 (16 * h + (6 + b))) k)), (0, (k : Int))]) (S' := [(0, (max ((maxW (fun h => m 200 (16 * h + (6 + b))) k)) ((m 200 (16 * k + (6 + b))))))]) r_171_40 rfl rfl rfl ?_
      refine gx_st (L' := [(2, 192), (0, (b : Int)), (0, (max ((maxW (fun h => m 200 (16 * h + (6 + b))) k)) ((m 200 (16 * k + (6 + b)))))), (0, (k : Int))]) (S' := []) r_171_43 rfl rfl rfl ?_
      refine gx_li (z := (k : Int) + 1) (L' := [(2, 192), (0, (b : Int)), (0, (max ((maxW (fun h => m 200 (16 * h + (6 + b))) k)) ((m 200 (16 * k + (6 + b)))))), (0, (k : Int) + 1)]) r_171_44 rfl (w32_eq (by omega) (by omega) (by omega)) rfl ?_
      refine gx_st (L' := [(2, 192), (0, (b : Int)), (0, (max ((maxW (fun h => m 200 (16 * h + (6 + b))) k)) ((m 200 (16 * k + (6 + b)))))), (0, (k : Int) + 1)]) (S' := []) r_171_47 rfl rfl rfl ?_
      rw [show (k : Int) + 1 = ((k + 1 : Nat) : Int) from rfl]
      exact ih (k + 1) (by omega) (by omega)
theorem z_31 (hT : TT T) (hp : PinR m) (a : Int) (h12 : 0 ≤ m 4 2 ∧ m 4 2 ≤ 12) (h5 : m 4 8 ≤ 5) : GX T 3 31 0 [(2, 1), (0, a), (9, 0), (9, 0)] [] m (RI (fun v m1 => (¬ (0 ≤ a ∧ a < m 4 8) → v = -2) ∧ ∀ b n : Nat, a = (b : Int) → m 4 2 = (n : Int) → (0 ≤ a ∧ a < m 4 8) → v = maxW (fun h => m 35 (5 * h + b)) (n + 1))) := by
  refine gx_st (L' := [(2, 1), (0, a), (9, 0), (9, 0)]) (S' := [(0, a)]) r_31_0 rfl rfl rfl ?_
  refine gx_st (L' := [(2, 1), (0, a), (9, 0), (9, 0)]) (S' := [(2, 1), (0, a)]) r_31_1 rfl rfl rfl ?_
  refine gx_gf (x := 4) 2 r_31_2 (rfl) (ty_1 hT) ⟨by decide, rfl, by decide, by decide⟩ rfl (fun _ => by omega) (pin_at hp (t := 4) rfl (by decide)) ?_
  refine gx_gf (x := (m 4 8)) 0 r_31_5 (rfl) (ty_4 hT) ⟨by decide, rfl, by decide, by decide⟩ rfl (fun z => absurd z (by decide)) (rfl) ?_
  refine gx_ci (nx := 11) (S2 := []) (x_71 a (m 4 8)) r_31_8 rfl rfl rfl rfl rfl rfl rfl (by decide) rfl (fun x8 n8 q8 => ?_)
  obtain rfl := q8.1.symm
  obtain rfl := q8.2.symm
  show GX T 3 31 11 [(2, 1), (0, a), (9, 0), (9, 0)] [(0, (if 0 ≤ a ∧ a < (m 4 8) then 1 else 0))] m (RI (fun v m1 => (¬ (0 ≤ a ∧ a < m 4 8) → v = -2) ∧ ∀ b n : Nat, a = (b : Int) → m 4 2 = (n : Int) → (0 ≤ a ∧ a < m 4 8) → v = maxW (fun h => m 35 (5 * h + b)) (n + 1)))
  refine gx_i0 (P := 0 ≤ a ∧ a < (m 4 8)) r_31_11 (b01_ne) (fun h11 => ?_) (fun h11 => ?_)
  · obtain ⟨bb, h_bb⟩ : ∃ i : Nat, a = (i : Int) := ⟨a.toNat, by omega⟩
    rw [h_bb]
    refine gx_st (L' := [(2, 1), (0, (bb : Int)), (9, 0), (9, 0)]) (S' := [(0, 0)]) r_31_17 rfl rfl rfl ?_
    refine gx_st (L' := [(2, 1), (0, (bb : Int)), (0, 0), (9, 0)]) (S' := []) r_31_18 rfl rfl rfl ?_
    refine gx_st (L' := [(2, 1), (0, (bb : Int)), (0, 0), (9, 0)]) (S' := [(0, 0)]) r_31_19 rfl rfl rfl ?_
    refine gx_st (L' := [(2, 1), (0, (bb : Int)), (0, 0), (0, 0)]) (S' := []) r_31_20 rfl rfl rfl ?_
    exact gx_imp (gx_d (pk_l hT hp (n := (m 4 2).toNat) (b := bb) (by omega) (by omega) (by omega) ((m 4 2).toNat + 2) 0 (by omega) (by omega)) (by decide)) (fun v m1 ⟨x, e, q, _⟩ => ⟨x, e, fun z => absurd z (by omega), fun b n e1 e2 z => by rw [q, show n = (m 4 2).toNat by omega, show b = bb by omega]⟩)
  · refine gx_st (L' := [(2, 1), (0, a), (9, 0), (9, 0)]) (S' := [(0, (-2))]) r_31_14 rfl rfl rfl ?_
    exact gx_rt r_31_16 rfl rfl ⟨_, rfl, fun _ => rfl, fun b n e1 e2 z => (by exfalso; omega)⟩
theorem y_171 (hT : TT T) (h136 : ConH T cn_136) (hp : PinR m) (hm : Gam m) (hx : Ext m) (wb : WB (pw (m 193))) (wp : WP (pw (m 193))) (a : Int) : GX T 11 171 0 [(2, 192), (0, a), (9, 0), (9, 0)] [] m (RI (fun v m1 => AskR m m1 ∧ (¬ (0 ≤ a ∧ a < m 193 7) → v = -2) ∧ ∀ b n : Nat, a = (b : Int) → m 193 1 = (n : Int) → (0 ≤ a ∧ a < m 193 7) → v = maxW (fun h => m1 200 (16 * h + (6 + b))) (n + 1))) := by
  refine gx_st (L' := [(2, 192), (0, a), (9, 0), (9, 0)]) (S' := [(2, 192)]) r_171_0 rfl rfl rfl ?_
  refine gx_ci (nx := 4) (S2 := []) (y_146 hT h136 hp hm hx wb wp) r_171_1 rfl rfl rfl rfl rfl (rcv_v rfl (ty_192 hT) (by decide) rfl (by decide)) rfl (by decide) rfl (fun x1 n1 q1 => ?_)
  obtain ⟨e_x1, ak, hp1, gm1, gx1, f1, fs1⟩ := q1
  have e193 : n1 193 = m 193 := funext (Fr_cell (o := 193) f1 (by decide) (by decide))
  show GX T 11 171 4 [(2, 192), (0, a), (9, 0), (9, 0)] [(0, x1)] n1 (RI (fun v m1 => AskR m m1 ∧ (¬ (0 ≤ a ∧ a < m 193 7) → v = -2) ∧ ∀ b n : Nat, a = (b : Int) → m 193 1 = (n : Int) → (0 ≤ a ∧ a < m 193 7) → v = maxW (fun h => m1 200 (16 * h + (6 + b))) (n + 1)))
  show GX T 11 171 4 [(2, 192), (0, a), (9, 0), (9, 0)] [(0, x1)] n1 (RI (fun v m1 => AskR m m1 ∧ (¬ (0 ≤ a ∧ a < m 193 7) → v = -2) ∧ ∀ b n : Nat, a = (b : Int) → m 193 1 = (n : Int) → (0 ≤ a ∧ a < m 193 7) → v = maxW (fun h => m1 200 (16 * h + (6 + b))) (n + 1)))
  refine gx_st (L' := [(2, 192), (0, a), (9, 0), (9, 0)]) (S' := []) r_171_4 rfl rfl rfl ?_
  refine gx_st (L' := [(2, 192), (0, a), (9, 0), (9, 0)]) (S' := [(2, 192)]) r_171_5 rfl rfl rfl ?_
  refine gx_st (L' := [(2, 192), (0, a), (9, 0), (9, 0)]) (S' := [(0, a), (2, 192)]) r_171_6 rfl rfl rfl ?_
  refine gx_ci (nx := 10) (S2 := []) (x_96 hT gm1 a) r_171_7 rfl rfl rfl rfl rfl (rcv_v rfl (ty_192 hT) (by decide) rfl (by decide)) rfl (by decide) rfl (fun x7 n7 q7 => ?_)
  obtain ⟨e_x7, z_x7⟩ := q7
  obtain rfl := z_x7.symm
  rw [e_x7, e193]
  have b0 := gb_193_0 hm
  have b1 := gb_193_1 hm
  have b5 := gb_193_5 hm
  have b6 := gb_193_6 hm
  have b7 := gb_193_7 hm
  show GX T 11 171 10 [(2, 192), (0, a), (9, 0), (9, 0)] [(0, (if 0 ≤ a ∧ a ≤ m 193 7 - 1 then 1 else 0))] n1 (RI (fun v m1 => AskR m m1 ∧ (¬ (0 ≤ a ∧ a < m 193 7) → v = -2) ∧ ∀ b n : Nat, a = (b : Int) → m 193 1 = (n : Int) → (0 ≤ a ∧ a < m 193 7) → v = maxW (fun h => m1 200 (16 * h + (6 + b))) (n + 1)))
  refine gx_i0 (P := 0 ≤ a ∧ a ≤ m 193 7 - 1) r_171_10 (b01_ne) (fun h10 => ?_) (fun h10 => ?_)
  · obtain ⟨bb, h_bb⟩ : ∃ i : Nat, a = (i : Int) := ⟨a.toNat, by omega⟩
    rw [h_bb]
    refine gx_st (L' := [(2, 192), (0, (bb : Int)), (9, 0), (9, 0)]) (S' := [(0, 0)]) r_171_16 rfl rfl rfl ?_
    refine gx_st (L' := [(2, 192), (0, (bb : Int)), (0, 0), (9, 0)]) (S' := []) r_171_17 rfl rfl rfl ?_
    refine gx_st (L' := [(2, 192), (0, (bb : Int)), (0, 0), (9, 0)]) (S' := [(0, 0)]) r_171_18 rfl rfl rfl ?_
    refine gx_st (L' := [(2, 192), (0, (bb : Int)), (0, 0), (0, 0)]) (S' := []) r_171_19 rfl rfl rfl ?_
    refine gx_imp (gx_d (pr_l hT hp1 (n := (m 193 1).toNat) (b := bb) (by omega) (by rw [e193]; omega) (by omega) ((m 193 1).toNat + 2) 0 (by omega) (by omega)) (by decide)) (fun v m1 ⟨x, e, q, eq⟩ => ?_)
    subst eq
    exact ⟨x, e, ak, fun z => absurd z (by omega), fun b n e1 e2 z => by rw [q, show n = (m 193 1).toNat by omega, show b = bb by omega]⟩
  · refine gx_st (L' := [(2, 192), (0, a), (9, 0), (9, 0)]) (S' := [(0, (-2))]) r_171_13 rfl rfl rfl ?_
    exact gx_rt r_171_15 rfl rfl ⟨_, rfl, ak, fun _ => rfl, fun b n e1 e2 z => (by exfalso; omega)⟩
theorem ri_l (hT : TT T) (hp : PinR m) {n r : Nat} {a pl : Int} (hn : m 4 2 = (n : Int)) (hn12 : n ≤ 12) : ∀ (N k : Nat), 13 - k < N → k ≤ 12 → r ≤ k → (∀ i : Nat, i < k → ¬ (r ≤ i ∧ (fun h => m 32 h = pl) i)) → GX T 1 33 41 [(2, 1), (0, a), (0, pl), (0, (k : Int))] [] m (RI (fun v m1 => FirstOf n (fun h => r ≤ h ∧ (fun h => m 32 h = pl) h) v ∧ m1 = m)) := by
  intro N
  induction N with
  | zero => intro k hN; exact absurd hN (Nat.not_lt_zero _)
  | succ N ih =>
    intro k hN hk hr hno
    refine gx_st (L' := [(2, 1), (0, a), (0, pl), (0, (k : Int))]) (S' := [(0, (k : Int))]) r_33_41 rfl rfl rfl ?_
    refine gx_st (L' := [(2, 1), (0, a), (0, pl), (0, (k : Int))]) (S' := [(2, 1), (0, (k : Int))]) r_33_42 rfl rfl rfl ?_
    refine gx_gf (x := 4) 2 r_33_43 (rfl) (ty_1 hT) ⟨by decide, rfl, by decide, by decide⟩ rfl (fun _ => by omega) (pin_at hp (t := 4) rfl (by decide)) ?_
    refine gx_gf (x := (n : Int)) 0 r_33_46 (rfl) (ty_4 hT) ⟨by decide, rfl, by decide, by decide⟩ rfl (fun z => absurd z (by decide)) (hn) ?_
    refine gx_ic (P := (n : Int) ≤ (k : Int)) r_33_49 (rfl) (fun h49 => ?_) (fun h49 => ?_)
    · refine gx_st (L' := [(2, 1), (0, a), (0, pl), (0, (k : Int))]) (S' := [(0, (-1))]) r_33_75 rfl rfl rfl ?_
      have hkn : n ≤ k := by omega
      exact gx_rt r_33_76 rfl rfl ⟨_, rfl, Or.inl ⟨rfl, fun i hi z => hno i (by omega) z⟩, rfl⟩
    · refine gx_st (L' := [(2, 1), (0, a), (0, pl), (0, (k : Int))]) (S' := [(2, 1)]) r_33_52 rfl rfl rfl ?_
      refine gx_gf (x := 28) 2 r_33_53 (rfl) (ty_1 hT) ⟨by decide, rfl, by decide, by decide⟩ rfl (fun _ => by omega) (pin_at hp (t := 28) rfl (by decide)) ?_
      refine gx_gf (x := 32) 2 r_33_56 (rfl) (ty_28 hT) ⟨by decide, rfl, by decide, by decide⟩ rfl (fun _ => by omega) (pin_at hp (t := 32) rfl (by decide)) ?_
      refine gx_st (L' := [(2, 1), (0, a), (0, pl), (0, (k : Int))]) (S' := [(0, (k : Int)), (2, 32)]) r_33_59 rfl rfl rfl ?_
      refine gx_ci (nx := 63) (S2 := []) (c_237 (r := 32) (n := 13) (ty_32 hT) (by decide) (by decide) (k := k) (by omega)) r_33_60 rfl rfl rfl rfl rfl rfl rfl (by decide) rfl (fun x60 n60 q60 => ?_)
      obtain rfl := q60.1.symm
      obtain rfl := q60.2.symm
      show GX T 1 33 63 [(2, 1), (0, a), (0, pl), (0, (k : Int))] [(0, (m 32 k))] m (RI (fun v m1 => FirstOf n (fun h => r ≤ h ∧ (fun h => m 32 h = pl) h) v ∧ m1 = m))
      refine gx_st (L' := [(2, 1), (0, a), (0, pl), (0, (k : Int))]) (S' := [(0, pl), (0, (m 32 k))]) r_33_63 rfl rfl rfl ?_
      refine gx_ic (P := ¬ (m 32 k) = pl) r_33_64 (rfl) (fun h64 => ?_) (fun h64 => ?_)
      · refine gx_li (z := (k : Int) + 1) (L' := [(2, 1), (0, a), (0, pl), (0, (k : Int) + 1)]) r_33_69 rfl (w32_eq (by omega) (by omega) (by omega)) rfl ?_
        refine gx_st (L' := [(2, 1), (0, a), (0, pl), (0, (k : Int) + 1)]) (S' := []) r_33_72 rfl rfl rfl ?_
        rw [show (k : Int) + 1 = ((k + 1 : Nat) : Int) from rfl]
        refine ih (k + 1) (by omega) (by omega) (by omega) (fun i hi z => ?_)
        by_cases c : i = k
        · subst c; exact h64 z.2
        · exact hno i (by omega) z
      · have h64 := Decidable.not_not.mp h64
        refine gx_st (L' := [(2, 1), (0, a), (0, pl), (0, (k : Int))]) (S' := [(0, (k : Int))]) r_33_67 rfl rfl rfl ?_
        exact gx_rt r_33_68 rfl rfl ⟨_, rfl, Or.inr ⟨k, by omega, ⟨by omega, h64⟩, rfl, hno⟩, rfl⟩
theorem rj_l (hT : TT T) (hp : PinR m) {n r b : Nat} (hb : b < 3) (hn : m 193 1 = (n : Int)) (hn12 : n ≤ 12) : ∀ (N k : Nat), 13 - k < N → k ≤ 12 → r ≤ k → (∀ i : Nat, i < k → ¬ (r ≤ i ∧ (fun h => m 200 (16 * h + 0) = m 193 (41 + 2 * b)) i)) → GX T 1 173 30 [(2, 192), (0, (b : Int)), (0, (k : Int))] [] m (RI (fun v m1 => FirstOf n (fun h => r ≤ h ∧ (fun h => m 200 (16 * h + 0) = m 193 (41 + 2 * b)) h) v ∧ m1 = m)) := by
  intro N
  induction N with
  | zero => intro k hN; exact absurd hN (Nat.not_lt_zero _)
  | succ N ih =>
    intro k hN hk hr hno
    refine gx_st (L' := [(2, 192), (0, (b : Int)), (0, (k : Int))]) (S' := [(0, (k : Int))]) r_173_30 rfl rfl rfl ?_
    refine gx_st (L' := [(2, 192), (0, (b : Int)), (0, (k : Int))]) (S' := [(2, 192), (0, (k : Int))]) r_173_31 rfl rfl rfl ?_
    refine gx_gf (x := 193) 2 r_173_32 (rfl) (ty_192 hT) ⟨by decide, rfl, by decide, by decide⟩ rfl (fun _ => by omega) (pin_at hp (t := 193) rfl (by decide)) ?_
    refine gx_st (L' := [(2, 192), (0, (b : Int)), (0, (k : Int))]) (S' := [(0, 1), (2, 193), (0, (k : Int))]) r_173_35 rfl rfl rfl ?_
    refine gx_ia (n := 1) (x := (n : Int)) r_173_36 (rfl) (ty_193 hT) (rfl) ⟨rfl, by decide⟩ (hn) ?_
    refine gx_ic (P := (n : Int) ≤ (k : Int)) r_173_37 (rfl) (fun h37 => ?_) (fun h37 => ?_)
    · refine gx_st (L' := [(2, 192), (0, (b : Int)), (0, (k : Int))]) (S' := [(0, (-1))]) r_173_62 rfl rfl rfl ?_
      have hkn : n ≤ k := by omega
      exact gx_rt r_173_63 rfl rfl ⟨_, rfl, Or.inl ⟨rfl, fun i hi z => hno i (by omega) z⟩, rfl⟩
    · refine gx_st (L' := [(2, 192), (0, (b : Int)), (0, (k : Int))]) (S' := [(2, 192)]) r_173_40 rfl rfl rfl ?_
      refine gx_st (L' := [(2, 192), (0, (b : Int)), (0, (k : Int))]) (S' := [(0, (k : Int)), (2, 192)]) r_173_41 rfl rfl rfl ?_
      refine gx_st (L' := [(2, 192), (0, (b : Int)), (0, (k : Int))]) (S' := [(0, 0), (0, (k : Int)), (2, 192)]) r_173_42 rfl rfl rfl ?_
      refine gx_ci (nx := 46) (S2 := []) (l_131 hT hp (h := k) (k := 0) (i := 16 * k + 0) rfl (by omega)) r_173_43 rfl rfl rfl rfl rfl (rcv_v rfl (ty_192 hT) (by decide) rfl (by decide)) rfl (by decide) rfl (fun x43 n43 q43 => ?_)
      obtain rfl := q43.1.symm
      obtain rfl := q43.2.symm
      show GX T 1 173 46 [(2, 192), (0, (b : Int)), (0, (k : Int))] [(0, (m 200 (16 * k + 0)))] m (RI (fun v m1 => FirstOf n (fun h => r ≤ h ∧ (fun h => m 200 (16 * h + 0) = m 193 (41 + 2 * b)) h) v ∧ m1 = m))
      refine gx_st (L' := [(2, 192), (0, (b : Int)), (0, (k : Int))]) (S' := [(2, 192), (0, (m 200 (16 * k + 0)))]) r_173_46 rfl rfl rfl ?_
      refine gx_st (L' := [(2, 192), (0, (b : Int)), (0, (k : Int))]) (S' := [(0, (b : Int)), (2, 192), (0, (m 200 (16 * k + 0)))]) r_173_47 rfl rfl rfl ?_
      refine gx_ci (nx := 51) (S2 := [(0, (m 200 (16 * k + 0)))]) (l_98 hT hp (k := b) (by omega)) r_173_48 rfl rfl rfl rfl rfl (rcv_v rfl (ty_192 hT) (by decide) rfl (by decide)) rfl (by decide) rfl (fun x48 n48 q48 => ?_)
      obtain rfl := q48.1.symm
      obtain rfl := q48.2.symm
      show GX T 1 173 51 [(2, 192), (0, (b : Int)), (0, (k : Int))] [(0, (m 193 (41 + 2 * b))), (0, (m 200 (16 * k + 0)))] m (RI (fun v m1 => FirstOf n (fun h => r ≤ h ∧ (fun h => m 200 (16 * h + 0) = m 193 (41 + 2 * b)) h) v ∧ m1 = m))
      refine gx_ic (P := ¬ (m 200 (16 * k + 0)) = (m 193 (41 + 2 * b))) r_173_51 (rfl) (fun h51 => ?_) (fun h51 => ?_)
      · refine gx_li (z := (k : Int) + 1) (L' := [(2, 192), (0, (b : Int)), (0, (k : Int) + 1)]) r_173_56 rfl (w32_eq (by omega) (by omega) (by omega)) rfl ?_
        refine gx_st (L' := [(2, 192), (0, (b : Int)), (0, (k : Int) + 1)]) (S' := []) r_173_59 rfl rfl rfl ?_
        rw [show (k : Int) + 1 = ((k + 1 : Nat) : Int) from rfl]
        refine ih (k + 1) (by omega) (by omega) (by omega) (fun i hi z => ?_)
        by_cases c : i = k
        · subst c; exact h51 z.2
        · exact hno i (by omega) z
      · have h51 := Decidable.not_not.mp h51
        refine gx_st (L' := [(2, 192), (0, (b : Int)), (0, (k : Int))]) (S' := [(0, (k : Int))]) r_173_54 rfl rfl rfl ?_
        exact gx_rt r_173_55 rfl rfl ⟨_, rfl, Or.inr ⟨k, by omega, ⟨by omega, h51⟩, rfl, hno⟩, rfl⟩
theorem z_33 (hT : TT T) (hp : PinR m) (a : Int) (h12 : 0 ≤ m 4 2 ∧ m 4 2 ≤ 12) (h3 : m 4 7 ≤ 3) (hri : ∀ b : Nat, (b : Int) < m 4 7 → 0 ≤ m 8 b ∧ m 8 b ≤ 12) : GX T 2 33 0 [(2, 1), (0, a), (9, 0), (9, 0)] [] m (RI (fun v m1 => (¬ (0 ≤ a ∧ a < m 4 7) → v = -2) ∧ ∀ b n r : Nat, a = (b : Int) → m 4 2 = (n : Int) → m 8 b = (r : Int) → (0 ≤ a ∧ a < m 4 7) → FirstOf n (fun h => r ≤ h ∧ m 32 h = m 7 b) v)) := by
  refine gx_st (L' := [(2, 1), (0, a), (9, 0), (9, 0)]) (S' := [(0, a)]) r_33_0 rfl rfl rfl ?_
  refine gx_st (L' := [(2, 1), (0, a), (9, 0), (9, 0)]) (S' := [(2, 1), (0, a)]) r_33_1 rfl rfl rfl ?_
  refine gx_gf (x := 4) 2 r_33_2 (rfl) (ty_1 hT) ⟨by decide, rfl, by decide, by decide⟩ rfl (fun _ => by omega) (pin_at hp (t := 4) rfl (by decide)) ?_
  refine gx_gf (x := (m 4 7)) 0 r_33_5 (rfl) (ty_4 hT) ⟨by decide, rfl, by decide, by decide⟩ rfl (fun z => absurd z (by decide)) (rfl) ?_
  refine gx_ci (nx := 11) (S2 := []) (x_71 a (m 4 7)) r_33_8 rfl rfl rfl rfl rfl rfl rfl (by decide) rfl (fun x8 n8 q8 => ?_)
  obtain rfl := q8.1.symm
  obtain rfl := q8.2.symm
  show GX T 2 33 11 [(2, 1), (0, a), (9, 0), (9, 0)] [(0, (if 0 ≤ a ∧ a < (m 4 7) then 1 else 0))] m (RI (fun v m1 => (¬ (0 ≤ a ∧ a < m 4 7) → v = -2) ∧ ∀ b n r : Nat, a = (b : Int) → m 4 2 = (n : Int) → m 8 b = (r : Int) → (0 ≤ a ∧ a < m 4 7) → FirstOf n (fun h => r ≤ h ∧ m 32 h = m 7 b) v))
  refine gx_i0 (P := 0 ≤ a ∧ a < (m 4 7)) r_33_11 (b01_ne) (fun h11 => ?_) (fun h11 => ?_)
  · obtain ⟨bb, h_bb⟩ : ∃ i : Nat, a = (i : Int) := ⟨a.toNat, by omega⟩
    rw [h_bb]
    refine gx_st (L' := [(2, 1), (0, (bb : Int)), (9, 0), (9, 0)]) (S' := [(2, 1)]) r_33_17 rfl rfl rfl ?_
    refine gx_gf (x := 4) 2 r_33_18 (rfl) (ty_1 hT) ⟨by decide, rfl, by decide, by decide⟩ rfl (fun _ => by omega) (pin_at hp (t := 4) rfl (by decide)) ?_
    refine gx_gf (x := 7) 2 r_33_21 (rfl) (ty_4 hT) ⟨by decide, rfl, by decide, by decide⟩ rfl (fun _ => by omega) (pin_at hp (t := 7) rfl (by decide)) ?_
    refine gx_st (L' := [(2, 1), (0, (bb : Int)), (9, 0), (9, 0)]) (S' := [(0, (bb : Int)), (2, 7)]) r_33_24 rfl rfl rfl ?_
    refine gx_ci (nx := 28) (S2 := []) (c_237 (r := 7) (n := 3) (ty_7 hT) (by decide) (by decide) (k := bb) (by omega)) r_33_25 rfl rfl rfl rfl rfl rfl rfl (by decide) rfl (fun x25 n25 q25 => ?_)
    obtain rfl := q25.1.symm
    obtain rfl := q25.2.symm
    show GX T 2 33 28 [(2, 1), (0, (bb : Int)), (9, 0), (9, 0)] [(0, (m 7 bb))] m (RI (fun v m1 => (¬ (0 ≤ (bb : Int) ∧ (bb : Int) < m 4 7) → v = -2) ∧ ∀ b n r : Nat, (bb : Int) = (b : Int) → m 4 2 = (n : Int) → m 8 b = (r : Int) → (0 ≤ (bb : Int) ∧ (bb : Int) < m 4 7) → FirstOf n (fun h => r ≤ h ∧ m 32 h = m 7 b) v))
    refine gx_st (L' := [(2, 1), (0, (bb : Int)), (0, (m 7 bb)), (9, 0)]) (S' := []) r_33_28 rfl rfl rfl ?_
    refine gx_st (L' := [(2, 1), (0, (bb : Int)), (0, (m 7 bb)), (9, 0)]) (S' := [(2, 1)]) r_33_29 rfl rfl rfl ?_
    refine gx_gf (x := 4) 2 r_33_30 (rfl) (ty_1 hT) ⟨by decide, rfl, by decide, by decide⟩ rfl (fun _ => by omega) (pin_at hp (t := 4) rfl (by decide)) ?_
    refine gx_gf (x := 8) 2 r_33_33 (rfl) (ty_4 hT) ⟨by decide, rfl, by decide, by decide⟩ rfl (fun _ => by omega) (pin_at hp (t := 8) rfl (by decide)) ?_
    refine gx_st (L' := [(2, 1), (0, (bb : Int)), (0, (m 7 bb)), (9, 0)]) (S' := [(0, (bb : Int)), (2, 8)]) r_33_36 rfl rfl rfl ?_
    refine gx_ci (nx := 40) (S2 := []) (c_237 (r := 8) (n := 3) (ty_8 hT) (by decide) (by decide) (k := bb) (by omega)) r_33_37 rfl rfl rfl rfl rfl rfl rfl (by decide) rfl (fun x37 n37 q37 => ?_)
    obtain rfl := q37.1.symm
    obtain rfl := q37.2.symm
    show GX T 2 33 40 [(2, 1), (0, (bb : Int)), (0, (m 7 bb)), (9, 0)] [(0, (m 8 bb))] m (RI (fun v m1 => (¬ (0 ≤ (bb : Int) ∧ (bb : Int) < m 4 7) → v = -2) ∧ ∀ b n r : Nat, (bb : Int) = (b : Int) → m 4 2 = (n : Int) → m 8 b = (r : Int) → (0 ≤ (bb : Int) ∧ (bb : Int) < m 4 7) → FirstOf n (fun h => r ≤ h ∧ m 32 h = m 7 b) v))
    refine gx_st (L' := [(2, 1), (0, (bb : Int)), (0, (m 7 bb)), (0, (m 8 bb))]) (S' := []) r_33_40 rfl rfl rfl ?_
    obtain ⟨r, hr⟩ : ∃ r : Nat, m 8 bb = (r : Int) := ⟨(m 8 bb).toNat, by have := hri bb (by omega); omega⟩
    have hr12 := hri bb (by omega)
    rw [hr]
    exact gx_imp (gx_d (ri_l hT hp (n := (m 4 2).toNat) (r := r) (a := (bb : Int)) (pl := m 7 bb) (by omega) (by omega) 14 r (by omega) (by omega) (by omega) (fun i hi z => by omega)) (by decide)) (fun v m1 ⟨x, e, q, _⟩ => ⟨x, e, fun z => absurd z (by omega), fun b n r2 e1 e2 e3 z => by rw [show b = bb by omega] at e3 ⊢; rw [show n = (m 4 2).toNat by omega, show r2 = r by omega]; exact q⟩)
  · refine gx_st (L' := [(2, 1), (0, a), (9, 0), (9, 0)]) (S' := [(0, (-2))]) r_33_14 rfl rfl rfl ?_
    exact gx_rt r_33_16 rfl rfl ⟨_, rfl, fun _ => rfl, fun b n r e1 e2 e3 z => (by exfalso; omega)⟩
theorem y_173 (hT : TT T) (h136 : ConH T cn_136) (hp : PinR m) (hm : Gam m) (hx : Ext m) (wb : WB (pw (m 193))) (wp : WP (pw (m 193))) (a : Int) : GX T 11 173 0 [(2, 192), (0, a), (9, 0)] [] m (RI (fun v m1 => AskR m m1 ∧ (¬ (0 ≤ a ∧ a < m 193 6) → v = -2) ∧ ∀ b n r : Nat, a = (b : Int) → m 193 1 = (n : Int) → m 193 (42 + 2 * b) = (r : Int) → (0 ≤ a ∧ a < m 193 6) → FirstOf n (fun h => r ≤ h ∧ m1 200 (16 * h + 0) = m 193 (41 + 2 * b)) v)) := by
  refine gx_st (L' := [(2, 192), (0, a), (9, 0)]) (S' := [(2, 192)]) r_173_0 rfl rfl rfl ?_
  refine gx_ci (nx := 4) (S2 := []) (y_146 hT h136 hp hm hx wb wp) r_173_1 rfl rfl rfl rfl rfl (rcv_v rfl (ty_192 hT) (by decide) rfl (by decide)) rfl (by decide) rfl (fun x1 n1 q1 => ?_)
  obtain ⟨e_x1, ak, hp1, gm1, gx1, f1, fs1⟩ := q1
  have e193 : n1 193 = m 193 := funext (Fr_cell (o := 193) f1 (by decide) (by decide))
  show GX T 11 173 4 [(2, 192), (0, a), (9, 0)] [(0, x1)] n1 (RI (fun v m1 => AskR m m1 ∧ (¬ (0 ≤ a ∧ a < m 193 6) → v = -2) ∧ ∀ b n r : Nat, a = (b : Int) → m 193 1 = (n : Int) → m 193 (42 + 2 * b) = (r : Int) → (0 ≤ a ∧ a < m 193 6) → FirstOf n (fun h => r ≤ h ∧ m1 200 (16 * h + 0) = m 193 (41 + 2 * b)) v))
  show GX T 11 173 4 [(2, 192), (0, a), (9, 0)] [(0, x1)] n1 (RI (fun v m1 => AskR m m1 ∧ (¬ (0 ≤ a ∧ a < m 193 6) → v = -2) ∧ ∀ b n r : Nat, a = (b : Int) → m 193 1 = (n : Int) → m 193 (42 + 2 * b) = (r : Int) → (0 ≤ a ∧ a < m 193 6) → FirstOf n (fun h => r ≤ h ∧ m1 200 (16 * h + 0) = m 193 (41 + 2 * b)) v))
  refine gx_st (L' := [(2, 192), (0, a), (9, 0)]) (S' := []) r_173_4 rfl rfl rfl ?_
  refine gx_st (L' := [(2, 192), (0, a), (9, 0)]) (S' := [(2, 192)]) r_173_5 rfl rfl rfl ?_
  refine gx_st (L' := [(2, 192), (0, a), (9, 0)]) (S' := [(0, a), (2, 192)]) r_173_6 rfl rfl rfl ?_
  refine gx_ci (nx := 10) (S2 := []) (x_95 hT gm1 a) r_173_7 rfl rfl rfl rfl rfl (rcv_v rfl (ty_192 hT) (by decide) rfl (by decide)) rfl (by decide) rfl (fun x7 n7 q7 => ?_)
  obtain ⟨e_x7, z_x7⟩ := q7
  obtain rfl := z_x7.symm
  rw [e_x7, e193]
  have b0 := gb_193_0 hm
  have b1 := gb_193_1 hm
  have b5 := gb_193_5 hm
  have b6 := gb_193_6 hm
  have b7 := gb_193_7 hm
  show GX T 11 173 10 [(2, 192), (0, a), (9, 0)] [(0, (if 0 ≤ a ∧ a ≤ m 193 6 - 1 then 1 else 0))] n1 (RI (fun v m1 => AskR m m1 ∧ (¬ (0 ≤ a ∧ a < m 193 6) → v = -2) ∧ ∀ b n r : Nat, a = (b : Int) → m 193 1 = (n : Int) → m 193 (42 + 2 * b) = (r : Int) → (0 ≤ a ∧ a < m 193 6) → FirstOf n (fun h => r ≤ h ∧ m1 200 (16 * h + 0) = m 193 (41 + 2 * b)) v))
  refine gx_i0 (P := 0 ≤ a ∧ a ≤ m 193 6 - 1) r_173_10 (b01_ne) (fun h10 => ?_) (fun h10 => ?_)
  · obtain ⟨bb, h_bb⟩ : ∃ i : Nat, a = (i : Int) := ⟨a.toNat, by omega⟩
    rw [h_bb]
    refine gx_st (L' := [(2, 192), (0, (bb : Int)), (9, 0)]) (S' := [(2, 192)]) r_173_16 rfl rfl rfl ?_
    refine gx_gf (x := 193) 2 r_173_17 (rfl) (ty_192 hT) ⟨by decide, rfl, by decide, by decide⟩ rfl (fun _ => by omega) (pin_at hp1 (t := 193) rfl (by decide)) ?_
    refine gx_st (L' := [(2, 192), (0, (bb : Int)), (9, 0)]) (S' := [(0, 41), (2, 193)]) r_173_20 rfl rfl rfl ?_
    refine gx_st (L' := [(2, 192), (0, (bb : Int)), (9, 0)]) (S' := [(0, 2), (0, 41), (2, 193)]) r_173_22 rfl rfl rfl ?_
    refine gx_st (L' := [(2, 192), (0, (bb : Int)), (9, 0)]) (S' := [(0, (bb : Int)), (0, 2), (0, 41), (2, 193)]) r_173_23 rfl rfl rfl ?_
    refine gx_ar (L' := [(2, 192), (0, (bb : Int)), (9, 0)]) (S' := [(0, 41), (2, 193)]) (t := 0) (e := w32 (2 * (bb : Int))) (z := 2 * (bb : Int)) r_173_24 rfl rfl rfl (w32_eq (by omega) (by omega) (by omega)) ?_
    refine gx_ar (L' := [(2, 192), (0, (bb : Int)), (9, 0)]) (S' := [(2, 193)]) (t := 0) (e := w32 (41 + (2 * (bb : Int)))) (z := 2 * (bb : Int) + 41) r_173_25 rfl rfl rfl (w32_eq (by omega) (by omega) (by omega)) ?_
    refine gx_st (L' := [(2, 192), (0, (bb : Int)), (9, 0)]) (S' := [(0, 1), (0, 2 * (bb : Int) + 41), (2, 193)]) r_173_26 rfl rfl rfl ?_
    refine gx_ar (L' := [(2, 192), (0, (bb : Int)), (9, 0)]) (S' := [(2, 193)]) (t := 0) (e := w32 ((2 * (bb : Int) + 41) + 1)) (z := 2 * (bb : Int) + 42) r_173_27 rfl rfl rfl (w32_eq (by omega) (by omega) (by omega)) ?_
    refine gx_ia (n := 2 * bb + 42) (x := (m 193 (42 + 2 * bb))) r_173_28 (rfl) (ty_193 hT) (by omega) ⟨rfl, by omega⟩ (((congrFun e193 _).trans (congrArg (m 193) (by omega)))) ?_
    refine gx_st (L' := [(2, 192), (0, (bb : Int)), (0, (m 193 (42 + 2 * bb)))]) (S' := []) r_173_29 rfl rfl rfl ?_
    have hr12 := gb_193_vr hm (k := bb) (by omega)
    obtain ⟨r, hr⟩ : ∃ r : Nat, m 193 (42 + 2 * bb) = (r : Int) := ⟨(m 193 (42 + 2 * bb)).toNat, by omega⟩
    rw [hr]
    refine gx_imp (gx_d (rj_l hT hp1 (n := (m 193 1).toNat) (r := r) (b := bb) (by omega) (by rw [e193]; omega) (by omega) 14 r (by omega) (by omega) (by omega) (fun i hi z => by omega)) (by decide)) (fun v m1 ⟨x, e, q, eq⟩ => ?_)
    subst eq
    rw [e193] at q
    exact ⟨x, e, ak, fun z => absurd z (by omega), fun b n r2 e1 e2 e3 z => by rw [show b = bb by omega] at e3 ⊢; rw [show n = (m 193 1).toNat by omega, show r2 = r by omega]; exact q⟩
  · refine gx_st (L' := [(2, 192), (0, a), (9, 0)]) (S' := [(0, (-2))]) r_173_13 rfl rfl rfl ?_
    exact gx_rt r_173_15 rfl rfl ⟨_, rfl, ak, fun _ => rfl, fun b n r e1 e2 e3 z => (by exfalso; omega)⟩
end STAYS
theorem wa_rip {m : Mm} (hm : Gam m) (r : WX m) : ∀ b : Nat, (b : Int) < m 4 7 → 0 ≤ m 8 b ∧ m 8 b ≤ 12 := by
  intro b hb
  have b6 := gb_193_6 hm
  have e4 : m 4 7 = m 193 6 := r.1.1.2.2.2.2.2.2.2.1
  have z := (r.1.1.2.2.2.2.2.2.2.2.2.2.2.1 b (by omega) (by omega)).2
  rw [z]
  exact gb_193_vr hm (k := b) (by omega)
theorem q_19 {m m1 m2 : Mm} {a v1 v2 : Int} (hm : Gam m) (hx : Ext m) (r : WX m) (sx : StoryX m) (z : ZX m) (e : m1 193 = m 193) (h1 : (¬ (0 ≤ a ∧ a < m 4 2) → v1 = -2) ∧ ∀ h : Nat, a = (h : Int) → (0 ≤ a ∧ a < m 4 2) → v1 = m 37 h) (h2 : AskR m1 m2 ∧ (¬ (0 ≤ a ∧ a < m1 193 1) → v2 = -2) ∧ ∀ h : Nat, a = (h : Int) → (0 ≤ a ∧ a < m1 193 1) → v2 = m2 201 h) : v1 = v2 := by
  have e42 : m 4 2 = m 193 1 := r.1.1.2.2.1
  obtain ⟨k, g1, g2⟩ := h2
  rw [e] at g1 g2
  by_cases c : 0 ≤ a ∧ a < m 4 2
  · obtain ⟨h, hh⟩ : ∃ i : Nat, a = (i : Int) := ⟨a.toNat, by omega⟩
    rw [h1.2 h hh c, g2 h hh (by omega)]
    obtain ⟨D, A, n, n1, n2, n3, d1, a1, a2, s, p⟩ := ask_two hm hx r sx e k (zx_told r z (by omega))
    exact ((s.1.2.1 h (by omega)).1).trans (p.2.1 h (by omega)).symm
  · rw [h1.1 c, g1 (by omega)]
theorem q_24 {m m1 m2 : Mm} {a v1 v2 : Int} (hm : Gam m) (hx : Ext m) (r : WX m) (sx : StoryX m) (z : ZX m) (e : m1 193 = m 193) (h1 : (¬ (0 ≤ a ∧ a < m 4 8) → v1 = -2) ∧ ∀ h : Nat, a = (h : Int) → (0 ≤ a ∧ a < m 4 8) → v1 = m 40 h) (h2 : AskR m1 m2 ∧ (¬ (0 ≤ a ∧ a < m1 193 7) → v2 = -2) ∧ ∀ h : Nat, a = (h : Int) → (0 ≤ a ∧ a < m1 193 7) → v2 = m2 204 h) : v1 = v2 := by
  have e48 : m 4 8 = m 193 7 := r.1.1.2.2.2.2.2.2.2.2.1
  have b7 := gb_193_7 hm
  obtain ⟨k, g1, g2⟩ := h2
  rw [e] at g1 g2
  by_cases c : 0 ≤ a ∧ a < m 4 8
  · obtain ⟨h, hh⟩ : ∃ i : Nat, a = (i : Int) := ⟨a.toNat, by omega⟩
    rw [h1.2 h hh c, g2 h hh (by omega)]
    obtain ⟨D, A, n, n1, n2, n3, d1, a1, a2, s, p⟩ := ask_two hm hx r sx e k (zx_told r z (by omega))
    exact (s.1.2.2.1 h (by omega)).trans (p.2.2.2.2 h (by omega)).symm
  · rw [h1.1 c, g1 (by omega)]
theorem q_29 {m m1 m2 : Mm} {a v1 v2 : Int} (hm : Gam m) (hx : Ext m) (r : WX m) (sx : StoryX m) (z : ZX m) (e : m1 193 = m 193) (h1 : (¬ (0 ≤ a ∧ a < m 4 1) → v1 = -2) ∧ ∀ n : Nat, m 4 2 = (n : Int) → (0 ≤ a ∧ a < m 4 1) → v1 = bitsW (fun h => decide (m 32 h = a)) (n + 1)) (h2 : AskR m1 m2 ∧ (¬ (0 ≤ a ∧ a < m1 193 0) → v2 = -2) ∧ ∀ n : Nat, m1 193 1 = (n : Int) → (0 ≤ a ∧ a < m1 193 0) → v2 = bitsW (fun h => decide (m2 200 (16 * h + 0) = a)) (n + 1)) : v1 = v2 := by
  have e41 : m 4 1 = m 193 0 := r.1.1.2.1
  obtain ⟨k, g1, g2⟩ := h2
  rw [e] at g1 g2
  by_cases c : 0 ≤ a ∧ a < m 4 1
  · obtain ⟨D, A, n, n1, n2, n3, d1, a1, a2, s, p⟩ := ask_two hm hx r sx e k (zx_told r z (by omega))
    rw [h1.2 n n3 c, g2 n n2 (by omega)]
    refine bitsW_c (n + 1) (fun h hh => ?_)
    have y := (s.1.1 h (by omega)).1.trans ((p.1 h (by omega)).1.1 0 (by decide) (by decide)).symm
    show decide (m 32 h = a) = decide (m2 200 (16 * h + 0) = a)
    rw [show m 32 h = m2 200 (16 * h + 0) from y]
  · rw [h1.1 c, g1 (by omega)]
theorem q_31 {m m1 m2 : Mm} {a v1 v2 : Int} (hm : Gam m) (hx : Ext m) (r : WX m) (sx : StoryX m) (z : ZX m) (e : m1 193 = m 193) (h1 : (¬ (0 ≤ a ∧ a < m 4 8) → v1 = -2) ∧ ∀ b n : Nat, a = (b : Int) → m 4 2 = (n : Int) → (0 ≤ a ∧ a < m 4 8) → v1 = maxW (fun h => m 35 (5 * h + b)) (n + 1)) (h2 : AskR m1 m2 ∧ (¬ (0 ≤ a ∧ a < m1 193 7) → v2 = -2) ∧ ∀ b n : Nat, a = (b : Int) → m1 193 1 = (n : Int) → (0 ≤ a ∧ a < m1 193 7) → v2 = maxW (fun h => m2 200 (16 * h + (6 + b))) (n + 1)) : v1 = v2 := by
  have e48 : m 4 8 = m 193 7 := r.1.1.2.2.2.2.2.2.2.2.1
  have b7 := gb_193_7 hm
  obtain ⟨k, g1, g2⟩ := h2
  rw [e] at g1 g2
  by_cases c : 0 ≤ a ∧ a < m 4 8
  · obtain ⟨b, hb⟩ : ∃ i : Nat, a = (i : Int) := ⟨a.toNat, by omega⟩
    obtain ⟨D, A, n, n1, n2, n3, d1, a1, a2, s, p⟩ := ask_two hm hx r sx e k (zx_told r z (by omega))
    rw [h1.2 b n hb n3 c, g2 b n hb n2 (by omega)]
    exact maxW_c (n + 1) (fun h hh => ((s.1.1 h (by omega)).2.2.2.1 b (by omega)).trans ((p.1 h (by omega)).1.2.1 b (by omega)).symm)
  · rw [h1.1 c, g1 (by omega)]
theorem q_33 {m m1 m2 : Mm} {a v1 v2 : Int} (hm : Gam m) (hx : Ext m) (r : WX m) (sx : StoryX m) (z : ZX m) (e : m1 193 = m 193) (h1 : (¬ (0 ≤ a ∧ a < m 4 7) → v1 = -2) ∧ ∀ b n r : Nat, a = (b : Int) → m 4 2 = (n : Int) → m 8 b = (r : Int) → (0 ≤ a ∧ a < m 4 7) → FirstOf n (fun h => r ≤ h ∧ m 32 h = m 7 b) v1) (h2 : AskR m1 m2 ∧ (¬ (0 ≤ a ∧ a < m1 193 6) → v2 = -2) ∧ ∀ b n r : Nat, a = (b : Int) → m1 193 1 = (n : Int) → m1 193 (42 + 2 * b) = (r : Int) → (0 ≤ a ∧ a < m1 193 6) → FirstOf n (fun h => r ≤ h ∧ m2 200 (16 * h + 0) = m1 193 (41 + 2 * b)) v2) : v1 = v2 := by
  have e47 : m 4 7 = m 193 6 := r.1.1.2.2.2.2.2.2.2.1
  have b6 := gb_193_6 hm
  obtain ⟨k, g1, g2⟩ := h2
  rw [e] at g1 g2
  by_cases c : 0 ≤ a ∧ a < m 4 7
  · obtain ⟨b, hb⟩ : ∃ i : Nat, a = (i : Int) := ⟨a.toNat, by omega⟩
    obtain ⟨D, A, n, n1, n2, n3, d1, a1, a2, s, p⟩ := ask_two hm hx r sx e k (zx_told r z (by omega))
    have y := r.1.1.2.2.2.2.2.2.2.2.2.2.2.1 b (by omega) (by omega)
    have y1 : m 7 b = m 193 (41 + 2 * b) := y.1
    have y2 : m 8 b = m 193 (42 + 2 * b) := y.2
    have yr := wa_rip hm r b (by omega)
    obtain ⟨q, hq⟩ : ∃ i : Nat, m 8 b = (i : Int) := ⟨(m 8 b).toNat, by omega⟩
    refine FirstOf_eq (h1.2 b n q hb n3 hq c) (g2 b n q hb n2 (by rw [← y2]; exact hq) (by omega)) (fun h hh => ?_)
    have x := (s.1.1 h (by omega)).1.trans ((p.1 h (by omega)).1.1 0 (by decide) (by decide)).symm
    show (q ≤ h ∧ m 32 h = m 7 b) ↔ (q ≤ h ∧ m2 200 (16 * h + 0) = m 193 (41 + 2 * b))
    rw [← y1, show m 32 h = m2 200 (16 * h + 0) from x]
  · rw [h1.1 c, g1 (by omega)]
