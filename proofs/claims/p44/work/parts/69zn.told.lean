/-! answers out of the story -/
theorem r_14_0 : row 14 0 = some (.aload_n 0, 1, 0, 0, 0, 0) := rfl
theorem r_14_1 : row 14 1 = some (.iload_n 1, 2, 0, 0, 0, 0) := rfl
theorem r_14_2 : row 14 2 = some (.invokevirtual 190, 5, 74, 1, 0, 4075) := rfl
theorem r_14_5 : row 14 5 = some (.ifCond .eq 17, 8, 22, 0, 0, 0) := rfl
theorem r_14_8 : row 14 8 = some (.aload_n 0, 9, 0, 0, 0, 0) := rfl
theorem r_14_9 : row 14 9 = some (.getfield 39, 12, 9, 5, 2, 2163) := rfl
theorem r_14_12 : row 14 12 = some (.getfield 193, 15, 7, 1, 12, 2005) := rfl
theorem r_14_15 : row 14 15 = some (.iload_n 1, 16, 0, 0, 0, 0) := rfl
theorem r_14_16 : row 14 16 = some (.invokestatic 134, 19, 237, 2, 10, 4023) := rfl
theorem r_14_19 : row 14 19 = some (.goto 5, 22, 24, 0, 0, 0) := rfl
theorem r_14_22 : row 14 22 = some (.bipush (-2), 24, (-2), 0, 0, 0) := rfl
theorem r_14_24 : row 14 24 = some (.ireturn, 25, 0, 0, 0, 0) := rfl
theorem r_15_0 : row 15 0 = some (.aload_n 0, 1, 0, 0, 0, 0) := rfl
theorem r_15_1 : row 15 1 = some (.iload_n 1, 2, 0, 0, 0, 0) := rfl
theorem r_15_2 : row 15 2 = some (.invokevirtual 190, 5, 74, 1, 0, 4075) := rfl
theorem r_15_5 : row 15 5 = some (.ifCond .eq 17, 8, 22, 0, 0, 0) := rfl
theorem r_15_8 : row 15 8 = some (.aload_n 0, 9, 0, 0, 0, 0) := rfl
theorem r_15_9 : row 15 9 = some (.getfield 39, 12, 9, 5, 2, 2163) := rfl
theorem r_15_12 : row 15 12 = some (.getfield 196, 15, 7, 2, 12, 2007) := rfl
theorem r_15_15 : row 15 15 = some (.iload_n 1, 16, 0, 0, 0, 0) := rfl
theorem r_15_16 : row 15 16 = some (.invokestatic 134, 19, 237, 2, 10, 4023) := rfl
theorem r_15_19 : row 15 19 = some (.goto 5, 22, 24, 0, 0, 0) := rfl
theorem r_15_22 : row 15 22 = some (.bipush (-2), 24, (-2), 0, 0, 0) := rfl
theorem r_15_24 : row 15 24 = some (.ireturn, 25, 0, 0, 0, 0) := rfl
theorem r_16_0 : row 16 0 = some (.aload_n 0, 1, 0, 0, 0, 0) := rfl
theorem r_16_1 : row 16 1 = some (.iload_n 1, 2, 0, 0, 0, 0) := rfl
theorem r_16_2 : row 16 2 = some (.invokevirtual 190, 5, 74, 1, 0, 4075) := rfl
theorem r_16_5 : row 16 5 = some (.ifCond .eq 17, 8, 22, 0, 0, 0) := rfl
theorem r_16_8 : row 16 8 = some (.aload_n 0, 9, 0, 0, 0, 0) := rfl
theorem r_16_9 : row 16 9 = some (.getfield 39, 12, 9, 5, 2, 2163) := rfl
theorem r_16_12 : row 16 12 = some (.getfield 198, 15, 7, 3, 12, 2009) := rfl
theorem r_16_15 : row 16 15 = some (.iload_n 1, 16, 0, 0, 0, 0) := rfl
theorem r_16_16 : row 16 16 = some (.invokestatic 134, 19, 237, 2, 10, 4023) := rfl
theorem r_16_19 : row 16 19 = some (.goto 5, 22, 24, 0, 0, 0) := rfl
theorem r_16_22 : row 16 22 = some (.bipush (-2), 24, (-2), 0, 0, 0) := rfl
theorem r_16_24 : row 16 24 = some (.ireturn, 25, 0, 0, 0, 0) := rfl
theorem r_17_0 : row 17 0 = some (.iload_n 1, 1, 0, 0, 0, 0) := rfl
theorem r_17_1 : row 17 1 = some (.aload_n 0, 2, 0, 0, 0, 0) := rfl
theorem r_17_2 : row 17 2 = some (.getfield 19, 5, 9, 1, 2, 2159) := rfl
theorem r_17_5 : row 17 5 = some (.getfield 152, 8, 3, 8, 10, 1101) := rfl
theorem r_17_8 : row 17 8 = some (.invokestatic 126, 11, 71, 2, 0, 4020) := rfl
theorem r_17_11 : row 17 11 = some (.ifCond .eq 11, 14, 22, 0, 0, 0) := rfl
theorem r_17_14 : row 17 14 = some (.aload_n 0, 15, 0, 0, 0, 0) := rfl
theorem r_17_15 : row 17 15 = some (.iload_n 2, 16, 0, 0, 0, 0) := rfl
theorem r_17_16 : row 17 16 = some (.invokevirtual 190, 19, 74, 1, 0, 4075) := rfl
theorem r_17_19 : row 17 19 = some (.ifCond .ne 6, 22, 25, 0, 0, 0) := rfl
theorem r_17_22 : row 17 22 = some (.bipush (-2), 24, (-2), 0, 0, 0) := rfl
theorem r_17_24 : row 17 24 = some (.ireturn, 25, 0, 0, 0, 0) := rfl
theorem r_17_25 : row 17 25 = some (.aload_n 0, 26, 0, 0, 0, 0) := rfl
theorem r_17_26 : row 17 26 = some (.getfield 39, 29, 9, 5, 2, 2163) := rfl
theorem r_17_29 : row 17 29 = some (.iload_n 1, 30, 0, 0, 0, 0) := rfl
theorem r_17_30 : row 17 30 = some (.iload_n 2, 31, 0, 0, 0, 0) := rfl
theorem r_17_31 : row 17 31 = some (.invokevirtual 201, 34, 291, 2, 10, 4091) := rfl
theorem r_17_34 : row 17 34 = some (.ireturn, 35, 0, 0, 0, 0) := rfl
theorem r_18_0 : row 18 0 = some (.iload_n 1, 1, 0, 0, 0, 0) := rfl
theorem r_18_1 : row 18 1 = some (.aload_n 0, 2, 0, 0, 0, 0) := rfl
theorem r_18_2 : row 18 2 = some (.getfield 19, 5, 9, 1, 2, 2159) := rfl
theorem r_18_5 : row 18 5 = some (.getfield 123, 8, 3, 6, 10, 1093) := rfl
theorem r_18_8 : row 18 8 = some (.invokestatic 126, 11, 71, 2, 0, 4020) := rfl
theorem r_18_11 : row 18 11 = some (.ifCond .eq 11, 14, 22, 0, 0, 0) := rfl
theorem r_18_14 : row 18 14 = some (.aload_n 0, 15, 0, 0, 0, 0) := rfl
theorem r_18_15 : row 18 15 = some (.iload_n 2, 16, 0, 0, 0, 0) := rfl
theorem r_18_16 : row 18 16 = some (.invokevirtual 190, 19, 74, 1, 0, 4075) := rfl
theorem r_18_19 : row 18 19 = some (.ifCond .ne 6, 22, 25, 0, 0, 0) := rfl
theorem r_18_22 : row 18 22 = some (.bipush (-2), 24, (-2), 0, 0, 0) := rfl
theorem r_18_24 : row 18 24 = some (.ireturn, 25, 0, 0, 0, 0) := rfl
theorem r_18_25 : row 18 25 = some (.aload_n 0, 26, 0, 0, 0, 0) := rfl
theorem r_18_26 : row 18 26 = some (.getfield 39, 29, 9, 5, 2, 2163) := rfl
theorem r_18_29 : row 18 29 = some (.iload_n 1, 30, 0, 0, 0, 0) := rfl
theorem r_18_30 : row 18 30 = some (.iload_n 2, 31, 0, 0, 0, 0) := rfl
theorem r_18_31 : row 18 31 = some (.invokevirtual 204, 34, 292, 2, 10, 4099) := rfl
theorem r_18_34 : row 18 34 = some (.ireturn, 35, 0, 0, 0, 0) := rfl
theorem r_21_0 : row 21 0 = some (.aload_n 0, 1, 0, 0, 0, 0) := rfl
theorem r_21_1 : row 21 1 = some (.getfield 19, 4, 9, 1, 2, 2159) := rfl
theorem r_21_4 : row 21 4 = some (.invokevirtual 162, 7, 252, 0, 10, 4036) := rfl
theorem r_21_7 : row 21 7 = some (.ifCond .eq 13, 10, 20, 0, 0, 0) := rfl
theorem r_21_10 : row 21 10 = some (.aload_n 0, 11, 0, 0, 0, 0) := rfl
theorem r_21_11 : row 21 11 = some (.getfield 39, 14, 9, 5, 2, 2163) := rfl
theorem r_21_14 : row 21 14 = some (.getfield 216, 17, 7, 11, 10, 2025) := rfl
theorem r_21_17 : row 21 17 = some (.goto 5, 20, 22, 0, 0, 0) := rfl
theorem r_21_20 : row 21 20 = some (.bipush (-2), 22, (-2), 0, 0, 0) := rfl
theorem r_21_22 : row 21 22 = some (.ireturn, 23, 0, 0, 0, 0) := rfl
theorem r_22_0 : row 22 0 = some (.aload_n 0, 1, 0, 0, 0, 0) := rfl
theorem r_22_1 : row 22 1 = some (.getfield 19, 4, 9, 1, 2, 2159) := rfl
theorem r_22_4 : row 22 4 = some (.invokevirtual 162, 7, 252, 0, 10, 4036) := rfl
theorem r_22_7 : row 22 7 = some (.ifCond .eq 13, 10, 20, 0, 0, 0) := rfl
theorem r_22_10 : row 22 10 = some (.aload_n 0, 11, 0, 0, 0, 0) := rfl
theorem r_22_11 : row 22 11 = some (.getfield 39, 14, 9, 5, 2, 2163) := rfl
theorem r_22_14 : row 22 14 = some (.getfield 219, 17, 7, 12, 10, 2027) := rfl
theorem r_22_17 : row 22 17 = some (.goto 5, 20, 22, 0, 0, 0) := rfl
theorem r_22_20 : row 22 20 = some (.bipush (-2), 22, (-2), 0, 0, 0) := rfl
theorem r_22_22 : row 22 22 = some (.ireturn, 23, 0, 0, 0, 0) := rfl
theorem r_23_0 : row 23 0 = some (.aload_n 0, 1, 0, 0, 0, 0) := rfl
theorem r_23_1 : row 23 1 = some (.getfield 19, 4, 9, 1, 2, 2159) := rfl
theorem r_23_4 : row 23 4 = some (.invokevirtual 162, 7, 252, 0, 10, 4036) := rfl
theorem r_23_7 : row 23 7 = some (.ifCond .eq 13, 10, 20, 0, 0, 0) := rfl
theorem r_23_10 : row 23 10 = some (.aload_n 0, 11, 0, 0, 0, 0) := rfl
theorem r_23_11 : row 23 11 = some (.getfield 39, 14, 9, 5, 2, 2163) := rfl
theorem r_23_14 : row 23 14 = some (.getfield 222, 17, 7, 10, 10, 2022) := rfl
theorem r_23_17 : row 23 17 = some (.goto 5, 20, 22, 0, 0, 0) := rfl
theorem r_23_20 : row 23 20 = some (.bipush (-2), 22, (-2), 0, 0, 0) := rfl
theorem r_23_22 : row 23 22 = some (.ireturn, 23, 0, 0, 0, 0) := rfl
theorem r_25_0 : row 25 0 = some (.aload_n 0, 1, 0, 0, 0, 0) := rfl
theorem r_25_1 : row 25 1 = some (.getfield 19, 4, 9, 1, 2, 2159) := rfl
theorem r_25_4 : row 25 4 = some (.invokevirtual 162, 7, 252, 0, 10, 4036) := rfl
theorem r_25_7 : row 25 7 = some (.ifCond .eq 13, 10, 20, 0, 0, 0) := rfl
theorem r_25_10 : row 25 10 = some (.aload_n 0, 11, 0, 0, 0, 0) := rfl
theorem r_25_11 : row 25 11 = some (.getfield 39, 14, 9, 5, 2, 2163) := rfl
theorem r_25_14 : row 25 14 = some (.getfield 228, 17, 7, 13, 10, 2029) := rfl
theorem r_25_17 : row 25 17 = some (.goto 5, 20, 22, 0, 0, 0) := rfl
theorem r_25_20 : row 25 20 = some (.bipush (-2), 22, (-2), 0, 0, 0) := rfl
theorem r_25_22 : row 25 22 = some (.ireturn, 23, 0, 0, 0, 0) := rfl
theorem r_74_0 : row 74 0 = some (.aload_n 0, 1, 0, 0, 0, 0) := rfl
theorem r_74_1 : row 74 1 = some (.getfield 19, 4, 9, 1, 2, 2159) := rfl
theorem r_74_4 : row 74 4 = some (.invokevirtual 162, 7, 252, 0, 10, 4036) := rfl
theorem r_74_7 : row 74 7 = some (.ifCond .eq 22, 10, 29, 0, 0, 0) := rfl
theorem r_74_10 : row 74 10 = some (.iload_n 1, 11, 0, 0, 0, 0) := rfl
theorem r_74_11 : row 74 11 = some (.ifCond .lt 18, 14, 29, 0, 0, 0) := rfl
theorem r_74_14 : row 74 14 = some (.iload_n 1, 15, 0, 0, 0, 0) := rfl
theorem r_74_15 : row 74 15 = some (.aload_n 0, 16, 0, 0, 0, 0) := rfl
theorem r_74_16 : row 74 16 = some (.getfield 19, 19, 9, 1, 2, 2159) := rfl
theorem r_74_19 : row 74 19 = some (.getfield 237, 22, 3, 2, 10, 1079) := rfl
theorem r_74_22 : row 74 22 = some (.if_icmp .gt 7, 25, 29, 0, 0, 0) := rfl
theorem r_74_25 : row 74 25 = some (.iconst 1, 26, 1, 0, 0, 0) := rfl
theorem r_74_26 : row 74 26 = some (.goto 4, 29, 30, 0, 0, 0) := rfl
theorem r_74_29 : row 74 29 = some (.iconst 0, 30, 0, 0, 0, 0) := rfl
theorem r_74_30 : row 74 30 = some (.ireturn, 31, 0, 0, 0, 0) := rfl
theorem r_93_0 : row 93 0 = some (.aload_n 0, 1, 0, 0, 0, 0) := rfl
theorem r_93_1 : row 93 1 = some (.invokevirtual 86, 4, 90, 0, 0, 7025) := rfl
theorem r_93_4 : row 93 4 = some (.ifCond .eq 23, 7, 27, 0, 0, 0) := rfl
theorem r_93_7 : row 93 7 = some (.iload_n 1, 8, 0, 0, 0, 0) := rfl
theorem r_93_8 : row 93 8 = some (.i2l, 9, 0, 0, 0, 0) := rfl
theorem r_93_9 : row 93 9 = some (.lconst 0, 10, 0, 0, 0, 0) := rfl
theorem r_93_10 : row 93 10 = some (.aload_n 0, 11, 0, 0, 0, 0) := rfl
theorem r_93_11 : row 93 11 = some (.getfield 9, 14, 10, 1, 2, 6002) := rfl
theorem r_93_14 : row 93 14 = some (.iconst 1, 15, 1, 0, 0, 0) := rfl
theorem r_93_15 : row 93 15 = some (.iaload, 16, 0, 0, 0, 0) := rfl
theorem r_93_16 : row 93 16 = some (.i2l, 17, 0, 0, 0, 0) := rfl
theorem r_93_17 : row 93 17 = some (.invokestatic 82, 20, 86, 3, 0, 6131) := rfl
theorem r_93_20 : row 93 20 = some (.ifCond .eq 7, 23, 27, 0, 0, 0) := rfl
theorem r_93_23 : row 93 23 = some (.iconst 1, 24, 1, 0, 0, 0) := rfl
theorem r_93_24 : row 93 24 = some (.goto 4, 27, 28, 0, 0, 0) := rfl
theorem r_93_27 : row 93 27 = some (.iconst 0, 28, 0, 0, 0, 0) := rfl
theorem r_93_28 : row 93 28 = some (.ireturn, 29, 0, 0, 0, 0) := rfl
theorem r_147_0 : row 147 0 = some (.aload_n 0, 1, 0, 0, 0, 0) := rfl
theorem r_147_1 : row 147 1 = some (.invokevirtual 330, 4, 146, 0, 0, 7078) := rfl
theorem r_147_4 : row 147 4 = some (.ifCond .eq 15, 7, 19, 0, 0, 0) := rfl
theorem r_147_7 : row 147 7 = some (.aload_n 0, 8, 0, 0, 0, 0) := rfl
theorem r_147_8 : row 147 8 = some (.iload_n 1, 9, 0, 0, 0, 0) := rfl
theorem r_147_9 : row 147 9 = some (.invokevirtual 333, 12, 93, 1, 0, 7158) := rfl
theorem r_147_12 : row 147 12 = some (.ifCond .eq 7, 15, 19, 0, 0, 0) := rfl
theorem r_147_15 : row 147 15 = some (.iconst 1, 16, 1, 0, 0, 0) := rfl
theorem r_147_16 : row 147 16 = some (.goto 4, 19, 20, 0, 0, 0) := rfl
theorem r_147_19 : row 147 19 = some (.iconst 0, 20, 0, 0, 0, 0) := rfl
theorem r_147_20 : row 147 20 = some (.ireturn, 21, 0, 0, 0, 0) := rfl
theorem r_149_0 : row 149 0 = some (.aload_n 0, 1, 0, 0, 0, 0) := rfl
theorem r_149_1 : row 149 1 = some (.iload_n 1, 2, 0, 0, 0, 0) := rfl
theorem r_149_2 : row 149 2 = some (.invokevirtual 336, 5, 147, 1, 0, 7154) := rfl
theorem r_149_5 : row 149 5 = some (.ifCond .eq 12, 8, 17, 0, 0, 0) := rfl
theorem r_149_8 : row 149 8 = some (.aload_n 0, 9, 0, 0, 0, 0) := rfl
theorem r_149_9 : row 149 9 = some (.iload_n 1, 10, 0, 0, 0, 0) := rfl
theorem r_149_10 : row 149 10 = some (.iconst 0, 11, 0, 0, 0, 0) := rfl
theorem r_149_11 : row 149 11 = some (.invokevirtual 263, 14, 131, 2, 0, 7110) := rfl
theorem r_149_14 : row 149 14 = some (.goto 5, 17, 19, 0, 0, 0) := rfl
theorem r_149_17 : row 149 17 = some (.bipush (-2), 19, (-2), 0, 0, 0) := rfl
theorem r_149_19 : row 149 19 = some (.ireturn, 20, 0, 0, 0, 0) := rfl
theorem r_150_0 : row 150 0 = some (.aload_n 0, 1, 0, 0, 0, 0) := rfl
theorem r_150_1 : row 150 1 = some (.iload_n 1, 2, 0, 0, 0, 0) := rfl
theorem r_150_2 : row 150 2 = some (.invokevirtual 336, 5, 147, 1, 0, 7154) := rfl
theorem r_150_5 : row 150 5 = some (.ifCond .eq 12, 8, 17, 0, 0, 0) := rfl
theorem r_150_8 : row 150 8 = some (.aload_n 0, 9, 0, 0, 0, 0) := rfl
theorem r_150_9 : row 150 9 = some (.iload_n 1, 10, 0, 0, 0, 0) := rfl
theorem r_150_10 : row 150 10 = some (.iconst 1, 11, 1, 0, 0, 0) := rfl
theorem r_150_11 : row 150 11 = some (.invokevirtual 263, 14, 131, 2, 0, 7110) := rfl
theorem r_150_14 : row 150 14 = some (.goto 5, 17, 19, 0, 0, 0) := rfl
theorem r_150_17 : row 150 17 = some (.bipush (-2), 19, (-2), 0, 0, 0) := rfl
theorem r_150_19 : row 150 19 = some (.ireturn, 20, 0, 0, 0, 0) := rfl
theorem r_151_0 : row 151 0 = some (.aload_n 0, 1, 0, 0, 0, 0) := rfl
theorem r_151_1 : row 151 1 = some (.iload_n 1, 2, 0, 0, 0, 0) := rfl
theorem r_151_2 : row 151 2 = some (.invokevirtual 336, 5, 147, 1, 0, 7154) := rfl
theorem r_151_5 : row 151 5 = some (.ifCond .eq 12, 8, 17, 0, 0, 0) := rfl
theorem r_151_8 : row 151 8 = some (.aload_n 0, 9, 0, 0, 0, 0) := rfl
theorem r_151_9 : row 151 9 = some (.iload_n 1, 10, 0, 0, 0, 0) := rfl
theorem r_151_10 : row 151 10 = some (.iconst 2, 11, 2, 0, 0, 0) := rfl
theorem r_151_11 : row 151 11 = some (.invokevirtual 263, 14, 131, 2, 0, 7110) := rfl
theorem r_151_14 : row 151 14 = some (.goto 5, 17, 19, 0, 0, 0) := rfl
theorem r_151_17 : row 151 17 = some (.bipush (-2), 19, (-2), 0, 0, 0) := rfl
theorem r_151_19 : row 151 19 = some (.ireturn, 20, 0, 0, 0, 0) := rfl
theorem r_152_0 : row 152 0 = some (.aload_n 0, 1, 0, 0, 0, 0) := rfl
theorem r_152_1 : row 152 1 = some (.iload_n 2, 2, 0, 0, 0, 0) := rfl
theorem r_152_2 : row 152 2 = some (.invokevirtual 336, 5, 147, 1, 0, 7154) := rfl
theorem r_152_5 : row 152 5 = some (.ifCond .eq 23, 8, 28, 0, 0, 0) := rfl
theorem r_152_8 : row 152 8 = some (.aload_n 0, 9, 0, 0, 0, 0) := rfl
theorem r_152_9 : row 152 9 = some (.iload_n 1, 10, 0, 0, 0, 0) := rfl
theorem r_152_10 : row 152 10 = some (.invokevirtual 224, 13, 96, 1, 0, 7017) := rfl
theorem r_152_13 : row 152 13 = some (.ifCond .eq 15, 16, 28, 0, 0, 0) := rfl
theorem r_152_16 : row 152 16 = some (.aload_n 0, 17, 0, 0, 0, 0) := rfl
theorem r_152_17 : row 152 17 = some (.iload_n 2, 18, 0, 0, 0, 0) := rfl
theorem r_152_18 : row 152 18 = some (.bipush 6, 20, 6, 0, 0, 0) := rfl
theorem r_152_20 : row 152 20 = some (.iload_n 1, 21, 0, 0, 0, 0) := rfl
theorem r_152_21 : row 152 21 = some (.iadd, 22, 0, 0, 0, 0) := rfl
theorem r_152_22 : row 152 22 = some (.invokevirtual 263, 25, 131, 2, 0, 7110) := rfl
theorem r_152_25 : row 152 25 = some (.goto 5, 28, 30, 0, 0, 0) := rfl
theorem r_152_28 : row 152 28 = some (.bipush (-2), 30, (-2), 0, 0, 0) := rfl
theorem r_152_30 : row 152 30 = some (.ireturn, 31, 0, 0, 0, 0) := rfl
theorem r_153_0 : row 153 0 = some (.aload_n 0, 1, 0, 0, 0, 0) := rfl
theorem r_153_1 : row 153 1 = some (.iload_n 2, 2, 0, 0, 0, 0) := rfl
theorem r_153_2 : row 153 2 = some (.invokevirtual 336, 5, 147, 1, 0, 7154) := rfl
theorem r_153_5 : row 153 5 = some (.ifCond .eq 24, 8, 29, 0, 0, 0) := rfl
theorem r_153_8 : row 153 8 = some (.aload_n 0, 9, 0, 0, 0, 0) := rfl
theorem r_153_9 : row 153 9 = some (.iload_n 1, 10, 0, 0, 0, 0) := rfl
theorem r_153_10 : row 153 10 = some (.i2l, 11, 0, 0, 0, 0) := rfl
theorem r_153_11 : row 153 11 = some (.invokevirtual 216, 14, 94, 1, 0, 7001) := rfl
theorem r_153_14 : row 153 14 = some (.ifCond .eq 15, 17, 29, 0, 0, 0) := rfl
theorem r_153_17 : row 153 17 = some (.aload_n 0, 18, 0, 0, 0, 0) := rfl
theorem r_153_18 : row 153 18 = some (.iload_n 2, 19, 0, 0, 0, 0) := rfl
theorem r_153_19 : row 153 19 = some (.bipush 11, 21, 11, 0, 0, 0) := rfl
theorem r_153_21 : row 153 21 = some (.iload_n 1, 22, 0, 0, 0, 0) := rfl
theorem r_153_22 : row 153 22 = some (.iadd, 23, 0, 0, 0, 0) := rfl
theorem r_153_23 : row 153 23 = some (.invokevirtual 263, 26, 131, 2, 0, 7110) := rfl
theorem r_153_26 : row 153 26 = some (.goto 5, 29, 31, 0, 0, 0) := rfl
theorem r_153_29 : row 153 29 = some (.bipush (-2), 31, (-2), 0, 0, 0) := rfl
theorem r_153_31 : row 153 31 = some (.ireturn, 32, 0, 0, 0, 0) := rfl
theorem r_156_0 : row 156 0 = some (.aload_n 0, 1, 0, 0, 0, 0) := rfl
theorem r_156_1 : row 156 1 = some (.invokevirtual 330, 4, 146, 0, 0, 7078) := rfl
theorem r_156_4 : row 156 4 = some (.ifCond .eq 10, 7, 14, 0, 0, 0) := rfl
theorem r_156_7 : row 156 7 = some (.aload_n 0, 8, 0, 0, 0, 0) := rfl
theorem r_156_8 : row 156 8 = some (.getfield 293, 11, 10, 21, 0, 6022) := rfl
theorem r_156_11 : row 156 11 = some (.goto 5, 14, 16, 0, 0, 0) := rfl
theorem r_156_14 : row 156 14 = some (.bipush (-2), 16, (-2), 0, 0, 0) := rfl
theorem r_156_16 : row 156 16 = some (.ireturn, 17, 0, 0, 0, 0) := rfl
theorem r_157_0 : row 157 0 = some (.aload_n 0, 1, 0, 0, 0, 0) := rfl
theorem r_157_1 : row 157 1 = some (.invokevirtual 330, 4, 146, 0, 0, 7078) := rfl
theorem r_157_4 : row 157 4 = some (.ifCond .eq 10, 7, 14, 0, 0, 0) := rfl
theorem r_157_7 : row 157 7 = some (.aload_n 0, 8, 0, 0, 0, 0) := rfl
theorem r_157_8 : row 157 8 = some (.getfield 296, 11, 10, 22, 0, 6023) := rfl
theorem r_157_11 : row 157 11 = some (.goto 5, 14, 16, 0, 0, 0) := rfl
theorem r_157_14 : row 157 14 = some (.bipush (-2), 16, (-2), 0, 0, 0) := rfl
theorem r_157_16 : row 157 16 = some (.ireturn, 17, 0, 0, 0, 0) := rfl
theorem r_159_0 : row 159 0 = some (.aload_n 0, 1, 0, 0, 0, 0) := rfl
theorem r_159_1 : row 159 1 = some (.invokevirtual 330, 4, 146, 0, 0, 7078) := rfl
theorem r_159_4 : row 159 4 = some (.ifCond .eq 16, 7, 20, 0, 0, 0) := rfl
theorem r_159_7 : row 159 7 = some (.aload_n 0, 8, 0, 0, 0, 0) := rfl
theorem r_159_8 : row 159 8 = some (.aload_n 0, 9, 0, 0, 0, 0) := rfl
theorem r_159_9 : row 159 9 = some (.getfield 9, 12, 10, 1, 2, 6002) := rfl
theorem r_159_12 : row 159 12 = some (.iconst 1, 13, 1, 0, 0, 0) := rfl
theorem r_159_13 : row 159 13 = some (.iaload, 14, 0, 0, 0, 0) := rfl
theorem r_159_14 : row 159 14 = some (.invokevirtual 342, 17, 158, 1, 0, 7202) := rfl
theorem r_159_17 : row 159 17 = some (.goto 5, 20, 22, 0, 0, 0) := rfl
theorem r_159_20 : row 159 20 = some (.bipush (-2), 22, (-2), 0, 0, 0) := rfl
theorem r_159_22 : row 159 22 = some (.ireturn, 23, 0, 0, 0, 0) := rfl
theorem r_161_0 : row 161 0 = some (.aload_n 0, 1, 0, 0, 0, 0) := rfl
theorem r_161_1 : row 161 1 = some (.invokevirtual 330, 4, 146, 0, 0, 7078) := rfl
theorem r_161_4 : row 161 4 = some (.ifCond .eq 17, 7, 21, 0, 0, 0) := rfl
theorem r_161_7 : row 161 7 = some (.aload_n 0, 8, 0, 0, 0, 0) := rfl
theorem r_161_8 : row 161 8 = some (.aload_n 0, 9, 0, 0, 0, 0) := rfl
theorem r_161_9 : row 161 9 = some (.getfield 9, 12, 10, 1, 2, 6002) := rfl
theorem r_161_12 : row 161 12 = some (.iconst 1, 13, 1, 0, 0, 0) := rfl
theorem r_161_13 : row 161 13 = some (.iaload, 14, 0, 0, 0, 0) := rfl
theorem r_161_14 : row 161 14 = some (.iconst 5, 15, 5, 0, 0, 0) := rfl
theorem r_161_15 : row 161 15 = some (.invokevirtual 263, 18, 131, 2, 0, 7110) := rfl
theorem r_161_18 : row 161 18 = some (.goto 5, 21, 23, 0, 0, 0) := rfl
theorem r_161_21 : row 161 21 = some (.bipush (-2), 23, (-2), 0, 0, 0) := rfl
theorem r_161_23 : row 161 23 = some (.ireturn, 24, 0, 0, 0, 0) := rfl
theorem r_291_0 : row 291 0 = some (.aload_n 0, 1, 0, 0, 0, 0) := rfl
theorem r_291_1 : row 291 1 = some (.getfield 28, 4, 7, 4, 2, 2010) := rfl
theorem r_291_4 : row 291 4 = some (.iload_n 2, 5, 0, 0, 0, 0) := rfl
theorem r_291_5 : row 291 5 = some (.iconst 5, 6, 5, 0, 0, 0) := rfl
theorem r_291_6 : row 291 6 = some (.imul, 7, 0, 0, 0, 0) := rfl
theorem r_291_7 : row 291 7 = some (.iload_n 1, 8, 0, 0, 0, 0) := rfl
theorem r_291_8 : row 291 8 = some (.iadd, 9, 0, 0, 0, 0) := rfl
theorem r_291_9 : row 291 9 = some (.invokestatic 119, 12, 237, 2, 10, 3186) := rfl
theorem r_291_12 : row 291 12 = some (.ireturn, 13, 0, 0, 0, 0) := rfl
theorem r_292_0 : row 292 0 = some (.aload_n 0, 1, 0, 0, 0, 0) := rfl
theorem r_292_1 : row 292 1 = some (.getfield 31, 4, 7, 5, 2, 2011) := rfl
theorem r_292_4 : row 292 4 = some (.iload_n 2, 5, 0, 0, 0, 0) := rfl
theorem r_292_5 : row 292 5 = some (.iconst 5, 6, 5, 0, 0, 0) := rfl
theorem r_292_6 : row 292 6 = some (.imul, 7, 0, 0, 0, 0) := rfl
theorem r_292_7 : row 292 7 = some (.iload_n 1, 8, 0, 0, 0, 0) := rfl
theorem r_292_8 : row 292 8 = some (.iadd, 9, 0, 0, 0, 0) := rfl
theorem r_292_9 : row 292 9 = some (.invokestatic 119, 12, 237, 2, 10, 3186) := rfl
theorem r_292_12 : row 292 12 = some (.ireturn, 13, 0, 0, 0, 0) := rfl
section TOLDS
variable {T : List Kd} {m : Mm}
theorem x_74 (hT : TT T) (hp : PinR m) (a : Int) : GX T 1 74 0 [(2, 1), (0, a)] [] m (RI (fun v m1 => v = (if 0 < m 4 0 ∧ 0 ≤ a ∧ a ≤ m 4 2 then 1 else 0) ∧ m1 = m)) := by
  refine gx_st (L' := [(2, 1), (0, a)]) (S' := [(2, 1)]) r_74_0 rfl rfl rfl ?_
  refine gx_gf (x := 4) 2 r_74_1 (rfl) (ty_1 hT) ⟨by decide, rfl, by decide, by decide⟩ rfl (fun _ => by omega) (pin_at hp (t := 4) rfl (by decide)) ?_
  refine gx_ci (nx := 7) (S2 := []) (x_252 hT) r_74_4 rfl rfl rfl rfl rfl (rcv_v rfl (ty_4 hT) (by decide) rfl (by decide)) rfl (by decide) rfl (fun x4 n4 q4 => ?_)
  obtain rfl := q4.1.symm
  obtain rfl := q4.2.symm
  show GX T 1 74 7 [(2, 1), (0, a)] [(0, (if 0 < m 4 0 then 1 else 0))] m (RI (fun v m1 => v = (if 0 < m 4 0 ∧ 0 ≤ a ∧ a ≤ m 4 2 then 1 else 0) ∧ m1 = m))
  refine gx_i0 (P := ¬ (0 < m 4 0)) r_74_7 (b01_eq) (fun h7 => ?_) (fun h7 => ?_)
  · refine gx_st (L' := [(2, 1), (0, a)]) (S' := [(0, 0)]) r_74_29 rfl rfl rfl ?_
    exact gx_rb r_74_30 rfl (by decide) ⟨_, rfl, by rw [if_neg (by omega)], rfl⟩
  · have h7 := Decidable.not_not.mp h7
    refine gx_st (L' := [(2, 1), (0, a)]) (S' := [(0, a)]) r_74_10 rfl rfl rfl ?_
    refine gx_i0 (P := a < 0) r_74_11 (rfl) (fun h11 => ?_) (fun h11 => ?_)
    · refine gx_st (L' := [(2, 1), (0, a)]) (S' := [(0, 0)]) r_74_29 rfl rfl rfl ?_
      exact gx_rb r_74_30 rfl (by decide) ⟨_, rfl, by rw [if_neg (by omega)], rfl⟩
    · refine gx_st (L' := [(2, 1), (0, a)]) (S' := [(0, a)]) r_74_14 rfl rfl rfl ?_
      refine gx_st (L' := [(2, 1), (0, a)]) (S' := [(2, 1), (0, a)]) r_74_15 rfl rfl rfl ?_
      refine gx_gf (x := 4) 2 r_74_16 (rfl) (ty_1 hT) ⟨by decide, rfl, by decide, by decide⟩ rfl (fun _ => by omega) (pin_at hp (t := 4) rfl (by decide)) ?_
      refine gx_gf (x := (m 4 2)) 0 r_74_19 (rfl) (ty_4 hT) ⟨by decide, rfl, by decide, by decide⟩ rfl (fun z => absurd z (by decide)) (rfl) ?_
      refine gx_ic (P := (m 4 2) < a) r_74_22 (rfl) (fun h22 => ?_) (fun h22 => ?_)
      · refine gx_st (L' := [(2, 1), (0, a)]) (S' := [(0, 0)]) r_74_29 rfl rfl rfl ?_
        exact gx_rb r_74_30 rfl (by decide) ⟨_, rfl, by rw [if_neg (by omega)], rfl⟩
      · refine gx_st (L' := [(2, 1), (0, a)]) (S' := [(0, 1)]) r_74_25 rfl rfl rfl ?_
        refine gx_st (L' := [(2, 1), (0, a)]) (S' := [(0, 1)]) r_74_26 rfl rfl rfl ?_
        exact gx_rb r_74_30 rfl (by decide) ⟨_, rfl, by rw [if_pos (by omega)], rfl⟩
theorem z_14 (hT : TT T) (hp : PinR m) (a : Int) (h12 : m 4 2 ≤ 12) : GX T 2 14 0 [(2, 1), (0, a)] [] m (RI (fun v m1 => (¬ (0 < m 4 0 ∧ 0 ≤ a ∧ a ≤ m 4 2) → v = -2) ∧ ∀ h : Nat, a = (h : Int) → (0 < m 4 0 ∧ 0 ≤ a ∧ a ≤ m 4 2) → v = m 32 h)) := by
  refine gx_st (L' := [(2, 1), (0, a)]) (S' := [(2, 1)]) r_14_0 rfl rfl rfl ?_
  refine gx_st (L' := [(2, 1), (0, a)]) (S' := [(0, a), (2, 1)]) r_14_1 rfl rfl rfl ?_
  refine gx_ci (nx := 5) (S2 := []) (x_74 hT hp a) r_14_2 rfl rfl rfl rfl rfl (rcv_v rfl (ty_1 hT) (by decide) rfl (by decide)) rfl (by decide) rfl (fun x2 n2 q2 => ?_)
  obtain rfl := q2.1.symm
  obtain rfl := q2.2.symm
  show GX T 2 14 5 [(2, 1), (0, a)] [(0, (if 0 < m 4 0 ∧ 0 ≤ a ∧ a ≤ m 4 2 then 1 else 0))] m (RI (fun v m1 => (¬ (0 < m 4 0 ∧ 0 ≤ a ∧ a ≤ m 4 2) → v = -2) ∧ ∀ h : Nat, a = (h : Int) → (0 < m 4 0 ∧ 0 ≤ a ∧ a ≤ m 4 2) → v = m 32 h))
  refine gx_i0 (P := ¬ (0 < m 4 0 ∧ 0 ≤ a ∧ a ≤ m 4 2)) r_14_5 (b01_eq) (fun h5 => ?_) (fun h5 => ?_)
  · refine gx_st (L' := [(2, 1), (0, a)]) (S' := [(0, (-2))]) r_14_22 rfl rfl rfl ?_
    exact gx_rt r_14_24 rfl rfl ⟨_, rfl, fun _ => rfl, fun h e z => (by exfalso; omega)⟩
  · have h5 := Decidable.not_not.mp h5
    obtain ⟨ii, h_ii⟩ : ∃ i : Nat, a = (i : Int) := ⟨a.toNat, by omega⟩
    rw [h_ii]
    refine gx_st (L' := [(2, 1), (0, (ii : Int))]) (S' := [(2, 1)]) r_14_8 rfl rfl rfl ?_
    refine gx_gf (x := 28) 2 r_14_9 (rfl) (ty_1 hT) ⟨by decide, rfl, by decide, by decide⟩ rfl (fun _ => by omega) (pin_at hp (t := 28) rfl (by decide)) ?_
    refine gx_gf (x := 32) 2 r_14_12 (rfl) (ty_28 hT) ⟨by decide, rfl, by decide, by decide⟩ rfl (fun _ => by omega) (pin_at hp (t := 32) rfl (by decide)) ?_
    refine gx_st (L' := [(2, 1), (0, (ii : Int))]) (S' := [(0, (ii : Int)), (2, 32)]) r_14_15 rfl rfl rfl ?_
    refine gx_ci (nx := 19) (S2 := []) (c_237 (r := 32) (n := 13) (ty_32 hT) (by decide) (by decide) (k := ii) (by omega)) r_14_16 rfl rfl rfl rfl rfl rfl rfl (by decide) rfl (fun x16 n16 q16 => ?_)
    obtain rfl := q16.1.symm
    obtain rfl := q16.2.symm
    show GX T 2 14 19 [(2, 1), (0, (ii : Int))] [(0, (m 32 ii))] m (RI (fun v m1 => (¬ (0 < m 4 0 ∧ 0 ≤ (ii : Int) ∧ (ii : Int) ≤ m 4 2) → v = -2) ∧ ∀ h : Nat, (ii : Int) = (h : Int) → (0 < m 4 0 ∧ 0 ≤ (ii : Int) ∧ (ii : Int) ≤ m 4 2) → v = m 32 h))
    refine gx_st (L' := [(2, 1), (0, (ii : Int))]) (S' := [(0, (m 32 ii))]) r_14_19 rfl rfl rfl ?_
    exact gx_rt r_14_24 rfl rfl ⟨_, rfl, fun z => absurd z (by omega), fun h e z => by rw [show h = ii by omega]⟩
theorem z_15 (hT : TT T) (hp : PinR m) (a : Int) (h12 : m 4 2 ≤ 12) : GX T 2 15 0 [(2, 1), (0, a)] [] m (RI (fun v m1 => (¬ (0 < m 4 0 ∧ 0 ≤ a ∧ a ≤ m 4 2) → v = -2) ∧ ∀ h : Nat, a = (h : Int) → (0 < m 4 0 ∧ 0 ≤ a ∧ a ≤ m 4 2) → v = m 33 h)) := by
  refine gx_st (L' := [(2, 1), (0, a)]) (S' := [(2, 1)]) r_15_0 rfl rfl rfl ?_
  refine gx_st (L' := [(2, 1), (0, a)]) (S' := [(0, a), (2, 1)]) r_15_1 rfl rfl rfl ?_
  refine gx_ci (nx := 5) (S2 := []) (x_74 hT hp a) r_15_2 rfl rfl rfl rfl rfl (rcv_v rfl (ty_1 hT) (by decide) rfl (by decide)) rfl (by decide) rfl (fun x2 n2 q2 => ?_)
  obtain rfl := q2.1.symm
  obtain rfl := q2.2.symm
  show GX T 2 15 5 [(2, 1), (0, a)] [(0, (if 0 < m 4 0 ∧ 0 ≤ a ∧ a ≤ m 4 2 then 1 else 0))] m (RI (fun v m1 => (¬ (0 < m 4 0 ∧ 0 ≤ a ∧ a ≤ m 4 2) → v = -2) ∧ ∀ h : Nat, a = (h : Int) → (0 < m 4 0 ∧ 0 ≤ a ∧ a ≤ m 4 2) → v = m 33 h))
  refine gx_i0 (P := ¬ (0 < m 4 0 ∧ 0 ≤ a ∧ a ≤ m 4 2)) r_15_5 (b01_eq) (fun h5 => ?_) (fun h5 => ?_)
  · refine gx_st (L' := [(2, 1), (0, a)]) (S' := [(0, (-2))]) r_15_22 rfl rfl rfl ?_
    exact gx_rt r_15_24 rfl rfl ⟨_, rfl, fun _ => rfl, fun h e z => (by exfalso; omega)⟩
  · have h5 := Decidable.not_not.mp h5
    obtain ⟨ii, h_ii⟩ : ∃ i : Nat, a = (i : Int) := ⟨a.toNat, by omega⟩
    rw [h_ii]
    refine gx_st (L' := [(2, 1), (0, (ii : Int))]) (S' := [(2, 1)]) r_15_8 rfl rfl rfl ?_
    refine gx_gf (x := 28) 2 r_15_9 (rfl) (ty_1 hT) ⟨by decide, rfl, by decide, by decide⟩ rfl (fun _ => by omega) (pin_at hp (t := 28) rfl (by decide)) ?_
    refine gx_gf (x := 33) 2 r_15_12 (rfl) (ty_28 hT) ⟨by decide, rfl, by decide, by decide⟩ rfl (fun _ => by omega) (pin_at hp (t := 33) rfl (by decide)) ?_
    refine gx_st (L' := [(2, 1), (0, (ii : Int))]) (S' := [(0, (ii : Int)), (2, 33)]) r_15_15 rfl rfl rfl ?_
    refine gx_ci (nx := 19) (S2 := []) (c_237 (r := 33) (n := 13) (ty_33 hT) (by decide) (by decide) (k := ii) (by omega)) r_15_16 rfl rfl rfl rfl rfl rfl rfl (by decide) rfl (fun x16 n16 q16 => ?_)
    obtain rfl := q16.1.symm
    obtain rfl := q16.2.symm
    show GX T 2 15 19 [(2, 1), (0, (ii : Int))] [(0, (m 33 ii))] m (RI (fun v m1 => (¬ (0 < m 4 0 ∧ 0 ≤ (ii : Int) ∧ (ii : Int) ≤ m 4 2) → v = -2) ∧ ∀ h : Nat, (ii : Int) = (h : Int) → (0 < m 4 0 ∧ 0 ≤ (ii : Int) ∧ (ii : Int) ≤ m 4 2) → v = m 33 h))
    refine gx_st (L' := [(2, 1), (0, (ii : Int))]) (S' := [(0, (m 33 ii))]) r_15_19 rfl rfl rfl ?_
    exact gx_rt r_15_24 rfl rfl ⟨_, rfl, fun z => absurd z (by omega), fun h e z => by rw [show h = ii by omega]⟩
theorem z_16 (hT : TT T) (hp : PinR m) (a : Int) (h12 : m 4 2 ≤ 12) : GX T 2 16 0 [(2, 1), (0, a)] [] m (RI (fun v m1 => (¬ (0 < m 4 0 ∧ 0 ≤ a ∧ a ≤ m 4 2) → v = -2) ∧ ∀ h : Nat, a = (h : Int) → (0 < m 4 0 ∧ 0 ≤ a ∧ a ≤ m 4 2) → v = m 34 h)) := by
  refine gx_st (L' := [(2, 1), (0, a)]) (S' := [(2, 1)]) r_16_0 rfl rfl rfl ?_
  refine gx_st (L' := [(2, 1), (0, a)]) (S' := [(0, a), (2, 1)]) r_16_1 rfl rfl rfl ?_
  refine gx_ci (nx := 5) (S2 := []) (x_74 hT hp a) r_16_2 rfl rfl rfl rfl rfl (rcv_v rfl (ty_1 hT) (by decide) rfl (by decide)) rfl (by decide) rfl (fun x2 n2 q2 => ?_)
  obtain rfl := q2.1.symm
  obtain rfl := q2.2.symm
  show GX T 2 16 5 [(2, 1), (0, a)] [(0, (if 0 < m 4 0 ∧ 0 ≤ a ∧ a ≤ m 4 2 then 1 else 0))] m (RI (fun v m1 => (¬ (0 < m 4 0 ∧ 0 ≤ a ∧ a ≤ m 4 2) → v = -2) ∧ ∀ h : Nat, a = (h : Int) → (0 < m 4 0 ∧ 0 ≤ a ∧ a ≤ m 4 2) → v = m 34 h))
  refine gx_i0 (P := ¬ (0 < m 4 0 ∧ 0 ≤ a ∧ a ≤ m 4 2)) r_16_5 (b01_eq) (fun h5 => ?_) (fun h5 => ?_)
  · refine gx_st (L' := [(2, 1), (0, a)]) (S' := [(0, (-2))]) r_16_22 rfl rfl rfl ?_
    exact gx_rt r_16_24 rfl rfl ⟨_, rfl, fun _ => rfl, fun h e z => (by exfalso; omega)⟩
  · have h5 := Decidable.not_not.mp h5
    obtain ⟨ii, h_ii⟩ : ∃ i : Nat, a = (i : Int) := ⟨a.toNat, by omega⟩
    rw [h_ii]
    refine gx_st (L' := [(2, 1), (0, (ii : Int))]) (S' := [(2, 1)]) r_16_8 rfl rfl rfl ?_
    refine gx_gf (x := 28) 2 r_16_9 (rfl) (ty_1 hT) ⟨by decide, rfl, by decide, by decide⟩ rfl (fun _ => by omega) (pin_at hp (t := 28) rfl (by decide)) ?_
    refine gx_gf (x := 34) 2 r_16_12 (rfl) (ty_28 hT) ⟨by decide, rfl, by decide, by decide⟩ rfl (fun _ => by omega) (pin_at hp (t := 34) rfl (by decide)) ?_
    refine gx_st (L' := [(2, 1), (0, (ii : Int))]) (S' := [(0, (ii : Int)), (2, 34)]) r_16_15 rfl rfl rfl ?_
    refine gx_ci (nx := 19) (S2 := []) (c_237 (r := 34) (n := 13) (ty_34 hT) (by decide) (by decide) (k := ii) (by omega)) r_16_16 rfl rfl rfl rfl rfl rfl rfl (by decide) rfl (fun x16 n16 q16 => ?_)
    obtain rfl := q16.1.symm
    obtain rfl := q16.2.symm
    show GX T 2 16 19 [(2, 1), (0, (ii : Int))] [(0, (m 34 ii))] m (RI (fun v m1 => (¬ (0 < m 4 0 ∧ 0 ≤ (ii : Int) ∧ (ii : Int) ≤ m 4 2) → v = -2) ∧ ∀ h : Nat, (ii : Int) = (h : Int) → (0 < m 4 0 ∧ 0 ≤ (ii : Int) ∧ (ii : Int) ≤ m 4 2) → v = m 34 h))
    refine gx_st (L' := [(2, 1), (0, (ii : Int))]) (S' := [(0, (m 34 ii))]) r_16_19 rfl rfl rfl ?_
    exact gx_rt r_16_24 rfl rfl ⟨_, rfl, fun z => absurd z (by omega), fun h e z => by rw [show h = ii by omega]⟩
theorem z_291 (hT : TT T) (hp : PinR m) {i h : Nat} (hi : i < 5) (hh : h ≤ 12) : GX T 1 291 0 [(2, 28), (0, (i : Int)), (0, (h : Int))] [] m (RI (fun v m1 => v = m 35 (5 * h + i) ∧ m1 = m)) := by
  refine gx_st (L' := [(2, 28), (0, (i : Int)), (0, (h : Int))]) (S' := [(2, 28)]) r_291_0 rfl rfl rfl ?_
  refine gx_gf (x := 35) 2 r_291_1 (rfl) (ty_28 hT) ⟨by decide, rfl, by decide, by decide⟩ rfl (fun _ => by omega) (pin_at hp (t := 35) rfl (by decide)) ?_
  refine gx_st (L' := [(2, 28), (0, (i : Int)), (0, (h : Int))]) (S' := [(0, (h : Int)), (2, 35)]) r_291_4 rfl rfl rfl ?_
  refine gx_st (L' := [(2, 28), (0, (i : Int)), (0, (h : Int))]) (S' := [(0, 5), (0, (h : Int)), (2, 35)]) r_291_5 rfl rfl rfl ?_
  refine gx_ar (L' := [(2, 28), (0, (i : Int)), (0, (h : Int))]) (S' := [(2, 35)]) (t := 0) (e := w32 ((h : Int) * 5)) (z := 5 * (h : Int)) r_291_6 rfl rfl rfl (w32_eq (by omega) (by omega) (by omega)) ?_
  refine gx_st (L' := [(2, 28), (0, (i : Int)), (0, (h : Int))]) (S' := [(0, (i : Int)), (0, 5 * (h : Int)), (2, 35)]) r_291_7 rfl rfl rfl ?_
  refine gx_ar (L' := [(2, 28), (0, (i : Int)), (0, (h : Int))]) (S' := [(2, 35)]) (t := 0) (e := w32 ((5 * (h : Int)) + (i : Int))) (z := 5 * (h : Int) + (i : Int)) r_291_8 rfl rfl rfl (w32_eq (by omega) (by omega) (by omega)) ?_
  refine gx_ci (nx := 12) (S2 := []) (c_237 (r := 35) (n := 65) (ty_35 hT) (by decide) (by decide) (k := 5 * h + i) (by omega)) r_291_9 rfl rfl rfl rfl rfl rfl rfl (by decide) rfl (fun x9 n9 q9 => ?_)
  obtain rfl := q9.1.symm
  obtain rfl := q9.2.symm
  show GX T 1 291 12 [(2, 28), (0, (i : Int)), (0, (h : Int))] [(0, (m 35 (5 * h + i)))] m (RI (fun v m1 => v = m 35 (5 * h + i) ∧ m1 = m))
  exact gx_rt r_291_12 rfl rfl ⟨_, rfl, ⟨rfl, rfl⟩⟩
theorem z_292 (hT : TT T) (hp : PinR m) {i h : Nat} (hi : i < 5) (hh : h ≤ 12) : GX T 1 292 0 [(2, 28), (0, (i : Int)), (0, (h : Int))] [] m (RI (fun v m1 => v = m 36 (5 * h + i) ∧ m1 = m)) := by
  refine gx_st (L' := [(2, 28), (0, (i : Int)), (0, (h : Int))]) (S' := [(2, 28)]) r_292_0 rfl rfl rfl ?_
  refine gx_gf (x := 36) 2 r_292_1 (rfl) (ty_28 hT) ⟨by decide, rfl, by decide, by decide⟩ rfl (fun _ => by omega) (pin_at hp (t := 36) rfl (by decide)) ?_
  refine gx_st (L' := [(2, 28), (0, (i : Int)), (0, (h : Int))]) (S' := [(0, (h : Int)), (2, 36)]) r_292_4 rfl rfl rfl ?_
  refine gx_st (L' := [(2, 28), (0, (i : Int)), (0, (h : Int))]) (S' := [(0, 5), (0, (h : Int)), (2, 36)]) r_292_5 rfl rfl rfl ?_
  refine gx_ar (L' := [(2, 28), (0, (i : Int)), (0, (h : Int))]) (S' := [(2, 36)]) (t := 0) (e := w32 ((h : Int) * 5)) (z := 5 * (h : Int)) r_292_6 rfl rfl rfl (w32_eq (by omega) (by omega) (by omega)) ?_
  refine gx_st (L' := [(2, 28), (0, (i : Int)), (0, (h : Int))]) (S' := [(0, (i : Int)), (0, 5 * (h : Int)), (2, 36)]) r_292_7 rfl rfl rfl ?_
  refine gx_ar (L' := [(2, 28), (0, (i : Int)), (0, (h : Int))]) (S' := [(2, 36)]) (t := 0) (e := w32 ((5 * (h : Int)) + (i : Int))) (z := 5 * (h : Int) + (i : Int)) r_292_8 rfl rfl rfl (w32_eq (by omega) (by omega) (by omega)) ?_
  refine gx_ci (nx := 12) (S2 := []) (c_237 (r := 36) (n := 65) (ty_36 hT) (by decide) (by decide) (k := 5 * h + i) (by omega)) r_292_9 rfl rfl rfl rfl rfl rfl rfl (by decide) rfl (fun x9 n9 q9 => ?_)
  obtain rfl := q9.1.symm
  obtain rfl := q9.2.symm
  show GX T 1 292 12 [(2, 28), (0, (i : Int)), (0, (h : Int))] [(0, (m 36 (5 * h + i)))] m (RI (fun v m1 => v = m 36 (5 * h + i) ∧ m1 = m))
  exact gx_rt r_292_12 rfl rfl ⟨_, rfl, ⟨rfl, rfl⟩⟩
theorem z_17 (hT : TT T) (hp : PinR m) (a b : Int) (h12 : m 4 2 ≤ 12) (h5 : m 4 8 ≤ 5) : GX T 2 17 0 [(2, 1), (0, a), (0, b)] [] m (RI (fun v m1 => (¬ ((0 ≤ a ∧ a < m 4 8) ∧ (0 < m 4 0 ∧ 0 ≤ b ∧ b ≤ m 4 2)) → v = -2) ∧ ∀ i h : Nat, a = (i : Int) → b = (h : Int) → ((0 ≤ a ∧ a < m 4 8) ∧ (0 < m 4 0 ∧ 0 ≤ b ∧ b ≤ m 4 2)) → v = m 35 (5 * h + i))) := by
  refine gx_st (L' := [(2, 1), (0, a), (0, b)]) (S' := [(0, a)]) r_17_0 rfl rfl rfl ?_
  refine gx_st (L' := [(2, 1), (0, a), (0, b)]) (S' := [(2, 1), (0, a)]) r_17_1 rfl rfl rfl ?_
  refine gx_gf (x := 4) 2 r_17_2 (rfl) (ty_1 hT) ⟨by decide, rfl, by decide, by decide⟩ rfl (fun _ => by omega) (pin_at hp (t := 4) rfl (by decide)) ?_
  refine gx_gf (x := (m 4 8)) 0 r_17_5 (rfl) (ty_4 hT) ⟨by decide, rfl, by decide, by decide⟩ rfl (fun z => absurd z (by decide)) (rfl) ?_
  refine gx_ci (nx := 11) (S2 := []) (x_71 a (m 4 8)) r_17_8 rfl rfl rfl rfl rfl rfl rfl (by decide) rfl (fun x8 n8 q8 => ?_)
  obtain rfl := q8.1.symm
  obtain rfl := q8.2.symm
  show GX T 2 17 11 [(2, 1), (0, a), (0, b)] [(0, (if 0 ≤ a ∧ a < (m 4 8) then 1 else 0))] m (RI (fun v m1 => (¬ ((0 ≤ a ∧ a < m 4 8) ∧ (0 < m 4 0 ∧ 0 ≤ b ∧ b ≤ m 4 2)) → v = -2) ∧ ∀ i h : Nat, a = (i : Int) → b = (h : Int) → ((0 ≤ a ∧ a < m 4 8) ∧ (0 < m 4 0 ∧ 0 ≤ b ∧ b ≤ m 4 2)) → v = m 35 (5 * h + i)))
  refine gx_i0 (P := ¬ (0 ≤ a ∧ a < (m 4 8))) r_17_11 (b01_eq) (fun h11 => ?_) (fun h11 => ?_)
  · refine gx_st (L' := [(2, 1), (0, a), (0, b)]) (S' := [(0, (-2))]) r_17_22 rfl rfl rfl ?_
    exact gx_rt r_17_24 rfl rfl ⟨_, rfl, fun _ => rfl, fun i h e e2 z => (by exfalso; omega)⟩
  · have h11 := Decidable.not_not.mp h11
    refine gx_st (L' := [(2, 1), (0, a), (0, b)]) (S' := [(2, 1)]) r_17_14 rfl rfl rfl ?_
    refine gx_st (L' := [(2, 1), (0, a), (0, b)]) (S' := [(0, b), (2, 1)]) r_17_15 rfl rfl rfl ?_
    refine gx_ci (nx := 19) (S2 := []) (x_74 hT hp b) r_17_16 rfl rfl rfl rfl rfl (rcv_v rfl (ty_1 hT) (by decide) rfl (by decide)) rfl (by decide) rfl (fun x16 n16 q16 => ?_)
    obtain rfl := q16.1.symm
    obtain rfl := q16.2.symm
    show GX T 2 17 19 [(2, 1), (0, a), (0, b)] [(0, (if 0 < m 4 0 ∧ 0 ≤ b ∧ b ≤ m 4 2 then 1 else 0))] m (RI (fun v m1 => (¬ ((0 ≤ a ∧ a < m 4 8) ∧ (0 < m 4 0 ∧ 0 ≤ b ∧ b ≤ m 4 2)) → v = -2) ∧ ∀ i h : Nat, a = (i : Int) → b = (h : Int) → ((0 ≤ a ∧ a < m 4 8) ∧ (0 < m 4 0 ∧ 0 ≤ b ∧ b ≤ m 4 2)) → v = m 35 (5 * h + i)))
    refine gx_i0 (P := 0 < m 4 0 ∧ 0 ≤ b ∧ b ≤ m 4 2) r_17_19 (b01_ne) (fun h19 => ?_) (fun h19 => ?_)
    · obtain ⟨ii, h_ii⟩ : ∃ i : Nat, a = (i : Int) := ⟨a.toNat, by omega⟩
      rw [h_ii]
      obtain ⟨jj, h_jj⟩ : ∃ i : Nat, b = (i : Int) := ⟨b.toNat, by omega⟩
      rw [h_jj]
      refine gx_st (L' := [(2, 1), (0, (ii : Int)), (0, (jj : Int))]) (S' := [(2, 1)]) r_17_25 rfl rfl rfl ?_
      refine gx_gf (x := 28) 2 r_17_26 (rfl) (ty_1 hT) ⟨by decide, rfl, by decide, by decide⟩ rfl (fun _ => by omega) (pin_at hp (t := 28) rfl (by decide)) ?_
      refine gx_st (L' := [(2, 1), (0, (ii : Int)), (0, (jj : Int))]) (S' := [(0, (ii : Int)), (2, 28)]) r_17_29 rfl rfl rfl ?_
      refine gx_st (L' := [(2, 1), (0, (ii : Int)), (0, (jj : Int))]) (S' := [(0, (jj : Int)), (0, (ii : Int)), (2, 28)]) r_17_30 rfl rfl rfl ?_
      refine gx_ci (nx := 34) (S2 := []) (z_291 hT hp (i := ii) (h := jj) (by omega) (by omega)) r_17_31 rfl rfl rfl rfl rfl (rcv_v rfl (ty_28 hT) (by decide) rfl (by decide)) rfl (by decide) rfl (fun x31 n31 q31 => ?_)
      obtain rfl := q31.1.symm
      obtain rfl := q31.2.symm
      show GX T 2 17 34 [(2, 1), (0, (ii : Int)), (0, (jj : Int))] [(0, (m 35 (5 * jj + ii)))] m (RI (fun v m1 => (¬ ((0 ≤ (ii : Int) ∧ (ii : Int) < m 4 8) ∧ (0 < m 4 0 ∧ 0 ≤ (jj : Int) ∧ (jj : Int) ≤ m 4 2)) → v = -2) ∧ ∀ i h : Nat, (ii : Int) = (i : Int) → (jj : Int) = (h : Int) → ((0 ≤ (ii : Int) ∧ (ii : Int) < m 4 8) ∧ (0 < m 4 0 ∧ 0 ≤ (jj : Int) ∧ (jj : Int) ≤ m 4 2)) → v = m 35 (5 * h + i)))
      exact gx_rt r_17_34 rfl rfl ⟨_, rfl, fun z => absurd z (by omega), fun i h e e2 z => by rw [show i = ii by omega, show h = jj by omega]⟩
    · refine gx_st (L' := [(2, 1), (0, a), (0, b)]) (S' := [(0, (-2))]) r_17_22 rfl rfl rfl ?_
      exact gx_rt r_17_24 rfl rfl ⟨_, rfl, fun _ => rfl, fun i h e e2 z => (by exfalso; omega)⟩
theorem z_18 (hT : TT T) (hp : PinR m) (a b : Int) (h12 : m 4 2 ≤ 12) (h5 : m 4 6 ≤ 5) : GX T 2 18 0 [(2, 1), (0, a), (0, b)] [] m (RI (fun v m1 => (¬ ((0 ≤ a ∧ a < m 4 6) ∧ (0 < m 4 0 ∧ 0 ≤ b ∧ b ≤ m 4 2)) → v = -2) ∧ ∀ i h : Nat, a = (i : Int) → b = (h : Int) → ((0 ≤ a ∧ a < m 4 6) ∧ (0 < m 4 0 ∧ 0 ≤ b ∧ b ≤ m 4 2)) → v = m 36 (5 * h + i))) := by
  refine gx_st (L' := [(2, 1), (0, a), (0, b)]) (S' := [(0, a)]) r_18_0 rfl rfl rfl ?_
  refine gx_st (L' := [(2, 1), (0, a), (0, b)]) (S' := [(2, 1), (0, a)]) r_18_1 rfl rfl rfl ?_
  refine gx_gf (x := 4) 2 r_18_2 (rfl) (ty_1 hT) ⟨by decide, rfl, by decide, by decide⟩ rfl (fun _ => by omega) (pin_at hp (t := 4) rfl (by decide)) ?_
  refine gx_gf (x := (m 4 6)) 0 r_18_5 (rfl) (ty_4 hT) ⟨by decide, rfl, by decide, by decide⟩ rfl (fun z => absurd z (by decide)) (rfl) ?_
  refine gx_ci (nx := 11) (S2 := []) (x_71 a (m 4 6)) r_18_8 rfl rfl rfl rfl rfl rfl rfl (by decide) rfl (fun x8 n8 q8 => ?_)
  obtain rfl := q8.1.symm
  obtain rfl := q8.2.symm
  show GX T 2 18 11 [(2, 1), (0, a), (0, b)] [(0, (if 0 ≤ a ∧ a < (m 4 6) then 1 else 0))] m (RI (fun v m1 => (¬ ((0 ≤ a ∧ a < m 4 6) ∧ (0 < m 4 0 ∧ 0 ≤ b ∧ b ≤ m 4 2)) → v = -2) ∧ ∀ i h : Nat, a = (i : Int) → b = (h : Int) → ((0 ≤ a ∧ a < m 4 6) ∧ (0 < m 4 0 ∧ 0 ≤ b ∧ b ≤ m 4 2)) → v = m 36 (5 * h + i)))
  refine gx_i0 (P := ¬ (0 ≤ a ∧ a < (m 4 6))) r_18_11 (b01_eq) (fun h11 => ?_) (fun h11 => ?_)
  · refine gx_st (L' := [(2, 1), (0, a), (0, b)]) (S' := [(0, (-2))]) r_18_22 rfl rfl rfl ?_
    exact gx_rt r_18_24 rfl rfl ⟨_, rfl, fun _ => rfl, fun i h e e2 z => (by exfalso; omega)⟩
  · have h11 := Decidable.not_not.mp h11
    refine gx_st (L' := [(2, 1), (0, a), (0, b)]) (S' := [(2, 1)]) r_18_14 rfl rfl rfl ?_
    refine gx_st (L' := [(2, 1), (0, a), (0, b)]) (S' := [(0, b), (2, 1)]) r_18_15 rfl rfl rfl ?_
    refine gx_ci (nx := 19) (S2 := []) (x_74 hT hp b) r_18_16 rfl rfl rfl rfl rfl (rcv_v rfl (ty_1 hT) (by decide) rfl (by decide)) rfl (by decide) rfl (fun x16 n16 q16 => ?_)
    obtain rfl := q16.1.symm
    obtain rfl := q16.2.symm
    show GX T 2 18 19 [(2, 1), (0, a), (0, b)] [(0, (if 0 < m 4 0 ∧ 0 ≤ b ∧ b ≤ m 4 2 then 1 else 0))] m (RI (fun v m1 => (¬ ((0 ≤ a ∧ a < m 4 6) ∧ (0 < m 4 0 ∧ 0 ≤ b ∧ b ≤ m 4 2)) → v = -2) ∧ ∀ i h : Nat, a = (i : Int) → b = (h : Int) → ((0 ≤ a ∧ a < m 4 6) ∧ (0 < m 4 0 ∧ 0 ≤ b ∧ b ≤ m 4 2)) → v = m 36 (5 * h + i)))
    refine gx_i0 (P := 0 < m 4 0 ∧ 0 ≤ b ∧ b ≤ m 4 2) r_18_19 (b01_ne) (fun h19 => ?_) (fun h19 => ?_)
    · obtain ⟨ii, h_ii⟩ : ∃ i : Nat, a = (i : Int) := ⟨a.toNat, by omega⟩
      rw [h_ii]
      obtain ⟨jj, h_jj⟩ : ∃ i : Nat, b = (i : Int) := ⟨b.toNat, by omega⟩
      rw [h_jj]
      refine gx_st (L' := [(2, 1), (0, (ii : Int)), (0, (jj : Int))]) (S' := [(2, 1)]) r_18_25 rfl rfl rfl ?_
      refine gx_gf (x := 28) 2 r_18_26 (rfl) (ty_1 hT) ⟨by decide, rfl, by decide, by decide⟩ rfl (fun _ => by omega) (pin_at hp (t := 28) rfl (by decide)) ?_
      refine gx_st (L' := [(2, 1), (0, (ii : Int)), (0, (jj : Int))]) (S' := [(0, (ii : Int)), (2, 28)]) r_18_29 rfl rfl rfl ?_
      refine gx_st (L' := [(2, 1), (0, (ii : Int)), (0, (jj : Int))]) (S' := [(0, (jj : Int)), (0, (ii : Int)), (2, 28)]) r_18_30 rfl rfl rfl ?_
      refine gx_ci (nx := 34) (S2 := []) (z_292 hT hp (i := ii) (h := jj) (by omega) (by omega)) r_18_31 rfl rfl rfl rfl rfl (rcv_v rfl (ty_28 hT) (by decide) rfl (by decide)) rfl (by decide) rfl (fun x31 n31 q31 => ?_)
      obtain rfl := q31.1.symm
      obtain rfl := q31.2.symm
      show GX T 2 18 34 [(2, 1), (0, (ii : Int)), (0, (jj : Int))] [(0, (m 36 (5 * jj + ii)))] m (RI (fun v m1 => (¬ ((0 ≤ (ii : Int) ∧ (ii : Int) < m 4 6) ∧ (0 < m 4 0 ∧ 0 ≤ (jj : Int) ∧ (jj : Int) ≤ m 4 2)) → v = -2) ∧ ∀ i h : Nat, (ii : Int) = (i : Int) → (jj : Int) = (h : Int) → ((0 ≤ (ii : Int) ∧ (ii : Int) < m 4 6) ∧ (0 < m 4 0 ∧ 0 ≤ (jj : Int) ∧ (jj : Int) ≤ m 4 2)) → v = m 36 (5 * h + i)))
      exact gx_rt r_18_34 rfl rfl ⟨_, rfl, fun z => absurd z (by omega), fun i h e e2 z => by rw [show i = ii by omega, show h = jj by omega]⟩
    · refine gx_st (L' := [(2, 1), (0, a), (0, b)]) (S' := [(0, (-2))]) r_18_22 rfl rfl rfl ?_
      exact gx_rt r_18_24 rfl rfl ⟨_, rfl, fun _ => rfl, fun i h e e2 z => (by exfalso; omega)⟩
theorem z_21 (hT : TT T) (hp : PinR m) : GX T 1 21 0 [(2, 1)] [] m (RI (fun v m1 => v = (if 0 < m 4 0 then m 28 11 else -2))) := by
  refine gx_st (L' := [(2, 1)]) (S' := [(2, 1)]) r_21_0 rfl rfl rfl ?_
  refine gx_gf (x := 4) 2 r_21_1 (rfl) (ty_1 hT) ⟨by decide, rfl, by decide, by decide⟩ rfl (fun _ => by omega) (pin_at hp (t := 4) rfl (by decide)) ?_
  refine gx_ci (nx := 7) (S2 := []) (x_252 hT) r_21_4 rfl rfl rfl rfl rfl (rcv_v rfl (ty_4 hT) (by decide) rfl (by decide)) rfl (by decide) rfl (fun x4 n4 q4 => ?_)
  obtain rfl := q4.1.symm
  obtain rfl := q4.2.symm
  show GX T 1 21 7 [(2, 1)] [(0, (if 0 < m 4 0 then 1 else 0))] m (RI (fun v m1 => v = (if 0 < m 4 0 then m 28 11 else -2)))
  refine gx_i0 (P := ¬ (0 < m 4 0)) r_21_7 (b01_eq) (fun h7 => ?_) (fun h7 => ?_)
  · refine gx_st (L' := [(2, 1)]) (S' := [(0, (-2))]) r_21_20 rfl rfl rfl ?_
    exact gx_rt r_21_22 rfl rfl ⟨_, rfl, by rw [if_neg h7]⟩
  · have h7 := Decidable.not_not.mp h7
    refine gx_st (L' := [(2, 1)]) (S' := [(2, 1)]) r_21_10 rfl rfl rfl ?_
    refine gx_gf (x := 28) 2 r_21_11 (rfl) (ty_1 hT) ⟨by decide, rfl, by decide, by decide⟩ rfl (fun _ => by omega) (pin_at hp (t := 28) rfl (by decide)) ?_
    refine gx_gf (x := (m 28 11)) 0 r_21_14 (rfl) (ty_28 hT) ⟨by decide, rfl, by decide, by decide⟩ rfl (fun z => absurd z (by decide)) (rfl) ?_
    refine gx_st (L' := [(2, 1)]) (S' := [(0, (m 28 11))]) r_21_17 rfl rfl rfl ?_
    exact gx_rt r_21_22 rfl rfl ⟨_, rfl, by rw [if_pos h7]⟩
theorem z_22 (hT : TT T) (hp : PinR m) : GX T 1 22 0 [(2, 1)] [] m (RI (fun v m1 => v = (if 0 < m 4 0 then m 28 12 else -2))) := by
  refine gx_st (L' := [(2, 1)]) (S' := [(2, 1)]) r_22_0 rfl rfl rfl ?_
  refine gx_gf (x := 4) 2 r_22_1 (rfl) (ty_1 hT) ⟨by decide, rfl, by decide, by decide⟩ rfl (fun _ => by omega) (pin_at hp (t := 4) rfl (by decide)) ?_
  refine gx_ci (nx := 7) (S2 := []) (x_252 hT) r_22_4 rfl rfl rfl rfl rfl (rcv_v rfl (ty_4 hT) (by decide) rfl (by decide)) rfl (by decide) rfl (fun x4 n4 q4 => ?_)
  obtain rfl := q4.1.symm
  obtain rfl := q4.2.symm
  show GX T 1 22 7 [(2, 1)] [(0, (if 0 < m 4 0 then 1 else 0))] m (RI (fun v m1 => v = (if 0 < m 4 0 then m 28 12 else -2)))
  refine gx_i0 (P := ¬ (0 < m 4 0)) r_22_7 (b01_eq) (fun h7 => ?_) (fun h7 => ?_)
  · refine gx_st (L' := [(2, 1)]) (S' := [(0, (-2))]) r_22_20 rfl rfl rfl ?_
    exact gx_rt r_22_22 rfl rfl ⟨_, rfl, by rw [if_neg h7]⟩
  · have h7 := Decidable.not_not.mp h7
    refine gx_st (L' := [(2, 1)]) (S' := [(2, 1)]) r_22_10 rfl rfl rfl ?_
    refine gx_gf (x := 28) 2 r_22_11 (rfl) (ty_1 hT) ⟨by decide, rfl, by decide, by decide⟩ rfl (fun _ => by omega) (pin_at hp (t := 28) rfl (by decide)) ?_
    refine gx_gf (x := (m 28 12)) 0 r_22_14 (rfl) (ty_28 hT) ⟨by decide, rfl, by decide, by decide⟩ rfl (fun z => absurd z (by decide)) (rfl) ?_
    refine gx_st (L' := [(2, 1)]) (S' := [(0, (m 28 12))]) r_22_17 rfl rfl rfl ?_
    exact gx_rt r_22_22 rfl rfl ⟨_, rfl, by rw [if_pos h7]⟩
theorem z_23 (hT : TT T) (hp : PinR m) : GX T 1 23 0 [(2, 1)] [] m (RI (fun v m1 => v = (if 0 < m 4 0 then m 28 10 else -2))) := by
  refine gx_st (L' := [(2, 1)]) (S' := [(2, 1)]) r_23_0 rfl rfl rfl ?_
  refine gx_gf (x := 4) 2 r_23_1 (rfl) (ty_1 hT) ⟨by decide, rfl, by decide, by decide⟩ rfl (fun _ => by omega) (pin_at hp (t := 4) rfl (by decide)) ?_
  refine gx_ci (nx := 7) (S2 := []) (x_252 hT) r_23_4 rfl rfl rfl rfl rfl (rcv_v rfl (ty_4 hT) (by decide) rfl (by decide)) rfl (by decide) rfl (fun x4 n4 q4 => ?_)
  obtain rfl := q4.1.symm
  obtain rfl := q4.2.symm
  show GX T 1 23 7 [(2, 1)] [(0, (if 0 < m 4 0 then 1 else 0))] m (RI (fun v m1 => v = (if 0 < m 4 0 then m 28 10 else -2)))
  refine gx_i0 (P := ¬ (0 < m 4 0)) r_23_7 (b01_eq) (fun h7 => ?_) (fun h7 => ?_)
  · refine gx_st (L' := [(2, 1)]) (S' := [(0, (-2))]) r_23_20 rfl rfl rfl ?_
    exact gx_rt r_23_22 rfl rfl ⟨_, rfl, by rw [if_neg h7]⟩
  · have h7 := Decidable.not_not.mp h7
    refine gx_st (L' := [(2, 1)]) (S' := [(2, 1)]) r_23_10 rfl rfl rfl ?_
    refine gx_gf (x := 28) 2 r_23_11 (rfl) (ty_1 hT) ⟨by decide, rfl, by decide, by decide⟩ rfl (fun _ => by omega) (pin_at hp (t := 28) rfl (by decide)) ?_
    refine gx_gf (x := (m 28 10)) 0 r_23_14 (rfl) (ty_28 hT) ⟨by decide, rfl, by decide, by decide⟩ rfl (fun z => absurd z (by decide)) (rfl) ?_
    refine gx_st (L' := [(2, 1)]) (S' := [(0, (m 28 10))]) r_23_17 rfl rfl rfl ?_
    exact gx_rt r_23_22 rfl rfl ⟨_, rfl, by rw [if_pos h7]⟩
theorem z_25 (hT : TT T) (hp : PinR m) : GX T 1 25 0 [(2, 1)] [] m (RI (fun v m1 => v = (if 0 < m 4 0 then m 28 13 else -2))) := by
  refine gx_st (L' := [(2, 1)]) (S' := [(2, 1)]) r_25_0 rfl rfl rfl ?_
  refine gx_gf (x := 4) 2 r_25_1 (rfl) (ty_1 hT) ⟨by decide, rfl, by decide, by decide⟩ rfl (fun _ => by omega) (pin_at hp (t := 4) rfl (by decide)) ?_
  refine gx_ci (nx := 7) (S2 := []) (x_252 hT) r_25_4 rfl rfl rfl rfl rfl (rcv_v rfl (ty_4 hT) (by decide) rfl (by decide)) rfl (by decide) rfl (fun x4 n4 q4 => ?_)
  obtain rfl := q4.1.symm
  obtain rfl := q4.2.symm
  show GX T 1 25 7 [(2, 1)] [(0, (if 0 < m 4 0 then 1 else 0))] m (RI (fun v m1 => v = (if 0 < m 4 0 then m 28 13 else -2)))
  refine gx_i0 (P := ¬ (0 < m 4 0)) r_25_7 (b01_eq) (fun h7 => ?_) (fun h7 => ?_)
  · refine gx_st (L' := [(2, 1)]) (S' := [(0, (-2))]) r_25_20 rfl rfl rfl ?_
    exact gx_rt r_25_22 rfl rfl ⟨_, rfl, by rw [if_neg h7]⟩
  · have h7 := Decidable.not_not.mp h7
    refine gx_st (L' := [(2, 1)]) (S' := [(2, 1)]) r_25_10 rfl rfl rfl ?_
    refine gx_gf (x := 28) 2 r_25_11 (rfl) (ty_1 hT) ⟨by decide, rfl, by decide, by decide⟩ rfl (fun _ => by omega) (pin_at hp (t := 28) rfl (by decide)) ?_
    refine gx_gf (x := (m 28 13)) 0 r_25_14 (rfl) (ty_28 hT) ⟨by decide, rfl, by decide, by decide⟩ rfl (fun z => absurd z (by decide)) (rfl) ?_
    refine gx_st (L' := [(2, 1)]) (S' := [(0, (m 28 13))]) r_25_17 rfl rfl rfl ?_
    exact gx_rt r_25_22 rfl rfl ⟨_, rfl, by rw [if_pos h7]⟩
theorem y_93 (hT : TT T) (hp : PinR m) (hm : Gam m) (p : Int) : GX T 1 93 0 [(2, 192), (0, p)] [] m (RI (fun v m1 => v = (if 0 < m 193 9 ∧ 0 ≤ p ∧ p ≤ m 193 1 then 1 else 0) ∧ m1 = m)) := by
  refine gx_st (L' := [(2, 192), (0, p)]) (S' := [(2, 192)]) r_93_0 rfl rfl rfl ?_
  refine gx_ci (nx := 4) (S2 := []) (x_90 hT hm) r_93_1 rfl rfl rfl rfl rfl (rcv_v rfl (ty_192 hT) (by decide) rfl (by decide)) rfl (by decide) rfl (fun x1 n1 q1 => ?_)
  obtain rfl := q1.1.symm
  obtain rfl := q1.2.symm
  show GX T 1 93 4 [(2, 192), (0, p)] [(0, (if 0 < m 193 9 then 1 else 0))] m (RI (fun v m1 => v = (if 0 < m 193 9 ∧ 0 ≤ p ∧ p ≤ m 193 1 then 1 else 0) ∧ m1 = m))
  refine gx_i0 (P := ¬ (0 < m 193 9)) r_93_4 (b01_eq) (fun h4 => ?_) (fun h4 => ?_)
  · refine gx_st (L' := [(2, 192), (0, p)]) (S' := [(0, 0)]) r_93_27 rfl rfl rfl ?_
    exact gx_rb r_93_28 rfl (by decide) ⟨_, rfl, by rw [if_neg (by omega)], rfl⟩
  · have h4 := Decidable.not_not.mp h4
    refine gx_st (L' := [(2, 192), (0, p)]) (S' := [(0, p)]) r_93_7 rfl rfl rfl ?_
    refine gx_st (L' := [(2, 192), (0, p)]) (S' := [(1, p)]) r_93_8 rfl rfl rfl ?_
    refine gx_st (L' := [(2, 192), (0, p)]) (S' := [(1, 0), (1, p)]) r_93_9 rfl rfl rfl ?_
    refine gx_st (L' := [(2, 192), (0, p)]) (S' := [(2, 192), (1, 0), (1, p)]) r_93_10 rfl rfl rfl ?_
    refine gx_gf (x := 193) 2 r_93_11 (rfl) (ty_192 hT) ⟨by decide, rfl, by decide, by decide⟩ rfl (fun _ => by omega) (pin_at hp (t := 193) rfl (by decide)) ?_
    refine gx_st (L' := [(2, 192), (0, p)]) (S' := [(0, 1), (2, 193), (1, 0), (1, p)]) r_93_14 rfl rfl rfl ?_
    refine gx_ia (n := 1) (x := (m 193 1)) r_93_15 (rfl) (ty_193 hT) (rfl) ⟨rfl, by decide⟩ (rfl) ?_
    refine gx_st (L' := [(2, 192), (0, p)]) (S' := [(1, (m 193 1)), (1, 0), (1, p)]) r_93_16 rfl rfl rfl ?_
    refine gx_ci (nx := 20) (S2 := []) (x_86 p 0 (m 193 1)) r_93_17 rfl rfl rfl rfl rfl rfl rfl (by decide) rfl (fun x17 n17 q17 => ?_)
    obtain rfl := q17.1.symm
    obtain rfl := q17.2.symm
    show GX T 1 93 20 [(2, 192), (0, p)] [(0, (if 0 ≤ p ∧ p ≤ (m 193 1) then 1 else 0))] m (RI (fun v m1 => v = (if 0 < m 193 9 ∧ 0 ≤ p ∧ p ≤ m 193 1 then 1 else 0) ∧ m1 = m))
    refine gx_i0 (P := ¬ (0 ≤ p ∧ p ≤ (m 193 1))) r_93_20 (b01_eq) (fun h20 => ?_) (fun h20 => ?_)
    · refine gx_st (L' := [(2, 192), (0, p)]) (S' := [(0, 0)]) r_93_27 rfl rfl rfl ?_
      exact gx_rb r_93_28 rfl (by decide) ⟨_, rfl, by rw [if_neg (by omega)], rfl⟩
    · have h20 := Decidable.not_not.mp h20
      refine gx_st (L' := [(2, 192), (0, p)]) (S' := [(0, 1)]) r_93_23 rfl rfl rfl ?_
      refine gx_st (L' := [(2, 192), (0, p)]) (S' := [(0, 1)]) r_93_24 rfl rfl rfl ?_
      exact gx_rb r_93_28 rfl (by decide) ⟨_, rfl, by rw [if_pos (by omega)], rfl⟩
theorem y_147 (hT : TT T) (h136 : ConH T cn_136) (hp : PinR m) (hm : Gam m) (hx : Ext m) (wb : WB (pw (m 193))) (wp : WP (pw (m 193))) (a : Int) : GX T 11 147 0 [(2, 192), (0, a)] [] m (RI (fun v m1 => v = (if 0 < m 193 9 ∧ 0 ≤ a ∧ a ≤ m 193 1 then 1 else 0) ∧ AskR m m1 ∧ PinR m1 ∧ Gam m1 ∧ m1 193 = m 193)) := by
  refine gx_st (L' := [(2, 192), (0, a)]) (S' := [(2, 192)]) r_147_0 rfl rfl rfl ?_
  refine gx_ci (nx := 4) (S2 := []) (y_146 hT h136 hp hm hx wb wp) r_147_1 rfl rfl rfl rfl rfl (rcv_v rfl (ty_192 hT) (by decide) rfl (by decide)) rfl (by decide) rfl (fun x1 n1 q1 => ?_)
  obtain ⟨e_x1, ak, hp1, gm1, gx1, f1, fs1⟩ := q1
  have e193 : n1 193 = m 193 := funext (Fr_cell (o := 193) f1 (by decide) (by decide))
  rw [e_x1]
  show GX T 11 147 4 [(2, 192), (0, a)] [(0, (if 0 < m 193 9 then 1 else 0))] n1 (RI (fun v m1 => v = (if 0 < m 193 9 ∧ 0 ≤ a ∧ a ≤ m 193 1 then 1 else 0) ∧ AskR m m1 ∧ PinR m1 ∧ Gam m1 ∧ m1 193 = m 193))
  show GX T 11 147 4 [(2, 192), (0, a)] [(0, (if 0 < m 193 9 then 1 else 0))] n1 (RI (fun v m1 => v = (if 0 < m 193 9 ∧ 0 ≤ a ∧ a ≤ m 193 1 then 1 else 0) ∧ AskR m m1 ∧ PinR m1 ∧ Gam m1 ∧ m1 193 = m 193))
  refine gx_i0 (P := ¬ (0 < m 193 9)) r_147_4 (b01_eq) (fun h4 => ?_) (fun h4 => ?_)
  · refine gx_st (L' := [(2, 192), (0, a)]) (S' := [(0, 0)]) r_147_19 rfl rfl rfl ?_
    exact gx_rb r_147_20 rfl (by decide) ⟨_, rfl, by rw [if_neg (by omega)], ak, hp1, gm1, e193⟩
  · have h4 := Decidable.not_not.mp h4
    refine gx_st (L' := [(2, 192), (0, a)]) (S' := [(2, 192)]) r_147_7 rfl rfl rfl ?_
    refine gx_st (L' := [(2, 192), (0, a)]) (S' := [(0, a), (2, 192)]) r_147_8 rfl rfl rfl ?_
    refine gx_ci (nx := 12) (S2 := []) (y_93 hT hp1 gm1 a) r_147_9 rfl rfl rfl rfl rfl (rcv_v rfl (ty_192 hT) (by decide) rfl (by decide)) rfl (by decide) rfl (fun x9 n9 q9 => ?_)
    obtain ⟨e_x9, z_x9⟩ := q9
    obtain rfl := z_x9.symm
    rw [e_x9, e193]
    show GX T 11 147 12 [(2, 192), (0, a)] [(0, (if 0 < m 193 9 ∧ 0 ≤ a ∧ a ≤ m 193 1 then 1 else 0))] n1 (RI (fun v m1 => v = (if 0 < m 193 9 ∧ 0 ≤ a ∧ a ≤ m 193 1 then 1 else 0) ∧ AskR m m1 ∧ PinR m1 ∧ Gam m1 ∧ m1 193 = m 193))
    refine gx_i0 (P := ¬ (0 < m 193 9 ∧ 0 ≤ a ∧ a ≤ m 193 1)) r_147_12 (b01_eq) (fun h12 => ?_) (fun h12 => ?_)
    · refine gx_st (L' := [(2, 192), (0, a)]) (S' := [(0, 0)]) r_147_19 rfl rfl rfl ?_
      exact gx_rb r_147_20 rfl (by decide) ⟨_, rfl, by rw [if_neg (by omega)], ak, hp1, gm1, e193⟩
    · have h12 := Decidable.not_not.mp h12
      refine gx_st (L' := [(2, 192), (0, a)]) (S' := [(0, 1)]) r_147_15 rfl rfl rfl ?_
      refine gx_st (L' := [(2, 192), (0, a)]) (S' := [(0, 1)]) r_147_16 rfl rfl rfl ?_
      exact gx_rb r_147_20 rfl (by decide) ⟨_, rfl, by rw [if_pos (by omega)], ak, hp1, gm1, e193⟩
theorem y_149 (hT : TT T) (h136 : ConH T cn_136) (hp : PinR m) (hm : Gam m) (hx : Ext m) (wb : WB (pw (m 193))) (wp : WP (pw (m 193))) (a : Int) : GX T 12 149 0 [(2, 192), (0, a)] [] m (RI (fun v m1 => AskR m m1 ∧ (¬ (0 < m 193 9 ∧ 0 ≤ a ∧ a ≤ m 193 1) → v = -2) ∧ ∀ h : Nat, a = (h : Int) → (0 < m 193 9 ∧ 0 ≤ a ∧ a ≤ m 193 1) → v = m1 200 (16 * h + 0))) := by
  refine gx_st (L' := [(2, 192), (0, a)]) (S' := [(2, 192)]) r_149_0 rfl rfl rfl ?_
  refine gx_st (L' := [(2, 192), (0, a)]) (S' := [(0, a), (2, 192)]) r_149_1 rfl rfl rfl ?_
  refine gx_ci (nx := 5) (S2 := []) (y_147 hT h136 hp hm hx wb wp a) r_149_2 rfl rfl rfl rfl rfl (rcv_v rfl (ty_192 hT) (by decide) rfl (by decide)) rfl (by decide) rfl (fun x2 n2 q2 => ?_)
  obtain ⟨e_x2, ak, hp1, gm1, e193⟩ := q2
  rw [e_x2]
  have b1 := gb_193_1 hm
  show GX T 12 149 5 [(2, 192), (0, a)] [(0, (if 0 < m 193 9 ∧ 0 ≤ a ∧ a ≤ m 193 1 then 1 else 0))] n2 (RI (fun v m1 => AskR m m1 ∧ (¬ (0 < m 193 9 ∧ 0 ≤ a ∧ a ≤ m 193 1) → v = -2) ∧ ∀ h : Nat, a = (h : Int) → (0 < m 193 9 ∧ 0 ≤ a ∧ a ≤ m 193 1) → v = m1 200 (16 * h + 0)))
  show GX T 12 149 5 [(2, 192), (0, a)] [(0, (if 0 < m 193 9 ∧ 0 ≤ a ∧ a ≤ m 193 1 then 1 else 0))] n2 (RI (fun v m1 => AskR m m1 ∧ (¬ (0 < m 193 9 ∧ 0 ≤ a ∧ a ≤ m 193 1) → v = -2) ∧ ∀ h : Nat, a = (h : Int) → (0 < m 193 9 ∧ 0 ≤ a ∧ a ≤ m 193 1) → v = m1 200 (16 * h + 0)))
  refine gx_i0 (P := ¬ (0 < m 193 9 ∧ 0 ≤ a ∧ a ≤ m 193 1)) r_149_5 (b01_eq) (fun h5 => ?_) (fun h5 => ?_)
  · refine gx_st (L' := [(2, 192), (0, a)]) (S' := [(0, (-2))]) r_149_17 rfl rfl rfl ?_
    exact gx_rt r_149_19 rfl rfl ⟨_, rfl, ak, fun _ => rfl, fun h e z => (by exfalso; omega)⟩
  · have h5 := Decidable.not_not.mp h5
    obtain ⟨ii, h_ii⟩ : ∃ i : Nat, a = (i : Int) := ⟨a.toNat, by omega⟩
    rw [h_ii]
    refine gx_st (L' := [(2, 192), (0, (ii : Int))]) (S' := [(2, 192)]) r_149_8 rfl rfl rfl ?_
    refine gx_st (L' := [(2, 192), (0, (ii : Int))]) (S' := [(0, (ii : Int)), (2, 192)]) r_149_9 rfl rfl rfl ?_
    refine gx_st (L' := [(2, 192), (0, (ii : Int))]) (S' := [(0, 0), (0, (ii : Int)), (2, 192)]) r_149_10 rfl rfl rfl ?_
    refine gx_ci (nx := 14) (S2 := []) (l_131 hT hp1 (h := ii) (k := 0) (i := 16 * ii + 0) (by omega) (by omega)) r_149_11 rfl rfl rfl rfl rfl (rcv_v rfl (ty_192 hT) (by decide) rfl (by decide)) rfl (by decide) rfl (fun x11 n11 q11 => ?_)
    obtain rfl := q11.1.symm
    obtain rfl := q11.2.symm
    show GX T 12 149 14 [(2, 192), (0, (ii : Int))] [(0, (n2 200 (16 * ii + 0)))] n2 (RI (fun v m1 => AskR m m1 ∧ (¬ (0 < m 193 9 ∧ 0 ≤ (ii : Int) ∧ (ii : Int) ≤ m 193 1) → v = -2) ∧ ∀ h : Nat, (ii : Int) = (h : Int) → (0 < m 193 9 ∧ 0 ≤ (ii : Int) ∧ (ii : Int) ≤ m 193 1) → v = m1 200 (16 * h + 0)))
    refine gx_st (L' := [(2, 192), (0, (ii : Int))]) (S' := [(0, (n2 200 (16 * ii + 0)))]) r_149_14 rfl rfl rfl ?_
    exact gx_rt r_149_19 rfl rfl ⟨_, rfl, ak, fun z => absurd z (by omega), fun h e z => by rw [show h = ii by omega]⟩
theorem y_150 (hT : TT T) (h136 : ConH T cn_136) (hp : PinR m) (hm : Gam m) (hx : Ext m) (wb : WB (pw (m 193))) (wp : WP (pw (m 193))) (a : Int) : GX T 12 150 0 [(2, 192), (0, a)] [] m (RI (fun v m1 => AskR m m1 ∧ (¬ (0 < m 193 9 ∧ 0 ≤ a ∧ a ≤ m 193 1) → v = -2) ∧ ∀ h : Nat, a = (h : Int) → (0 < m 193 9 ∧ 0 ≤ a ∧ a ≤ m 193 1) → v = m1 200 (16 * h + 1))) := by
  refine gx_st (L' := [(2, 192), (0, a)]) (S' := [(2, 192)]) r_150_0 rfl rfl rfl ?_
  refine gx_st (L' := [(2, 192), (0, a)]) (S' := [(0, a), (2, 192)]) r_150_1 rfl rfl rfl ?_
  refine gx_ci (nx := 5) (S2 := []) (y_147 hT h136 hp hm hx wb wp a) r_150_2 rfl rfl rfl rfl rfl (rcv_v rfl (ty_192 hT) (by decide) rfl (by decide)) rfl (by decide) rfl (fun x2 n2 q2 => ?_)
  obtain ⟨e_x2, ak, hp1, gm1, e193⟩ := q2
  rw [e_x2]
  have b1 := gb_193_1 hm
  show GX T 12 150 5 [(2, 192), (0, a)] [(0, (if 0 < m 193 9 ∧ 0 ≤ a ∧ a ≤ m 193 1 then 1 else 0))] n2 (RI (fun v m1 => AskR m m1 ∧ (¬ (0 < m 193 9 ∧ 0 ≤ a ∧ a ≤ m 193 1) → v = -2) ∧ ∀ h : Nat, a = (h : Int) → (0 < m 193 9 ∧ 0 ≤ a ∧ a ≤ m 193 1) → v = m1 200 (16 * h + 1)))
  show GX T 12 150 5 [(2, 192), (0, a)] [(0, (if 0 < m 193 9 ∧ 0 ≤ a ∧ a ≤ m 193 1 then 1 else 0))] n2 (RI (fun v m1 => AskR m m1 ∧ (¬ (0 < m 193 9 ∧ 0 ≤ a ∧ a ≤ m 193 1) → v = -2) ∧ ∀ h : Nat, a = (h : Int) → (0 < m 193 9 ∧ 0 ≤ a ∧ a ≤ m 193 1) → v = m1 200 (16 * h + 1)))
  refine gx_i0 (P := ¬ (0 < m 193 9 ∧ 0 ≤ a ∧ a ≤ m 193 1)) r_150_5 (b01_eq) (fun h5 => ?_) (fun h5 => ?_)
  · refine gx_st (L' := [(2, 192), (0, a)]) (S' := [(0, (-2))]) r_150_17 rfl rfl rfl ?_
    exact gx_rt r_150_19 rfl rfl ⟨_, rfl, ak, fun _ => rfl, fun h e z => (by exfalso; omega)⟩
  · have h5 := Decidable.not_not.mp h5
    obtain ⟨ii, h_ii⟩ : ∃ i : Nat, a = (i : Int) := ⟨a.toNat, by omega⟩
    rw [h_ii]
    refine gx_st (L' := [(2, 192), (0, (ii : Int))]) (S' := [(2, 192)]) r_150_8 rfl rfl rfl ?_
    refine gx_st (L' := [(2, 192), (0, (ii : Int))]) (S' := [(0, (ii : Int)), (2, 192)]) r_150_9 rfl rfl rfl ?_
    refine gx_st (L' := [(2, 192), (0, (ii : Int))]) (S' := [(0, 1), (0, (ii : Int)), (2, 192)]) r_150_10 rfl rfl rfl ?_
    refine gx_ci (nx := 14) (S2 := []) (l_131 hT hp1 (h := ii) (k := 1) (i := 16 * ii + 1) (by omega) (by omega)) r_150_11 rfl rfl rfl rfl rfl (rcv_v rfl (ty_192 hT) (by decide) rfl (by decide)) rfl (by decide) rfl (fun x11 n11 q11 => ?_)
    obtain rfl := q11.1.symm
    obtain rfl := q11.2.symm
    show GX T 12 150 14 [(2, 192), (0, (ii : Int))] [(0, (n2 200 (16 * ii + 1)))] n2 (RI (fun v m1 => AskR m m1 ∧ (¬ (0 < m 193 9 ∧ 0 ≤ (ii : Int) ∧ (ii : Int) ≤ m 193 1) → v = -2) ∧ ∀ h : Nat, (ii : Int) = (h : Int) → (0 < m 193 9 ∧ 0 ≤ (ii : Int) ∧ (ii : Int) ≤ m 193 1) → v = m1 200 (16 * h + 1)))
    refine gx_st (L' := [(2, 192), (0, (ii : Int))]) (S' := [(0, (n2 200 (16 * ii + 1)))]) r_150_14 rfl rfl rfl ?_
    exact gx_rt r_150_19 rfl rfl ⟨_, rfl, ak, fun z => absurd z (by omega), fun h e z => by rw [show h = ii by omega]⟩
theorem y_151 (hT : TT T) (h136 : ConH T cn_136) (hp : PinR m) (hm : Gam m) (hx : Ext m) (wb : WB (pw (m 193))) (wp : WP (pw (m 193))) (a : Int) : GX T 12 151 0 [(2, 192), (0, a)] [] m (RI (fun v m1 => AskR m m1 ∧ (¬ (0 < m 193 9 ∧ 0 ≤ a ∧ a ≤ m 193 1) → v = -2) ∧ ∀ h : Nat, a = (h : Int) → (0 < m 193 9 ∧ 0 ≤ a ∧ a ≤ m 193 1) → v = m1 200 (16 * h + 2))) := by
  refine gx_st (L' := [(2, 192), (0, a)]) (S' := [(2, 192)]) r_151_0 rfl rfl rfl ?_
  refine gx_st (L' := [(2, 192), (0, a)]) (S' := [(0, a), (2, 192)]) r_151_1 rfl rfl rfl ?_
  refine gx_ci (nx := 5) (S2 := []) (y_147 hT h136 hp hm hx wb wp a) r_151_2 rfl rfl rfl rfl rfl (rcv_v rfl (ty_192 hT) (by decide) rfl (by decide)) rfl (by decide) rfl (fun x2 n2 q2 => ?_)
  obtain ⟨e_x2, ak, hp1, gm1, e193⟩ := q2
  rw [e_x2]
  have b1 := gb_193_1 hm
  show GX T 12 151 5 [(2, 192), (0, a)] [(0, (if 0 < m 193 9 ∧ 0 ≤ a ∧ a ≤ m 193 1 then 1 else 0))] n2 (RI (fun v m1 => AskR m m1 ∧ (¬ (0 < m 193 9 ∧ 0 ≤ a ∧ a ≤ m 193 1) → v = -2) ∧ ∀ h : Nat, a = (h : Int) → (0 < m 193 9 ∧ 0 ≤ a ∧ a ≤ m 193 1) → v = m1 200 (16 * h + 2)))
  show GX T 12 151 5 [(2, 192), (0, a)] [(0, (if 0 < m 193 9 ∧ 0 ≤ a ∧ a ≤ m 193 1 then 1 else 0))] n2 (RI (fun v m1 => AskR m m1 ∧ (¬ (0 < m 193 9 ∧ 0 ≤ a ∧ a ≤ m 193 1) → v = -2) ∧ ∀ h : Nat, a = (h : Int) → (0 < m 193 9 ∧ 0 ≤ a ∧ a ≤ m 193 1) → v = m1 200 (16 * h + 2)))
  refine gx_i0 (P := ¬ (0 < m 193 9 ∧ 0 ≤ a ∧ a ≤ m 193 1)) r_151_5 (b01_eq) (fun h5 => ?_) (fun h5 => ?_)
  · refine gx_st (L' := [(2, 192), (0, a)]) (S' := [(0, (-2))]) r_151_17 rfl rfl rfl ?_
    exact gx_rt r_151_19 rfl rfl ⟨_, rfl, ak, fun _ => rfl, fun h e z => (by exfalso; omega)⟩
  · have h5 := Decidable.not_not.mp h5
    obtain ⟨ii, h_ii⟩ : ∃ i : Nat, a = (i : Int) := ⟨a.toNat, by omega⟩
    rw [h_ii]
    refine gx_st (L' := [(2, 192), (0, (ii : Int))]) (S' := [(2, 192)]) r_151_8 rfl rfl rfl ?_
    refine gx_st (L' := [(2, 192), (0, (ii : Int))]) (S' := [(0, (ii : Int)), (2, 192)]) r_151_9 rfl rfl rfl ?_
    refine gx_st (L' := [(2, 192), (0, (ii : Int))]) (S' := [(0, 2), (0, (ii : Int)), (2, 192)]) r_151_10 rfl rfl rfl ?_
    refine gx_ci (nx := 14) (S2 := []) (l_131 hT hp1 (h := ii) (k := 2) (i := 16 * ii + 2) (by omega) (by omega)) r_151_11 rfl rfl rfl rfl rfl (rcv_v rfl (ty_192 hT) (by decide) rfl (by decide)) rfl (by decide) rfl (fun x11 n11 q11 => ?_)
    obtain rfl := q11.1.symm
    obtain rfl := q11.2.symm
    show GX T 12 151 14 [(2, 192), (0, (ii : Int))] [(0, (n2 200 (16 * ii + 2)))] n2 (RI (fun v m1 => AskR m m1 ∧ (¬ (0 < m 193 9 ∧ 0 ≤ (ii : Int) ∧ (ii : Int) ≤ m 193 1) → v = -2) ∧ ∀ h : Nat, (ii : Int) = (h : Int) → (0 < m 193 9 ∧ 0 ≤ (ii : Int) ∧ (ii : Int) ≤ m 193 1) → v = m1 200 (16 * h + 2)))
    refine gx_st (L' := [(2, 192), (0, (ii : Int))]) (S' := [(0, (n2 200 (16 * ii + 2)))]) r_151_14 rfl rfl rfl ?_
    exact gx_rt r_151_19 rfl rfl ⟨_, rfl, ak, fun z => absurd z (by omega), fun h e z => by rw [show h = ii by omega]⟩
theorem y_152 (hT : TT T) (h136 : ConH T cn_136) (hp : PinR m) (hm : Gam m) (hx : Ext m) (wb : WB (pw (m 193))) (wp : WP (pw (m 193))) (a b : Int) : GX T 12 152 0 [(2, 192), (0, a), (0, b)] [] m (RI (fun v m1 => AskR m m1 ∧ (¬ ((0 ≤ a ∧ a < m 193 7) ∧ (0 < m 193 9 ∧ 0 ≤ b ∧ b ≤ m 193 1)) → v = -2) ∧ ∀ i h : Nat, a = (i : Int) → b = (h : Int) → ((0 ≤ a ∧ a < m 193 7) ∧ (0 < m 193 9 ∧ 0 ≤ b ∧ b ≤ m 193 1)) → v = m1 200 (16 * h + (6 + i)))) := by
  refine gx_st (L' := [(2, 192), (0, a), (0, b)]) (S' := [(2, 192)]) r_152_0 rfl rfl rfl ?_
  refine gx_st (L' := [(2, 192), (0, a), (0, b)]) (S' := [(0, b), (2, 192)]) r_152_1 rfl rfl rfl ?_
  refine gx_ci (nx := 5) (S2 := []) (y_147 hT h136 hp hm hx wb wp b) r_152_2 rfl rfl rfl rfl rfl (rcv_v rfl (ty_192 hT) (by decide) rfl (by decide)) rfl (by decide) rfl (fun x2 n2 q2 => ?_)
  obtain ⟨e_x2, ak, hp1, gm1, e193⟩ := q2
  rw [e_x2]
  have b1 := gb_193_1 hm
  show GX T 12 152 5 [(2, 192), (0, a), (0, b)] [(0, (if 0 < m 193 9 ∧ 0 ≤ b ∧ b ≤ m 193 1 then 1 else 0))] n2 (RI (fun v m1 => AskR m m1 ∧ (¬ ((0 ≤ a ∧ a < m 193 7) ∧ (0 < m 193 9 ∧ 0 ≤ b ∧ b ≤ m 193 1)) → v = -2) ∧ ∀ i h : Nat, a = (i : Int) → b = (h : Int) → ((0 ≤ a ∧ a < m 193 7) ∧ (0 < m 193 9 ∧ 0 ≤ b ∧ b ≤ m 193 1)) → v = m1 200 (16 * h + (6 + i))))
  show GX T 12 152 5 [(2, 192), (0, a), (0, b)] [(0, (if 0 < m 193 9 ∧ 0 ≤ b ∧ b ≤ m 193 1 then 1 else 0))] n2 (RI (fun v m1 => AskR m m1 ∧ (¬ ((0 ≤ a ∧ a < m 193 7) ∧ (0 < m 193 9 ∧ 0 ≤ b ∧ b ≤ m 193 1)) → v = -2) ∧ ∀ i h : Nat, a = (i : Int) → b = (h : Int) → ((0 ≤ a ∧ a < m 193 7) ∧ (0 < m 193 9 ∧ 0 ≤ b ∧ b ≤ m 193 1)) → v = m1 200 (16 * h + (6 + i))))
  refine gx_i0 (P := ¬ (0 < m 193 9 ∧ 0 ≤ b ∧ b ≤ m 193 1)) r_152_5 (b01_eq) (fun h5 => ?_) (fun h5 => ?_)
  · refine gx_st (L' := [(2, 192), (0, a), (0, b)]) (S' := [(0, (-2))]) r_152_28 rfl rfl rfl ?_
    exact gx_rt r_152_30 rfl rfl ⟨_, rfl, ak, fun _ => rfl, fun i h e e2 z => (by exfalso; omega)⟩
  · have h5 := Decidable.not_not.mp h5
    refine gx_st (L' := [(2, 192), (0, a), (0, b)]) (S' := [(2, 192)]) r_152_8 rfl rfl rfl ?_
    refine gx_st (L' := [(2, 192), (0, a), (0, b)]) (S' := [(0, a), (2, 192)]) r_152_9 rfl rfl rfl ?_
    refine gx_ci (nx := 13) (S2 := []) (x_96 hT gm1 a) r_152_10 rfl rfl rfl rfl rfl (rcv_v rfl (ty_192 hT) (by decide) rfl (by decide)) rfl (by decide) rfl (fun x10 n10 q10 => ?_)
    obtain ⟨e_x10, z_x10⟩ := q10
    obtain rfl := z_x10.symm
    rw [e_x10, e193]
    show GX T 12 152 13 [(2, 192), (0, a), (0, b)] [(0, (if 0 ≤ a ∧ a ≤ m 193 7 - 1 then 1 else 0))] n2 (RI (fun v m1 => AskR m m1 ∧ (¬ ((0 ≤ a ∧ a < m 193 7) ∧ (0 < m 193 9 ∧ 0 ≤ b ∧ b ≤ m 193 1)) → v = -2) ∧ ∀ i h : Nat, a = (i : Int) → b = (h : Int) → ((0 ≤ a ∧ a < m 193 7) ∧ (0 < m 193 9 ∧ 0 ≤ b ∧ b ≤ m 193 1)) → v = m1 200 (16 * h + (6 + i))))
    refine gx_i0 (P := ¬ (0 ≤ a ∧ a ≤ m 193 7 - 1)) r_152_13 (b01_eq) (fun h13 => ?_) (fun h13 => ?_)
    · refine gx_st (L' := [(2, 192), (0, a), (0, b)]) (S' := [(0, (-2))]) r_152_28 rfl rfl rfl ?_
      exact gx_rt r_152_30 rfl rfl ⟨_, rfl, ak, fun _ => rfl, fun i h e e2 z => (by exfalso; omega)⟩
    · have h13 := Decidable.not_not.mp h13
      have b7 := gb_193_7 hm
      have b5 := gb_193_5 hm
      obtain ⟨ii, h_ii⟩ : ∃ i : Nat, a = (i : Int) := ⟨a.toNat, by omega⟩
      rw [h_ii]
      obtain ⟨jj, h_jj⟩ : ∃ i : Nat, b = (i : Int) := ⟨b.toNat, by omega⟩
      rw [h_jj]
      refine gx_st (L' := [(2, 192), (0, (ii : Int)), (0, (jj : Int))]) (S' := [(2, 192)]) r_152_16 rfl rfl rfl ?_
      refine gx_st (L' := [(2, 192), (0, (ii : Int)), (0, (jj : Int))]) (S' := [(0, (jj : Int)), (2, 192)]) r_152_17 rfl rfl rfl ?_
      refine gx_st (L' := [(2, 192), (0, (ii : Int)), (0, (jj : Int))]) (S' := [(0, 6), (0, (jj : Int)), (2, 192)]) r_152_18 rfl rfl rfl ?_
      refine gx_st (L' := [(2, 192), (0, (ii : Int)), (0, (jj : Int))]) (S' := [(0, (ii : Int)), (0, 6), (0, (jj : Int)), (2, 192)]) r_152_20 rfl rfl rfl ?_
      refine gx_ar (L' := [(2, 192), (0, (ii : Int)), (0, (jj : Int))]) (S' := [(0, (jj : Int)), (2, 192)]) (t := 0) (e := w32 (6 + (ii : Int))) (z := (ii : Int) + 6) r_152_21 rfl rfl rfl (w32_eq (by omega) (by omega) (by omega)) ?_
      refine gx_ci (nx := 25) (S2 := []) (l_131 hT hp1 (h := jj) (k := ii + 6) (i := 16 * jj + (6 + ii)) (by omega) (by omega)) r_152_22 rfl rfl rfl rfl rfl (rcv_v rfl (ty_192 hT) (by decide) rfl (by decide)) rfl (by decide) rfl (fun x22 n22 q22 => ?_)
      obtain rfl := q22.1.symm
      obtain rfl := q22.2.symm
      show GX T 12 152 25 [(2, 192), (0, (ii : Int)), (0, (jj : Int))] [(0, (n2 200 (16 * jj + (6 + ii))))] n2 (RI (fun v m1 => AskR m m1 ∧ (¬ ((0 ≤ (ii : Int) ∧ (ii : Int) < m 193 7) ∧ (0 < m 193 9 ∧ 0 ≤ (jj : Int) ∧ (jj : Int) ≤ m 193 1)) → v = -2) ∧ ∀ i h : Nat, (ii : Int) = (i : Int) → (jj : Int) = (h : Int) → ((0 ≤ (ii : Int) ∧ (ii : Int) < m 193 7) ∧ (0 < m 193 9 ∧ 0 ≤ (jj : Int) ∧ (jj : Int) ≤ m 193 1)) → v = m1 200 (16 * h + (6 + i))))
      refine gx_st (L' := [(2, 192), (0, (ii : Int)), (0, (jj : Int))]) (S' := [(0, (n2 200 (16 * jj + (6 + ii))))]) r_152_25 rfl rfl rfl ?_
      exact gx_rt r_152_30 rfl rfl ⟨_, rfl, ak, fun z => absurd z (by omega), fun i h e e2 z => by rw [show i = ii by omega, show h = jj by omega]⟩
theorem y_153 (hT : TT T) (h136 : ConH T cn_136) (hp : PinR m) (hm : Gam m) (hx : Ext m) (wb : WB (pw (m 193))) (wp : WP (pw (m 193))) (a b : Int) : GX T 12 153 0 [(2, 192), (0, a), (0, b)] [] m (RI (fun v m1 => AskR m m1 ∧ (¬ ((0 ≤ a ∧ a < m 193 5) ∧ (0 < m 193 9 ∧ 0 ≤ b ∧ b ≤ m 193 1)) → v = -2) ∧ ∀ i h : Nat, a = (i : Int) → b = (h : Int) → ((0 ≤ a ∧ a < m 193 5) ∧ (0 < m 193 9 ∧ 0 ≤ b ∧ b ≤ m 193 1)) → v = m1 200 (16 * h + (11 + i)))) := by
  refine gx_st (L' := [(2, 192), (0, a), (0, b)]) (S' := [(2, 192)]) r_153_0 rfl rfl rfl ?_
  refine gx_st (L' := [(2, 192), (0, a), (0, b)]) (S' := [(0, b), (2, 192)]) r_153_1 rfl rfl rfl ?_
  refine gx_ci (nx := 5) (S2 := []) (y_147 hT h136 hp hm hx wb wp b) r_153_2 rfl rfl rfl rfl rfl (rcv_v rfl (ty_192 hT) (by decide) rfl (by decide)) rfl (by decide) rfl (fun x2 n2 q2 => ?_)
  obtain ⟨e_x2, ak, hp1, gm1, e193⟩ := q2
  rw [e_x2]
  have b1 := gb_193_1 hm
  show GX T 12 153 5 [(2, 192), (0, a), (0, b)] [(0, (if 0 < m 193 9 ∧ 0 ≤ b ∧ b ≤ m 193 1 then 1 else 0))] n2 (RI (fun v m1 => AskR m m1 ∧ (¬ ((0 ≤ a ∧ a < m 193 5) ∧ (0 < m 193 9 ∧ 0 ≤ b ∧ b ≤ m 193 1)) → v = -2) ∧ ∀ i h : Nat, a = (i : Int) → b = (h : Int) → ((0 ≤ a ∧ a < m 193 5) ∧ (0 < m 193 9 ∧ 0 ≤ b ∧ b ≤ m 193 1)) → v = m1 200 (16 * h + (11 + i))))
  show GX T 12 153 5 [(2, 192), (0, a), (0, b)] [(0, (if 0 < m 193 9 ∧ 0 ≤ b ∧ b ≤ m 193 1 then 1 else 0))] n2 (RI (fun v m1 => AskR m m1 ∧ (¬ ((0 ≤ a ∧ a < m 193 5) ∧ (0 < m 193 9 ∧ 0 ≤ b ∧ b ≤ m 193 1)) → v = -2) ∧ ∀ i h : Nat, a = (i : Int) → b = (h : Int) → ((0 ≤ a ∧ a < m 193 5) ∧ (0 < m 193 9 ∧ 0 ≤ b ∧ b ≤ m 193 1)) → v = m1 200 (16 * h + (11 + i))))
  refine gx_i0 (P := ¬ (0 < m 193 9 ∧ 0 ≤ b ∧ b ≤ m 193 1)) r_153_5 (b01_eq) (fun h5 => ?_) (fun h5 => ?_)
  · refine gx_st (L' := [(2, 192), (0, a), (0, b)]) (S' := [(0, (-2))]) r_153_29 rfl rfl rfl ?_
    exact gx_rt r_153_31 rfl rfl ⟨_, rfl, ak, fun _ => rfl, fun i h e e2 z => (by exfalso; omega)⟩
  · have h5 := Decidable.not_not.mp h5
    refine gx_st (L' := [(2, 192), (0, a), (0, b)]) (S' := [(2, 192)]) r_153_8 rfl rfl rfl ?_
    refine gx_st (L' := [(2, 192), (0, a), (0, b)]) (S' := [(0, a), (2, 192)]) r_153_9 rfl rfl rfl ?_
    refine gx_st (L' := [(2, 192), (0, a), (0, b)]) (S' := [(1, a), (2, 192)]) r_153_10 rfl rfl rfl ?_
    refine gx_ci (nx := 14) (S2 := []) (x_94 hT gm1 a) r_153_11 rfl rfl rfl rfl rfl (rcv_v rfl (ty_192 hT) (by decide) rfl (by decide)) rfl (by decide) rfl (fun x11 n11 q11 => ?_)
    obtain ⟨e_x11, z_x11⟩ := q11
    obtain rfl := z_x11.symm
    rw [e_x11, e193]
    show GX T 12 153 14 [(2, 192), (0, a), (0, b)] [(0, (if 0 ≤ a ∧ a ≤ m 193 5 - 1 then 1 else 0))] n2 (RI (fun v m1 => AskR m m1 ∧ (¬ ((0 ≤ a ∧ a < m 193 5) ∧ (0 < m 193 9 ∧ 0 ≤ b ∧ b ≤ m 193 1)) → v = -2) ∧ ∀ i h : Nat, a = (i : Int) → b = (h : Int) → ((0 ≤ a ∧ a < m 193 5) ∧ (0 < m 193 9 ∧ 0 ≤ b ∧ b ≤ m 193 1)) → v = m1 200 (16 * h + (11 + i))))
    refine gx_i0 (P := ¬ (0 ≤ a ∧ a ≤ m 193 5 - 1)) r_153_14 (b01_eq) (fun h14 => ?_) (fun h14 => ?_)
    · refine gx_st (L' := [(2, 192), (0, a), (0, b)]) (S' := [(0, (-2))]) r_153_29 rfl rfl rfl ?_
      exact gx_rt r_153_31 rfl rfl ⟨_, rfl, ak, fun _ => rfl, fun i h e e2 z => (by exfalso; omega)⟩
    · have h14 := Decidable.not_not.mp h14
      have b7 := gb_193_7 hm
      have b5 := gb_193_5 hm
      obtain ⟨ii, h_ii⟩ : ∃ i : Nat, a = (i : Int) := ⟨a.toNat, by omega⟩
      rw [h_ii]
      obtain ⟨jj, h_jj⟩ : ∃ i : Nat, b = (i : Int) := ⟨b.toNat, by omega⟩
      rw [h_jj]
      refine gx_st (L' := [(2, 192), (0, (ii : Int)), (0, (jj : Int))]) (S' := [(2, 192)]) r_153_17 rfl rfl rfl ?_
      refine gx_st (L' := [(2, 192), (0, (ii : Int)), (0, (jj : Int))]) (S' := [(0, (jj : Int)), (2, 192)]) r_153_18 rfl rfl rfl ?_
      refine gx_st (L' := [(2, 192), (0, (ii : Int)), (0, (jj : Int))]) (S' := [(0, 11), (0, (jj : Int)), (2, 192)]) r_153_19 rfl rfl rfl ?_
      refine gx_st (L' := [(2, 192), (0, (ii : Int)), (0, (jj : Int))]) (S' := [(0, (ii : Int)), (0, 11), (0, (jj : Int)), (2, 192)]) r_153_21 rfl rfl rfl ?_
      refine gx_ar (L' := [(2, 192), (0, (ii : Int)), (0, (jj : Int))]) (S' := [(0, (jj : Int)), (2, 192)]) (t := 0) (e := w32 (11 + (ii : Int))) (z := (ii : Int) + 11) r_153_22 rfl rfl rfl (w32_eq (by omega) (by omega) (by omega)) ?_
      refine gx_ci (nx := 26) (S2 := []) (l_131 hT hp1 (h := jj) (k := ii + 11) (i := 16 * jj + (11 + ii)) (by omega) (by omega)) r_153_23 rfl rfl rfl rfl rfl (rcv_v rfl (ty_192 hT) (by decide) rfl (by decide)) rfl (by decide) rfl (fun x23 n23 q23 => ?_)
      obtain rfl := q23.1.symm
      obtain rfl := q23.2.symm
      show GX T 12 153 26 [(2, 192), (0, (ii : Int)), (0, (jj : Int))] [(0, (n2 200 (16 * jj + (11 + ii))))] n2 (RI (fun v m1 => AskR m m1 ∧ (¬ ((0 ≤ (ii : Int) ∧ (ii : Int) < m 193 5) ∧ (0 < m 193 9 ∧ 0 ≤ (jj : Int) ∧ (jj : Int) ≤ m 193 1)) → v = -2) ∧ ∀ i h : Nat, (ii : Int) = (i : Int) → (jj : Int) = (h : Int) → ((0 ≤ (ii : Int) ∧ (ii : Int) < m 193 5) ∧ (0 < m 193 9 ∧ 0 ≤ (jj : Int) ∧ (jj : Int) ≤ m 193 1)) → v = m1 200 (16 * h + (11 + i))))
      refine gx_st (L' := [(2, 192), (0, (ii : Int)), (0, (jj : Int))]) (S' := [(0, (n2 200 (16 * jj + (11 + ii))))]) r_153_26 rfl rfl rfl ?_
      exact gx_rt r_153_31 rfl rfl ⟨_, rfl, ak, fun z => absurd z (by omega), fun i h e e2 z => by rw [show i = ii by omega, show h = jj by omega]⟩
theorem y_156 (hT : TT T) (h136 : ConH T cn_136) (hp : PinR m) (hm : Gam m) (hx : Ext m) (wb : WB (pw (m 193))) (wp : WP (pw (m 193))) : GX T 11 156 0 [(2, 192)] [] m (RI (fun v m1 => AskR m m1 ∧ v = (if 0 < m 193 9 then m1 192 21 else -2))) := by
  refine gx_st (L' := [(2, 192)]) (S' := [(2, 192)]) r_156_0 rfl rfl rfl ?_
  refine gx_ci (nx := 4) (S2 := []) (y_146 hT h136 hp hm hx wb wp) r_156_1 rfl rfl rfl rfl rfl (rcv_v rfl (ty_192 hT) (by decide) rfl (by decide)) rfl (by decide) rfl (fun x1 n1 q1 => ?_)
  obtain ⟨e_x1, ak, hp1, gm1, gx1, f1, fs1⟩ := q1
  have e193 : n1 193 = m 193 := funext (Fr_cell (o := 193) f1 (by decide) (by decide))
  rw [e_x1]
  show GX T 11 156 4 [(2, 192)] [(0, (if 0 < m 193 9 then 1 else 0))] n1 (RI (fun v m1 => AskR m m1 ∧ v = (if 0 < m 193 9 then m1 192 21 else -2)))
  show GX T 11 156 4 [(2, 192)] [(0, (if 0 < m 193 9 then 1 else 0))] n1 (RI (fun v m1 => AskR m m1 ∧ v = (if 0 < m 193 9 then m1 192 21 else -2)))
  refine gx_i0 (P := ¬ (0 < m 193 9)) r_156_4 (b01_eq) (fun h4 => ?_) (fun h4 => ?_)
  · refine gx_st (L' := [(2, 192)]) (S' := [(0, (-2))]) r_156_14 rfl rfl rfl ?_
    exact gx_rt r_156_16 rfl rfl ⟨_, rfl, ak, by rw [if_neg h4]⟩
  · have h4 := Decidable.not_not.mp h4
    refine gx_st (L' := [(2, 192)]) (S' := [(2, 192)]) r_156_7 rfl rfl rfl ?_
    refine gx_gf (x := (n1 192 21)) 0 r_156_8 (rfl) (ty_192 hT) ⟨by decide, rfl, by decide, by decide⟩ rfl (fun z => absurd z (by decide)) (rfl) ?_
    refine gx_st (L' := [(2, 192)]) (S' := [(0, (n1 192 21))]) r_156_11 rfl rfl rfl ?_
    exact gx_rt r_156_16 rfl rfl ⟨_, rfl, ak, by rw [if_pos h4]⟩
theorem y_157 (hT : TT T) (h136 : ConH T cn_136) (hp : PinR m) (hm : Gam m) (hx : Ext m) (wb : WB (pw (m 193))) (wp : WP (pw (m 193))) : GX T 11 157 0 [(2, 192)] [] m (RI (fun v m1 => AskR m m1 ∧ v = (if 0 < m 193 9 then m1 192 22 else -2))) := by
  refine gx_st (L' := [(2, 192)]) (S' := [(2, 192)]) r_157_0 rfl rfl rfl ?_
  refine gx_ci (nx := 4) (S2 := []) (y_146 hT h136 hp hm hx wb wp) r_157_1 rfl rfl rfl rfl rfl (rcv_v rfl (ty_192 hT) (by decide) rfl (by decide)) rfl (by decide) rfl (fun x1 n1 q1 => ?_)
  obtain ⟨e_x1, ak, hp1, gm1, gx1, f1, fs1⟩ := q1
  have e193 : n1 193 = m 193 := funext (Fr_cell (o := 193) f1 (by decide) (by decide))
  rw [e_x1]
  show GX T 11 157 4 [(2, 192)] [(0, (if 0 < m 193 9 then 1 else 0))] n1 (RI (fun v m1 => AskR m m1 ∧ v = (if 0 < m 193 9 then m1 192 22 else -2)))
  show GX T 11 157 4 [(2, 192)] [(0, (if 0 < m 193 9 then 1 else 0))] n1 (RI (fun v m1 => AskR m m1 ∧ v = (if 0 < m 193 9 then m1 192 22 else -2)))
  refine gx_i0 (P := ¬ (0 < m 193 9)) r_157_4 (b01_eq) (fun h4 => ?_) (fun h4 => ?_)
  · refine gx_st (L' := [(2, 192)]) (S' := [(0, (-2))]) r_157_14 rfl rfl rfl ?_
    exact gx_rt r_157_16 rfl rfl ⟨_, rfl, ak, by rw [if_neg h4]⟩
  · have h4 := Decidable.not_not.mp h4
    refine gx_st (L' := [(2, 192)]) (S' := [(2, 192)]) r_157_7 rfl rfl rfl ?_
    refine gx_gf (x := (n1 192 22)) 0 r_157_8 (rfl) (ty_192 hT) ⟨by decide, rfl, by decide, by decide⟩ rfl (fun z => absurd z (by decide)) (rfl) ?_
    refine gx_st (L' := [(2, 192)]) (S' := [(0, (n1 192 22))]) r_157_11 rfl rfl rfl ?_
    exact gx_rt r_157_16 rfl rfl ⟨_, rfl, ak, by rw [if_pos h4]⟩
theorem y_161 (hT : TT T) (h136 : ConH T cn_136) (hp : PinR m) (hm : Gam m) (hx : Ext m) (wb : WB (pw (m 193))) (wp : WP (pw (m 193))) : GX T 11 161 0 [(2, 192)] [] m (RI (fun v m1 => AskR m m1 ∧ (¬ 0 < m 193 9 → v = -2) ∧ ∀ k : Nat, m 193 1 = (k : Int) → 0 < m 193 9 → v = m1 200 (16 * k + 5))) := by
  refine gx_st (L' := [(2, 192)]) (S' := [(2, 192)]) r_161_0 rfl rfl rfl ?_
  refine gx_ci (nx := 4) (S2 := []) (y_146 hT h136 hp hm hx wb wp) r_161_1 rfl rfl rfl rfl rfl (rcv_v rfl (ty_192 hT) (by decide) rfl (by decide)) rfl (by decide) rfl (fun x1 n1 q1 => ?_)
  obtain ⟨e_x1, ak, hp1, gm1, gx1, f1, fs1⟩ := q1
  have e193 : n1 193 = m 193 := funext (Fr_cell (o := 193) f1 (by decide) (by decide))
  rw [e_x1]
  show GX T 11 161 4 [(2, 192)] [(0, (if 0 < m 193 9 then 1 else 0))] n1 (RI (fun v m1 => AskR m m1 ∧ (¬ 0 < m 193 9 → v = -2) ∧ ∀ k : Nat, m 193 1 = (k : Int) → 0 < m 193 9 → v = m1 200 (16 * k + 5)))
  show GX T 11 161 4 [(2, 192)] [(0, (if 0 < m 193 9 then 1 else 0))] n1 (RI (fun v m1 => AskR m m1 ∧ (¬ 0 < m 193 9 → v = -2) ∧ ∀ k : Nat, m 193 1 = (k : Int) → 0 < m 193 9 → v = m1 200 (16 * k + 5)))
  refine gx_i0 (P := ¬ (0 < m 193 9)) r_161_4 (b01_eq) (fun h4 => ?_) (fun h4 => ?_)
  · refine gx_st (L' := [(2, 192)]) (S' := [(0, (-2))]) r_161_21 rfl rfl rfl ?_
    exact gx_rt r_161_23 rfl rfl ⟨_, rfl, ak, fun _ => rfl, fun n e z => absurd z h4⟩
  · have h4 := Decidable.not_not.mp h4
    have b1 := gb_193_1 hm
    obtain ⟨n, hn⟩ : ∃ n : Nat, m 193 1 = (n : Int) := ⟨(m 193 1).toNat, by omega⟩
    refine gx_st (L' := [(2, 192)]) (S' := [(2, 192)]) r_161_7 rfl rfl rfl ?_
    refine gx_st (L' := [(2, 192)]) (S' := [(2, 192), (2, 192)]) r_161_8 rfl rfl rfl ?_
    refine gx_gf (x := 193) 2 r_161_9 (rfl) (ty_192 hT) ⟨by decide, rfl, by decide, by decide⟩ rfl (fun _ => by omega) (pin_at hp1 (t := 193) rfl (by decide)) ?_
    refine gx_st (L' := [(2, 192)]) (S' := [(0, 1), (2, 193), (2, 192)]) r_161_12 rfl rfl rfl ?_
    refine gx_ia (n := 1) (x := (n : Int)) r_161_13 (rfl) (ty_193 hT) (rfl) ⟨rfl, by decide⟩ (((congrFun e193 1).trans hn)) ?_
    refine gx_st (L' := [(2, 192)]) (S' := [(0, 5), (0, (n : Int)), (2, 192)]) r_161_14 rfl rfl rfl ?_
    refine gx_ci (nx := 18) (S2 := []) (l_131 hT hp1 (h := n) (k := 5) (i := 16 * n + 5) (by omega) (by omega)) r_161_15 rfl rfl rfl rfl rfl (rcv_v rfl (ty_192 hT) (by decide) rfl (by decide)) rfl (by decide) rfl (fun x15 n15 q15 => ?_)
    obtain rfl := q15.1.symm
    obtain rfl := q15.2.symm
    show GX T 11 161 18 [(2, 192)] [(0, (n1 200 (16 * n + 5)))] n1 (RI (fun v m1 => AskR m m1 ∧ (¬ 0 < m 193 9 → v = -2) ∧ ∀ k : Nat, m 193 1 = (k : Int) → 0 < m 193 9 → v = m1 200 (16 * k + 5)))
    refine gx_st (L' := [(2, 192)]) (S' := [(0, (n1 200 (16 * n + 5)))]) r_161_18 rfl rfl rfl ?_
    exact gx_rt r_161_23 rfl rfl ⟨_, rfl, ak, fun z => absurd h4 z, fun k e z => by rw [show k = n by omega]⟩
theorem et_l (hT : TT T) (hp : PinR m) {n : Nat} (hn : n ≤ 12) : ∀ (N k : Nat) (c : Int), n - k < N → k ≤ n → c = ((eatN (fun h => m 201 h) k : Nat) : Int) → GX T 0 158 4 [(2, 192), (0, (n : Int)), (0, c), (0, (k : Int))] [] m (RI (fun v m1 => v = ((eatN (fun h => m 201 h) n : Nat) : Int) ∧ m1 = m)) := by
  intro N
  induction N with
  | zero => intro k c hN; exact absurd hN (Nat.not_lt_zero _)
  | succ N ih =>
    intro k c hN hk hc
    have hle := eatN_le (fun h => m 201 h) k
    refine gx_st (L' := [(2, 192), (0, (n : Int)), (0, c), (0, (k : Int))]) (S' := [(0, (k : Int))]) r_158_4 rfl rfl rfl ?_
    refine gx_st (L' := [(2, 192), (0, (n : Int)), (0, c), (0, (k : Int))]) (S' := [(0, (n : Int)), (0, (k : Int))]) r_158_5 rfl rfl rfl ?_
    refine gx_ic (P := (n : Int) ≤ (k : Int)) r_158_6 (rfl) (fun h6 => ?_) (fun h6 => ?_)
    · refine gx_st (L' := [(2, 192), (0, (n : Int)), (0, c), (0, (k : Int))]) (S' := [(0, c)]) r_158_33 rfl rfl rfl ?_
      have hkn : k = n := by omega
      rw [hkn] at hc
      exact gx_rt r_158_34 rfl rfl ⟨_, rfl, hc, rfl⟩
    · refine gx_st (L' := [(2, 192), (0, (n : Int)), (0, c), (0, (k : Int))]) (S' := [(0, c)]) r_158_9 rfl rfl rfl ?_
      refine gx_st (L' := [(2, 192), (0, (n : Int)), (0, c), (0, (k : Int))]) (S' := [(2, 192), (0, c)]) r_158_10 rfl rfl rfl ?_
      refine gx_gf (x := 201) 2 r_158_11 (rfl) (ty_192 hT) ⟨by decide, rfl, by decide, by decide⟩ rfl (fun _ => by omega) (pin_at hp (t := 201) rfl (by decide)) ?_
      refine gx_st (L' := [(2, 192), (0, (n : Int)), (0, c), (0, (k : Int))]) (S' := [(0, (k : Int)), (2, 201), (0, c)]) r_158_14 rfl rfl rfl ?_
      refine gx_ia (n := k) (x := (m 201 k)) r_158_15 (rfl) (ty_201 hT) (by omega) ⟨rfl, by omega⟩ (rfl) ?_
      refine gx_st (L' := [(2, 192), (0, (n : Int)), (0, c), (0, (k : Int))]) (S' := [(0, 2), (0, (m 201 k)), (0, c)]) r_158_16 rfl rfl rfl ?_
      refine gx_ic (P := ¬ (m 201 k) = 2) r_158_17 (rfl) (fun h17 => ?_) (fun h17 => ?_)
      · refine gx_st (L' := [(2, 192), (0, (n : Int)), (0, c), (0, (k : Int))]) (S' := [(0, 0), (0, c)]) r_158_24 rfl rfl rfl ?_
        refine gx_ar (L' := [(2, 192), (0, (n : Int)), (0, c), (0, (k : Int))]) (S' := []) (t := 0) (e := w32 (c + 0)) (z := c) r_158_25 rfl rfl rfl (w32_eq (by omega) (by omega) (by omega)) ?_
        refine gx_st (L' := [(2, 192), (0, (n : Int)), (0, c), (0, (k : Int))]) (S' := []) r_158_26 rfl rfl rfl ?_
        refine gx_li (z := (k : Int) + 1) (L' := [(2, 192), (0, (n : Int)), (0, c), (0, (k : Int) + 1)]) r_158_27 rfl (w32_eq (by omega) (by omega) (by omega)) rfl ?_
        refine gx_st (L' := [(2, 192), (0, (n : Int)), (0, c), (0, (k : Int) + 1)]) (S' := []) r_158_30 rfl rfl rfl ?_
        rw [show (k : Int) + 1 = ((k + 1 : Nat) : Int) from rfl]
        exact ih (k + 1) c (by omega) (by omega) (by show _ = (((if m 201 k = 2 then eatN (fun h => m 201 h) k + 1 else eatN (fun h => m 201 h) k) : Nat) : Int); rw [if_neg h17]; omega)
      · have h17 := Decidable.not_not.mp h17
        refine gx_st (L' := [(2, 192), (0, (n : Int)), (0, c), (0, (k : Int))]) (S' := [(0, 1), (0, c)]) r_158_20 rfl rfl rfl ?_
        refine gx_st (L' := [(2, 192), (0, (n : Int)), (0, c), (0, (k : Int))]) (S' := [(0, 1), (0, c)]) r_158_21 rfl rfl rfl ?_
        refine gx_ar (L' := [(2, 192), (0, (n : Int)), (0, c), (0, (k : Int))]) (S' := []) (t := 0) (e := w32 (c + 1)) (z := c + 1) r_158_25 rfl rfl rfl (w32_eq (by omega) (by omega) (by omega)) ?_
        refine gx_st (L' := [(2, 192), (0, (n : Int)), (0, c + 1), (0, (k : Int))]) (S' := []) r_158_26 rfl rfl rfl ?_
        refine gx_li (z := (k : Int) + 1) (L' := [(2, 192), (0, (n : Int)), (0, c + 1), (0, (k : Int) + 1)]) r_158_27 rfl (w32_eq (by omega) (by omega) (by omega)) rfl ?_
        refine gx_st (L' := [(2, 192), (0, (n : Int)), (0, c + 1), (0, (k : Int) + 1)]) (S' := []) r_158_30 rfl rfl rfl ?_
        rw [show (k : Int) + 1 = ((k + 1 : Nat) : Int) from rfl]
        exact ih (k + 1) (c + 1) (by omega) (by omega) (by show _ = (((if m 201 k = 2 then eatN (fun h => m 201 h) k + 1 else eatN (fun h => m 201 h) k) : Nat) : Int); rw [if_pos h17]; omega)
theorem y_158 (hT : TT T) (hp : PinR m) {n : Nat} (hn : n ≤ 12) : GX T 0 158 0 [(2, 192), (0, (n : Int)), (9, 0), (9, 0)] [] m (RI (fun v m1 => v = ((eatN (fun h => m 201 h) n : Nat) : Int) ∧ m1 = m)) := by
  refine gx_st (L' := [(2, 192), (0, (n : Int)), (9, 0), (9, 0)]) (S' := [(0, 0)]) r_158_0 rfl rfl rfl ?_
  refine gx_st (L' := [(2, 192), (0, (n : Int)), (0, 0), (9, 0)]) (S' := []) r_158_1 rfl rfl rfl ?_
  refine gx_st (L' := [(2, 192), (0, (n : Int)), (0, 0), (9, 0)]) (S' := [(0, 0)]) r_158_2 rfl rfl rfl ?_
  refine gx_st (L' := [(2, 192), (0, (n : Int)), (0, 0), (0, 0)]) (S' := []) r_158_3 rfl rfl rfl ?_
  exact et_l hT hp hn (n + 1) 0 0 (by omega) (by omega) rfl
theorem y_159 (hT : TT T) (h136 : ConH T cn_136) (hp : PinR m) (hm : Gam m) (hx : Ext m) (wb : WB (pw (m 193))) (wp : WP (pw (m 193))) : GX T 11 159 0 [(2, 192)] [] m (RI (fun v m1 => AskR m m1 ∧ (¬ 0 < m 193 9 → v = -2) ∧ ∀ k : Nat, m 193 1 = (k : Int) → 0 < m 193 9 → v = ((eatN (fun h => m1 201 h) k : Nat) : Int))) := by
  refine gx_st (L' := [(2, 192)]) (S' := [(2, 192)]) r_159_0 rfl rfl rfl ?_
  refine gx_ci (nx := 4) (S2 := []) (y_146 hT h136 hp hm hx wb wp) r_159_1 rfl rfl rfl rfl rfl (rcv_v rfl (ty_192 hT) (by decide) rfl (by decide)) rfl (by decide) rfl (fun x1 n1 q1 => ?_)
  obtain ⟨e_x1, ak, hp1, gm1, gx1, f1, fs1⟩ := q1
  have e193 : n1 193 = m 193 := funext (Fr_cell (o := 193) f1 (by decide) (by decide))
  rw [e_x1]
  show GX T 11 159 4 [(2, 192)] [(0, (if 0 < m 193 9 then 1 else 0))] n1 (RI (fun v m1 => AskR m m1 ∧ (¬ 0 < m 193 9 → v = -2) ∧ ∀ k : Nat, m 193 1 = (k : Int) → 0 < m 193 9 → v = ((eatN (fun h => m1 201 h) k : Nat) : Int)))
  show GX T 11 159 4 [(2, 192)] [(0, (if 0 < m 193 9 then 1 else 0))] n1 (RI (fun v m1 => AskR m m1 ∧ (¬ 0 < m 193 9 → v = -2) ∧ ∀ k : Nat, m 193 1 = (k : Int) → 0 < m 193 9 → v = ((eatN (fun h => m1 201 h) k : Nat) : Int)))
  refine gx_i0 (P := ¬ (0 < m 193 9)) r_159_4 (b01_eq) (fun h4 => ?_) (fun h4 => ?_)
  · refine gx_st (L' := [(2, 192)]) (S' := [(0, (-2))]) r_159_20 rfl rfl rfl ?_
    exact gx_rt r_159_22 rfl rfl ⟨_, rfl, ak, fun _ => rfl, fun n e z => absurd z h4⟩
  · have h4 := Decidable.not_not.mp h4
    have b1 := gb_193_1 hm
    obtain ⟨n, hn⟩ : ∃ n : Nat, m 193 1 = (n : Int) := ⟨(m 193 1).toNat, by omega⟩
    refine gx_st (L' := [(2, 192)]) (S' := [(2, 192)]) r_159_7 rfl rfl rfl ?_
    refine gx_st (L' := [(2, 192)]) (S' := [(2, 192), (2, 192)]) r_159_8 rfl rfl rfl ?_
    refine gx_gf (x := 193) 2 r_159_9 (rfl) (ty_192 hT) ⟨by decide, rfl, by decide, by decide⟩ rfl (fun _ => by omega) (pin_at hp1 (t := 193) rfl (by decide)) ?_
    refine gx_st (L' := [(2, 192)]) (S' := [(0, 1), (2, 193), (2, 192)]) r_159_12 rfl rfl rfl ?_
    refine gx_ia (n := 1) (x := (n : Int)) r_159_13 (rfl) (ty_193 hT) (rfl) ⟨rfl, by decide⟩ (((congrFun e193 1).trans hn)) ?_
    refine gx_ci (nx := 17) (S2 := []) (y_158 hT hp1 (n := n) (by omega)) r_159_14 rfl rfl rfl rfl rfl (rcv_v rfl (ty_192 hT) (by decide) rfl (by decide)) rfl (by decide) rfl (fun x14 n14 q14 => ?_)
    obtain rfl := q14.1.symm
    obtain rfl := q14.2.symm
    show GX T 11 159 17 [(2, 192)] [(0, ((eatN (fun h => n1 201 h) n : Nat) : Int))] n1 (RI (fun v m1 => AskR m m1 ∧ (¬ 0 < m 193 9 → v = -2) ∧ ∀ k : Nat, m 193 1 = (k : Int) → 0 < m 193 9 → v = ((eatN (fun h => m1 201 h) k : Nat) : Int)))
    refine gx_st (L' := [(2, 192)]) (S' := [(0, ((eatN (fun h => n1 201 h) n : Nat) : Int))]) r_159_17 rfl rfl rfl ?_
    exact gx_rt r_159_22 rfl rfl ⟨_, rfl, ak, fun z => absurd h4 z, fun k e z => by rw [show k = n by omega]⟩
end TOLDS
/-- when the reference was asked, both sides hold one ride -/
theorem ask_two {m m1 m2 : Mm} (hm : Gam m) (hx : Ext m) (r : WX m) (sx : StoryX m) (e : m1 193 = m 193) (k : AskR m1 m2) (h0 : 0 < m 4 0) : ∃ (D : Nat → Nat → Int) (A : Nat → Int) (n : Nat), n ≤ 12 ∧ m 193 1 = (n : Int) ∧ m 4 2 = (n : Int) ∧ WyD (m 193) D ∧ (∀ h : Nat, h < 12 → 0 ≤ A h ∧ A h ≤ 16) ∧ (∀ h : Nat, h < 12 → A h = m 23 h) ∧ StoryD m 28 (pw (m 193)) D A (beginF (pw (m 193)) 0 (pw (m 193) 47)) n ∧ RunP (-1) m2 (pw (m 193)) D A (beginF (pw (m 193)) 0 (pw (m 193) 47)) n := by
  obtain ⟨D, d1, d2, d3⟩ := k
  rw [e] at d1 d2 d3
  have b1 := gb_193_1 hm
  have b2 := gb_193_2 hm
  have e42 : m 4 2 = m 193 1 := r.1.1.2.2.1
  have ea := acts_eq r.2.1 d2
  have hin := acts_in hx.1 d2
  have hA : ∀ h : Nat, h < 12 → 0 ≤ m 23 h ∧ m 23 h ≤ 16 := fun h hh => by rw [← ea h hh]; exact hin h hh
  have hb : WBf (pw (m 193)) := ⟨by rw [pw_at (by decide) (by decide)]; exact b2, fun t ht _ => by rw [pw_at (by omega) (by omega)]; exact gb_193_tf hm ht⟩
  have s := sx h0 (pw (m 193)) D (WD_w r.1 (pw_ag (m 193))) hb (wyD_pw.mpr d1) hA
  rw [show pw (m 193) 1 = m 193 1 from pw_at (by decide) (by decide)] at s
  refine ⟨D, m 23, (m 193 1).toNat, by omega, by omega, by omega, d1, hA, fun _ _ => rfl, s, ?_⟩
  exact runp_cA d3 (fun h hh => ea h (by omega))
theorem wbp_x {m m1 : Mm} (r : WX m) (e : ∀ i : Nat, m1 193 i = m 193 i) : WB (pw (m1 193)) ∧ WP (pw (m1 193)) := by
  rw [show m1 193 = m 193 from funext e]
  have z := WD_w r.1 (pw_ag (m 193))
  exact ⟨z.2.1, z.2.2.2⟩
theorem q_mom {m m1 : Mm} {a v1 v2 : Int} {f g : Nat → Int} (hm : Gam m) (r : WX m) (e : m1 193 = m 193) (h1 : (¬ (0 < m 4 0 ∧ 0 ≤ a ∧ a ≤ m 4 2) → v1 = -2) ∧ ∀ h : Nat, a = (h : Int) → (0 < m 4 0 ∧ 0 ≤ a ∧ a ≤ m 4 2) → v1 = f h) (h2 : (¬ (0 < m1 193 9 ∧ 0 ≤ a ∧ a ≤ m1 193 1) → v2 = -2) ∧ ∀ h : Nat, a = (h : Int) → (0 < m1 193 9 ∧ 0 ≤ a ∧ a ≤ m1 193 1) → v2 = g h) (hfg : 0 < m 4 0 → ∀ h : Nat, (h : Int) ≤ m 4 2 → f h = g h) : v1 = v2 := by
  have e40 : m 4 0 = m 193 9 := r.1.1.1
  have e42 : m 4 2 = m 193 1 := r.1.1.2.2.1
  rw [e] at h2
  by_cases c : 0 < m 4 0 ∧ 0 ≤ a ∧ a ≤ m 4 2
  · obtain ⟨h, hh⟩ : ∃ i : Nat, a = (i : Int) := ⟨a.toNat, by omega⟩
    rw [h1.2 h hh c, h2.2 h hh (by omega)]
    exact hfg c.1 h (by omega)
  · rw [h1.1 c, h2.1 (by omega)]
theorem q_mo2 {m m1 : Mm} {a b v1 v2 c1 c2 : Int} {f g : Nat → Nat → Int} (hm : Gam m) (r : WX m) (e : m1 193 = m 193) (ec : c1 = c2) (h5 : c1 ≤ 5) (h1 : (¬ ((0 ≤ a ∧ a < c1) ∧ (0 < m 4 0 ∧ 0 ≤ b ∧ b ≤ m 4 2)) → v1 = -2) ∧ ∀ i h : Nat, a = (i : Int) → b = (h : Int) → ((0 ≤ a ∧ a < c1) ∧ (0 < m 4 0 ∧ 0 ≤ b ∧ b ≤ m 4 2)) → v1 = f i h) (h2 : (¬ ((0 ≤ a ∧ a < c2) ∧ (0 < m1 193 9 ∧ 0 ≤ b ∧ b ≤ m1 193 1)) → v2 = -2) ∧ ∀ i h : Nat, a = (i : Int) → b = (h : Int) → ((0 ≤ a ∧ a < c2) ∧ (0 < m1 193 9 ∧ 0 ≤ b ∧ b ≤ m1 193 1)) → v2 = g i h) (hfg : 0 < m 4 0 → ∀ i h : Nat, i < 5 → (i : Int) < c1 → (h : Int) ≤ m 4 2 → f i h = g i h) : v1 = v2 := by
  have e40 : m 4 0 = m 193 9 := r.1.1.1
  have e42 : m 4 2 = m 193 1 := r.1.1.2.2.1
  rw [e] at h2
  by_cases c : (0 ≤ a ∧ a < c1) ∧ (0 < m 4 0 ∧ 0 ≤ b ∧ b ≤ m 4 2)
  · obtain ⟨i, hi⟩ : ∃ i : Nat, a = (i : Int) := ⟨a.toNat, by omega⟩
    obtain ⟨h, hh⟩ : ∃ i : Nat, b = (i : Int) := ⟨b.toNat, by omega⟩
    rw [h1.2 i h hi hh c, h2.2 i h hi hh (by omega)]
    exact hfg c.2.1 i h (by omega) (by omega) (by omega)
  · rw [h1.1 c, h2.1 (by omega)]
theorem q_14 {m m1 m2 : Mm} {a v1 v2 : Int} (hm : Gam m) (hx : Ext m) (r : WX m) (sx : StoryX m) (e : m1 193 = m 193) (h1 : (¬ (0 < m 4 0 ∧ 0 ≤ a ∧ a ≤ m 4 2) → v1 = -2) ∧ ∀ h : Nat, a = (h : Int) → (0 < m 4 0 ∧ 0 ≤ a ∧ a ≤ m 4 2) → v1 = m 32 h) (h2 : AskR m1 m2 ∧ (¬ (0 < m1 193 9 ∧ 0 ≤ a ∧ a ≤ m1 193 1) → v2 = -2) ∧ ∀ h : Nat, a = (h : Int) → (0 < m1 193 9 ∧ 0 ≤ a ∧ a ≤ m1 193 1) → v2 = m2 200 (16 * h + 0)) : v1 = v2 := by
  refine q_mom hm r e h1 h2.2 (fun h0 h hh => ?_)
  obtain ⟨D, A, n, n1, n2, n3, d1, a1, a2, s, p⟩ := ask_two hm hx r sx e h2.1 h0
  exact (s.1.1 h (by omega)).1.trans ((p.1 h (by omega)).1.1 0 (by decide) (by decide)).symm
theorem q_15 {m m1 m2 : Mm} {a v1 v2 : Int} (hm : Gam m) (hx : Ext m) (r : WX m) (sx : StoryX m) (e : m1 193 = m 193) (h1 : (¬ (0 < m 4 0 ∧ 0 ≤ a ∧ a ≤ m 4 2) → v1 = -2) ∧ ∀ h : Nat, a = (h : Int) → (0 < m 4 0 ∧ 0 ≤ a ∧ a ≤ m 4 2) → v1 = m 33 h) (h2 : AskR m1 m2 ∧ (¬ (0 < m1 193 9 ∧ 0 ≤ a ∧ a ≤ m1 193 1) → v2 = -2) ∧ ∀ h : Nat, a = (h : Int) → (0 < m1 193 9 ∧ 0 ≤ a ∧ a ≤ m1 193 1) → v2 = m2 200 (16 * h + 1)) : v1 = v2 := by
  refine q_mom hm r e h1 h2.2 (fun h0 h hh => ?_)
  obtain ⟨D, A, n, n1, n2, n3, d1, a1, a2, s, p⟩ := ask_two hm hx r sx e h2.1 h0
  exact (s.1.1 h (by omega)).2.1.trans ((p.1 h (by omega)).1.1 1 (by decide) (by decide)).symm
theorem q_16 {m m1 m2 : Mm} {a v1 v2 : Int} (hm : Gam m) (hx : Ext m) (r : WX m) (sx : StoryX m) (e : m1 193 = m 193) (h1 : (¬ (0 < m 4 0 ∧ 0 ≤ a ∧ a ≤ m 4 2) → v1 = -2) ∧ ∀ h : Nat, a = (h : Int) → (0 < m 4 0 ∧ 0 ≤ a ∧ a ≤ m 4 2) → v1 = m 34 h) (h2 : AskR m1 m2 ∧ (¬ (0 < m1 193 9 ∧ 0 ≤ a ∧ a ≤ m1 193 1) → v2 = -2) ∧ ∀ h : Nat, a = (h : Int) → (0 < m1 193 9 ∧ 0 ≤ a ∧ a ≤ m1 193 1) → v2 = m2 200 (16 * h + 2)) : v1 = v2 := by
  refine q_mom hm r e h1 h2.2 (fun h0 h hh => ?_)
  obtain ⟨D, A, n, n1, n2, n3, d1, a1, a2, s, p⟩ := ask_two hm hx r sx e h2.1 h0
  exact (s.1.1 h (by omega)).2.2.1.trans ((p.1 h (by omega)).1.1 2 (by decide) (by decide)).symm
theorem q_17 {m m1 m2 : Mm} {a b v1 v2 : Int} (hm : Gam m) (hx : Ext m) (r : WX m) (sx : StoryX m) (h5 : m 4 8 ≤ 5) (e : m1 193 = m 193) (h1 : (¬ ((0 ≤ a ∧ a < m 4 8) ∧ (0 < m 4 0 ∧ 0 ≤ b ∧ b ≤ m 4 2)) → v1 = -2) ∧ ∀ i h : Nat, a = (i : Int) → b = (h : Int) → ((0 ≤ a ∧ a < m 4 8) ∧ (0 < m 4 0 ∧ 0 ≤ b ∧ b ≤ m 4 2)) → v1 = m 35 (5 * h + i)) (h2 : AskR m1 m2 ∧ (¬ ((0 ≤ a ∧ a < m1 193 7) ∧ (0 < m1 193 9 ∧ 0 ≤ b ∧ b ≤ m1 193 1)) → v2 = -2) ∧ ∀ i h : Nat, a = (i : Int) → b = (h : Int) → ((0 ≤ a ∧ a < m1 193 7) ∧ (0 < m1 193 9 ∧ 0 ≤ b ∧ b ≤ m1 193 1)) → v2 = m2 200 (16 * h + (6 + i))) : v1 = v2 := by
  have e48 : m 4 8 = m1 193 7 := by rw [e]; exact r.1.1.2.2.2.2.2.2.2.2.1
  refine q_mo2 (f := fun i h => m 35 (5 * h + i)) (g := fun i h => m2 200 (16 * h + (6 + i))) hm r e e48 h5 h1 h2.2 (fun h0 i h hi _ hh => ?_)
  obtain ⟨D, A, n, n1, n2, n3, d1, a1, a2, s, p⟩ := ask_two hm hx r sx e h2.1 h0
  exact ((s.1.1 h (by omega)).2.2.2.1 i hi).trans ((p.1 h (by omega)).1.2.1 i hi).symm
theorem q_18 {m m1 m2 : Mm} {a b v1 v2 : Int} (hm : Gam m) (hx : Ext m) (r : WX m) (sx : StoryX m) (h5 : m 4 6 ≤ 5) (e : m1 193 = m 193) (h1 : (¬ ((0 ≤ a ∧ a < m 4 6) ∧ (0 < m 4 0 ∧ 0 ≤ b ∧ b ≤ m 4 2)) → v1 = -2) ∧ ∀ i h : Nat, a = (i : Int) → b = (h : Int) → ((0 ≤ a ∧ a < m 4 6) ∧ (0 < m 4 0 ∧ 0 ≤ b ∧ b ≤ m 4 2)) → v1 = m 36 (5 * h + i)) (h2 : AskR m1 m2 ∧ (¬ ((0 ≤ a ∧ a < m1 193 5) ∧ (0 < m1 193 9 ∧ 0 ≤ b ∧ b ≤ m1 193 1)) → v2 = -2) ∧ ∀ i h : Nat, a = (i : Int) → b = (h : Int) → ((0 ≤ a ∧ a < m1 193 5) ∧ (0 < m1 193 9 ∧ 0 ≤ b ∧ b ≤ m1 193 1)) → v2 = m2 200 (16 * h + (11 + i))) : v1 = v2 := by
  have e46 : m 4 6 = m 193 5 := r.1.1.2.2.2.2.2.2.1
  have e46b : m 4 6 = m1 193 5 := by rw [e]; exact e46
  refine q_mo2 (f := fun i h => m 36 (5 * h + i)) (g := fun i h => m2 200 (16 * h + (11 + i))) hm r e e46b h5 h1 h2.2 (fun h0 i h hi hc hh => ?_)
  obtain ⟨D, A, n, n1, n2, n3, d1, a1, a2, s, p⟩ := ask_two hm hx r sx e h2.1 h0
  have w5 : pw (m 193) 5 = m 193 5 := pw_at (by decide) (by decide)
  exact ((s.1.1 h (by omega)).2.2.2.2 i hi (by omega)).trans ((p.1 h (by omega)).1.2.2 i hi (by omega)).symm
theorem q_21 {m m1 m2 : Mm} {v1 v2 : Int} (hm : Gam m) (hx : Ext m) (r : WX m) (sx : StoryX m) (e : m1 193 = m 193) (h1 : v1 = (if 0 < m 4 0 then m 28 11 else -2)) (h2 : AskR m1 m2 ∧ v2 = (if 0 < m1 193 9 then m2 192 21 else -2)) : v1 = v2 := by
  have e40 : m 4 0 = m 193 9 := r.1.1.1
  rw [h1, h2.2, e, ← e40]
  by_cases c : 0 < m 4 0
  · rw [if_pos c, if_pos c]
    obtain ⟨D, A, n, n1, n2, n3, d1, a1, a2, s, p⟩ := ask_two hm hx r sx e h2.1 c
    exact s.1.2.2.2.2.trans p.2.2.1.symm
  · rw [if_neg c, if_neg c]
theorem q_22 {m m1 m2 : Mm} {v1 v2 : Int} (hm : Gam m) (hx : Ext m) (r : WX m) (sx : StoryX m) (e : m1 193 = m 193) (h1 : v1 = (if 0 < m 4 0 then m 28 12 else -2)) (h2 : AskR m1 m2 ∧ v2 = (if 0 < m1 193 9 then m2 192 22 else -2)) : v1 = v2 := by
  have e40 : m 4 0 = m 193 9 := r.1.1.1
  rw [h1, h2.2, e, ← e40]
  by_cases c : 0 < m 4 0
  · rw [if_pos c, if_pos c]
    obtain ⟨D, A, n, n1, n2, n3, d1, a1, a2, s, p⟩ := ask_two hm hx r sx e h2.1 c
    exact s.2.1.trans p.2.2.2.1.symm
  · rw [if_neg c, if_neg c]
theorem q_25 {m m1 m2 : Mm} {v1 v2 : Int} (hm : Gam m) (hx : Ext m) (r : WX m) (sx : StoryX m) (e : m1 193 = m 193) (h1 : v1 = (if 0 < m 4 0 then m 28 13 else -2)) (h2 : AskR m1 m2 ∧ (¬ 0 < m1 193 9 → v2 = -2) ∧ ∀ k : Nat, m1 193 1 = (k : Int) → 0 < m1 193 9 → v2 = m2 200 (16 * k + 5)) : v1 = v2 := by
  have e40 : m 4 0 = m 193 9 := r.1.1.1
  by_cases c : 0 < m 4 0
  · obtain ⟨D, A, n, n1, n2, n3, d1, a1, a2, s, p⟩ := ask_two hm hx r sx e h2.1 c
    rw [h1, if_pos c, h2.2.2 n (by rw [e]; exact n2) (by rw [e]; omega)]
    exact s.2.2.trans ((p.1 n (Nat.le_refl _)).1.1 5 (by decide) (by decide)).symm
  · rw [h1, if_neg c, h2.2.1 (by rw [e]; omega)]
theorem q_23 {m m1 m2 : Mm} {v1 v2 : Int} (hm : Gam m) (hx : Ext m) (r : WX m) (sx : StoryX m) (e : m1 193 = m 193) (h1 : v1 = (if 0 < m 4 0 then m 28 10 else -2)) (h2 : AskR m1 m2 ∧ (¬ 0 < m1 193 9 → v2 = -2) ∧ ∀ k : Nat, m1 193 1 = (k : Int) → 0 < m1 193 9 → v2 = ((eatN (fun h => m2 201 h) k : Nat) : Int)) : v1 = v2 := by
  have e40 : m 4 0 = m 193 9 := r.1.1.1
  by_cases c : 0 < m 4 0
  · obtain ⟨D, A, n, n1, n2, n3, d1, a1, a2, s, p⟩ := ask_two hm hx r sx e h2.1 c
    rw [h1, if_pos c, h2.2.2 n (by rw [e]; exact n2) (by rw [e]; omega)]
    rw [eat_cA n (fun h hh => p.2.1 h hh)]
    exact s.1.2.2.2.1
  · rw [h1, if_neg c, h2.2.1 (by rw [e]; omega)]
