/-! rests, exactly -/
theorem r_51_0 : row 51 0 = some (.iload_n 1, 1, 0, 0, 0, 0) := rfl
theorem r_51_1 : row 51 1 = some (.bipush 100, 3, 100, 0, 0, 0) := rfl
theorem r_51_3 : row 51 3 = some (.invokestatic 126, 6, 71, 2, 0, 4020) := rfl
theorem r_51_6 : row 51 6 = some (.ifCond .eq 12, 9, 18, 0, 0, 0) := rfl
theorem r_51_9 : row 51 9 = some (.iload_n 2, 10, 0, 0, 0, 0) := rfl
theorem r_51_10 : row 51 10 = some (.bipush 100, 12, 100, 0, 0, 0) := rfl
theorem r_51_12 : row 51 12 = some (.invokestatic 126, 15, 71, 2, 0, 4020) := rfl
theorem r_51_15 : row 51 15 = some (.ifCond .ne 6, 18, 21, 0, 0, 0) := rfl
theorem r_51_18 : row 51 18 = some (.bipush (-2), 20, (-2), 0, 0, 0) := rfl
theorem r_51_20 : row 51 20 = some (.ireturn, 21, 0, 0, 0, 0) := rfl
theorem r_51_21 : row 51 21 = some (.iload_n 1, 22, 0, 0, 0, 0) := rfl
theorem r_51_22 : row 51 22 = some (.iload_n 2, 23, 0, 0, 0, 0) := rfl
theorem r_51_23 : row 51 23 = some (.invokestatic 304, 26, 296, 2, 10, 5097) := rfl
theorem r_51_26 : row 51 26 = some (.ireturn, 27, 0, 0, 0, 0) := rfl
theorem r_202_0 : row 202 0 = some (.iload_n 0, 1, 0, 0, 0, 0) := rfl
theorem r_202_1 : row 202 1 = some (.ifCond .ne 7, 4, 8, 0, 0, 0) := rfl
theorem r_202_4 : row 202 4 = some (.iconst 1, 5, 1, 0, 0, 0) := rfl
theorem r_202_5 : row 202 5 = some (.goto 12, 8, 17, 0, 0, 0) := rfl
theorem r_202_8 : row 202 8 = some (.iload_n 1, 9, 0, 0, 0, 0) := rfl
theorem r_202_9 : row 202 9 = some (.ifCond .eq 7, 12, 16, 0, 0, 0) := rfl
theorem r_202_12 : row 202 12 = some (.iload_n 2, 13, 0, 0, 0, 0) := rfl
theorem r_202_13 : row 202 13 = some (.goto 4, 16, 17, 0, 0, 0) := rfl
theorem r_202_16 : row 202 16 = some (.iconst 0, 17, 0, 0, 0, 0) := rfl
theorem r_202_17 : row 202 17 = some (.ireturn, 18, 0, 0, 0, 0) := rfl
theorem r_203_0 : row 203 0 = some (.iload_n 1, 1, 0, 0, 0, 0) := rfl
theorem r_203_1 : row 203 1 = some (.ifCond .eq 17, 4, 18, 0, 0, 0) := rfl
theorem r_203_4 : row 203 4 = some (.iload_n 0, 5, 0, 0, 0, 0) := rfl
theorem r_203_5 : row 203 5 = some (.ifCond .eq 8, 8, 13, 0, 0, 0) := rfl
theorem r_203_8 : row 203 8 = some (.iload_n 2, 9, 0, 0, 0, 0) := rfl
theorem r_203_9 : row 203 9 = some (.ineg, 10, 0, 0, 0, 0) := rfl
theorem r_203_10 : row 203 10 = some (.goto 7, 13, 17, 0, 0, 0) := rfl
theorem r_203_13 : row 203 13 = some (.iload_n 2, 14, 0, 0, 0, 0) := rfl
theorem r_203_14 : row 203 14 = some (.iconst 2, 15, 2, 0, 0, 0) := rfl
theorem r_203_15 : row 203 15 = some (.idiv, 16, 0, 0, 0, 0) := rfl
theorem r_203_16 : row 203 16 = some (.ineg, 17, 0, 0, 0, 0) := rfl
theorem r_203_17 : row 203 17 = some (.ireturn, 18, 0, 0, 0, 0) := rfl
theorem r_203_18 : row 203 18 = some (.iload_n 0, 19, 0, 0, 0, 0) := rfl
theorem r_203_19 : row 203 19 = some (.ifCond .eq 8, 22, 27, 0, 0, 0) := rfl
theorem r_203_22 : row 203 22 = some (.bipush (-2), 24, (-2), 0, 0, 0) := rfl
theorem r_203_24 : row 203 24 = some (.goto 4, 27, 28, 0, 0, 0) := rfl
theorem r_203_27 : row 203 27 = some (.iconst (-1), 28, (-1), 0, 0, 0) := rfl
theorem r_203_28 : row 203 28 = some (.ireturn, 29, 0, 0, 0, 0) := rfl
theorem r_204_0 : row 204 0 = some (.iload_n 0, 1, 0, 0, 0, 0) := rfl
theorem r_204_1 : row 204 1 = some (.iload_n 1, 2, 0, 0, 0, 0) := rfl
theorem r_204_2 : row 204 2 = some (.iload_n 2, 3, 0, 0, 0, 0) := rfl
theorem r_204_3 : row 204 3 = some (.invokestatic 407, 6, 202, 3, 0, 8144) := rfl
theorem r_204_6 : row 204 6 = some (.iload_n 0, 7, 0, 0, 0, 0) := rfl
theorem r_204_7 : row 204 7 = some (.ifCond .ne 7, 10, 14, 0, 0, 0) := rfl
theorem r_204_10 : row 204 10 = some (.iconst 1, 11, 1, 0, 0, 0) := rfl
theorem r_204_11 : row 204 11 = some (.goto 4, 14, 15, 0, 0, 0) := rfl
theorem r_204_14 : row 204 14 = some (.iconst 0, 15, 0, 0, 0, 0) := rfl
theorem r_204_15 : row 204 15 = some (.iload_n 1, 16, 0, 0, 0, 0) := rfl
theorem r_204_16 : row 204 16 = some (.iload_n 2, 17, 0, 0, 0, 0) := rfl
theorem r_204_17 : row 204 17 = some (.invokestatic 407, 20, 202, 3, 0, 8144) := rfl
theorem r_204_20 : row 204 20 = some (.if_icmp .lt 30, 23, 50, 0, 0, 0) := rfl
theorem r_204_23 : row 204 23 = some (.iload_n 0, 24, 0, 0, 0, 0) := rfl
theorem r_204_24 : row 204 24 = some (.iload_n 1, 25, 0, 0, 0, 0) := rfl
theorem r_204_25 : row 204 25 = some (.iload_n 3, 26, 0, 0, 0, 0) := rfl
theorem r_204_26 : row 204 26 = some (.invokestatic 411, 29, 203, 3, 0, 8147) := rfl
theorem r_204_29 : row 204 29 = some (.iload_n 0, 30, 0, 0, 0, 0) := rfl
theorem r_204_30 : row 204 30 = some (.iload_n 1, 31, 0, 0, 0, 0) := rfl
theorem r_204_31 : row 204 31 = some (.ifCond .ne 7, 34, 38, 0, 0, 0) := rfl
theorem r_204_34 : row 204 34 = some (.iconst 1, 35, 1, 0, 0, 0) := rfl
theorem r_204_35 : row 204 35 = some (.goto 4, 38, 39, 0, 0, 0) := rfl
theorem r_204_38 : row 204 38 = some (.iconst 0, 39, 0, 0, 0, 0) := rfl
theorem r_204_39 : row 204 39 = some (.iload_n 3, 40, 0, 0, 0, 0) := rfl
theorem r_204_40 : row 204 40 = some (.invokestatic 411, 43, 203, 3, 0, 8147) := rfl
theorem r_204_43 : row 204 43 = some (.if_icmp .lt 7, 46, 50, 0, 0, 0) := rfl
theorem r_204_46 : row 204 46 = some (.iconst 1, 47, 1, 0, 0, 0) := rfl
theorem r_204_47 : row 204 47 = some (.goto 4, 50, 51, 0, 0, 0) := rfl
theorem r_204_50 : row 204 50 = some (.iconst 0, 51, 0, 0, 0, 0) := rfl
theorem r_204_51 : row 204 51 = some (.ireturn, 52, 0, 0, 0, 0) := rfl
theorem r_205_0 : row 205 0 = some (.iload_n 1, 1, 0, 0, 0, 0) := rfl
theorem r_205_1 : row 205 1 = some (.i2l, 2, 0, 0, 0, 0) := rfl
theorem r_205_2 : row 205 2 = some (.lconst 0, 3, 0, 0, 0, 0) := rfl
theorem r_205_3 : row 205 3 = some (.ldc2_w 414, 6, 99, 0, 0, 8140) := rfl
theorem r_205_6 : row 205 6 = some (.invokestatic 82, 9, 86, 3, 0, 6131) := rfl
theorem r_205_9 : row 205 9 = some (.ifCond .eq 15, 12, 24, 0, 0, 0) := rfl
theorem r_205_12 : row 205 12 = some (.iload_n 2, 13, 0, 0, 0, 0) := rfl
theorem r_205_13 : row 205 13 = some (.i2l, 14, 0, 0, 0, 0) := rfl
theorem r_205_14 : row 205 14 = some (.lconst 0, 15, 0, 0, 0, 0) := rfl
theorem r_205_15 : row 205 15 = some (.ldc2_w 414, 18, 99, 0, 0, 8140) := rfl
theorem r_205_18 : row 205 18 = some (.invokestatic 82, 21, 86, 3, 0, 6131) := rfl
theorem r_205_21 : row 205 21 = some (.ifCond .ne 6, 24, 27, 0, 0, 0) := rfl
theorem r_205_24 : row 205 24 = some (.bipush (-2), 26, (-2), 0, 0, 0) := rfl
theorem r_205_26 : row 205 26 = some (.ireturn, 27, 0, 0, 0, 0) := rfl
theorem r_205_27 : row 205 27 = some (.iconst 0, 28, 0, 0, 0, 0) := rfl
theorem r_205_28 : row 205 28 = some (.istore_n 3, 29, 0, 0, 0, 0) := rfl
theorem r_205_29 : row 205 29 = some (.iconst 0, 30, 0, 0, 0, 0) := rfl
theorem r_205_30 : row 205 30 = some (.istore 4, 32, 0, 0, 0, 0) := rfl
theorem r_205_32 : row 205 32 = some (.iload 4, 34, 0, 0, 0, 0) := rfl
theorem r_205_34 : row 205 34 = some (.iconst 4, 35, 4, 0, 0, 0) := rfl
theorem r_205_35 : row 205 35 = some (.if_icmp .ge 51, 38, 86, 0, 0, 0) := rfl
theorem r_205_38 : row 205 38 = some (.iload_n 3, 39, 0, 0, 0, 0) := rfl
theorem r_205_39 : row 205 39 = some (.iload 4, 41, 0, 0, 0, 0) := rfl
theorem r_205_41 : row 205 41 = some (.iconst 2, 42, 2, 0, 0, 0) := rfl
theorem r_205_42 : row 205 42 = some (.if_icmp .ge 7, 45, 49, 0, 0, 0) := rfl
theorem r_205_45 : row 205 45 = some (.iconst 1, 46, 1, 0, 0, 0) := rfl
theorem r_205_46 : row 205 46 = some (.goto 4, 49, 50, 0, 0, 0) := rfl
theorem r_205_49 : row 205 49 = some (.iconst 0, 50, 0, 0, 0, 0) := rfl
theorem r_205_50 : row 205 50 = some (.iload 4, 52, 0, 0, 0, 0) := rfl
theorem r_205_52 : row 205 52 = some (.iconst 2, 53, 2, 0, 0, 0) := rfl
theorem r_205_53 : row 205 53 = some (.irem, 54, 0, 0, 0, 0) := rfl
theorem r_205_54 : row 205 54 = some (.ifCond .ne 7, 57, 61, 0, 0, 0) := rfl
theorem r_205_57 : row 205 57 = some (.iconst 1, 58, 1, 0, 0, 0) := rfl
theorem r_205_58 : row 205 58 = some (.goto 4, 61, 62, 0, 0, 0) := rfl
theorem r_205_61 : row 205 61 = some (.iconst 0, 62, 0, 0, 0, 0) := rfl
theorem r_205_62 : row 205 62 = some (.iload_n 1, 63, 0, 0, 0, 0) := rfl
theorem r_205_63 : row 205 63 = some (.iload_n 2, 64, 0, 0, 0, 0) := rfl
theorem r_205_64 : row 205 64 = some (.invokestatic 416, 67, 204, 4, 0, 8141) := rfl
theorem r_205_67 : row 205 67 = some (.ifCond .eq 10, 70, 77, 0, 0, 0) := rfl
theorem r_205_70 : row 205 70 = some (.iconst 1, 71, 1, 0, 0, 0) := rfl
theorem r_205_71 : row 205 71 = some (.iload 4, 73, 0, 0, 0, 0) := rfl
theorem r_205_73 : row 205 73 = some (.ishl, 74, 0, 0, 0, 0) := rfl
theorem r_205_74 : row 205 74 = some (.goto 4, 77, 78, 0, 0, 0) := rfl
theorem r_205_77 : row 205 77 = some (.iconst 0, 78, 0, 0, 0, 0) := rfl
theorem r_205_78 : row 205 78 = some (.ior, 79, 0, 0, 0, 0) := rfl
theorem r_205_79 : row 205 79 = some (.istore_n 3, 80, 0, 0, 0, 0) := rfl
theorem r_205_80 : row 205 80 = some (.iinc 4 1, 83, 0, 0, 0, 0) := rfl
theorem r_205_83 : row 205 83 = some (.goto (-51), 86, 32, 0, 0, 0) := rfl
theorem r_205_86 : row 205 86 = some (.iload_n 3, 87, 0, 0, 0, 0) := rfl
theorem r_205_87 : row 205 87 = some (.ireturn, 88, 0, 0, 0, 0) := rfl
theorem r_296_0 : row 296 0 = some (.iload_n 1, 1, 0, 0, 0, 0) := rfl
theorem r_296_1 : row 296 1 = some (.iconst 2, 2, 2, 0, 0, 0) := rfl
theorem r_296_2 : row 296 2 = some (.idiv, 3, 0, 0, 0, 0) := rfl
theorem r_296_3 : row 296 3 = some (.istore_n 2, 4, 0, 0, 0, 0) := rfl
theorem r_296_4 : row 296 4 = some (.iload_n 0, 5, 0, 0, 0, 0) := rfl
theorem r_296_5 : row 296 5 = some (.iconst 1, 6, 1, 0, 0, 0) := rfl
theorem r_296_6 : row 296 6 = some (.if_icmp .lt 7, 9, 13, 0, 0, 0) := rfl
theorem r_296_9 : row 296 9 = some (.iconst 1, 10, 1, 0, 0, 0) := rfl
theorem r_296_10 : row 296 10 = some (.goto 4, 13, 14, 0, 0, 0) := rfl
theorem r_296_13 : row 296 13 = some (.iconst 0, 14, 0, 0, 0, 0) := rfl
theorem r_296_14 : row 296 14 = some (.istore_n 3, 15, 0, 0, 0, 0) := rfl
theorem r_296_15 : row 296 15 = some (.iconst 1, 16, 1, 0, 0, 0) := rfl
theorem r_296_16 : row 296 16 = some (.iload_n 0, 17, 0, 0, 0, 0) := rfl
theorem r_296_17 : row 296 17 = some (.if_icmp .lt 7, 20, 24, 0, 0, 0) := rfl
theorem r_296_20 : row 296 20 = some (.iconst 1, 21, 1, 0, 0, 0) := rfl
theorem r_296_21 : row 296 21 = some (.goto 4, 24, 25, 0, 0, 0) := rfl
theorem r_296_24 : row 296 24 = some (.iconst 0, 25, 0, 0, 0, 0) := rfl
theorem r_296_25 : row 296 25 = some (.istore 4, 27, 0, 0, 0, 0) := rfl
theorem r_296_27 : row 296 27 = some (.iconst 0, 28, 0, 0, 0, 0) := rfl
theorem r_296_28 : row 296 28 = some (.istore 5, 30, 0, 0, 0, 0) := rfl
theorem r_296_30 : row 296 30 = some (.iload_n 3, 31, 0, 0, 0, 0) := rfl
theorem r_296_31 : row 296 31 = some (.ifCond .eq 16, 34, 47, 0, 0, 0) := rfl
theorem r_296_34 : row 296 34 = some (.iload_n 1, 35, 0, 0, 0, 0) := rfl
theorem r_296_35 : row 296 35 = some (.ineg, 36, 0, 0, 0, 0) := rfl
theorem r_296_36 : row 296 36 = some (.bipush (-2), 38, (-2), 0, 0, 0) := rfl
theorem r_296_38 : row 296 38 = some (.if_icmp .lt 9, 41, 47, 0, 0, 0) := rfl
theorem r_296_41 : row 296 41 = some (.iload 5, 43, 0, 0, 0, 0) := rfl
theorem r_296_43 : row 296 43 = some (.iconst 1, 44, 1, 0, 0, 0) := rfl
theorem r_296_44 : row 296 44 = some (.ior, 45, 0, 0, 0, 0) := rfl
theorem r_296_45 : row 296 45 = some (.istore 5, 47, 0, 0, 0, 0) := rfl
theorem r_296_47 : row 296 47 = some (.iload 4, 49, 0, 0, 0, 0) := rfl
theorem r_296_49 : row 296 49 = some (.ifCond .eq 15, 52, 64, 0, 0, 0) := rfl
theorem r_296_52 : row 296 52 = some (.iload_n 2, 53, 0, 0, 0, 0) := rfl
theorem r_296_53 : row 296 53 = some (.ineg, 54, 0, 0, 0, 0) := rfl
theorem r_296_54 : row 296 54 = some (.iconst (-1), 55, (-1), 0, 0, 0) := rfl
theorem r_296_55 : row 296 55 = some (.if_icmp .lt 9, 58, 64, 0, 0, 0) := rfl
theorem r_296_58 : row 296 58 = some (.iload 5, 60, 0, 0, 0, 0) := rfl
theorem r_296_60 : row 296 60 = some (.iconst 4, 61, 4, 0, 0, 0) := rfl
theorem r_296_61 : row 296 61 = some (.ior, 62, 0, 0, 0, 0) := rfl
theorem r_296_62 : row 296 62 = some (.istore 5, 64, 0, 0, 0, 0) := rfl
theorem r_296_64 : row 296 64 = some (.iconst (-1), 65, (-1), 0, 0, 0) := rfl
theorem r_296_65 : row 296 65 = some (.iload_n 2, 66, 0, 0, 0, 0) := rfl
theorem r_296_66 : row 296 66 = some (.ineg, 67, 0, 0, 0, 0) := rfl
theorem r_296_67 : row 296 67 = some (.if_icmp .lt 10, 70, 77, 0, 0, 0) := rfl
theorem r_296_70 : row 296 70 = some (.iload 5, 72, 0, 0, 0, 0) := rfl
theorem r_296_72 : row 296 72 = some (.bipush 8, 74, 8, 0, 0, 0) := rfl
theorem r_296_74 : row 296 74 = some (.ior, 75, 0, 0, 0, 0) := rfl
theorem r_296_75 : row 296 75 = some (.istore 5, 77, 0, 0, 0, 0) := rfl
theorem r_296_77 : row 296 77 = some (.iload 5, 79, 0, 0, 0, 0) := rfl
theorem r_296_79 : row 296 79 = some (.ireturn, 80, 0, 0, 0, 0) := rfl
/-- which pairs of choices are at rest, as bits -/
def RestV (w b : Int) : Int := if (0 ≤ w ∧ w < 100) ∧ 0 ≤ b ∧ b < 100 then (if 1 ≤ w ∧ b ≤ 2 then 1 else 0) + ((if w ≤ 1 ∧ b / 2 ≤ 1 then 4 else 0) + (if 1 ≤ b / 2 then 8 else 0)) else -2
theorem RestV_c {w b c : Int} (h : ((0 ≤ w ∧ w < 100) ∧ 0 ≤ b ∧ b < 100 → c = (if 1 ≤ w ∧ b ≤ 2 then 1 else 0) + ((if w ≤ 1 ∧ b / 2 ≤ 1 then 4 else 0) + (if 1 ≤ b / 2 then 8 else 0))) ∧ (¬ ((0 ≤ w ∧ w < 100) ∧ 0 ≤ b ∧ b < 100) → c = -2)) : c = RestV w b := by
  unfold RestV
  by_cases z : (0 ≤ w ∧ w < 100) ∧ 0 ≤ b ∧ b < 100
  · rw [if_pos z]; exact h.1 z
  · rw [if_neg z]; exact h.2 z
theorem rest_s {w b c : Int} (h1 : (1 ≤ w ∧ b ≤ 2 ∧ ((w ≤ 1 ∧ b / 2 ≤ 1 ∧ ((1 ≤ b / 2 ∧ c = 13) ∨ (¬ 1 ≤ b / 2 ∧ c = 5))) ∨ (¬ (w ≤ 1 ∧ b / 2 ≤ 1) ∧ ((1 ≤ b / 2 ∧ c = 9) ∨ (¬ 1 ≤ b / 2 ∧ c = 1))))) ∨ (¬ (1 ≤ w ∧ b ≤ 2) ∧ ((w ≤ 1 ∧ b / 2 ≤ 1 ∧ ((1 ≤ b / 2 ∧ c = 12) ∨ (¬ 1 ≤ b / 2 ∧ c = 4))) ∨ (¬ (w ≤ 1 ∧ b / 2 ≤ 1) ∧ ((1 ≤ b / 2 ∧ c = 8) ∨ (¬ 1 ≤ b / 2 ∧ c = 0)))))) : c = (if 1 ≤ w ∧ b ≤ 2 then 1 else 0) + ((if w ≤ 1 ∧ b / 2 ≤ 1 then 4 else 0) + (if 1 ≤ b / 2 then 8 else 0)) := by
  by_cases a1 : 1 ≤ w ∧ b ≤ 2
  · rw [if_pos a1]
    by_cases a2 : w ≤ 1 ∧ b / 2 ≤ 1
    · rw [if_pos a2]
      by_cases a3 : 1 ≤ b / 2
      · rw [if_pos a3]; omega
      · rw [if_neg a3]; omega
    · rw [if_neg a2]
      by_cases a3 : 1 ≤ b / 2
      · rw [if_pos a3]; omega
      · rw [if_neg a3]; omega
  · rw [if_neg a1]
    by_cases a2 : w ≤ 1 ∧ b / 2 ≤ 1
    · rw [if_pos a2]
      by_cases a3 : 1 ≤ b / 2
      · rw [if_pos a3]; omega
      · rw [if_neg a3]; omega
    · rw [if_neg a2]
      by_cases a3 : 1 ≤ b / 2
      · rw [if_pos a3]; omega
      · rw [if_neg a3]; omega
section REST
variable {T : List Kd} {m : Mm}
theorem x_296 (w b : Int) (hw : 0 ≤ w ∧ w < 100) (hb : 0 ≤ b ∧ b < 100) : GX T 0 296 0 [(0, w), (0, b), (9, 0), (9, 0), (9, 0), (9, 0)] [] m (RI (fun v m1 => v = RestV w b ∧ m1 = m)) := by
  refine gx_st (L' := [(0, w), (0, b), (9, 0), (9, 0), (9, 0), (9, 0)]) (S' := [(0, b)]) r_296_0 rfl rfl rfl ?_
  refine gx_st (L' := [(0, w), (0, b), (9, 0), (9, 0), (9, 0), (9, 0)]) (S' := [(0, 2), (0, b)]) r_296_1 rfl rfl rfl ?_
  refine gx_dv (z := (b / 2)) r_296_2 (by decide) (w32_td (by omega) rfl (by omega) (by omega)) ?_
  refine gx_st (L' := [(0, w), (0, b), (0, (b / 2)), (9, 0), (9, 0), (9, 0)]) (S' := []) r_296_3 rfl rfl rfl ?_
  refine gx_st (L' := [(0, w), (0, b), (0, (b / 2)), (9, 0), (9, 0), (9, 0)]) (S' := [(0, w)]) r_296_4 rfl rfl rfl ?_
  refine gx_st (L' := [(0, w), (0, b), (0, (b / 2)), (9, 0), (9, 0), (9, 0)]) (S' := [(0, 1), (0, w)]) r_296_5 rfl rfl rfl ?_
  refine gx_ic (P := w < 1) r_296_6 (rfl) (fun h6 => ?_) (fun h6 => ?_)
  · refine gx_st (L' := [(0, w), (0, b), (0, (b / 2)), (9, 0), (9, 0), (9, 0)]) (S' := [(0, 0)]) r_296_13 rfl rfl rfl ?_
    refine gx_st (L' := [(0, w), (0, b), (0, (b / 2)), (0, 0), (9, 0), (9, 0)]) (S' := []) r_296_14 rfl rfl rfl ?_
    refine gx_st (L' := [(0, w), (0, b), (0, (b / 2)), (0, 0), (9, 0), (9, 0)]) (S' := [(0, 1)]) r_296_15 rfl rfl rfl ?_
    refine gx_st (L' := [(0, w), (0, b), (0, (b / 2)), (0, 0), (9, 0), (9, 0)]) (S' := [(0, w), (0, 1)]) r_296_16 rfl rfl rfl ?_
    refine gx_ic (P := 1 < w) r_296_17 (rfl) (fun h17 => ?_) (fun h17 => ?_)
    · refine gx_st (L' := [(0, w), (0, b), (0, (b / 2)), (0, 0), (9, 0), (9, 0)]) (S' := [(0, 0)]) r_296_24 rfl rfl rfl ?_
      refine gx_st (L' := [(0, w), (0, b), (0, (b / 2)), (0, 0), (0, 0), (9, 0)]) (S' := []) r_296_25 rfl rfl rfl ?_
      refine gx_st (L' := [(0, w), (0, b), (0, (b / 2)), (0, 0), (0, 0), (9, 0)]) (S' := [(0, 0)]) r_296_27 rfl rfl rfl ?_
      refine gx_st (L' := [(0, w), (0, b), (0, (b / 2)), (0, 0), (0, 0), (0, 0)]) (S' := []) r_296_28 rfl rfl rfl ?_
      refine gx_st (L' := [(0, w), (0, b), (0, (b / 2)), (0, 0), (0, 0), (0, 0)]) (S' := [(0, 0)]) r_296_30 rfl rfl rfl ?_
      refine gx_i0 (P := 0 = 0) r_296_31 (rfl) (fun h31 => ?_) (fun h31 => ?_)
      · refine gx_st (L' := [(0, w), (0, b), (0, (b / 2)), (0, 0), (0, 0), (0, 0)]) (S' := [(0, 0)]) r_296_47 rfl rfl rfl ?_
        refine gx_i0 (P := 0 = 0) r_296_49 (rfl) (fun h49 => ?_) (fun h49 => ?_)
        · refine gx_st (L' := [(0, w), (0, b), (0, (b / 2)), (0, 0), (0, 0), (0, 0)]) (S' := [(0, (-1))]) r_296_64 rfl rfl rfl ?_
          refine gx_st (L' := [(0, w), (0, b), (0, (b / 2)), (0, 0), (0, 0), (0, 0)]) (S' := [(0, (b / 2)), (0, (-1))]) r_296_65 rfl rfl rfl ?_
          refine gx_ar (L' := [(0, w), (0, b), (0, (b / 2)), (0, 0), (0, 0), (0, 0)]) (S' := [(0, (-1))]) (t := 0) (e := w32 (-(b / 2))) (z := -(b / 2)) r_296_66 rfl rfl rfl (w32_eq (by omega) (by omega) (by omega)) ?_
          refine gx_ic (P := (-1) < -(b / 2)) r_296_67 (rfl) (fun h67 => ?_) (fun h67 => ?_)
          · refine gx_st (L' := [(0, w), (0, b), (0, (b / 2)), (0, 0), (0, 0), (0, 0)]) (S' := [(0, 0)]) r_296_77 rfl rfl rfl ?_
            exact gx_rt r_296_79 rfl rfl ⟨_, rfl, RestV_c ⟨fun _ => rest_s (by omega), fun z => by omega⟩, rfl⟩
          · refine gx_st (L' := [(0, w), (0, b), (0, (b / 2)), (0, 0), (0, 0), (0, 0)]) (S' := [(0, 0)]) r_296_70 rfl rfl rfl ?_
            refine gx_st (L' := [(0, w), (0, b), (0, (b / 2)), (0, 0), (0, 0), (0, 0)]) (S' := [(0, 8), (0, 0)]) r_296_72 rfl rfl rfl ?_
            refine gx_st (L' := [(0, w), (0, b), (0, (b / 2)), (0, 0), (0, 0), (0, 0)]) (S' := [(0, (ior 0 8))]) r_296_74 rfl rfl rfl ?_
            rw [show (ior 0 8) = 8 from by decide]
            refine gx_st (L' := [(0, w), (0, b), (0, (b / 2)), (0, 0), (0, 0), (0, 8)]) (S' := []) r_296_75 rfl rfl rfl ?_
            refine gx_st (L' := [(0, w), (0, b), (0, (b / 2)), (0, 0), (0, 0), (0, 8)]) (S' := [(0, 8)]) r_296_77 rfl rfl rfl ?_
            exact gx_rt r_296_79 rfl rfl ⟨_, rfl, RestV_c ⟨fun _ => rest_s (by omega), fun z => by omega⟩, rfl⟩
        · omega
      · omega
    · refine gx_st (L' := [(0, w), (0, b), (0, (b / 2)), (0, 0), (9, 0), (9, 0)]) (S' := [(0, 1)]) r_296_20 rfl rfl rfl ?_
      refine gx_st (L' := [(0, w), (0, b), (0, (b / 2)), (0, 0), (9, 0), (9, 0)]) (S' := [(0, 1)]) r_296_21 rfl rfl rfl ?_
      refine gx_st (L' := [(0, w), (0, b), (0, (b / 2)), (0, 0), (0, 1), (9, 0)]) (S' := []) r_296_25 rfl rfl rfl ?_
      refine gx_st (L' := [(0, w), (0, b), (0, (b / 2)), (0, 0), (0, 1), (9, 0)]) (S' := [(0, 0)]) r_296_27 rfl rfl rfl ?_
      refine gx_st (L' := [(0, w), (0, b), (0, (b / 2)), (0, 0), (0, 1), (0, 0)]) (S' := []) r_296_28 rfl rfl rfl ?_
      refine gx_st (L' := [(0, w), (0, b), (0, (b / 2)), (0, 0), (0, 1), (0, 0)]) (S' := [(0, 0)]) r_296_30 rfl rfl rfl ?_
      refine gx_i0 (P := 0 = 0) r_296_31 (rfl) (fun h31 => ?_) (fun h31 => ?_)
      · refine gx_st (L' := [(0, w), (0, b), (0, (b / 2)), (0, 0), (0, 1), (0, 0)]) (S' := [(0, 1)]) r_296_47 rfl rfl rfl ?_
        refine gx_i0 (P := 1 = 0) r_296_49 (rfl) (fun h49 => ?_) (fun h49 => ?_)
        · omega
        · refine gx_st (L' := [(0, w), (0, b), (0, (b / 2)), (0, 0), (0, 1), (0, 0)]) (S' := [(0, (b / 2))]) r_296_52 rfl rfl rfl ?_
          refine gx_ar (L' := [(0, w), (0, b), (0, (b / 2)), (0, 0), (0, 1), (0, 0)]) (S' := []) (t := 0) (e := w32 (-(b / 2))) (z := -(b / 2)) r_296_53 rfl rfl rfl (w32_eq (by omega) (by omega) (by omega)) ?_
          refine gx_st (L' := [(0, w), (0, b), (0, (b / 2)), (0, 0), (0, 1), (0, 0)]) (S' := [(0, (-1)), (0, -(b / 2))]) r_296_54 rfl rfl rfl ?_
          refine gx_ic (P := -(b / 2) < (-1)) r_296_55 (rfl) (fun h55 => ?_) (fun h55 => ?_)
          · refine gx_st (L' := [(0, w), (0, b), (0, (b / 2)), (0, 0), (0, 1), (0, 0)]) (S' := [(0, (-1))]) r_296_64 rfl rfl rfl ?_
            refine gx_st (L' := [(0, w), (0, b), (0, (b / 2)), (0, 0), (0, 1), (0, 0)]) (S' := [(0, (b / 2)), (0, (-1))]) r_296_65 rfl rfl rfl ?_
            refine gx_ar (L' := [(0, w), (0, b), (0, (b / 2)), (0, 0), (0, 1), (0, 0)]) (S' := [(0, (-1))]) (t := 0) (e := w32 (-(b / 2))) (z := -(b / 2)) r_296_66 rfl rfl rfl (w32_eq (by omega) (by omega) (by omega)) ?_
            refine gx_ic (P := (-1) < -(b / 2)) r_296_67 (rfl) (fun h67 => ?_) (fun h67 => ?_)
            · refine gx_st (L' := [(0, w), (0, b), (0, (b / 2)), (0, 0), (0, 1), (0, 0)]) (S' := [(0, 0)]) r_296_77 rfl rfl rfl ?_
              exact gx_rt r_296_79 rfl rfl ⟨_, rfl, RestV_c ⟨fun _ => rest_s (by omega), fun z => by omega⟩, rfl⟩
            · refine gx_st (L' := [(0, w), (0, b), (0, (b / 2)), (0, 0), (0, 1), (0, 0)]) (S' := [(0, 0)]) r_296_70 rfl rfl rfl ?_
              refine gx_st (L' := [(0, w), (0, b), (0, (b / 2)), (0, 0), (0, 1), (0, 0)]) (S' := [(0, 8), (0, 0)]) r_296_72 rfl rfl rfl ?_
              refine gx_st (L' := [(0, w), (0, b), (0, (b / 2)), (0, 0), (0, 1), (0, 0)]) (S' := [(0, (ior 0 8))]) r_296_74 rfl rfl rfl ?_
              rw [show (ior 0 8) = 8 from by decide]
              refine gx_st (L' := [(0, w), (0, b), (0, (b / 2)), (0, 0), (0, 1), (0, 8)]) (S' := []) r_296_75 rfl rfl rfl ?_
              refine gx_st (L' := [(0, w), (0, b), (0, (b / 2)), (0, 0), (0, 1), (0, 8)]) (S' := [(0, 8)]) r_296_77 rfl rfl rfl ?_
              exact gx_rt r_296_79 rfl rfl ⟨_, rfl, RestV_c ⟨fun _ => rest_s (by omega), fun z => by omega⟩, rfl⟩
          · refine gx_st (L' := [(0, w), (0, b), (0, (b / 2)), (0, 0), (0, 1), (0, 0)]) (S' := [(0, 0)]) r_296_58 rfl rfl rfl ?_
            refine gx_st (L' := [(0, w), (0, b), (0, (b / 2)), (0, 0), (0, 1), (0, 0)]) (S' := [(0, 4), (0, 0)]) r_296_60 rfl rfl rfl ?_
            refine gx_st (L' := [(0, w), (0, b), (0, (b / 2)), (0, 0), (0, 1), (0, 0)]) (S' := [(0, (ior 0 4))]) r_296_61 rfl rfl rfl ?_
            rw [show (ior 0 4) = 4 from by decide]
            refine gx_st (L' := [(0, w), (0, b), (0, (b / 2)), (0, 0), (0, 1), (0, 4)]) (S' := []) r_296_62 rfl rfl rfl ?_
            refine gx_st (L' := [(0, w), (0, b), (0, (b / 2)), (0, 0), (0, 1), (0, 4)]) (S' := [(0, (-1))]) r_296_64 rfl rfl rfl ?_
            refine gx_st (L' := [(0, w), (0, b), (0, (b / 2)), (0, 0), (0, 1), (0, 4)]) (S' := [(0, (b / 2)), (0, (-1))]) r_296_65 rfl rfl rfl ?_
            refine gx_ar (L' := [(0, w), (0, b), (0, (b / 2)), (0, 0), (0, 1), (0, 4)]) (S' := [(0, (-1))]) (t := 0) (e := w32 (-(b / 2))) (z := -(b / 2)) r_296_66 rfl rfl rfl (w32_eq (by omega) (by omega) (by omega)) ?_
            refine gx_ic (P := (-1) < -(b / 2)) r_296_67 (rfl) (fun h67 => ?_) (fun h67 => ?_)
            · refine gx_st (L' := [(0, w), (0, b), (0, (b / 2)), (0, 0), (0, 1), (0, 4)]) (S' := [(0, 4)]) r_296_77 rfl rfl rfl ?_
              exact gx_rt r_296_79 rfl rfl ⟨_, rfl, RestV_c ⟨fun _ => rest_s (by omega), fun z => by omega⟩, rfl⟩
            · refine gx_st (L' := [(0, w), (0, b), (0, (b / 2)), (0, 0), (0, 1), (0, 4)]) (S' := [(0, 4)]) r_296_70 rfl rfl rfl ?_
              refine gx_st (L' := [(0, w), (0, b), (0, (b / 2)), (0, 0), (0, 1), (0, 4)]) (S' := [(0, 8), (0, 4)]) r_296_72 rfl rfl rfl ?_
              refine gx_st (L' := [(0, w), (0, b), (0, (b / 2)), (0, 0), (0, 1), (0, 4)]) (S' := [(0, (ior 4 8))]) r_296_74 rfl rfl rfl ?_
              rw [show (ior 4 8) = 12 from by decide]
              refine gx_st (L' := [(0, w), (0, b), (0, (b / 2)), (0, 0), (0, 1), (0, 12)]) (S' := []) r_296_75 rfl rfl rfl ?_
              refine gx_st (L' := [(0, w), (0, b), (0, (b / 2)), (0, 0), (0, 1), (0, 12)]) (S' := [(0, 12)]) r_296_77 rfl rfl rfl ?_
              exact gx_rt r_296_79 rfl rfl ⟨_, rfl, RestV_c ⟨fun _ => rest_s (by omega), fun z => by omega⟩, rfl⟩
      · omega
  · refine gx_st (L' := [(0, w), (0, b), (0, (b / 2)), (9, 0), (9, 0), (9, 0)]) (S' := [(0, 1)]) r_296_9 rfl rfl rfl ?_
    refine gx_st (L' := [(0, w), (0, b), (0, (b / 2)), (9, 0), (9, 0), (9, 0)]) (S' := [(0, 1)]) r_296_10 rfl rfl rfl ?_
    refine gx_st (L' := [(0, w), (0, b), (0, (b / 2)), (0, 1), (9, 0), (9, 0)]) (S' := []) r_296_14 rfl rfl rfl ?_
    refine gx_st (L' := [(0, w), (0, b), (0, (b / 2)), (0, 1), (9, 0), (9, 0)]) (S' := [(0, 1)]) r_296_15 rfl rfl rfl ?_
    refine gx_st (L' := [(0, w), (0, b), (0, (b / 2)), (0, 1), (9, 0), (9, 0)]) (S' := [(0, w), (0, 1)]) r_296_16 rfl rfl rfl ?_
    refine gx_ic (P := 1 < w) r_296_17 (rfl) (fun h17 => ?_) (fun h17 => ?_)
    · refine gx_st (L' := [(0, w), (0, b), (0, (b / 2)), (0, 1), (9, 0), (9, 0)]) (S' := [(0, 0)]) r_296_24 rfl rfl rfl ?_
      refine gx_st (L' := [(0, w), (0, b), (0, (b / 2)), (0, 1), (0, 0), (9, 0)]) (S' := []) r_296_25 rfl rfl rfl ?_
      refine gx_st (L' := [(0, w), (0, b), (0, (b / 2)), (0, 1), (0, 0), (9, 0)]) (S' := [(0, 0)]) r_296_27 rfl rfl rfl ?_
      refine gx_st (L' := [(0, w), (0, b), (0, (b / 2)), (0, 1), (0, 0), (0, 0)]) (S' := []) r_296_28 rfl rfl rfl ?_
      refine gx_st (L' := [(0, w), (0, b), (0, (b / 2)), (0, 1), (0, 0), (0, 0)]) (S' := [(0, 1)]) r_296_30 rfl rfl rfl ?_
      refine gx_i0 (P := 1 = 0) r_296_31 (rfl) (fun h31 => ?_) (fun h31 => ?_)
      · omega
      · refine gx_st (L' := [(0, w), (0, b), (0, (b / 2)), (0, 1), (0, 0), (0, 0)]) (S' := [(0, b)]) r_296_34 rfl rfl rfl ?_
        refine gx_ar (L' := [(0, w), (0, b), (0, (b / 2)), (0, 1), (0, 0), (0, 0)]) (S' := []) (t := 0) (e := w32 (-b)) (z := -b) r_296_35 rfl rfl rfl (w32_eq (by omega) (by omega) (by omega)) ?_
        refine gx_st (L' := [(0, w), (0, b), (0, (b / 2)), (0, 1), (0, 0), (0, 0)]) (S' := [(0, (-2)), (0, -b)]) r_296_36 rfl rfl rfl ?_
        refine gx_ic (P := -b < (-2)) r_296_38 (rfl) (fun h38 => ?_) (fun h38 => ?_)
        · refine gx_st (L' := [(0, w), (0, b), (0, (b / 2)), (0, 1), (0, 0), (0, 0)]) (S' := [(0, 0)]) r_296_47 rfl rfl rfl ?_
          refine gx_i0 (P := 0 = 0) r_296_49 (rfl) (fun h49 => ?_) (fun h49 => ?_)
          · refine gx_st (L' := [(0, w), (0, b), (0, (b / 2)), (0, 1), (0, 0), (0, 0)]) (S' := [(0, (-1))]) r_296_64 rfl rfl rfl ?_
            refine gx_st (L' := [(0, w), (0, b), (0, (b / 2)), (0, 1), (0, 0), (0, 0)]) (S' := [(0, (b / 2)), (0, (-1))]) r_296_65 rfl rfl rfl ?_
            refine gx_ar (L' := [(0, w), (0, b), (0, (b / 2)), (0, 1), (0, 0), (0, 0)]) (S' := [(0, (-1))]) (t := 0) (e := w32 (-(b / 2))) (z := -(b / 2)) r_296_66 rfl rfl rfl (w32_eq (by omega) (by omega) (by omega)) ?_
            refine gx_ic (P := (-1) < -(b / 2)) r_296_67 (rfl) (fun h67 => ?_) (fun h67 => ?_)
            · refine gx_st (L' := [(0, w), (0, b), (0, (b / 2)), (0, 1), (0, 0), (0, 0)]) (S' := [(0, 0)]) r_296_77 rfl rfl rfl ?_
              exact gx_rt r_296_79 rfl rfl ⟨_, rfl, RestV_c ⟨fun _ => rest_s (by omega), fun z => by omega⟩, rfl⟩
            · refine gx_st (L' := [(0, w), (0, b), (0, (b / 2)), (0, 1), (0, 0), (0, 0)]) (S' := [(0, 0)]) r_296_70 rfl rfl rfl ?_
              refine gx_st (L' := [(0, w), (0, b), (0, (b / 2)), (0, 1), (0, 0), (0, 0)]) (S' := [(0, 8), (0, 0)]) r_296_72 rfl rfl rfl ?_
              refine gx_st (L' := [(0, w), (0, b), (0, (b / 2)), (0, 1), (0, 0), (0, 0)]) (S' := [(0, (ior 0 8))]) r_296_74 rfl rfl rfl ?_
              rw [show (ior 0 8) = 8 from by decide]
              refine gx_st (L' := [(0, w), (0, b), (0, (b / 2)), (0, 1), (0, 0), (0, 8)]) (S' := []) r_296_75 rfl rfl rfl ?_
              refine gx_st (L' := [(0, w), (0, b), (0, (b / 2)), (0, 1), (0, 0), (0, 8)]) (S' := [(0, 8)]) r_296_77 rfl rfl rfl ?_
              exact gx_rt r_296_79 rfl rfl ⟨_, rfl, RestV_c ⟨fun _ => rest_s (by omega), fun z => by omega⟩, rfl⟩
          · omega
        · refine gx_st (L' := [(0, w), (0, b), (0, (b / 2)), (0, 1), (0, 0), (0, 0)]) (S' := [(0, 0)]) r_296_41 rfl rfl rfl ?_
          refine gx_st (L' := [(0, w), (0, b), (0, (b / 2)), (0, 1), (0, 0), (0, 0)]) (S' := [(0, 1), (0, 0)]) r_296_43 rfl rfl rfl ?_
          refine gx_st (L' := [(0, w), (0, b), (0, (b / 2)), (0, 1), (0, 0), (0, 0)]) (S' := [(0, (ior 0 1))]) r_296_44 rfl rfl rfl ?_
          rw [show (ior 0 1) = 1 from by decide]
          refine gx_st (L' := [(0, w), (0, b), (0, (b / 2)), (0, 1), (0, 0), (0, 1)]) (S' := []) r_296_45 rfl rfl rfl ?_
          refine gx_st (L' := [(0, w), (0, b), (0, (b / 2)), (0, 1), (0, 0), (0, 1)]) (S' := [(0, 0)]) r_296_47 rfl rfl rfl ?_
          refine gx_i0 (P := 0 = 0) r_296_49 (rfl) (fun h49 => ?_) (fun h49 => ?_)
          · refine gx_st (L' := [(0, w), (0, b), (0, (b / 2)), (0, 1), (0, 0), (0, 1)]) (S' := [(0, (-1))]) r_296_64 rfl rfl rfl ?_
            refine gx_st (L' := [(0, w), (0, b), (0, (b / 2)), (0, 1), (0, 0), (0, 1)]) (S' := [(0, (b / 2)), (0, (-1))]) r_296_65 rfl rfl rfl ?_
            refine gx_ar (L' := [(0, w), (0, b), (0, (b / 2)), (0, 1), (0, 0), (0, 1)]) (S' := [(0, (-1))]) (t := 0) (e := w32 (-(b / 2))) (z := -(b / 2)) r_296_66 rfl rfl rfl (w32_eq (by omega) (by omega) (by omega)) ?_
            refine gx_ic (P := (-1) < -(b / 2)) r_296_67 (rfl) (fun h67 => ?_) (fun h67 => ?_)
            · refine gx_st (L' := [(0, w), (0, b), (0, (b / 2)), (0, 1), (0, 0), (0, 1)]) (S' := [(0, 1)]) r_296_77 rfl rfl rfl ?_
              exact gx_rt r_296_79 rfl rfl ⟨_, rfl, RestV_c ⟨fun _ => rest_s (by omega), fun z => by omega⟩, rfl⟩
            · refine gx_st (L' := [(0, w), (0, b), (0, (b / 2)), (0, 1), (0, 0), (0, 1)]) (S' := [(0, 1)]) r_296_70 rfl rfl rfl ?_
              refine gx_st (L' := [(0, w), (0, b), (0, (b / 2)), (0, 1), (0, 0), (0, 1)]) (S' := [(0, 8), (0, 1)]) r_296_72 rfl rfl rfl ?_
              refine gx_st (L' := [(0, w), (0, b), (0, (b / 2)), (0, 1), (0, 0), (0, 1)]) (S' := [(0, (ior 1 8))]) r_296_74 rfl rfl rfl ?_
              rw [show (ior 1 8) = 9 from by decide]
              refine gx_st (L' := [(0, w), (0, b), (0, (b / 2)), (0, 1), (0, 0), (0, 9)]) (S' := []) r_296_75 rfl rfl rfl ?_
              refine gx_st (L' := [(0, w), (0, b), (0, (b / 2)), (0, 1), (0, 0), (0, 9)]) (S' := [(0, 9)]) r_296_77 rfl rfl rfl ?_
              exact gx_rt r_296_79 rfl rfl ⟨_, rfl, RestV_c ⟨fun _ => rest_s (by omega), fun z => by omega⟩, rfl⟩
          · omega
    · refine gx_st (L' := [(0, w), (0, b), (0, (b / 2)), (0, 1), (9, 0), (9, 0)]) (S' := [(0, 1)]) r_296_20 rfl rfl rfl ?_
      refine gx_st (L' := [(0, w), (0, b), (0, (b / 2)), (0, 1), (9, 0), (9, 0)]) (S' := [(0, 1)]) r_296_21 rfl rfl rfl ?_
      refine gx_st (L' := [(0, w), (0, b), (0, (b / 2)), (0, 1), (0, 1), (9, 0)]) (S' := []) r_296_25 rfl rfl rfl ?_
      refine gx_st (L' := [(0, w), (0, b), (0, (b / 2)), (0, 1), (0, 1), (9, 0)]) (S' := [(0, 0)]) r_296_27 rfl rfl rfl ?_
      refine gx_st (L' := [(0, w), (0, b), (0, (b / 2)), (0, 1), (0, 1), (0, 0)]) (S' := []) r_296_28 rfl rfl rfl ?_
      refine gx_st (L' := [(0, w), (0, b), (0, (b / 2)), (0, 1), (0, 1), (0, 0)]) (S' := [(0, 1)]) r_296_30 rfl rfl rfl ?_
      refine gx_i0 (P := 1 = 0) r_296_31 (rfl) (fun h31 => ?_) (fun h31 => ?_)
      · omega
      · refine gx_st (L' := [(0, w), (0, b), (0, (b / 2)), (0, 1), (0, 1), (0, 0)]) (S' := [(0, b)]) r_296_34 rfl rfl rfl ?_
        refine gx_ar (L' := [(0, w), (0, b), (0, (b / 2)), (0, 1), (0, 1), (0, 0)]) (S' := []) (t := 0) (e := w32 (-b)) (z := -b) r_296_35 rfl rfl rfl (w32_eq (by omega) (by omega) (by omega)) ?_
        refine gx_st (L' := [(0, w), (0, b), (0, (b / 2)), (0, 1), (0, 1), (0, 0)]) (S' := [(0, (-2)), (0, -b)]) r_296_36 rfl rfl rfl ?_
        refine gx_ic (P := -b < (-2)) r_296_38 (rfl) (fun h38 => ?_) (fun h38 => ?_)
        · refine gx_st (L' := [(0, w), (0, b), (0, (b / 2)), (0, 1), (0, 1), (0, 0)]) (S' := [(0, 1)]) r_296_47 rfl rfl rfl ?_
          refine gx_i0 (P := 1 = 0) r_296_49 (rfl) (fun h49 => ?_) (fun h49 => ?_)
          · omega
          · refine gx_st (L' := [(0, w), (0, b), (0, (b / 2)), (0, 1), (0, 1), (0, 0)]) (S' := [(0, (b / 2))]) r_296_52 rfl rfl rfl ?_
            refine gx_ar (L' := [(0, w), (0, b), (0, (b / 2)), (0, 1), (0, 1), (0, 0)]) (S' := []) (t := 0) (e := w32 (-(b / 2))) (z := -(b / 2)) r_296_53 rfl rfl rfl (w32_eq (by omega) (by omega) (by omega)) ?_
            refine gx_st (L' := [(0, w), (0, b), (0, (b / 2)), (0, 1), (0, 1), (0, 0)]) (S' := [(0, (-1)), (0, -(b / 2))]) r_296_54 rfl rfl rfl ?_
            refine gx_ic (P := -(b / 2) < (-1)) r_296_55 (rfl) (fun h55 => ?_) (fun h55 => ?_)
            · refine gx_st (L' := [(0, w), (0, b), (0, (b / 2)), (0, 1), (0, 1), (0, 0)]) (S' := [(0, (-1))]) r_296_64 rfl rfl rfl ?_
              refine gx_st (L' := [(0, w), (0, b), (0, (b / 2)), (0, 1), (0, 1), (0, 0)]) (S' := [(0, (b / 2)), (0, (-1))]) r_296_65 rfl rfl rfl ?_
              refine gx_ar (L' := [(0, w), (0, b), (0, (b / 2)), (0, 1), (0, 1), (0, 0)]) (S' := [(0, (-1))]) (t := 0) (e := w32 (-(b / 2))) (z := -(b / 2)) r_296_66 rfl rfl rfl (w32_eq (by omega) (by omega) (by omega)) ?_
              refine gx_ic (P := (-1) < -(b / 2)) r_296_67 (rfl) (fun h67 => ?_) (fun h67 => ?_)
              · refine gx_st (L' := [(0, w), (0, b), (0, (b / 2)), (0, 1), (0, 1), (0, 0)]) (S' := [(0, 0)]) r_296_77 rfl rfl rfl ?_
                exact gx_rt r_296_79 rfl rfl ⟨_, rfl, RestV_c ⟨fun _ => rest_s (by omega), fun z => by omega⟩, rfl⟩
              · refine gx_st (L' := [(0, w), (0, b), (0, (b / 2)), (0, 1), (0, 1), (0, 0)]) (S' := [(0, 0)]) r_296_70 rfl rfl rfl ?_
                refine gx_st (L' := [(0, w), (0, b), (0, (b / 2)), (0, 1), (0, 1), (0, 0)]) (S' := [(0, 8), (0, 0)]) r_296_72 rfl rfl rfl ?_
                refine gx_st (L' := [(0, w), (0, b), (0, (b / 2)), (0, 1), (0, 1), (0, 0)]) (S' := [(0, (ior 0 8))]) r_296_74 rfl rfl rfl ?_
                rw [show (ior 0 8) = 8 from by decide]
                refine gx_st (L' := [(0, w), (0, b), (0, (b / 2)), (0, 1), (0, 1), (0, 8)]) (S' := []) r_296_75 rfl rfl rfl ?_
                refine gx_st (L' := [(0, w), (0, b), (0, (b / 2)), (0, 1), (0, 1), (0, 8)]) (S' := [(0, 8)]) r_296_77 rfl rfl rfl ?_
                exact gx_rt r_296_79 rfl rfl ⟨_, rfl, RestV_c ⟨fun _ => rest_s (by omega), fun z => by omega⟩, rfl⟩
            · refine gx_st (L' := [(0, w), (0, b), (0, (b / 2)), (0, 1), (0, 1), (0, 0)]) (S' := [(0, 0)]) r_296_58 rfl rfl rfl ?_
              refine gx_st (L' := [(0, w), (0, b), (0, (b / 2)), (0, 1), (0, 1), (0, 0)]) (S' := [(0, 4), (0, 0)]) r_296_60 rfl rfl rfl ?_
              refine gx_st (L' := [(0, w), (0, b), (0, (b / 2)), (0, 1), (0, 1), (0, 0)]) (S' := [(0, (ior 0 4))]) r_296_61 rfl rfl rfl ?_
              rw [show (ior 0 4) = 4 from by decide]
              refine gx_st (L' := [(0, w), (0, b), (0, (b / 2)), (0, 1), (0, 1), (0, 4)]) (S' := []) r_296_62 rfl rfl rfl ?_
              refine gx_st (L' := [(0, w), (0, b), (0, (b / 2)), (0, 1), (0, 1), (0, 4)]) (S' := [(0, (-1))]) r_296_64 rfl rfl rfl ?_
              refine gx_st (L' := [(0, w), (0, b), (0, (b / 2)), (0, 1), (0, 1), (0, 4)]) (S' := [(0, (b / 2)), (0, (-1))]) r_296_65 rfl rfl rfl ?_
              refine gx_ar (L' := [(0, w), (0, b), (0, (b / 2)), (0, 1), (0, 1), (0, 4)]) (S' := [(0, (-1))]) (t := 0) (e := w32 (-(b / 2))) (z := -(b / 2)) r_296_66 rfl rfl rfl (w32_eq (by omega) (by omega) (by omega)) ?_
              refine gx_ic (P := (-1) < -(b / 2)) r_296_67 (rfl) (fun h67 => ?_) (fun h67 => ?_)
              · refine gx_st (L' := [(0, w), (0, b), (0, (b / 2)), (0, 1), (0, 1), (0, 4)]) (S' := [(0, 4)]) r_296_77 rfl rfl rfl ?_
                exact gx_rt r_296_79 rfl rfl ⟨_, rfl, RestV_c ⟨fun _ => rest_s (by omega), fun z => by omega⟩, rfl⟩
              · refine gx_st (L' := [(0, w), (0, b), (0, (b / 2)), (0, 1), (0, 1), (0, 4)]) (S' := [(0, 4)]) r_296_70 rfl rfl rfl ?_
                refine gx_st (L' := [(0, w), (0, b), (0, (b / 2)), (0, 1), (0, 1), (0, 4)]) (S' := [(0, 8), (0, 4)]) r_296_72 rfl rfl rfl ?_
                refine gx_st (L' := [(0, w), (0, b), (0, (b / 2)), (0, 1), (0, 1), (0, 4)]) (S' := [(0, (ior 4 8))]) r_296_74 rfl rfl rfl ?_
                rw [show (ior 4 8) = 12 from by decide]
                refine gx_st (L' := [(0, w), (0, b), (0, (b / 2)), (0, 1), (0, 1), (0, 12)]) (S' := []) r_296_75 rfl rfl rfl ?_
                refine gx_st (L' := [(0, w), (0, b), (0, (b / 2)), (0, 1), (0, 1), (0, 12)]) (S' := [(0, 12)]) r_296_77 rfl rfl rfl ?_
                exact gx_rt r_296_79 rfl rfl ⟨_, rfl, RestV_c ⟨fun _ => rest_s (by omega), fun z => by omega⟩, rfl⟩
        · refine gx_st (L' := [(0, w), (0, b), (0, (b / 2)), (0, 1), (0, 1), (0, 0)]) (S' := [(0, 0)]) r_296_41 rfl rfl rfl ?_
          refine gx_st (L' := [(0, w), (0, b), (0, (b / 2)), (0, 1), (0, 1), (0, 0)]) (S' := [(0, 1), (0, 0)]) r_296_43 rfl rfl rfl ?_
          refine gx_st (L' := [(0, w), (0, b), (0, (b / 2)), (0, 1), (0, 1), (0, 0)]) (S' := [(0, (ior 0 1))]) r_296_44 rfl rfl rfl ?_
          rw [show (ior 0 1) = 1 from by decide]
          refine gx_st (L' := [(0, w), (0, b), (0, (b / 2)), (0, 1), (0, 1), (0, 1)]) (S' := []) r_296_45 rfl rfl rfl ?_
          refine gx_st (L' := [(0, w), (0, b), (0, (b / 2)), (0, 1), (0, 1), (0, 1)]) (S' := [(0, 1)]) r_296_47 rfl rfl rfl ?_
          refine gx_i0 (P := 1 = 0) r_296_49 (rfl) (fun h49 => ?_) (fun h49 => ?_)
          · omega
          · refine gx_st (L' := [(0, w), (0, b), (0, (b / 2)), (0, 1), (0, 1), (0, 1)]) (S' := [(0, (b / 2))]) r_296_52 rfl rfl rfl ?_
            refine gx_ar (L' := [(0, w), (0, b), (0, (b / 2)), (0, 1), (0, 1), (0, 1)]) (S' := []) (t := 0) (e := w32 (-(b / 2))) (z := -(b / 2)) r_296_53 rfl rfl rfl (w32_eq (by omega) (by omega) (by omega)) ?_
            refine gx_st (L' := [(0, w), (0, b), (0, (b / 2)), (0, 1), (0, 1), (0, 1)]) (S' := [(0, (-1)), (0, -(b / 2))]) r_296_54 rfl rfl rfl ?_
            refine gx_ic (P := -(b / 2) < (-1)) r_296_55 (rfl) (fun h55 => ?_) (fun h55 => ?_)
            · refine gx_st (L' := [(0, w), (0, b), (0, (b / 2)), (0, 1), (0, 1), (0, 1)]) (S' := [(0, (-1))]) r_296_64 rfl rfl rfl ?_
              refine gx_st (L' := [(0, w), (0, b), (0, (b / 2)), (0, 1), (0, 1), (0, 1)]) (S' := [(0, (b / 2)), (0, (-1))]) r_296_65 rfl rfl rfl ?_
              refine gx_ar (L' := [(0, w), (0, b), (0, (b / 2)), (0, 1), (0, 1), (0, 1)]) (S' := [(0, (-1))]) (t := 0) (e := w32 (-(b / 2))) (z := -(b / 2)) r_296_66 rfl rfl rfl (w32_eq (by omega) (by omega) (by omega)) ?_
              refine gx_ic (P := (-1) < -(b / 2)) r_296_67 (rfl) (fun h67 => ?_) (fun h67 => ?_)
              · refine gx_st (L' := [(0, w), (0, b), (0, (b / 2)), (0, 1), (0, 1), (0, 1)]) (S' := [(0, 1)]) r_296_77 rfl rfl rfl ?_
                exact gx_rt r_296_79 rfl rfl ⟨_, rfl, RestV_c ⟨fun _ => rest_s (by omega), fun z => by omega⟩, rfl⟩
              · refine gx_st (L' := [(0, w), (0, b), (0, (b / 2)), (0, 1), (0, 1), (0, 1)]) (S' := [(0, 1)]) r_296_70 rfl rfl rfl ?_
                refine gx_st (L' := [(0, w), (0, b), (0, (b / 2)), (0, 1), (0, 1), (0, 1)]) (S' := [(0, 8), (0, 1)]) r_296_72 rfl rfl rfl ?_
                refine gx_st (L' := [(0, w), (0, b), (0, (b / 2)), (0, 1), (0, 1), (0, 1)]) (S' := [(0, (ior 1 8))]) r_296_74 rfl rfl rfl ?_
                rw [show (ior 1 8) = 9 from by decide]
                refine gx_st (L' := [(0, w), (0, b), (0, (b / 2)), (0, 1), (0, 1), (0, 9)]) (S' := []) r_296_75 rfl rfl rfl ?_
                refine gx_st (L' := [(0, w), (0, b), (0, (b / 2)), (0, 1), (0, 1), (0, 9)]) (S' := [(0, 9)]) r_296_77 rfl rfl rfl ?_
                exact gx_rt r_296_79 rfl rfl ⟨_, rfl, RestV_c ⟨fun _ => rest_s (by omega), fun z => by omega⟩, rfl⟩
            · refine gx_st (L' := [(0, w), (0, b), (0, (b / 2)), (0, 1), (0, 1), (0, 1)]) (S' := [(0, 1)]) r_296_58 rfl rfl rfl ?_
              refine gx_st (L' := [(0, w), (0, b), (0, (b / 2)), (0, 1), (0, 1), (0, 1)]) (S' := [(0, 4), (0, 1)]) r_296_60 rfl rfl rfl ?_
              refine gx_st (L' := [(0, w), (0, b), (0, (b / 2)), (0, 1), (0, 1), (0, 1)]) (S' := [(0, (ior 1 4))]) r_296_61 rfl rfl rfl ?_
              rw [show (ior 1 4) = 5 from by decide]
              refine gx_st (L' := [(0, w), (0, b), (0, (b / 2)), (0, 1), (0, 1), (0, 5)]) (S' := []) r_296_62 rfl rfl rfl ?_
              refine gx_st (L' := [(0, w), (0, b), (0, (b / 2)), (0, 1), (0, 1), (0, 5)]) (S' := [(0, (-1))]) r_296_64 rfl rfl rfl ?_
              refine gx_st (L' := [(0, w), (0, b), (0, (b / 2)), (0, 1), (0, 1), (0, 5)]) (S' := [(0, (b / 2)), (0, (-1))]) r_296_65 rfl rfl rfl ?_
              refine gx_ar (L' := [(0, w), (0, b), (0, (b / 2)), (0, 1), (0, 1), (0, 5)]) (S' := [(0, (-1))]) (t := 0) (e := w32 (-(b / 2))) (z := -(b / 2)) r_296_66 rfl rfl rfl (w32_eq (by omega) (by omega) (by omega)) ?_
              refine gx_ic (P := (-1) < -(b / 2)) r_296_67 (rfl) (fun h67 => ?_) (fun h67 => ?_)
              · refine gx_st (L' := [(0, w), (0, b), (0, (b / 2)), (0, 1), (0, 1), (0, 5)]) (S' := [(0, 5)]) r_296_77 rfl rfl rfl ?_
                exact gx_rt r_296_79 rfl rfl ⟨_, rfl, RestV_c ⟨fun _ => rest_s (by omega), fun z => by omega⟩, rfl⟩
              · refine gx_st (L' := [(0, w), (0, b), (0, (b / 2)), (0, 1), (0, 1), (0, 5)]) (S' := [(0, 5)]) r_296_70 rfl rfl rfl ?_
                refine gx_st (L' := [(0, w), (0, b), (0, (b / 2)), (0, 1), (0, 1), (0, 5)]) (S' := [(0, 8), (0, 5)]) r_296_72 rfl rfl rfl ?_
                refine gx_st (L' := [(0, w), (0, b), (0, (b / 2)), (0, 1), (0, 1), (0, 5)]) (S' := [(0, (ior 5 8))]) r_296_74 rfl rfl rfl ?_
                rw [show (ior 5 8) = 13 from by decide]
                refine gx_st (L' := [(0, w), (0, b), (0, (b / 2)), (0, 1), (0, 1), (0, 13)]) (S' := []) r_296_75 rfl rfl rfl ?_
                refine gx_st (L' := [(0, w), (0, b), (0, (b / 2)), (0, 1), (0, 1), (0, 13)]) (S' := [(0, 13)]) r_296_77 rfl rfl rfl ?_
                exact gx_rt r_296_79 rfl rfl ⟨_, rfl, RestV_c ⟨fun _ => rest_s (by omega), fun z => by omega⟩, rfl⟩
theorem x_51 (w b : Int) : GX T 1 51 0 [(2, 1), (0, w), (0, b)] [] m (RI (fun v m1 => v = RestV w b ∧ m1 = m)) := by
  refine gx_st (L' := [(2, 1), (0, w), (0, b)]) (S' := [(0, w)]) r_51_0 rfl rfl rfl ?_
  refine gx_st (L' := [(2, 1), (0, w), (0, b)]) (S' := [(0, 100), (0, w)]) r_51_1 rfl rfl rfl ?_
  refine gx_ci (nx := 6) (S2 := []) (x_71 w 100) r_51_3 rfl rfl rfl rfl rfl rfl rfl (by decide) rfl (fun x3 n3 q3 => ?_)
  obtain rfl := q3.1.symm
  obtain rfl := q3.2.symm
  show GX T 1 51 6 [(2, 1), (0, w), (0, b)] [(0, (if 0 ≤ w ∧ w < 100 then 1 else 0))] m (RI (fun v m1 => v = RestV w b ∧ m1 = m))
  refine gx_i0 (P := ¬ (0 ≤ w ∧ w < 100)) r_51_6 (b01_eq) (fun h6 => ?_) (fun h6 => ?_)
  · refine gx_st (L' := [(2, 1), (0, w), (0, b)]) (S' := [(0, (-2))]) r_51_18 rfl rfl rfl ?_
    exact gx_rt r_51_20 rfl rfl ⟨_, rfl, RestV_c ⟨fun z => by omega, fun _ => rfl⟩, rfl⟩
  · have h6 := Decidable.not_not.mp h6
    refine gx_st (L' := [(2, 1), (0, w), (0, b)]) (S' := [(0, b)]) r_51_9 rfl rfl rfl ?_
    refine gx_st (L' := [(2, 1), (0, w), (0, b)]) (S' := [(0, 100), (0, b)]) r_51_10 rfl rfl rfl ?_
    refine gx_ci (nx := 15) (S2 := []) (x_71 b 100) r_51_12 rfl rfl rfl rfl rfl rfl rfl (by decide) rfl (fun x12 n12 q12 => ?_)
    obtain rfl := q12.1.symm
    obtain rfl := q12.2.symm
    show GX T 1 51 15 [(2, 1), (0, w), (0, b)] [(0, (if 0 ≤ b ∧ b < 100 then 1 else 0))] m (RI (fun v m1 => v = RestV w b ∧ m1 = m))
    refine gx_i0 (P := 0 ≤ b ∧ b < 100) r_51_15 (b01_ne) (fun h15 => ?_) (fun h15 => ?_)
    · refine gx_st (L' := [(2, 1), (0, w), (0, b)]) (S' := [(0, w)]) r_51_21 rfl rfl rfl ?_
      refine gx_st (L' := [(2, 1), (0, w), (0, b)]) (S' := [(0, b), (0, w)]) r_51_22 rfl rfl rfl ?_
      refine gx_ci (nx := 26) (S2 := []) (x_296 w b (by omega) (by omega)) r_51_23 rfl rfl rfl rfl rfl rfl rfl (by decide) rfl (fun x23 n23 q23 => ?_)
      obtain rfl := q23.1.symm
      obtain rfl := q23.2.symm
      show GX T 1 51 26 [(2, 1), (0, w), (0, b)] [(0, (RestV w b))] m (RI (fun v m1 => v = RestV w b ∧ m1 = m))
      exact gx_rt r_51_26 rfl rfl ⟨_, rfl, rfl, rfl⟩
    · refine gx_st (L' := [(2, 1), (0, w), (0, b)]) (S' := [(0, (-2))]) r_51_18 rfl rfl rfl ?_
      exact gx_rt r_51_20 rfl rfl ⟨_, rfl, RestV_c ⟨fun z => by omega, fun _ => rfl⟩, rfl⟩
theorem x_202_00 (w : Int) : GX T 0 202 0 [(0, 0), (0, 0), (0, w)] [] m (RI (fun v m1 => v = 1 ∧ m1 = m)) := by
  refine gx_st (L' := [(0, 0), (0, 0), (0, w)]) (S' := [(0, 0)]) r_202_0 rfl rfl rfl ?_
  refine gx_i0 (P := ¬ 0 = 0) r_202_1 (rfl) (fun h1 => ?_) (fun h1 => ?_)
  · omega
  · have h1 := Decidable.not_not.mp h1
    refine gx_st (L' := [(0, 0), (0, 0), (0, w)]) (S' := [(0, 1)]) r_202_4 rfl rfl rfl ?_
    refine gx_st (L' := [(0, 0), (0, 0), (0, w)]) (S' := [(0, 1)]) r_202_5 rfl rfl rfl ?_
    exact gx_rt r_202_17 rfl rfl ⟨_, rfl, ⟨rfl, rfl⟩⟩
theorem x_203_00 (b : Int) (hb : 0 ≤ b ∧ b < 100) : GX T 0 203 0 [(0, 0), (0, 0), (0, b)] [] m (RI (fun v m1 => v = (-1) ∧ m1 = m)) := by
  refine gx_st (L' := [(0, 0), (0, 0), (0, b)]) (S' := [(0, 0)]) r_203_0 rfl rfl rfl ?_
  refine gx_i0 (P := 0 = 0) r_203_1 (rfl) (fun h1 => ?_) (fun h1 => ?_)
  · refine gx_st (L' := [(0, 0), (0, 0), (0, b)]) (S' := [(0, 0)]) r_203_18 rfl rfl rfl ?_
    refine gx_i0 (P := 0 = 0) r_203_19 (rfl) (fun h19 => ?_) (fun h19 => ?_)
    · refine gx_st (L' := [(0, 0), (0, 0), (0, b)]) (S' := [(0, (-1))]) r_203_27 rfl rfl rfl ?_
      exact gx_rt r_203_28 rfl rfl ⟨_, rfl, ⟨rfl, rfl⟩⟩
    · omega
  · omega
theorem x_202_01 (w : Int) : GX T 0 202 0 [(0, 0), (0, 1), (0, w)] [] m (RI (fun v m1 => v = 1 ∧ m1 = m)) := by
  refine gx_st (L' := [(0, 0), (0, 1), (0, w)]) (S' := [(0, 0)]) r_202_0 rfl rfl rfl ?_
  refine gx_i0 (P := ¬ 0 = 0) r_202_1 (rfl) (fun h1 => ?_) (fun h1 => ?_)
  · omega
  · have h1 := Decidable.not_not.mp h1
    refine gx_st (L' := [(0, 0), (0, 1), (0, w)]) (S' := [(0, 1)]) r_202_4 rfl rfl rfl ?_
    refine gx_st (L' := [(0, 0), (0, 1), (0, w)]) (S' := [(0, 1)]) r_202_5 rfl rfl rfl ?_
    exact gx_rt r_202_17 rfl rfl ⟨_, rfl, ⟨rfl, rfl⟩⟩
theorem x_203_01 (b : Int) (hb : 0 ≤ b ∧ b < 100) : GX T 0 203 0 [(0, 0), (0, 1), (0, b)] [] m (RI (fun v m1 => v = -(b / 2) ∧ m1 = m)) := by
  refine gx_st (L' := [(0, 0), (0, 1), (0, b)]) (S' := [(0, 1)]) r_203_0 rfl rfl rfl ?_
  refine gx_i0 (P := 1 = 0) r_203_1 (rfl) (fun h1 => ?_) (fun h1 => ?_)
  · omega
  · refine gx_st (L' := [(0, 0), (0, 1), (0, b)]) (S' := [(0, 0)]) r_203_4 rfl rfl rfl ?_
    refine gx_i0 (P := 0 = 0) r_203_5 (rfl) (fun h5 => ?_) (fun h5 => ?_)
    · refine gx_st (L' := [(0, 0), (0, 1), (0, b)]) (S' := [(0, b)]) r_203_13 rfl rfl rfl ?_
      refine gx_st (L' := [(0, 0), (0, 1), (0, b)]) (S' := [(0, 2), (0, b)]) r_203_14 rfl rfl rfl ?_
      refine gx_dv (z := (b / 2)) r_203_15 (by decide) (w32_td (by omega) rfl (by omega) (by omega)) ?_
      refine gx_ar (L' := [(0, 0), (0, 1), (0, b)]) (S' := []) (t := 0) (e := w32 (-(b / 2))) (z := -(b / 2)) r_203_16 rfl rfl rfl (w32_eq (by omega) (by omega) (by omega)) ?_
      exact gx_rt r_203_17 rfl rfl ⟨_, rfl, ⟨rfl, rfl⟩⟩
    · omega
theorem x_202_10 (w : Int) : GX T 0 202 0 [(0, 1), (0, 0), (0, w)] [] m (RI (fun v m1 => v = 0 ∧ m1 = m)) := by
  refine gx_st (L' := [(0, 1), (0, 0), (0, w)]) (S' := [(0, 1)]) r_202_0 rfl rfl rfl ?_
  refine gx_i0 (P := ¬ 1 = 0) r_202_1 (rfl) (fun h1 => ?_) (fun h1 => ?_)
  · refine gx_st (L' := [(0, 1), (0, 0), (0, w)]) (S' := [(0, 0)]) r_202_8 rfl rfl rfl ?_
    refine gx_i0 (P := 0 = 0) r_202_9 (rfl) (fun h9 => ?_) (fun h9 => ?_)
    · refine gx_st (L' := [(0, 1), (0, 0), (0, w)]) (S' := [(0, 0)]) r_202_16 rfl rfl rfl ?_
      exact gx_rt r_202_17 rfl rfl ⟨_, rfl, ⟨rfl, rfl⟩⟩
    · omega
  · have h1 := Decidable.not_not.mp h1
    omega
theorem x_203_10 (b : Int) (hb : 0 ≤ b ∧ b < 100) : GX T 0 203 0 [(0, 1), (0, 0), (0, b)] [] m (RI (fun v m1 => v = (-2) ∧ m1 = m)) := by
  refine gx_st (L' := [(0, 1), (0, 0), (0, b)]) (S' := [(0, 0)]) r_203_0 rfl rfl rfl ?_
  refine gx_i0 (P := 0 = 0) r_203_1 (rfl) (fun h1 => ?_) (fun h1 => ?_)
  · refine gx_st (L' := [(0, 1), (0, 0), (0, b)]) (S' := [(0, 1)]) r_203_18 rfl rfl rfl ?_
    refine gx_i0 (P := 1 = 0) r_203_19 (rfl) (fun h19 => ?_) (fun h19 => ?_)
    · omega
    · refine gx_st (L' := [(0, 1), (0, 0), (0, b)]) (S' := [(0, (-2))]) r_203_22 rfl rfl rfl ?_
      refine gx_st (L' := [(0, 1), (0, 0), (0, b)]) (S' := [(0, (-2))]) r_203_24 rfl rfl rfl ?_
      exact gx_rt r_203_28 rfl rfl ⟨_, rfl, ⟨rfl, rfl⟩⟩
  · omega
theorem x_202_11 (w : Int) : GX T 0 202 0 [(0, 1), (0, 1), (0, w)] [] m (RI (fun v m1 => v = w ∧ m1 = m)) := by
  refine gx_st (L' := [(0, 1), (0, 1), (0, w)]) (S' := [(0, 1)]) r_202_0 rfl rfl rfl ?_
  refine gx_i0 (P := ¬ 1 = 0) r_202_1 (rfl) (fun h1 => ?_) (fun h1 => ?_)
  · refine gx_st (L' := [(0, 1), (0, 1), (0, w)]) (S' := [(0, 1)]) r_202_8 rfl rfl rfl ?_
    refine gx_i0 (P := 1 = 0) r_202_9 (rfl) (fun h9 => ?_) (fun h9 => ?_)
    · omega
    · refine gx_st (L' := [(0, 1), (0, 1), (0, w)]) (S' := [(0, w)]) r_202_12 rfl rfl rfl ?_
      refine gx_st (L' := [(0, 1), (0, 1), (0, w)]) (S' := [(0, w)]) r_202_13 rfl rfl rfl ?_
      exact gx_rt r_202_17 rfl rfl ⟨_, rfl, ⟨rfl, rfl⟩⟩
  · have h1 := Decidable.not_not.mp h1
    omega
theorem x_203_11 (b : Int) (hb : 0 ≤ b ∧ b < 100) : GX T 0 203 0 [(0, 1), (0, 1), (0, b)] [] m (RI (fun v m1 => v = -b ∧ m1 = m)) := by
  refine gx_st (L' := [(0, 1), (0, 1), (0, b)]) (S' := [(0, 1)]) r_203_0 rfl rfl rfl ?_
  refine gx_i0 (P := 1 = 0) r_203_1 (rfl) (fun h1 => ?_) (fun h1 => ?_)
  · omega
  · refine gx_st (L' := [(0, 1), (0, 1), (0, b)]) (S' := [(0, 1)]) r_203_4 rfl rfl rfl ?_
    refine gx_i0 (P := 1 = 0) r_203_5 (rfl) (fun h5 => ?_) (fun h5 => ?_)
    · omega
    · refine gx_st (L' := [(0, 1), (0, 1), (0, b)]) (S' := [(0, b)]) r_203_8 rfl rfl rfl ?_
      refine gx_ar (L' := [(0, 1), (0, 1), (0, b)]) (S' := []) (t := 0) (e := w32 (-b)) (z := -b) r_203_9 rfl rfl rfl (w32_eq (by omega) (by omega) (by omega)) ?_
      refine gx_st (L' := [(0, 1), (0, 1), (0, b)]) (S' := [(0, -b)]) r_203_10 rfl rfl rfl ?_
      exact gx_rt r_203_17 rfl rfl ⟨_, rfl, ⟨rfl, rfl⟩⟩
theorem x_204_00 (w b : Int) (hw : 0 ≤ w ∧ w < 100) (hb : 0 ≤ b ∧ b < 100) : GX T 1 204 0 [(0, 0), (0, 0), (0, w), (0, b)] [] m (RI (fun v m1 => v = (if (1 ≤ b / 2) then 1 else 0) ∧ m1 = m)) := by
  refine gx_st (L' := [(0, 0), (0, 0), (0, w), (0, b)]) (S' := [(0, 0)]) r_204_0 rfl rfl rfl ?_
  refine gx_st (L' := [(0, 0), (0, 0), (0, w), (0, b)]) (S' := [(0, 0), (0, 0)]) r_204_1 rfl rfl rfl ?_
  refine gx_st (L' := [(0, 0), (0, 0), (0, w), (0, b)]) (S' := [(0, w), (0, 0), (0, 0)]) r_204_2 rfl rfl rfl ?_
  refine gx_ci (nx := 6) (S2 := []) (x_202_00 w) r_204_3 rfl rfl rfl rfl rfl rfl rfl (by decide) rfl (fun x3 n3 q3 => ?_)
  obtain rfl := q3.1.symm
  obtain rfl := q3.2.symm
  show GX T 1 204 6 [(0, 0), (0, 0), (0, w), (0, b)] [(0, 1)] m (RI (fun v m1 => v = (if (1 ≤ b / 2) then 1 else 0) ∧ m1 = m))
  refine gx_st (L' := [(0, 0), (0, 0), (0, w), (0, b)]) (S' := [(0, 0), (0, 1)]) r_204_6 rfl rfl rfl ?_
  refine gx_i0 (P := ¬ 0 = 0) r_204_7 (rfl) (fun h7 => ?_) (fun h7 => ?_)
  · omega
  · have h7 := Decidable.not_not.mp h7
    refine gx_st (L' := [(0, 0), (0, 0), (0, w), (0, b)]) (S' := [(0, 1), (0, 1)]) r_204_10 rfl rfl rfl ?_
    refine gx_st (L' := [(0, 0), (0, 0), (0, w), (0, b)]) (S' := [(0, 1), (0, 1)]) r_204_11 rfl rfl rfl ?_
    refine gx_st (L' := [(0, 0), (0, 0), (0, w), (0, b)]) (S' := [(0, 0), (0, 1), (0, 1)]) r_204_15 rfl rfl rfl ?_
    refine gx_st (L' := [(0, 0), (0, 0), (0, w), (0, b)]) (S' := [(0, w), (0, 0), (0, 1), (0, 1)]) r_204_16 rfl rfl rfl ?_
    refine gx_ci (nx := 20) (S2 := [(0, 1)]) (x_202_10 w) r_204_17 rfl rfl rfl rfl rfl rfl rfl (by decide) rfl (fun x17 n17 q17 => ?_)
    obtain rfl := q17.1.symm
    obtain rfl := q17.2.symm
    show GX T 1 204 20 [(0, 0), (0, 0), (0, w), (0, b)] [(0, 0), (0, 1)] m (RI (fun v m1 => v = (if (1 ≤ b / 2) then 1 else 0) ∧ m1 = m))
    refine gx_ic (P := 1 < 0) r_204_20 (rfl) (fun h20 => ?_) (fun h20 => ?_)
    · omega
    · refine gx_st (L' := [(0, 0), (0, 0), (0, w), (0, b)]) (S' := [(0, 0)]) r_204_23 rfl rfl rfl ?_
      refine gx_st (L' := [(0, 0), (0, 0), (0, w), (0, b)]) (S' := [(0, 0), (0, 0)]) r_204_24 rfl rfl rfl ?_
      refine gx_st (L' := [(0, 0), (0, 0), (0, w), (0, b)]) (S' := [(0, b), (0, 0), (0, 0)]) r_204_25 rfl rfl rfl ?_
      refine gx_ci (nx := 29) (S2 := []) (x_203_00 b hb) r_204_26 rfl rfl rfl rfl rfl rfl rfl (by decide) rfl (fun x26 n26 q26 => ?_)
      obtain rfl := q26.1.symm
      obtain rfl := q26.2.symm
      show GX T 1 204 29 [(0, 0), (0, 0), (0, w), (0, b)] [(0, (-1))] m (RI (fun v m1 => v = (if (1 ≤ b / 2) then 1 else 0) ∧ m1 = m))
      refine gx_st (L' := [(0, 0), (0, 0), (0, w), (0, b)]) (S' := [(0, 0), (0, (-1))]) r_204_29 rfl rfl rfl ?_
      refine gx_st (L' := [(0, 0), (0, 0), (0, w), (0, b)]) (S' := [(0, 0), (0, 0), (0, (-1))]) r_204_30 rfl rfl rfl ?_
      refine gx_i0 (P := ¬ 0 = 0) r_204_31 (rfl) (fun h31 => ?_) (fun h31 => ?_)
      · omega
      · have h31 := Decidable.not_not.mp h31
        refine gx_st (L' := [(0, 0), (0, 0), (0, w), (0, b)]) (S' := [(0, 1), (0, 0), (0, (-1))]) r_204_34 rfl rfl rfl ?_
        refine gx_st (L' := [(0, 0), (0, 0), (0, w), (0, b)]) (S' := [(0, 1), (0, 0), (0, (-1))]) r_204_35 rfl rfl rfl ?_
        refine gx_st (L' := [(0, 0), (0, 0), (0, w), (0, b)]) (S' := [(0, b), (0, 1), (0, 0), (0, (-1))]) r_204_39 rfl rfl rfl ?_
        refine gx_ci (nx := 43) (S2 := [(0, (-1))]) (x_203_01 b hb) r_204_40 rfl rfl rfl rfl rfl rfl rfl (by decide) rfl (fun x40 n40 q40 => ?_)
        obtain rfl := q40.1.symm
        obtain rfl := q40.2.symm
        show GX T 1 204 43 [(0, 0), (0, 0), (0, w), (0, b)] [(0, -(b / 2)), (0, (-1))] m (RI (fun v m1 => v = (if (1 ≤ b / 2) then 1 else 0) ∧ m1 = m))
        refine gx_ic (P := (-1) < -(b / 2)) r_204_43 (rfl) (fun h43 => ?_) (fun h43 => ?_)
        · refine gx_st (L' := [(0, 0), (0, 0), (0, w), (0, b)]) (S' := [(0, 0)]) r_204_50 rfl rfl rfl ?_
          exact gx_rt r_204_51 rfl rfl ⟨_, rfl, ⟨by rw [if_neg (by omega)], rfl⟩⟩
        · refine gx_st (L' := [(0, 0), (0, 0), (0, w), (0, b)]) (S' := [(0, 1)]) r_204_46 rfl rfl rfl ?_
          refine gx_st (L' := [(0, 0), (0, 0), (0, w), (0, b)]) (S' := [(0, 1)]) r_204_47 rfl rfl rfl ?_
          exact gx_rt r_204_51 rfl rfl ⟨_, rfl, ⟨by rw [if_pos (by omega)], rfl⟩⟩
theorem x_204_01 (w b : Int) (hw : 0 ≤ w ∧ w < 100) (hb : 0 ≤ b ∧ b < 100) : GX T 1 204 0 [(0, 0), (0, 1), (0, w), (0, b)] [] m (RI (fun v m1 => v = (if (w ≤ 1 ∧ b / 2 ≤ 1) then 1 else 0) ∧ m1 = m)) := by
  refine gx_st (L' := [(0, 0), (0, 1), (0, w), (0, b)]) (S' := [(0, 0)]) r_204_0 rfl rfl rfl ?_
  refine gx_st (L' := [(0, 0), (0, 1), (0, w), (0, b)]) (S' := [(0, 1), (0, 0)]) r_204_1 rfl rfl rfl ?_
  refine gx_st (L' := [(0, 0), (0, 1), (0, w), (0, b)]) (S' := [(0, w), (0, 1), (0, 0)]) r_204_2 rfl rfl rfl ?_
  refine gx_ci (nx := 6) (S2 := []) (x_202_01 w) r_204_3 rfl rfl rfl rfl rfl rfl rfl (by decide) rfl (fun x3 n3 q3 => ?_)
  obtain rfl := q3.1.symm
  obtain rfl := q3.2.symm
  show GX T 1 204 6 [(0, 0), (0, 1), (0, w), (0, b)] [(0, 1)] m (RI (fun v m1 => v = (if (w ≤ 1 ∧ b / 2 ≤ 1) then 1 else 0) ∧ m1 = m))
  refine gx_st (L' := [(0, 0), (0, 1), (0, w), (0, b)]) (S' := [(0, 0), (0, 1)]) r_204_6 rfl rfl rfl ?_
  refine gx_i0 (P := ¬ 0 = 0) r_204_7 (rfl) (fun h7 => ?_) (fun h7 => ?_)
  · omega
  · have h7 := Decidable.not_not.mp h7
    refine gx_st (L' := [(0, 0), (0, 1), (0, w), (0, b)]) (S' := [(0, 1), (0, 1)]) r_204_10 rfl rfl rfl ?_
    refine gx_st (L' := [(0, 0), (0, 1), (0, w), (0, b)]) (S' := [(0, 1), (0, 1)]) r_204_11 rfl rfl rfl ?_
    refine gx_st (L' := [(0, 0), (0, 1), (0, w), (0, b)]) (S' := [(0, 1), (0, 1), (0, 1)]) r_204_15 rfl rfl rfl ?_
    refine gx_st (L' := [(0, 0), (0, 1), (0, w), (0, b)]) (S' := [(0, w), (0, 1), (0, 1), (0, 1)]) r_204_16 rfl rfl rfl ?_
    refine gx_ci (nx := 20) (S2 := [(0, 1)]) (x_202_11 w) r_204_17 rfl rfl rfl rfl rfl rfl rfl (by decide) rfl (fun x17 n17 q17 => ?_)
    obtain rfl := q17.1.symm
    obtain rfl := q17.2.symm
    show GX T 1 204 20 [(0, 0), (0, 1), (0, w), (0, b)] [(0, w), (0, 1)] m (RI (fun v m1 => v = (if (w ≤ 1 ∧ b / 2 ≤ 1) then 1 else 0) ∧ m1 = m))
    refine gx_ic (P := 1 < w) r_204_20 (rfl) (fun h20 => ?_) (fun h20 => ?_)
    · refine gx_st (L' := [(0, 0), (0, 1), (0, w), (0, b)]) (S' := [(0, 0)]) r_204_50 rfl rfl rfl ?_
      exact gx_rt r_204_51 rfl rfl ⟨_, rfl, ⟨by rw [if_neg (by omega)], rfl⟩⟩
    · refine gx_st (L' := [(0, 0), (0, 1), (0, w), (0, b)]) (S' := [(0, 0)]) r_204_23 rfl rfl rfl ?_
      refine gx_st (L' := [(0, 0), (0, 1), (0, w), (0, b)]) (S' := [(0, 1), (0, 0)]) r_204_24 rfl rfl rfl ?_
      refine gx_st (L' := [(0, 0), (0, 1), (0, w), (0, b)]) (S' := [(0, b), (0, 1), (0, 0)]) r_204_25 rfl rfl rfl ?_
      refine gx_ci (nx := 29) (S2 := []) (x_203_01 b hb) r_204_26 rfl rfl rfl rfl rfl rfl rfl (by decide) rfl (fun x26 n26 q26 => ?_)
      obtain rfl := q26.1.symm
      obtain rfl := q26.2.symm
      show GX T 1 204 29 [(0, 0), (0, 1), (0, w), (0, b)] [(0, -(b / 2))] m (RI (fun v m1 => v = (if (w ≤ 1 ∧ b / 2 ≤ 1) then 1 else 0) ∧ m1 = m))
      refine gx_st (L' := [(0, 0), (0, 1), (0, w), (0, b)]) (S' := [(0, 0), (0, -(b / 2))]) r_204_29 rfl rfl rfl ?_
      refine gx_st (L' := [(0, 0), (0, 1), (0, w), (0, b)]) (S' := [(0, 1), (0, 0), (0, -(b / 2))]) r_204_30 rfl rfl rfl ?_
      refine gx_i0 (P := ¬ 1 = 0) r_204_31 (rfl) (fun h31 => ?_) (fun h31 => ?_)
      · refine gx_st (L' := [(0, 0), (0, 1), (0, w), (0, b)]) (S' := [(0, 0), (0, 0), (0, -(b / 2))]) r_204_38 rfl rfl rfl ?_
        refine gx_st (L' := [(0, 0), (0, 1), (0, w), (0, b)]) (S' := [(0, b), (0, 0), (0, 0), (0, -(b / 2))]) r_204_39 rfl rfl rfl ?_
        refine gx_ci (nx := 43) (S2 := [(0, -(b / 2))]) (x_203_00 b hb) r_204_40 rfl rfl rfl rfl rfl rfl rfl (by decide) rfl (fun x40 n40 q40 => ?_)
        obtain rfl := q40.1.symm
        obtain rfl := q40.2.symm
        show GX T 1 204 43 [(0, 0), (0, 1), (0, w), (0, b)] [(0, (-1)), (0, -(b / 2))] m (RI (fun v m1 => v = (if (w ≤ 1 ∧ b / 2 ≤ 1) then 1 else 0) ∧ m1 = m))
        refine gx_ic (P := -(b / 2) < (-1)) r_204_43 (rfl) (fun h43 => ?_) (fun h43 => ?_)
        · refine gx_st (L' := [(0, 0), (0, 1), (0, w), (0, b)]) (S' := [(0, 0)]) r_204_50 rfl rfl rfl ?_
          exact gx_rt r_204_51 rfl rfl ⟨_, rfl, ⟨by rw [if_neg (by omega)], rfl⟩⟩
        · refine gx_st (L' := [(0, 0), (0, 1), (0, w), (0, b)]) (S' := [(0, 1)]) r_204_46 rfl rfl rfl ?_
          refine gx_st (L' := [(0, 0), (0, 1), (0, w), (0, b)]) (S' := [(0, 1)]) r_204_47 rfl rfl rfl ?_
          exact gx_rt r_204_51 rfl rfl ⟨_, rfl, ⟨by rw [if_pos (by omega)], rfl⟩⟩
      · have h31 := Decidable.not_not.mp h31
        omega
theorem x_204_10 (w b : Int) (hw : 0 ≤ w ∧ w < 100) (hb : 0 ≤ b ∧ b < 100) : GX T 1 204 0 [(0, 1), (0, 0), (0, w), (0, b)] [] m (RI (fun v m1 => v = 0 ∧ m1 = m)) := by
  refine gx_st (L' := [(0, 1), (0, 0), (0, w), (0, b)]) (S' := [(0, 1)]) r_204_0 rfl rfl rfl ?_
  refine gx_st (L' := [(0, 1), (0, 0), (0, w), (0, b)]) (S' := [(0, 0), (0, 1)]) r_204_1 rfl rfl rfl ?_
  refine gx_st (L' := [(0, 1), (0, 0), (0, w), (0, b)]) (S' := [(0, w), (0, 0), (0, 1)]) r_204_2 rfl rfl rfl ?_
  refine gx_ci (nx := 6) (S2 := []) (x_202_10 w) r_204_3 rfl rfl rfl rfl rfl rfl rfl (by decide) rfl (fun x3 n3 q3 => ?_)
  obtain rfl := q3.1.symm
  obtain rfl := q3.2.symm
  show GX T 1 204 6 [(0, 1), (0, 0), (0, w), (0, b)] [(0, 0)] m (RI (fun v m1 => v = 0 ∧ m1 = m))
  refine gx_st (L' := [(0, 1), (0, 0), (0, w), (0, b)]) (S' := [(0, 1), (0, 0)]) r_204_6 rfl rfl rfl ?_
  refine gx_i0 (P := ¬ 1 = 0) r_204_7 (rfl) (fun h7 => ?_) (fun h7 => ?_)
  · refine gx_st (L' := [(0, 1), (0, 0), (0, w), (0, b)]) (S' := [(0, 0), (0, 0)]) r_204_14 rfl rfl rfl ?_
    refine gx_st (L' := [(0, 1), (0, 0), (0, w), (0, b)]) (S' := [(0, 0), (0, 0), (0, 0)]) r_204_15 rfl rfl rfl ?_
    refine gx_st (L' := [(0, 1), (0, 0), (0, w), (0, b)]) (S' := [(0, w), (0, 0), (0, 0), (0, 0)]) r_204_16 rfl rfl rfl ?_
    refine gx_ci (nx := 20) (S2 := [(0, 0)]) (x_202_00 w) r_204_17 rfl rfl rfl rfl rfl rfl rfl (by decide) rfl (fun x17 n17 q17 => ?_)
    obtain rfl := q17.1.symm
    obtain rfl := q17.2.symm
    show GX T 1 204 20 [(0, 1), (0, 0), (0, w), (0, b)] [(0, 1), (0, 0)] m (RI (fun v m1 => v = 0 ∧ m1 = m))
    refine gx_ic (P := 0 < 1) r_204_20 (rfl) (fun h20 => ?_) (fun h20 => ?_)
    · refine gx_st (L' := [(0, 1), (0, 0), (0, w), (0, b)]) (S' := [(0, 0)]) r_204_50 rfl rfl rfl ?_
      exact gx_rt r_204_51 rfl rfl ⟨_, rfl, ⟨rfl, rfl⟩⟩
    · omega
  · have h7 := Decidable.not_not.mp h7
    omega
theorem x_204_11 (w b : Int) (hw : 0 ≤ w ∧ w < 100) (hb : 0 ≤ b ∧ b < 100) : GX T 1 204 0 [(0, 1), (0, 1), (0, w), (0, b)] [] m (RI (fun v m1 => v = (if (1 ≤ w ∧ b ≤ 2) then 1 else 0) ∧ m1 = m)) := by
  refine gx_st (L' := [(0, 1), (0, 1), (0, w), (0, b)]) (S' := [(0, 1)]) r_204_0 rfl rfl rfl ?_
  refine gx_st (L' := [(0, 1), (0, 1), (0, w), (0, b)]) (S' := [(0, 1), (0, 1)]) r_204_1 rfl rfl rfl ?_
  refine gx_st (L' := [(0, 1), (0, 1), (0, w), (0, b)]) (S' := [(0, w), (0, 1), (0, 1)]) r_204_2 rfl rfl rfl ?_
  refine gx_ci (nx := 6) (S2 := []) (x_202_11 w) r_204_3 rfl rfl rfl rfl rfl rfl rfl (by decide) rfl (fun x3 n3 q3 => ?_)
  obtain rfl := q3.1.symm
  obtain rfl := q3.2.symm
  show GX T 1 204 6 [(0, 1), (0, 1), (0, w), (0, b)] [(0, w)] m (RI (fun v m1 => v = (if (1 ≤ w ∧ b ≤ 2) then 1 else 0) ∧ m1 = m))
  refine gx_st (L' := [(0, 1), (0, 1), (0, w), (0, b)]) (S' := [(0, 1), (0, w)]) r_204_6 rfl rfl rfl ?_
  refine gx_i0 (P := ¬ 1 = 0) r_204_7 (rfl) (fun h7 => ?_) (fun h7 => ?_)
  · refine gx_st (L' := [(0, 1), (0, 1), (0, w), (0, b)]) (S' := [(0, 0), (0, w)]) r_204_14 rfl rfl rfl ?_
    refine gx_st (L' := [(0, 1), (0, 1), (0, w), (0, b)]) (S' := [(0, 1), (0, 0), (0, w)]) r_204_15 rfl rfl rfl ?_
    refine gx_st (L' := [(0, 1), (0, 1), (0, w), (0, b)]) (S' := [(0, w), (0, 1), (0, 0), (0, w)]) r_204_16 rfl rfl rfl ?_
    refine gx_ci (nx := 20) (S2 := [(0, w)]) (x_202_01 w) r_204_17 rfl rfl rfl rfl rfl rfl rfl (by decide) rfl (fun x17 n17 q17 => ?_)
    obtain rfl := q17.1.symm
    obtain rfl := q17.2.symm
    show GX T 1 204 20 [(0, 1), (0, 1), (0, w), (0, b)] [(0, 1), (0, w)] m (RI (fun v m1 => v = (if (1 ≤ w ∧ b ≤ 2) then 1 else 0) ∧ m1 = m))
    refine gx_ic (P := w < 1) r_204_20 (rfl) (fun h20 => ?_) (fun h20 => ?_)
    · refine gx_st (L' := [(0, 1), (0, 1), (0, w), (0, b)]) (S' := [(0, 0)]) r_204_50 rfl rfl rfl ?_
      exact gx_rt r_204_51 rfl rfl ⟨_, rfl, ⟨by rw [if_neg (by omega)], rfl⟩⟩
    · refine gx_st (L' := [(0, 1), (0, 1), (0, w), (0, b)]) (S' := [(0, 1)]) r_204_23 rfl rfl rfl ?_
      refine gx_st (L' := [(0, 1), (0, 1), (0, w), (0, b)]) (S' := [(0, 1), (0, 1)]) r_204_24 rfl rfl rfl ?_
      refine gx_st (L' := [(0, 1), (0, 1), (0, w), (0, b)]) (S' := [(0, b), (0, 1), (0, 1)]) r_204_25 rfl rfl rfl ?_
      refine gx_ci (nx := 29) (S2 := []) (x_203_11 b hb) r_204_26 rfl rfl rfl rfl rfl rfl rfl (by decide) rfl (fun x26 n26 q26 => ?_)
      obtain rfl := q26.1.symm
      obtain rfl := q26.2.symm
      show GX T 1 204 29 [(0, 1), (0, 1), (0, w), (0, b)] [(0, -b)] m (RI (fun v m1 => v = (if (1 ≤ w ∧ b ≤ 2) then 1 else 0) ∧ m1 = m))
      refine gx_st (L' := [(0, 1), (0, 1), (0, w), (0, b)]) (S' := [(0, 1), (0, -b)]) r_204_29 rfl rfl rfl ?_
      refine gx_st (L' := [(0, 1), (0, 1), (0, w), (0, b)]) (S' := [(0, 1), (0, 1), (0, -b)]) r_204_30 rfl rfl rfl ?_
      refine gx_i0 (P := ¬ 1 = 0) r_204_31 (rfl) (fun h31 => ?_) (fun h31 => ?_)
      · refine gx_st (L' := [(0, 1), (0, 1), (0, w), (0, b)]) (S' := [(0, 0), (0, 1), (0, -b)]) r_204_38 rfl rfl rfl ?_
        refine gx_st (L' := [(0, 1), (0, 1), (0, w), (0, b)]) (S' := [(0, b), (0, 0), (0, 1), (0, -b)]) r_204_39 rfl rfl rfl ?_
        refine gx_ci (nx := 43) (S2 := [(0, -b)]) (x_203_10 b hb) r_204_40 rfl rfl rfl rfl rfl rfl rfl (by decide) rfl (fun x40 n40 q40 => ?_)
        obtain rfl := q40.1.symm
        obtain rfl := q40.2.symm
        show GX T 1 204 43 [(0, 1), (0, 1), (0, w), (0, b)] [(0, (-2)), (0, -b)] m (RI (fun v m1 => v = (if (1 ≤ w ∧ b ≤ 2) then 1 else 0) ∧ m1 = m))
        refine gx_ic (P := -b < (-2)) r_204_43 (rfl) (fun h43 => ?_) (fun h43 => ?_)
        · refine gx_st (L' := [(0, 1), (0, 1), (0, w), (0, b)]) (S' := [(0, 0)]) r_204_50 rfl rfl rfl ?_
          exact gx_rt r_204_51 rfl rfl ⟨_, rfl, ⟨by rw [if_neg (by omega)], rfl⟩⟩
        · refine gx_st (L' := [(0, 1), (0, 1), (0, w), (0, b)]) (S' := [(0, 1)]) r_204_46 rfl rfl rfl ?_
          refine gx_st (L' := [(0, 1), (0, 1), (0, w), (0, b)]) (S' := [(0, 1)]) r_204_47 rfl rfl rfl ?_
          exact gx_rt r_204_51 rfl rfl ⟨_, rfl, ⟨by rw [if_pos (by omega)], rfl⟩⟩
      · have h31 := Decidable.not_not.mp h31
        omega
  · have h7 := Decidable.not_not.mp h7
    omega
theorem x_205 (w b : Int) : GX T 2 205 0 [(2, 192), (0, w), (0, b), (9, 0), (9, 0)] [] m (RI (fun v m1 => v = RestV w b ∧ m1 = m)) := by
  refine gx_st (L' := [(2, 192), (0, w), (0, b), (9, 0), (9, 0)]) (S' := [(0, w)]) r_205_0 rfl rfl rfl ?_
  refine gx_st (L' := [(2, 192), (0, w), (0, b), (9, 0), (9, 0)]) (S' := [(1, w)]) r_205_1 rfl rfl rfl ?_
  refine gx_st (L' := [(2, 192), (0, w), (0, b), (9, 0), (9, 0)]) (S' := [(1, 0), (1, w)]) r_205_2 rfl rfl rfl ?_
  refine gx_st (L' := [(2, 192), (0, w), (0, b), (9, 0), (9, 0)]) (S' := [(1, 99), (1, 0), (1, w)]) r_205_3 rfl rfl rfl ?_
  refine gx_ci (nx := 9) (S2 := []) (x_86 w 0 99) r_205_6 rfl rfl rfl rfl rfl rfl rfl (by decide) rfl (fun x6 n6 q6 => ?_)
  obtain rfl := q6.1.symm
  obtain rfl := q6.2.symm
  show GX T 2 205 9 [(2, 192), (0, w), (0, b), (9, 0), (9, 0)] [(0, (if 0 ≤ w ∧ w ≤ 99 then 1 else 0))] m (RI (fun v m1 => v = RestV w b ∧ m1 = m))
  refine gx_i0 (P := ¬ (0 ≤ w ∧ w ≤ 99)) r_205_9 (b01_eq) (fun h9 => ?_) (fun h9 => ?_)
  · refine gx_st (L' := [(2, 192), (0, w), (0, b), (9, 0), (9, 0)]) (S' := [(0, (-2))]) r_205_24 rfl rfl rfl ?_
    exact gx_rt r_205_26 rfl rfl ⟨_, rfl, RestV_c ⟨fun z => by omega, fun _ => rfl⟩, rfl⟩
  · have h9 := Decidable.not_not.mp h9
    refine gx_st (L' := [(2, 192), (0, w), (0, b), (9, 0), (9, 0)]) (S' := [(0, b)]) r_205_12 rfl rfl rfl ?_
    refine gx_st (L' := [(2, 192), (0, w), (0, b), (9, 0), (9, 0)]) (S' := [(1, b)]) r_205_13 rfl rfl rfl ?_
    refine gx_st (L' := [(2, 192), (0, w), (0, b), (9, 0), (9, 0)]) (S' := [(1, 0), (1, b)]) r_205_14 rfl rfl rfl ?_
    refine gx_st (L' := [(2, 192), (0, w), (0, b), (9, 0), (9, 0)]) (S' := [(1, 99), (1, 0), (1, b)]) r_205_15 rfl rfl rfl ?_
    refine gx_ci (nx := 21) (S2 := []) (x_86 b 0 99) r_205_18 rfl rfl rfl rfl rfl rfl rfl (by decide) rfl (fun x18 n18 q18 => ?_)
    obtain rfl := q18.1.symm
    obtain rfl := q18.2.symm
    show GX T 2 205 21 [(2, 192), (0, w), (0, b), (9, 0), (9, 0)] [(0, (if 0 ≤ b ∧ b ≤ 99 then 1 else 0))] m (RI (fun v m1 => v = RestV w b ∧ m1 = m))
    refine gx_i0 (P := 0 ≤ b ∧ b ≤ 99) r_205_21 (b01_ne) (fun h21 => ?_) (fun h21 => ?_)
    · have hw : 0 ≤ w ∧ w < 100 := by omega
      have hb : 0 ≤ b ∧ b < 100 := by omega
      refine gx_st (L' := [(2, 192), (0, w), (0, b), (9, 0), (9, 0)]) (S' := [(0, 0)]) r_205_27 rfl rfl rfl ?_
      refine gx_st (L' := [(2, 192), (0, w), (0, b), (0, 0), (9, 0)]) (S' := []) r_205_28 rfl rfl rfl ?_
      refine gx_st (L' := [(2, 192), (0, w), (0, b), (0, 0), (9, 0)]) (S' := [(0, 0)]) r_205_29 rfl rfl rfl ?_
      refine gx_st (L' := [(2, 192), (0, w), (0, b), (0, 0), (0, 0)]) (S' := []) r_205_30 rfl rfl rfl ?_
      refine gx_st (L' := [(2, 192), (0, w), (0, b), (0, 0), (0, 0)]) (S' := [(0, 0)]) r_205_32 rfl rfl rfl ?_
      refine gx_st (L' := [(2, 192), (0, w), (0, b), (0, 0), (0, 0)]) (S' := [(0, 4), (0, 0)]) r_205_34 rfl rfl rfl ?_
      refine gx_ic (P := 4 ≤ 0) r_205_35 (rfl) (fun h35 => ?_) (fun h35 => ?_)
      · omega
      · refine gx_st (L' := [(2, 192), (0, w), (0, b), (0, 0), (0, 0)]) (S' := [(0, 0)]) r_205_38 rfl rfl rfl ?_
        refine gx_st (L' := [(2, 192), (0, w), (0, b), (0, 0), (0, 0)]) (S' := [(0, 0), (0, 0)]) r_205_39 rfl rfl rfl ?_
        refine gx_st (L' := [(2, 192), (0, w), (0, b), (0, 0), (0, 0)]) (S' := [(0, 2), (0, 0), (0, 0)]) r_205_41 rfl rfl rfl ?_
        refine gx_ic (P := 2 ≤ 0) r_205_42 (rfl) (fun h42 => ?_) (fun h42 => ?_)
        · omega
        · refine gx_st (L' := [(2, 192), (0, w), (0, b), (0, 0), (0, 0)]) (S' := [(0, 1), (0, 0)]) r_205_45 rfl rfl rfl ?_
          refine gx_st (L' := [(2, 192), (0, w), (0, b), (0, 0), (0, 0)]) (S' := [(0, 1), (0, 0)]) r_205_46 rfl rfl rfl ?_
          refine gx_st (L' := [(2, 192), (0, w), (0, b), (0, 0), (0, 0)]) (S' := [(0, 0), (0, 1), (0, 0)]) r_205_50 rfl rfl rfl ?_
          refine gx_st (L' := [(2, 192), (0, w), (0, b), (0, 0), (0, 0)]) (S' := [(0, 2), (0, 0), (0, 1), (0, 0)]) r_205_52 rfl rfl rfl ?_
          refine gx_rm (z := (0 % 2)) r_205_53 (by decide) (tm_eq (by omega) rfl) ?_
          refine gx_i0 (P := ¬ (0 % 2) = 0) r_205_54 (rfl) (fun h54 => ?_) (fun h54 => ?_)
          · refine gx_st (L' := [(2, 192), (0, w), (0, b), (0, 0), (0, 0)]) (S' := [(0, 0), (0, 1), (0, 0)]) r_205_61 rfl rfl rfl ?_
            refine gx_st (L' := [(2, 192), (0, w), (0, b), (0, 0), (0, 0)]) (S' := [(0, w), (0, 0), (0, 1), (0, 0)]) r_205_62 rfl rfl rfl ?_
            refine gx_st (L' := [(2, 192), (0, w), (0, b), (0, 0), (0, 0)]) (S' := [(0, b), (0, w), (0, 0), (0, 1), (0, 0)]) r_205_63 rfl rfl rfl ?_
            refine gx_ci (nx := 67) (S2 := [(0, 0)]) (x_204_10 w b hw hb) r_205_64 rfl rfl rfl rfl rfl rfl rfl (by decide) rfl (fun x64 n64 q64 => ?_)
            obtain rfl := q64.1.symm
            obtain rfl := q64.2.symm
            show GX T 2 205 67 [(2, 192), (0, w), (0, b), (0, 0), (0, 0)] [(0, 0), (0, 0)] m (RI (fun v m1 => v = RestV w b ∧ m1 = m))
            refine gx_i0 (P := 0 = 0) r_205_67 (rfl) (fun h67 => ?_) (fun h67 => ?_)
            · refine gx_st (L' := [(2, 192), (0, w), (0, b), (0, 0), (0, 0)]) (S' := [(0, 0), (0, 0)]) r_205_77 rfl rfl rfl ?_
              refine gx_st (L' := [(2, 192), (0, w), (0, b), (0, 0), (0, 0)]) (S' := [(0, (ior 0 0))]) r_205_78 rfl rfl rfl ?_
              rw [show (ior 0 0) = 0 from by decide]
              refine gx_st (L' := [(2, 192), (0, w), (0, b), (0, 0), (0, 0)]) (S' := []) r_205_79 rfl rfl rfl ?_
              refine gx_li (z := 1) (L' := [(2, 192), (0, w), (0, b), (0, 0), (0, 1)]) r_205_80 rfl (w32_eq (by omega) (by omega) (by omega)) rfl ?_
              refine gx_st (L' := [(2, 192), (0, w), (0, b), (0, 0), (0, 1)]) (S' := []) r_205_83 rfl rfl rfl ?_
              refine gx_st (L' := [(2, 192), (0, w), (0, b), (0, 0), (0, 1)]) (S' := [(0, 1)]) r_205_32 rfl rfl rfl ?_
              refine gx_st (L' := [(2, 192), (0, w), (0, b), (0, 0), (0, 1)]) (S' := [(0, 4), (0, 1)]) r_205_34 rfl rfl rfl ?_
              refine gx_ic (P := 4 ≤ 1) r_205_35 (rfl) (fun h35 => ?_) (fun h35 => ?_)
              · omega
              · refine gx_st (L' := [(2, 192), (0, w), (0, b), (0, 0), (0, 1)]) (S' := [(0, 0)]) r_205_38 rfl rfl rfl ?_
                refine gx_st (L' := [(2, 192), (0, w), (0, b), (0, 0), (0, 1)]) (S' := [(0, 1), (0, 0)]) r_205_39 rfl rfl rfl ?_
                refine gx_st (L' := [(2, 192), (0, w), (0, b), (0, 0), (0, 1)]) (S' := [(0, 2), (0, 1), (0, 0)]) r_205_41 rfl rfl rfl ?_
                refine gx_ic (P := 2 ≤ 1) r_205_42 (rfl) (fun h42 => ?_) (fun h42 => ?_)
                · omega
                · refine gx_st (L' := [(2, 192), (0, w), (0, b), (0, 0), (0, 1)]) (S' := [(0, 1), (0, 0)]) r_205_45 rfl rfl rfl ?_
                  refine gx_st (L' := [(2, 192), (0, w), (0, b), (0, 0), (0, 1)]) (S' := [(0, 1), (0, 0)]) r_205_46 rfl rfl rfl ?_
                  refine gx_st (L' := [(2, 192), (0, w), (0, b), (0, 0), (0, 1)]) (S' := [(0, 1), (0, 1), (0, 0)]) r_205_50 rfl rfl rfl ?_
                  refine gx_st (L' := [(2, 192), (0, w), (0, b), (0, 0), (0, 1)]) (S' := [(0, 2), (0, 1), (0, 1), (0, 0)]) r_205_52 rfl rfl rfl ?_
                  refine gx_rm (z := (1 % 2)) r_205_53 (by decide) (tm_eq (by omega) rfl) ?_
                  refine gx_i0 (P := ¬ (1 % 2) = 0) r_205_54 (rfl) (fun h54 => ?_) (fun h54 => ?_)
                  · refine gx_st (L' := [(2, 192), (0, w), (0, b), (0, 0), (0, 1)]) (S' := [(0, 0), (0, 1), (0, 0)]) r_205_61 rfl rfl rfl ?_
                    refine gx_st (L' := [(2, 192), (0, w), (0, b), (0, 0), (0, 1)]) (S' := [(0, w), (0, 0), (0, 1), (0, 0)]) r_205_62 rfl rfl rfl ?_
                    refine gx_st (L' := [(2, 192), (0, w), (0, b), (0, 0), (0, 1)]) (S' := [(0, b), (0, w), (0, 0), (0, 1), (0, 0)]) r_205_63 rfl rfl rfl ?_
                    refine gx_ci (nx := 67) (S2 := [(0, 0)]) (x_204_10 w b hw hb) r_205_64 rfl rfl rfl rfl rfl rfl rfl (by decide) rfl (fun x64 n64 q64 => ?_)
                    obtain rfl := q64.1.symm
                    obtain rfl := q64.2.symm
                    show GX T 2 205 67 [(2, 192), (0, w), (0, b), (0, 0), (0, 1)] [(0, 0), (0, 0)] m (RI (fun v m1 => v = RestV w b ∧ m1 = m))
                    refine gx_i0 (P := 0 = 0) r_205_67 (rfl) (fun h67 => ?_) (fun h67 => ?_)
                    · refine gx_st (L' := [(2, 192), (0, w), (0, b), (0, 0), (0, 1)]) (S' := [(0, 0), (0, 0)]) r_205_77 rfl rfl rfl ?_
                      refine gx_st (L' := [(2, 192), (0, w), (0, b), (0, 0), (0, 1)]) (S' := [(0, (ior 0 0))]) r_205_78 rfl rfl rfl ?_
                      rw [show (ior 0 0) = 0 from by decide]
                      refine gx_st (L' := [(2, 192), (0, w), (0, b), (0, 0), (0, 1)]) (S' := []) r_205_79 rfl rfl rfl ?_
                      refine gx_li (z := 2) (L' := [(2, 192), (0, w), (0, b), (0, 0), (0, 2)]) r_205_80 rfl (w32_eq (by omega) (by omega) (by omega)) rfl ?_
                      refine gx_st (L' := [(2, 192), (0, w), (0, b), (0, 0), (0, 2)]) (S' := []) r_205_83 rfl rfl rfl ?_
                      refine gx_st (L' := [(2, 192), (0, w), (0, b), (0, 0), (0, 2)]) (S' := [(0, 2)]) r_205_32 rfl rfl rfl ?_
                      refine gx_st (L' := [(2, 192), (0, w), (0, b), (0, 0), (0, 2)]) (S' := [(0, 4), (0, 2)]) r_205_34 rfl rfl rfl ?_
                      refine gx_ic (P := 4 ≤ 2) r_205_35 (rfl) (fun h35 => ?_) (fun h35 => ?_)
                      · omega
                      · refine gx_st (L' := [(2, 192), (0, w), (0, b), (0, 0), (0, 2)]) (S' := [(0, 0)]) r_205_38 rfl rfl rfl ?_
                        refine gx_st (L' := [(2, 192), (0, w), (0, b), (0, 0), (0, 2)]) (S' := [(0, 2), (0, 0)]) r_205_39 rfl rfl rfl ?_
                        refine gx_st (L' := [(2, 192), (0, w), (0, b), (0, 0), (0, 2)]) (S' := [(0, 2), (0, 2), (0, 0)]) r_205_41 rfl rfl rfl ?_
                        refine gx_ic (P := 2 ≤ 2) r_205_42 (rfl) (fun h42 => ?_) (fun h42 => ?_)
                        · refine gx_st (L' := [(2, 192), (0, w), (0, b), (0, 0), (0, 2)]) (S' := [(0, 0), (0, 0)]) r_205_49 rfl rfl rfl ?_
                          refine gx_st (L' := [(2, 192), (0, w), (0, b), (0, 0), (0, 2)]) (S' := [(0, 2), (0, 0), (0, 0)]) r_205_50 rfl rfl rfl ?_
                          refine gx_st (L' := [(2, 192), (0, w), (0, b), (0, 0), (0, 2)]) (S' := [(0, 2), (0, 2), (0, 0), (0, 0)]) r_205_52 rfl rfl rfl ?_
                          refine gx_rm (z := (2 % 2)) r_205_53 (by decide) (tm_eq (by omega) rfl) ?_
                          refine gx_i0 (P := ¬ (2 % 2) = 0) r_205_54 (rfl) (fun h54 => ?_) (fun h54 => ?_)
                          · refine gx_st (L' := [(2, 192), (0, w), (0, b), (0, 0), (0, 2)]) (S' := [(0, 0), (0, 0), (0, 0)]) r_205_61 rfl rfl rfl ?_
                            refine gx_st (L' := [(2, 192), (0, w), (0, b), (0, 0), (0, 2)]) (S' := [(0, w), (0, 0), (0, 0), (0, 0)]) r_205_62 rfl rfl rfl ?_
                            refine gx_st (L' := [(2, 192), (0, w), (0, b), (0, 0), (0, 2)]) (S' := [(0, b), (0, w), (0, 0), (0, 0), (0, 0)]) r_205_63 rfl rfl rfl ?_
                            refine gx_ci (nx := 67) (S2 := [(0, 0)]) (x_204_00 w b hw hb) r_205_64 rfl rfl rfl rfl rfl rfl rfl (by decide) rfl (fun x64 n64 q64 => ?_)
                            obtain rfl := q64.1.symm
                            obtain rfl := q64.2.symm
                            show GX T 2 205 67 [(2, 192), (0, w), (0, b), (0, 0), (0, 2)] [(0, (if 1 ≤ b / 2 then 1 else 0)), (0, 0)] m (RI (fun v m1 => v = RestV w b ∧ m1 = m))
                            refine gx_i0 (P := ¬ (1 ≤ b / 2)) r_205_67 (b01_eq) (fun h67 => ?_) (fun h67 => ?_)
                            · refine gx_st (L' := [(2, 192), (0, w), (0, b), (0, 0), (0, 2)]) (S' := [(0, 0), (0, 0)]) r_205_77 rfl rfl rfl ?_
                              refine gx_st (L' := [(2, 192), (0, w), (0, b), (0, 0), (0, 2)]) (S' := [(0, (ior 0 0))]) r_205_78 rfl rfl rfl ?_
                              rw [show (ior 0 0) = 0 from by decide]
                              refine gx_st (L' := [(2, 192), (0, w), (0, b), (0, 0), (0, 2)]) (S' := []) r_205_79 rfl rfl rfl ?_
                              refine gx_li (z := 3) (L' := [(2, 192), (0, w), (0, b), (0, 0), (0, 3)]) r_205_80 rfl (w32_eq (by omega) (by omega) (by omega)) rfl ?_
                              refine gx_st (L' := [(2, 192), (0, w), (0, b), (0, 0), (0, 3)]) (S' := []) r_205_83 rfl rfl rfl ?_
                              refine gx_st (L' := [(2, 192), (0, w), (0, b), (0, 0), (0, 3)]) (S' := [(0, 3)]) r_205_32 rfl rfl rfl ?_
                              refine gx_st (L' := [(2, 192), (0, w), (0, b), (0, 0), (0, 3)]) (S' := [(0, 4), (0, 3)]) r_205_34 rfl rfl rfl ?_
                              refine gx_ic (P := 4 ≤ 3) r_205_35 (rfl) (fun h35 => ?_) (fun h35 => ?_)
                              · omega
                              · refine gx_st (L' := [(2, 192), (0, w), (0, b), (0, 0), (0, 3)]) (S' := [(0, 0)]) r_205_38 rfl rfl rfl ?_
                                refine gx_st (L' := [(2, 192), (0, w), (0, b), (0, 0), (0, 3)]) (S' := [(0, 3), (0, 0)]) r_205_39 rfl rfl rfl ?_
                                refine gx_st (L' := [(2, 192), (0, w), (0, b), (0, 0), (0, 3)]) (S' := [(0, 2), (0, 3), (0, 0)]) r_205_41 rfl rfl rfl ?_
                                refine gx_ic (P := 2 ≤ 3) r_205_42 (rfl) (fun h42 => ?_) (fun h42 => ?_)
                                · refine gx_st (L' := [(2, 192), (0, w), (0, b), (0, 0), (0, 3)]) (S' := [(0, 0), (0, 0)]) r_205_49 rfl rfl rfl ?_
                                  refine gx_st (L' := [(2, 192), (0, w), (0, b), (0, 0), (0, 3)]) (S' := [(0, 3), (0, 0), (0, 0)]) r_205_50 rfl rfl rfl ?_
                                  refine gx_st (L' := [(2, 192), (0, w), (0, b), (0, 0), (0, 3)]) (S' := [(0, 2), (0, 3), (0, 0), (0, 0)]) r_205_52 rfl rfl rfl ?_
                                  refine gx_rm (z := (3 % 2)) r_205_53 (by decide) (tm_eq (by omega) rfl) ?_
                                  refine gx_i0 (P := ¬ (3 % 2) = 0) r_205_54 (rfl) (fun h54 => ?_) (fun h54 => ?_)
                                  · refine gx_st (L' := [(2, 192), (0, w), (0, b), (0, 0), (0, 3)]) (S' := [(0, 0), (0, 0), (0, 0)]) r_205_61 rfl rfl rfl ?_
                                    refine gx_st (L' := [(2, 192), (0, w), (0, b), (0, 0), (0, 3)]) (S' := [(0, w), (0, 0), (0, 0), (0, 0)]) r_205_62 rfl rfl rfl ?_
                                    refine gx_st (L' := [(2, 192), (0, w), (0, b), (0, 0), (0, 3)]) (S' := [(0, b), (0, w), (0, 0), (0, 0), (0, 0)]) r_205_63 rfl rfl rfl ?_
                                    refine gx_ci (nx := 67) (S2 := [(0, 0)]) (x_204_00 w b hw hb) r_205_64 rfl rfl rfl rfl rfl rfl rfl (by decide) rfl (fun x64 n64 q64 => ?_)
                                    obtain rfl := q64.1.symm
                                    obtain rfl := q64.2.symm
                                    show GX T 2 205 67 [(2, 192), (0, w), (0, b), (0, 0), (0, 3)] [(0, (if 1 ≤ b / 2 then 1 else 0)), (0, 0)] m (RI (fun v m1 => v = RestV w b ∧ m1 = m))
                                    refine gx_i0 (P := ¬ (1 ≤ b / 2)) r_205_67 (b01_eq) (fun h67 => ?_) (fun h67 => ?_)
                                    · refine gx_st (L' := [(2, 192), (0, w), (0, b), (0, 0), (0, 3)]) (S' := [(0, 0), (0, 0)]) r_205_77 rfl rfl rfl ?_
                                      refine gx_st (L' := [(2, 192), (0, w), (0, b), (0, 0), (0, 3)]) (S' := [(0, (ior 0 0))]) r_205_78 rfl rfl rfl ?_
                                      rw [show (ior 0 0) = 0 from by decide]
                                      refine gx_st (L' := [(2, 192), (0, w), (0, b), (0, 0), (0, 3)]) (S' := []) r_205_79 rfl rfl rfl ?_
                                      refine gx_li (z := 4) (L' := [(2, 192), (0, w), (0, b), (0, 0), (0, 4)]) r_205_80 rfl (w32_eq (by omega) (by omega) (by omega)) rfl ?_
                                      refine gx_st (L' := [(2, 192), (0, w), (0, b), (0, 0), (0, 4)]) (S' := []) r_205_83 rfl rfl rfl ?_
                                      refine gx_st (L' := [(2, 192), (0, w), (0, b), (0, 0), (0, 4)]) (S' := [(0, 4)]) r_205_32 rfl rfl rfl ?_
                                      refine gx_st (L' := [(2, 192), (0, w), (0, b), (0, 0), (0, 4)]) (S' := [(0, 4), (0, 4)]) r_205_34 rfl rfl rfl ?_
                                      refine gx_ic (P := 4 ≤ 4) r_205_35 (rfl) (fun h35 => ?_) (fun h35 => ?_)
                                      · refine gx_st (L' := [(2, 192), (0, w), (0, b), (0, 0), (0, 4)]) (S' := [(0, 0)]) r_205_86 rfl rfl rfl ?_
                                        exact gx_rt r_205_87 rfl rfl ⟨_, rfl, RestV_c ⟨fun _ => rest_s (by omega), fun z => by omega⟩, rfl⟩
                                      · omega
                                    · have h67 := Decidable.not_not.mp h67
                                      refine gx_st (L' := [(2, 192), (0, w), (0, b), (0, 0), (0, 3)]) (S' := [(0, 1), (0, 0)]) r_205_70 rfl rfl rfl ?_
                                      refine gx_st (L' := [(2, 192), (0, w), (0, b), (0, 0), (0, 3)]) (S' := [(0, 3), (0, 1), (0, 0)]) r_205_71 rfl rfl rfl ?_
                                      refine gx_st (L' := [(2, 192), (0, w), (0, b), (0, 0), (0, 3)]) (S' := [(0, (ishl 1 3)), (0, 0)]) r_205_73 rfl rfl rfl ?_
                                      rw [show (ishl 1 3) = 8 from by decide]
                                      refine gx_st (L' := [(2, 192), (0, w), (0, b), (0, 0), (0, 3)]) (S' := [(0, 8), (0, 0)]) r_205_74 rfl rfl rfl ?_
                                      refine gx_st (L' := [(2, 192), (0, w), (0, b), (0, 0), (0, 3)]) (S' := [(0, (ior 0 8))]) r_205_78 rfl rfl rfl ?_
                                      rw [show (ior 0 8) = 8 from by decide]
                                      refine gx_st (L' := [(2, 192), (0, w), (0, b), (0, 8), (0, 3)]) (S' := []) r_205_79 rfl rfl rfl ?_
                                      refine gx_li (z := 4) (L' := [(2, 192), (0, w), (0, b), (0, 8), (0, 4)]) r_205_80 rfl (w32_eq (by omega) (by omega) (by omega)) rfl ?_
                                      refine gx_st (L' := [(2, 192), (0, w), (0, b), (0, 8), (0, 4)]) (S' := []) r_205_83 rfl rfl rfl ?_
                                      refine gx_st (L' := [(2, 192), (0, w), (0, b), (0, 8), (0, 4)]) (S' := [(0, 4)]) r_205_32 rfl rfl rfl ?_
                                      refine gx_st (L' := [(2, 192), (0, w), (0, b), (0, 8), (0, 4)]) (S' := [(0, 4), (0, 4)]) r_205_34 rfl rfl rfl ?_
                                      refine gx_ic (P := 4 ≤ 4) r_205_35 (rfl) (fun h35 => ?_) (fun h35 => ?_)
                                      · refine gx_st (L' := [(2, 192), (0, w), (0, b), (0, 8), (0, 4)]) (S' := [(0, 8)]) r_205_86 rfl rfl rfl ?_
                                        exact gx_rt r_205_87 rfl rfl ⟨_, rfl, RestV_c ⟨fun _ => rest_s (by omega), fun z => by omega⟩, rfl⟩
                                      · omega
                                  · have h54 := Decidable.not_not.mp h54
                                    refine gx_st (L' := [(2, 192), (0, w), (0, b), (0, 0), (0, 3)]) (S' := [(0, 1), (0, 0), (0, 0)]) r_205_57 rfl rfl rfl ?_
                                    refine gx_st (L' := [(2, 192), (0, w), (0, b), (0, 0), (0, 3)]) (S' := [(0, 1), (0, 0), (0, 0)]) r_205_58 rfl rfl rfl ?_
                                    refine gx_st (L' := [(2, 192), (0, w), (0, b), (0, 0), (0, 3)]) (S' := [(0, w), (0, 1), (0, 0), (0, 0)]) r_205_62 rfl rfl rfl ?_
                                    refine gx_st (L' := [(2, 192), (0, w), (0, b), (0, 0), (0, 3)]) (S' := [(0, b), (0, w), (0, 1), (0, 0), (0, 0)]) r_205_63 rfl rfl rfl ?_
                                    refine gx_ci (nx := 67) (S2 := [(0, 0)]) (x_204_01 w b hw hb) r_205_64 rfl rfl rfl rfl rfl rfl rfl (by decide) rfl (fun x64 n64 q64 => ?_)
                                    obtain rfl := q64.1.symm
                                    obtain rfl := q64.2.symm
                                    show GX T 2 205 67 [(2, 192), (0, w), (0, b), (0, 0), (0, 3)] [(0, (if w ≤ 1 ∧ b / 2 ≤ 1 then 1 else 0)), (0, 0)] m (RI (fun v m1 => v = RestV w b ∧ m1 = m))
                                    refine gx_i0 (P := ¬ (w ≤ 1 ∧ b / 2 ≤ 1)) r_205_67 (b01_eq) (fun h67 => ?_) (fun h67 => ?_)
                                    · refine gx_st (L' := [(2, 192), (0, w), (0, b), (0, 0), (0, 3)]) (S' := [(0, 0), (0, 0)]) r_205_77 rfl rfl rfl ?_
                                      refine gx_st (L' := [(2, 192), (0, w), (0, b), (0, 0), (0, 3)]) (S' := [(0, (ior 0 0))]) r_205_78 rfl rfl rfl ?_
                                      rw [show (ior 0 0) = 0 from by decide]
                                      refine gx_st (L' := [(2, 192), (0, w), (0, b), (0, 0), (0, 3)]) (S' := []) r_205_79 rfl rfl rfl ?_
                                      refine gx_li (z := 4) (L' := [(2, 192), (0, w), (0, b), (0, 0), (0, 4)]) r_205_80 rfl (w32_eq (by omega) (by omega) (by omega)) rfl ?_
                                      refine gx_st (L' := [(2, 192), (0, w), (0, b), (0, 0), (0, 4)]) (S' := []) r_205_83 rfl rfl rfl ?_
                                      refine gx_st (L' := [(2, 192), (0, w), (0, b), (0, 0), (0, 4)]) (S' := [(0, 4)]) r_205_32 rfl rfl rfl ?_
                                      refine gx_st (L' := [(2, 192), (0, w), (0, b), (0, 0), (0, 4)]) (S' := [(0, 4), (0, 4)]) r_205_34 rfl rfl rfl ?_
                                      refine gx_ic (P := 4 ≤ 4) r_205_35 (rfl) (fun h35 => ?_) (fun h35 => ?_)
                                      · refine gx_st (L' := [(2, 192), (0, w), (0, b), (0, 0), (0, 4)]) (S' := [(0, 0)]) r_205_86 rfl rfl rfl ?_
                                        exact gx_rt r_205_87 rfl rfl ⟨_, rfl, RestV_c ⟨fun _ => rest_s (by omega), fun z => by omega⟩, rfl⟩
                                      · omega
                                    · have h67 := Decidable.not_not.mp h67
                                      refine gx_st (L' := [(2, 192), (0, w), (0, b), (0, 0), (0, 3)]) (S' := [(0, 1), (0, 0)]) r_205_70 rfl rfl rfl ?_
                                      refine gx_st (L' := [(2, 192), (0, w), (0, b), (0, 0), (0, 3)]) (S' := [(0, 3), (0, 1), (0, 0)]) r_205_71 rfl rfl rfl ?_
                                      refine gx_st (L' := [(2, 192), (0, w), (0, b), (0, 0), (0, 3)]) (S' := [(0, (ishl 1 3)), (0, 0)]) r_205_73 rfl rfl rfl ?_
                                      rw [show (ishl 1 3) = 8 from by decide]
                                      refine gx_st (L' := [(2, 192), (0, w), (0, b), (0, 0), (0, 3)]) (S' := [(0, 8), (0, 0)]) r_205_74 rfl rfl rfl ?_
                                      refine gx_st (L' := [(2, 192), (0, w), (0, b), (0, 0), (0, 3)]) (S' := [(0, (ior 0 8))]) r_205_78 rfl rfl rfl ?_
                                      rw [show (ior 0 8) = 8 from by decide]
                                      refine gx_st (L' := [(2, 192), (0, w), (0, b), (0, 8), (0, 3)]) (S' := []) r_205_79 rfl rfl rfl ?_
                                      refine gx_li (z := 4) (L' := [(2, 192), (0, w), (0, b), (0, 8), (0, 4)]) r_205_80 rfl (w32_eq (by omega) (by omega) (by omega)) rfl ?_
                                      refine gx_st (L' := [(2, 192), (0, w), (0, b), (0, 8), (0, 4)]) (S' := []) r_205_83 rfl rfl rfl ?_
                                      refine gx_st (L' := [(2, 192), (0, w), (0, b), (0, 8), (0, 4)]) (S' := [(0, 4)]) r_205_32 rfl rfl rfl ?_
                                      refine gx_st (L' := [(2, 192), (0, w), (0, b), (0, 8), (0, 4)]) (S' := [(0, 4), (0, 4)]) r_205_34 rfl rfl rfl ?_
                                      refine gx_ic (P := 4 ≤ 4) r_205_35 (rfl) (fun h35 => ?_) (fun h35 => ?_)
                                      · refine gx_st (L' := [(2, 192), (0, w), (0, b), (0, 8), (0, 4)]) (S' := [(0, 8)]) r_205_86 rfl rfl rfl ?_
                                        exact gx_rt r_205_87 rfl rfl ⟨_, rfl, RestV_c ⟨fun _ => rest_s (by omega), fun z => by omega⟩, rfl⟩
                                      · omega
                                · omega
                            · have h67 := Decidable.not_not.mp h67
                              refine gx_st (L' := [(2, 192), (0, w), (0, b), (0, 0), (0, 2)]) (S' := [(0, 1), (0, 0)]) r_205_70 rfl rfl rfl ?_
                              refine gx_st (L' := [(2, 192), (0, w), (0, b), (0, 0), (0, 2)]) (S' := [(0, 2), (0, 1), (0, 0)]) r_205_71 rfl rfl rfl ?_
                              refine gx_st (L' := [(2, 192), (0, w), (0, b), (0, 0), (0, 2)]) (S' := [(0, (ishl 1 2)), (0, 0)]) r_205_73 rfl rfl rfl ?_
                              rw [show (ishl 1 2) = 4 from by decide]
                              refine gx_st (L' := [(2, 192), (0, w), (0, b), (0, 0), (0, 2)]) (S' := [(0, 4), (0, 0)]) r_205_74 rfl rfl rfl ?_
                              refine gx_st (L' := [(2, 192), (0, w), (0, b), (0, 0), (0, 2)]) (S' := [(0, (ior 0 4))]) r_205_78 rfl rfl rfl ?_
                              rw [show (ior 0 4) = 4 from by decide]
                              refine gx_st (L' := [(2, 192), (0, w), (0, b), (0, 4), (0, 2)]) (S' := []) r_205_79 rfl rfl rfl ?_
                              refine gx_li (z := 3) (L' := [(2, 192), (0, w), (0, b), (0, 4), (0, 3)]) r_205_80 rfl (w32_eq (by omega) (by omega) (by omega)) rfl ?_
                              refine gx_st (L' := [(2, 192), (0, w), (0, b), (0, 4), (0, 3)]) (S' := []) r_205_83 rfl rfl rfl ?_
                              refine gx_st (L' := [(2, 192), (0, w), (0, b), (0, 4), (0, 3)]) (S' := [(0, 3)]) r_205_32 rfl rfl rfl ?_
                              refine gx_st (L' := [(2, 192), (0, w), (0, b), (0, 4), (0, 3)]) (S' := [(0, 4), (0, 3)]) r_205_34 rfl rfl rfl ?_
                              refine gx_ic (P := 4 ≤ 3) r_205_35 (rfl) (fun h35 => ?_) (fun h35 => ?_)
                              · omega
                              · refine gx_st (L' := [(2, 192), (0, w), (0, b), (0, 4), (0, 3)]) (S' := [(0, 4)]) r_205_38 rfl rfl rfl ?_
                                refine gx_st (L' := [(2, 192), (0, w), (0, b), (0, 4), (0, 3)]) (S' := [(0, 3), (0, 4)]) r_205_39 rfl rfl rfl ?_
                                refine gx_st (L' := [(2, 192), (0, w), (0, b), (0, 4), (0, 3)]) (S' := [(0, 2), (0, 3), (0, 4)]) r_205_41 rfl rfl rfl ?_
                                refine gx_ic (P := 2 ≤ 3) r_205_42 (rfl) (fun h42 => ?_) (fun h42 => ?_)
                                · refine gx_st (L' := [(2, 192), (0, w), (0, b), (0, 4), (0, 3)]) (S' := [(0, 0), (0, 4)]) r_205_49 rfl rfl rfl ?_
                                  refine gx_st (L' := [(2, 192), (0, w), (0, b), (0, 4), (0, 3)]) (S' := [(0, 3), (0, 0), (0, 4)]) r_205_50 rfl rfl rfl ?_
                                  refine gx_st (L' := [(2, 192), (0, w), (0, b), (0, 4), (0, 3)]) (S' := [(0, 2), (0, 3), (0, 0), (0, 4)]) r_205_52 rfl rfl rfl ?_
                                  refine gx_rm (z := (3 % 2)) r_205_53 (by decide) (tm_eq (by omega) rfl) ?_
                                  refine gx_i0 (P := ¬ (3 % 2) = 0) r_205_54 (rfl) (fun h54 => ?_) (fun h54 => ?_)
                                  · refine gx_st (L' := [(2, 192), (0, w), (0, b), (0, 4), (0, 3)]) (S' := [(0, 0), (0, 0), (0, 4)]) r_205_61 rfl rfl rfl ?_
                                    refine gx_st (L' := [(2, 192), (0, w), (0, b), (0, 4), (0, 3)]) (S' := [(0, w), (0, 0), (0, 0), (0, 4)]) r_205_62 rfl rfl rfl ?_
                                    refine gx_st (L' := [(2, 192), (0, w), (0, b), (0, 4), (0, 3)]) (S' := [(0, b), (0, w), (0, 0), (0, 0), (0, 4)]) r_205_63 rfl rfl rfl ?_
                                    refine gx_ci (nx := 67) (S2 := [(0, 4)]) (x_204_00 w b hw hb) r_205_64 rfl rfl rfl rfl rfl rfl rfl (by decide) rfl (fun x64 n64 q64 => ?_)
                                    obtain rfl := q64.1.symm
                                    obtain rfl := q64.2.symm
                                    show GX T 2 205 67 [(2, 192), (0, w), (0, b), (0, 4), (0, 3)] [(0, (if 1 ≤ b / 2 then 1 else 0)), (0, 4)] m (RI (fun v m1 => v = RestV w b ∧ m1 = m))
                                    refine gx_i0 (P := ¬ (1 ≤ b / 2)) r_205_67 (b01_eq) (fun h67 => ?_) (fun h67 => ?_)
                                    · refine gx_st (L' := [(2, 192), (0, w), (0, b), (0, 4), (0, 3)]) (S' := [(0, 0), (0, 4)]) r_205_77 rfl rfl rfl ?_
                                      refine gx_st (L' := [(2, 192), (0, w), (0, b), (0, 4), (0, 3)]) (S' := [(0, (ior 4 0))]) r_205_78 rfl rfl rfl ?_
                                      rw [show (ior 4 0) = 4 from by decide]
                                      refine gx_st (L' := [(2, 192), (0, w), (0, b), (0, 4), (0, 3)]) (S' := []) r_205_79 rfl rfl rfl ?_
                                      refine gx_li (z := 4) (L' := [(2, 192), (0, w), (0, b), (0, 4), (0, 4)]) r_205_80 rfl (w32_eq (by omega) (by omega) (by omega)) rfl ?_
                                      refine gx_st (L' := [(2, 192), (0, w), (0, b), (0, 4), (0, 4)]) (S' := []) r_205_83 rfl rfl rfl ?_
                                      refine gx_st (L' := [(2, 192), (0, w), (0, b), (0, 4), (0, 4)]) (S' := [(0, 4)]) r_205_32 rfl rfl rfl ?_
                                      refine gx_st (L' := [(2, 192), (0, w), (0, b), (0, 4), (0, 4)]) (S' := [(0, 4), (0, 4)]) r_205_34 rfl rfl rfl ?_
                                      refine gx_ic (P := 4 ≤ 4) r_205_35 (rfl) (fun h35 => ?_) (fun h35 => ?_)
                                      · refine gx_st (L' := [(2, 192), (0, w), (0, b), (0, 4), (0, 4)]) (S' := [(0, 4)]) r_205_86 rfl rfl rfl ?_
                                        exact gx_rt r_205_87 rfl rfl ⟨_, rfl, RestV_c ⟨fun _ => rest_s (by omega), fun z => by omega⟩, rfl⟩
                                      · omega
                                    · have h67 := Decidable.not_not.mp h67
                                      refine gx_st (L' := [(2, 192), (0, w), (0, b), (0, 4), (0, 3)]) (S' := [(0, 1), (0, 4)]) r_205_70 rfl rfl rfl ?_
                                      refine gx_st (L' := [(2, 192), (0, w), (0, b), (0, 4), (0, 3)]) (S' := [(0, 3), (0, 1), (0, 4)]) r_205_71 rfl rfl rfl ?_
                                      refine gx_st (L' := [(2, 192), (0, w), (0, b), (0, 4), (0, 3)]) (S' := [(0, (ishl 1 3)), (0, 4)]) r_205_73 rfl rfl rfl ?_
                                      rw [show (ishl 1 3) = 8 from by decide]
                                      refine gx_st (L' := [(2, 192), (0, w), (0, b), (0, 4), (0, 3)]) (S' := [(0, 8), (0, 4)]) r_205_74 rfl rfl rfl ?_
                                      refine gx_st (L' := [(2, 192), (0, w), (0, b), (0, 4), (0, 3)]) (S' := [(0, (ior 4 8))]) r_205_78 rfl rfl rfl ?_
                                      rw [show (ior 4 8) = 12 from by decide]
                                      refine gx_st (L' := [(2, 192), (0, w), (0, b), (0, 12), (0, 3)]) (S' := []) r_205_79 rfl rfl rfl ?_
                                      refine gx_li (z := 4) (L' := [(2, 192), (0, w), (0, b), (0, 12), (0, 4)]) r_205_80 rfl (w32_eq (by omega) (by omega) (by omega)) rfl ?_
                                      refine gx_st (L' := [(2, 192), (0, w), (0, b), (0, 12), (0, 4)]) (S' := []) r_205_83 rfl rfl rfl ?_
                                      refine gx_st (L' := [(2, 192), (0, w), (0, b), (0, 12), (0, 4)]) (S' := [(0, 4)]) r_205_32 rfl rfl rfl ?_
                                      refine gx_st (L' := [(2, 192), (0, w), (0, b), (0, 12), (0, 4)]) (S' := [(0, 4), (0, 4)]) r_205_34 rfl rfl rfl ?_
                                      refine gx_ic (P := 4 ≤ 4) r_205_35 (rfl) (fun h35 => ?_) (fun h35 => ?_)
                                      · refine gx_st (L' := [(2, 192), (0, w), (0, b), (0, 12), (0, 4)]) (S' := [(0, 12)]) r_205_86 rfl rfl rfl ?_
                                        exact gx_rt r_205_87 rfl rfl ⟨_, rfl, RestV_c ⟨fun _ => rest_s (by omega), fun z => by omega⟩, rfl⟩
                                      · omega
                                  · have h54 := Decidable.not_not.mp h54
                                    refine gx_st (L' := [(2, 192), (0, w), (0, b), (0, 4), (0, 3)]) (S' := [(0, 1), (0, 0), (0, 4)]) r_205_57 rfl rfl rfl ?_
                                    refine gx_st (L' := [(2, 192), (0, w), (0, b), (0, 4), (0, 3)]) (S' := [(0, 1), (0, 0), (0, 4)]) r_205_58 rfl rfl rfl ?_
                                    refine gx_st (L' := [(2, 192), (0, w), (0, b), (0, 4), (0, 3)]) (S' := [(0, w), (0, 1), (0, 0), (0, 4)]) r_205_62 rfl rfl rfl ?_
                                    refine gx_st (L' := [(2, 192), (0, w), (0, b), (0, 4), (0, 3)]) (S' := [(0, b), (0, w), (0, 1), (0, 0), (0, 4)]) r_205_63 rfl rfl rfl ?_
                                    refine gx_ci (nx := 67) (S2 := [(0, 4)]) (x_204_01 w b hw hb) r_205_64 rfl rfl rfl rfl rfl rfl rfl (by decide) rfl (fun x64 n64 q64 => ?_)
                                    obtain rfl := q64.1.symm
                                    obtain rfl := q64.2.symm
                                    show GX T 2 205 67 [(2, 192), (0, w), (0, b), (0, 4), (0, 3)] [(0, (if w ≤ 1 ∧ b / 2 ≤ 1 then 1 else 0)), (0, 4)] m (RI (fun v m1 => v = RestV w b ∧ m1 = m))
                                    refine gx_i0 (P := ¬ (w ≤ 1 ∧ b / 2 ≤ 1)) r_205_67 (b01_eq) (fun h67 => ?_) (fun h67 => ?_)
                                    · refine gx_st (L' := [(2, 192), (0, w), (0, b), (0, 4), (0, 3)]) (S' := [(0, 0), (0, 4)]) r_205_77 rfl rfl rfl ?_
                                      refine gx_st (L' := [(2, 192), (0, w), (0, b), (0, 4), (0, 3)]) (S' := [(0, (ior 4 0))]) r_205_78 rfl rfl rfl ?_
                                      rw [show (ior 4 0) = 4 from by decide]
                                      refine gx_st (L' := [(2, 192), (0, w), (0, b), (0, 4), (0, 3)]) (S' := []) r_205_79 rfl rfl rfl ?_
                                      refine gx_li (z := 4) (L' := [(2, 192), (0, w), (0, b), (0, 4), (0, 4)]) r_205_80 rfl (w32_eq (by omega) (by omega) (by omega)) rfl ?_
                                      refine gx_st (L' := [(2, 192), (0, w), (0, b), (0, 4), (0, 4)]) (S' := []) r_205_83 rfl rfl rfl ?_
                                      refine gx_st (L' := [(2, 192), (0, w), (0, b), (0, 4), (0, 4)]) (S' := [(0, 4)]) r_205_32 rfl rfl rfl ?_
                                      refine gx_st (L' := [(2, 192), (0, w), (0, b), (0, 4), (0, 4)]) (S' := [(0, 4), (0, 4)]) r_205_34 rfl rfl rfl ?_
                                      refine gx_ic (P := 4 ≤ 4) r_205_35 (rfl) (fun h35 => ?_) (fun h35 => ?_)
                                      · refine gx_st (L' := [(2, 192), (0, w), (0, b), (0, 4), (0, 4)]) (S' := [(0, 4)]) r_205_86 rfl rfl rfl ?_
                                        exact gx_rt r_205_87 rfl rfl ⟨_, rfl, RestV_c ⟨fun _ => rest_s (by omega), fun z => by omega⟩, rfl⟩
                                      · omega
                                    · have h67 := Decidable.not_not.mp h67
                                      refine gx_st (L' := [(2, 192), (0, w), (0, b), (0, 4), (0, 3)]) (S' := [(0, 1), (0, 4)]) r_205_70 rfl rfl rfl ?_
                                      refine gx_st (L' := [(2, 192), (0, w), (0, b), (0, 4), (0, 3)]) (S' := [(0, 3), (0, 1), (0, 4)]) r_205_71 rfl rfl rfl ?_
                                      refine gx_st (L' := [(2, 192), (0, w), (0, b), (0, 4), (0, 3)]) (S' := [(0, (ishl 1 3)), (0, 4)]) r_205_73 rfl rfl rfl ?_
                                      rw [show (ishl 1 3) = 8 from by decide]
                                      refine gx_st (L' := [(2, 192), (0, w), (0, b), (0, 4), (0, 3)]) (S' := [(0, 8), (0, 4)]) r_205_74 rfl rfl rfl ?_
                                      refine gx_st (L' := [(2, 192), (0, w), (0, b), (0, 4), (0, 3)]) (S' := [(0, (ior 4 8))]) r_205_78 rfl rfl rfl ?_
                                      rw [show (ior 4 8) = 12 from by decide]
                                      refine gx_st (L' := [(2, 192), (0, w), (0, b), (0, 12), (0, 3)]) (S' := []) r_205_79 rfl rfl rfl ?_
                                      refine gx_li (z := 4) (L' := [(2, 192), (0, w), (0, b), (0, 12), (0, 4)]) r_205_80 rfl (w32_eq (by omega) (by omega) (by omega)) rfl ?_
                                      refine gx_st (L' := [(2, 192), (0, w), (0, b), (0, 12), (0, 4)]) (S' := []) r_205_83 rfl rfl rfl ?_
                                      refine gx_st (L' := [(2, 192), (0, w), (0, b), (0, 12), (0, 4)]) (S' := [(0, 4)]) r_205_32 rfl rfl rfl ?_
                                      refine gx_st (L' := [(2, 192), (0, w), (0, b), (0, 12), (0, 4)]) (S' := [(0, 4), (0, 4)]) r_205_34 rfl rfl rfl ?_
                                      refine gx_ic (P := 4 ≤ 4) r_205_35 (rfl) (fun h35 => ?_) (fun h35 => ?_)
                                      · refine gx_st (L' := [(2, 192), (0, w), (0, b), (0, 12), (0, 4)]) (S' := [(0, 12)]) r_205_86 rfl rfl rfl ?_
                                        exact gx_rt r_205_87 rfl rfl ⟨_, rfl, RestV_c ⟨fun _ => rest_s (by omega), fun z => by omega⟩, rfl⟩
                                      · omega
                                · omega
                          · have h54 := Decidable.not_not.mp h54
                            refine gx_st (L' := [(2, 192), (0, w), (0, b), (0, 0), (0, 2)]) (S' := [(0, 1), (0, 0), (0, 0)]) r_205_57 rfl rfl rfl ?_
                            refine gx_st (L' := [(2, 192), (0, w), (0, b), (0, 0), (0, 2)]) (S' := [(0, 1), (0, 0), (0, 0)]) r_205_58 rfl rfl rfl ?_
                            refine gx_st (L' := [(2, 192), (0, w), (0, b), (0, 0), (0, 2)]) (S' := [(0, w), (0, 1), (0, 0), (0, 0)]) r_205_62 rfl rfl rfl ?_
                            refine gx_st (L' := [(2, 192), (0, w), (0, b), (0, 0), (0, 2)]) (S' := [(0, b), (0, w), (0, 1), (0, 0), (0, 0)]) r_205_63 rfl rfl rfl ?_
                            refine gx_ci (nx := 67) (S2 := [(0, 0)]) (x_204_01 w b hw hb) r_205_64 rfl rfl rfl rfl rfl rfl rfl (by decide) rfl (fun x64 n64 q64 => ?_)
                            obtain rfl := q64.1.symm
                            obtain rfl := q64.2.symm
                            show GX T 2 205 67 [(2, 192), (0, w), (0, b), (0, 0), (0, 2)] [(0, (if w ≤ 1 ∧ b / 2 ≤ 1 then 1 else 0)), (0, 0)] m (RI (fun v m1 => v = RestV w b ∧ m1 = m))
                            refine gx_i0 (P := ¬ (w ≤ 1 ∧ b / 2 ≤ 1)) r_205_67 (b01_eq) (fun h67 => ?_) (fun h67 => ?_)
                            · refine gx_st (L' := [(2, 192), (0, w), (0, b), (0, 0), (0, 2)]) (S' := [(0, 0), (0, 0)]) r_205_77 rfl rfl rfl ?_
                              refine gx_st (L' := [(2, 192), (0, w), (0, b), (0, 0), (0, 2)]) (S' := [(0, (ior 0 0))]) r_205_78 rfl rfl rfl ?_
                              rw [show (ior 0 0) = 0 from by decide]
                              refine gx_st (L' := [(2, 192), (0, w), (0, b), (0, 0), (0, 2)]) (S' := []) r_205_79 rfl rfl rfl ?_
                              refine gx_li (z := 3) (L' := [(2, 192), (0, w), (0, b), (0, 0), (0, 3)]) r_205_80 rfl (w32_eq (by omega) (by omega) (by omega)) rfl ?_
                              refine gx_st (L' := [(2, 192), (0, w), (0, b), (0, 0), (0, 3)]) (S' := []) r_205_83 rfl rfl rfl ?_
                              refine gx_st (L' := [(2, 192), (0, w), (0, b), (0, 0), (0, 3)]) (S' := [(0, 3)]) r_205_32 rfl rfl rfl ?_
                              refine gx_st (L' := [(2, 192), (0, w), (0, b), (0, 0), (0, 3)]) (S' := [(0, 4), (0, 3)]) r_205_34 rfl rfl rfl ?_
                              refine gx_ic (P := 4 ≤ 3) r_205_35 (rfl) (fun h35 => ?_) (fun h35 => ?_)
                              · omega
                              · refine gx_st (L' := [(2, 192), (0, w), (0, b), (0, 0), (0, 3)]) (S' := [(0, 0)]) r_205_38 rfl rfl rfl ?_
                                refine gx_st (L' := [(2, 192), (0, w), (0, b), (0, 0), (0, 3)]) (S' := [(0, 3), (0, 0)]) r_205_39 rfl rfl rfl ?_
                                refine gx_st (L' := [(2, 192), (0, w), (0, b), (0, 0), (0, 3)]) (S' := [(0, 2), (0, 3), (0, 0)]) r_205_41 rfl rfl rfl ?_
                                refine gx_ic (P := 2 ≤ 3) r_205_42 (rfl) (fun h42 => ?_) (fun h42 => ?_)
                                · refine gx_st (L' := [(2, 192), (0, w), (0, b), (0, 0), (0, 3)]) (S' := [(0, 0), (0, 0)]) r_205_49 rfl rfl rfl ?_
                                  refine gx_st (L' := [(2, 192), (0, w), (0, b), (0, 0), (0, 3)]) (S' := [(0, 3), (0, 0), (0, 0)]) r_205_50 rfl rfl rfl ?_
                                  refine gx_st (L' := [(2, 192), (0, w), (0, b), (0, 0), (0, 3)]) (S' := [(0, 2), (0, 3), (0, 0), (0, 0)]) r_205_52 rfl rfl rfl ?_
                                  refine gx_rm (z := (3 % 2)) r_205_53 (by decide) (tm_eq (by omega) rfl) ?_
                                  refine gx_i0 (P := ¬ (3 % 2) = 0) r_205_54 (rfl) (fun h54 => ?_) (fun h54 => ?_)
                                  · refine gx_st (L' := [(2, 192), (0, w), (0, b), (0, 0), (0, 3)]) (S' := [(0, 0), (0, 0), (0, 0)]) r_205_61 rfl rfl rfl ?_
                                    refine gx_st (L' := [(2, 192), (0, w), (0, b), (0, 0), (0, 3)]) (S' := [(0, w), (0, 0), (0, 0), (0, 0)]) r_205_62 rfl rfl rfl ?_
                                    refine gx_st (L' := [(2, 192), (0, w), (0, b), (0, 0), (0, 3)]) (S' := [(0, b), (0, w), (0, 0), (0, 0), (0, 0)]) r_205_63 rfl rfl rfl ?_
                                    refine gx_ci (nx := 67) (S2 := [(0, 0)]) (x_204_00 w b hw hb) r_205_64 rfl rfl rfl rfl rfl rfl rfl (by decide) rfl (fun x64 n64 q64 => ?_)
                                    obtain rfl := q64.1.symm
                                    obtain rfl := q64.2.symm
                                    show GX T 2 205 67 [(2, 192), (0, w), (0, b), (0, 0), (0, 3)] [(0, (if 1 ≤ b / 2 then 1 else 0)), (0, 0)] m (RI (fun v m1 => v = RestV w b ∧ m1 = m))
                                    refine gx_i0 (P := ¬ (1 ≤ b / 2)) r_205_67 (b01_eq) (fun h67 => ?_) (fun h67 => ?_)
                                    · refine gx_st (L' := [(2, 192), (0, w), (0, b), (0, 0), (0, 3)]) (S' := [(0, 0), (0, 0)]) r_205_77 rfl rfl rfl ?_
                                      refine gx_st (L' := [(2, 192), (0, w), (0, b), (0, 0), (0, 3)]) (S' := [(0, (ior 0 0))]) r_205_78 rfl rfl rfl ?_
                                      rw [show (ior 0 0) = 0 from by decide]
                                      refine gx_st (L' := [(2, 192), (0, w), (0, b), (0, 0), (0, 3)]) (S' := []) r_205_79 rfl rfl rfl ?_
                                      refine gx_li (z := 4) (L' := [(2, 192), (0, w), (0, b), (0, 0), (0, 4)]) r_205_80 rfl (w32_eq (by omega) (by omega) (by omega)) rfl ?_
                                      refine gx_st (L' := [(2, 192), (0, w), (0, b), (0, 0), (0, 4)]) (S' := []) r_205_83 rfl rfl rfl ?_
                                      refine gx_st (L' := [(2, 192), (0, w), (0, b), (0, 0), (0, 4)]) (S' := [(0, 4)]) r_205_32 rfl rfl rfl ?_
                                      refine gx_st (L' := [(2, 192), (0, w), (0, b), (0, 0), (0, 4)]) (S' := [(0, 4), (0, 4)]) r_205_34 rfl rfl rfl ?_
                                      refine gx_ic (P := 4 ≤ 4) r_205_35 (rfl) (fun h35 => ?_) (fun h35 => ?_)
                                      · refine gx_st (L' := [(2, 192), (0, w), (0, b), (0, 0), (0, 4)]) (S' := [(0, 0)]) r_205_86 rfl rfl rfl ?_
                                        exact gx_rt r_205_87 rfl rfl ⟨_, rfl, RestV_c ⟨fun _ => rest_s (by omega), fun z => by omega⟩, rfl⟩
                                      · omega
                                    · have h67 := Decidable.not_not.mp h67
                                      refine gx_st (L' := [(2, 192), (0, w), (0, b), (0, 0), (0, 3)]) (S' := [(0, 1), (0, 0)]) r_205_70 rfl rfl rfl ?_
                                      refine gx_st (L' := [(2, 192), (0, w), (0, b), (0, 0), (0, 3)]) (S' := [(0, 3), (0, 1), (0, 0)]) r_205_71 rfl rfl rfl ?_
                                      refine gx_st (L' := [(2, 192), (0, w), (0, b), (0, 0), (0, 3)]) (S' := [(0, (ishl 1 3)), (0, 0)]) r_205_73 rfl rfl rfl ?_
                                      rw [show (ishl 1 3) = 8 from by decide]
                                      refine gx_st (L' := [(2, 192), (0, w), (0, b), (0, 0), (0, 3)]) (S' := [(0, 8), (0, 0)]) r_205_74 rfl rfl rfl ?_
                                      refine gx_st (L' := [(2, 192), (0, w), (0, b), (0, 0), (0, 3)]) (S' := [(0, (ior 0 8))]) r_205_78 rfl rfl rfl ?_
                                      rw [show (ior 0 8) = 8 from by decide]
                                      refine gx_st (L' := [(2, 192), (0, w), (0, b), (0, 8), (0, 3)]) (S' := []) r_205_79 rfl rfl rfl ?_
                                      refine gx_li (z := 4) (L' := [(2, 192), (0, w), (0, b), (0, 8), (0, 4)]) r_205_80 rfl (w32_eq (by omega) (by omega) (by omega)) rfl ?_
                                      refine gx_st (L' := [(2, 192), (0, w), (0, b), (0, 8), (0, 4)]) (S' := []) r_205_83 rfl rfl rfl ?_
                                      refine gx_st (L' := [(2, 192), (0, w), (0, b), (0, 8), (0, 4)]) (S' := [(0, 4)]) r_205_32 rfl rfl rfl ?_
                                      refine gx_st (L' := [(2, 192), (0, w), (0, b), (0, 8), (0, 4)]) (S' := [(0, 4), (0, 4)]) r_205_34 rfl rfl rfl ?_
                                      refine gx_ic (P := 4 ≤ 4) r_205_35 (rfl) (fun h35 => ?_) (fun h35 => ?_)
                                      · refine gx_st (L' := [(2, 192), (0, w), (0, b), (0, 8), (0, 4)]) (S' := [(0, 8)]) r_205_86 rfl rfl rfl ?_
                                        exact gx_rt r_205_87 rfl rfl ⟨_, rfl, RestV_c ⟨fun _ => rest_s (by omega), fun z => by omega⟩, rfl⟩
                                      · omega
                                  · have h54 := Decidable.not_not.mp h54
                                    refine gx_st (L' := [(2, 192), (0, w), (0, b), (0, 0), (0, 3)]) (S' := [(0, 1), (0, 0), (0, 0)]) r_205_57 rfl rfl rfl ?_
                                    refine gx_st (L' := [(2, 192), (0, w), (0, b), (0, 0), (0, 3)]) (S' := [(0, 1), (0, 0), (0, 0)]) r_205_58 rfl rfl rfl ?_
                                    refine gx_st (L' := [(2, 192), (0, w), (0, b), (0, 0), (0, 3)]) (S' := [(0, w), (0, 1), (0, 0), (0, 0)]) r_205_62 rfl rfl rfl ?_
                                    refine gx_st (L' := [(2, 192), (0, w), (0, b), (0, 0), (0, 3)]) (S' := [(0, b), (0, w), (0, 1), (0, 0), (0, 0)]) r_205_63 rfl rfl rfl ?_
                                    refine gx_ci (nx := 67) (S2 := [(0, 0)]) (x_204_01 w b hw hb) r_205_64 rfl rfl rfl rfl rfl rfl rfl (by decide) rfl (fun x64 n64 q64 => ?_)
                                    obtain rfl := q64.1.symm
                                    obtain rfl := q64.2.symm
                                    show GX T 2 205 67 [(2, 192), (0, w), (0, b), (0, 0), (0, 3)] [(0, (if w ≤ 1 ∧ b / 2 ≤ 1 then 1 else 0)), (0, 0)] m (RI (fun v m1 => v = RestV w b ∧ m1 = m))
                                    refine gx_i0 (P := ¬ (w ≤ 1 ∧ b / 2 ≤ 1)) r_205_67 (b01_eq) (fun h67 => ?_) (fun h67 => ?_)
                                    · refine gx_st (L' := [(2, 192), (0, w), (0, b), (0, 0), (0, 3)]) (S' := [(0, 0), (0, 0)]) r_205_77 rfl rfl rfl ?_
                                      refine gx_st (L' := [(2, 192), (0, w), (0, b), (0, 0), (0, 3)]) (S' := [(0, (ior 0 0))]) r_205_78 rfl rfl rfl ?_
                                      rw [show (ior 0 0) = 0 from by decide]
                                      refine gx_st (L' := [(2, 192), (0, w), (0, b), (0, 0), (0, 3)]) (S' := []) r_205_79 rfl rfl rfl ?_
                                      refine gx_li (z := 4) (L' := [(2, 192), (0, w), (0, b), (0, 0), (0, 4)]) r_205_80 rfl (w32_eq (by omega) (by omega) (by omega)) rfl ?_
                                      refine gx_st (L' := [(2, 192), (0, w), (0, b), (0, 0), (0, 4)]) (S' := []) r_205_83 rfl rfl rfl ?_
                                      refine gx_st (L' := [(2, 192), (0, w), (0, b), (0, 0), (0, 4)]) (S' := [(0, 4)]) r_205_32 rfl rfl rfl ?_
                                      refine gx_st (L' := [(2, 192), (0, w), (0, b), (0, 0), (0, 4)]) (S' := [(0, 4), (0, 4)]) r_205_34 rfl rfl rfl ?_
                                      refine gx_ic (P := 4 ≤ 4) r_205_35 (rfl) (fun h35 => ?_) (fun h35 => ?_)
                                      · refine gx_st (L' := [(2, 192), (0, w), (0, b), (0, 0), (0, 4)]) (S' := [(0, 0)]) r_205_86 rfl rfl rfl ?_
                                        exact gx_rt r_205_87 rfl rfl ⟨_, rfl, RestV_c ⟨fun _ => rest_s (by omega), fun z => by omega⟩, rfl⟩
                                      · omega
                                    · have h67 := Decidable.not_not.mp h67
                                      refine gx_st (L' := [(2, 192), (0, w), (0, b), (0, 0), (0, 3)]) (S' := [(0, 1), (0, 0)]) r_205_70 rfl rfl rfl ?_
                                      refine gx_st (L' := [(2, 192), (0, w), (0, b), (0, 0), (0, 3)]) (S' := [(0, 3), (0, 1), (0, 0)]) r_205_71 rfl rfl rfl ?_
                                      refine gx_st (L' := [(2, 192), (0, w), (0, b), (0, 0), (0, 3)]) (S' := [(0, (ishl 1 3)), (0, 0)]) r_205_73 rfl rfl rfl ?_
                                      rw [show (ishl 1 3) = 8 from by decide]
                                      refine gx_st (L' := [(2, 192), (0, w), (0, b), (0, 0), (0, 3)]) (S' := [(0, 8), (0, 0)]) r_205_74 rfl rfl rfl ?_
                                      refine gx_st (L' := [(2, 192), (0, w), (0, b), (0, 0), (0, 3)]) (S' := [(0, (ior 0 8))]) r_205_78 rfl rfl rfl ?_
                                      rw [show (ior 0 8) = 8 from by decide]
                                      refine gx_st (L' := [(2, 192), (0, w), (0, b), (0, 8), (0, 3)]) (S' := []) r_205_79 rfl rfl rfl ?_
                                      refine gx_li (z := 4) (L' := [(2, 192), (0, w), (0, b), (0, 8), (0, 4)]) r_205_80 rfl (w32_eq (by omega) (by omega) (by omega)) rfl ?_
                                      refine gx_st (L' := [(2, 192), (0, w), (0, b), (0, 8), (0, 4)]) (S' := []) r_205_83 rfl rfl rfl ?_
                                      refine gx_st (L' := [(2, 192), (0, w), (0, b), (0, 8), (0, 4)]) (S' := [(0, 4)]) r_205_32 rfl rfl rfl ?_
                                      refine gx_st (L' := [(2, 192), (0, w), (0, b), (0, 8), (0, 4)]) (S' := [(0, 4), (0, 4)]) r_205_34 rfl rfl rfl ?_
                                      refine gx_ic (P := 4 ≤ 4) r_205_35 (rfl) (fun h35 => ?_) (fun h35 => ?_)
                                      · refine gx_st (L' := [(2, 192), (0, w), (0, b), (0, 8), (0, 4)]) (S' := [(0, 8)]) r_205_86 rfl rfl rfl ?_
                                        exact gx_rt r_205_87 rfl rfl ⟨_, rfl, RestV_c ⟨fun _ => rest_s (by omega), fun z => by omega⟩, rfl⟩
                                      · omega
                                · omega
                            · have h67 := Decidable.not_not.mp h67
                              refine gx_st (L' := [(2, 192), (0, w), (0, b), (0, 0), (0, 2)]) (S' := [(0, 1), (0, 0)]) r_205_70 rfl rfl rfl ?_
                              refine gx_st (L' := [(2, 192), (0, w), (0, b), (0, 0), (0, 2)]) (S' := [(0, 2), (0, 1), (0, 0)]) r_205_71 rfl rfl rfl ?_
                              refine gx_st (L' := [(2, 192), (0, w), (0, b), (0, 0), (0, 2)]) (S' := [(0, (ishl 1 2)), (0, 0)]) r_205_73 rfl rfl rfl ?_
                              rw [show (ishl 1 2) = 4 from by decide]
                              refine gx_st (L' := [(2, 192), (0, w), (0, b), (0, 0), (0, 2)]) (S' := [(0, 4), (0, 0)]) r_205_74 rfl rfl rfl ?_
                              refine gx_st (L' := [(2, 192), (0, w), (0, b), (0, 0), (0, 2)]) (S' := [(0, (ior 0 4))]) r_205_78 rfl rfl rfl ?_
                              rw [show (ior 0 4) = 4 from by decide]
                              refine gx_st (L' := [(2, 192), (0, w), (0, b), (0, 4), (0, 2)]) (S' := []) r_205_79 rfl rfl rfl ?_
                              refine gx_li (z := 3) (L' := [(2, 192), (0, w), (0, b), (0, 4), (0, 3)]) r_205_80 rfl (w32_eq (by omega) (by omega) (by omega)) rfl ?_
                              refine gx_st (L' := [(2, 192), (0, w), (0, b), (0, 4), (0, 3)]) (S' := []) r_205_83 rfl rfl rfl ?_
                              refine gx_st (L' := [(2, 192), (0, w), (0, b), (0, 4), (0, 3)]) (S' := [(0, 3)]) r_205_32 rfl rfl rfl ?_
                              refine gx_st (L' := [(2, 192), (0, w), (0, b), (0, 4), (0, 3)]) (S' := [(0, 4), (0, 3)]) r_205_34 rfl rfl rfl ?_
                              refine gx_ic (P := 4 ≤ 3) r_205_35 (rfl) (fun h35 => ?_) (fun h35 => ?_)
                              · omega
                              · refine gx_st (L' := [(2, 192), (0, w), (0, b), (0, 4), (0, 3)]) (S' := [(0, 4)]) r_205_38 rfl rfl rfl ?_
                                refine gx_st (L' := [(2, 192), (0, w), (0, b), (0, 4), (0, 3)]) (S' := [(0, 3), (0, 4)]) r_205_39 rfl rfl rfl ?_
                                refine gx_st (L' := [(2, 192), (0, w), (0, b), (0, 4), (0, 3)]) (S' := [(0, 2), (0, 3), (0, 4)]) r_205_41 rfl rfl rfl ?_
                                refine gx_ic (P := 2 ≤ 3) r_205_42 (rfl) (fun h42 => ?_) (fun h42 => ?_)
                                · refine gx_st (L' := [(2, 192), (0, w), (0, b), (0, 4), (0, 3)]) (S' := [(0, 0), (0, 4)]) r_205_49 rfl rfl rfl ?_
                                  refine gx_st (L' := [(2, 192), (0, w), (0, b), (0, 4), (0, 3)]) (S' := [(0, 3), (0, 0), (0, 4)]) r_205_50 rfl rfl rfl ?_
                                  refine gx_st (L' := [(2, 192), (0, w), (0, b), (0, 4), (0, 3)]) (S' := [(0, 2), (0, 3), (0, 0), (0, 4)]) r_205_52 rfl rfl rfl ?_
                                  refine gx_rm (z := (3 % 2)) r_205_53 (by decide) (tm_eq (by omega) rfl) ?_
                                  refine gx_i0 (P := ¬ (3 % 2) = 0) r_205_54 (rfl) (fun h54 => ?_) (fun h54 => ?_)
                                  · refine gx_st (L' := [(2, 192), (0, w), (0, b), (0, 4), (0, 3)]) (S' := [(0, 0), (0, 0), (0, 4)]) r_205_61 rfl rfl rfl ?_
                                    refine gx_st (L' := [(2, 192), (0, w), (0, b), (0, 4), (0, 3)]) (S' := [(0, w), (0, 0), (0, 0), (0, 4)]) r_205_62 rfl rfl rfl ?_
                                    refine gx_st (L' := [(2, 192), (0, w), (0, b), (0, 4), (0, 3)]) (S' := [(0, b), (0, w), (0, 0), (0, 0), (0, 4)]) r_205_63 rfl rfl rfl ?_
                                    refine gx_ci (nx := 67) (S2 := [(0, 4)]) (x_204_00 w b hw hb) r_205_64 rfl rfl rfl rfl rfl rfl rfl (by decide) rfl (fun x64 n64 q64 => ?_)
                                    obtain rfl := q64.1.symm
                                    obtain rfl := q64.2.symm
                                    show GX T 2 205 67 [(2, 192), (0, w), (0, b), (0, 4), (0, 3)] [(0, (if 1 ≤ b / 2 then 1 else 0)), (0, 4)] m (RI (fun v m1 => v = RestV w b ∧ m1 = m))
                                    refine gx_i0 (P := ¬ (1 ≤ b / 2)) r_205_67 (b01_eq) (fun h67 => ?_) (fun h67 => ?_)
                                    · refine gx_st (L' := [(2, 192), (0, w), (0, b), (0, 4), (0, 3)]) (S' := [(0, 0), (0, 4)]) r_205_77 rfl rfl rfl ?_
                                      refine gx_st (L' := [(2, 192), (0, w), (0, b), (0, 4), (0, 3)]) (S' := [(0, (ior 4 0))]) r_205_78 rfl rfl rfl ?_
                                      rw [show (ior 4 0) = 4 from by decide]
                                      refine gx_st (L' := [(2, 192), (0, w), (0, b), (0, 4), (0, 3)]) (S' := []) r_205_79 rfl rfl rfl ?_
                                      refine gx_li (z := 4) (L' := [(2, 192), (0, w), (0, b), (0, 4), (0, 4)]) r_205_80 rfl (w32_eq (by omega) (by omega) (by omega)) rfl ?_
                                      refine gx_st (L' := [(2, 192), (0, w), (0, b), (0, 4), (0, 4)]) (S' := []) r_205_83 rfl rfl rfl ?_
                                      refine gx_st (L' := [(2, 192), (0, w), (0, b), (0, 4), (0, 4)]) (S' := [(0, 4)]) r_205_32 rfl rfl rfl ?_
                                      refine gx_st (L' := [(2, 192), (0, w), (0, b), (0, 4), (0, 4)]) (S' := [(0, 4), (0, 4)]) r_205_34 rfl rfl rfl ?_
                                      refine gx_ic (P := 4 ≤ 4) r_205_35 (rfl) (fun h35 => ?_) (fun h35 => ?_)
                                      · refine gx_st (L' := [(2, 192), (0, w), (0, b), (0, 4), (0, 4)]) (S' := [(0, 4)]) r_205_86 rfl rfl rfl ?_
                                        exact gx_rt r_205_87 rfl rfl ⟨_, rfl, RestV_c ⟨fun _ => rest_s (by omega), fun z => by omega⟩, rfl⟩
                                      · omega
                                    · have h67 := Decidable.not_not.mp h67
                                      refine gx_st (L' := [(2, 192), (0, w), (0, b), (0, 4), (0, 3)]) (S' := [(0, 1), (0, 4)]) r_205_70 rfl rfl rfl ?_
                                      refine gx_st (L' := [(2, 192), (0, w), (0, b), (0, 4), (0, 3)]) (S' := [(0, 3), (0, 1), (0, 4)]) r_205_71 rfl rfl rfl ?_
                                      refine gx_st (L' := [(2, 192), (0, w), (0, b), (0, 4), (0, 3)]) (S' := [(0, (ishl 1 3)), (0, 4)]) r_205_73 rfl rfl rfl ?_
                                      rw [show (ishl 1 3) = 8 from by decide]
                                      refine gx_st (L' := [(2, 192), (0, w), (0, b), (0, 4), (0, 3)]) (S' := [(0, 8), (0, 4)]) r_205_74 rfl rfl rfl ?_
                                      refine gx_st (L' := [(2, 192), (0, w), (0, b), (0, 4), (0, 3)]) (S' := [(0, (ior 4 8))]) r_205_78 rfl rfl rfl ?_
                                      rw [show (ior 4 8) = 12 from by decide]
                                      refine gx_st (L' := [(2, 192), (0, w), (0, b), (0, 12), (0, 3)]) (S' := []) r_205_79 rfl rfl rfl ?_
                                      refine gx_li (z := 4) (L' := [(2, 192), (0, w), (0, b), (0, 12), (0, 4)]) r_205_80 rfl (w32_eq (by omega) (by omega) (by omega)) rfl ?_
                                      refine gx_st (L' := [(2, 192), (0, w), (0, b), (0, 12), (0, 4)]) (S' := []) r_205_83 rfl rfl rfl ?_
                                      refine gx_st (L' := [(2, 192), (0, w), (0, b), (0, 12), (0, 4)]) (S' := [(0, 4)]) r_205_32 rfl rfl rfl ?_
                                      refine gx_st (L' := [(2, 192), (0, w), (0, b), (0, 12), (0, 4)]) (S' := [(0, 4), (0, 4)]) r_205_34 rfl rfl rfl ?_
                                      refine gx_ic (P := 4 ≤ 4) r_205_35 (rfl) (fun h35 => ?_) (fun h35 => ?_)
                                      · refine gx_st (L' := [(2, 192), (0, w), (0, b), (0, 12), (0, 4)]) (S' := [(0, 12)]) r_205_86 rfl rfl rfl ?_
                                        exact gx_rt r_205_87 rfl rfl ⟨_, rfl, RestV_c ⟨fun _ => rest_s (by omega), fun z => by omega⟩, rfl⟩
                                      · omega
                                  · have h54 := Decidable.not_not.mp h54
                                    refine gx_st (L' := [(2, 192), (0, w), (0, b), (0, 4), (0, 3)]) (S' := [(0, 1), (0, 0), (0, 4)]) r_205_57 rfl rfl rfl ?_
                                    refine gx_st (L' := [(2, 192), (0, w), (0, b), (0, 4), (0, 3)]) (S' := [(0, 1), (0, 0), (0, 4)]) r_205_58 rfl rfl rfl ?_
                                    refine gx_st (L' := [(2, 192), (0, w), (0, b), (0, 4), (0, 3)]) (S' := [(0, w), (0, 1), (0, 0), (0, 4)]) r_205_62 rfl rfl rfl ?_
                                    refine gx_st (L' := [(2, 192), (0, w), (0, b), (0, 4), (0, 3)]) (S' := [(0, b), (0, w), (0, 1), (0, 0), (0, 4)]) r_205_63 rfl rfl rfl ?_
                                    refine gx_ci (nx := 67) (S2 := [(0, 4)]) (x_204_01 w b hw hb) r_205_64 rfl rfl rfl rfl rfl rfl rfl (by decide) rfl (fun x64 n64 q64 => ?_)
                                    obtain rfl := q64.1.symm
                                    obtain rfl := q64.2.symm
                                    show GX T 2 205 67 [(2, 192), (0, w), (0, b), (0, 4), (0, 3)] [(0, (if w ≤ 1 ∧ b / 2 ≤ 1 then 1 else 0)), (0, 4)] m (RI (fun v m1 => v = RestV w b ∧ m1 = m))
                                    refine gx_i0 (P := ¬ (w ≤ 1 ∧ b / 2 ≤ 1)) r_205_67 (b01_eq) (fun h67 => ?_) (fun h67 => ?_)
                                    · refine gx_st (L' := [(2, 192), (0, w), (0, b), (0, 4), (0, 3)]) (S' := [(0, 0), (0, 4)]) r_205_77 rfl rfl rfl ?_
                                      refine gx_st (L' := [(2, 192), (0, w), (0, b), (0, 4), (0, 3)]) (S' := [(0, (ior 4 0))]) r_205_78 rfl rfl rfl ?_
                                      rw [show (ior 4 0) = 4 from by decide]
                                      refine gx_st (L' := [(2, 192), (0, w), (0, b), (0, 4), (0, 3)]) (S' := []) r_205_79 rfl rfl rfl ?_
                                      refine gx_li (z := 4) (L' := [(2, 192), (0, w), (0, b), (0, 4), (0, 4)]) r_205_80 rfl (w32_eq (by omega) (by omega) (by omega)) rfl ?_
                                      refine gx_st (L' := [(2, 192), (0, w), (0, b), (0, 4), (0, 4)]) (S' := []) r_205_83 rfl rfl rfl ?_
                                      refine gx_st (L' := [(2, 192), (0, w), (0, b), (0, 4), (0, 4)]) (S' := [(0, 4)]) r_205_32 rfl rfl rfl ?_
                                      refine gx_st (L' := [(2, 192), (0, w), (0, b), (0, 4), (0, 4)]) (S' := [(0, 4), (0, 4)]) r_205_34 rfl rfl rfl ?_
                                      refine gx_ic (P := 4 ≤ 4) r_205_35 (rfl) (fun h35 => ?_) (fun h35 => ?_)
                                      · refine gx_st (L' := [(2, 192), (0, w), (0, b), (0, 4), (0, 4)]) (S' := [(0, 4)]) r_205_86 rfl rfl rfl ?_
                                        exact gx_rt r_205_87 rfl rfl ⟨_, rfl, RestV_c ⟨fun _ => rest_s (by omega), fun z => by omega⟩, rfl⟩
                                      · omega
                                    · have h67 := Decidable.not_not.mp h67
                                      refine gx_st (L' := [(2, 192), (0, w), (0, b), (0, 4), (0, 3)]) (S' := [(0, 1), (0, 4)]) r_205_70 rfl rfl rfl ?_
                                      refine gx_st (L' := [(2, 192), (0, w), (0, b), (0, 4), (0, 3)]) (S' := [(0, 3), (0, 1), (0, 4)]) r_205_71 rfl rfl rfl ?_
                                      refine gx_st (L' := [(2, 192), (0, w), (0, b), (0, 4), (0, 3)]) (S' := [(0, (ishl 1 3)), (0, 4)]) r_205_73 rfl rfl rfl ?_
                                      rw [show (ishl 1 3) = 8 from by decide]
                                      refine gx_st (L' := [(2, 192), (0, w), (0, b), (0, 4), (0, 3)]) (S' := [(0, 8), (0, 4)]) r_205_74 rfl rfl rfl ?_
                                      refine gx_st (L' := [(2, 192), (0, w), (0, b), (0, 4), (0, 3)]) (S' := [(0, (ior 4 8))]) r_205_78 rfl rfl rfl ?_
                                      rw [show (ior 4 8) = 12 from by decide]
                                      refine gx_st (L' := [(2, 192), (0, w), (0, b), (0, 12), (0, 3)]) (S' := []) r_205_79 rfl rfl rfl ?_
                                      refine gx_li (z := 4) (L' := [(2, 192), (0, w), (0, b), (0, 12), (0, 4)]) r_205_80 rfl (w32_eq (by omega) (by omega) (by omega)) rfl ?_
                                      refine gx_st (L' := [(2, 192), (0, w), (0, b), (0, 12), (0, 4)]) (S' := []) r_205_83 rfl rfl rfl ?_
                                      refine gx_st (L' := [(2, 192), (0, w), (0, b), (0, 12), (0, 4)]) (S' := [(0, 4)]) r_205_32 rfl rfl rfl ?_
                                      refine gx_st (L' := [(2, 192), (0, w), (0, b), (0, 12), (0, 4)]) (S' := [(0, 4), (0, 4)]) r_205_34 rfl rfl rfl ?_
                                      refine gx_ic (P := 4 ≤ 4) r_205_35 (rfl) (fun h35 => ?_) (fun h35 => ?_)
                                      · refine gx_st (L' := [(2, 192), (0, w), (0, b), (0, 12), (0, 4)]) (S' := [(0, 12)]) r_205_86 rfl rfl rfl ?_
                                        exact gx_rt r_205_87 rfl rfl ⟨_, rfl, RestV_c ⟨fun _ => rest_s (by omega), fun z => by omega⟩, rfl⟩
                                      · omega
                                · omega
                        · omega
                    · omega
                  · have h54 := Decidable.not_not.mp h54
                    refine gx_st (L' := [(2, 192), (0, w), (0, b), (0, 0), (0, 1)]) (S' := [(0, 1), (0, 1), (0, 0)]) r_205_57 rfl rfl rfl ?_
                    refine gx_st (L' := [(2, 192), (0, w), (0, b), (0, 0), (0, 1)]) (S' := [(0, 1), (0, 1), (0, 0)]) r_205_58 rfl rfl rfl ?_
                    refine gx_st (L' := [(2, 192), (0, w), (0, b), (0, 0), (0, 1)]) (S' := [(0, w), (0, 1), (0, 1), (0, 0)]) r_205_62 rfl rfl rfl ?_
                    refine gx_st (L' := [(2, 192), (0, w), (0, b), (0, 0), (0, 1)]) (S' := [(0, b), (0, w), (0, 1), (0, 1), (0, 0)]) r_205_63 rfl rfl rfl ?_
                    refine gx_ci (nx := 67) (S2 := [(0, 0)]) (x_204_11 w b hw hb) r_205_64 rfl rfl rfl rfl rfl rfl rfl (by decide) rfl (fun x64 n64 q64 => ?_)
                    obtain rfl := q64.1.symm
                    obtain rfl := q64.2.symm
                    show GX T 2 205 67 [(2, 192), (0, w), (0, b), (0, 0), (0, 1)] [(0, (if 1 ≤ w ∧ b ≤ 2 then 1 else 0)), (0, 0)] m (RI (fun v m1 => v = RestV w b ∧ m1 = m))
                    refine gx_i0 (P := ¬ (1 ≤ w ∧ b ≤ 2)) r_205_67 (b01_eq) (fun h67 => ?_) (fun h67 => ?_)
                    · refine gx_st (L' := [(2, 192), (0, w), (0, b), (0, 0), (0, 1)]) (S' := [(0, 0), (0, 0)]) r_205_77 rfl rfl rfl ?_
                      refine gx_st (L' := [(2, 192), (0, w), (0, b), (0, 0), (0, 1)]) (S' := [(0, (ior 0 0))]) r_205_78 rfl rfl rfl ?_
                      rw [show (ior 0 0) = 0 from by decide]
                      refine gx_st (L' := [(2, 192), (0, w), (0, b), (0, 0), (0, 1)]) (S' := []) r_205_79 rfl rfl rfl ?_
                      refine gx_li (z := 2) (L' := [(2, 192), (0, w), (0, b), (0, 0), (0, 2)]) r_205_80 rfl (w32_eq (by omega) (by omega) (by omega)) rfl ?_
                      refine gx_st (L' := [(2, 192), (0, w), (0, b), (0, 0), (0, 2)]) (S' := []) r_205_83 rfl rfl rfl ?_
                      refine gx_st (L' := [(2, 192), (0, w), (0, b), (0, 0), (0, 2)]) (S' := [(0, 2)]) r_205_32 rfl rfl rfl ?_
                      refine gx_st (L' := [(2, 192), (0, w), (0, b), (0, 0), (0, 2)]) (S' := [(0, 4), (0, 2)]) r_205_34 rfl rfl rfl ?_
                      refine gx_ic (P := 4 ≤ 2) r_205_35 (rfl) (fun h35 => ?_) (fun h35 => ?_)
                      · omega
                      · refine gx_st (L' := [(2, 192), (0, w), (0, b), (0, 0), (0, 2)]) (S' := [(0, 0)]) r_205_38 rfl rfl rfl ?_
                        refine gx_st (L' := [(2, 192), (0, w), (0, b), (0, 0), (0, 2)]) (S' := [(0, 2), (0, 0)]) r_205_39 rfl rfl rfl ?_
                        refine gx_st (L' := [(2, 192), (0, w), (0, b), (0, 0), (0, 2)]) (S' := [(0, 2), (0, 2), (0, 0)]) r_205_41 rfl rfl rfl ?_
                        refine gx_ic (P := 2 ≤ 2) r_205_42 (rfl) (fun h42 => ?_) (fun h42 => ?_)
                        · refine gx_st (L' := [(2, 192), (0, w), (0, b), (0, 0), (0, 2)]) (S' := [(0, 0), (0, 0)]) r_205_49 rfl rfl rfl ?_
                          refine gx_st (L' := [(2, 192), (0, w), (0, b), (0, 0), (0, 2)]) (S' := [(0, 2), (0, 0), (0, 0)]) r_205_50 rfl rfl rfl ?_
                          refine gx_st (L' := [(2, 192), (0, w), (0, b), (0, 0), (0, 2)]) (S' := [(0, 2), (0, 2), (0, 0), (0, 0)]) r_205_52 rfl rfl rfl ?_
                          refine gx_rm (z := (2 % 2)) r_205_53 (by decide) (tm_eq (by omega) rfl) ?_
                          refine gx_i0 (P := ¬ (2 % 2) = 0) r_205_54 (rfl) (fun h54 => ?_) (fun h54 => ?_)
                          · refine gx_st (L' := [(2, 192), (0, w), (0, b), (0, 0), (0, 2)]) (S' := [(0, 0), (0, 0), (0, 0)]) r_205_61 rfl rfl rfl ?_
                            refine gx_st (L' := [(2, 192), (0, w), (0, b), (0, 0), (0, 2)]) (S' := [(0, w), (0, 0), (0, 0), (0, 0)]) r_205_62 rfl rfl rfl ?_
                            refine gx_st (L' := [(2, 192), (0, w), (0, b), (0, 0), (0, 2)]) (S' := [(0, b), (0, w), (0, 0), (0, 0), (0, 0)]) r_205_63 rfl rfl rfl ?_
                            refine gx_ci (nx := 67) (S2 := [(0, 0)]) (x_204_00 w b hw hb) r_205_64 rfl rfl rfl rfl rfl rfl rfl (by decide) rfl (fun x64 n64 q64 => ?_)
                            obtain rfl := q64.1.symm
                            obtain rfl := q64.2.symm
                            show GX T 2 205 67 [(2, 192), (0, w), (0, b), (0, 0), (0, 2)] [(0, (if 1 ≤ b / 2 then 1 else 0)), (0, 0)] m (RI (fun v m1 => v = RestV w b ∧ m1 = m))
                            refine gx_i0 (P := ¬ (1 ≤ b / 2)) r_205_67 (b01_eq) (fun h67 => ?_) (fun h67 => ?_)
                            · refine gx_st (L' := [(2, 192), (0, w), (0, b), (0, 0), (0, 2)]) (S' := [(0, 0), (0, 0)]) r_205_77 rfl rfl rfl ?_
                              refine gx_st (L' := [(2, 192), (0, w), (0, b), (0, 0), (0, 2)]) (S' := [(0, (ior 0 0))]) r_205_78 rfl rfl rfl ?_
                              rw [show (ior 0 0) = 0 from by decide]
                              refine gx_st (L' := [(2, 192), (0, w), (0, b), (0, 0), (0, 2)]) (S' := []) r_205_79 rfl rfl rfl ?_
                              refine gx_li (z := 3) (L' := [(2, 192), (0, w), (0, b), (0, 0), (0, 3)]) r_205_80 rfl (w32_eq (by omega) (by omega) (by omega)) rfl ?_
                              refine gx_st (L' := [(2, 192), (0, w), (0, b), (0, 0), (0, 3)]) (S' := []) r_205_83 rfl rfl rfl ?_
                              refine gx_st (L' := [(2, 192), (0, w), (0, b), (0, 0), (0, 3)]) (S' := [(0, 3)]) r_205_32 rfl rfl rfl ?_
                              refine gx_st (L' := [(2, 192), (0, w), (0, b), (0, 0), (0, 3)]) (S' := [(0, 4), (0, 3)]) r_205_34 rfl rfl rfl ?_
                              refine gx_ic (P := 4 ≤ 3) r_205_35 (rfl) (fun h35 => ?_) (fun h35 => ?_)
                              · omega
                              · refine gx_st (L' := [(2, 192), (0, w), (0, b), (0, 0), (0, 3)]) (S' := [(0, 0)]) r_205_38 rfl rfl rfl ?_
                                refine gx_st (L' := [(2, 192), (0, w), (0, b), (0, 0), (0, 3)]) (S' := [(0, 3), (0, 0)]) r_205_39 rfl rfl rfl ?_
                                refine gx_st (L' := [(2, 192), (0, w), (0, b), (0, 0), (0, 3)]) (S' := [(0, 2), (0, 3), (0, 0)]) r_205_41 rfl rfl rfl ?_
                                refine gx_ic (P := 2 ≤ 3) r_205_42 (rfl) (fun h42 => ?_) (fun h42 => ?_)
                                · refine gx_st (L' := [(2, 192), (0, w), (0, b), (0, 0), (0, 3)]) (S' := [(0, 0), (0, 0)]) r_205_49 rfl rfl rfl ?_
                                  refine gx_st (L' := [(2, 192), (0, w), (0, b), (0, 0), (0, 3)]) (S' := [(0, 3), (0, 0), (0, 0)]) r_205_50 rfl rfl rfl ?_
                                  refine gx_st (L' := [(2, 192), (0, w), (0, b), (0, 0), (0, 3)]) (S' := [(0, 2), (0, 3), (0, 0), (0, 0)]) r_205_52 rfl rfl rfl ?_
                                  refine gx_rm (z := (3 % 2)) r_205_53 (by decide) (tm_eq (by omega) rfl) ?_
                                  refine gx_i0 (P := ¬ (3 % 2) = 0) r_205_54 (rfl) (fun h54 => ?_) (fun h54 => ?_)
                                  · refine gx_st (L' := [(2, 192), (0, w), (0, b), (0, 0), (0, 3)]) (S' := [(0, 0), (0, 0), (0, 0)]) r_205_61 rfl rfl rfl ?_
                                    refine gx_st (L' := [(2, 192), (0, w), (0, b), (0, 0), (0, 3)]) (S' := [(0, w), (0, 0), (0, 0), (0, 0)]) r_205_62 rfl rfl rfl ?_
                                    refine gx_st (L' := [(2, 192), (0, w), (0, b), (0, 0), (0, 3)]) (S' := [(0, b), (0, w), (0, 0), (0, 0), (0, 0)]) r_205_63 rfl rfl rfl ?_
                                    refine gx_ci (nx := 67) (S2 := [(0, 0)]) (x_204_00 w b hw hb) r_205_64 rfl rfl rfl rfl rfl rfl rfl (by decide) rfl (fun x64 n64 q64 => ?_)
                                    obtain rfl := q64.1.symm
                                    obtain rfl := q64.2.symm
                                    show GX T 2 205 67 [(2, 192), (0, w), (0, b), (0, 0), (0, 3)] [(0, (if 1 ≤ b / 2 then 1 else 0)), (0, 0)] m (RI (fun v m1 => v = RestV w b ∧ m1 = m))
                                    refine gx_i0 (P := ¬ (1 ≤ b / 2)) r_205_67 (b01_eq) (fun h67 => ?_) (fun h67 => ?_)
                                    · refine gx_st (L' := [(2, 192), (0, w), (0, b), (0, 0), (0, 3)]) (S' := [(0, 0), (0, 0)]) r_205_77 rfl rfl rfl ?_
                                      refine gx_st (L' := [(2, 192), (0, w), (0, b), (0, 0), (0, 3)]) (S' := [(0, (ior 0 0))]) r_205_78 rfl rfl rfl ?_
                                      rw [show (ior 0 0) = 0 from by decide]
                                      refine gx_st (L' := [(2, 192), (0, w), (0, b), (0, 0), (0, 3)]) (S' := []) r_205_79 rfl rfl rfl ?_
                                      refine gx_li (z := 4) (L' := [(2, 192), (0, w), (0, b), (0, 0), (0, 4)]) r_205_80 rfl (w32_eq (by omega) (by omega) (by omega)) rfl ?_
                                      refine gx_st (L' := [(2, 192), (0, w), (0, b), (0, 0), (0, 4)]) (S' := []) r_205_83 rfl rfl rfl ?_
                                      refine gx_st (L' := [(2, 192), (0, w), (0, b), (0, 0), (0, 4)]) (S' := [(0, 4)]) r_205_32 rfl rfl rfl ?_
                                      refine gx_st (L' := [(2, 192), (0, w), (0, b), (0, 0), (0, 4)]) (S' := [(0, 4), (0, 4)]) r_205_34 rfl rfl rfl ?_
                                      refine gx_ic (P := 4 ≤ 4) r_205_35 (rfl) (fun h35 => ?_) (fun h35 => ?_)
                                      · refine gx_st (L' := [(2, 192), (0, w), (0, b), (0, 0), (0, 4)]) (S' := [(0, 0)]) r_205_86 rfl rfl rfl ?_
                                        exact gx_rt r_205_87 rfl rfl ⟨_, rfl, RestV_c ⟨fun _ => rest_s (by omega), fun z => by omega⟩, rfl⟩
                                      · omega
                                    · have h67 := Decidable.not_not.mp h67
                                      refine gx_st (L' := [(2, 192), (0, w), (0, b), (0, 0), (0, 3)]) (S' := [(0, 1), (0, 0)]) r_205_70 rfl rfl rfl ?_
                                      refine gx_st (L' := [(2, 192), (0, w), (0, b), (0, 0), (0, 3)]) (S' := [(0, 3), (0, 1), (0, 0)]) r_205_71 rfl rfl rfl ?_
                                      refine gx_st (L' := [(2, 192), (0, w), (0, b), (0, 0), (0, 3)]) (S' := [(0, (ishl 1 3)), (0, 0)]) r_205_73 rfl rfl rfl ?_
                                      rw [show (ishl 1 3) = 8 from by decide]
                                      refine gx_st (L' := [(2, 192), (0, w), (0, b), (0, 0), (0, 3)]) (S' := [(0, 8), (0, 0)]) r_205_74 rfl rfl rfl ?_
                                      refine gx_st (L' := [(2, 192), (0, w), (0, b), (0, 0), (0, 3)]) (S' := [(0, (ior 0 8))]) r_205_78 rfl rfl rfl ?_
                                      rw [show (ior 0 8) = 8 from by decide]
                                      refine gx_st (L' := [(2, 192), (0, w), (0, b), (0, 8), (0, 3)]) (S' := []) r_205_79 rfl rfl rfl ?_
                                      refine gx_li (z := 4) (L' := [(2, 192), (0, w), (0, b), (0, 8), (0, 4)]) r_205_80 rfl (w32_eq (by omega) (by omega) (by omega)) rfl ?_
                                      refine gx_st (L' := [(2, 192), (0, w), (0, b), (0, 8), (0, 4)]) (S' := []) r_205_83 rfl rfl rfl ?_
                                      refine gx_st (L' := [(2, 192), (0, w), (0, b), (0, 8), (0, 4)]) (S' := [(0, 4)]) r_205_32 rfl rfl rfl ?_
                                      refine gx_st (L' := [(2, 192), (0, w), (0, b), (0, 8), (0, 4)]) (S' := [(0, 4), (0, 4)]) r_205_34 rfl rfl rfl ?_
                                      refine gx_ic (P := 4 ≤ 4) r_205_35 (rfl) (fun h35 => ?_) (fun h35 => ?_)
                                      · refine gx_st (L' := [(2, 192), (0, w), (0, b), (0, 8), (0, 4)]) (S' := [(0, 8)]) r_205_86 rfl rfl rfl ?_
                                        exact gx_rt r_205_87 rfl rfl ⟨_, rfl, RestV_c ⟨fun _ => rest_s (by omega), fun z => by omega⟩, rfl⟩
                                      · omega
                                  · have h54 := Decidable.not_not.mp h54
                                    refine gx_st (L' := [(2, 192), (0, w), (0, b), (0, 0), (0, 3)]) (S' := [(0, 1), (0, 0), (0, 0)]) r_205_57 rfl rfl rfl ?_
                                    refine gx_st (L' := [(2, 192), (0, w), (0, b), (0, 0), (0, 3)]) (S' := [(0, 1), (0, 0), (0, 0)]) r_205_58 rfl rfl rfl ?_
                                    refine gx_st (L' := [(2, 192), (0, w), (0, b), (0, 0), (0, 3)]) (S' := [(0, w), (0, 1), (0, 0), (0, 0)]) r_205_62 rfl rfl rfl ?_
                                    refine gx_st (L' := [(2, 192), (0, w), (0, b), (0, 0), (0, 3)]) (S' := [(0, b), (0, w), (0, 1), (0, 0), (0, 0)]) r_205_63 rfl rfl rfl ?_
                                    refine gx_ci (nx := 67) (S2 := [(0, 0)]) (x_204_01 w b hw hb) r_205_64 rfl rfl rfl rfl rfl rfl rfl (by decide) rfl (fun x64 n64 q64 => ?_)
                                    obtain rfl := q64.1.symm
                                    obtain rfl := q64.2.symm
                                    show GX T 2 205 67 [(2, 192), (0, w), (0, b), (0, 0), (0, 3)] [(0, (if w ≤ 1 ∧ b / 2 ≤ 1 then 1 else 0)), (0, 0)] m (RI (fun v m1 => v = RestV w b ∧ m1 = m))
                                    refine gx_i0 (P := ¬ (w ≤ 1 ∧ b / 2 ≤ 1)) r_205_67 (b01_eq) (fun h67 => ?_) (fun h67 => ?_)
                                    · refine gx_st (L' := [(2, 192), (0, w), (0, b), (0, 0), (0, 3)]) (S' := [(0, 0), (0, 0)]) r_205_77 rfl rfl rfl ?_
                                      refine gx_st (L' := [(2, 192), (0, w), (0, b), (0, 0), (0, 3)]) (S' := [(0, (ior 0 0))]) r_205_78 rfl rfl rfl ?_
                                      rw [show (ior 0 0) = 0 from by decide]
                                      refine gx_st (L' := [(2, 192), (0, w), (0, b), (0, 0), (0, 3)]) (S' := []) r_205_79 rfl rfl rfl ?_
                                      refine gx_li (z := 4) (L' := [(2, 192), (0, w), (0, b), (0, 0), (0, 4)]) r_205_80 rfl (w32_eq (by omega) (by omega) (by omega)) rfl ?_
                                      refine gx_st (L' := [(2, 192), (0, w), (0, b), (0, 0), (0, 4)]) (S' := []) r_205_83 rfl rfl rfl ?_
                                      refine gx_st (L' := [(2, 192), (0, w), (0, b), (0, 0), (0, 4)]) (S' := [(0, 4)]) r_205_32 rfl rfl rfl ?_
                                      refine gx_st (L' := [(2, 192), (0, w), (0, b), (0, 0), (0, 4)]) (S' := [(0, 4), (0, 4)]) r_205_34 rfl rfl rfl ?_
                                      refine gx_ic (P := 4 ≤ 4) r_205_35 (rfl) (fun h35 => ?_) (fun h35 => ?_)
                                      · refine gx_st (L' := [(2, 192), (0, w), (0, b), (0, 0), (0, 4)]) (S' := [(0, 0)]) r_205_86 rfl rfl rfl ?_
                                        exact gx_rt r_205_87 rfl rfl ⟨_, rfl, RestV_c ⟨fun _ => rest_s (by omega), fun z => by omega⟩, rfl⟩
                                      · omega
                                    · have h67 := Decidable.not_not.mp h67
                                      refine gx_st (L' := [(2, 192), (0, w), (0, b), (0, 0), (0, 3)]) (S' := [(0, 1), (0, 0)]) r_205_70 rfl rfl rfl ?_
                                      refine gx_st (L' := [(2, 192), (0, w), (0, b), (0, 0), (0, 3)]) (S' := [(0, 3), (0, 1), (0, 0)]) r_205_71 rfl rfl rfl ?_
                                      refine gx_st (L' := [(2, 192), (0, w), (0, b), (0, 0), (0, 3)]) (S' := [(0, (ishl 1 3)), (0, 0)]) r_205_73 rfl rfl rfl ?_
                                      rw [show (ishl 1 3) = 8 from by decide]
                                      refine gx_st (L' := [(2, 192), (0, w), (0, b), (0, 0), (0, 3)]) (S' := [(0, 8), (0, 0)]) r_205_74 rfl rfl rfl ?_
                                      refine gx_st (L' := [(2, 192), (0, w), (0, b), (0, 0), (0, 3)]) (S' := [(0, (ior 0 8))]) r_205_78 rfl rfl rfl ?_
                                      rw [show (ior 0 8) = 8 from by decide]
                                      refine gx_st (L' := [(2, 192), (0, w), (0, b), (0, 8), (0, 3)]) (S' := []) r_205_79 rfl rfl rfl ?_
                                      refine gx_li (z := 4) (L' := [(2, 192), (0, w), (0, b), (0, 8), (0, 4)]) r_205_80 rfl (w32_eq (by omega) (by omega) (by omega)) rfl ?_
                                      refine gx_st (L' := [(2, 192), (0, w), (0, b), (0, 8), (0, 4)]) (S' := []) r_205_83 rfl rfl rfl ?_
                                      refine gx_st (L' := [(2, 192), (0, w), (0, b), (0, 8), (0, 4)]) (S' := [(0, 4)]) r_205_32 rfl rfl rfl ?_
                                      refine gx_st (L' := [(2, 192), (0, w), (0, b), (0, 8), (0, 4)]) (S' := [(0, 4), (0, 4)]) r_205_34 rfl rfl rfl ?_
                                      refine gx_ic (P := 4 ≤ 4) r_205_35 (rfl) (fun h35 => ?_) (fun h35 => ?_)
                                      · refine gx_st (L' := [(2, 192), (0, w), (0, b), (0, 8), (0, 4)]) (S' := [(0, 8)]) r_205_86 rfl rfl rfl ?_
                                        exact gx_rt r_205_87 rfl rfl ⟨_, rfl, RestV_c ⟨fun _ => rest_s (by omega), fun z => by omega⟩, rfl⟩
                                      · omega
                                · omega
                            · have h67 := Decidable.not_not.mp h67
                              refine gx_st (L' := [(2, 192), (0, w), (0, b), (0, 0), (0, 2)]) (S' := [(0, 1), (0, 0)]) r_205_70 rfl rfl rfl ?_
                              refine gx_st (L' := [(2, 192), (0, w), (0, b), (0, 0), (0, 2)]) (S' := [(0, 2), (0, 1), (0, 0)]) r_205_71 rfl rfl rfl ?_
                              refine gx_st (L' := [(2, 192), (0, w), (0, b), (0, 0), (0, 2)]) (S' := [(0, (ishl 1 2)), (0, 0)]) r_205_73 rfl rfl rfl ?_
                              rw [show (ishl 1 2) = 4 from by decide]
                              refine gx_st (L' := [(2, 192), (0, w), (0, b), (0, 0), (0, 2)]) (S' := [(0, 4), (0, 0)]) r_205_74 rfl rfl rfl ?_
                              refine gx_st (L' := [(2, 192), (0, w), (0, b), (0, 0), (0, 2)]) (S' := [(0, (ior 0 4))]) r_205_78 rfl rfl rfl ?_
                              rw [show (ior 0 4) = 4 from by decide]
                              refine gx_st (L' := [(2, 192), (0, w), (0, b), (0, 4), (0, 2)]) (S' := []) r_205_79 rfl rfl rfl ?_
                              refine gx_li (z := 3) (L' := [(2, 192), (0, w), (0, b), (0, 4), (0, 3)]) r_205_80 rfl (w32_eq (by omega) (by omega) (by omega)) rfl ?_
                              refine gx_st (L' := [(2, 192), (0, w), (0, b), (0, 4), (0, 3)]) (S' := []) r_205_83 rfl rfl rfl ?_
                              refine gx_st (L' := [(2, 192), (0, w), (0, b), (0, 4), (0, 3)]) (S' := [(0, 3)]) r_205_32 rfl rfl rfl ?_
                              refine gx_st (L' := [(2, 192), (0, w), (0, b), (0, 4), (0, 3)]) (S' := [(0, 4), (0, 3)]) r_205_34 rfl rfl rfl ?_
                              refine gx_ic (P := 4 ≤ 3) r_205_35 (rfl) (fun h35 => ?_) (fun h35 => ?_)
                              · omega
                              · refine gx_st (L' := [(2, 192), (0, w), (0, b), (0, 4), (0, 3)]) (S' := [(0, 4)]) r_205_38 rfl rfl rfl ?_
                                refine gx_st (L' := [(2, 192), (0, w), (0, b), (0, 4), (0, 3)]) (S' := [(0, 3), (0, 4)]) r_205_39 rfl rfl rfl ?_
                                refine gx_st (L' := [(2, 192), (0, w), (0, b), (0, 4), (0, 3)]) (S' := [(0, 2), (0, 3), (0, 4)]) r_205_41 rfl rfl rfl ?_
                                refine gx_ic (P := 2 ≤ 3) r_205_42 (rfl) (fun h42 => ?_) (fun h42 => ?_)
                                · refine gx_st (L' := [(2, 192), (0, w), (0, b), (0, 4), (0, 3)]) (S' := [(0, 0), (0, 4)]) r_205_49 rfl rfl rfl ?_
                                  refine gx_st (L' := [(2, 192), (0, w), (0, b), (0, 4), (0, 3)]) (S' := [(0, 3), (0, 0), (0, 4)]) r_205_50 rfl rfl rfl ?_
                                  refine gx_st (L' := [(2, 192), (0, w), (0, b), (0, 4), (0, 3)]) (S' := [(0, 2), (0, 3), (0, 0), (0, 4)]) r_205_52 rfl rfl rfl ?_
                                  refine gx_rm (z := (3 % 2)) r_205_53 (by decide) (tm_eq (by omega) rfl) ?_
                                  refine gx_i0 (P := ¬ (3 % 2) = 0) r_205_54 (rfl) (fun h54 => ?_) (fun h54 => ?_)
                                  · refine gx_st (L' := [(2, 192), (0, w), (0, b), (0, 4), (0, 3)]) (S' := [(0, 0), (0, 0), (0, 4)]) r_205_61 rfl rfl rfl ?_
                                    refine gx_st (L' := [(2, 192), (0, w), (0, b), (0, 4), (0, 3)]) (S' := [(0, w), (0, 0), (0, 0), (0, 4)]) r_205_62 rfl rfl rfl ?_
                                    refine gx_st (L' := [(2, 192), (0, w), (0, b), (0, 4), (0, 3)]) (S' := [(0, b), (0, w), (0, 0), (0, 0), (0, 4)]) r_205_63 rfl rfl rfl ?_
                                    refine gx_ci (nx := 67) (S2 := [(0, 4)]) (x_204_00 w b hw hb) r_205_64 rfl rfl rfl rfl rfl rfl rfl (by decide) rfl (fun x64 n64 q64 => ?_)
                                    obtain rfl := q64.1.symm
                                    obtain rfl := q64.2.symm
                                    show GX T 2 205 67 [(2, 192), (0, w), (0, b), (0, 4), (0, 3)] [(0, (if 1 ≤ b / 2 then 1 else 0)), (0, 4)] m (RI (fun v m1 => v = RestV w b ∧ m1 = m))
                                    refine gx_i0 (P := ¬ (1 ≤ b / 2)) r_205_67 (b01_eq) (fun h67 => ?_) (fun h67 => ?_)
                                    · refine gx_st (L' := [(2, 192), (0, w), (0, b), (0, 4), (0, 3)]) (S' := [(0, 0), (0, 4)]) r_205_77 rfl rfl rfl ?_
                                      refine gx_st (L' := [(2, 192), (0, w), (0, b), (0, 4), (0, 3)]) (S' := [(0, (ior 4 0))]) r_205_78 rfl rfl rfl ?_
                                      rw [show (ior 4 0) = 4 from by decide]
                                      refine gx_st (L' := [(2, 192), (0, w), (0, b), (0, 4), (0, 3)]) (S' := []) r_205_79 rfl rfl rfl ?_
                                      refine gx_li (z := 4) (L' := [(2, 192), (0, w), (0, b), (0, 4), (0, 4)]) r_205_80 rfl (w32_eq (by omega) (by omega) (by omega)) rfl ?_
                                      refine gx_st (L' := [(2, 192), (0, w), (0, b), (0, 4), (0, 4)]) (S' := []) r_205_83 rfl rfl rfl ?_
                                      refine gx_st (L' := [(2, 192), (0, w), (0, b), (0, 4), (0, 4)]) (S' := [(0, 4)]) r_205_32 rfl rfl rfl ?_
                                      refine gx_st (L' := [(2, 192), (0, w), (0, b), (0, 4), (0, 4)]) (S' := [(0, 4), (0, 4)]) r_205_34 rfl rfl rfl ?_
                                      refine gx_ic (P := 4 ≤ 4) r_205_35 (rfl) (fun h35 => ?_) (fun h35 => ?_)
                                      · refine gx_st (L' := [(2, 192), (0, w), (0, b), (0, 4), (0, 4)]) (S' := [(0, 4)]) r_205_86 rfl rfl rfl ?_
                                        exact gx_rt r_205_87 rfl rfl ⟨_, rfl, RestV_c ⟨fun _ => rest_s (by omega), fun z => by omega⟩, rfl⟩
                                      · omega
                                    · have h67 := Decidable.not_not.mp h67
                                      refine gx_st (L' := [(2, 192), (0, w), (0, b), (0, 4), (0, 3)]) (S' := [(0, 1), (0, 4)]) r_205_70 rfl rfl rfl ?_
                                      refine gx_st (L' := [(2, 192), (0, w), (0, b), (0, 4), (0, 3)]) (S' := [(0, 3), (0, 1), (0, 4)]) r_205_71 rfl rfl rfl ?_
                                      refine gx_st (L' := [(2, 192), (0, w), (0, b), (0, 4), (0, 3)]) (S' := [(0, (ishl 1 3)), (0, 4)]) r_205_73 rfl rfl rfl ?_
                                      rw [show (ishl 1 3) = 8 from by decide]
                                      refine gx_st (L' := [(2, 192), (0, w), (0, b), (0, 4), (0, 3)]) (S' := [(0, 8), (0, 4)]) r_205_74 rfl rfl rfl ?_
                                      refine gx_st (L' := [(2, 192), (0, w), (0, b), (0, 4), (0, 3)]) (S' := [(0, (ior 4 8))]) r_205_78 rfl rfl rfl ?_
                                      rw [show (ior 4 8) = 12 from by decide]
                                      refine gx_st (L' := [(2, 192), (0, w), (0, b), (0, 12), (0, 3)]) (S' := []) r_205_79 rfl rfl rfl ?_
                                      refine gx_li (z := 4) (L' := [(2, 192), (0, w), (0, b), (0, 12), (0, 4)]) r_205_80 rfl (w32_eq (by omega) (by omega) (by omega)) rfl ?_
                                      refine gx_st (L' := [(2, 192), (0, w), (0, b), (0, 12), (0, 4)]) (S' := []) r_205_83 rfl rfl rfl ?_
                                      refine gx_st (L' := [(2, 192), (0, w), (0, b), (0, 12), (0, 4)]) (S' := [(0, 4)]) r_205_32 rfl rfl rfl ?_
                                      refine gx_st (L' := [(2, 192), (0, w), (0, b), (0, 12), (0, 4)]) (S' := [(0, 4), (0, 4)]) r_205_34 rfl rfl rfl ?_
                                      refine gx_ic (P := 4 ≤ 4) r_205_35 (rfl) (fun h35 => ?_) (fun h35 => ?_)
                                      · refine gx_st (L' := [(2, 192), (0, w), (0, b), (0, 12), (0, 4)]) (S' := [(0, 12)]) r_205_86 rfl rfl rfl ?_
                                        exact gx_rt r_205_87 rfl rfl ⟨_, rfl, RestV_c ⟨fun _ => rest_s (by omega), fun z => by omega⟩, rfl⟩
                                      · omega
                                  · have h54 := Decidable.not_not.mp h54
                                    refine gx_st (L' := [(2, 192), (0, w), (0, b), (0, 4), (0, 3)]) (S' := [(0, 1), (0, 0), (0, 4)]) r_205_57 rfl rfl rfl ?_
                                    refine gx_st (L' := [(2, 192), (0, w), (0, b), (0, 4), (0, 3)]) (S' := [(0, 1), (0, 0), (0, 4)]) r_205_58 rfl rfl rfl ?_
                                    refine gx_st (L' := [(2, 192), (0, w), (0, b), (0, 4), (0, 3)]) (S' := [(0, w), (0, 1), (0, 0), (0, 4)]) r_205_62 rfl rfl rfl ?_
                                    refine gx_st (L' := [(2, 192), (0, w), (0, b), (0, 4), (0, 3)]) (S' := [(0, b), (0, w), (0, 1), (0, 0), (0, 4)]) r_205_63 rfl rfl rfl ?_
                                    refine gx_ci (nx := 67) (S2 := [(0, 4)]) (x_204_01 w b hw hb) r_205_64 rfl rfl rfl rfl rfl rfl rfl (by decide) rfl (fun x64 n64 q64 => ?_)
                                    obtain rfl := q64.1.symm
                                    obtain rfl := q64.2.symm
                                    show GX T 2 205 67 [(2, 192), (0, w), (0, b), (0, 4), (0, 3)] [(0, (if w ≤ 1 ∧ b / 2 ≤ 1 then 1 else 0)), (0, 4)] m (RI (fun v m1 => v = RestV w b ∧ m1 = m))
                                    refine gx_i0 (P := ¬ (w ≤ 1 ∧ b / 2 ≤ 1)) r_205_67 (b01_eq) (fun h67 => ?_) (fun h67 => ?_)
                                    · refine gx_st (L' := [(2, 192), (0, w), (0, b), (0, 4), (0, 3)]) (S' := [(0, 0), (0, 4)]) r_205_77 rfl rfl rfl ?_
                                      refine gx_st (L' := [(2, 192), (0, w), (0, b), (0, 4), (0, 3)]) (S' := [(0, (ior 4 0))]) r_205_78 rfl rfl rfl ?_
                                      rw [show (ior 4 0) = 4 from by decide]
                                      refine gx_st (L' := [(2, 192), (0, w), (0, b), (0, 4), (0, 3)]) (S' := []) r_205_79 rfl rfl rfl ?_
                                      refine gx_li (z := 4) (L' := [(2, 192), (0, w), (0, b), (0, 4), (0, 4)]) r_205_80 rfl (w32_eq (by omega) (by omega) (by omega)) rfl ?_
                                      refine gx_st (L' := [(2, 192), (0, w), (0, b), (0, 4), (0, 4)]) (S' := []) r_205_83 rfl rfl rfl ?_
                                      refine gx_st (L' := [(2, 192), (0, w), (0, b), (0, 4), (0, 4)]) (S' := [(0, 4)]) r_205_32 rfl rfl rfl ?_
                                      refine gx_st (L' := [(2, 192), (0, w), (0, b), (0, 4), (0, 4)]) (S' := [(0, 4), (0, 4)]) r_205_34 rfl rfl rfl ?_
                                      refine gx_ic (P := 4 ≤ 4) r_205_35 (rfl) (fun h35 => ?_) (fun h35 => ?_)
                                      · refine gx_st (L' := [(2, 192), (0, w), (0, b), (0, 4), (0, 4)]) (S' := [(0, 4)]) r_205_86 rfl rfl rfl ?_
                                        exact gx_rt r_205_87 rfl rfl ⟨_, rfl, RestV_c ⟨fun _ => rest_s (by omega), fun z => by omega⟩, rfl⟩
                                      · omega
                                    · have h67 := Decidable.not_not.mp h67
                                      refine gx_st (L' := [(2, 192), (0, w), (0, b), (0, 4), (0, 3)]) (S' := [(0, 1), (0, 4)]) r_205_70 rfl rfl rfl ?_
                                      refine gx_st (L' := [(2, 192), (0, w), (0, b), (0, 4), (0, 3)]) (S' := [(0, 3), (0, 1), (0, 4)]) r_205_71 rfl rfl rfl ?_
                                      refine gx_st (L' := [(2, 192), (0, w), (0, b), (0, 4), (0, 3)]) (S' := [(0, (ishl 1 3)), (0, 4)]) r_205_73 rfl rfl rfl ?_
                                      rw [show (ishl 1 3) = 8 from by decide]
                                      refine gx_st (L' := [(2, 192), (0, w), (0, b), (0, 4), (0, 3)]) (S' := [(0, 8), (0, 4)]) r_205_74 rfl rfl rfl ?_
                                      refine gx_st (L' := [(2, 192), (0, w), (0, b), (0, 4), (0, 3)]) (S' := [(0, (ior 4 8))]) r_205_78 rfl rfl rfl ?_
                                      rw [show (ior 4 8) = 12 from by decide]
                                      refine gx_st (L' := [(2, 192), (0, w), (0, b), (0, 12), (0, 3)]) (S' := []) r_205_79 rfl rfl rfl ?_
                                      refine gx_li (z := 4) (L' := [(2, 192), (0, w), (0, b), (0, 12), (0, 4)]) r_205_80 rfl (w32_eq (by omega) (by omega) (by omega)) rfl ?_
                                      refine gx_st (L' := [(2, 192), (0, w), (0, b), (0, 12), (0, 4)]) (S' := []) r_205_83 rfl rfl rfl ?_
                                      refine gx_st (L' := [(2, 192), (0, w), (0, b), (0, 12), (0, 4)]) (S' := [(0, 4)]) r_205_32 rfl rfl rfl ?_
                                      refine gx_st (L' := [(2, 192), (0, w), (0, b), (0, 12), (0, 4)]) (S' := [(0, 4), (0, 4)]) r_205_34 rfl rfl rfl ?_
                                      refine gx_ic (P := 4 ≤ 4) r_205_35 (rfl) (fun h35 => ?_) (fun h35 => ?_)
                                      · refine gx_st (L' := [(2, 192), (0, w), (0, b), (0, 12), (0, 4)]) (S' := [(0, 12)]) r_205_86 rfl rfl rfl ?_
                                        exact gx_rt r_205_87 rfl rfl ⟨_, rfl, RestV_c ⟨fun _ => rest_s (by omega), fun z => by omega⟩, rfl⟩
                                      · omega
                                · omega
                          · have h54 := Decidable.not_not.mp h54
                            refine gx_st (L' := [(2, 192), (0, w), (0, b), (0, 0), (0, 2)]) (S' := [(0, 1), (0, 0), (0, 0)]) r_205_57 rfl rfl rfl ?_
                            refine gx_st (L' := [(2, 192), (0, w), (0, b), (0, 0), (0, 2)]) (S' := [(0, 1), (0, 0), (0, 0)]) r_205_58 rfl rfl rfl ?_
                            refine gx_st (L' := [(2, 192), (0, w), (0, b), (0, 0), (0, 2)]) (S' := [(0, w), (0, 1), (0, 0), (0, 0)]) r_205_62 rfl rfl rfl ?_
                            refine gx_st (L' := [(2, 192), (0, w), (0, b), (0, 0), (0, 2)]) (S' := [(0, b), (0, w), (0, 1), (0, 0), (0, 0)]) r_205_63 rfl rfl rfl ?_
                            refine gx_ci (nx := 67) (S2 := [(0, 0)]) (x_204_01 w b hw hb) r_205_64 rfl rfl rfl rfl rfl rfl rfl (by decide) rfl (fun x64 n64 q64 => ?_)
                            obtain rfl := q64.1.symm
                            obtain rfl := q64.2.symm
                            show GX T 2 205 67 [(2, 192), (0, w), (0, b), (0, 0), (0, 2)] [(0, (if w ≤ 1 ∧ b / 2 ≤ 1 then 1 else 0)), (0, 0)] m (RI (fun v m1 => v = RestV w b ∧ m1 = m))
                            refine gx_i0 (P := ¬ (w ≤ 1 ∧ b / 2 ≤ 1)) r_205_67 (b01_eq) (fun h67 => ?_) (fun h67 => ?_)
                            · refine gx_st (L' := [(2, 192), (0, w), (0, b), (0, 0), (0, 2)]) (S' := [(0, 0), (0, 0)]) r_205_77 rfl rfl rfl ?_
                              refine gx_st (L' := [(2, 192), (0, w), (0, b), (0, 0), (0, 2)]) (S' := [(0, (ior 0 0))]) r_205_78 rfl rfl rfl ?_
                              rw [show (ior 0 0) = 0 from by decide]
                              refine gx_st (L' := [(2, 192), (0, w), (0, b), (0, 0), (0, 2)]) (S' := []) r_205_79 rfl rfl rfl ?_
                              refine gx_li (z := 3) (L' := [(2, 192), (0, w), (0, b), (0, 0), (0, 3)]) r_205_80 rfl (w32_eq (by omega) (by omega) (by omega)) rfl ?_
                              refine gx_st (L' := [(2, 192), (0, w), (0, b), (0, 0), (0, 3)]) (S' := []) r_205_83 rfl rfl rfl ?_
                              refine gx_st (L' := [(2, 192), (0, w), (0, b), (0, 0), (0, 3)]) (S' := [(0, 3)]) r_205_32 rfl rfl rfl ?_
                              refine gx_st (L' := [(2, 192), (0, w), (0, b), (0, 0), (0, 3)]) (S' := [(0, 4), (0, 3)]) r_205_34 rfl rfl rfl ?_
                              refine gx_ic (P := 4 ≤ 3) r_205_35 (rfl) (fun h35 => ?_) (fun h35 => ?_)
                              · omega
                              · refine gx_st (L' := [(2, 192), (0, w), (0, b), (0, 0), (0, 3)]) (S' := [(0, 0)]) r_205_38 rfl rfl rfl ?_
                                refine gx_st (L' := [(2, 192), (0, w), (0, b), (0, 0), (0, 3)]) (S' := [(0, 3), (0, 0)]) r_205_39 rfl rfl rfl ?_
                                refine gx_st (L' := [(2, 192), (0, w), (0, b), (0, 0), (0, 3)]) (S' := [(0, 2), (0, 3), (0, 0)]) r_205_41 rfl rfl rfl ?_
                                refine gx_ic (P := 2 ≤ 3) r_205_42 (rfl) (fun h42 => ?_) (fun h42 => ?_)
                                · refine gx_st (L' := [(2, 192), (0, w), (0, b), (0, 0), (0, 3)]) (S' := [(0, 0), (0, 0)]) r_205_49 rfl rfl rfl ?_
                                  refine gx_st (L' := [(2, 192), (0, w), (0, b), (0, 0), (0, 3)]) (S' := [(0, 3), (0, 0), (0, 0)]) r_205_50 rfl rfl rfl ?_
                                  refine gx_st (L' := [(2, 192), (0, w), (0, b), (0, 0), (0, 3)]) (S' := [(0, 2), (0, 3), (0, 0), (0, 0)]) r_205_52 rfl rfl rfl ?_
                                  refine gx_rm (z := (3 % 2)) r_205_53 (by decide) (tm_eq (by omega) rfl) ?_
                                  refine gx_i0 (P := ¬ (3 % 2) = 0) r_205_54 (rfl) (fun h54 => ?_) (fun h54 => ?_)
                                  · refine gx_st (L' := [(2, 192), (0, w), (0, b), (0, 0), (0, 3)]) (S' := [(0, 0), (0, 0), (0, 0)]) r_205_61 rfl rfl rfl ?_
                                    refine gx_st (L' := [(2, 192), (0, w), (0, b), (0, 0), (0, 3)]) (S' := [(0, w), (0, 0), (0, 0), (0, 0)]) r_205_62 rfl rfl rfl ?_
                                    refine gx_st (L' := [(2, 192), (0, w), (0, b), (0, 0), (0, 3)]) (S' := [(0, b), (0, w), (0, 0), (0, 0), (0, 0)]) r_205_63 rfl rfl rfl ?_
                                    refine gx_ci (nx := 67) (S2 := [(0, 0)]) (x_204_00 w b hw hb) r_205_64 rfl rfl rfl rfl rfl rfl rfl (by decide) rfl (fun x64 n64 q64 => ?_)
                                    obtain rfl := q64.1.symm
                                    obtain rfl := q64.2.symm
                                    show GX T 2 205 67 [(2, 192), (0, w), (0, b), (0, 0), (0, 3)] [(0, (if 1 ≤ b / 2 then 1 else 0)), (0, 0)] m (RI (fun v m1 => v = RestV w b ∧ m1 = m))
                                    refine gx_i0 (P := ¬ (1 ≤ b / 2)) r_205_67 (b01_eq) (fun h67 => ?_) (fun h67 => ?_)
                                    · refine gx_st (L' := [(2, 192), (0, w), (0, b), (0, 0), (0, 3)]) (S' := [(0, 0), (0, 0)]) r_205_77 rfl rfl rfl ?_
                                      refine gx_st (L' := [(2, 192), (0, w), (0, b), (0, 0), (0, 3)]) (S' := [(0, (ior 0 0))]) r_205_78 rfl rfl rfl ?_
                                      rw [show (ior 0 0) = 0 from by decide]
                                      refine gx_st (L' := [(2, 192), (0, w), (0, b), (0, 0), (0, 3)]) (S' := []) r_205_79 rfl rfl rfl ?_
                                      refine gx_li (z := 4) (L' := [(2, 192), (0, w), (0, b), (0, 0), (0, 4)]) r_205_80 rfl (w32_eq (by omega) (by omega) (by omega)) rfl ?_
                                      refine gx_st (L' := [(2, 192), (0, w), (0, b), (0, 0), (0, 4)]) (S' := []) r_205_83 rfl rfl rfl ?_
                                      refine gx_st (L' := [(2, 192), (0, w), (0, b), (0, 0), (0, 4)]) (S' := [(0, 4)]) r_205_32 rfl rfl rfl ?_
                                      refine gx_st (L' := [(2, 192), (0, w), (0, b), (0, 0), (0, 4)]) (S' := [(0, 4), (0, 4)]) r_205_34 rfl rfl rfl ?_
                                      refine gx_ic (P := 4 ≤ 4) r_205_35 (rfl) (fun h35 => ?_) (fun h35 => ?_)
                                      · refine gx_st (L' := [(2, 192), (0, w), (0, b), (0, 0), (0, 4)]) (S' := [(0, 0)]) r_205_86 rfl rfl rfl ?_
                                        exact gx_rt r_205_87 rfl rfl ⟨_, rfl, RestV_c ⟨fun _ => rest_s (by omega), fun z => by omega⟩, rfl⟩
                                      · omega
                                    · have h67 := Decidable.not_not.mp h67
                                      refine gx_st (L' := [(2, 192), (0, w), (0, b), (0, 0), (0, 3)]) (S' := [(0, 1), (0, 0)]) r_205_70 rfl rfl rfl ?_
                                      refine gx_st (L' := [(2, 192), (0, w), (0, b), (0, 0), (0, 3)]) (S' := [(0, 3), (0, 1), (0, 0)]) r_205_71 rfl rfl rfl ?_
                                      refine gx_st (L' := [(2, 192), (0, w), (0, b), (0, 0), (0, 3)]) (S' := [(0, (ishl 1 3)), (0, 0)]) r_205_73 rfl rfl rfl ?_
                                      rw [show (ishl 1 3) = 8 from by decide]
                                      refine gx_st (L' := [(2, 192), (0, w), (0, b), (0, 0), (0, 3)]) (S' := [(0, 8), (0, 0)]) r_205_74 rfl rfl rfl ?_
                                      refine gx_st (L' := [(2, 192), (0, w), (0, b), (0, 0), (0, 3)]) (S' := [(0, (ior 0 8))]) r_205_78 rfl rfl rfl ?_
                                      rw [show (ior 0 8) = 8 from by decide]
                                      refine gx_st (L' := [(2, 192), (0, w), (0, b), (0, 8), (0, 3)]) (S' := []) r_205_79 rfl rfl rfl ?_
                                      refine gx_li (z := 4) (L' := [(2, 192), (0, w), (0, b), (0, 8), (0, 4)]) r_205_80 rfl (w32_eq (by omega) (by omega) (by omega)) rfl ?_
                                      refine gx_st (L' := [(2, 192), (0, w), (0, b), (0, 8), (0, 4)]) (S' := []) r_205_83 rfl rfl rfl ?_
                                      refine gx_st (L' := [(2, 192), (0, w), (0, b), (0, 8), (0, 4)]) (S' := [(0, 4)]) r_205_32 rfl rfl rfl ?_
                                      refine gx_st (L' := [(2, 192), (0, w), (0, b), (0, 8), (0, 4)]) (S' := [(0, 4), (0, 4)]) r_205_34 rfl rfl rfl ?_
                                      refine gx_ic (P := 4 ≤ 4) r_205_35 (rfl) (fun h35 => ?_) (fun h35 => ?_)
                                      · refine gx_st (L' := [(2, 192), (0, w), (0, b), (0, 8), (0, 4)]) (S' := [(0, 8)]) r_205_86 rfl rfl rfl ?_
                                        exact gx_rt r_205_87 rfl rfl ⟨_, rfl, RestV_c ⟨fun _ => rest_s (by omega), fun z => by omega⟩, rfl⟩
                                      · omega
                                  · have h54 := Decidable.not_not.mp h54
                                    refine gx_st (L' := [(2, 192), (0, w), (0, b), (0, 0), (0, 3)]) (S' := [(0, 1), (0, 0), (0, 0)]) r_205_57 rfl rfl rfl ?_
                                    refine gx_st (L' := [(2, 192), (0, w), (0, b), (0, 0), (0, 3)]) (S' := [(0, 1), (0, 0), (0, 0)]) r_205_58 rfl rfl rfl ?_
                                    refine gx_st (L' := [(2, 192), (0, w), (0, b), (0, 0), (0, 3)]) (S' := [(0, w), (0, 1), (0, 0), (0, 0)]) r_205_62 rfl rfl rfl ?_
                                    refine gx_st (L' := [(2, 192), (0, w), (0, b), (0, 0), (0, 3)]) (S' := [(0, b), (0, w), (0, 1), (0, 0), (0, 0)]) r_205_63 rfl rfl rfl ?_
                                    refine gx_ci (nx := 67) (S2 := [(0, 0)]) (x_204_01 w b hw hb) r_205_64 rfl rfl rfl rfl rfl rfl rfl (by decide) rfl (fun x64 n64 q64 => ?_)
                                    obtain rfl := q64.1.symm
                                    obtain rfl := q64.2.symm
                                    show GX T 2 205 67 [(2, 192), (0, w), (0, b), (0, 0), (0, 3)] [(0, (if w ≤ 1 ∧ b / 2 ≤ 1 then 1 else 0)), (0, 0)] m (RI (fun v m1 => v = RestV w b ∧ m1 = m))
                                    refine gx_i0 (P := ¬ (w ≤ 1 ∧ b / 2 ≤ 1)) r_205_67 (b01_eq) (fun h67 => ?_) (fun h67 => ?_)
                                    · refine gx_st (L' := [(2, 192), (0, w), (0, b), (0, 0), (0, 3)]) (S' := [(0, 0), (0, 0)]) r_205_77 rfl rfl rfl ?_
                                      refine gx_st (L' := [(2, 192), (0, w), (0, b), (0, 0), (0, 3)]) (S' := [(0, (ior 0 0))]) r_205_78 rfl rfl rfl ?_
                                      rw [show (ior 0 0) = 0 from by decide]
                                      refine gx_st (L' := [(2, 192), (0, w), (0, b), (0, 0), (0, 3)]) (S' := []) r_205_79 rfl rfl rfl ?_
                                      refine gx_li (z := 4) (L' := [(2, 192), (0, w), (0, b), (0, 0), (0, 4)]) r_205_80 rfl (w32_eq (by omega) (by omega) (by omega)) rfl ?_
                                      refine gx_st (L' := [(2, 192), (0, w), (0, b), (0, 0), (0, 4)]) (S' := []) r_205_83 rfl rfl rfl ?_
                                      refine gx_st (L' := [(2, 192), (0, w), (0, b), (0, 0), (0, 4)]) (S' := [(0, 4)]) r_205_32 rfl rfl rfl ?_
                                      refine gx_st (L' := [(2, 192), (0, w), (0, b), (0, 0), (0, 4)]) (S' := [(0, 4), (0, 4)]) r_205_34 rfl rfl rfl ?_
                                      refine gx_ic (P := 4 ≤ 4) r_205_35 (rfl) (fun h35 => ?_) (fun h35 => ?_)
                                      · refine gx_st (L' := [(2, 192), (0, w), (0, b), (0, 0), (0, 4)]) (S' := [(0, 0)]) r_205_86 rfl rfl rfl ?_
                                        exact gx_rt r_205_87 rfl rfl ⟨_, rfl, RestV_c ⟨fun _ => rest_s (by omega), fun z => by omega⟩, rfl⟩
                                      · omega
                                    · have h67 := Decidable.not_not.mp h67
                                      refine gx_st (L' := [(2, 192), (0, w), (0, b), (0, 0), (0, 3)]) (S' := [(0, 1), (0, 0)]) r_205_70 rfl rfl rfl ?_
                                      refine gx_st (L' := [(2, 192), (0, w), (0, b), (0, 0), (0, 3)]) (S' := [(0, 3), (0, 1), (0, 0)]) r_205_71 rfl rfl rfl ?_
                                      refine gx_st (L' := [(2, 192), (0, w), (0, b), (0, 0), (0, 3)]) (S' := [(0, (ishl 1 3)), (0, 0)]) r_205_73 rfl rfl rfl ?_
                                      rw [show (ishl 1 3) = 8 from by decide]
                                      refine gx_st (L' := [(2, 192), (0, w), (0, b), (0, 0), (0, 3)]) (S' := [(0, 8), (0, 0)]) r_205_74 rfl rfl rfl ?_
                                      refine gx_st (L' := [(2, 192), (0, w), (0, b), (0, 0), (0, 3)]) (S' := [(0, (ior 0 8))]) r_205_78 rfl rfl rfl ?_
                                      rw [show (ior 0 8) = 8 from by decide]
                                      refine gx_st (L' := [(2, 192), (0, w), (0, b), (0, 8), (0, 3)]) (S' := []) r_205_79 rfl rfl rfl ?_
                                      refine gx_li (z := 4) (L' := [(2, 192), (0, w), (0, b), (0, 8), (0, 4)]) r_205_80 rfl (w32_eq (by omega) (by omega) (by omega)) rfl ?_
                                      refine gx_st (L' := [(2, 192), (0, w), (0, b), (0, 8), (0, 4)]) (S' := []) r_205_83 rfl rfl rfl ?_
                                      refine gx_st (L' := [(2, 192), (0, w), (0, b), (0, 8), (0, 4)]) (S' := [(0, 4)]) r_205_32 rfl rfl rfl ?_
                                      refine gx_st (L' := [(2, 192), (0, w), (0, b), (0, 8), (0, 4)]) (S' := [(0, 4), (0, 4)]) r_205_34 rfl rfl rfl ?_
                                      refine gx_ic (P := 4 ≤ 4) r_205_35 (rfl) (fun h35 => ?_) (fun h35 => ?_)
                                      · refine gx_st (L' := [(2, 192), (0, w), (0, b), (0, 8), (0, 4)]) (S' := [(0, 8)]) r_205_86 rfl rfl rfl ?_
                                        exact gx_rt r_205_87 rfl rfl ⟨_, rfl, RestV_c ⟨fun _ => rest_s (by omega), fun z => by omega⟩, rfl⟩
                                      · omega
                                · omega
                            · have h67 := Decidable.not_not.mp h67
                              refine gx_st (L' := [(2, 192), (0, w), (0, b), (0, 0), (0, 2)]) (S' := [(0, 1), (0, 0)]) r_205_70 rfl rfl rfl ?_
                              refine gx_st (L' := [(2, 192), (0, w), (0, b), (0, 0), (0, 2)]) (S' := [(0, 2), (0, 1), (0, 0)]) r_205_71 rfl rfl rfl ?_
                              refine gx_st (L' := [(2, 192), (0, w), (0, b), (0, 0), (0, 2)]) (S' := [(0, (ishl 1 2)), (0, 0)]) r_205_73 rfl rfl rfl ?_
                              rw [show (ishl 1 2) = 4 from by decide]
                              refine gx_st (L' := [(2, 192), (0, w), (0, b), (0, 0), (0, 2)]) (S' := [(0, 4), (0, 0)]) r_205_74 rfl rfl rfl ?_
                              refine gx_st (L' := [(2, 192), (0, w), (0, b), (0, 0), (0, 2)]) (S' := [(0, (ior 0 4))]) r_205_78 rfl rfl rfl ?_
                              rw [show (ior 0 4) = 4 from by decide]
                              refine gx_st (L' := [(2, 192), (0, w), (0, b), (0, 4), (0, 2)]) (S' := []) r_205_79 rfl rfl rfl ?_
                              refine gx_li (z := 3) (L' := [(2, 192), (0, w), (0, b), (0, 4), (0, 3)]) r_205_80 rfl (w32_eq (by omega) (by omega) (by omega)) rfl ?_
                              refine gx_st (L' := [(2, 192), (0, w), (0, b), (0, 4), (0, 3)]) (S' := []) r_205_83 rfl rfl rfl ?_
                              refine gx_st (L' := [(2, 192), (0, w), (0, b), (0, 4), (0, 3)]) (S' := [(0, 3)]) r_205_32 rfl rfl rfl ?_
                              refine gx_st (L' := [(2, 192), (0, w), (0, b), (0, 4), (0, 3)]) (S' := [(0, 4), (0, 3)]) r_205_34 rfl rfl rfl ?_
                              refine gx_ic (P := 4 ≤ 3) r_205_35 (rfl) (fun h35 => ?_) (fun h35 => ?_)
                              · omega
                              · refine gx_st (L' := [(2, 192), (0, w), (0, b), (0, 4), (0, 3)]) (S' := [(0, 4)]) r_205_38 rfl rfl rfl ?_
                                refine gx_st (L' := [(2, 192), (0, w), (0, b), (0, 4), (0, 3)]) (S' := [(0, 3), (0, 4)]) r_205_39 rfl rfl rfl ?_
                                refine gx_st (L' := [(2, 192), (0, w), (0, b), (0, 4), (0, 3)]) (S' := [(0, 2), (0, 3), (0, 4)]) r_205_41 rfl rfl rfl ?_
                                refine gx_ic (P := 2 ≤ 3) r_205_42 (rfl) (fun h42 => ?_) (fun h42 => ?_)
                                · refine gx_st (L' := [(2, 192), (0, w), (0, b), (0, 4), (0, 3)]) (S' := [(0, 0), (0, 4)]) r_205_49 rfl rfl rfl ?_
                                  refine gx_st (L' := [(2, 192), (0, w), (0, b), (0, 4), (0, 3)]) (S' := [(0, 3), (0, 0), (0, 4)]) r_205_50 rfl rfl rfl ?_
                                  refine gx_st (L' := [(2, 192), (0, w), (0, b), (0, 4), (0, 3)]) (S' := [(0, 2), (0, 3), (0, 0), (0, 4)]) r_205_52 rfl rfl rfl ?_
                                  refine gx_rm (z := (3 % 2)) r_205_53 (by decide) (tm_eq (by omega) rfl) ?_
                                  refine gx_i0 (P := ¬ (3 % 2) = 0) r_205_54 (rfl) (fun h54 => ?_) (fun h54 => ?_)
                                  · refine gx_st (L' := [(2, 192), (0, w), (0, b), (0, 4), (0, 3)]) (S' := [(0, 0), (0, 0), (0, 4)]) r_205_61 rfl rfl rfl ?_
                                    refine gx_st (L' := [(2, 192), (0, w), (0, b), (0, 4), (0, 3)]) (S' := [(0, w), (0, 0), (0, 0), (0, 4)]) r_205_62 rfl rfl rfl ?_
                                    refine gx_st (L' := [(2, 192), (0, w), (0, b), (0, 4), (0, 3)]) (S' := [(0, b), (0, w), (0, 0), (0, 0), (0, 4)]) r_205_63 rfl rfl rfl ?_
                                    refine gx_ci (nx := 67) (S2 := [(0, 4)]) (x_204_00 w b hw hb) r_205_64 rfl rfl rfl rfl rfl rfl rfl (by decide) rfl (fun x64 n64 q64 => ?_)
                                    obtain rfl := q64.1.symm
                                    obtain rfl := q64.2.symm
                                    show GX T 2 205 67 [(2, 192), (0, w), (0, b), (0, 4), (0, 3)] [(0, (if 1 ≤ b / 2 then 1 else 0)), (0, 4)] m (RI (fun v m1 => v = RestV w b ∧ m1 = m))
                                    refine gx_i0 (P := ¬ (1 ≤ b / 2)) r_205_67 (b01_eq) (fun h67 => ?_) (fun h67 => ?_)
                                    · refine gx_st (L' := [(2, 192), (0, w), (0, b), (0, 4), (0, 3)]) (S' := [(0, 0), (0, 4)]) r_205_77 rfl rfl rfl ?_
                                      refine gx_st (L' := [(2, 192), (0, w), (0, b), (0, 4), (0, 3)]) (S' := [(0, (ior 4 0))]) r_205_78 rfl rfl rfl ?_
                                      rw [show (ior 4 0) = 4 from by decide]
                                      refine gx_st (L' := [(2, 192), (0, w), (0, b), (0, 4), (0, 3)]) (S' := []) r_205_79 rfl rfl rfl ?_
                                      refine gx_li (z := 4) (L' := [(2, 192), (0, w), (0, b), (0, 4), (0, 4)]) r_205_80 rfl (w32_eq (by omega) (by omega) (by omega)) rfl ?_
                                      refine gx_st (L' := [(2, 192), (0, w), (0, b), (0, 4), (0, 4)]) (S' := []) r_205_83 rfl rfl rfl ?_
                                      refine gx_st (L' := [(2, 192), (0, w), (0, b), (0, 4), (0, 4)]) (S' := [(0, 4)]) r_205_32 rfl rfl rfl ?_
                                      refine gx_st (L' := [(2, 192), (0, w), (0, b), (0, 4), (0, 4)]) (S' := [(0, 4), (0, 4)]) r_205_34 rfl rfl rfl ?_
                                      refine gx_ic (P := 4 ≤ 4) r_205_35 (rfl) (fun h35 => ?_) (fun h35 => ?_)
                                      · refine gx_st (L' := [(2, 192), (0, w), (0, b), (0, 4), (0, 4)]) (S' := [(0, 4)]) r_205_86 rfl rfl rfl ?_
                                        exact gx_rt r_205_87 rfl rfl ⟨_, rfl, RestV_c ⟨fun _ => rest_s (by omega), fun z => by omega⟩, rfl⟩
                                      · omega
                                    · have h67 := Decidable.not_not.mp h67
                                      refine gx_st (L' := [(2, 192), (0, w), (0, b), (0, 4), (0, 3)]) (S' := [(0, 1), (0, 4)]) r_205_70 rfl rfl rfl ?_
                                      refine gx_st (L' := [(2, 192), (0, w), (0, b), (0, 4), (0, 3)]) (S' := [(0, 3), (0, 1), (0, 4)]) r_205_71 rfl rfl rfl ?_
                                      refine gx_st (L' := [(2, 192), (0, w), (0, b), (0, 4), (0, 3)]) (S' := [(0, (ishl 1 3)), (0, 4)]) r_205_73 rfl rfl rfl ?_
                                      rw [show (ishl 1 3) = 8 from by decide]
                                      refine gx_st (L' := [(2, 192), (0, w), (0, b), (0, 4), (0, 3)]) (S' := [(0, 8), (0, 4)]) r_205_74 rfl rfl rfl ?_
                                      refine gx_st (L' := [(2, 192), (0, w), (0, b), (0, 4), (0, 3)]) (S' := [(0, (ior 4 8))]) r_205_78 rfl rfl rfl ?_
                                      rw [show (ior 4 8) = 12 from by decide]
                                      refine gx_st (L' := [(2, 192), (0, w), (0, b), (0, 12), (0, 3)]) (S' := []) r_205_79 rfl rfl rfl ?_
                                      refine gx_li (z := 4) (L' := [(2, 192), (0, w), (0, b), (0, 12), (0, 4)]) r_205_80 rfl (w32_eq (by omega) (by omega) (by omega)) rfl ?_
                                      refine gx_st (L' := [(2, 192), (0, w), (0, b), (0, 12), (0, 4)]) (S' := []) r_205_83 rfl rfl rfl ?_
                                      refine gx_st (L' := [(2, 192), (0, w), (0, b), (0, 12), (0, 4)]) (S' := [(0, 4)]) r_205_32 rfl rfl rfl ?_
                                      refine gx_st (L' := [(2, 192), (0, w), (0, b), (0, 12), (0, 4)]) (S' := [(0, 4), (0, 4)]) r_205_34 rfl rfl rfl ?_
                                      refine gx_ic (P := 4 ≤ 4) r_205_35 (rfl) (fun h35 => ?_) (fun h35 => ?_)
                                      · refine gx_st (L' := [(2, 192), (0, w), (0, b), (0, 12), (0, 4)]) (S' := [(0, 12)]) r_205_86 rfl rfl rfl ?_
                                        exact gx_rt r_205_87 rfl rfl ⟨_, rfl, RestV_c ⟨fun _ => rest_s (by omega), fun z => by omega⟩, rfl⟩
                                      · omega
                                  · have h54 := Decidable.not_not.mp h54
                                    refine gx_st (L' := [(2, 192), (0, w), (0, b), (0, 4), (0, 3)]) (S' := [(0, 1), (0, 0), (0, 4)]) r_205_57 rfl rfl rfl ?_
                                    refine gx_st (L' := [(2, 192), (0, w), (0, b), (0, 4), (0, 3)]) (S' := [(0, 1), (0, 0), (0, 4)]) r_205_58 rfl rfl rfl ?_
                                    refine gx_st (L' := [(2, 192), (0, w), (0, b), (0, 4), (0, 3)]) (S' := [(0, w), (0, 1), (0, 0), (0, 4)]) r_205_62 rfl rfl rfl ?_
                                    refine gx_st (L' := [(2, 192), (0, w), (0, b), (0, 4), (0, 3)]) (S' := [(0, b), (0, w), (0, 1), (0, 0), (0, 4)]) r_205_63 rfl rfl rfl ?_
                                    refine gx_ci (nx := 67) (S2 := [(0, 4)]) (x_204_01 w b hw hb) r_205_64 rfl rfl rfl rfl rfl rfl rfl (by decide) rfl (fun x64 n64 q64 => ?_)
                                    obtain rfl := q64.1.symm
                                    obtain rfl := q64.2.symm
                                    show GX T 2 205 67 [(2, 192), (0, w), (0, b), (0, 4), (0, 3)] [(0, (if w ≤ 1 ∧ b / 2 ≤ 1 then 1 else 0)), (0, 4)] m (RI (fun v m1 => v = RestV w b ∧ m1 = m))
                                    refine gx_i0 (P := ¬ (w ≤ 1 ∧ b / 2 ≤ 1)) r_205_67 (b01_eq) (fun h67 => ?_) (fun h67 => ?_)
                                    · refine gx_st (L' := [(2, 192), (0, w), (0, b), (0, 4), (0, 3)]) (S' := [(0, 0), (0, 4)]) r_205_77 rfl rfl rfl ?_
                                      refine gx_st (L' := [(2, 192), (0, w), (0, b), (0, 4), (0, 3)]) (S' := [(0, (ior 4 0))]) r_205_78 rfl rfl rfl ?_
                                      rw [show (ior 4 0) = 4 from by decide]
                                      refine gx_st (L' := [(2, 192), (0, w), (0, b), (0, 4), (0, 3)]) (S' := []) r_205_79 rfl rfl rfl ?_
                                      refine gx_li (z := 4) (L' := [(2, 192), (0, w), (0, b), (0, 4), (0, 4)]) r_205_80 rfl (w32_eq (by omega) (by omega) (by omega)) rfl ?_
                                      refine gx_st (L' := [(2, 192), (0, w), (0, b), (0, 4), (0, 4)]) (S' := []) r_205_83 rfl rfl rfl ?_
                                      refine gx_st (L' := [(2, 192), (0, w), (0, b), (0, 4), (0, 4)]) (S' := [(0, 4)]) r_205_32 rfl rfl rfl ?_
                                      refine gx_st (L' := [(2, 192), (0, w), (0, b), (0, 4), (0, 4)]) (S' := [(0, 4), (0, 4)]) r_205_34 rfl rfl rfl ?_
                                      refine gx_ic (P := 4 ≤ 4) r_205_35 (rfl) (fun h35 => ?_) (fun h35 => ?_)
                                      · refine gx_st (L' := [(2, 192), (0, w), (0, b), (0, 4), (0, 4)]) (S' := [(0, 4)]) r_205_86 rfl rfl rfl ?_
                                        exact gx_rt r_205_87 rfl rfl ⟨_, rfl, RestV_c ⟨fun _ => rest_s (by omega), fun z => by omega⟩, rfl⟩
                                      · omega
                                    · have h67 := Decidable.not_not.mp h67
                                      refine gx_st (L' := [(2, 192), (0, w), (0, b), (0, 4), (0, 3)]) (S' := [(0, 1), (0, 4)]) r_205_70 rfl rfl rfl ?_
                                      refine gx_st (L' := [(2, 192), (0, w), (0, b), (0, 4), (0, 3)]) (S' := [(0, 3), (0, 1), (0, 4)]) r_205_71 rfl rfl rfl ?_
                                      refine gx_st (L' := [(2, 192), (0, w), (0, b), (0, 4), (0, 3)]) (S' := [(0, (ishl 1 3)), (0, 4)]) r_205_73 rfl rfl rfl ?_
                                      rw [show (ishl 1 3) = 8 from by decide]
                                      refine gx_st (L' := [(2, 192), (0, w), (0, b), (0, 4), (0, 3)]) (S' := [(0, 8), (0, 4)]) r_205_74 rfl rfl rfl ?_
                                      refine gx_st (L' := [(2, 192), (0, w), (0, b), (0, 4), (0, 3)]) (S' := [(0, (ior 4 8))]) r_205_78 rfl rfl rfl ?_
                                      rw [show (ior 4 8) = 12 from by decide]
                                      refine gx_st (L' := [(2, 192), (0, w), (0, b), (0, 12), (0, 3)]) (S' := []) r_205_79 rfl rfl rfl ?_
                                      refine gx_li (z := 4) (L' := [(2, 192), (0, w), (0, b), (0, 12), (0, 4)]) r_205_80 rfl (w32_eq (by omega) (by omega) (by omega)) rfl ?_
                                      refine gx_st (L' := [(2, 192), (0, w), (0, b), (0, 12), (0, 4)]) (S' := []) r_205_83 rfl rfl rfl ?_
                                      refine gx_st (L' := [(2, 192), (0, w), (0, b), (0, 12), (0, 4)]) (S' := [(0, 4)]) r_205_32 rfl rfl rfl ?_
                                      refine gx_st (L' := [(2, 192), (0, w), (0, b), (0, 12), (0, 4)]) (S' := [(0, 4), (0, 4)]) r_205_34 rfl rfl rfl ?_
                                      refine gx_ic (P := 4 ≤ 4) r_205_35 (rfl) (fun h35 => ?_) (fun h35 => ?_)
                                      · refine gx_st (L' := [(2, 192), (0, w), (0, b), (0, 12), (0, 4)]) (S' := [(0, 12)]) r_205_86 rfl rfl rfl ?_
                                        exact gx_rt r_205_87 rfl rfl ⟨_, rfl, RestV_c ⟨fun _ => rest_s (by omega), fun z => by omega⟩, rfl⟩
                                      · omega
                                · omega
                        · omega
                    · have h67 := Decidable.not_not.mp h67
                      refine gx_st (L' := [(2, 192), (0, w), (0, b), (0, 0), (0, 1)]) (S' := [(0, 1), (0, 0)]) r_205_70 rfl rfl rfl ?_
                      refine gx_st (L' := [(2, 192), (0, w), (0, b), (0, 0), (0, 1)]) (S' := [(0, 1), (0, 1), (0, 0)]) r_205_71 rfl rfl rfl ?_
                      refine gx_st (L' := [(2, 192), (0, w), (0, b), (0, 0), (0, 1)]) (S' := [(0, (ishl 1 1)), (0, 0)]) r_205_73 rfl rfl rfl ?_
                      rw [show (ishl 1 1) = 2 from by decide]
                      refine gx_st (L' := [(2, 192), (0, w), (0, b), (0, 0), (0, 1)]) (S' := [(0, 2), (0, 0)]) r_205_74 rfl rfl rfl ?_
                      refine gx_st (L' := [(2, 192), (0, w), (0, b), (0, 0), (0, 1)]) (S' := [(0, (ior 0 2))]) r_205_78 rfl rfl rfl ?_
                      rw [show (ior 0 2) = 2 from by decide]
                      refine gx_st (L' := [(2, 192), (0, w), (0, b), (0, 2), (0, 1)]) (S' := []) r_205_79 rfl rfl rfl ?_
                      refine gx_li (z := 2) (L' := [(2, 192), (0, w), (0, b), (0, 2), (0, 2)]) r_205_80 rfl (w32_eq (by omega) (by omega) (by omega)) rfl ?_
                      refine gx_st (L' := [(2, 192), (0, w), (0, b), (0, 2), (0, 2)]) (S' := []) r_205_83 rfl rfl rfl ?_
                      refine gx_st (L' := [(2, 192), (0, w), (0, b), (0, 2), (0, 2)]) (S' := [(0, 2)]) r_205_32 rfl rfl rfl ?_
                      refine gx_st (L' := [(2, 192), (0, w), (0, b), (0, 2), (0, 2)]) (S' := [(0, 4), (0, 2)]) r_205_34 rfl rfl rfl ?_
                      refine gx_ic (P := 4 ≤ 2) r_205_35 (rfl) (fun h35 => ?_) (fun h35 => ?_)
                      · omega
                      · refine gx_st (L' := [(2, 192), (0, w), (0, b), (0, 2), (0, 2)]) (S' := [(0, 2)]) r_205_38 rfl rfl rfl ?_
                        refine gx_st (L' := [(2, 192), (0, w), (0, b), (0, 2), (0, 2)]) (S' := [(0, 2), (0, 2)]) r_205_39 rfl rfl rfl ?_
                        refine gx_st (L' := [(2, 192), (0, w), (0, b), (0, 2), (0, 2)]) (S' := [(0, 2), (0, 2), (0, 2)]) r_205_41 rfl rfl rfl ?_
                        refine gx_ic (P := 2 ≤ 2) r_205_42 (rfl) (fun h42 => ?_) (fun h42 => ?_)
                        · refine gx_st (L' := [(2, 192), (0, w), (0, b), (0, 2), (0, 2)]) (S' := [(0, 0), (0, 2)]) r_205_49 rfl rfl rfl ?_
                          refine gx_st (L' := [(2, 192), (0, w), (0, b), (0, 2), (0, 2)]) (S' := [(0, 2), (0, 0), (0, 2)]) r_205_50 rfl rfl rfl ?_
                          refine gx_st (L' := [(2, 192), (0, w), (0, b), (0, 2), (0, 2)]) (S' := [(0, 2), (0, 2), (0, 0), (0, 2)]) r_205_52 rfl rfl rfl ?_
                          refine gx_rm (z := (2 % 2)) r_205_53 (by decide) (tm_eq (by omega) rfl) ?_
                          refine gx_i0 (P := ¬ (2 % 2) = 0) r_205_54 (rfl) (fun h54 => ?_) (fun h54 => ?_)
                          · refine gx_st (L' := [(2, 192), (0, w), (0, b), (0, 2), (0, 2)]) (S' := [(0, 0), (0, 0), (0, 2)]) r_205_61 rfl rfl rfl ?_
                            refine gx_st (L' := [(2, 192), (0, w), (0, b), (0, 2), (0, 2)]) (S' := [(0, w), (0, 0), (0, 0), (0, 2)]) r_205_62 rfl rfl rfl ?_
                            refine gx_st (L' := [(2, 192), (0, w), (0, b), (0, 2), (0, 2)]) (S' := [(0, b), (0, w), (0, 0), (0, 0), (0, 2)]) r_205_63 rfl rfl rfl ?_
                            refine gx_ci (nx := 67) (S2 := [(0, 2)]) (x_204_00 w b hw hb) r_205_64 rfl rfl rfl rfl rfl rfl rfl (by decide) rfl (fun x64 n64 q64 => ?_)
                            obtain rfl := q64.1.symm
                            obtain rfl := q64.2.symm
                            show GX T 2 205 67 [(2, 192), (0, w), (0, b), (0, 2), (0, 2)] [(0, (if 1 ≤ b / 2 then 1 else 0)), (0, 2)] m (RI (fun v m1 => v = RestV w b ∧ m1 = m))
                            refine gx_i0 (P := ¬ (1 ≤ b / 2)) r_205_67 (b01_eq) (fun h67 => ?_) (fun h67 => ?_)
                            · refine gx_st (L' := [(2, 192), (0, w), (0, b), (0, 2), (0, 2)]) (S' := [(0, 0), (0, 2)]) r_205_77 rfl rfl rfl ?_
                              refine gx_st (L' := [(2, 192), (0, w), (0, b), (0, 2), (0, 2)]) (S' := [(0, (ior 2 0))]) r_205_78 rfl rfl rfl ?_
                              rw [show (ior 2 0) = 2 from by decide]
                              refine gx_st (L' := [(2, 192), (0, w), (0, b), (0, 2), (0, 2)]) (S' := []) r_205_79 rfl rfl rfl ?_
                              refine gx_li (z := 3) (L' := [(2, 192), (0, w), (0, b), (0, 2), (0, 3)]) r_205_80 rfl (w32_eq (by omega) (by omega) (by omega)) rfl ?_
                              refine gx_st (L' := [(2, 192), (0, w), (0, b), (0, 2), (0, 3)]) (S' := []) r_205_83 rfl rfl rfl ?_
                              refine gx_st (L' := [(2, 192), (0, w), (0, b), (0, 2), (0, 3)]) (S' := [(0, 3)]) r_205_32 rfl rfl rfl ?_
                              refine gx_st (L' := [(2, 192), (0, w), (0, b), (0, 2), (0, 3)]) (S' := [(0, 4), (0, 3)]) r_205_34 rfl rfl rfl ?_
                              refine gx_ic (P := 4 ≤ 3) r_205_35 (rfl) (fun h35 => ?_) (fun h35 => ?_)
                              · omega
                              · refine gx_st (L' := [(2, 192), (0, w), (0, b), (0, 2), (0, 3)]) (S' := [(0, 2)]) r_205_38 rfl rfl rfl ?_
                                refine gx_st (L' := [(2, 192), (0, w), (0, b), (0, 2), (0, 3)]) (S' := [(0, 3), (0, 2)]) r_205_39 rfl rfl rfl ?_
                                refine gx_st (L' := [(2, 192), (0, w), (0, b), (0, 2), (0, 3)]) (S' := [(0, 2), (0, 3), (0, 2)]) r_205_41 rfl rfl rfl ?_
                                refine gx_ic (P := 2 ≤ 3) r_205_42 (rfl) (fun h42 => ?_) (fun h42 => ?_)
                                · refine gx_st (L' := [(2, 192), (0, w), (0, b), (0, 2), (0, 3)]) (S' := [(0, 0), (0, 2)]) r_205_49 rfl rfl rfl ?_
                                  refine gx_st (L' := [(2, 192), (0, w), (0, b), (0, 2), (0, 3)]) (S' := [(0, 3), (0, 0), (0, 2)]) r_205_50 rfl rfl rfl ?_
                                  refine gx_st (L' := [(2, 192), (0, w), (0, b), (0, 2), (0, 3)]) (S' := [(0, 2), (0, 3), (0, 0), (0, 2)]) r_205_52 rfl rfl rfl ?_
                                  refine gx_rm (z := (3 % 2)) r_205_53 (by decide) (tm_eq (by omega) rfl) ?_
                                  refine gx_i0 (P := ¬ (3 % 2) = 0) r_205_54 (rfl) (fun h54 => ?_) (fun h54 => ?_)
                                  · refine gx_st (L' := [(2, 192), (0, w), (0, b), (0, 2), (0, 3)]) (S' := [(0, 0), (0, 0), (0, 2)]) r_205_61 rfl rfl rfl ?_
                                    refine gx_st (L' := [(2, 192), (0, w), (0, b), (0, 2), (0, 3)]) (S' := [(0, w), (0, 0), (0, 0), (0, 2)]) r_205_62 rfl rfl rfl ?_
                                    refine gx_st (L' := [(2, 192), (0, w), (0, b), (0, 2), (0, 3)]) (S' := [(0, b), (0, w), (0, 0), (0, 0), (0, 2)]) r_205_63 rfl rfl rfl ?_
                                    refine gx_ci (nx := 67) (S2 := [(0, 2)]) (x_204_00 w b hw hb) r_205_64 rfl rfl rfl rfl rfl rfl rfl (by decide) rfl (fun x64 n64 q64 => ?_)
                                    obtain rfl := q64.1.symm
                                    obtain rfl := q64.2.symm
                                    show GX T 2 205 67 [(2, 192), (0, w), (0, b), (0, 2), (0, 3)] [(0, (if 1 ≤ b / 2 then 1 else 0)), (0, 2)] m (RI (fun v m1 => v = RestV w b ∧ m1 = m))
                                    refine gx_i0 (P := ¬ (1 ≤ b / 2)) r_205_67 (b01_eq) (fun h67 => ?_) (fun h67 => ?_)
                                    · refine gx_st (L' := [(2, 192), (0, w), (0, b), (0, 2), (0, 3)]) (S' := [(0, 0), (0, 2)]) r_205_77 rfl rfl rfl ?_
                                      refine gx_st (L' := [(2, 192), (0, w), (0, b), (0, 2), (0, 3)]) (S' := [(0, (ior 2 0))]) r_205_78 rfl rfl rfl ?_
                                      rw [show (ior 2 0) = 2 from by decide]
                                      refine gx_st (L' := [(2, 192), (0, w), (0, b), (0, 2), (0, 3)]) (S' := []) r_205_79 rfl rfl rfl ?_
                                      refine gx_li (z := 4) (L' := [(2, 192), (0, w), (0, b), (0, 2), (0, 4)]) r_205_80 rfl (w32_eq (by omega) (by omega) (by omega)) rfl ?_
                                      refine gx_st (L' := [(2, 192), (0, w), (0, b), (0, 2), (0, 4)]) (S' := []) r_205_83 rfl rfl rfl ?_
                                      refine gx_st (L' := [(2, 192), (0, w), (0, b), (0, 2), (0, 4)]) (S' := [(0, 4)]) r_205_32 rfl rfl rfl ?_
                                      refine gx_st (L' := [(2, 192), (0, w), (0, b), (0, 2), (0, 4)]) (S' := [(0, 4), (0, 4)]) r_205_34 rfl rfl rfl ?_
                                      refine gx_ic (P := 4 ≤ 4) r_205_35 (rfl) (fun h35 => ?_) (fun h35 => ?_)
                                      · refine gx_st (L' := [(2, 192), (0, w), (0, b), (0, 2), (0, 4)]) (S' := [(0, 2)]) r_205_86 rfl rfl rfl ?_
                                        exact gx_rt r_205_87 rfl rfl ⟨_, rfl, RestV_c ⟨fun _ => rest_s (by omega), fun z => by omega⟩, rfl⟩
                                      · omega
                                    · have h67 := Decidable.not_not.mp h67
                                      refine gx_st (L' := [(2, 192), (0, w), (0, b), (0, 2), (0, 3)]) (S' := [(0, 1), (0, 2)]) r_205_70 rfl rfl rfl ?_
                                      refine gx_st (L' := [(2, 192), (0, w), (0, b), (0, 2), (0, 3)]) (S' := [(0, 3), (0, 1), (0, 2)]) r_205_71 rfl rfl rfl ?_
                                      refine gx_st (L' := [(2, 192), (0, w), (0, b), (0, 2), (0, 3)]) (S' := [(0, (ishl 1 3)), (0, 2)]) r_205_73 rfl rfl rfl ?_
                                      rw [show (ishl 1 3) = 8 from by decide]
                                      refine gx_st (L' := [(2, 192), (0, w), (0, b), (0, 2), (0, 3)]) (S' := [(0, 8), (0, 2)]) r_205_74 rfl rfl rfl ?_
                                      refine gx_st (L' := [(2, 192), (0, w), (0, b), (0, 2), (0, 3)]) (S' := [(0, (ior 2 8))]) r_205_78 rfl rfl rfl ?_
                                      rw [show (ior 2 8) = 10 from by decide]
                                      refine gx_st (L' := [(2, 192), (0, w), (0, b), (0, 10), (0, 3)]) (S' := []) r_205_79 rfl rfl rfl ?_
                                      refine gx_li (z := 4) (L' := [(2, 192), (0, w), (0, b), (0, 10), (0, 4)]) r_205_80 rfl (w32_eq (by omega) (by omega) (by omega)) rfl ?_
                                      refine gx_st (L' := [(2, 192), (0, w), (0, b), (0, 10), (0, 4)]) (S' := []) r_205_83 rfl rfl rfl ?_
                                      refine gx_st (L' := [(2, 192), (0, w), (0, b), (0, 10), (0, 4)]) (S' := [(0, 4)]) r_205_32 rfl rfl rfl ?_
                                      refine gx_st (L' := [(2, 192), (0, w), (0, b), (0, 10), (0, 4)]) (S' := [(0, 4), (0, 4)]) r_205_34 rfl rfl rfl ?_
                                      refine gx_ic (P := 4 ≤ 4) r_205_35 (rfl) (fun h35 => ?_) (fun h35 => ?_)
                                      · refine gx_st (L' := [(2, 192), (0, w), (0, b), (0, 10), (0, 4)]) (S' := [(0, 10)]) r_205_86 rfl rfl rfl ?_
                                        exact gx_rt r_205_87 rfl rfl ⟨_, rfl, RestV_c ⟨fun _ => rest_s (by omega), fun z => by omega⟩, rfl⟩
                                      · omega
                                  · have h54 := Decidable.not_not.mp h54
                                    refine gx_st (L' := [(2, 192), (0, w), (0, b), (0, 2), (0, 3)]) (S' := [(0, 1), (0, 0), (0, 2)]) r_205_57 rfl rfl rfl ?_
                                    refine gx_st (L' := [(2, 192), (0, w), (0, b), (0, 2), (0, 3)]) (S' := [(0, 1), (0, 0), (0, 2)]) r_205_58 rfl rfl rfl ?_
                                    refine gx_st (L' := [(2, 192), (0, w), (0, b), (0, 2), (0, 3)]) (S' := [(0, w), (0, 1), (0, 0), (0, 2)]) r_205_62 rfl rfl rfl ?_
                                    refine gx_st (L' := [(2, 192), (0, w), (0, b), (0, 2), (0, 3)]) (S' := [(0, b), (0, w), (0, 1), (0, 0), (0, 2)]) r_205_63 rfl rfl rfl ?_
                                    refine gx_ci (nx := 67) (S2 := [(0, 2)]) (x_204_01 w b hw hb) r_205_64 rfl rfl rfl rfl rfl rfl rfl (by decide) rfl (fun x64 n64 q64 => ?_)
                                    obtain rfl := q64.1.symm
                                    obtain rfl := q64.2.symm
                                    show GX T 2 205 67 [(2, 192), (0, w), (0, b), (0, 2), (0, 3)] [(0, (if w ≤ 1 ∧ b / 2 ≤ 1 then 1 else 0)), (0, 2)] m (RI (fun v m1 => v = RestV w b ∧ m1 = m))
                                    refine gx_i0 (P := ¬ (w ≤ 1 ∧ b / 2 ≤ 1)) r_205_67 (b01_eq) (fun h67 => ?_) (fun h67 => ?_)
                                    · refine gx_st (L' := [(2, 192), (0, w), (0, b), (0, 2), (0, 3)]) (S' := [(0, 0), (0, 2)]) r_205_77 rfl rfl rfl ?_
                                      refine gx_st (L' := [(2, 192), (0, w), (0, b), (0, 2), (0, 3)]) (S' := [(0, (ior 2 0))]) r_205_78 rfl rfl rfl ?_
                                      rw [show (ior 2 0) = 2 from by decide]
                                      refine gx_st (L' := [(2, 192), (0, w), (0, b), (0, 2), (0, 3)]) (S' := []) r_205_79 rfl rfl rfl ?_
                                      refine gx_li (z := 4) (L' := [(2, 192), (0, w), (0, b), (0, 2), (0, 4)]) r_205_80 rfl (w32_eq (by omega) (by omega) (by omega)) rfl ?_
                                      refine gx_st (L' := [(2, 192), (0, w), (0, b), (0, 2), (0, 4)]) (S' := []) r_205_83 rfl rfl rfl ?_
                                      refine gx_st (L' := [(2, 192), (0, w), (0, b), (0, 2), (0, 4)]) (S' := [(0, 4)]) r_205_32 rfl rfl rfl ?_
                                      refine gx_st (L' := [(2, 192), (0, w), (0, b), (0, 2), (0, 4)]) (S' := [(0, 4), (0, 4)]) r_205_34 rfl rfl rfl ?_
                                      refine gx_ic (P := 4 ≤ 4) r_205_35 (rfl) (fun h35 => ?_) (fun h35 => ?_)
                                      · refine gx_st (L' := [(2, 192), (0, w), (0, b), (0, 2), (0, 4)]) (S' := [(0, 2)]) r_205_86 rfl rfl rfl ?_
                                        exact gx_rt r_205_87 rfl rfl ⟨_, rfl, RestV_c ⟨fun _ => rest_s (by omega), fun z => by omega⟩, rfl⟩
                                      · omega
                                    · have h67 := Decidable.not_not.mp h67
                                      refine gx_st (L' := [(2, 192), (0, w), (0, b), (0, 2), (0, 3)]) (S' := [(0, 1), (0, 2)]) r_205_70 rfl rfl rfl ?_
                                      refine gx_st (L' := [(2, 192), (0, w), (0, b), (0, 2), (0, 3)]) (S' := [(0, 3), (0, 1), (0, 2)]) r_205_71 rfl rfl rfl ?_
                                      refine gx_st (L' := [(2, 192), (0, w), (0, b), (0, 2), (0, 3)]) (S' := [(0, (ishl 1 3)), (0, 2)]) r_205_73 rfl rfl rfl ?_
                                      rw [show (ishl 1 3) = 8 from by decide]
                                      refine gx_st (L' := [(2, 192), (0, w), (0, b), (0, 2), (0, 3)]) (S' := [(0, 8), (0, 2)]) r_205_74 rfl rfl rfl ?_
                                      refine gx_st (L' := [(2, 192), (0, w), (0, b), (0, 2), (0, 3)]) (S' := [(0, (ior 2 8))]) r_205_78 rfl rfl rfl ?_
                                      rw [show (ior 2 8) = 10 from by decide]
                                      refine gx_st (L' := [(2, 192), (0, w), (0, b), (0, 10), (0, 3)]) (S' := []) r_205_79 rfl rfl rfl ?_
                                      refine gx_li (z := 4) (L' := [(2, 192), (0, w), (0, b), (0, 10), (0, 4)]) r_205_80 rfl (w32_eq (by omega) (by omega) (by omega)) rfl ?_
                                      refine gx_st (L' := [(2, 192), (0, w), (0, b), (0, 10), (0, 4)]) (S' := []) r_205_83 rfl rfl rfl ?_
                                      refine gx_st (L' := [(2, 192), (0, w), (0, b), (0, 10), (0, 4)]) (S' := [(0, 4)]) r_205_32 rfl rfl rfl ?_
                                      refine gx_st (L' := [(2, 192), (0, w), (0, b), (0, 10), (0, 4)]) (S' := [(0, 4), (0, 4)]) r_205_34 rfl rfl rfl ?_
                                      refine gx_ic (P := 4 ≤ 4) r_205_35 (rfl) (fun h35 => ?_) (fun h35 => ?_)
                                      · refine gx_st (L' := [(2, 192), (0, w), (0, b), (0, 10), (0, 4)]) (S' := [(0, 10)]) r_205_86 rfl rfl rfl ?_
                                        exact gx_rt r_205_87 rfl rfl ⟨_, rfl, RestV_c ⟨fun _ => rest_s (by omega), fun z => by omega⟩, rfl⟩
                                      · omega
                                · omega
                            · have h67 := Decidable.not_not.mp h67
                              refine gx_st (L' := [(2, 192), (0, w), (0, b), (0, 2), (0, 2)]) (S' := [(0, 1), (0, 2)]) r_205_70 rfl rfl rfl ?_
                              refine gx_st (L' := [(2, 192), (0, w), (0, b), (0, 2), (0, 2)]) (S' := [(0, 2), (0, 1), (0, 2)]) r_205_71 rfl rfl rfl ?_
                              refine gx_st (L' := [(2, 192), (0, w), (0, b), (0, 2), (0, 2)]) (S' := [(0, (ishl 1 2)), (0, 2)]) r_205_73 rfl rfl rfl ?_
                              rw [show (ishl 1 2) = 4 from by decide]
                              refine gx_st (L' := [(2, 192), (0, w), (0, b), (0, 2), (0, 2)]) (S' := [(0, 4), (0, 2)]) r_205_74 rfl rfl rfl ?_
                              refine gx_st (L' := [(2, 192), (0, w), (0, b), (0, 2), (0, 2)]) (S' := [(0, (ior 2 4))]) r_205_78 rfl rfl rfl ?_
                              rw [show (ior 2 4) = 6 from by decide]
                              refine gx_st (L' := [(2, 192), (0, w), (0, b), (0, 6), (0, 2)]) (S' := []) r_205_79 rfl rfl rfl ?_
                              refine gx_li (z := 3) (L' := [(2, 192), (0, w), (0, b), (0, 6), (0, 3)]) r_205_80 rfl (w32_eq (by omega) (by omega) (by omega)) rfl ?_
                              refine gx_st (L' := [(2, 192), (0, w), (0, b), (0, 6), (0, 3)]) (S' := []) r_205_83 rfl rfl rfl ?_
                              refine gx_st (L' := [(2, 192), (0, w), (0, b), (0, 6), (0, 3)]) (S' := [(0, 3)]) r_205_32 rfl rfl rfl ?_
                              refine gx_st (L' := [(2, 192), (0, w), (0, b), (0, 6), (0, 3)]) (S' := [(0, 4), (0, 3)]) r_205_34 rfl rfl rfl ?_
                              refine gx_ic (P := 4 ≤ 3) r_205_35 (rfl) (fun h35 => ?_) (fun h35 => ?_)
                              · omega
                              · refine gx_st (L' := [(2, 192), (0, w), (0, b), (0, 6), (0, 3)]) (S' := [(0, 6)]) r_205_38 rfl rfl rfl ?_
                                refine gx_st (L' := [(2, 192), (0, w), (0, b), (0, 6), (0, 3)]) (S' := [(0, 3), (0, 6)]) r_205_39 rfl rfl rfl ?_
                                refine gx_st (L' := [(2, 192), (0, w), (0, b), (0, 6), (0, 3)]) (S' := [(0, 2), (0, 3), (0, 6)]) r_205_41 rfl rfl rfl ?_
                                refine gx_ic (P := 2 ≤ 3) r_205_42 (rfl) (fun h42 => ?_) (fun h42 => ?_)
                                · refine gx_st (L' := [(2, 192), (0, w), (0, b), (0, 6), (0, 3)]) (S' := [(0, 0), (0, 6)]) r_205_49 rfl rfl rfl ?_
                                  refine gx_st (L' := [(2, 192), (0, w), (0, b), (0, 6), (0, 3)]) (S' := [(0, 3), (0, 0), (0, 6)]) r_205_50 rfl rfl rfl ?_
                                  refine gx_st (L' := [(2, 192), (0, w), (0, b), (0, 6), (0, 3)]) (S' := [(0, 2), (0, 3), (0, 0), (0, 6)]) r_205_52 rfl rfl rfl ?_
                                  refine gx_rm (z := (3 % 2)) r_205_53 (by decide) (tm_eq (by omega) rfl) ?_
                                  refine gx_i0 (P := ¬ (3 % 2) = 0) r_205_54 (rfl) (fun h54 => ?_) (fun h54 => ?_)
                                  · refine gx_st (L' := [(2, 192), (0, w), (0, b), (0, 6), (0, 3)]) (S' := [(0, 0), (0, 0), (0, 6)]) r_205_61 rfl rfl rfl ?_
                                    refine gx_st (L' := [(2, 192), (0, w), (0, b), (0, 6), (0, 3)]) (S' := [(0, w), (0, 0), (0, 0), (0, 6)]) r_205_62 rfl rfl rfl ?_
                                    refine gx_st (L' := [(2, 192), (0, w), (0, b), (0, 6), (0, 3)]) (S' := [(0, b), (0, w), (0, 0), (0, 0), (0, 6)]) r_205_63 rfl rfl rfl ?_
                                    refine gx_ci (nx := 67) (S2 := [(0, 6)]) (x_204_00 w b hw hb) r_205_64 rfl rfl rfl rfl rfl rfl rfl (by decide) rfl (fun x64 n64 q64 => ?_)
                                    obtain rfl := q64.1.symm
                                    obtain rfl := q64.2.symm
                                    show GX T 2 205 67 [(2, 192), (0, w), (0, b), (0, 6), (0, 3)] [(0, (if 1 ≤ b / 2 then 1 else 0)), (0, 6)] m (RI (fun v m1 => v = RestV w b ∧ m1 = m))
                                    refine gx_i0 (P := ¬ (1 ≤ b / 2)) r_205_67 (b01_eq) (fun h67 => ?_) (fun h67 => ?_)
                                    · refine gx_st (L' := [(2, 192), (0, w), (0, b), (0, 6), (0, 3)]) (S' := [(0, 0), (0, 6)]) r_205_77 rfl rfl rfl ?_
                                      refine gx_st (L' := [(2, 192), (0, w), (0, b), (0, 6), (0, 3)]) (S' := [(0, (ior 6 0))]) r_205_78 rfl rfl rfl ?_
                                      rw [show (ior 6 0) = 6 from by decide]
                                      refine gx_st (L' := [(2, 192), (0, w), (0, b), (0, 6), (0, 3)]) (S' := []) r_205_79 rfl rfl rfl ?_
                                      refine gx_li (z := 4) (L' := [(2, 192), (0, w), (0, b), (0, 6), (0, 4)]) r_205_80 rfl (w32_eq (by omega) (by omega) (by omega)) rfl ?_
                                      refine gx_st (L' := [(2, 192), (0, w), (0, b), (0, 6), (0, 4)]) (S' := []) r_205_83 rfl rfl rfl ?_
                                      refine gx_st (L' := [(2, 192), (0, w), (0, b), (0, 6), (0, 4)]) (S' := [(0, 4)]) r_205_32 rfl rfl rfl ?_
                                      refine gx_st (L' := [(2, 192), (0, w), (0, b), (0, 6), (0, 4)]) (S' := [(0, 4), (0, 4)]) r_205_34 rfl rfl rfl ?_
                                      refine gx_ic (P := 4 ≤ 4) r_205_35 (rfl) (fun h35 => ?_) (fun h35 => ?_)
                                      · refine gx_st (L' := [(2, 192), (0, w), (0, b), (0, 6), (0, 4)]) (S' := [(0, 6)]) r_205_86 rfl rfl rfl ?_
                                        exact gx_rt r_205_87 rfl rfl ⟨_, rfl, RestV_c ⟨fun _ => rest_s (by omega), fun z => by omega⟩, rfl⟩
                                      · omega
                                    · have h67 := Decidable.not_not.mp h67
                                      refine gx_st (L' := [(2, 192), (0, w), (0, b), (0, 6), (0, 3)]) (S' := [(0, 1), (0, 6)]) r_205_70 rfl rfl rfl ?_
                                      refine gx_st (L' := [(2, 192), (0, w), (0, b), (0, 6), (0, 3)]) (S' := [(0, 3), (0, 1), (0, 6)]) r_205_71 rfl rfl rfl ?_
                                      refine gx_st (L' := [(2, 192), (0, w), (0, b), (0, 6), (0, 3)]) (S' := [(0, (ishl 1 3)), (0, 6)]) r_205_73 rfl rfl rfl ?_
                                      rw [show (ishl 1 3) = 8 from by decide]
                                      refine gx_st (L' := [(2, 192), (0, w), (0, b), (0, 6), (0, 3)]) (S' := [(0, 8), (0, 6)]) r_205_74 rfl rfl rfl ?_
                                      refine gx_st (L' := [(2, 192), (0, w), (0, b), (0, 6), (0, 3)]) (S' := [(0, (ior 6 8))]) r_205_78 rfl rfl rfl ?_
                                      rw [show (ior 6 8) = 14 from by decide]
                                      refine gx_st (L' := [(2, 192), (0, w), (0, b), (0, 14), (0, 3)]) (S' := []) r_205_79 rfl rfl rfl ?_
                                      refine gx_li (z := 4) (L' := [(2, 192), (0, w), (0, b), (0, 14), (0, 4)]) r_205_80 rfl (w32_eq (by omega) (by omega) (by omega)) rfl ?_
                                      refine gx_st (L' := [(2, 192), (0, w), (0, b), (0, 14), (0, 4)]) (S' := []) r_205_83 rfl rfl rfl ?_
                                      refine gx_st (L' := [(2, 192), (0, w), (0, b), (0, 14), (0, 4)]) (S' := [(0, 4)]) r_205_32 rfl rfl rfl ?_
                                      refine gx_st (L' := [(2, 192), (0, w), (0, b), (0, 14), (0, 4)]) (S' := [(0, 4), (0, 4)]) r_205_34 rfl rfl rfl ?_
                                      refine gx_ic (P := 4 ≤ 4) r_205_35 (rfl) (fun h35 => ?_) (fun h35 => ?_)
                                      · refine gx_st (L' := [(2, 192), (0, w), (0, b), (0, 14), (0, 4)]) (S' := [(0, 14)]) r_205_86 rfl rfl rfl ?_
                                        exact gx_rt r_205_87 rfl rfl ⟨_, rfl, RestV_c ⟨fun _ => rest_s (by omega), fun z => by omega⟩, rfl⟩
                                      · omega
                                  · have h54 := Decidable.not_not.mp h54
                                    refine gx_st (L' := [(2, 192), (0, w), (0, b), (0, 6), (0, 3)]) (S' := [(0, 1), (0, 0), (0, 6)]) r_205_57 rfl rfl rfl ?_
                                    refine gx_st (L' := [(2, 192), (0, w), (0, b), (0, 6), (0, 3)]) (S' := [(0, 1), (0, 0), (0, 6)]) r_205_58 rfl rfl rfl ?_
                                    refine gx_st (L' := [(2, 192), (0, w), (0, b), (0, 6), (0, 3)]) (S' := [(0, w), (0, 1), (0, 0), (0, 6)]) r_205_62 rfl rfl rfl ?_
                                    refine gx_st (L' := [(2, 192), (0, w), (0, b), (0, 6), (0, 3)]) (S' := [(0, b), (0, w), (0, 1), (0, 0), (0, 6)]) r_205_63 rfl rfl rfl ?_
                                    refine gx_ci (nx := 67) (S2 := [(0, 6)]) (x_204_01 w b hw hb) r_205_64 rfl rfl rfl rfl rfl rfl rfl (by decide) rfl (fun x64 n64 q64 => ?_)
                                    obtain rfl := q64.1.symm
                                    obtain rfl := q64.2.symm
                                    show GX T 2 205 67 [(2, 192), (0, w), (0, b), (0, 6), (0, 3)] [(0, (if w ≤ 1 ∧ b / 2 ≤ 1 then 1 else 0)), (0, 6)] m (RI (fun v m1 => v = RestV w b ∧ m1 = m))
                                    refine gx_i0 (P := ¬ (w ≤ 1 ∧ b / 2 ≤ 1)) r_205_67 (b01_eq) (fun h67 => ?_) (fun h67 => ?_)
                                    · refine gx_st (L' := [(2, 192), (0, w), (0, b), (0, 6), (0, 3)]) (S' := [(0, 0), (0, 6)]) r_205_77 rfl rfl rfl ?_
                                      refine gx_st (L' := [(2, 192), (0, w), (0, b), (0, 6), (0, 3)]) (S' := [(0, (ior 6 0))]) r_205_78 rfl rfl rfl ?_
                                      rw [show (ior 6 0) = 6 from by decide]
                                      refine gx_st (L' := [(2, 192), (0, w), (0, b), (0, 6), (0, 3)]) (S' := []) r_205_79 rfl rfl rfl ?_
                                      refine gx_li (z := 4) (L' := [(2, 192), (0, w), (0, b), (0, 6), (0, 4)]) r_205_80 rfl (w32_eq (by omega) (by omega) (by omega)) rfl ?_
                                      refine gx_st (L' := [(2, 192), (0, w), (0, b), (0, 6), (0, 4)]) (S' := []) r_205_83 rfl rfl rfl ?_
                                      refine gx_st (L' := [(2, 192), (0, w), (0, b), (0, 6), (0, 4)]) (S' := [(0, 4)]) r_205_32 rfl rfl rfl ?_
                                      refine gx_st (L' := [(2, 192), (0, w), (0, b), (0, 6), (0, 4)]) (S' := [(0, 4), (0, 4)]) r_205_34 rfl rfl rfl ?_
                                      refine gx_ic (P := 4 ≤ 4) r_205_35 (rfl) (fun h35 => ?_) (fun h35 => ?_)
                                      · refine gx_st (L' := [(2, 192), (0, w), (0, b), (0, 6), (0, 4)]) (S' := [(0, 6)]) r_205_86 rfl rfl rfl ?_
                                        exact gx_rt r_205_87 rfl rfl ⟨_, rfl, RestV_c ⟨fun _ => rest_s (by omega), fun z => by omega⟩, rfl⟩
                                      · omega
                                    · have h67 := Decidable.not_not.mp h67
                                      refine gx_st (L' := [(2, 192), (0, w), (0, b), (0, 6), (0, 3)]) (S' := [(0, 1), (0, 6)]) r_205_70 rfl rfl rfl ?_
                                      refine gx_st (L' := [(2, 192), (0, w), (0, b), (0, 6), (0, 3)]) (S' := [(0, 3), (0, 1), (0, 6)]) r_205_71 rfl rfl rfl ?_
                                      refine gx_st (L' := [(2, 192), (0, w), (0, b), (0, 6), (0, 3)]) (S' := [(0, (ishl 1 3)), (0, 6)]) r_205_73 rfl rfl rfl ?_
                                      rw [show (ishl 1 3) = 8 from by decide]
                                      refine gx_st (L' := [(2, 192), (0, w), (0, b), (0, 6), (0, 3)]) (S' := [(0, 8), (0, 6)]) r_205_74 rfl rfl rfl ?_
                                      refine gx_st (L' := [(2, 192), (0, w), (0, b), (0, 6), (0, 3)]) (S' := [(0, (ior 6 8))]) r_205_78 rfl rfl rfl ?_
                                      rw [show (ior 6 8) = 14 from by decide]
                                      refine gx_st (L' := [(2, 192), (0, w), (0, b), (0, 14), (0, 3)]) (S' := []) r_205_79 rfl rfl rfl ?_
                                      refine gx_li (z := 4) (L' := [(2, 192), (0, w), (0, b), (0, 14), (0, 4)]) r_205_80 rfl (w32_eq (by omega) (by omega) (by omega)) rfl ?_
                                      refine gx_st (L' := [(2, 192), (0, w), (0, b), (0, 14), (0, 4)]) (S' := []) r_205_83 rfl rfl rfl ?_
                                      refine gx_st (L' := [(2, 192), (0, w), (0, b), (0, 14), (0, 4)]) (S' := [(0, 4)]) r_205_32 rfl rfl rfl ?_
                                      refine gx_st (L' := [(2, 192), (0, w), (0, b), (0, 14), (0, 4)]) (S' := [(0, 4), (0, 4)]) r_205_34 rfl rfl rfl ?_
                                      refine gx_ic (P := 4 ≤ 4) r_205_35 (rfl) (fun h35 => ?_) (fun h35 => ?_)
                                      · refine gx_st (L' := [(2, 192), (0, w), (0, b), (0, 14), (0, 4)]) (S' := [(0, 14)]) r_205_86 rfl rfl rfl ?_
                                        exact gx_rt r_205_87 rfl rfl ⟨_, rfl, RestV_c ⟨fun _ => rest_s (by omega), fun z => by omega⟩, rfl⟩
                                      · omega
                                · omega
                          · have h54 := Decidable.not_not.mp h54
                            refine gx_st (L' := [(2, 192), (0, w), (0, b), (0, 2), (0, 2)]) (S' := [(0, 1), (0, 0), (0, 2)]) r_205_57 rfl rfl rfl ?_
                            refine gx_st (L' := [(2, 192), (0, w), (0, b), (0, 2), (0, 2)]) (S' := [(0, 1), (0, 0), (0, 2)]) r_205_58 rfl rfl rfl ?_
                            refine gx_st (L' := [(2, 192), (0, w), (0, b), (0, 2), (0, 2)]) (S' := [(0, w), (0, 1), (0, 0), (0, 2)]) r_205_62 rfl rfl rfl ?_
                            refine gx_st (L' := [(2, 192), (0, w), (0, b), (0, 2), (0, 2)]) (S' := [(0, b), (0, w), (0, 1), (0, 0), (0, 2)]) r_205_63 rfl rfl rfl ?_
                            refine gx_ci (nx := 67) (S2 := [(0, 2)]) (x_204_01 w b hw hb) r_205_64 rfl rfl rfl rfl rfl rfl rfl (by decide) rfl (fun x64 n64 q64 => ?_)
                            obtain rfl := q64.1.symm
                            obtain rfl := q64.2.symm
                            show GX T 2 205 67 [(2, 192), (0, w), (0, b), (0, 2), (0, 2)] [(0, (if w ≤ 1 ∧ b / 2 ≤ 1 then 1 else 0)), (0, 2)] m (RI (fun v m1 => v = RestV w b ∧ m1 = m))
                            refine gx_i0 (P := ¬ (w ≤ 1 ∧ b / 2 ≤ 1)) r_205_67 (b01_eq) (fun h67 => ?_) (fun h67 => ?_)
                            · refine gx_st (L' := [(2, 192), (0, w), (0, b), (0, 2), (0, 2)]) (S' := [(0, 0), (0, 2)]) r_205_77 rfl rfl rfl ?_
                              refine gx_st (L' := [(2, 192), (0, w), (0, b), (0, 2), (0, 2)]) (S' := [(0, (ior 2 0))]) r_205_78 rfl rfl rfl ?_
                              rw [show (ior 2 0) = 2 from by decide]
                              refine gx_st (L' := [(2, 192), (0, w), (0, b), (0, 2), (0, 2)]) (S' := []) r_205_79 rfl rfl rfl ?_
                              refine gx_li (z := 3) (L' := [(2, 192), (0, w), (0, b), (0, 2), (0, 3)]) r_205_80 rfl (w32_eq (by omega) (by omega) (by omega)) rfl ?_
                              refine gx_st (L' := [(2, 192), (0, w), (0, b), (0, 2), (0, 3)]) (S' := []) r_205_83 rfl rfl rfl ?_
                              refine gx_st (L' := [(2, 192), (0, w), (0, b), (0, 2), (0, 3)]) (S' := [(0, 3)]) r_205_32 rfl rfl rfl ?_
                              refine gx_st (L' := [(2, 192), (0, w), (0, b), (0, 2), (0, 3)]) (S' := [(0, 4), (0, 3)]) r_205_34 rfl rfl rfl ?_
                              refine gx_ic (P := 4 ≤ 3) r_205_35 (rfl) (fun h35 => ?_) (fun h35 => ?_)
                              · omega
                              · refine gx_st (L' := [(2, 192), (0, w), (0, b), (0, 2), (0, 3)]) (S' := [(0, 2)]) r_205_38 rfl rfl rfl ?_
                                refine gx_st (L' := [(2, 192), (0, w), (0, b), (0, 2), (0, 3)]) (S' := [(0, 3), (0, 2)]) r_205_39 rfl rfl rfl ?_
                                refine gx_st (L' := [(2, 192), (0, w), (0, b), (0, 2), (0, 3)]) (S' := [(0, 2), (0, 3), (0, 2)]) r_205_41 rfl rfl rfl ?_
                                refine gx_ic (P := 2 ≤ 3) r_205_42 (rfl) (fun h42 => ?_) (fun h42 => ?_)
                                · refine gx_st (L' := [(2, 192), (0, w), (0, b), (0, 2), (0, 3)]) (S' := [(0, 0), (0, 2)]) r_205_49 rfl rfl rfl ?_
                                  refine gx_st (L' := [(2, 192), (0, w), (0, b), (0, 2), (0, 3)]) (S' := [(0, 3), (0, 0), (0, 2)]) r_205_50 rfl rfl rfl ?_
                                  refine gx_st (L' := [(2, 192), (0, w), (0, b), (0, 2), (0, 3)]) (S' := [(0, 2), (0, 3), (0, 0), (0, 2)]) r_205_52 rfl rfl rfl ?_
                                  refine gx_rm (z := (3 % 2)) r_205_53 (by decide) (tm_eq (by omega) rfl) ?_
                                  refine gx_i0 (P := ¬ (3 % 2) = 0) r_205_54 (rfl) (fun h54 => ?_) (fun h54 => ?_)
                                  · refine gx_st (L' := [(2, 192), (0, w), (0, b), (0, 2), (0, 3)]) (S' := [(0, 0), (0, 0), (0, 2)]) r_205_61 rfl rfl rfl ?_
                                    refine gx_st (L' := [(2, 192), (0, w), (0, b), (0, 2), (0, 3)]) (S' := [(0, w), (0, 0), (0, 0), (0, 2)]) r_205_62 rfl rfl rfl ?_
                                    refine gx_st (L' := [(2, 192), (0, w), (0, b), (0, 2), (0, 3)]) (S' := [(0, b), (0, w), (0, 0), (0, 0), (0, 2)]) r_205_63 rfl rfl rfl ?_
                                    refine gx_ci (nx := 67) (S2 := [(0, 2)]) (x_204_00 w b hw hb) r_205_64 rfl rfl rfl rfl rfl rfl rfl (by decide) rfl (fun x64 n64 q64 => ?_)
                                    obtain rfl := q64.1.symm
                                    obtain rfl := q64.2.symm
                                    show GX T 2 205 67 [(2, 192), (0, w), (0, b), (0, 2), (0, 3)] [(0, (if 1 ≤ b / 2 then 1 else 0)), (0, 2)] m (RI (fun v m1 => v = RestV w b ∧ m1 = m))
                                    refine gx_i0 (P := ¬ (1 ≤ b / 2)) r_205_67 (b01_eq) (fun h67 => ?_) (fun h67 => ?_)
                                    · refine gx_st (L' := [(2, 192), (0, w), (0, b), (0, 2), (0, 3)]) (S' := [(0, 0), (0, 2)]) r_205_77 rfl rfl rfl ?_
                                      refine gx_st (L' := [(2, 192), (0, w), (0, b), (0, 2), (0, 3)]) (S' := [(0, (ior 2 0))]) r_205_78 rfl rfl rfl ?_
                                      rw [show (ior 2 0) = 2 from by decide]
                                      refine gx_st (L' := [(2, 192), (0, w), (0, b), (0, 2), (0, 3)]) (S' := []) r_205_79 rfl rfl rfl ?_
                                      refine gx_li (z := 4) (L' := [(2, 192), (0, w), (0, b), (0, 2), (0, 4)]) r_205_80 rfl (w32_eq (by omega) (by omega) (by omega)) rfl ?_
                                      refine gx_st (L' := [(2, 192), (0, w), (0, b), (0, 2), (0, 4)]) (S' := []) r_205_83 rfl rfl rfl ?_
                                      refine gx_st (L' := [(2, 192), (0, w), (0, b), (0, 2), (0, 4)]) (S' := [(0, 4)]) r_205_32 rfl rfl rfl ?_
                                      refine gx_st (L' := [(2, 192), (0, w), (0, b), (0, 2), (0, 4)]) (S' := [(0, 4), (0, 4)]) r_205_34 rfl rfl rfl ?_
                                      refine gx_ic (P := 4 ≤ 4) r_205_35 (rfl) (fun h35 => ?_) (fun h35 => ?_)
                                      · refine gx_st (L' := [(2, 192), (0, w), (0, b), (0, 2), (0, 4)]) (S' := [(0, 2)]) r_205_86 rfl rfl rfl ?_
                                        exact gx_rt r_205_87 rfl rfl ⟨_, rfl, RestV_c ⟨fun _ => rest_s (by omega), fun z => by omega⟩, rfl⟩
                                      · omega
                                    · have h67 := Decidable.not_not.mp h67
                                      refine gx_st (L' := [(2, 192), (0, w), (0, b), (0, 2), (0, 3)]) (S' := [(0, 1), (0, 2)]) r_205_70 rfl rfl rfl ?_
                                      refine gx_st (L' := [(2, 192), (0, w), (0, b), (0, 2), (0, 3)]) (S' := [(0, 3), (0, 1), (0, 2)]) r_205_71 rfl rfl rfl ?_
                                      refine gx_st (L' := [(2, 192), (0, w), (0, b), (0, 2), (0, 3)]) (S' := [(0, (ishl 1 3)), (0, 2)]) r_205_73 rfl rfl rfl ?_
                                      rw [show (ishl 1 3) = 8 from by decide]
                                      refine gx_st (L' := [(2, 192), (0, w), (0, b), (0, 2), (0, 3)]) (S' := [(0, 8), (0, 2)]) r_205_74 rfl rfl rfl ?_
                                      refine gx_st (L' := [(2, 192), (0, w), (0, b), (0, 2), (0, 3)]) (S' := [(0, (ior 2 8))]) r_205_78 rfl rfl rfl ?_
                                      rw [show (ior 2 8) = 10 from by decide]
                                      refine gx_st (L' := [(2, 192), (0, w), (0, b), (0, 10), (0, 3)]) (S' := []) r_205_79 rfl rfl rfl ?_
                                      refine gx_li (z := 4) (L' := [(2, 192), (0, w), (0, b), (0, 10), (0, 4)]) r_205_80 rfl (w32_eq (by omega) (by omega) (by omega)) rfl ?_
                                      refine gx_st (L' := [(2, 192), (0, w), (0, b), (0, 10), (0, 4)]) (S' := []) r_205_83 rfl rfl rfl ?_
                                      refine gx_st (L' := [(2, 192), (0, w), (0, b), (0, 10), (0, 4)]) (S' := [(0, 4)]) r_205_32 rfl rfl rfl ?_
                                      refine gx_st (L' := [(2, 192), (0, w), (0, b), (0, 10), (0, 4)]) (S' := [(0, 4), (0, 4)]) r_205_34 rfl rfl rfl ?_
                                      refine gx_ic (P := 4 ≤ 4) r_205_35 (rfl) (fun h35 => ?_) (fun h35 => ?_)
                                      · refine gx_st (L' := [(2, 192), (0, w), (0, b), (0, 10), (0, 4)]) (S' := [(0, 10)]) r_205_86 rfl rfl rfl ?_
                                        exact gx_rt r_205_87 rfl rfl ⟨_, rfl, RestV_c ⟨fun _ => rest_s (by omega), fun z => by omega⟩, rfl⟩
                                      · omega
                                  · have h54 := Decidable.not_not.mp h54
                                    refine gx_st (L' := [(2, 192), (0, w), (0, b), (0, 2), (0, 3)]) (S' := [(0, 1), (0, 0), (0, 2)]) r_205_57 rfl rfl rfl ?_
                                    refine gx_st (L' := [(2, 192), (0, w), (0, b), (0, 2), (0, 3)]) (S' := [(0, 1), (0, 0), (0, 2)]) r_205_58 rfl rfl rfl ?_
                                    refine gx_st (L' := [(2, 192), (0, w), (0, b), (0, 2), (0, 3)]) (S' := [(0, w), (0, 1), (0, 0), (0, 2)]) r_205_62 rfl rfl rfl ?_
                                    refine gx_st (L' := [(2, 192), (0, w), (0, b), (0, 2), (0, 3)]) (S' := [(0, b), (0, w), (0, 1), (0, 0), (0, 2)]) r_205_63 rfl rfl rfl ?_
                                    refine gx_ci (nx := 67) (S2 := [(0, 2)]) (x_204_01 w b hw hb) r_205_64 rfl rfl rfl rfl rfl rfl rfl (by decide) rfl (fun x64 n64 q64 => ?_)
                                    obtain rfl := q64.1.symm
                                    obtain rfl := q64.2.symm
                                    show GX T 2 205 67 [(2, 192), (0, w), (0, b), (0, 2), (0, 3)] [(0, (if w ≤ 1 ∧ b / 2 ≤ 1 then 1 else 0)), (0, 2)] m (RI (fun v m1 => v = RestV w b ∧ m1 = m))
                                    refine gx_i0 (P := ¬ (w ≤ 1 ∧ b / 2 ≤ 1)) r_205_67 (b01_eq) (fun h67 => ?_) (fun h67 => ?_)
                                    · refine gx_st (L' := [(2, 192), (0, w), (0, b), (0, 2), (0, 3)]) (S' := [(0, 0), (0, 2)]) r_205_77 rfl rfl rfl ?_
                                      refine gx_st (L' := [(2, 192), (0, w), (0, b), (0, 2), (0, 3)]) (S' := [(0, (ior 2 0))]) r_205_78 rfl rfl rfl ?_
                                      rw [show (ior 2 0) = 2 from by decide]
                                      refine gx_st (L' := [(2, 192), (0, w), (0, b), (0, 2), (0, 3)]) (S' := []) r_205_79 rfl rfl rfl ?_
                                      refine gx_li (z := 4) (L' := [(2, 192), (0, w), (0, b), (0, 2), (0, 4)]) r_205_80 rfl (w32_eq (by omega) (by omega) (by omega)) rfl ?_
                                      refine gx_st (L' := [(2, 192), (0, w), (0, b), (0, 2), (0, 4)]) (S' := []) r_205_83 rfl rfl rfl ?_
                                      refine gx_st (L' := [(2, 192), (0, w), (0, b), (0, 2), (0, 4)]) (S' := [(0, 4)]) r_205_32 rfl rfl rfl ?_
                                      refine gx_st (L' := [(2, 192), (0, w), (0, b), (0, 2), (0, 4)]) (S' := [(0, 4), (0, 4)]) r_205_34 rfl rfl rfl ?_
                                      refine gx_ic (P := 4 ≤ 4) r_205_35 (rfl) (fun h35 => ?_) (fun h35 => ?_)
                                      · refine gx_st (L' := [(2, 192), (0, w), (0, b), (0, 2), (0, 4)]) (S' := [(0, 2)]) r_205_86 rfl rfl rfl ?_
                                        exact gx_rt r_205_87 rfl rfl ⟨_, rfl, RestV_c ⟨fun _ => rest_s (by omega), fun z => by omega⟩, rfl⟩
                                      · omega
                                    · have h67 := Decidable.not_not.mp h67
                                      refine gx_st (L' := [(2, 192), (0, w), (0, b), (0, 2), (0, 3)]) (S' := [(0, 1), (0, 2)]) r_205_70 rfl rfl rfl ?_
                                      refine gx_st (L' := [(2, 192), (0, w), (0, b), (0, 2), (0, 3)]) (S' := [(0, 3), (0, 1), (0, 2)]) r_205_71 rfl rfl rfl ?_
                                      refine gx_st (L' := [(2, 192), (0, w), (0, b), (0, 2), (0, 3)]) (S' := [(0, (ishl 1 3)), (0, 2)]) r_205_73 rfl rfl rfl ?_
                                      rw [show (ishl 1 3) = 8 from by decide]
                                      refine gx_st (L' := [(2, 192), (0, w), (0, b), (0, 2), (0, 3)]) (S' := [(0, 8), (0, 2)]) r_205_74 rfl rfl rfl ?_
                                      refine gx_st (L' := [(2, 192), (0, w), (0, b), (0, 2), (0, 3)]) (S' := [(0, (ior 2 8))]) r_205_78 rfl rfl rfl ?_
                                      rw [show (ior 2 8) = 10 from by decide]
                                      refine gx_st (L' := [(2, 192), (0, w), (0, b), (0, 10), (0, 3)]) (S' := []) r_205_79 rfl rfl rfl ?_
                                      refine gx_li (z := 4) (L' := [(2, 192), (0, w), (0, b), (0, 10), (0, 4)]) r_205_80 rfl (w32_eq (by omega) (by omega) (by omega)) rfl ?_
                                      refine gx_st (L' := [(2, 192), (0, w), (0, b), (0, 10), (0, 4)]) (S' := []) r_205_83 rfl rfl rfl ?_
                                      refine gx_st (L' := [(2, 192), (0, w), (0, b), (0, 10), (0, 4)]) (S' := [(0, 4)]) r_205_32 rfl rfl rfl ?_
                                      refine gx_st (L' := [(2, 192), (0, w), (0, b), (0, 10), (0, 4)]) (S' := [(0, 4), (0, 4)]) r_205_34 rfl rfl rfl ?_
                                      refine gx_ic (P := 4 ≤ 4) r_205_35 (rfl) (fun h35 => ?_) (fun h35 => ?_)
                                      · refine gx_st (L' := [(2, 192), (0, w), (0, b), (0, 10), (0, 4)]) (S' := [(0, 10)]) r_205_86 rfl rfl rfl ?_
                                        exact gx_rt r_205_87 rfl rfl ⟨_, rfl, RestV_c ⟨fun _ => rest_s (by omega), fun z => by omega⟩, rfl⟩
                                      · omega
                                · omega
                            · have h67 := Decidable.not_not.mp h67
                              refine gx_st (L' := [(2, 192), (0, w), (0, b), (0, 2), (0, 2)]) (S' := [(0, 1), (0, 2)]) r_205_70 rfl rfl rfl ?_
                              refine gx_st (L' := [(2, 192), (0, w), (0, b), (0, 2), (0, 2)]) (S' := [(0, 2), (0, 1), (0, 2)]) r_205_71 rfl rfl rfl ?_
                              refine gx_st (L' := [(2, 192), (0, w), (0, b), (0, 2), (0, 2)]) (S' := [(0, (ishl 1 2)), (0, 2)]) r_205_73 rfl rfl rfl ?_
                              rw [show (ishl 1 2) = 4 from by decide]
                              refine gx_st (L' := [(2, 192), (0, w), (0, b), (0, 2), (0, 2)]) (S' := [(0, 4), (0, 2)]) r_205_74 rfl rfl rfl ?_
                              refine gx_st (L' := [(2, 192), (0, w), (0, b), (0, 2), (0, 2)]) (S' := [(0, (ior 2 4))]) r_205_78 rfl rfl rfl ?_
                              rw [show (ior 2 4) = 6 from by decide]
                              refine gx_st (L' := [(2, 192), (0, w), (0, b), (0, 6), (0, 2)]) (S' := []) r_205_79 rfl rfl rfl ?_
                              refine gx_li (z := 3) (L' := [(2, 192), (0, w), (0, b), (0, 6), (0, 3)]) r_205_80 rfl (w32_eq (by omega) (by omega) (by omega)) rfl ?_
                              refine gx_st (L' := [(2, 192), (0, w), (0, b), (0, 6), (0, 3)]) (S' := []) r_205_83 rfl rfl rfl ?_
                              refine gx_st (L' := [(2, 192), (0, w), (0, b), (0, 6), (0, 3)]) (S' := [(0, 3)]) r_205_32 rfl rfl rfl ?_
                              refine gx_st (L' := [(2, 192), (0, w), (0, b), (0, 6), (0, 3)]) (S' := [(0, 4), (0, 3)]) r_205_34 rfl rfl rfl ?_
                              refine gx_ic (P := 4 ≤ 3) r_205_35 (rfl) (fun h35 => ?_) (fun h35 => ?_)
                              · omega
                              · refine gx_st (L' := [(2, 192), (0, w), (0, b), (0, 6), (0, 3)]) (S' := [(0, 6)]) r_205_38 rfl rfl rfl ?_
                                refine gx_st (L' := [(2, 192), (0, w), (0, b), (0, 6), (0, 3)]) (S' := [(0, 3), (0, 6)]) r_205_39 rfl rfl rfl ?_
                                refine gx_st (L' := [(2, 192), (0, w), (0, b), (0, 6), (0, 3)]) (S' := [(0, 2), (0, 3), (0, 6)]) r_205_41 rfl rfl rfl ?_
                                refine gx_ic (P := 2 ≤ 3) r_205_42 (rfl) (fun h42 => ?_) (fun h42 => ?_)
                                · refine gx_st (L' := [(2, 192), (0, w), (0, b), (0, 6), (0, 3)]) (S' := [(0, 0), (0, 6)]) r_205_49 rfl rfl rfl ?_
                                  refine gx_st (L' := [(2, 192), (0, w), (0, b), (0, 6), (0, 3)]) (S' := [(0, 3), (0, 0), (0, 6)]) r_205_50 rfl rfl rfl ?_
                                  refine gx_st (L' := [(2, 192), (0, w), (0, b), (0, 6), (0, 3)]) (S' := [(0, 2), (0, 3), (0, 0), (0, 6)]) r_205_52 rfl rfl rfl ?_
                                  refine gx_rm (z := (3 % 2)) r_205_53 (by decide) (tm_eq (by omega) rfl) ?_
                                  refine gx_i0 (P := ¬ (3 % 2) = 0) r_205_54 (rfl) (fun h54 => ?_) (fun h54 => ?_)
                                  · refine gx_st (L' := [(2, 192), (0, w), (0, b), (0, 6), (0, 3)]) (S' := [(0, 0), (0, 0), (0, 6)]) r_205_61 rfl rfl rfl ?_
                                    refine gx_st (L' := [(2, 192), (0, w), (0, b), (0, 6), (0, 3)]) (S' := [(0, w), (0, 0), (0, 0), (0, 6)]) r_205_62 rfl rfl rfl ?_
                                    refine gx_st (L' := [(2, 192), (0, w), (0, b), (0, 6), (0, 3)]) (S' := [(0, b), (0, w), (0, 0), (0, 0), (0, 6)]) r_205_63 rfl rfl rfl ?_
                                    refine gx_ci (nx := 67) (S2 := [(0, 6)]) (x_204_00 w b hw hb) r_205_64 rfl rfl rfl rfl rfl rfl rfl (by decide) rfl (fun x64 n64 q64 => ?_)
                                    obtain rfl := q64.1.symm
                                    obtain rfl := q64.2.symm
                                    show GX T 2 205 67 [(2, 192), (0, w), (0, b), (0, 6), (0, 3)] [(0, (if 1 ≤ b / 2 then 1 else 0)), (0, 6)] m (RI (fun v m1 => v = RestV w b ∧ m1 = m))
                                    refine gx_i0 (P := ¬ (1 ≤ b / 2)) r_205_67 (b01_eq) (fun h67 => ?_) (fun h67 => ?_)
                                    · refine gx_st (L' := [(2, 192), (0, w), (0, b), (0, 6), (0, 3)]) (S' := [(0, 0), (0, 6)]) r_205_77 rfl rfl rfl ?_
                                      refine gx_st (L' := [(2, 192), (0, w), (0, b), (0, 6), (0, 3)]) (S' := [(0, (ior 6 0))]) r_205_78 rfl rfl rfl ?_
                                      rw [show (ior 6 0) = 6 from by decide]
                                      refine gx_st (L' := [(2, 192), (0, w), (0, b), (0, 6), (0, 3)]) (S' := []) r_205_79 rfl rfl rfl ?_
                                      refine gx_li (z := 4) (L' := [(2, 192), (0, w), (0, b), (0, 6), (0, 4)]) r_205_80 rfl (w32_eq (by omega) (by omega) (by omega)) rfl ?_
                                      refine gx_st (L' := [(2, 192), (0, w), (0, b), (0, 6), (0, 4)]) (S' := []) r_205_83 rfl rfl rfl ?_
                                      refine gx_st (L' := [(2, 192), (0, w), (0, b), (0, 6), (0, 4)]) (S' := [(0, 4)]) r_205_32 rfl rfl rfl ?_
                                      refine gx_st (L' := [(2, 192), (0, w), (0, b), (0, 6), (0, 4)]) (S' := [(0, 4), (0, 4)]) r_205_34 rfl rfl rfl ?_
                                      refine gx_ic (P := 4 ≤ 4) r_205_35 (rfl) (fun h35 => ?_) (fun h35 => ?_)
                                      · refine gx_st (L' := [(2, 192), (0, w), (0, b), (0, 6), (0, 4)]) (S' := [(0, 6)]) r_205_86 rfl rfl rfl ?_
                                        exact gx_rt r_205_87 rfl rfl ⟨_, rfl, RestV_c ⟨fun _ => rest_s (by omega), fun z => by omega⟩, rfl⟩
                                      · omega
                                    · have h67 := Decidable.not_not.mp h67
                                      refine gx_st (L' := [(2, 192), (0, w), (0, b), (0, 6), (0, 3)]) (S' := [(0, 1), (0, 6)]) r_205_70 rfl rfl rfl ?_
                                      refine gx_st (L' := [(2, 192), (0, w), (0, b), (0, 6), (0, 3)]) (S' := [(0, 3), (0, 1), (0, 6)]) r_205_71 rfl rfl rfl ?_
                                      refine gx_st (L' := [(2, 192), (0, w), (0, b), (0, 6), (0, 3)]) (S' := [(0, (ishl 1 3)), (0, 6)]) r_205_73 rfl rfl rfl ?_
                                      rw [show (ishl 1 3) = 8 from by decide]
                                      refine gx_st (L' := [(2, 192), (0, w), (0, b), (0, 6), (0, 3)]) (S' := [(0, 8), (0, 6)]) r_205_74 rfl rfl rfl ?_
                                      refine gx_st (L' := [(2, 192), (0, w), (0, b), (0, 6), (0, 3)]) (S' := [(0, (ior 6 8))]) r_205_78 rfl rfl rfl ?_
                                      rw [show (ior 6 8) = 14 from by decide]
                                      refine gx_st (L' := [(2, 192), (0, w), (0, b), (0, 14), (0, 3)]) (S' := []) r_205_79 rfl rfl rfl ?_
                                      refine gx_li (z := 4) (L' := [(2, 192), (0, w), (0, b), (0, 14), (0, 4)]) r_205_80 rfl (w32_eq (by omega) (by omega) (by omega)) rfl ?_
                                      refine gx_st (L' := [(2, 192), (0, w), (0, b), (0, 14), (0, 4)]) (S' := []) r_205_83 rfl rfl rfl ?_
                                      refine gx_st (L' := [(2, 192), (0, w), (0, b), (0, 14), (0, 4)]) (S' := [(0, 4)]) r_205_32 rfl rfl rfl ?_
                                      refine gx_st (L' := [(2, 192), (0, w), (0, b), (0, 14), (0, 4)]) (S' := [(0, 4), (0, 4)]) r_205_34 rfl rfl rfl ?_
                                      refine gx_ic (P := 4 ≤ 4) r_205_35 (rfl) (fun h35 => ?_) (fun h35 => ?_)
                                      · refine gx_st (L' := [(2, 192), (0, w), (0, b), (0, 14), (0, 4)]) (S' := [(0, 14)]) r_205_86 rfl rfl rfl ?_
                                        exact gx_rt r_205_87 rfl rfl ⟨_, rfl, RestV_c ⟨fun _ => rest_s (by omega), fun z => by omega⟩, rfl⟩
                                      · omega
                                  · have h54 := Decidable.not_not.mp h54
                                    refine gx_st (L' := [(2, 192), (0, w), (0, b), (0, 6), (0, 3)]) (S' := [(0, 1), (0, 0), (0, 6)]) r_205_57 rfl rfl rfl ?_
                                    refine gx_st (L' := [(2, 192), (0, w), (0, b), (0, 6), (0, 3)]) (S' := [(0, 1), (0, 0), (0, 6)]) r_205_58 rfl rfl rfl ?_
                                    refine gx_st (L' := [(2, 192), (0, w), (0, b), (0, 6), (0, 3)]) (S' := [(0, w), (0, 1), (0, 0), (0, 6)]) r_205_62 rfl rfl rfl ?_
                                    refine gx_st (L' := [(2, 192), (0, w), (0, b), (0, 6), (0, 3)]) (S' := [(0, b), (0, w), (0, 1), (0, 0), (0, 6)]) r_205_63 rfl rfl rfl ?_
                                    refine gx_ci (nx := 67) (S2 := [(0, 6)]) (x_204_01 w b hw hb) r_205_64 rfl rfl rfl rfl rfl rfl rfl (by decide) rfl (fun x64 n64 q64 => ?_)
                                    obtain rfl := q64.1.symm
                                    obtain rfl := q64.2.symm
                                    show GX T 2 205 67 [(2, 192), (0, w), (0, b), (0, 6), (0, 3)] [(0, (if w ≤ 1 ∧ b / 2 ≤ 1 then 1 else 0)), (0, 6)] m (RI (fun v m1 => v = RestV w b ∧ m1 = m))
                                    refine gx_i0 (P := ¬ (w ≤ 1 ∧ b / 2 ≤ 1)) r_205_67 (b01_eq) (fun h67 => ?_) (fun h67 => ?_)
                                    · refine gx_st (L' := [(2, 192), (0, w), (0, b), (0, 6), (0, 3)]) (S' := [(0, 0), (0, 6)]) r_205_77 rfl rfl rfl ?_
                                      refine gx_st (L' := [(2, 192), (0, w), (0, b), (0, 6), (0, 3)]) (S' := [(0, (ior 6 0))]) r_205_78 rfl rfl rfl ?_
                                      rw [show (ior 6 0) = 6 from by decide]
                                      refine gx_st (L' := [(2, 192), (0, w), (0, b), (0, 6), (0, 3)]) (S' := []) r_205_79 rfl rfl rfl ?_
                                      refine gx_li (z := 4) (L' := [(2, 192), (0, w), (0, b), (0, 6), (0, 4)]) r_205_80 rfl (w32_eq (by omega) (by omega) (by omega)) rfl ?_
                                      refine gx_st (L' := [(2, 192), (0, w), (0, b), (0, 6), (0, 4)]) (S' := []) r_205_83 rfl rfl rfl ?_
                                      refine gx_st (L' := [(2, 192), (0, w), (0, b), (0, 6), (0, 4)]) (S' := [(0, 4)]) r_205_32 rfl rfl rfl ?_
                                      refine gx_st (L' := [(2, 192), (0, w), (0, b), (0, 6), (0, 4)]) (S' := [(0, 4), (0, 4)]) r_205_34 rfl rfl rfl ?_
                                      refine gx_ic (P := 4 ≤ 4) r_205_35 (rfl) (fun h35 => ?_) (fun h35 => ?_)
                                      · refine gx_st (L' := [(2, 192), (0, w), (0, b), (0, 6), (0, 4)]) (S' := [(0, 6)]) r_205_86 rfl rfl rfl ?_
                                        exact gx_rt r_205_87 rfl rfl ⟨_, rfl, RestV_c ⟨fun _ => rest_s (by omega), fun z => by omega⟩, rfl⟩
                                      · omega
                                    · have h67 := Decidable.not_not.mp h67
                                      refine gx_st (L' := [(2, 192), (0, w), (0, b), (0, 6), (0, 3)]) (S' := [(0, 1), (0, 6)]) r_205_70 rfl rfl rfl ?_
                                      refine gx_st (L' := [(2, 192), (0, w), (0, b), (0, 6), (0, 3)]) (S' := [(0, 3), (0, 1), (0, 6)]) r_205_71 rfl rfl rfl ?_
                                      refine gx_st (L' := [(2, 192), (0, w), (0, b), (0, 6), (0, 3)]) (S' := [(0, (ishl 1 3)), (0, 6)]) r_205_73 rfl rfl rfl ?_
                                      rw [show (ishl 1 3) = 8 from by decide]
                                      refine gx_st (L' := [(2, 192), (0, w), (0, b), (0, 6), (0, 3)]) (S' := [(0, 8), (0, 6)]) r_205_74 rfl rfl rfl ?_
                                      refine gx_st (L' := [(2, 192), (0, w), (0, b), (0, 6), (0, 3)]) (S' := [(0, (ior 6 8))]) r_205_78 rfl rfl rfl ?_
                                      rw [show (ior 6 8) = 14 from by decide]
                                      refine gx_st (L' := [(2, 192), (0, w), (0, b), (0, 14), (0, 3)]) (S' := []) r_205_79 rfl rfl rfl ?_
                                      refine gx_li (z := 4) (L' := [(2, 192), (0, w), (0, b), (0, 14), (0, 4)]) r_205_80 rfl (w32_eq (by omega) (by omega) (by omega)) rfl ?_
                                      refine gx_st (L' := [(2, 192), (0, w), (0, b), (0, 14), (0, 4)]) (S' := []) r_205_83 rfl rfl rfl ?_
                                      refine gx_st (L' := [(2, 192), (0, w), (0, b), (0, 14), (0, 4)]) (S' := [(0, 4)]) r_205_32 rfl rfl rfl ?_
                                      refine gx_st (L' := [(2, 192), (0, w), (0, b), (0, 14), (0, 4)]) (S' := [(0, 4), (0, 4)]) r_205_34 rfl rfl rfl ?_
                                      refine gx_ic (P := 4 ≤ 4) r_205_35 (rfl) (fun h35 => ?_) (fun h35 => ?_)
                                      · refine gx_st (L' := [(2, 192), (0, w), (0, b), (0, 14), (0, 4)]) (S' := [(0, 14)]) r_205_86 rfl rfl rfl ?_
                                        exact gx_rt r_205_87 rfl rfl ⟨_, rfl, RestV_c ⟨fun _ => rest_s (by omega), fun z => by omega⟩, rfl⟩
                                      · omega
                                · omega
                        · omega
            · omega
          · have h54 := Decidable.not_not.mp h54
            refine gx_st (L' := [(2, 192), (0, w), (0, b), (0, 0), (0, 0)]) (S' := [(0, 1), (0, 1), (0, 0)]) r_205_57 rfl rfl rfl ?_
            refine gx_st (L' := [(2, 192), (0, w), (0, b), (0, 0), (0, 0)]) (S' := [(0, 1), (0, 1), (0, 0)]) r_205_58 rfl rfl rfl ?_
            refine gx_st (L' := [(2, 192), (0, w), (0, b), (0, 0), (0, 0)]) (S' := [(0, w), (0, 1), (0, 1), (0, 0)]) r_205_62 rfl rfl rfl ?_
            refine gx_st (L' := [(2, 192), (0, w), (0, b), (0, 0), (0, 0)]) (S' := [(0, b), (0, w), (0, 1), (0, 1), (0, 0)]) r_205_63 rfl rfl rfl ?_
            refine gx_ci (nx := 67) (S2 := [(0, 0)]) (x_204_11 w b hw hb) r_205_64 rfl rfl rfl rfl rfl rfl rfl (by decide) rfl (fun x64 n64 q64 => ?_)
            obtain rfl := q64.1.symm
            obtain rfl := q64.2.symm
            show GX T 2 205 67 [(2, 192), (0, w), (0, b), (0, 0), (0, 0)] [(0, (if 1 ≤ w ∧ b ≤ 2 then 1 else 0)), (0, 0)] m (RI (fun v m1 => v = RestV w b ∧ m1 = m))
            refine gx_i0 (P := ¬ (1 ≤ w ∧ b ≤ 2)) r_205_67 (b01_eq) (fun h67 => ?_) (fun h67 => ?_)
            · refine gx_st (L' := [(2, 192), (0, w), (0, b), (0, 0), (0, 0)]) (S' := [(0, 0), (0, 0)]) r_205_77 rfl rfl rfl ?_
              refine gx_st (L' := [(2, 192), (0, w), (0, b), (0, 0), (0, 0)]) (S' := [(0, (ior 0 0))]) r_205_78 rfl rfl rfl ?_
              rw [show (ior 0 0) = 0 from by decide]
              refine gx_st (L' := [(2, 192), (0, w), (0, b), (0, 0), (0, 0)]) (S' := []) r_205_79 rfl rfl rfl ?_
              refine gx_li (z := 1) (L' := [(2, 192), (0, w), (0, b), (0, 0), (0, 1)]) r_205_80 rfl (w32_eq (by omega) (by omega) (by omega)) rfl ?_
              refine gx_st (L' := [(2, 192), (0, w), (0, b), (0, 0), (0, 1)]) (S' := []) r_205_83 rfl rfl rfl ?_
              refine gx_st (L' := [(2, 192), (0, w), (0, b), (0, 0), (0, 1)]) (S' := [(0, 1)]) r_205_32 rfl rfl rfl ?_
              refine gx_st (L' := [(2, 192), (0, w), (0, b), (0, 0), (0, 1)]) (S' := [(0, 4), (0, 1)]) r_205_34 rfl rfl rfl ?_
              refine gx_ic (P := 4 ≤ 1) r_205_35 (rfl) (fun h35 => ?_) (fun h35 => ?_)
              · omega
              · refine gx_st (L' := [(2, 192), (0, w), (0, b), (0, 0), (0, 1)]) (S' := [(0, 0)]) r_205_38 rfl rfl rfl ?_
                refine gx_st (L' := [(2, 192), (0, w), (0, b), (0, 0), (0, 1)]) (S' := [(0, 1), (0, 0)]) r_205_39 rfl rfl rfl ?_
                refine gx_st (L' := [(2, 192), (0, w), (0, b), (0, 0), (0, 1)]) (S' := [(0, 2), (0, 1), (0, 0)]) r_205_41 rfl rfl rfl ?_
                refine gx_ic (P := 2 ≤ 1) r_205_42 (rfl) (fun h42 => ?_) (fun h42 => ?_)
                · omega
                · refine gx_st (L' := [(2, 192), (0, w), (0, b), (0, 0), (0, 1)]) (S' := [(0, 1), (0, 0)]) r_205_45 rfl rfl rfl ?_
                  refine gx_st (L' := [(2, 192), (0, w), (0, b), (0, 0), (0, 1)]) (S' := [(0, 1), (0, 0)]) r_205_46 rfl rfl rfl ?_
                  refine gx_st (L' := [(2, 192), (0, w), (0, b), (0, 0), (0, 1)]) (S' := [(0, 1), (0, 1), (0, 0)]) r_205_50 rfl rfl rfl ?_
                  refine gx_st (L' := [(2, 192), (0, w), (0, b), (0, 0), (0, 1)]) (S' := [(0, 2), (0, 1), (0, 1), (0, 0)]) r_205_52 rfl rfl rfl ?_
                  refine gx_rm (z := (1 % 2)) r_205_53 (by decide) (tm_eq (by omega) rfl) ?_
                  refine gx_i0 (P := ¬ (1 % 2) = 0) r_205_54 (rfl) (fun h54 => ?_) (fun h54 => ?_)
                  · refine gx_st (L' := [(2, 192), (0, w), (0, b), (0, 0), (0, 1)]) (S' := [(0, 0), (0, 1), (0, 0)]) r_205_61 rfl rfl rfl ?_
                    refine gx_st (L' := [(2, 192), (0, w), (0, b), (0, 0), (0, 1)]) (S' := [(0, w), (0, 0), (0, 1), (0, 0)]) r_205_62 rfl rfl rfl ?_
                    refine gx_st (L' := [(2, 192), (0, w), (0, b), (0, 0), (0, 1)]) (S' := [(0, b), (0, w), (0, 0), (0, 1), (0, 0)]) r_205_63 rfl rfl rfl ?_
                    refine gx_ci (nx := 67) (S2 := [(0, 0)]) (x_204_10 w b hw hb) r_205_64 rfl rfl rfl rfl rfl rfl rfl (by decide) rfl (fun x64 n64 q64 => ?_)
                    obtain rfl := q64.1.symm
                    obtain rfl := q64.2.symm
                    show GX T 2 205 67 [(2, 192), (0, w), (0, b), (0, 0), (0, 1)] [(0, 0), (0, 0)] m (RI (fun v m1 => v = RestV w b ∧ m1 = m))
                    refine gx_i0 (P := 0 = 0) r_205_67 (rfl) (fun h67 => ?_) (fun h67 => ?_)
                    · refine gx_st (L' := [(2, 192), (0, w), (0, b), (0, 0), (0, 1)]) (S' := [(0, 0), (0, 0)]) r_205_77 rfl rfl rfl ?_
                      refine gx_st (L' := [(2, 192), (0, w), (0, b), (0, 0), (0, 1)]) (S' := [(0, (ior 0 0))]) r_205_78 rfl rfl rfl ?_
                      rw [show (ior 0 0) = 0 from by decide]
                      refine gx_st (L' := [(2, 192), (0, w), (0, b), (0, 0), (0, 1)]) (S' := []) r_205_79 rfl rfl rfl ?_
                      refine gx_li (z := 2) (L' := [(2, 192), (0, w), (0, b), (0, 0), (0, 2)]) r_205_80 rfl (w32_eq (by omega) (by omega) (by omega)) rfl ?_
                      refine gx_st (L' := [(2, 192), (0, w), (0, b), (0, 0), (0, 2)]) (S' := []) r_205_83 rfl rfl rfl ?_
                      refine gx_st (L' := [(2, 192), (0, w), (0, b), (0, 0), (0, 2)]) (S' := [(0, 2)]) r_205_32 rfl rfl rfl ?_
                      refine gx_st (L' := [(2, 192), (0, w), (0, b), (0, 0), (0, 2)]) (S' := [(0, 4), (0, 2)]) r_205_34 rfl rfl rfl ?_
                      refine gx_ic (P := 4 ≤ 2) r_205_35 (rfl) (fun h35 => ?_) (fun h35 => ?_)
                      · omega
                      · refine gx_st (L' := [(2, 192), (0, w), (0, b), (0, 0), (0, 2)]) (S' := [(0, 0)]) r_205_38 rfl rfl rfl ?_
                        refine gx_st (L' := [(2, 192), (0, w), (0, b), (0, 0), (0, 2)]) (S' := [(0, 2), (0, 0)]) r_205_39 rfl rfl rfl ?_
                        refine gx_st (L' := [(2, 192), (0, w), (0, b), (0, 0), (0, 2)]) (S' := [(0, 2), (0, 2), (0, 0)]) r_205_41 rfl rfl rfl ?_
                        refine gx_ic (P := 2 ≤ 2) r_205_42 (rfl) (fun h42 => ?_) (fun h42 => ?_)
                        · refine gx_st (L' := [(2, 192), (0, w), (0, b), (0, 0), (0, 2)]) (S' := [(0, 0), (0, 0)]) r_205_49 rfl rfl rfl ?_
                          refine gx_st (L' := [(2, 192), (0, w), (0, b), (0, 0), (0, 2)]) (S' := [(0, 2), (0, 0), (0, 0)]) r_205_50 rfl rfl rfl ?_
                          refine gx_st (L' := [(2, 192), (0, w), (0, b), (0, 0), (0, 2)]) (S' := [(0, 2), (0, 2), (0, 0), (0, 0)]) r_205_52 rfl rfl rfl ?_
                          refine gx_rm (z := (2 % 2)) r_205_53 (by decide) (tm_eq (by omega) rfl) ?_
                          refine gx_i0 (P := ¬ (2 % 2) = 0) r_205_54 (rfl) (fun h54 => ?_) (fun h54 => ?_)
                          · refine gx_st (L' := [(2, 192), (0, w), (0, b), (0, 0), (0, 2)]) (S' := [(0, 0), (0, 0), (0, 0)]) r_205_61 rfl rfl rfl ?_
                            refine gx_st (L' := [(2, 192), (0, w), (0, b), (0, 0), (0, 2)]) (S' := [(0, w), (0, 0), (0, 0), (0, 0)]) r_205_62 rfl rfl rfl ?_
                            refine gx_st (L' := [(2, 192), (0, w), (0, b), (0, 0), (0, 2)]) (S' := [(0, b), (0, w), (0, 0), (0, 0), (0, 0)]) r_205_63 rfl rfl rfl ?_
                            refine gx_ci (nx := 67) (S2 := [(0, 0)]) (x_204_00 w b hw hb) r_205_64 rfl rfl rfl rfl rfl rfl rfl (by decide) rfl (fun x64 n64 q64 => ?_)
                            obtain rfl := q64.1.symm
                            obtain rfl := q64.2.symm
                            show GX T 2 205 67 [(2, 192), (0, w), (0, b), (0, 0), (0, 2)] [(0, (if 1 ≤ b / 2 then 1 else 0)), (0, 0)] m (RI (fun v m1 => v = RestV w b ∧ m1 = m))
                            refine gx_i0 (P := ¬ (1 ≤ b / 2)) r_205_67 (b01_eq) (fun h67 => ?_) (fun h67 => ?_)
                            · refine gx_st (L' := [(2, 192), (0, w), (0, b), (0, 0), (0, 2)]) (S' := [(0, 0), (0, 0)]) r_205_77 rfl rfl rfl ?_
                              refine gx_st (L' := [(2, 192), (0, w), (0, b), (0, 0), (0, 2)]) (S' := [(0, (ior 0 0))]) r_205_78 rfl rfl rfl ?_
                              rw [show (ior 0 0) = 0 from by decide]
                              refine gx_st (L' := [(2, 192), (0, w), (0, b), (0, 0), (0, 2)]) (S' := []) r_205_79 rfl rfl rfl ?_
                              refine gx_li (z := 3) (L' := [(2, 192), (0, w), (0, b), (0, 0), (0, 3)]) r_205_80 rfl (w32_eq (by omega) (by omega) (by omega)) rfl ?_
                              refine gx_st (L' := [(2, 192), (0, w), (0, b), (0, 0), (0, 3)]) (S' := []) r_205_83 rfl rfl rfl ?_
                              refine gx_st (L' := [(2, 192), (0, w), (0, b), (0, 0), (0, 3)]) (S' := [(0, 3)]) r_205_32 rfl rfl rfl ?_
                              refine gx_st (L' := [(2, 192), (0, w), (0, b), (0, 0), (0, 3)]) (S' := [(0, 4), (0, 3)]) r_205_34 rfl rfl rfl ?_
                              refine gx_ic (P := 4 ≤ 3) r_205_35 (rfl) (fun h35 => ?_) (fun h35 => ?_)
                              · omega
                              · refine gx_st (L' := [(2, 192), (0, w), (0, b), (0, 0), (0, 3)]) (S' := [(0, 0)]) r_205_38 rfl rfl rfl ?_
                                refine gx_st (L' := [(2, 192), (0, w), (0, b), (0, 0), (0, 3)]) (S' := [(0, 3), (0, 0)]) r_205_39 rfl rfl rfl ?_
                                refine gx_st (L' := [(2, 192), (0, w), (0, b), (0, 0), (0, 3)]) (S' := [(0, 2), (0, 3), (0, 0)]) r_205_41 rfl rfl rfl ?_
                                refine gx_ic (P := 2 ≤ 3) r_205_42 (rfl) (fun h42 => ?_) (fun h42 => ?_)
                                · refine gx_st (L' := [(2, 192), (0, w), (0, b), (0, 0), (0, 3)]) (S' := [(0, 0), (0, 0)]) r_205_49 rfl rfl rfl ?_
                                  refine gx_st (L' := [(2, 192), (0, w), (0, b), (0, 0), (0, 3)]) (S' := [(0, 3), (0, 0), (0, 0)]) r_205_50 rfl rfl rfl ?_
                                  refine gx_st (L' := [(2, 192), (0, w), (0, b), (0, 0), (0, 3)]) (S' := [(0, 2), (0, 3), (0, 0), (0, 0)]) r_205_52 rfl rfl rfl ?_
                                  refine gx_rm (z := (3 % 2)) r_205_53 (by decide) (tm_eq (by omega) rfl) ?_
                                  refine gx_i0 (P := ¬ (3 % 2) = 0) r_205_54 (rfl) (fun h54 => ?_) (fun h54 => ?_)
                                  · refine gx_st (L' := [(2, 192), (0, w), (0, b), (0, 0), (0, 3)]) (S' := [(0, 0), (0, 0), (0, 0)]) r_205_61 rfl rfl rfl ?_
                                    refine gx_st (L' := [(2, 192), (0, w), (0, b), (0, 0), (0, 3)]) (S' := [(0, w), (0, 0), (0, 0), (0, 0)]) r_205_62 rfl rfl rfl ?_
                                    refine gx_st (L' := [(2, 192), (0, w), (0, b), (0, 0), (0, 3)]) (S' := [(0, b), (0, w), (0, 0), (0, 0), (0, 0)]) r_205_63 rfl rfl rfl ?_
                                    refine gx_ci (nx := 67) (S2 := [(0, 0)]) (x_204_00 w b hw hb) r_205_64 rfl rfl rfl rfl rfl rfl rfl (by decide) rfl (fun x64 n64 q64 => ?_)
                                    obtain rfl := q64.1.symm
                                    obtain rfl := q64.2.symm
                                    show GX T 2 205 67 [(2, 192), (0, w), (0, b), (0, 0), (0, 3)] [(0, (if 1 ≤ b / 2 then 1 else 0)), (0, 0)] m (RI (fun v m1 => v = RestV w b ∧ m1 = m))
                                    refine gx_i0 (P := ¬ (1 ≤ b / 2)) r_205_67 (b01_eq) (fun h67 => ?_) (fun h67 => ?_)
                                    · refine gx_st (L' := [(2, 192), (0, w), (0, b), (0, 0), (0, 3)]) (S' := [(0, 0), (0, 0)]) r_205_77 rfl rfl rfl ?_
                                      refine gx_st (L' := [(2, 192), (0, w), (0, b), (0, 0), (0, 3)]) (S' := [(0, (ior 0 0))]) r_205_78 rfl rfl rfl ?_
                                      rw [show (ior 0 0) = 0 from by decide]
                                      refine gx_st (L' := [(2, 192), (0, w), (0, b), (0, 0), (0, 3)]) (S' := []) r_205_79 rfl rfl rfl ?_
                                      refine gx_li (z := 4) (L' := [(2, 192), (0, w), (0, b), (0, 0), (0, 4)]) r_205_80 rfl (w32_eq (by omega) (by omega) (by omega)) rfl ?_
                                      refine gx_st (L' := [(2, 192), (0, w), (0, b), (0, 0), (0, 4)]) (S' := []) r_205_83 rfl rfl rfl ?_
                                      refine gx_st (L' := [(2, 192), (0, w), (0, b), (0, 0), (0, 4)]) (S' := [(0, 4)]) r_205_32 rfl rfl rfl ?_
                                      refine gx_st (L' := [(2, 192), (0, w), (0, b), (0, 0), (0, 4)]) (S' := [(0, 4), (0, 4)]) r_205_34 rfl rfl rfl ?_
                                      refine gx_ic (P := 4 ≤ 4) r_205_35 (rfl) (fun h35 => ?_) (fun h35 => ?_)
                                      · refine gx_st (L' := [(2, 192), (0, w), (0, b), (0, 0), (0, 4)]) (S' := [(0, 0)]) r_205_86 rfl rfl rfl ?_
                                        exact gx_rt r_205_87 rfl rfl ⟨_, rfl, RestV_c ⟨fun _ => rest_s (by omega), fun z => by omega⟩, rfl⟩
                                      · omega
                                    · have h67 := Decidable.not_not.mp h67
                                      refine gx_st (L' := [(2, 192), (0, w), (0, b), (0, 0), (0, 3)]) (S' := [(0, 1), (0, 0)]) r_205_70 rfl rfl rfl ?_
                                      refine gx_st (L' := [(2, 192), (0, w), (0, b), (0, 0), (0, 3)]) (S' := [(0, 3), (0, 1), (0, 0)]) r_205_71 rfl rfl rfl ?_
                                      refine gx_st (L' := [(2, 192), (0, w), (0, b), (0, 0), (0, 3)]) (S' := [(0, (ishl 1 3)), (0, 0)]) r_205_73 rfl rfl rfl ?_
                                      rw [show (ishl 1 3) = 8 from by decide]
                                      refine gx_st (L' := [(2, 192), (0, w), (0, b), (0, 0), (0, 3)]) (S' := [(0, 8), (0, 0)]) r_205_74 rfl rfl rfl ?_
                                      refine gx_st (L' := [(2, 192), (0, w), (0, b), (0, 0), (0, 3)]) (S' := [(0, (ior 0 8))]) r_205_78 rfl rfl rfl ?_
                                      rw [show (ior 0 8) = 8 from by decide]
                                      refine gx_st (L' := [(2, 192), (0, w), (0, b), (0, 8), (0, 3)]) (S' := []) r_205_79 rfl rfl rfl ?_
                                      refine gx_li (z := 4) (L' := [(2, 192), (0, w), (0, b), (0, 8), (0, 4)]) r_205_80 rfl (w32_eq (by omega) (by omega) (by omega)) rfl ?_
                                      refine gx_st (L' := [(2, 192), (0, w), (0, b), (0, 8), (0, 4)]) (S' := []) r_205_83 rfl rfl rfl ?_
                                      refine gx_st (L' := [(2, 192), (0, w), (0, b), (0, 8), (0, 4)]) (S' := [(0, 4)]) r_205_32 rfl rfl rfl ?_
                                      refine gx_st (L' := [(2, 192), (0, w), (0, b), (0, 8), (0, 4)]) (S' := [(0, 4), (0, 4)]) r_205_34 rfl rfl rfl ?_
                                      refine gx_ic (P := 4 ≤ 4) r_205_35 (rfl) (fun h35 => ?_) (fun h35 => ?_)
                                      · refine gx_st (L' := [(2, 192), (0, w), (0, b), (0, 8), (0, 4)]) (S' := [(0, 8)]) r_205_86 rfl rfl rfl ?_
                                        exact gx_rt r_205_87 rfl rfl ⟨_, rfl, RestV_c ⟨fun _ => rest_s (by omega), fun z => by omega⟩, rfl⟩
                                      · omega
                                  · have h54 := Decidable.not_not.mp h54
                                    refine gx_st (L' := [(2, 192), (0, w), (0, b), (0, 0), (0, 3)]) (S' := [(0, 1), (0, 0), (0, 0)]) r_205_57 rfl rfl rfl ?_
                                    refine gx_st (L' := [(2, 192), (0, w), (0, b), (0, 0), (0, 3)]) (S' := [(0, 1), (0, 0), (0, 0)]) r_205_58 rfl rfl rfl ?_
                                    refine gx_st (L' := [(2, 192), (0, w), (0, b), (0, 0), (0, 3)]) (S' := [(0, w), (0, 1), (0, 0), (0, 0)]) r_205_62 rfl rfl rfl ?_
                                    refine gx_st (L' := [(2, 192), (0, w), (0, b), (0, 0), (0, 3)]) (S' := [(0, b), (0, w), (0, 1), (0, 0), (0, 0)]) r_205_63 rfl rfl rfl ?_
                                    refine gx_ci (nx := 67) (S2 := [(0, 0)]) (x_204_01 w b hw hb) r_205_64 rfl rfl rfl rfl rfl rfl rfl (by decide) rfl (fun x64 n64 q64 => ?_)
                                    obtain rfl := q64.1.symm
                                    obtain rfl := q64.2.symm
                                    show GX T 2 205 67 [(2, 192), (0, w), (0, b), (0, 0), (0, 3)] [(0, (if w ≤ 1 ∧ b / 2 ≤ 1 then 1 else 0)), (0, 0)] m (RI (fun v m1 => v = RestV w b ∧ m1 = m))
                                    refine gx_i0 (P := ¬ (w ≤ 1 ∧ b / 2 ≤ 1)) r_205_67 (b01_eq) (fun h67 => ?_) (fun h67 => ?_)
                                    · refine gx_st (L' := [(2, 192), (0, w), (0, b), (0, 0), (0, 3)]) (S' := [(0, 0), (0, 0)]) r_205_77 rfl rfl rfl ?_
                                      refine gx_st (L' := [(2, 192), (0, w), (0, b), (0, 0), (0, 3)]) (S' := [(0, (ior 0 0))]) r_205_78 rfl rfl rfl ?_
                                      rw [show (ior 0 0) = 0 from by decide]
                                      refine gx_st (L' := [(2, 192), (0, w), (0, b), (0, 0), (0, 3)]) (S' := []) r_205_79 rfl rfl rfl ?_
                                      refine gx_li (z := 4) (L' := [(2, 192), (0, w), (0, b), (0, 0), (0, 4)]) r_205_80 rfl (w32_eq (by omega) (by omega) (by omega)) rfl ?_
                                      refine gx_st (L' := [(2, 192), (0, w), (0, b), (0, 0), (0, 4)]) (S' := []) r_205_83 rfl rfl rfl ?_
                                      refine gx_st (L' := [(2, 192), (0, w), (0, b), (0, 0), (0, 4)]) (S' := [(0, 4)]) r_205_32 rfl rfl rfl ?_
                                      refine gx_st (L' := [(2, 192), (0, w), (0, b), (0, 0), (0, 4)]) (S' := [(0, 4), (0, 4)]) r_205_34 rfl rfl rfl ?_
                                      refine gx_ic (P := 4 ≤ 4) r_205_35 (rfl) (fun h35 => ?_) (fun h35 => ?_)
                                      · refine gx_st (L' := [(2, 192), (0, w), (0, b), (0, 0), (0, 4)]) (S' := [(0, 0)]) r_205_86 rfl rfl rfl ?_
                                        exact gx_rt r_205_87 rfl rfl ⟨_, rfl, RestV_c ⟨fun _ => rest_s (by omega), fun z => by omega⟩, rfl⟩
                                      · omega
                                    · have h67 := Decidable.not_not.mp h67
                                      refine gx_st (L' := [(2, 192), (0, w), (0, b), (0, 0), (0, 3)]) (S' := [(0, 1), (0, 0)]) r_205_70 rfl rfl rfl ?_
                                      refine gx_st (L' := [(2, 192), (0, w), (0, b), (0, 0), (0, 3)]) (S' := [(0, 3), (0, 1), (0, 0)]) r_205_71 rfl rfl rfl ?_
                                      refine gx_st (L' := [(2, 192), (0, w), (0, b), (0, 0), (0, 3)]) (S' := [(0, (ishl 1 3)), (0, 0)]) r_205_73 rfl rfl rfl ?_
                                      rw [show (ishl 1 3) = 8 from by decide]
                                      refine gx_st (L' := [(2, 192), (0, w), (0, b), (0, 0), (0, 3)]) (S' := [(0, 8), (0, 0)]) r_205_74 rfl rfl rfl ?_
                                      refine gx_st (L' := [(2, 192), (0, w), (0, b), (0, 0), (0, 3)]) (S' := [(0, (ior 0 8))]) r_205_78 rfl rfl rfl ?_
                                      rw [show (ior 0 8) = 8 from by decide]
                                      refine gx_st (L' := [(2, 192), (0, w), (0, b), (0, 8), (0, 3)]) (S' := []) r_205_79 rfl rfl rfl ?_
                                      refine gx_li (z := 4) (L' := [(2, 192), (0, w), (0, b), (0, 8), (0, 4)]) r_205_80 rfl (w32_eq (by omega) (by omega) (by omega)) rfl ?_
                                      refine gx_st (L' := [(2, 192), (0, w), (0, b), (0, 8), (0, 4)]) (S' := []) r_205_83 rfl rfl rfl ?_
                                      refine gx_st (L' := [(2, 192), (0, w), (0, b), (0, 8), (0, 4)]) (S' := [(0, 4)]) r_205_32 rfl rfl rfl ?_
                                      refine gx_st (L' := [(2, 192), (0, w), (0, b), (0, 8), (0, 4)]) (S' := [(0, 4), (0, 4)]) r_205_34 rfl rfl rfl ?_
                                      refine gx_ic (P := 4 ≤ 4) r_205_35 (rfl) (fun h35 => ?_) (fun h35 => ?_)
                                      · refine gx_st (L' := [(2, 192), (0, w), (0, b), (0, 8), (0, 4)]) (S' := [(0, 8)]) r_205_86 rfl rfl rfl ?_
                                        exact gx_rt r_205_87 rfl rfl ⟨_, rfl, RestV_c ⟨fun _ => rest_s (by omega), fun z => by omega⟩, rfl⟩
                                      · omega
                                · omega
                            · have h67 := Decidable.not_not.mp h67
                              refine gx_st (L' := [(2, 192), (0, w), (0, b), (0, 0), (0, 2)]) (S' := [(0, 1), (0, 0)]) r_205_70 rfl rfl rfl ?_
                              refine gx_st (L' := [(2, 192), (0, w), (0, b), (0, 0), (0, 2)]) (S' := [(0, 2), (0, 1), (0, 0)]) r_205_71 rfl rfl rfl ?_
                              refine gx_st (L' := [(2, 192), (0, w), (0, b), (0, 0), (0, 2)]) (S' := [(0, (ishl 1 2)), (0, 0)]) r_205_73 rfl rfl rfl ?_
                              rw [show (ishl 1 2) = 4 from by decide]
                              refine gx_st (L' := [(2, 192), (0, w), (0, b), (0, 0), (0, 2)]) (S' := [(0, 4), (0, 0)]) r_205_74 rfl rfl rfl ?_
                              refine gx_st (L' := [(2, 192), (0, w), (0, b), (0, 0), (0, 2)]) (S' := [(0, (ior 0 4))]) r_205_78 rfl rfl rfl ?_
                              rw [show (ior 0 4) = 4 from by decide]
                              refine gx_st (L' := [(2, 192), (0, w), (0, b), (0, 4), (0, 2)]) (S' := []) r_205_79 rfl rfl rfl ?_
                              refine gx_li (z := 3) (L' := [(2, 192), (0, w), (0, b), (0, 4), (0, 3)]) r_205_80 rfl (w32_eq (by omega) (by omega) (by omega)) rfl ?_
                              refine gx_st (L' := [(2, 192), (0, w), (0, b), (0, 4), (0, 3)]) (S' := []) r_205_83 rfl rfl rfl ?_
                              refine gx_st (L' := [(2, 192), (0, w), (0, b), (0, 4), (0, 3)]) (S' := [(0, 3)]) r_205_32 rfl rfl rfl ?_
                              refine gx_st (L' := [(2, 192), (0, w), (0, b), (0, 4), (0, 3)]) (S' := [(0, 4), (0, 3)]) r_205_34 rfl rfl rfl ?_
                              refine gx_ic (P := 4 ≤ 3) r_205_35 (rfl) (fun h35 => ?_) (fun h35 => ?_)
                              · omega
                              · refine gx_st (L' := [(2, 192), (0, w), (0, b), (0, 4), (0, 3)]) (S' := [(0, 4)]) r_205_38 rfl rfl rfl ?_
                                refine gx_st (L' := [(2, 192), (0, w), (0, b), (0, 4), (0, 3)]) (S' := [(0, 3), (0, 4)]) r_205_39 rfl rfl rfl ?_
                                refine gx_st (L' := [(2, 192), (0, w), (0, b), (0, 4), (0, 3)]) (S' := [(0, 2), (0, 3), (0, 4)]) r_205_41 rfl rfl rfl ?_
                                refine gx_ic (P := 2 ≤ 3) r_205_42 (rfl) (fun h42 => ?_) (fun h42 => ?_)
                                · refine gx_st (L' := [(2, 192), (0, w), (0, b), (0, 4), (0, 3)]) (S' := [(0, 0), (0, 4)]) r_205_49 rfl rfl rfl ?_
                                  refine gx_st (L' := [(2, 192), (0, w), (0, b), (0, 4), (0, 3)]) (S' := [(0, 3), (0, 0), (0, 4)]) r_205_50 rfl rfl rfl ?_
                                  refine gx_st (L' := [(2, 192), (0, w), (0, b), (0, 4), (0, 3)]) (S' := [(0, 2), (0, 3), (0, 0), (0, 4)]) r_205_52 rfl rfl rfl ?_
                                  refine gx_rm (z := (3 % 2)) r_205_53 (by decide) (tm_eq (by omega) rfl) ?_
                                  refine gx_i0 (P := ¬ (3 % 2) = 0) r_205_54 (rfl) (fun h54 => ?_) (fun h54 => ?_)
                                  · refine gx_st (L' := [(2, 192), (0, w), (0, b), (0, 4), (0, 3)]) (S' := [(0, 0), (0, 0), (0, 4)]) r_205_61 rfl rfl rfl ?_
                                    refine gx_st (L' := [(2, 192), (0, w), (0, b), (0, 4), (0, 3)]) (S' := [(0, w), (0, 0), (0, 0), (0, 4)]) r_205_62 rfl rfl rfl ?_
                                    refine gx_st (L' := [(2, 192), (0, w), (0, b), (0, 4), (0, 3)]) (S' := [(0, b), (0, w), (0, 0), (0, 0), (0, 4)]) r_205_63 rfl rfl rfl ?_
                                    refine gx_ci (nx := 67) (S2 := [(0, 4)]) (x_204_00 w b hw hb) r_205_64 rfl rfl rfl rfl rfl rfl rfl (by decide) rfl (fun x64 n64 q64 => ?_)
                                    obtain rfl := q64.1.symm
                                    obtain rfl := q64.2.symm
                                    show GX T 2 205 67 [(2, 192), (0, w), (0, b), (0, 4), (0, 3)] [(0, (if 1 ≤ b / 2 then 1 else 0)), (0, 4)] m (RI (fun v m1 => v = RestV w b ∧ m1 = m))
                                    refine gx_i0 (P := ¬ (1 ≤ b / 2)) r_205_67 (b01_eq) (fun h67 => ?_) (fun h67 => ?_)
                                    · refine gx_st (L' := [(2, 192), (0, w), (0, b), (0, 4), (0, 3)]) (S' := [(0, 0), (0, 4)]) r_205_77 rfl rfl rfl ?_
                                      refine gx_st (L' := [(2, 192), (0, w), (0, b), (0, 4), (0, 3)]) (S' := [(0, (ior 4 0))]) r_205_78 rfl rfl rfl ?_
                                      rw [show (ior 4 0) = 4 from by decide]
                                      refine gx_st (L' := [(2, 192), (0, w), (0, b), (0, 4), (0, 3)]) (S' := []) r_205_79 rfl rfl rfl ?_
                                      refine gx_li (z := 4) (L' := [(2, 192), (0, w), (0, b), (0, 4), (0, 4)]) r_205_80 rfl (w32_eq (by omega) (by omega) (by omega)) rfl ?_
                                      refine gx_st (L' := [(2, 192), (0, w), (0, b), (0, 4), (0, 4)]) (S' := []) r_205_83 rfl rfl rfl ?_
                                      refine gx_st (L' := [(2, 192), (0, w), (0, b), (0, 4), (0, 4)]) (S' := [(0, 4)]) r_205_32 rfl rfl rfl ?_
                                      refine gx_st (L' := [(2, 192), (0, w), (0, b), (0, 4), (0, 4)]) (S' := [(0, 4), (0, 4)]) r_205_34 rfl rfl rfl ?_
                                      refine gx_ic (P := 4 ≤ 4) r_205_35 (rfl) (fun h35 => ?_) (fun h35 => ?_)
                                      · refine gx_st (L' := [(2, 192), (0, w), (0, b), (0, 4), (0, 4)]) (S' := [(0, 4)]) r_205_86 rfl rfl rfl ?_
                                        exact gx_rt r_205_87 rfl rfl ⟨_, rfl, RestV_c ⟨fun _ => rest_s (by omega), fun z => by omega⟩, rfl⟩
                                      · omega
                                    · have h67 := Decidable.not_not.mp h67
                                      refine gx_st (L' := [(2, 192), (0, w), (0, b), (0, 4), (0, 3)]) (S' := [(0, 1), (0, 4)]) r_205_70 rfl rfl rfl ?_
                                      refine gx_st (L' := [(2, 192), (0, w), (0, b), (0, 4), (0, 3)]) (S' := [(0, 3), (0, 1), (0, 4)]) r_205_71 rfl rfl rfl ?_
                                      refine gx_st (L' := [(2, 192), (0, w), (0, b), (0, 4), (0, 3)]) (S' := [(0, (ishl 1 3)), (0, 4)]) r_205_73 rfl rfl rfl ?_
                                      rw [show (ishl 1 3) = 8 from by decide]
                                      refine gx_st (L' := [(2, 192), (0, w), (0, b), (0, 4), (0, 3)]) (S' := [(0, 8), (0, 4)]) r_205_74 rfl rfl rfl ?_
                                      refine gx_st (L' := [(2, 192), (0, w), (0, b), (0, 4), (0, 3)]) (S' := [(0, (ior 4 8))]) r_205_78 rfl rfl rfl ?_
                                      rw [show (ior 4 8) = 12 from by decide]
                                      refine gx_st (L' := [(2, 192), (0, w), (0, b), (0, 12), (0, 3)]) (S' := []) r_205_79 rfl rfl rfl ?_
                                      refine gx_li (z := 4) (L' := [(2, 192), (0, w), (0, b), (0, 12), (0, 4)]) r_205_80 rfl (w32_eq (by omega) (by omega) (by omega)) rfl ?_
                                      refine gx_st (L' := [(2, 192), (0, w), (0, b), (0, 12), (0, 4)]) (S' := []) r_205_83 rfl rfl rfl ?_
                                      refine gx_st (L' := [(2, 192), (0, w), (0, b), (0, 12), (0, 4)]) (S' := [(0, 4)]) r_205_32 rfl rfl rfl ?_
                                      refine gx_st (L' := [(2, 192), (0, w), (0, b), (0, 12), (0, 4)]) (S' := [(0, 4), (0, 4)]) r_205_34 rfl rfl rfl ?_
                                      refine gx_ic (P := 4 ≤ 4) r_205_35 (rfl) (fun h35 => ?_) (fun h35 => ?_)
                                      · refine gx_st (L' := [(2, 192), (0, w), (0, b), (0, 12), (0, 4)]) (S' := [(0, 12)]) r_205_86 rfl rfl rfl ?_
                                        exact gx_rt r_205_87 rfl rfl ⟨_, rfl, RestV_c ⟨fun _ => rest_s (by omega), fun z => by omega⟩, rfl⟩
                                      · omega
                                  · have h54 := Decidable.not_not.mp h54
                                    refine gx_st (L' := [(2, 192), (0, w), (0, b), (0, 4), (0, 3)]) (S' := [(0, 1), (0, 0), (0, 4)]) r_205_57 rfl rfl rfl ?_
                                    refine gx_st (L' := [(2, 192), (0, w), (0, b), (0, 4), (0, 3)]) (S' := [(0, 1), (0, 0), (0, 4)]) r_205_58 rfl rfl rfl ?_
                                    refine gx_st (L' := [(2, 192), (0, w), (0, b), (0, 4), (0, 3)]) (S' := [(0, w), (0, 1), (0, 0), (0, 4)]) r_205_62 rfl rfl rfl ?_
                                    refine gx_st (L' := [(2, 192), (0, w), (0, b), (0, 4), (0, 3)]) (S' := [(0, b), (0, w), (0, 1), (0, 0), (0, 4)]) r_205_63 rfl rfl rfl ?_
                                    refine gx_ci (nx := 67) (S2 := [(0, 4)]) (x_204_01 w b hw hb) r_205_64 rfl rfl rfl rfl rfl rfl rfl (by decide) rfl (fun x64 n64 q64 => ?_)
                                    obtain rfl := q64.1.symm
                                    obtain rfl := q64.2.symm
                                    show GX T 2 205 67 [(2, 192), (0, w), (0, b), (0, 4), (0, 3)] [(0, (if w ≤ 1 ∧ b / 2 ≤ 1 then 1 else 0)), (0, 4)] m (RI (fun v m1 => v = RestV w b ∧ m1 = m))
                                    refine gx_i0 (P := ¬ (w ≤ 1 ∧ b / 2 ≤ 1)) r_205_67 (b01_eq) (fun h67 => ?_) (fun h67 => ?_)
                                    · refine gx_st (L' := [(2, 192), (0, w), (0, b), (0, 4), (0, 3)]) (S' := [(0, 0), (0, 4)]) r_205_77 rfl rfl rfl ?_
                                      refine gx_st (L' := [(2, 192), (0, w), (0, b), (0, 4), (0, 3)]) (S' := [(0, (ior 4 0))]) r_205_78 rfl rfl rfl ?_
                                      rw [show (ior 4 0) = 4 from by decide]
                                      refine gx_st (L' := [(2, 192), (0, w), (0, b), (0, 4), (0, 3)]) (S' := []) r_205_79 rfl rfl rfl ?_
                                      refine gx_li (z := 4) (L' := [(2, 192), (0, w), (0, b), (0, 4), (0, 4)]) r_205_80 rfl (w32_eq (by omega) (by omega) (by omega)) rfl ?_
                                      refine gx_st (L' := [(2, 192), (0, w), (0, b), (0, 4), (0, 4)]) (S' := []) r_205_83 rfl rfl rfl ?_
                                      refine gx_st (L' := [(2, 192), (0, w), (0, b), (0, 4), (0, 4)]) (S' := [(0, 4)]) r_205_32 rfl rfl rfl ?_
                                      refine gx_st (L' := [(2, 192), (0, w), (0, b), (0, 4), (0, 4)]) (S' := [(0, 4), (0, 4)]) r_205_34 rfl rfl rfl ?_
                                      refine gx_ic (P := 4 ≤ 4) r_205_35 (rfl) (fun h35 => ?_) (fun h35 => ?_)
                                      · refine gx_st (L' := [(2, 192), (0, w), (0, b), (0, 4), (0, 4)]) (S' := [(0, 4)]) r_205_86 rfl rfl rfl ?_
                                        exact gx_rt r_205_87 rfl rfl ⟨_, rfl, RestV_c ⟨fun _ => rest_s (by omega), fun z => by omega⟩, rfl⟩
                                      · omega
                                    · have h67 := Decidable.not_not.mp h67
                                      refine gx_st (L' := [(2, 192), (0, w), (0, b), (0, 4), (0, 3)]) (S' := [(0, 1), (0, 4)]) r_205_70 rfl rfl rfl ?_
                                      refine gx_st (L' := [(2, 192), (0, w), (0, b), (0, 4), (0, 3)]) (S' := [(0, 3), (0, 1), (0, 4)]) r_205_71 rfl rfl rfl ?_
                                      refine gx_st (L' := [(2, 192), (0, w), (0, b), (0, 4), (0, 3)]) (S' := [(0, (ishl 1 3)), (0, 4)]) r_205_73 rfl rfl rfl ?_
                                      rw [show (ishl 1 3) = 8 from by decide]
                                      refine gx_st (L' := [(2, 192), (0, w), (0, b), (0, 4), (0, 3)]) (S' := [(0, 8), (0, 4)]) r_205_74 rfl rfl rfl ?_
                                      refine gx_st (L' := [(2, 192), (0, w), (0, b), (0, 4), (0, 3)]) (S' := [(0, (ior 4 8))]) r_205_78 rfl rfl rfl ?_
                                      rw [show (ior 4 8) = 12 from by decide]
                                      refine gx_st (L' := [(2, 192), (0, w), (0, b), (0, 12), (0, 3)]) (S' := []) r_205_79 rfl rfl rfl ?_
                                      refine gx_li (z := 4) (L' := [(2, 192), (0, w), (0, b), (0, 12), (0, 4)]) r_205_80 rfl (w32_eq (by omega) (by omega) (by omega)) rfl ?_
                                      refine gx_st (L' := [(2, 192), (0, w), (0, b), (0, 12), (0, 4)]) (S' := []) r_205_83 rfl rfl rfl ?_
                                      refine gx_st (L' := [(2, 192), (0, w), (0, b), (0, 12), (0, 4)]) (S' := [(0, 4)]) r_205_32 rfl rfl rfl ?_
                                      refine gx_st (L' := [(2, 192), (0, w), (0, b), (0, 12), (0, 4)]) (S' := [(0, 4), (0, 4)]) r_205_34 rfl rfl rfl ?_
                                      refine gx_ic (P := 4 ≤ 4) r_205_35 (rfl) (fun h35 => ?_) (fun h35 => ?_)
                                      · refine gx_st (L' := [(2, 192), (0, w), (0, b), (0, 12), (0, 4)]) (S' := [(0, 12)]) r_205_86 rfl rfl rfl ?_
                                        exact gx_rt r_205_87 rfl rfl ⟨_, rfl, RestV_c ⟨fun _ => rest_s (by omega), fun z => by omega⟩, rfl⟩
                                      · omega
                                · omega
                          · have h54 := Decidable.not_not.mp h54
                            refine gx_st (L' := [(2, 192), (0, w), (0, b), (0, 0), (0, 2)]) (S' := [(0, 1), (0, 0), (0, 0)]) r_205_57 rfl rfl rfl ?_
                            refine gx_st (L' := [(2, 192), (0, w), (0, b), (0, 0), (0, 2)]) (S' := [(0, 1), (0, 0), (0, 0)]) r_205_58 rfl rfl rfl ?_
                            refine gx_st (L' := [(2, 192), (0, w), (0, b), (0, 0), (0, 2)]) (S' := [(0, w), (0, 1), (0, 0), (0, 0)]) r_205_62 rfl rfl rfl ?_
                            refine gx_st (L' := [(2, 192), (0, w), (0, b), (0, 0), (0, 2)]) (S' := [(0, b), (0, w), (0, 1), (0, 0), (0, 0)]) r_205_63 rfl rfl rfl ?_
                            refine gx_ci (nx := 67) (S2 := [(0, 0)]) (x_204_01 w b hw hb) r_205_64 rfl rfl rfl rfl rfl rfl rfl (by decide) rfl (fun x64 n64 q64 => ?_)
                            obtain rfl := q64.1.symm
                            obtain rfl := q64.2.symm
                            show GX T 2 205 67 [(2, 192), (0, w), (0, b), (0, 0), (0, 2)] [(0, (if w ≤ 1 ∧ b / 2 ≤ 1 then 1 else 0)), (0, 0)] m (RI (fun v m1 => v = RestV w b ∧ m1 = m))
                            refine gx_i0 (P := ¬ (w ≤ 1 ∧ b / 2 ≤ 1)) r_205_67 (b01_eq) (fun h67 => ?_) (fun h67 => ?_)
                            · refine gx_st (L' := [(2, 192), (0, w), (0, b), (0, 0), (0, 2)]) (S' := [(0, 0), (0, 0)]) r_205_77 rfl rfl rfl ?_
                              refine gx_st (L' := [(2, 192), (0, w), (0, b), (0, 0), (0, 2)]) (S' := [(0, (ior 0 0))]) r_205_78 rfl rfl rfl ?_
                              rw [show (ior 0 0) = 0 from by decide]
                              refine gx_st (L' := [(2, 192), (0, w), (0, b), (0, 0), (0, 2)]) (S' := []) r_205_79 rfl rfl rfl ?_
                              refine gx_li (z := 3) (L' := [(2, 192), (0, w), (0, b), (0, 0), (0, 3)]) r_205_80 rfl (w32_eq (by omega) (by omega) (by omega)) rfl ?_
                              refine gx_st (L' := [(2, 192), (0, w), (0, b), (0, 0), (0, 3)]) (S' := []) r_205_83 rfl rfl rfl ?_
                              refine gx_st (L' := [(2, 192), (0, w), (0, b), (0, 0), (0, 3)]) (S' := [(0, 3)]) r_205_32 rfl rfl rfl ?_
                              refine gx_st (L' := [(2, 192), (0, w), (0, b), (0, 0), (0, 3)]) (S' := [(0, 4), (0, 3)]) r_205_34 rfl rfl rfl ?_
                              refine gx_ic (P := 4 ≤ 3) r_205_35 (rfl) (fun h35 => ?_) (fun h35 => ?_)
                              · omega
                              · refine gx_st (L' := [(2, 192), (0, w), (0, b), (0, 0), (0, 3)]) (S' := [(0, 0)]) r_205_38 rfl rfl rfl ?_
                                refine gx_st (L' := [(2, 192), (0, w), (0, b), (0, 0), (0, 3)]) (S' := [(0, 3), (0, 0)]) r_205_39 rfl rfl rfl ?_
                                refine gx_st (L' := [(2, 192), (0, w), (0, b), (0, 0), (0, 3)]) (S' := [(0, 2), (0, 3), (0, 0)]) r_205_41 rfl rfl rfl ?_
                                refine gx_ic (P := 2 ≤ 3) r_205_42 (rfl) (fun h42 => ?_) (fun h42 => ?_)
                                · refine gx_st (L' := [(2, 192), (0, w), (0, b), (0, 0), (0, 3)]) (S' := [(0, 0), (0, 0)]) r_205_49 rfl rfl rfl ?_
                                  refine gx_st (L' := [(2, 192), (0, w), (0, b), (0, 0), (0, 3)]) (S' := [(0, 3), (0, 0), (0, 0)]) r_205_50 rfl rfl rfl ?_
                                  refine gx_st (L' := [(2, 192), (0, w), (0, b), (0, 0), (0, 3)]) (S' := [(0, 2), (0, 3), (0, 0), (0, 0)]) r_205_52 rfl rfl rfl ?_
                                  refine gx_rm (z := (3 % 2)) r_205_53 (by decide) (tm_eq (by omega) rfl) ?_
                                  refine gx_i0 (P := ¬ (3 % 2) = 0) r_205_54 (rfl) (fun h54 => ?_) (fun h54 => ?_)
                                  · refine gx_st (L' := [(2, 192), (0, w), (0, b), (0, 0), (0, 3)]) (S' := [(0, 0), (0, 0), (0, 0)]) r_205_61 rfl rfl rfl ?_
                                    refine gx_st (L' := [(2, 192), (0, w), (0, b), (0, 0), (0, 3)]) (S' := [(0, w), (0, 0), (0, 0), (0, 0)]) r_205_62 rfl rfl rfl ?_
                                    refine gx_st (L' := [(2, 192), (0, w), (0, b), (0, 0), (0, 3)]) (S' := [(0, b), (0, w), (0, 0), (0, 0), (0, 0)]) r_205_63 rfl rfl rfl ?_
                                    refine gx_ci (nx := 67) (S2 := [(0, 0)]) (x_204_00 w b hw hb) r_205_64 rfl rfl rfl rfl rfl rfl rfl (by decide) rfl (fun x64 n64 q64 => ?_)
                                    obtain rfl := q64.1.symm
                                    obtain rfl := q64.2.symm
                                    show GX T 2 205 67 [(2, 192), (0, w), (0, b), (0, 0), (0, 3)] [(0, (if 1 ≤ b / 2 then 1 else 0)), (0, 0)] m (RI (fun v m1 => v = RestV w b ∧ m1 = m))
                                    refine gx_i0 (P := ¬ (1 ≤ b / 2)) r_205_67 (b01_eq) (fun h67 => ?_) (fun h67 => ?_)
                                    · refine gx_st (L' := [(2, 192), (0, w), (0, b), (0, 0), (0, 3)]) (S' := [(0, 0), (0, 0)]) r_205_77 rfl rfl rfl ?_
                                      refine gx_st (L' := [(2, 192), (0, w), (0, b), (0, 0), (0, 3)]) (S' := [(0, (ior 0 0))]) r_205_78 rfl rfl rfl ?_
                                      rw [show (ior 0 0) = 0 from by decide]
                                      refine gx_st (L' := [(2, 192), (0, w), (0, b), (0, 0), (0, 3)]) (S' := []) r_205_79 rfl rfl rfl ?_
                                      refine gx_li (z := 4) (L' := [(2, 192), (0, w), (0, b), (0, 0), (0, 4)]) r_205_80 rfl (w32_eq (by omega) (by omega) (by omega)) rfl ?_
                                      refine gx_st (L' := [(2, 192), (0, w), (0, b), (0, 0), (0, 4)]) (S' := []) r_205_83 rfl rfl rfl ?_
                                      refine gx_st (L' := [(2, 192), (0, w), (0, b), (0, 0), (0, 4)]) (S' := [(0, 4)]) r_205_32 rfl rfl rfl ?_
                                      refine gx_st (L' := [(2, 192), (0, w), (0, b), (0, 0), (0, 4)]) (S' := [(0, 4), (0, 4)]) r_205_34 rfl rfl rfl ?_
                                      refine gx_ic (P := 4 ≤ 4) r_205_35 (rfl) (fun h35 => ?_) (fun h35 => ?_)
                                      · refine gx_st (L' := [(2, 192), (0, w), (0, b), (0, 0), (0, 4)]) (S' := [(0, 0)]) r_205_86 rfl rfl rfl ?_
                                        exact gx_rt r_205_87 rfl rfl ⟨_, rfl, RestV_c ⟨fun _ => rest_s (by omega), fun z => by omega⟩, rfl⟩
                                      · omega
                                    · have h67 := Decidable.not_not.mp h67
                                      refine gx_st (L' := [(2, 192), (0, w), (0, b), (0, 0), (0, 3)]) (S' := [(0, 1), (0, 0)]) r_205_70 rfl rfl rfl ?_
                                      refine gx_st (L' := [(2, 192), (0, w), (0, b), (0, 0), (0, 3)]) (S' := [(0, 3), (0, 1), (0, 0)]) r_205_71 rfl rfl rfl ?_
                                      refine gx_st (L' := [(2, 192), (0, w), (0, b), (0, 0), (0, 3)]) (S' := [(0, (ishl 1 3)), (0, 0)]) r_205_73 rfl rfl rfl ?_
                                      rw [show (ishl 1 3) = 8 from by decide]
                                      refine gx_st (L' := [(2, 192), (0, w), (0, b), (0, 0), (0, 3)]) (S' := [(0, 8), (0, 0)]) r_205_74 rfl rfl rfl ?_
                                      refine gx_st (L' := [(2, 192), (0, w), (0, b), (0, 0), (0, 3)]) (S' := [(0, (ior 0 8))]) r_205_78 rfl rfl rfl ?_
                                      rw [show (ior 0 8) = 8 from by decide]
                                      refine gx_st (L' := [(2, 192), (0, w), (0, b), (0, 8), (0, 3)]) (S' := []) r_205_79 rfl rfl rfl ?_
                                      refine gx_li (z := 4) (L' := [(2, 192), (0, w), (0, b), (0, 8), (0, 4)]) r_205_80 rfl (w32_eq (by omega) (by omega) (by omega)) rfl ?_
                                      refine gx_st (L' := [(2, 192), (0, w), (0, b), (0, 8), (0, 4)]) (S' := []) r_205_83 rfl rfl rfl ?_
                                      refine gx_st (L' := [(2, 192), (0, w), (0, b), (0, 8), (0, 4)]) (S' := [(0, 4)]) r_205_32 rfl rfl rfl ?_
                                      refine gx_st (L' := [(2, 192), (0, w), (0, b), (0, 8), (0, 4)]) (S' := [(0, 4), (0, 4)]) r_205_34 rfl rfl rfl ?_
                                      refine gx_ic (P := 4 ≤ 4) r_205_35 (rfl) (fun h35 => ?_) (fun h35 => ?_)
                                      · refine gx_st (L' := [(2, 192), (0, w), (0, b), (0, 8), (0, 4)]) (S' := [(0, 8)]) r_205_86 rfl rfl rfl ?_
                                        exact gx_rt r_205_87 rfl rfl ⟨_, rfl, RestV_c ⟨fun _ => rest_s (by omega), fun z => by omega⟩, rfl⟩
                                      · omega
                                  · have h54 := Decidable.not_not.mp h54
                                    refine gx_st (L' := [(2, 192), (0, w), (0, b), (0, 0), (0, 3)]) (S' := [(0, 1), (0, 0), (0, 0)]) r_205_57 rfl rfl rfl ?_
                                    refine gx_st (L' := [(2, 192), (0, w), (0, b), (0, 0), (0, 3)]) (S' := [(0, 1), (0, 0), (0, 0)]) r_205_58 rfl rfl rfl ?_
                                    refine gx_st (L' := [(2, 192), (0, w), (0, b), (0, 0), (0, 3)]) (S' := [(0, w), (0, 1), (0, 0), (0, 0)]) r_205_62 rfl rfl rfl ?_
                                    refine gx_st (L' := [(2, 192), (0, w), (0, b), (0, 0), (0, 3)]) (S' := [(0, b), (0, w), (0, 1), (0, 0), (0, 0)]) r_205_63 rfl rfl rfl ?_
                                    refine gx_ci (nx := 67) (S2 := [(0, 0)]) (x_204_01 w b hw hb) r_205_64 rfl rfl rfl rfl rfl rfl rfl (by decide) rfl (fun x64 n64 q64 => ?_)
                                    obtain rfl := q64.1.symm
                                    obtain rfl := q64.2.symm
                                    show GX T 2 205 67 [(2, 192), (0, w), (0, b), (0, 0), (0, 3)] [(0, (if w ≤ 1 ∧ b / 2 ≤ 1 then 1 else 0)), (0, 0)] m (RI (fun v m1 => v = RestV w b ∧ m1 = m))
                                    refine gx_i0 (P := ¬ (w ≤ 1 ∧ b / 2 ≤ 1)) r_205_67 (b01_eq) (fun h67 => ?_) (fun h67 => ?_)
                                    · refine gx_st (L' := [(2, 192), (0, w), (0, b), (0, 0), (0, 3)]) (S' := [(0, 0), (0, 0)]) r_205_77 rfl rfl rfl ?_
                                      refine gx_st (L' := [(2, 192), (0, w), (0, b), (0, 0), (0, 3)]) (S' := [(0, (ior 0 0))]) r_205_78 rfl rfl rfl ?_
                                      rw [show (ior 0 0) = 0 from by decide]
                                      refine gx_st (L' := [(2, 192), (0, w), (0, b), (0, 0), (0, 3)]) (S' := []) r_205_79 rfl rfl rfl ?_
                                      refine gx_li (z := 4) (L' := [(2, 192), (0, w), (0, b), (0, 0), (0, 4)]) r_205_80 rfl (w32_eq (by omega) (by omega) (by omega)) rfl ?_
                                      refine gx_st (L' := [(2, 192), (0, w), (0, b), (0, 0), (0, 4)]) (S' := []) r_205_83 rfl rfl rfl ?_
                                      refine gx_st (L' := [(2, 192), (0, w), (0, b), (0, 0), (0, 4)]) (S' := [(0, 4)]) r_205_32 rfl rfl rfl ?_
                                      refine gx_st (L' := [(2, 192), (0, w), (0, b), (0, 0), (0, 4)]) (S' := [(0, 4), (0, 4)]) r_205_34 rfl rfl rfl ?_
                                      refine gx_ic (P := 4 ≤ 4) r_205_35 (rfl) (fun h35 => ?_) (fun h35 => ?_)
                                      · refine gx_st (L' := [(2, 192), (0, w), (0, b), (0, 0), (0, 4)]) (S' := [(0, 0)]) r_205_86 rfl rfl rfl ?_
                                        exact gx_rt r_205_87 rfl rfl ⟨_, rfl, RestV_c ⟨fun _ => rest_s (by omega), fun z => by omega⟩, rfl⟩
                                      · omega
                                    · have h67 := Decidable.not_not.mp h67
                                      refine gx_st (L' := [(2, 192), (0, w), (0, b), (0, 0), (0, 3)]) (S' := [(0, 1), (0, 0)]) r_205_70 rfl rfl rfl ?_
                                      refine gx_st (L' := [(2, 192), (0, w), (0, b), (0, 0), (0, 3)]) (S' := [(0, 3), (0, 1), (0, 0)]) r_205_71 rfl rfl rfl ?_
                                      refine gx_st (L' := [(2, 192), (0, w), (0, b), (0, 0), (0, 3)]) (S' := [(0, (ishl 1 3)), (0, 0)]) r_205_73 rfl rfl rfl ?_
                                      rw [show (ishl 1 3) = 8 from by decide]
                                      refine gx_st (L' := [(2, 192), (0, w), (0, b), (0, 0), (0, 3)]) (S' := [(0, 8), (0, 0)]) r_205_74 rfl rfl rfl ?_
                                      refine gx_st (L' := [(2, 192), (0, w), (0, b), (0, 0), (0, 3)]) (S' := [(0, (ior 0 8))]) r_205_78 rfl rfl rfl ?_
                                      rw [show (ior 0 8) = 8 from by decide]
                                      refine gx_st (L' := [(2, 192), (0, w), (0, b), (0, 8), (0, 3)]) (S' := []) r_205_79 rfl rfl rfl ?_
                                      refine gx_li (z := 4) (L' := [(2, 192), (0, w), (0, b), (0, 8), (0, 4)]) r_205_80 rfl (w32_eq (by omega) (by omega) (by omega)) rfl ?_
                                      refine gx_st (L' := [(2, 192), (0, w), (0, b), (0, 8), (0, 4)]) (S' := []) r_205_83 rfl rfl rfl ?_
                                      refine gx_st (L' := [(2, 192), (0, w), (0, b), (0, 8), (0, 4)]) (S' := [(0, 4)]) r_205_32 rfl rfl rfl ?_
                                      refine gx_st (L' := [(2, 192), (0, w), (0, b), (0, 8), (0, 4)]) (S' := [(0, 4), (0, 4)]) r_205_34 rfl rfl rfl ?_
                                      refine gx_ic (P := 4 ≤ 4) r_205_35 (rfl) (fun h35 => ?_) (fun h35 => ?_)
                                      · refine gx_st (L' := [(2, 192), (0, w), (0, b), (0, 8), (0, 4)]) (S' := [(0, 8)]) r_205_86 rfl rfl rfl ?_
                                        exact gx_rt r_205_87 rfl rfl ⟨_, rfl, RestV_c ⟨fun _ => rest_s (by omega), fun z => by omega⟩, rfl⟩
                                      · omega
                                · omega
                            · have h67 := Decidable.not_not.mp h67
                              refine gx_st (L' := [(2, 192), (0, w), (0, b), (0, 0), (0, 2)]) (S' := [(0, 1), (0, 0)]) r_205_70 rfl rfl rfl ?_
                              refine gx_st (L' := [(2, 192), (0, w), (0, b), (0, 0), (0, 2)]) (S' := [(0, 2), (0, 1), (0, 0)]) r_205_71 rfl rfl rfl ?_
                              refine gx_st (L' := [(2, 192), (0, w), (0, b), (0, 0), (0, 2)]) (S' := [(0, (ishl 1 2)), (0, 0)]) r_205_73 rfl rfl rfl ?_
                              rw [show (ishl 1 2) = 4 from by decide]
                              refine gx_st (L' := [(2, 192), (0, w), (0, b), (0, 0), (0, 2)]) (S' := [(0, 4), (0, 0)]) r_205_74 rfl rfl rfl ?_
                              refine gx_st (L' := [(2, 192), (0, w), (0, b), (0, 0), (0, 2)]) (S' := [(0, (ior 0 4))]) r_205_78 rfl rfl rfl ?_
                              rw [show (ior 0 4) = 4 from by decide]
                              refine gx_st (L' := [(2, 192), (0, w), (0, b), (0, 4), (0, 2)]) (S' := []) r_205_79 rfl rfl rfl ?_
                              refine gx_li (z := 3) (L' := [(2, 192), (0, w), (0, b), (0, 4), (0, 3)]) r_205_80 rfl (w32_eq (by omega) (by omega) (by omega)) rfl ?_
                              refine gx_st (L' := [(2, 192), (0, w), (0, b), (0, 4), (0, 3)]) (S' := []) r_205_83 rfl rfl rfl ?_
                              refine gx_st (L' := [(2, 192), (0, w), (0, b), (0, 4), (0, 3)]) (S' := [(0, 3)]) r_205_32 rfl rfl rfl ?_
                              refine gx_st (L' := [(2, 192), (0, w), (0, b), (0, 4), (0, 3)]) (S' := [(0, 4), (0, 3)]) r_205_34 rfl rfl rfl ?_
                              refine gx_ic (P := 4 ≤ 3) r_205_35 (rfl) (fun h35 => ?_) (fun h35 => ?_)
                              · omega
                              · refine gx_st (L' := [(2, 192), (0, w), (0, b), (0, 4), (0, 3)]) (S' := [(0, 4)]) r_205_38 rfl rfl rfl ?_
                                refine gx_st (L' := [(2, 192), (0, w), (0, b), (0, 4), (0, 3)]) (S' := [(0, 3), (0, 4)]) r_205_39 rfl rfl rfl ?_
                                refine gx_st (L' := [(2, 192), (0, w), (0, b), (0, 4), (0, 3)]) (S' := [(0, 2), (0, 3), (0, 4)]) r_205_41 rfl rfl rfl ?_
                                refine gx_ic (P := 2 ≤ 3) r_205_42 (rfl) (fun h42 => ?_) (fun h42 => ?_)
                                · refine gx_st (L' := [(2, 192), (0, w), (0, b), (0, 4), (0, 3)]) (S' := [(0, 0), (0, 4)]) r_205_49 rfl rfl rfl ?_
                                  refine gx_st (L' := [(2, 192), (0, w), (0, b), (0, 4), (0, 3)]) (S' := [(0, 3), (0, 0), (0, 4)]) r_205_50 rfl rfl rfl ?_
                                  refine gx_st (L' := [(2, 192), (0, w), (0, b), (0, 4), (0, 3)]) (S' := [(0, 2), (0, 3), (0, 0), (0, 4)]) r_205_52 rfl rfl rfl ?_
                                  refine gx_rm (z := (3 % 2)) r_205_53 (by decide) (tm_eq (by omega) rfl) ?_
                                  refine gx_i0 (P := ¬ (3 % 2) = 0) r_205_54 (rfl) (fun h54 => ?_) (fun h54 => ?_)
                                  · refine gx_st (L' := [(2, 192), (0, w), (0, b), (0, 4), (0, 3)]) (S' := [(0, 0), (0, 0), (0, 4)]) r_205_61 rfl rfl rfl ?_
                                    refine gx_st (L' := [(2, 192), (0, w), (0, b), (0, 4), (0, 3)]) (S' := [(0, w), (0, 0), (0, 0), (0, 4)]) r_205_62 rfl rfl rfl ?_
                                    refine gx_st (L' := [(2, 192), (0, w), (0, b), (0, 4), (0, 3)]) (S' := [(0, b), (0, w), (0, 0), (0, 0), (0, 4)]) r_205_63 rfl rfl rfl ?_
                                    refine gx_ci (nx := 67) (S2 := [(0, 4)]) (x_204_00 w b hw hb) r_205_64 rfl rfl rfl rfl rfl rfl rfl (by decide) rfl (fun x64 n64 q64 => ?_)
                                    obtain rfl := q64.1.symm
                                    obtain rfl := q64.2.symm
                                    show GX T 2 205 67 [(2, 192), (0, w), (0, b), (0, 4), (0, 3)] [(0, (if 1 ≤ b / 2 then 1 else 0)), (0, 4)] m (RI (fun v m1 => v = RestV w b ∧ m1 = m))
                                    refine gx_i0 (P := ¬ (1 ≤ b / 2)) r_205_67 (b01_eq) (fun h67 => ?_) (fun h67 => ?_)
                                    · refine gx_st (L' := [(2, 192), (0, w), (0, b), (0, 4), (0, 3)]) (S' := [(0, 0), (0, 4)]) r_205_77 rfl rfl rfl ?_
                                      refine gx_st (L' := [(2, 192), (0, w), (0, b), (0, 4), (0, 3)]) (S' := [(0, (ior 4 0))]) r_205_78 rfl rfl rfl ?_
                                      rw [show (ior 4 0) = 4 from by decide]
                                      refine gx_st (L' := [(2, 192), (0, w), (0, b), (0, 4), (0, 3)]) (S' := []) r_205_79 rfl rfl rfl ?_
                                      refine gx_li (z := 4) (L' := [(2, 192), (0, w), (0, b), (0, 4), (0, 4)]) r_205_80 rfl (w32_eq (by omega) (by omega) (by omega)) rfl ?_
                                      refine gx_st (L' := [(2, 192), (0, w), (0, b), (0, 4), (0, 4)]) (S' := []) r_205_83 rfl rfl rfl ?_
                                      refine gx_st (L' := [(2, 192), (0, w), (0, b), (0, 4), (0, 4)]) (S' := [(0, 4)]) r_205_32 rfl rfl rfl ?_
                                      refine gx_st (L' := [(2, 192), (0, w), (0, b), (0, 4), (0, 4)]) (S' := [(0, 4), (0, 4)]) r_205_34 rfl rfl rfl ?_
                                      refine gx_ic (P := 4 ≤ 4) r_205_35 (rfl) (fun h35 => ?_) (fun h35 => ?_)
                                      · refine gx_st (L' := [(2, 192), (0, w), (0, b), (0, 4), (0, 4)]) (S' := [(0, 4)]) r_205_86 rfl rfl rfl ?_
                                        exact gx_rt r_205_87 rfl rfl ⟨_, rfl, RestV_c ⟨fun _ => rest_s (by omega), fun z => by omega⟩, rfl⟩
                                      · omega
                                    · have h67 := Decidable.not_not.mp h67
                                      refine gx_st (L' := [(2, 192), (0, w), (0, b), (0, 4), (0, 3)]) (S' := [(0, 1), (0, 4)]) r_205_70 rfl rfl rfl ?_
                                      refine gx_st (L' := [(2, 192), (0, w), (0, b), (0, 4), (0, 3)]) (S' := [(0, 3), (0, 1), (0, 4)]) r_205_71 rfl rfl rfl ?_
                                      refine gx_st (L' := [(2, 192), (0, w), (0, b), (0, 4), (0, 3)]) (S' := [(0, (ishl 1 3)), (0, 4)]) r_205_73 rfl rfl rfl ?_
                                      rw [show (ishl 1 3) = 8 from by decide]
                                      refine gx_st (L' := [(2, 192), (0, w), (0, b), (0, 4), (0, 3)]) (S' := [(0, 8), (0, 4)]) r_205_74 rfl rfl rfl ?_
                                      refine gx_st (L' := [(2, 192), (0, w), (0, b), (0, 4), (0, 3)]) (S' := [(0, (ior 4 8))]) r_205_78 rfl rfl rfl ?_
                                      rw [show (ior 4 8) = 12 from by decide]
                                      refine gx_st (L' := [(2, 192), (0, w), (0, b), (0, 12), (0, 3)]) (S' := []) r_205_79 rfl rfl rfl ?_
                                      refine gx_li (z := 4) (L' := [(2, 192), (0, w), (0, b), (0, 12), (0, 4)]) r_205_80 rfl (w32_eq (by omega) (by omega) (by omega)) rfl ?_
                                      refine gx_st (L' := [(2, 192), (0, w), (0, b), (0, 12), (0, 4)]) (S' := []) r_205_83 rfl rfl rfl ?_
                                      refine gx_st (L' := [(2, 192), (0, w), (0, b), (0, 12), (0, 4)]) (S' := [(0, 4)]) r_205_32 rfl rfl rfl ?_
                                      refine gx_st (L' := [(2, 192), (0, w), (0, b), (0, 12), (0, 4)]) (S' := [(0, 4), (0, 4)]) r_205_34 rfl rfl rfl ?_
                                      refine gx_ic (P := 4 ≤ 4) r_205_35 (rfl) (fun h35 => ?_) (fun h35 => ?_)
                                      · refine gx_st (L' := [(2, 192), (0, w), (0, b), (0, 12), (0, 4)]) (S' := [(0, 12)]) r_205_86 rfl rfl rfl ?_
                                        exact gx_rt r_205_87 rfl rfl ⟨_, rfl, RestV_c ⟨fun _ => rest_s (by omega), fun z => by omega⟩, rfl⟩
                                      · omega
                                  · have h54 := Decidable.not_not.mp h54
                                    refine gx_st (L' := [(2, 192), (0, w), (0, b), (0, 4), (0, 3)]) (S' := [(0, 1), (0, 0), (0, 4)]) r_205_57 rfl rfl rfl ?_
                                    refine gx_st (L' := [(2, 192), (0, w), (0, b), (0, 4), (0, 3)]) (S' := [(0, 1), (0, 0), (0, 4)]) r_205_58 rfl rfl rfl ?_
                                    refine gx_st (L' := [(2, 192), (0, w), (0, b), (0, 4), (0, 3)]) (S' := [(0, w), (0, 1), (0, 0), (0, 4)]) r_205_62 rfl rfl rfl ?_
                                    refine gx_st (L' := [(2, 192), (0, w), (0, b), (0, 4), (0, 3)]) (S' := [(0, b), (0, w), (0, 1), (0, 0), (0, 4)]) r_205_63 rfl rfl rfl ?_
                                    refine gx_ci (nx := 67) (S2 := [(0, 4)]) (x_204_01 w b hw hb) r_205_64 rfl rfl rfl rfl rfl rfl rfl (by decide) rfl (fun x64 n64 q64 => ?_)
                                    obtain rfl := q64.1.symm
                                    obtain rfl := q64.2.symm
                                    show GX T 2 205 67 [(2, 192), (0, w), (0, b), (0, 4), (0, 3)] [(0, (if w ≤ 1 ∧ b / 2 ≤ 1 then 1 else 0)), (0, 4)] m (RI (fun v m1 => v = RestV w b ∧ m1 = m))
                                    refine gx_i0 (P := ¬ (w ≤ 1 ∧ b / 2 ≤ 1)) r_205_67 (b01_eq) (fun h67 => ?_) (fun h67 => ?_)
                                    · refine gx_st (L' := [(2, 192), (0, w), (0, b), (0, 4), (0, 3)]) (S' := [(0, 0), (0, 4)]) r_205_77 rfl rfl rfl ?_
                                      refine gx_st (L' := [(2, 192), (0, w), (0, b), (0, 4), (0, 3)]) (S' := [(0, (ior 4 0))]) r_205_78 rfl rfl rfl ?_
                                      rw [show (ior 4 0) = 4 from by decide]
                                      refine gx_st (L' := [(2, 192), (0, w), (0, b), (0, 4), (0, 3)]) (S' := []) r_205_79 rfl rfl rfl ?_
                                      refine gx_li (z := 4) (L' := [(2, 192), (0, w), (0, b), (0, 4), (0, 4)]) r_205_80 rfl (w32_eq (by omega) (by omega) (by omega)) rfl ?_
                                      refine gx_st (L' := [(2, 192), (0, w), (0, b), (0, 4), (0, 4)]) (S' := []) r_205_83 rfl rfl rfl ?_
                                      refine gx_st (L' := [(2, 192), (0, w), (0, b), (0, 4), (0, 4)]) (S' := [(0, 4)]) r_205_32 rfl rfl rfl ?_
                                      refine gx_st (L' := [(2, 192), (0, w), (0, b), (0, 4), (0, 4)]) (S' := [(0, 4), (0, 4)]) r_205_34 rfl rfl rfl ?_
                                      refine gx_ic (P := 4 ≤ 4) r_205_35 (rfl) (fun h35 => ?_) (fun h35 => ?_)
                                      · refine gx_st (L' := [(2, 192), (0, w), (0, b), (0, 4), (0, 4)]) (S' := [(0, 4)]) r_205_86 rfl rfl rfl ?_
                                        exact gx_rt r_205_87 rfl rfl ⟨_, rfl, RestV_c ⟨fun _ => rest_s (by omega), fun z => by omega⟩, rfl⟩
                                      · omega
                                    · have h67 := Decidable.not_not.mp h67
                                      refine gx_st (L' := [(2, 192), (0, w), (0, b), (0, 4), (0, 3)]) (S' := [(0, 1), (0, 4)]) r_205_70 rfl rfl rfl ?_
                                      refine gx_st (L' := [(2, 192), (0, w), (0, b), (0, 4), (0, 3)]) (S' := [(0, 3), (0, 1), (0, 4)]) r_205_71 rfl rfl rfl ?_
                                      refine gx_st (L' := [(2, 192), (0, w), (0, b), (0, 4), (0, 3)]) (S' := [(0, (ishl 1 3)), (0, 4)]) r_205_73 rfl rfl rfl ?_
                                      rw [show (ishl 1 3) = 8 from by decide]
                                      refine gx_st (L' := [(2, 192), (0, w), (0, b), (0, 4), (0, 3)]) (S' := [(0, 8), (0, 4)]) r_205_74 rfl rfl rfl ?_
                                      refine gx_st (L' := [(2, 192), (0, w), (0, b), (0, 4), (0, 3)]) (S' := [(0, (ior 4 8))]) r_205_78 rfl rfl rfl ?_
                                      rw [show (ior 4 8) = 12 from by decide]
                                      refine gx_st (L' := [(2, 192), (0, w), (0, b), (0, 12), (0, 3)]) (S' := []) r_205_79 rfl rfl rfl ?_
                                      refine gx_li (z := 4) (L' := [(2, 192), (0, w), (0, b), (0, 12), (0, 4)]) r_205_80 rfl (w32_eq (by omega) (by omega) (by omega)) rfl ?_
                                      refine gx_st (L' := [(2, 192), (0, w), (0, b), (0, 12), (0, 4)]) (S' := []) r_205_83 rfl rfl rfl ?_
                                      refine gx_st (L' := [(2, 192), (0, w), (0, b), (0, 12), (0, 4)]) (S' := [(0, 4)]) r_205_32 rfl rfl rfl ?_
                                      refine gx_st (L' := [(2, 192), (0, w), (0, b), (0, 12), (0, 4)]) (S' := [(0, 4), (0, 4)]) r_205_34 rfl rfl rfl ?_
                                      refine gx_ic (P := 4 ≤ 4) r_205_35 (rfl) (fun h35 => ?_) (fun h35 => ?_)
                                      · refine gx_st (L' := [(2, 192), (0, w), (0, b), (0, 12), (0, 4)]) (S' := [(0, 12)]) r_205_86 rfl rfl rfl ?_
                                        exact gx_rt r_205_87 rfl rfl ⟨_, rfl, RestV_c ⟨fun _ => rest_s (by omega), fun z => by omega⟩, rfl⟩
                                      · omega
                                · omega
                        · omega
                    · omega
                  · have h54 := Decidable.not_not.mp h54
                    refine gx_st (L' := [(2, 192), (0, w), (0, b), (0, 0), (0, 1)]) (S' := [(0, 1), (0, 1), (0, 0)]) r_205_57 rfl rfl rfl ?_
                    refine gx_st (L' := [(2, 192), (0, w), (0, b), (0, 0), (0, 1)]) (S' := [(0, 1), (0, 1), (0, 0)]) r_205_58 rfl rfl rfl ?_
                    refine gx_st (L' := [(2, 192), (0, w), (0, b), (0, 0), (0, 1)]) (S' := [(0, w), (0, 1), (0, 1), (0, 0)]) r_205_62 rfl rfl rfl ?_
                    refine gx_st (L' := [(2, 192), (0, w), (0, b), (0, 0), (0, 1)]) (S' := [(0, b), (0, w), (0, 1), (0, 1), (0, 0)]) r_205_63 rfl rfl rfl ?_
                    refine gx_ci (nx := 67) (S2 := [(0, 0)]) (x_204_11 w b hw hb) r_205_64 rfl rfl rfl rfl rfl rfl rfl (by decide) rfl (fun x64 n64 q64 => ?_)
                    obtain rfl := q64.1.symm
                    obtain rfl := q64.2.symm
                    show GX T 2 205 67 [(2, 192), (0, w), (0, b), (0, 0), (0, 1)] [(0, (if 1 ≤ w ∧ b ≤ 2 then 1 else 0)), (0, 0)] m (RI (fun v m1 => v = RestV w b ∧ m1 = m))
                    refine gx_i0 (P := ¬ (1 ≤ w ∧ b ≤ 2)) r_205_67 (b01_eq) (fun h67 => ?_) (fun h67 => ?_)
                    · refine gx_st (L' := [(2, 192), (0, w), (0, b), (0, 0), (0, 1)]) (S' := [(0, 0), (0, 0)]) r_205_77 rfl rfl rfl ?_
                      refine gx_st (L' := [(2, 192), (0, w), (0, b), (0, 0), (0, 1)]) (S' := [(0, (ior 0 0))]) r_205_78 rfl rfl rfl ?_
                      rw [show (ior 0 0) = 0 from by decide]
                      refine gx_st (L' := [(2, 192), (0, w), (0, b), (0, 0), (0, 1)]) (S' := []) r_205_79 rfl rfl rfl ?_
                      refine gx_li (z := 2) (L' := [(2, 192), (0, w), (0, b), (0, 0), (0, 2)]) r_205_80 rfl (w32_eq (by omega) (by omega) (by omega)) rfl ?_
                      refine gx_st (L' := [(2, 192), (0, w), (0, b), (0, 0), (0, 2)]) (S' := []) r_205_83 rfl rfl rfl ?_
                      refine gx_st (L' := [(2, 192), (0, w), (0, b), (0, 0), (0, 2)]) (S' := [(0, 2)]) r_205_32 rfl rfl rfl ?_
                      refine gx_st (L' := [(2, 192), (0, w), (0, b), (0, 0), (0, 2)]) (S' := [(0, 4), (0, 2)]) r_205_34 rfl rfl rfl ?_
                      refine gx_ic (P := 4 ≤ 2) r_205_35 (rfl) (fun h35 => ?_) (fun h35 => ?_)
                      · omega
                      · refine gx_st (L' := [(2, 192), (0, w), (0, b), (0, 0), (0, 2)]) (S' := [(0, 0)]) r_205_38 rfl rfl rfl ?_
                        refine gx_st (L' := [(2, 192), (0, w), (0, b), (0, 0), (0, 2)]) (S' := [(0, 2), (0, 0)]) r_205_39 rfl rfl rfl ?_
                        refine gx_st (L' := [(2, 192), (0, w), (0, b), (0, 0), (0, 2)]) (S' := [(0, 2), (0, 2), (0, 0)]) r_205_41 rfl rfl rfl ?_
                        refine gx_ic (P := 2 ≤ 2) r_205_42 (rfl) (fun h42 => ?_) (fun h42 => ?_)
                        · refine gx_st (L' := [(2, 192), (0, w), (0, b), (0, 0), (0, 2)]) (S' := [(0, 0), (0, 0)]) r_205_49 rfl rfl rfl ?_
                          refine gx_st (L' := [(2, 192), (0, w), (0, b), (0, 0), (0, 2)]) (S' := [(0, 2), (0, 0), (0, 0)]) r_205_50 rfl rfl rfl ?_
                          refine gx_st (L' := [(2, 192), (0, w), (0, b), (0, 0), (0, 2)]) (S' := [(0, 2), (0, 2), (0, 0), (0, 0)]) r_205_52 rfl rfl rfl ?_
                          refine gx_rm (z := (2 % 2)) r_205_53 (by decide) (tm_eq (by omega) rfl) ?_
                          refine gx_i0 (P := ¬ (2 % 2) = 0) r_205_54 (rfl) (fun h54 => ?_) (fun h54 => ?_)
                          · refine gx_st (L' := [(2, 192), (0, w), (0, b), (0, 0), (0, 2)]) (S' := [(0, 0), (0, 0), (0, 0)]) r_205_61 rfl rfl rfl ?_
                            refine gx_st (L' := [(2, 192), (0, w), (0, b), (0, 0), (0, 2)]) (S' := [(0, w), (0, 0), (0, 0), (0, 0)]) r_205_62 rfl rfl rfl ?_
                            refine gx_st (L' := [(2, 192), (0, w), (0, b), (0, 0), (0, 2)]) (S' := [(0, b), (0, w), (0, 0), (0, 0), (0, 0)]) r_205_63 rfl rfl rfl ?_
                            refine gx_ci (nx := 67) (S2 := [(0, 0)]) (x_204_00 w b hw hb) r_205_64 rfl rfl rfl rfl rfl rfl rfl (by decide) rfl (fun x64 n64 q64 => ?_)
                            obtain rfl := q64.1.symm
                            obtain rfl := q64.2.symm
                            show GX T 2 205 67 [(2, 192), (0, w), (0, b), (0, 0), (0, 2)] [(0, (if 1 ≤ b / 2 then 1 else 0)), (0, 0)] m (RI (fun v m1 => v = RestV w b ∧ m1 = m))
                            refine gx_i0 (P := ¬ (1 ≤ b / 2)) r_205_67 (b01_eq) (fun h67 => ?_) (fun h67 => ?_)
                            · refine gx_st (L' := [(2, 192), (0, w), (0, b), (0, 0), (0, 2)]) (S' := [(0, 0), (0, 0)]) r_205_77 rfl rfl rfl ?_
                              refine gx_st (L' := [(2, 192), (0, w), (0, b), (0, 0), (0, 2)]) (S' := [(0, (ior 0 0))]) r_205_78 rfl rfl rfl ?_
                              rw [show (ior 0 0) = 0 from by decide]
                              refine gx_st (L' := [(2, 192), (0, w), (0, b), (0, 0), (0, 2)]) (S' := []) r_205_79 rfl rfl rfl ?_
                              refine gx_li (z := 3) (L' := [(2, 192), (0, w), (0, b), (0, 0), (0, 3)]) r_205_80 rfl (w32_eq (by omega) (by omega) (by omega)) rfl ?_
                              refine gx_st (L' := [(2, 192), (0, w), (0, b), (0, 0), (0, 3)]) (S' := []) r_205_83 rfl rfl rfl ?_
                              refine gx_st (L' := [(2, 192), (0, w), (0, b), (0, 0), (0, 3)]) (S' := [(0, 3)]) r_205_32 rfl rfl rfl ?_
                              refine gx_st (L' := [(2, 192), (0, w), (0, b), (0, 0), (0, 3)]) (S' := [(0, 4), (0, 3)]) r_205_34 rfl rfl rfl ?_
                              refine gx_ic (P := 4 ≤ 3) r_205_35 (rfl) (fun h35 => ?_) (fun h35 => ?_)
                              · omega
                              · refine gx_st (L' := [(2, 192), (0, w), (0, b), (0, 0), (0, 3)]) (S' := [(0, 0)]) r_205_38 rfl rfl rfl ?_
                                refine gx_st (L' := [(2, 192), (0, w), (0, b), (0, 0), (0, 3)]) (S' := [(0, 3), (0, 0)]) r_205_39 rfl rfl rfl ?_
                                refine gx_st (L' := [(2, 192), (0, w), (0, b), (0, 0), (0, 3)]) (S' := [(0, 2), (0, 3), (0, 0)]) r_205_41 rfl rfl rfl ?_
                                refine gx_ic (P := 2 ≤ 3) r_205_42 (rfl) (fun h42 => ?_) (fun h42 => ?_)
                                · refine gx_st (L' := [(2, 192), (0, w), (0, b), (0, 0), (0, 3)]) (S' := [(0, 0), (0, 0)]) r_205_49 rfl rfl rfl ?_
                                  refine gx_st (L' := [(2, 192), (0, w), (0, b), (0, 0), (0, 3)]) (S' := [(0, 3), (0, 0), (0, 0)]) r_205_50 rfl rfl rfl ?_
                                  refine gx_st (L' := [(2, 192), (0, w), (0, b), (0, 0), (0, 3)]) (S' := [(0, 2), (0, 3), (0, 0), (0, 0)]) r_205_52 rfl rfl rfl ?_
                                  refine gx_rm (z := (3 % 2)) r_205_53 (by decide) (tm_eq (by omega) rfl) ?_
                                  refine gx_i0 (P := ¬ (3 % 2) = 0) r_205_54 (rfl) (fun h54 => ?_) (fun h54 => ?_)
                                  · refine gx_st (L' := [(2, 192), (0, w), (0, b), (0, 0), (0, 3)]) (S' := [(0, 0), (0, 0), (0, 0)]) r_205_61 rfl rfl rfl ?_
                                    refine gx_st (L' := [(2, 192), (0, w), (0, b), (0, 0), (0, 3)]) (S' := [(0, w), (0, 0), (0, 0), (0, 0)]) r_205_62 rfl rfl rfl ?_
                                    refine gx_st (L' := [(2, 192), (0, w), (0, b), (0, 0), (0, 3)]) (S' := [(0, b), (0, w), (0, 0), (0, 0), (0, 0)]) r_205_63 rfl rfl rfl ?_
                                    refine gx_ci (nx := 67) (S2 := [(0, 0)]) (x_204_00 w b hw hb) r_205_64 rfl rfl rfl rfl rfl rfl rfl (by decide) rfl (fun x64 n64 q64 => ?_)
                                    obtain rfl := q64.1.symm
                                    obtain rfl := q64.2.symm
                                    show GX T 2 205 67 [(2, 192), (0, w), (0, b), (0, 0), (0, 3)] [(0, (if 1 ≤ b / 2 then 1 else 0)), (0, 0)] m (RI (fun v m1 => v = RestV w b ∧ m1 = m))
                                    refine gx_i0 (P := ¬ (1 ≤ b / 2)) r_205_67 (b01_eq) (fun h67 => ?_) (fun h67 => ?_)
                                    · refine gx_st (L' := [(2, 192), (0, w), (0, b), (0, 0), (0, 3)]) (S' := [(0, 0), (0, 0)]) r_205_77 rfl rfl rfl ?_
                                      refine gx_st (L' := [(2, 192), (0, w), (0, b), (0, 0), (0, 3)]) (S' := [(0, (ior 0 0))]) r_205_78 rfl rfl rfl ?_
                                      rw [show (ior 0 0) = 0 from by decide]
                                      refine gx_st (L' := [(2, 192), (0, w), (0, b), (0, 0), (0, 3)]) (S' := []) r_205_79 rfl rfl rfl ?_
                                      refine gx_li (z := 4) (L' := [(2, 192), (0, w), (0, b), (0, 0), (0, 4)]) r_205_80 rfl (w32_eq (by omega) (by omega) (by omega)) rfl ?_
                                      refine gx_st (L' := [(2, 192), (0, w), (0, b), (0, 0), (0, 4)]) (S' := []) r_205_83 rfl rfl rfl ?_
                                      refine gx_st (L' := [(2, 192), (0, w), (0, b), (0, 0), (0, 4)]) (S' := [(0, 4)]) r_205_32 rfl rfl rfl ?_
                                      refine gx_st (L' := [(2, 192), (0, w), (0, b), (0, 0), (0, 4)]) (S' := [(0, 4), (0, 4)]) r_205_34 rfl rfl rfl ?_
                                      refine gx_ic (P := 4 ≤ 4) r_205_35 (rfl) (fun h35 => ?_) (fun h35 => ?_)
                                      · refine gx_st (L' := [(2, 192), (0, w), (0, b), (0, 0), (0, 4)]) (S' := [(0, 0)]) r_205_86 rfl rfl rfl ?_
                                        exact gx_rt r_205_87 rfl rfl ⟨_, rfl, RestV_c ⟨fun _ => rest_s (by omega), fun z => by omega⟩, rfl⟩
                                      · omega
                                    · have h67 := Decidable.not_not.mp h67
                                      refine gx_st (L' := [(2, 192), (0, w), (0, b), (0, 0), (0, 3)]) (S' := [(0, 1), (0, 0)]) r_205_70 rfl rfl rfl ?_
                                      refine gx_st (L' := [(2, 192), (0, w), (0, b), (0, 0), (0, 3)]) (S' := [(0, 3), (0, 1), (0, 0)]) r_205_71 rfl rfl rfl ?_
                                      refine gx_st (L' := [(2, 192), (0, w), (0, b), (0, 0), (0, 3)]) (S' := [(0, (ishl 1 3)), (0, 0)]) r_205_73 rfl rfl rfl ?_
                                      rw [show (ishl 1 3) = 8 from by decide]
                                      refine gx_st (L' := [(2, 192), (0, w), (0, b), (0, 0), (0, 3)]) (S' := [(0, 8), (0, 0)]) r_205_74 rfl rfl rfl ?_
                                      refine gx_st (L' := [(2, 192), (0, w), (0, b), (0, 0), (0, 3)]) (S' := [(0, (ior 0 8))]) r_205_78 rfl rfl rfl ?_
                                      rw [show (ior 0 8) = 8 from by decide]
                                      refine gx_st (L' := [(2, 192), (0, w), (0, b), (0, 8), (0, 3)]) (S' := []) r_205_79 rfl rfl rfl ?_
                                      refine gx_li (z := 4) (L' := [(2, 192), (0, w), (0, b), (0, 8), (0, 4)]) r_205_80 rfl (w32_eq (by omega) (by omega) (by omega)) rfl ?_
                                      refine gx_st (L' := [(2, 192), (0, w), (0, b), (0, 8), (0, 4)]) (S' := []) r_205_83 rfl rfl rfl ?_
                                      refine gx_st (L' := [(2, 192), (0, w), (0, b), (0, 8), (0, 4)]) (S' := [(0, 4)]) r_205_32 rfl rfl rfl ?_
                                      refine gx_st (L' := [(2, 192), (0, w), (0, b), (0, 8), (0, 4)]) (S' := [(0, 4), (0, 4)]) r_205_34 rfl rfl rfl ?_
                                      refine gx_ic (P := 4 ≤ 4) r_205_35 (rfl) (fun h35 => ?_) (fun h35 => ?_)
                                      · refine gx_st (L' := [(2, 192), (0, w), (0, b), (0, 8), (0, 4)]) (S' := [(0, 8)]) r_205_86 rfl rfl rfl ?_
                                        exact gx_rt r_205_87 rfl rfl ⟨_, rfl, RestV_c ⟨fun _ => rest_s (by omega), fun z => by omega⟩, rfl⟩
                                      · omega
                                  · have h54 := Decidable.not_not.mp h54
                                    refine gx_st (L' := [(2, 192), (0, w), (0, b), (0, 0), (0, 3)]) (S' := [(0, 1), (0, 0), (0, 0)]) r_205_57 rfl rfl rfl ?_
                                    refine gx_st (L' := [(2, 192), (0, w), (0, b), (0, 0), (0, 3)]) (S' := [(0, 1), (0, 0), (0, 0)]) r_205_58 rfl rfl rfl ?_
                                    refine gx_st (L' := [(2, 192), (0, w), (0, b), (0, 0), (0, 3)]) (S' := [(0, w), (0, 1), (0, 0), (0, 0)]) r_205_62 rfl rfl rfl ?_
                                    refine gx_st (L' := [(2, 192), (0, w), (0, b), (0, 0), (0, 3)]) (S' := [(0, b), (0, w), (0, 1), (0, 0), (0, 0)]) r_205_63 rfl rfl rfl ?_
                                    refine gx_ci (nx := 67) (S2 := [(0, 0)]) (x_204_01 w b hw hb) r_205_64 rfl rfl rfl rfl rfl rfl rfl (by decide) rfl (fun x64 n64 q64 => ?_)
                                    obtain rfl := q64.1.symm
                                    obtain rfl := q64.2.symm
                                    show GX T 2 205 67 [(2, 192), (0, w), (0, b), (0, 0), (0, 3)] [(0, (if w ≤ 1 ∧ b / 2 ≤ 1 then 1 else 0)), (0, 0)] m (RI (fun v m1 => v = RestV w b ∧ m1 = m))
                                    refine gx_i0 (P := ¬ (w ≤ 1 ∧ b / 2 ≤ 1)) r_205_67 (b01_eq) (fun h67 => ?_) (fun h67 => ?_)
                                    · refine gx_st (L' := [(2, 192), (0, w), (0, b), (0, 0), (0, 3)]) (S' := [(0, 0), (0, 0)]) r_205_77 rfl rfl rfl ?_
                                      refine gx_st (L' := [(2, 192), (0, w), (0, b), (0, 0), (0, 3)]) (S' := [(0, (ior 0 0))]) r_205_78 rfl rfl rfl ?_
                                      rw [show (ior 0 0) = 0 from by decide]
                                      refine gx_st (L' := [(2, 192), (0, w), (0, b), (0, 0), (0, 3)]) (S' := []) r_205_79 rfl rfl rfl ?_
                                      refine gx_li (z := 4) (L' := [(2, 192), (0, w), (0, b), (0, 0), (0, 4)]) r_205_80 rfl (w32_eq (by omega) (by omega) (by omega)) rfl ?_
                                      refine gx_st (L' := [(2, 192), (0, w), (0, b), (0, 0), (0, 4)]) (S' := []) r_205_83 rfl rfl rfl ?_
                                      refine gx_st (L' := [(2, 192), (0, w), (0, b), (0, 0), (0, 4)]) (S' := [(0, 4)]) r_205_32 rfl rfl rfl ?_
                                      refine gx_st (L' := [(2, 192), (0, w), (0, b), (0, 0), (0, 4)]) (S' := [(0, 4), (0, 4)]) r_205_34 rfl rfl rfl ?_
                                      refine gx_ic (P := 4 ≤ 4) r_205_35 (rfl) (fun h35 => ?_) (fun h35 => ?_)
                                      · refine gx_st (L' := [(2, 192), (0, w), (0, b), (0, 0), (0, 4)]) (S' := [(0, 0)]) r_205_86 rfl rfl rfl ?_
                                        exact gx_rt r_205_87 rfl rfl ⟨_, rfl, RestV_c ⟨fun _ => rest_s (by omega), fun z => by omega⟩, rfl⟩
                                      · omega
                                    · have h67 := Decidable.not_not.mp h67
                                      refine gx_st (L' := [(2, 192), (0, w), (0, b), (0, 0), (0, 3)]) (S' := [(0, 1), (0, 0)]) r_205_70 rfl rfl rfl ?_
                                      refine gx_st (L' := [(2, 192), (0, w), (0, b), (0, 0), (0, 3)]) (S' := [(0, 3), (0, 1), (0, 0)]) r_205_71 rfl rfl rfl ?_
                                      refine gx_st (L' := [(2, 192), (0, w), (0, b), (0, 0), (0, 3)]) (S' := [(0, (ishl 1 3)), (0, 0)]) r_205_73 rfl rfl rfl ?_
                                      rw [show (ishl 1 3) = 8 from by decide]
                                      refine gx_st (L' := [(2, 192), (0, w), (0, b), (0, 0), (0, 3)]) (S' := [(0, 8), (0, 0)]) r_205_74 rfl rfl rfl ?_
                                      refine gx_st (L' := [(2, 192), (0, w), (0, b), (0, 0), (0, 3)]) (S' := [(0, (ior 0 8))]) r_205_78 rfl rfl rfl ?_
                                      rw [show (ior 0 8) = 8 from by decide]
                                      refine gx_st (L' := [(2, 192), (0, w), (0, b), (0, 8), (0, 3)]) (S' := []) r_205_79 rfl rfl rfl ?_
                                      refine gx_li (z := 4) (L' := [(2, 192), (0, w), (0, b), (0, 8), (0, 4)]) r_205_80 rfl (w32_eq (by omega) (by omega) (by omega)) rfl ?_
                                      refine gx_st (L' := [(2, 192), (0, w), (0, b), (0, 8), (0, 4)]) (S' := []) r_205_83 rfl rfl rfl ?_
                                      refine gx_st (L' := [(2, 192), (0, w), (0, b), (0, 8), (0, 4)]) (S' := [(0, 4)]) r_205_32 rfl rfl rfl ?_
                                      refine gx_st (L' := [(2, 192), (0, w), (0, b), (0, 8), (0, 4)]) (S' := [(0, 4), (0, 4)]) r_205_34 rfl rfl rfl ?_
                                      refine gx_ic (P := 4 ≤ 4) r_205_35 (rfl) (fun h35 => ?_) (fun h35 => ?_)
                                      · refine gx_st (L' := [(2, 192), (0, w), (0, b), (0, 8), (0, 4)]) (S' := [(0, 8)]) r_205_86 rfl rfl rfl ?_
                                        exact gx_rt r_205_87 rfl rfl ⟨_, rfl, RestV_c ⟨fun _ => rest_s (by omega), fun z => by omega⟩, rfl⟩
                                      · omega
                                · omega
                            · have h67 := Decidable.not_not.mp h67
                              refine gx_st (L' := [(2, 192), (0, w), (0, b), (0, 0), (0, 2)]) (S' := [(0, 1), (0, 0)]) r_205_70 rfl rfl rfl ?_
                              refine gx_st (L' := [(2, 192), (0, w), (0, b), (0, 0), (0, 2)]) (S' := [(0, 2), (0, 1), (0, 0)]) r_205_71 rfl rfl rfl ?_
                              refine gx_st (L' := [(2, 192), (0, w), (0, b), (0, 0), (0, 2)]) (S' := [(0, (ishl 1 2)), (0, 0)]) r_205_73 rfl rfl rfl ?_
                              rw [show (ishl 1 2) = 4 from by decide]
                              refine gx_st (L' := [(2, 192), (0, w), (0, b), (0, 0), (0, 2)]) (S' := [(0, 4), (0, 0)]) r_205_74 rfl rfl rfl ?_
                              refine gx_st (L' := [(2, 192), (0, w), (0, b), (0, 0), (0, 2)]) (S' := [(0, (ior 0 4))]) r_205_78 rfl rfl rfl ?_
                              rw [show (ior 0 4) = 4 from by decide]
                              refine gx_st (L' := [(2, 192), (0, w), (0, b), (0, 4), (0, 2)]) (S' := []) r_205_79 rfl rfl rfl ?_
                              refine gx_li (z := 3) (L' := [(2, 192), (0, w), (0, b), (0, 4), (0, 3)]) r_205_80 rfl (w32_eq (by omega) (by omega) (by omega)) rfl ?_
                              refine gx_st (L' := [(2, 192), (0, w), (0, b), (0, 4), (0, 3)]) (S' := []) r_205_83 rfl rfl rfl ?_
                              refine gx_st (L' := [(2, 192), (0, w), (0, b), (0, 4), (0, 3)]) (S' := [(0, 3)]) r_205_32 rfl rfl rfl ?_
                              refine gx_st (L' := [(2, 192), (0, w), (0, b), (0, 4), (0, 3)]) (S' := [(0, 4), (0, 3)]) r_205_34 rfl rfl rfl ?_
                              refine gx_ic (P := 4 ≤ 3) r_205_35 (rfl) (fun h35 => ?_) (fun h35 => ?_)
                              · omega
                              · refine gx_st (L' := [(2, 192), (0, w), (0, b), (0, 4), (0, 3)]) (S' := [(0, 4)]) r_205_38 rfl rfl rfl ?_
                                refine gx_st (L' := [(2, 192), (0, w), (0, b), (0, 4), (0, 3)]) (S' := [(0, 3), (0, 4)]) r_205_39 rfl rfl rfl ?_
                                refine gx_st (L' := [(2, 192), (0, w), (0, b), (0, 4), (0, 3)]) (S' := [(0, 2), (0, 3), (0, 4)]) r_205_41 rfl rfl rfl ?_
                                refine gx_ic (P := 2 ≤ 3) r_205_42 (rfl) (fun h42 => ?_) (fun h42 => ?_)
                                · refine gx_st (L' := [(2, 192), (0, w), (0, b), (0, 4), (0, 3)]) (S' := [(0, 0), (0, 4)]) r_205_49 rfl rfl rfl ?_
                                  refine gx_st (L' := [(2, 192), (0, w), (0, b), (0, 4), (0, 3)]) (S' := [(0, 3), (0, 0), (0, 4)]) r_205_50 rfl rfl rfl ?_
                                  refine gx_st (L' := [(2, 192), (0, w), (0, b), (0, 4), (0, 3)]) (S' := [(0, 2), (0, 3), (0, 0), (0, 4)]) r_205_52 rfl rfl rfl ?_
                                  refine gx_rm (z := (3 % 2)) r_205_53 (by decide) (tm_eq (by omega) rfl) ?_
                                  refine gx_i0 (P := ¬ (3 % 2) = 0) r_205_54 (rfl) (fun h54 => ?_) (fun h54 => ?_)
                                  · refine gx_st (L' := [(2, 192), (0, w), (0, b), (0, 4), (0, 3)]) (S' := [(0, 0), (0, 0), (0, 4)]) r_205_61 rfl rfl rfl ?_
                                    refine gx_st (L' := [(2, 192), (0, w), (0, b), (0, 4), (0, 3)]) (S' := [(0, w), (0, 0), (0, 0), (0, 4)]) r_205_62 rfl rfl rfl ?_
                                    refine gx_st (L' := [(2, 192), (0, w), (0, b), (0, 4), (0, 3)]) (S' := [(0, b), (0, w), (0, 0), (0, 0), (0, 4)]) r_205_63 rfl rfl rfl ?_
                                    refine gx_ci (nx := 67) (S2 := [(0, 4)]) (x_204_00 w b hw hb) r_205_64 rfl rfl rfl rfl rfl rfl rfl (by decide) rfl (fun x64 n64 q64 => ?_)
                                    obtain rfl := q64.1.symm
                                    obtain rfl := q64.2.symm
                                    show GX T 2 205 67 [(2, 192), (0, w), (0, b), (0, 4), (0, 3)] [(0, (if 1 ≤ b / 2 then 1 else 0)), (0, 4)] m (RI (fun v m1 => v = RestV w b ∧ m1 = m))
                                    refine gx_i0 (P := ¬ (1 ≤ b / 2)) r_205_67 (b01_eq) (fun h67 => ?_) (fun h67 => ?_)
                                    · refine gx_st (L' := [(2, 192), (0, w), (0, b), (0, 4), (0, 3)]) (S' := [(0, 0), (0, 4)]) r_205_77 rfl rfl rfl ?_
                                      refine gx_st (L' := [(2, 192), (0, w), (0, b), (0, 4), (0, 3)]) (S' := [(0, (ior 4 0))]) r_205_78 rfl rfl rfl ?_
                                      rw [show (ior 4 0) = 4 from by decide]
                                      refine gx_st (L' := [(2, 192), (0, w), (0, b), (0, 4), (0, 3)]) (S' := []) r_205_79 rfl rfl rfl ?_
                                      refine gx_li (z := 4) (L' := [(2, 192), (0, w), (0, b), (0, 4), (0, 4)]) r_205_80 rfl (w32_eq (by omega) (by omega) (by omega)) rfl ?_
                                      refine gx_st (L' := [(2, 192), (0, w), (0, b), (0, 4), (0, 4)]) (S' := []) r_205_83 rfl rfl rfl ?_
                                      refine gx_st (L' := [(2, 192), (0, w), (0, b), (0, 4), (0, 4)]) (S' := [(0, 4)]) r_205_32 rfl rfl rfl ?_
                                      refine gx_st (L' := [(2, 192), (0, w), (0, b), (0, 4), (0, 4)]) (S' := [(0, 4), (0, 4)]) r_205_34 rfl rfl rfl ?_
                                      refine gx_ic (P := 4 ≤ 4) r_205_35 (rfl) (fun h35 => ?_) (fun h35 => ?_)
                                      · refine gx_st (L' := [(2, 192), (0, w), (0, b), (0, 4), (0, 4)]) (S' := [(0, 4)]) r_205_86 rfl rfl rfl ?_
                                        exact gx_rt r_205_87 rfl rfl ⟨_, rfl, RestV_c ⟨fun _ => rest_s (by omega), fun z => by omega⟩, rfl⟩
                                      · omega
                                    · have h67 := Decidable.not_not.mp h67
                                      refine gx_st (L' := [(2, 192), (0, w), (0, b), (0, 4), (0, 3)]) (S' := [(0, 1), (0, 4)]) r_205_70 rfl rfl rfl ?_
                                      refine gx_st (L' := [(2, 192), (0, w), (0, b), (0, 4), (0, 3)]) (S' := [(0, 3), (0, 1), (0, 4)]) r_205_71 rfl rfl rfl ?_
                                      refine gx_st (L' := [(2, 192), (0, w), (0, b), (0, 4), (0, 3)]) (S' := [(0, (ishl 1 3)), (0, 4)]) r_205_73 rfl rfl rfl ?_
                                      rw [show (ishl 1 3) = 8 from by decide]
                                      refine gx_st (L' := [(2, 192), (0, w), (0, b), (0, 4), (0, 3)]) (S' := [(0, 8), (0, 4)]) r_205_74 rfl rfl rfl ?_
                                      refine gx_st (L' := [(2, 192), (0, w), (0, b), (0, 4), (0, 3)]) (S' := [(0, (ior 4 8))]) r_205_78 rfl rfl rfl ?_
                                      rw [show (ior 4 8) = 12 from by decide]
                                      refine gx_st (L' := [(2, 192), (0, w), (0, b), (0, 12), (0, 3)]) (S' := []) r_205_79 rfl rfl rfl ?_
                                      refine gx_li (z := 4) (L' := [(2, 192), (0, w), (0, b), (0, 12), (0, 4)]) r_205_80 rfl (w32_eq (by omega) (by omega) (by omega)) rfl ?_
                                      refine gx_st (L' := [(2, 192), (0, w), (0, b), (0, 12), (0, 4)]) (S' := []) r_205_83 rfl rfl rfl ?_
                                      refine gx_st (L' := [(2, 192), (0, w), (0, b), (0, 12), (0, 4)]) (S' := [(0, 4)]) r_205_32 rfl rfl rfl ?_
                                      refine gx_st (L' := [(2, 192), (0, w), (0, b), (0, 12), (0, 4)]) (S' := [(0, 4), (0, 4)]) r_205_34 rfl rfl rfl ?_
                                      refine gx_ic (P := 4 ≤ 4) r_205_35 (rfl) (fun h35 => ?_) (fun h35 => ?_)
                                      · refine gx_st (L' := [(2, 192), (0, w), (0, b), (0, 12), (0, 4)]) (S' := [(0, 12)]) r_205_86 rfl rfl rfl ?_
                                        exact gx_rt r_205_87 rfl rfl ⟨_, rfl, RestV_c ⟨fun _ => rest_s (by omega), fun z => by omega⟩, rfl⟩
                                      · omega
                                  · have h54 := Decidable.not_not.mp h54
                                    refine gx_st (L' := [(2, 192), (0, w), (0, b), (0, 4), (0, 3)]) (S' := [(0, 1), (0, 0), (0, 4)]) r_205_57 rfl rfl rfl ?_
                                    refine gx_st (L' := [(2, 192), (0, w), (0, b), (0, 4), (0, 3)]) (S' := [(0, 1), (0, 0), (0, 4)]) r_205_58 rfl rfl rfl ?_
                                    refine gx_st (L' := [(2, 192), (0, w), (0, b), (0, 4), (0, 3)]) (S' := [(0, w), (0, 1), (0, 0), (0, 4)]) r_205_62 rfl rfl rfl ?_
                                    refine gx_st (L' := [(2, 192), (0, w), (0, b), (0, 4), (0, 3)]) (S' := [(0, b), (0, w), (0, 1), (0, 0), (0, 4)]) r_205_63 rfl rfl rfl ?_
                                    refine gx_ci (nx := 67) (S2 := [(0, 4)]) (x_204_01 w b hw hb) r_205_64 rfl rfl rfl rfl rfl rfl rfl (by decide) rfl (fun x64 n64 q64 => ?_)
                                    obtain rfl := q64.1.symm
                                    obtain rfl := q64.2.symm
                                    show GX T 2 205 67 [(2, 192), (0, w), (0, b), (0, 4), (0, 3)] [(0, (if w ≤ 1 ∧ b / 2 ≤ 1 then 1 else 0)), (0, 4)] m (RI (fun v m1 => v = RestV w b ∧ m1 = m))
                                    refine gx_i0 (P := ¬ (w ≤ 1 ∧ b / 2 ≤ 1)) r_205_67 (b01_eq) (fun h67 => ?_) (fun h67 => ?_)
                                    · refine gx_st (L' := [(2, 192), (0, w), (0, b), (0, 4), (0, 3)]) (S' := [(0, 0), (0, 4)]) r_205_77 rfl rfl rfl ?_
                                      refine gx_st (L' := [(2, 192), (0, w), (0, b), (0, 4), (0, 3)]) (S' := [(0, (ior 4 0))]) r_205_78 rfl rfl rfl ?_
                                      rw [show (ior 4 0) = 4 from by decide]
                                      refine gx_st (L' := [(2, 192), (0, w), (0, b), (0, 4), (0, 3)]) (S' := []) r_205_79 rfl rfl rfl ?_
                                      refine gx_li (z := 4) (L' := [(2, 192), (0, w), (0, b), (0, 4), (0, 4)]) r_205_80 rfl (w32_eq (by omega) (by omega) (by omega)) rfl ?_
                                      refine gx_st (L' := [(2, 192), (0, w), (0, b), (0, 4), (0, 4)]) (S' := []) r_205_83 rfl rfl rfl ?_
                                      refine gx_st (L' := [(2, 192), (0, w), (0, b), (0, 4), (0, 4)]) (S' := [(0, 4)]) r_205_32 rfl rfl rfl ?_
                                      refine gx_st (L' := [(2, 192), (0, w), (0, b), (0, 4), (0, 4)]) (S' := [(0, 4), (0, 4)]) r_205_34 rfl rfl rfl ?_
                                      refine gx_ic (P := 4 ≤ 4) r_205_35 (rfl) (fun h35 => ?_) (fun h35 => ?_)
                                      · refine gx_st (L' := [(2, 192), (0, w), (0, b), (0, 4), (0, 4)]) (S' := [(0, 4)]) r_205_86 rfl rfl rfl ?_
                                        exact gx_rt r_205_87 rfl rfl ⟨_, rfl, RestV_c ⟨fun _ => rest_s (by omega), fun z => by omega⟩, rfl⟩
                                      · omega
                                    · have h67 := Decidable.not_not.mp h67
                                      refine gx_st (L' := [(2, 192), (0, w), (0, b), (0, 4), (0, 3)]) (S' := [(0, 1), (0, 4)]) r_205_70 rfl rfl rfl ?_
                                      refine gx_st (L' := [(2, 192), (0, w), (0, b), (0, 4), (0, 3)]) (S' := [(0, 3), (0, 1), (0, 4)]) r_205_71 rfl rfl rfl ?_
                                      refine gx_st (L' := [(2, 192), (0, w), (0, b), (0, 4), (0, 3)]) (S' := [(0, (ishl 1 3)), (0, 4)]) r_205_73 rfl rfl rfl ?_
                                      rw [show (ishl 1 3) = 8 from by decide]
                                      refine gx_st (L' := [(2, 192), (0, w), (0, b), (0, 4), (0, 3)]) (S' := [(0, 8), (0, 4)]) r_205_74 rfl rfl rfl ?_
                                      refine gx_st (L' := [(2, 192), (0, w), (0, b), (0, 4), (0, 3)]) (S' := [(0, (ior 4 8))]) r_205_78 rfl rfl rfl ?_
                                      rw [show (ior 4 8) = 12 from by decide]
                                      refine gx_st (L' := [(2, 192), (0, w), (0, b), (0, 12), (0, 3)]) (S' := []) r_205_79 rfl rfl rfl ?_
                                      refine gx_li (z := 4) (L' := [(2, 192), (0, w), (0, b), (0, 12), (0, 4)]) r_205_80 rfl (w32_eq (by omega) (by omega) (by omega)) rfl ?_
                                      refine gx_st (L' := [(2, 192), (0, w), (0, b), (0, 12), (0, 4)]) (S' := []) r_205_83 rfl rfl rfl ?_
                                      refine gx_st (L' := [(2, 192), (0, w), (0, b), (0, 12), (0, 4)]) (S' := [(0, 4)]) r_205_32 rfl rfl rfl ?_
                                      refine gx_st (L' := [(2, 192), (0, w), (0, b), (0, 12), (0, 4)]) (S' := [(0, 4), (0, 4)]) r_205_34 rfl rfl rfl ?_
                                      refine gx_ic (P := 4 ≤ 4) r_205_35 (rfl) (fun h35 => ?_) (fun h35 => ?_)
                                      · refine gx_st (L' := [(2, 192), (0, w), (0, b), (0, 12), (0, 4)]) (S' := [(0, 12)]) r_205_86 rfl rfl rfl ?_
                                        exact gx_rt r_205_87 rfl rfl ⟨_, rfl, RestV_c ⟨fun _ => rest_s (by omega), fun z => by omega⟩, rfl⟩
                                      · omega
                                · omega
                          · have h54 := Decidable.not_not.mp h54
                            refine gx_st (L' := [(2, 192), (0, w), (0, b), (0, 0), (0, 2)]) (S' := [(0, 1), (0, 0), (0, 0)]) r_205_57 rfl rfl rfl ?_
                            refine gx_st (L' := [(2, 192), (0, w), (0, b), (0, 0), (0, 2)]) (S' := [(0, 1), (0, 0), (0, 0)]) r_205_58 rfl rfl rfl ?_
                            refine gx_st (L' := [(2, 192), (0, w), (0, b), (0, 0), (0, 2)]) (S' := [(0, w), (0, 1), (0, 0), (0, 0)]) r_205_62 rfl rfl rfl ?_
                            refine gx_st (L' := [(2, 192), (0, w), (0, b), (0, 0), (0, 2)]) (S' := [(0, b), (0, w), (0, 1), (0, 0), (0, 0)]) r_205_63 rfl rfl rfl ?_
                            refine gx_ci (nx := 67) (S2 := [(0, 0)]) (x_204_01 w b hw hb) r_205_64 rfl rfl rfl rfl rfl rfl rfl (by decide) rfl (fun x64 n64 q64 => ?_)
                            obtain rfl := q64.1.symm
                            obtain rfl := q64.2.symm
                            show GX T 2 205 67 [(2, 192), (0, w), (0, b), (0, 0), (0, 2)] [(0, (if w ≤ 1 ∧ b / 2 ≤ 1 then 1 else 0)), (0, 0)] m (RI (fun v m1 => v = RestV w b ∧ m1 = m))
                            refine gx_i0 (P := ¬ (w ≤ 1 ∧ b / 2 ≤ 1)) r_205_67 (b01_eq) (fun h67 => ?_) (fun h67 => ?_)
                            · refine gx_st (L' := [(2, 192), (0, w), (0, b), (0, 0), (0, 2)]) (S' := [(0, 0), (0, 0)]) r_205_77 rfl rfl rfl ?_
                              refine gx_st (L' := [(2, 192), (0, w), (0, b), (0, 0), (0, 2)]) (S' := [(0, (ior 0 0))]) r_205_78 rfl rfl rfl ?_
                              rw [show (ior 0 0) = 0 from by decide]
                              refine gx_st (L' := [(2, 192), (0, w), (0, b), (0, 0), (0, 2)]) (S' := []) r_205_79 rfl rfl rfl ?_
                              refine gx_li (z := 3) (L' := [(2, 192), (0, w), (0, b), (0, 0), (0, 3)]) r_205_80 rfl (w32_eq (by omega) (by omega) (by omega)) rfl ?_
                              refine gx_st (L' := [(2, 192), (0, w), (0, b), (0, 0), (0, 3)]) (S' := []) r_205_83 rfl rfl rfl ?_
                              refine gx_st (L' := [(2, 192), (0, w), (0, b), (0, 0), (0, 3)]) (S' := [(0, 3)]) r_205_32 rfl rfl rfl ?_
                              refine gx_st (L' := [(2, 192), (0, w), (0, b), (0, 0), (0, 3)]) (S' := [(0, 4), (0, 3)]) r_205_34 rfl rfl rfl ?_
                              refine gx_ic (P := 4 ≤ 3) r_205_35 (rfl) (fun h35 => ?_) (fun h35 => ?_)
                              · omega
                              · refine gx_st (L' := [(2, 192), (0, w), (0, b), (0, 0), (0, 3)]) (S' := [(0, 0)]) r_205_38 rfl rfl rfl ?_
                                refine gx_st (L' := [(2, 192), (0, w), (0, b), (0, 0), (0, 3)]) (S' := [(0, 3), (0, 0)]) r_205_39 rfl rfl rfl ?_
                                refine gx_st (L' := [(2, 192), (0, w), (0, b), (0, 0), (0, 3)]) (S' := [(0, 2), (0, 3), (0, 0)]) r_205_41 rfl rfl rfl ?_
                                refine gx_ic (P := 2 ≤ 3) r_205_42 (rfl) (fun h42 => ?_) (fun h42 => ?_)
                                · refine gx_st (L' := [(2, 192), (0, w), (0, b), (0, 0), (0, 3)]) (S' := [(0, 0), (0, 0)]) r_205_49 rfl rfl rfl ?_
                                  refine gx_st (L' := [(2, 192), (0, w), (0, b), (0, 0), (0, 3)]) (S' := [(0, 3), (0, 0), (0, 0)]) r_205_50 rfl rfl rfl ?_
                                  refine gx_st (L' := [(2, 192), (0, w), (0, b), (0, 0), (0, 3)]) (S' := [(0, 2), (0, 3), (0, 0), (0, 0)]) r_205_52 rfl rfl rfl ?_
                                  refine gx_rm (z := (3 % 2)) r_205_53 (by decide) (tm_eq (by omega) rfl) ?_
                                  refine gx_i0 (P := ¬ (3 % 2) = 0) r_205_54 (rfl) (fun h54 => ?_) (fun h54 => ?_)
                                  · refine gx_st (L' := [(2, 192), (0, w), (0, b), (0, 0), (0, 3)]) (S' := [(0, 0), (0, 0), (0, 0)]) r_205_61 rfl rfl rfl ?_
                                    refine gx_st (L' := [(2, 192), (0, w), (0, b), (0, 0), (0, 3)]) (S' := [(0, w), (0, 0), (0, 0), (0, 0)]) r_205_62 rfl rfl rfl ?_
                                    refine gx_st (L' := [(2, 192), (0, w), (0, b), (0, 0), (0, 3)]) (S' := [(0, b), (0, w), (0, 0), (0, 0), (0, 0)]) r_205_63 rfl rfl rfl ?_
                                    refine gx_ci (nx := 67) (S2 := [(0, 0)]) (x_204_00 w b hw hb) r_205_64 rfl rfl rfl rfl rfl rfl rfl (by decide) rfl (fun x64 n64 q64 => ?_)
                                    obtain rfl := q64.1.symm
                                    obtain rfl := q64.2.symm
                                    show GX T 2 205 67 [(2, 192), (0, w), (0, b), (0, 0), (0, 3)] [(0, (if 1 ≤ b / 2 then 1 else 0)), (0, 0)] m (RI (fun v m1 => v = RestV w b ∧ m1 = m))
                                    refine gx_i0 (P := ¬ (1 ≤ b / 2)) r_205_67 (b01_eq) (fun h67 => ?_) (fun h67 => ?_)
                                    · refine gx_st (L' := [(2, 192), (0, w), (0, b), (0, 0), (0, 3)]) (S' := [(0, 0), (0, 0)]) r_205_77 rfl rfl rfl ?_
                                      refine gx_st (L' := [(2, 192), (0, w), (0, b), (0, 0), (0, 3)]) (S' := [(0, (ior 0 0))]) r_205_78 rfl rfl rfl ?_
                                      rw [show (ior 0 0) = 0 from by decide]
                                      refine gx_st (L' := [(2, 192), (0, w), (0, b), (0, 0), (0, 3)]) (S' := []) r_205_79 rfl rfl rfl ?_
                                      refine gx_li (z := 4) (L' := [(2, 192), (0, w), (0, b), (0, 0), (0, 4)]) r_205_80 rfl (w32_eq (by omega) (by omega) (by omega)) rfl ?_
                                      refine gx_st (L' := [(2, 192), (0, w), (0, b), (0, 0), (0, 4)]) (S' := []) r_205_83 rfl rfl rfl ?_
                                      refine gx_st (L' := [(2, 192), (0, w), (0, b), (0, 0), (0, 4)]) (S' := [(0, 4)]) r_205_32 rfl rfl rfl ?_
                                      refine gx_st (L' := [(2, 192), (0, w), (0, b), (0, 0), (0, 4)]) (S' := [(0, 4), (0, 4)]) r_205_34 rfl rfl rfl ?_
                                      refine gx_ic (P := 4 ≤ 4) r_205_35 (rfl) (fun h35 => ?_) (fun h35 => ?_)
                                      · refine gx_st (L' := [(2, 192), (0, w), (0, b), (0, 0), (0, 4)]) (S' := [(0, 0)]) r_205_86 rfl rfl rfl ?_
                                        exact gx_rt r_205_87 rfl rfl ⟨_, rfl, RestV_c ⟨fun _ => rest_s (by omega), fun z => by omega⟩, rfl⟩
                                      · omega
                                    · have h67 := Decidable.not_not.mp h67
                                      refine gx_st (L' := [(2, 192), (0, w), (0, b), (0, 0), (0, 3)]) (S' := [(0, 1), (0, 0)]) r_205_70 rfl rfl rfl ?_
                                      refine gx_st (L' := [(2, 192), (0, w), (0, b), (0, 0), (0, 3)]) (S' := [(0, 3), (0, 1), (0, 0)]) r_205_71 rfl rfl rfl ?_
                                      refine gx_st (L' := [(2, 192), (0, w), (0, b), (0, 0), (0, 3)]) (S' := [(0, (ishl 1 3)), (0, 0)]) r_205_73 rfl rfl rfl ?_
                                      rw [show (ishl 1 3) = 8 from by decide]
                                      refine gx_st (L' := [(2, 192), (0, w), (0, b), (0, 0), (0, 3)]) (S' := [(0, 8), (0, 0)]) r_205_74 rfl rfl rfl ?_
                                      refine gx_st (L' := [(2, 192), (0, w), (0, b), (0, 0), (0, 3)]) (S' := [(0, (ior 0 8))]) r_205_78 rfl rfl rfl ?_
                                      rw [show (ior 0 8) = 8 from by decide]
                                      refine gx_st (L' := [(2, 192), (0, w), (0, b), (0, 8), (0, 3)]) (S' := []) r_205_79 rfl rfl rfl ?_
                                      refine gx_li (z := 4) (L' := [(2, 192), (0, w), (0, b), (0, 8), (0, 4)]) r_205_80 rfl (w32_eq (by omega) (by omega) (by omega)) rfl ?_
                                      refine gx_st (L' := [(2, 192), (0, w), (0, b), (0, 8), (0, 4)]) (S' := []) r_205_83 rfl rfl rfl ?_
                                      refine gx_st (L' := [(2, 192), (0, w), (0, b), (0, 8), (0, 4)]) (S' := [(0, 4)]) r_205_32 rfl rfl rfl ?_
                                      refine gx_st (L' := [(2, 192), (0, w), (0, b), (0, 8), (0, 4)]) (S' := [(0, 4), (0, 4)]) r_205_34 rfl rfl rfl ?_
                                      refine gx_ic (P := 4 ≤ 4) r_205_35 (rfl) (fun h35 => ?_) (fun h35 => ?_)
                                      · refine gx_st (L' := [(2, 192), (0, w), (0, b), (0, 8), (0, 4)]) (S' := [(0, 8)]) r_205_86 rfl rfl rfl ?_
                                        exact gx_rt r_205_87 rfl rfl ⟨_, rfl, RestV_c ⟨fun _ => rest_s (by omega), fun z => by omega⟩, rfl⟩
                                      · omega
                                  · have h54 := Decidable.not_not.mp h54
                                    refine gx_st (L' := [(2, 192), (0, w), (0, b), (0, 0), (0, 3)]) (S' := [(0, 1), (0, 0), (0, 0)]) r_205_57 rfl rfl rfl ?_
                                    refine gx_st (L' := [(2, 192), (0, w), (0, b), (0, 0), (0, 3)]) (S' := [(0, 1), (0, 0), (0, 0)]) r_205_58 rfl rfl rfl ?_
                                    refine gx_st (L' := [(2, 192), (0, w), (0, b), (0, 0), (0, 3)]) (S' := [(0, w), (0, 1), (0, 0), (0, 0)]) r_205_62 rfl rfl rfl ?_
                                    refine gx_st (L' := [(2, 192), (0, w), (0, b), (0, 0), (0, 3)]) (S' := [(0, b), (0, w), (0, 1), (0, 0), (0, 0)]) r_205_63 rfl rfl rfl ?_
                                    refine gx_ci (nx := 67) (S2 := [(0, 0)]) (x_204_01 w b hw hb) r_205_64 rfl rfl rfl rfl rfl rfl rfl (by decide) rfl (fun x64 n64 q64 => ?_)
                                    obtain rfl := q64.1.symm
                                    obtain rfl := q64.2.symm
                                    show GX T 2 205 67 [(2, 192), (0, w), (0, b), (0, 0), (0, 3)] [(0, (if w ≤ 1 ∧ b / 2 ≤ 1 then 1 else 0)), (0, 0)] m (RI (fun v m1 => v = RestV w b ∧ m1 = m))
                                    refine gx_i0 (P := ¬ (w ≤ 1 ∧ b / 2 ≤ 1)) r_205_67 (b01_eq) (fun h67 => ?_) (fun h67 => ?_)
                                    · refine gx_st (L' := [(2, 192), (0, w), (0, b), (0, 0), (0, 3)]) (S' := [(0, 0), (0, 0)]) r_205_77 rfl rfl rfl ?_
                                      refine gx_st (L' := [(2, 192), (0, w), (0, b), (0, 0), (0, 3)]) (S' := [(0, (ior 0 0))]) r_205_78 rfl rfl rfl ?_
                                      rw [show (ior 0 0) = 0 from by decide]
                                      refine gx_st (L' := [(2, 192), (0, w), (0, b), (0, 0), (0, 3)]) (S' := []) r_205_79 rfl rfl rfl ?_
                                      refine gx_li (z := 4) (L' := [(2, 192), (0, w), (0, b), (0, 0), (0, 4)]) r_205_80 rfl (w32_eq (by omega) (by omega) (by omega)) rfl ?_
                                      refine gx_st (L' := [(2, 192), (0, w), (0, b), (0, 0), (0, 4)]) (S' := []) r_205_83 rfl rfl rfl ?_
                                      refine gx_st (L' := [(2, 192), (0, w), (0, b), (0, 0), (0, 4)]) (S' := [(0, 4)]) r_205_32 rfl rfl rfl ?_
                                      refine gx_st (L' := [(2, 192), (0, w), (0, b), (0, 0), (0, 4)]) (S' := [(0, 4), (0, 4)]) r_205_34 rfl rfl rfl ?_
                                      refine gx_ic (P := 4 ≤ 4) r_205_35 (rfl) (fun h35 => ?_) (fun h35 => ?_)
                                      · refine gx_st (L' := [(2, 192), (0, w), (0, b), (0, 0), (0, 4)]) (S' := [(0, 0)]) r_205_86 rfl rfl rfl ?_
                                        exact gx_rt r_205_87 rfl rfl ⟨_, rfl, RestV_c ⟨fun _ => rest_s (by omega), fun z => by omega⟩, rfl⟩
                                      · omega
                                    · have h67 := Decidable.not_not.mp h67
                                      refine gx_st (L' := [(2, 192), (0, w), (0, b), (0, 0), (0, 3)]) (S' := [(0, 1), (0, 0)]) r_205_70 rfl rfl rfl ?_
                                      refine gx_st (L' := [(2, 192), (0, w), (0, b), (0, 0), (0, 3)]) (S' := [(0, 3), (0, 1), (0, 0)]) r_205_71 rfl rfl rfl ?_
                                      refine gx_st (L' := [(2, 192), (0, w), (0, b), (0, 0), (0, 3)]) (S' := [(0, (ishl 1 3)), (0, 0)]) r_205_73 rfl rfl rfl ?_
                                      rw [show (ishl 1 3) = 8 from by decide]
                                      refine gx_st (L' := [(2, 192), (0, w), (0, b), (0, 0), (0, 3)]) (S' := [(0, 8), (0, 0)]) r_205_74 rfl rfl rfl ?_
                                      refine gx_st (L' := [(2, 192), (0, w), (0, b), (0, 0), (0, 3)]) (S' := [(0, (ior 0 8))]) r_205_78 rfl rfl rfl ?_
                                      rw [show (ior 0 8) = 8 from by decide]
                                      refine gx_st (L' := [(2, 192), (0, w), (0, b), (0, 8), (0, 3)]) (S' := []) r_205_79 rfl rfl rfl ?_
                                      refine gx_li (z := 4) (L' := [(2, 192), (0, w), (0, b), (0, 8), (0, 4)]) r_205_80 rfl (w32_eq (by omega) (by omega) (by omega)) rfl ?_
                                      refine gx_st (L' := [(2, 192), (0, w), (0, b), (0, 8), (0, 4)]) (S' := []) r_205_83 rfl rfl rfl ?_
                                      refine gx_st (L' := [(2, 192), (0, w), (0, b), (0, 8), (0, 4)]) (S' := [(0, 4)]) r_205_32 rfl rfl rfl ?_
                                      refine gx_st (L' := [(2, 192), (0, w), (0, b), (0, 8), (0, 4)]) (S' := [(0, 4), (0, 4)]) r_205_34 rfl rfl rfl ?_
                                      refine gx_ic (P := 4 ≤ 4) r_205_35 (rfl) (fun h35 => ?_) (fun h35 => ?_)
                                      · refine gx_st (L' := [(2, 192), (0, w), (0, b), (0, 8), (0, 4)]) (S' := [(0, 8)]) r_205_86 rfl rfl rfl ?_
                                        exact gx_rt r_205_87 rfl rfl ⟨_, rfl, RestV_c ⟨fun _ => rest_s (by omega), fun z => by omega⟩, rfl⟩
                                      · omega
                                · omega
                            · have h67 := Decidable.not_not.mp h67
                              refine gx_st (L' := [(2, 192), (0, w), (0, b), (0, 0), (0, 2)]) (S' := [(0, 1), (0, 0)]) r_205_70 rfl rfl rfl ?_
                              refine gx_st (L' := [(2, 192), (0, w), (0, b), (0, 0), (0, 2)]) (S' := [(0, 2), (0, 1), (0, 0)]) r_205_71 rfl rfl rfl ?_
                              refine gx_st (L' := [(2, 192), (0, w), (0, b), (0, 0), (0, 2)]) (S' := [(0, (ishl 1 2)), (0, 0)]) r_205_73 rfl rfl rfl ?_
                              rw [show (ishl 1 2) = 4 from by decide]
                              refine gx_st (L' := [(2, 192), (0, w), (0, b), (0, 0), (0, 2)]) (S' := [(0, 4), (0, 0)]) r_205_74 rfl rfl rfl ?_
                              refine gx_st (L' := [(2, 192), (0, w), (0, b), (0, 0), (0, 2)]) (S' := [(0, (ior 0 4))]) r_205_78 rfl rfl rfl ?_
                              rw [show (ior 0 4) = 4 from by decide]
                              refine gx_st (L' := [(2, 192), (0, w), (0, b), (0, 4), (0, 2)]) (S' := []) r_205_79 rfl rfl rfl ?_
                              refine gx_li (z := 3) (L' := [(2, 192), (0, w), (0, b), (0, 4), (0, 3)]) r_205_80 rfl (w32_eq (by omega) (by omega) (by omega)) rfl ?_
                              refine gx_st (L' := [(2, 192), (0, w), (0, b), (0, 4), (0, 3)]) (S' := []) r_205_83 rfl rfl rfl ?_
                              refine gx_st (L' := [(2, 192), (0, w), (0, b), (0, 4), (0, 3)]) (S' := [(0, 3)]) r_205_32 rfl rfl rfl ?_
                              refine gx_st (L' := [(2, 192), (0, w), (0, b), (0, 4), (0, 3)]) (S' := [(0, 4), (0, 3)]) r_205_34 rfl rfl rfl ?_
                              refine gx_ic (P := 4 ≤ 3) r_205_35 (rfl) (fun h35 => ?_) (fun h35 => ?_)
                              · omega
                              · refine gx_st (L' := [(2, 192), (0, w), (0, b), (0, 4), (0, 3)]) (S' := [(0, 4)]) r_205_38 rfl rfl rfl ?_
                                refine gx_st (L' := [(2, 192), (0, w), (0, b), (0, 4), (0, 3)]) (S' := [(0, 3), (0, 4)]) r_205_39 rfl rfl rfl ?_
                                refine gx_st (L' := [(2, 192), (0, w), (0, b), (0, 4), (0, 3)]) (S' := [(0, 2), (0, 3), (0, 4)]) r_205_41 rfl rfl rfl ?_
                                refine gx_ic (P := 2 ≤ 3) r_205_42 (rfl) (fun h42 => ?_) (fun h42 => ?_)
                                · refine gx_st (L' := [(2, 192), (0, w), (0, b), (0, 4), (0, 3)]) (S' := [(0, 0), (0, 4)]) r_205_49 rfl rfl rfl ?_
                                  refine gx_st (L' := [(2, 192), (0, w), (0, b), (0, 4), (0, 3)]) (S' := [(0, 3), (0, 0), (0, 4)]) r_205_50 rfl rfl rfl ?_
                                  refine gx_st (L' := [(2, 192), (0, w), (0, b), (0, 4), (0, 3)]) (S' := [(0, 2), (0, 3), (0, 0), (0, 4)]) r_205_52 rfl rfl rfl ?_
                                  refine gx_rm (z := (3 % 2)) r_205_53 (by decide) (tm_eq (by omega) rfl) ?_
                                  refine gx_i0 (P := ¬ (3 % 2) = 0) r_205_54 (rfl) (fun h54 => ?_) (fun h54 => ?_)
                                  · refine gx_st (L' := [(2, 192), (0, w), (0, b), (0, 4), (0, 3)]) (S' := [(0, 0), (0, 0), (0, 4)]) r_205_61 rfl rfl rfl ?_
                                    refine gx_st (L' := [(2, 192), (0, w), (0, b), (0, 4), (0, 3)]) (S' := [(0, w), (0, 0), (0, 0), (0, 4)]) r_205_62 rfl rfl rfl ?_
                                    refine gx_st (L' := [(2, 192), (0, w), (0, b), (0, 4), (0, 3)]) (S' := [(0, b), (0, w), (0, 0), (0, 0), (0, 4)]) r_205_63 rfl rfl rfl ?_
                                    refine gx_ci (nx := 67) (S2 := [(0, 4)]) (x_204_00 w b hw hb) r_205_64 rfl rfl rfl rfl rfl rfl rfl (by decide) rfl (fun x64 n64 q64 => ?_)
                                    obtain rfl := q64.1.symm
                                    obtain rfl := q64.2.symm
                                    show GX T 2 205 67 [(2, 192), (0, w), (0, b), (0, 4), (0, 3)] [(0, (if 1 ≤ b / 2 then 1 else 0)), (0, 4)] m (RI (fun v m1 => v = RestV w b ∧ m1 = m))
                                    refine gx_i0 (P := ¬ (1 ≤ b / 2)) r_205_67 (b01_eq) (fun h67 => ?_) (fun h67 => ?_)
                                    · refine gx_st (L' := [(2, 192), (0, w), (0, b), (0, 4), (0, 3)]) (S' := [(0, 0), (0, 4)]) r_205_77 rfl rfl rfl ?_
                                      refine gx_st (L' := [(2, 192), (0, w), (0, b), (0, 4), (0, 3)]) (S' := [(0, (ior 4 0))]) r_205_78 rfl rfl rfl ?_
                                      rw [show (ior 4 0) = 4 from by decide]
                                      refine gx_st (L' := [(2, 192), (0, w), (0, b), (0, 4), (0, 3)]) (S' := []) r_205_79 rfl rfl rfl ?_
                                      refine gx_li (z := 4) (L' := [(2, 192), (0, w), (0, b), (0, 4), (0, 4)]) r_205_80 rfl (w32_eq (by omega) (by omega) (by omega)) rfl ?_
                                      refine gx_st (L' := [(2, 192), (0, w), (0, b), (0, 4), (0, 4)]) (S' := []) r_205_83 rfl rfl rfl ?_
                                      refine gx_st (L' := [(2, 192), (0, w), (0, b), (0, 4), (0, 4)]) (S' := [(0, 4)]) r_205_32 rfl rfl rfl ?_
                                      refine gx_st (L' := [(2, 192), (0, w), (0, b), (0, 4), (0, 4)]) (S' := [(0, 4), (0, 4)]) r_205_34 rfl rfl rfl ?_
                                      refine gx_ic (P := 4 ≤ 4) r_205_35 (rfl) (fun h35 => ?_) (fun h35 => ?_)
                                      · refine gx_st (L' := [(2, 192), (0, w), (0, b), (0, 4), (0, 4)]) (S' := [(0, 4)]) r_205_86 rfl rfl rfl ?_
                                        exact gx_rt r_205_87 rfl rfl ⟨_, rfl, RestV_c ⟨fun _ => rest_s (by omega), fun z => by omega⟩, rfl⟩
                                      · omega
                                    · have h67 := Decidable.not_not.mp h67
                                      refine gx_st (L' := [(2, 192), (0, w), (0, b), (0, 4), (0, 3)]) (S' := [(0, 1), (0, 4)]) r_205_70 rfl rfl rfl ?_
                                      refine gx_st (L' := [(2, 192), (0, w), (0, b), (0, 4), (0, 3)]) (S' := [(0, 3), (0, 1), (0, 4)]) r_205_71 rfl rfl rfl ?_
                                      refine gx_st (L' := [(2, 192), (0, w), (0, b), (0, 4), (0, 3)]) (S' := [(0, (ishl 1 3)), (0, 4)]) r_205_73 rfl rfl rfl ?_
                                      rw [show (ishl 1 3) = 8 from by decide]
                                      refine gx_st (L' := [(2, 192), (0, w), (0, b), (0, 4), (0, 3)]) (S' := [(0, 8), (0, 4)]) r_205_74 rfl rfl rfl ?_
                                      refine gx_st (L' := [(2, 192), (0, w), (0, b), (0, 4), (0, 3)]) (S' := [(0, (ior 4 8))]) r_205_78 rfl rfl rfl ?_
                                      rw [show (ior 4 8) = 12 from by decide]
                                      refine gx_st (L' := [(2, 192), (0, w), (0, b), (0, 12), (0, 3)]) (S' := []) r_205_79 rfl rfl rfl ?_
                                      refine gx_li (z := 4) (L' := [(2, 192), (0, w), (0, b), (0, 12), (0, 4)]) r_205_80 rfl (w32_eq (by omega) (by omega) (by omega)) rfl ?_
                                      refine gx_st (L' := [(2, 192), (0, w), (0, b), (0, 12), (0, 4)]) (S' := []) r_205_83 rfl rfl rfl ?_
                                      refine gx_st (L' := [(2, 192), (0, w), (0, b), (0, 12), (0, 4)]) (S' := [(0, 4)]) r_205_32 rfl rfl rfl ?_
                                      refine gx_st (L' := [(2, 192), (0, w), (0, b), (0, 12), (0, 4)]) (S' := [(0, 4), (0, 4)]) r_205_34 rfl rfl rfl ?_
                                      refine gx_ic (P := 4 ≤ 4) r_205_35 (rfl) (fun h35 => ?_) (fun h35 => ?_)
                                      · refine gx_st (L' := [(2, 192), (0, w), (0, b), (0, 12), (0, 4)]) (S' := [(0, 12)]) r_205_86 rfl rfl rfl ?_
                                        exact gx_rt r_205_87 rfl rfl ⟨_, rfl, RestV_c ⟨fun _ => rest_s (by omega), fun z => by omega⟩, rfl⟩
                                      · omega
                                  · have h54 := Decidable.not_not.mp h54
                                    refine gx_st (L' := [(2, 192), (0, w), (0, b), (0, 4), (0, 3)]) (S' := [(0, 1), (0, 0), (0, 4)]) r_205_57 rfl rfl rfl ?_
                                    refine gx_st (L' := [(2, 192), (0, w), (0, b), (0, 4), (0, 3)]) (S' := [(0, 1), (0, 0), (0, 4)]) r_205_58 rfl rfl rfl ?_
                                    refine gx_st (L' := [(2, 192), (0, w), (0, b), (0, 4), (0, 3)]) (S' := [(0, w), (0, 1), (0, 0), (0, 4)]) r_205_62 rfl rfl rfl ?_
                                    refine gx_st (L' := [(2, 192), (0, w), (0, b), (0, 4), (0, 3)]) (S' := [(0, b), (0, w), (0, 1), (0, 0), (0, 4)]) r_205_63 rfl rfl rfl ?_
                                    refine gx_ci (nx := 67) (S2 := [(0, 4)]) (x_204_01 w b hw hb) r_205_64 rfl rfl rfl rfl rfl rfl rfl (by decide) rfl (fun x64 n64 q64 => ?_)
                                    obtain rfl := q64.1.symm
                                    obtain rfl := q64.2.symm
                                    show GX T 2 205 67 [(2, 192), (0, w), (0, b), (0, 4), (0, 3)] [(0, (if w ≤ 1 ∧ b / 2 ≤ 1 then 1 else 0)), (0, 4)] m (RI (fun v m1 => v = RestV w b ∧ m1 = m))
                                    refine gx_i0 (P := ¬ (w ≤ 1 ∧ b / 2 ≤ 1)) r_205_67 (b01_eq) (fun h67 => ?_) (fun h67 => ?_)
                                    · refine gx_st (L' := [(2, 192), (0, w), (0, b), (0, 4), (0, 3)]) (S' := [(0, 0), (0, 4)]) r_205_77 rfl rfl rfl ?_
                                      refine gx_st (L' := [(2, 192), (0, w), (0, b), (0, 4), (0, 3)]) (S' := [(0, (ior 4 0))]) r_205_78 rfl rfl rfl ?_
                                      rw [show (ior 4 0) = 4 from by decide]
                                      refine gx_st (L' := [(2, 192), (0, w), (0, b), (0, 4), (0, 3)]) (S' := []) r_205_79 rfl rfl rfl ?_
                                      refine gx_li (z := 4) (L' := [(2, 192), (0, w), (0, b), (0, 4), (0, 4)]) r_205_80 rfl (w32_eq (by omega) (by omega) (by omega)) rfl ?_
                                      refine gx_st (L' := [(2, 192), (0, w), (0, b), (0, 4), (0, 4)]) (S' := []) r_205_83 rfl rfl rfl ?_
                                      refine gx_st (L' := [(2, 192), (0, w), (0, b), (0, 4), (0, 4)]) (S' := [(0, 4)]) r_205_32 rfl rfl rfl ?_
                                      refine gx_st (L' := [(2, 192), (0, w), (0, b), (0, 4), (0, 4)]) (S' := [(0, 4), (0, 4)]) r_205_34 rfl rfl rfl ?_
                                      refine gx_ic (P := 4 ≤ 4) r_205_35 (rfl) (fun h35 => ?_) (fun h35 => ?_)
                                      · refine gx_st (L' := [(2, 192), (0, w), (0, b), (0, 4), (0, 4)]) (S' := [(0, 4)]) r_205_86 rfl rfl rfl ?_
                                        exact gx_rt r_205_87 rfl rfl ⟨_, rfl, RestV_c ⟨fun _ => rest_s (by omega), fun z => by omega⟩, rfl⟩
                                      · omega
                                    · have h67 := Decidable.not_not.mp h67
                                      refine gx_st (L' := [(2, 192), (0, w), (0, b), (0, 4), (0, 3)]) (S' := [(0, 1), (0, 4)]) r_205_70 rfl rfl rfl ?_
                                      refine gx_st (L' := [(2, 192), (0, w), (0, b), (0, 4), (0, 3)]) (S' := [(0, 3), (0, 1), (0, 4)]) r_205_71 rfl rfl rfl ?_
                                      refine gx_st (L' := [(2, 192), (0, w), (0, b), (0, 4), (0, 3)]) (S' := [(0, (ishl 1 3)), (0, 4)]) r_205_73 rfl rfl rfl ?_
                                      rw [show (ishl 1 3) = 8 from by decide]
                                      refine gx_st (L' := [(2, 192), (0, w), (0, b), (0, 4), (0, 3)]) (S' := [(0, 8), (0, 4)]) r_205_74 rfl rfl rfl ?_
                                      refine gx_st (L' := [(2, 192), (0, w), (0, b), (0, 4), (0, 3)]) (S' := [(0, (ior 4 8))]) r_205_78 rfl rfl rfl ?_
                                      rw [show (ior 4 8) = 12 from by decide]
                                      refine gx_st (L' := [(2, 192), (0, w), (0, b), (0, 12), (0, 3)]) (S' := []) r_205_79 rfl rfl rfl ?_
                                      refine gx_li (z := 4) (L' := [(2, 192), (0, w), (0, b), (0, 12), (0, 4)]) r_205_80 rfl (w32_eq (by omega) (by omega) (by omega)) rfl ?_
                                      refine gx_st (L' := [(2, 192), (0, w), (0, b), (0, 12), (0, 4)]) (S' := []) r_205_83 rfl rfl rfl ?_
                                      refine gx_st (L' := [(2, 192), (0, w), (0, b), (0, 12), (0, 4)]) (S' := [(0, 4)]) r_205_32 rfl rfl rfl ?_
                                      refine gx_st (L' := [(2, 192), (0, w), (0, b), (0, 12), (0, 4)]) (S' := [(0, 4), (0, 4)]) r_205_34 rfl rfl rfl ?_
                                      refine gx_ic (P := 4 ≤ 4) r_205_35 (rfl) (fun h35 => ?_) (fun h35 => ?_)
                                      · refine gx_st (L' := [(2, 192), (0, w), (0, b), (0, 12), (0, 4)]) (S' := [(0, 12)]) r_205_86 rfl rfl rfl ?_
                                        exact gx_rt r_205_87 rfl rfl ⟨_, rfl, RestV_c ⟨fun _ => rest_s (by omega), fun z => by omega⟩, rfl⟩
                                      · omega
                                · omega
                        · omega
                    · have h67 := Decidable.not_not.mp h67
                      refine gx_st (L' := [(2, 192), (0, w), (0, b), (0, 0), (0, 1)]) (S' := [(0, 1), (0, 0)]) r_205_70 rfl rfl rfl ?_
                      refine gx_st (L' := [(2, 192), (0, w), (0, b), (0, 0), (0, 1)]) (S' := [(0, 1), (0, 1), (0, 0)]) r_205_71 rfl rfl rfl ?_
                      refine gx_st (L' := [(2, 192), (0, w), (0, b), (0, 0), (0, 1)]) (S' := [(0, (ishl 1 1)), (0, 0)]) r_205_73 rfl rfl rfl ?_
                      rw [show (ishl 1 1) = 2 from by decide]
                      refine gx_st (L' := [(2, 192), (0, w), (0, b), (0, 0), (0, 1)]) (S' := [(0, 2), (0, 0)]) r_205_74 rfl rfl rfl ?_
                      refine gx_st (L' := [(2, 192), (0, w), (0, b), (0, 0), (0, 1)]) (S' := [(0, (ior 0 2))]) r_205_78 rfl rfl rfl ?_
                      rw [show (ior 0 2) = 2 from by decide]
                      refine gx_st (L' := [(2, 192), (0, w), (0, b), (0, 2), (0, 1)]) (S' := []) r_205_79 rfl rfl rfl ?_
                      refine gx_li (z := 2) (L' := [(2, 192), (0, w), (0, b), (0, 2), (0, 2)]) r_205_80 rfl (w32_eq (by omega) (by omega) (by omega)) rfl ?_
                      refine gx_st (L' := [(2, 192), (0, w), (0, b), (0, 2), (0, 2)]) (S' := []) r_205_83 rfl rfl rfl ?_
                      refine gx_st (L' := [(2, 192), (0, w), (0, b), (0, 2), (0, 2)]) (S' := [(0, 2)]) r_205_32 rfl rfl rfl ?_
                      refine gx_st (L' := [(2, 192), (0, w), (0, b), (0, 2), (0, 2)]) (S' := [(0, 4), (0, 2)]) r_205_34 rfl rfl rfl ?_
                      refine gx_ic (P := 4 ≤ 2) r_205_35 (rfl) (fun h35 => ?_) (fun h35 => ?_)
                      · omega
                      · refine gx_st (L' := [(2, 192), (0, w), (0, b), (0, 2), (0, 2)]) (S' := [(0, 2)]) r_205_38 rfl rfl rfl ?_
                        refine gx_st (L' := [(2, 192), (0, w), (0, b), (0, 2), (0, 2)]) (S' := [(0, 2), (0, 2)]) r_205_39 rfl rfl rfl ?_
                        refine gx_st (L' := [(2, 192), (0, w), (0, b), (0, 2), (0, 2)]) (S' := [(0, 2), (0, 2), (0, 2)]) r_205_41 rfl rfl rfl ?_
                        refine gx_ic (P := 2 ≤ 2) r_205_42 (rfl) (fun h42 => ?_) (fun h42 => ?_)
                        · refine gx_st (L' := [(2, 192), (0, w), (0, b), (0, 2), (0, 2)]) (S' := [(0, 0), (0, 2)]) r_205_49 rfl rfl rfl ?_
                          refine gx_st (L' := [(2, 192), (0, w), (0, b), (0, 2), (0, 2)]) (S' := [(0, 2), (0, 0), (0, 2)]) r_205_50 rfl rfl rfl ?_
                          refine gx_st (L' := [(2, 192), (0, w), (0, b), (0, 2), (0, 2)]) (S' := [(0, 2), (0, 2), (0, 0), (0, 2)]) r_205_52 rfl rfl rfl ?_
                          refine gx_rm (z := (2 % 2)) r_205_53 (by decide) (tm_eq (by omega) rfl) ?_
                          refine gx_i0 (P := ¬ (2 % 2) = 0) r_205_54 (rfl) (fun h54 => ?_) (fun h54 => ?_)
                          · refine gx_st (L' := [(2, 192), (0, w), (0, b), (0, 2), (0, 2)]) (S' := [(0, 0), (0, 0), (0, 2)]) r_205_61 rfl rfl rfl ?_
                            refine gx_st (L' := [(2, 192), (0, w), (0, b), (0, 2), (0, 2)]) (S' := [(0, w), (0, 0), (0, 0), (0, 2)]) r_205_62 rfl rfl rfl ?_
                            refine gx_st (L' := [(2, 192), (0, w), (0, b), (0, 2), (0, 2)]) (S' := [(0, b), (0, w), (0, 0), (0, 0), (0, 2)]) r_205_63 rfl rfl rfl ?_
                            refine gx_ci (nx := 67) (S2 := [(0, 2)]) (x_204_00 w b hw hb) r_205_64 rfl rfl rfl rfl rfl rfl rfl (by decide) rfl (fun x64 n64 q64 => ?_)
                            obtain rfl := q64.1.symm
                            obtain rfl := q64.2.symm
                            show GX T 2 205 67 [(2, 192), (0, w), (0, b), (0, 2), (0, 2)] [(0, (if 1 ≤ b / 2 then 1 else 0)), (0, 2)] m (RI (fun v m1 => v = RestV w b ∧ m1 = m))
                            refine gx_i0 (P := ¬ (1 ≤ b / 2)) r_205_67 (b01_eq) (fun h67 => ?_) (fun h67 => ?_)
                            · refine gx_st (L' := [(2, 192), (0, w), (0, b), (0, 2), (0, 2)]) (S' := [(0, 0), (0, 2)]) r_205_77 rfl rfl rfl ?_
                              refine gx_st (L' := [(2, 192), (0, w), (0, b), (0, 2), (0, 2)]) (S' := [(0, (ior 2 0))]) r_205_78 rfl rfl rfl ?_
                              rw [show (ior 2 0) = 2 from by decide]
                              refine gx_st (L' := [(2, 192), (0, w), (0, b), (0, 2), (0, 2)]) (S' := []) r_205_79 rfl rfl rfl ?_
                              refine gx_li (z := 3) (L' := [(2, 192), (0, w), (0, b), (0, 2), (0, 3)]) r_205_80 rfl (w32_eq (by omega) (by omega) (by omega)) rfl ?_
                              refine gx_st (L' := [(2, 192), (0, w), (0, b), (0, 2), (0, 3)]) (S' := []) r_205_83 rfl rfl rfl ?_
                              refine gx_st (L' := [(2, 192), (0, w), (0, b), (0, 2), (0, 3)]) (S' := [(0, 3)]) r_205_32 rfl rfl rfl ?_
                              refine gx_st (L' := [(2, 192), (0, w), (0, b), (0, 2), (0, 3)]) (S' := [(0, 4), (0, 3)]) r_205_34 rfl rfl rfl ?_
                              refine gx_ic (P := 4 ≤ 3) r_205_35 (rfl) (fun h35 => ?_) (fun h35 => ?_)
                              · omega
                              · refine gx_st (L' := [(2, 192), (0, w), (0, b), (0, 2), (0, 3)]) (S' := [(0, 2)]) r_205_38 rfl rfl rfl ?_
                                refine gx_st (L' := [(2, 192), (0, w), (0, b), (0, 2), (0, 3)]) (S' := [(0, 3), (0, 2)]) r_205_39 rfl rfl rfl ?_
                                refine gx_st (L' := [(2, 192), (0, w), (0, b), (0, 2), (0, 3)]) (S' := [(0, 2), (0, 3), (0, 2)]) r_205_41 rfl rfl rfl ?_
                                refine gx_ic (P := 2 ≤ 3) r_205_42 (rfl) (fun h42 => ?_) (fun h42 => ?_)
                                · refine gx_st (L' := [(2, 192), (0, w), (0, b), (0, 2), (0, 3)]) (S' := [(0, 0), (0, 2)]) r_205_49 rfl rfl rfl ?_
                                  refine gx_st (L' := [(2, 192), (0, w), (0, b), (0, 2), (0, 3)]) (S' := [(0, 3), (0, 0), (0, 2)]) r_205_50 rfl rfl rfl ?_
                                  refine gx_st (L' := [(2, 192), (0, w), (0, b), (0, 2), (0, 3)]) (S' := [(0, 2), (0, 3), (0, 0), (0, 2)]) r_205_52 rfl rfl rfl ?_
                                  refine gx_rm (z := (3 % 2)) r_205_53 (by decide) (tm_eq (by omega) rfl) ?_
                                  refine gx_i0 (P := ¬ (3 % 2) = 0) r_205_54 (rfl) (fun h54 => ?_) (fun h54 => ?_)
                                  · refine gx_st (L' := [(2, 192), (0, w), (0, b), (0, 2), (0, 3)]) (S' := [(0, 0), (0, 0), (0, 2)]) r_205_61 rfl rfl rfl ?_
                                    refine gx_st (L' := [(2, 192), (0, w), (0, b), (0, 2), (0, 3)]) (S' := [(0, w), (0, 0), (0, 0), (0, 2)]) r_205_62 rfl rfl rfl ?_
                                    refine gx_st (L' := [(2, 192), (0, w), (0, b), (0, 2), (0, 3)]) (S' := [(0, b), (0, w), (0, 0), (0, 0), (0, 2)]) r_205_63 rfl rfl rfl ?_
                                    refine gx_ci (nx := 67) (S2 := [(0, 2)]) (x_204_00 w b hw hb) r_205_64 rfl rfl rfl rfl rfl rfl rfl (by decide) rfl (fun x64 n64 q64 => ?_)
                                    obtain rfl := q64.1.symm
                                    obtain rfl := q64.2.symm
                                    show GX T 2 205 67 [(2, 192), (0, w), (0, b), (0, 2), (0, 3)] [(0, (if 1 ≤ b / 2 then 1 else 0)), (0, 2)] m (RI (fun v m1 => v = RestV w b ∧ m1 = m))
                                    refine gx_i0 (P := ¬ (1 ≤ b / 2)) r_205_67 (b01_eq) (fun h67 => ?_) (fun h67 => ?_)
                                    · refine gx_st (L' := [(2, 192), (0, w), (0, b), (0, 2), (0, 3)]) (S' := [(0, 0), (0, 2)]) r_205_77 rfl rfl rfl ?_
                                      refine gx_st (L' := [(2, 192), (0, w), (0, b), (0, 2), (0, 3)]) (S' := [(0, (ior 2 0))]) r_205_78 rfl rfl rfl ?_
                                      rw [show (ior 2 0) = 2 from by decide]
                                      refine gx_st (L' := [(2, 192), (0, w), (0, b), (0, 2), (0, 3)]) (S' := []) r_205_79 rfl rfl rfl ?_
                                      refine gx_li (z := 4) (L' := [(2, 192), (0, w), (0, b), (0, 2), (0, 4)]) r_205_80 rfl (w32_eq (by omega) (by omega) (by omega)) rfl ?_
                                      refine gx_st (L' := [(2, 192), (0, w), (0, b), (0, 2), (0, 4)]) (S' := []) r_205_83 rfl rfl rfl ?_
                                      refine gx_st (L' := [(2, 192), (0, w), (0, b), (0, 2), (0, 4)]) (S' := [(0, 4)]) r_205_32 rfl rfl rfl ?_
                                      refine gx_st (L' := [(2, 192), (0, w), (0, b), (0, 2), (0, 4)]) (S' := [(0, 4), (0, 4)]) r_205_34 rfl rfl rfl ?_
                                      refine gx_ic (P := 4 ≤ 4) r_205_35 (rfl) (fun h35 => ?_) (fun h35 => ?_)
                                      · refine gx_st (L' := [(2, 192), (0, w), (0, b), (0, 2), (0, 4)]) (S' := [(0, 2)]) r_205_86 rfl rfl rfl ?_
                                        exact gx_rt r_205_87 rfl rfl ⟨_, rfl, RestV_c ⟨fun _ => rest_s (by omega), fun z => by omega⟩, rfl⟩
                                      · omega
                                    · have h67 := Decidable.not_not.mp h67
                                      refine gx_st (L' := [(2, 192), (0, w), (0, b), (0, 2), (0, 3)]) (S' := [(0, 1), (0, 2)]) r_205_70 rfl rfl rfl ?_
                                      refine gx_st (L' := [(2, 192), (0, w), (0, b), (0, 2), (0, 3)]) (S' := [(0, 3), (0, 1), (0, 2)]) r_205_71 rfl rfl rfl ?_
                                      refine gx_st (L' := [(2, 192), (0, w), (0, b), (0, 2), (0, 3)]) (S' := [(0, (ishl 1 3)), (0, 2)]) r_205_73 rfl rfl rfl ?_
                                      rw [show (ishl 1 3) = 8 from by decide]
                                      refine gx_st (L' := [(2, 192), (0, w), (0, b), (0, 2), (0, 3)]) (S' := [(0, 8), (0, 2)]) r_205_74 rfl rfl rfl ?_
                                      refine gx_st (L' := [(2, 192), (0, w), (0, b), (0, 2), (0, 3)]) (S' := [(0, (ior 2 8))]) r_205_78 rfl rfl rfl ?_
                                      rw [show (ior 2 8) = 10 from by decide]
                                      refine gx_st (L' := [(2, 192), (0, w), (0, b), (0, 10), (0, 3)]) (S' := []) r_205_79 rfl rfl rfl ?_
                                      refine gx_li (z := 4) (L' := [(2, 192), (0, w), (0, b), (0, 10), (0, 4)]) r_205_80 rfl (w32_eq (by omega) (by omega) (by omega)) rfl ?_
                                      refine gx_st (L' := [(2, 192), (0, w), (0, b), (0, 10), (0, 4)]) (S' := []) r_205_83 rfl rfl rfl ?_
                                      refine gx_st (L' := [(2, 192), (0, w), (0, b), (0, 10), (0, 4)]) (S' := [(0, 4)]) r_205_32 rfl rfl rfl ?_
                                      refine gx_st (L' := [(2, 192), (0, w), (0, b), (0, 10), (0, 4)]) (S' := [(0, 4), (0, 4)]) r_205_34 rfl rfl rfl ?_
                                      refine gx_ic (P := 4 ≤ 4) r_205_35 (rfl) (fun h35 => ?_) (fun h35 => ?_)
                                      · refine gx_st (L' := [(2, 192), (0, w), (0, b), (0, 10), (0, 4)]) (S' := [(0, 10)]) r_205_86 rfl rfl rfl ?_
                                        exact gx_rt r_205_87 rfl rfl ⟨_, rfl, RestV_c ⟨fun _ => rest_s (by omega), fun z => by omega⟩, rfl⟩
                                      · omega
                                  · have h54 := Decidable.not_not.mp h54
                                    refine gx_st (L' := [(2, 192), (0, w), (0, b), (0, 2), (0, 3)]) (S' := [(0, 1), (0, 0), (0, 2)]) r_205_57 rfl rfl rfl ?_
                                    refine gx_st (L' := [(2, 192), (0, w), (0, b), (0, 2), (0, 3)]) (S' := [(0, 1), (0, 0), (0, 2)]) r_205_58 rfl rfl rfl ?_
                                    refine gx_st (L' := [(2, 192), (0, w), (0, b), (0, 2), (0, 3)]) (S' := [(0, w), (0, 1), (0, 0), (0, 2)]) r_205_62 rfl rfl rfl ?_
                                    refine gx_st (L' := [(2, 192), (0, w), (0, b), (0, 2), (0, 3)]) (S' := [(0, b), (0, w), (0, 1), (0, 0), (0, 2)]) r_205_63 rfl rfl rfl ?_
                                    refine gx_ci (nx := 67) (S2 := [(0, 2)]) (x_204_01 w b hw hb) r_205_64 rfl rfl rfl rfl rfl rfl rfl (by decide) rfl (fun x64 n64 q64 => ?_)
                                    obtain rfl := q64.1.symm
                                    obtain rfl := q64.2.symm
                                    show GX T 2 205 67 [(2, 192), (0, w), (0, b), (0, 2), (0, 3)] [(0, (if w ≤ 1 ∧ b / 2 ≤ 1 then 1 else 0)), (0, 2)] m (RI (fun v m1 => v = RestV w b ∧ m1 = m))
                                    refine gx_i0 (P := ¬ (w ≤ 1 ∧ b / 2 ≤ 1)) r_205_67 (b01_eq) (fun h67 => ?_) (fun h67 => ?_)
                                    · refine gx_st (L' := [(2, 192), (0, w), (0, b), (0, 2), (0, 3)]) (S' := [(0, 0), (0, 2)]) r_205_77 rfl rfl rfl ?_
                                      refine gx_st (L' := [(2, 192), (0, w), (0, b), (0, 2), (0, 3)]) (S' := [(0, (ior 2 0))]) r_205_78 rfl rfl rfl ?_
                                      rw [show (ior 2 0) = 2 from by decide]
                                      refine gx_st (L' := [(2, 192), (0, w), (0, b), (0, 2), (0, 3)]) (S' := []) r_205_79 rfl rfl rfl ?_
                                      refine gx_li (z := 4) (L' := [(2, 192), (0, w), (0, b), (0, 2), (0, 4)]) r_205_80 rfl (w32_eq (by omega) (by omega) (by omega)) rfl ?_
                                      refine gx_st (L' := [(2, 192), (0, w), (0, b), (0, 2), (0, 4)]) (S' := []) r_205_83 rfl rfl rfl ?_
                                      refine gx_st (L' := [(2, 192), (0, w), (0, b), (0, 2), (0, 4)]) (S' := [(0, 4)]) r_205_32 rfl rfl rfl ?_
                                      refine gx_st (L' := [(2, 192), (0, w), (0, b), (0, 2), (0, 4)]) (S' := [(0, 4), (0, 4)]) r_205_34 rfl rfl rfl ?_
                                      refine gx_ic (P := 4 ≤ 4) r_205_35 (rfl) (fun h35 => ?_) (fun h35 => ?_)
                                      · refine gx_st (L' := [(2, 192), (0, w), (0, b), (0, 2), (0, 4)]) (S' := [(0, 2)]) r_205_86 rfl rfl rfl ?_
                                        exact gx_rt r_205_87 rfl rfl ⟨_, rfl, RestV_c ⟨fun _ => rest_s (by omega), fun z => by omega⟩, rfl⟩
                                      · omega
                                    · have h67 := Decidable.not_not.mp h67
                                      refine gx_st (L' := [(2, 192), (0, w), (0, b), (0, 2), (0, 3)]) (S' := [(0, 1), (0, 2)]) r_205_70 rfl rfl rfl ?_
                                      refine gx_st (L' := [(2, 192), (0, w), (0, b), (0, 2), (0, 3)]) (S' := [(0, 3), (0, 1), (0, 2)]) r_205_71 rfl rfl rfl ?_
                                      refine gx_st (L' := [(2, 192), (0, w), (0, b), (0, 2), (0, 3)]) (S' := [(0, (ishl 1 3)), (0, 2)]) r_205_73 rfl rfl rfl ?_
                                      rw [show (ishl 1 3) = 8 from by decide]
                                      refine gx_st (L' := [(2, 192), (0, w), (0, b), (0, 2), (0, 3)]) (S' := [(0, 8), (0, 2)]) r_205_74 rfl rfl rfl ?_
                                      refine gx_st (L' := [(2, 192), (0, w), (0, b), (0, 2), (0, 3)]) (S' := [(0, (ior 2 8))]) r_205_78 rfl rfl rfl ?_
                                      rw [show (ior 2 8) = 10 from by decide]
                                      refine gx_st (L' := [(2, 192), (0, w), (0, b), (0, 10), (0, 3)]) (S' := []) r_205_79 rfl rfl rfl ?_
                                      refine gx_li (z := 4) (L' := [(2, 192), (0, w), (0, b), (0, 10), (0, 4)]) r_205_80 rfl (w32_eq (by omega) (by omega) (by omega)) rfl ?_
                                      refine gx_st (L' := [(2, 192), (0, w), (0, b), (0, 10), (0, 4)]) (S' := []) r_205_83 rfl rfl rfl ?_
                                      refine gx_st (L' := [(2, 192), (0, w), (0, b), (0, 10), (0, 4)]) (S' := [(0, 4)]) r_205_32 rfl rfl rfl ?_
                                      refine gx_st (L' := [(2, 192), (0, w), (0, b), (0, 10), (0, 4)]) (S' := [(0, 4), (0, 4)]) r_205_34 rfl rfl rfl ?_
                                      refine gx_ic (P := 4 ≤ 4) r_205_35 (rfl) (fun h35 => ?_) (fun h35 => ?_)
                                      · refine gx_st (L' := [(2, 192), (0, w), (0, b), (0, 10), (0, 4)]) (S' := [(0, 10)]) r_205_86 rfl rfl rfl ?_
                                        exact gx_rt r_205_87 rfl rfl ⟨_, rfl, RestV_c ⟨fun _ => rest_s (by omega), fun z => by omega⟩, rfl⟩
                                      · omega
                                · omega
                            · have h67 := Decidable.not_not.mp h67
                              refine gx_st (L' := [(2, 192), (0, w), (0, b), (0, 2), (0, 2)]) (S' := [(0, 1), (0, 2)]) r_205_70 rfl rfl rfl ?_
                              refine gx_st (L' := [(2, 192), (0, w), (0, b), (0, 2), (0, 2)]) (S' := [(0, 2), (0, 1), (0, 2)]) r_205_71 rfl rfl rfl ?_
                              refine gx_st (L' := [(2, 192), (0, w), (0, b), (0, 2), (0, 2)]) (S' := [(0, (ishl 1 2)), (0, 2)]) r_205_73 rfl rfl rfl ?_
                              rw [show (ishl 1 2) = 4 from by decide]
                              refine gx_st (L' := [(2, 192), (0, w), (0, b), (0, 2), (0, 2)]) (S' := [(0, 4), (0, 2)]) r_205_74 rfl rfl rfl ?_
                              refine gx_st (L' := [(2, 192), (0, w), (0, b), (0, 2), (0, 2)]) (S' := [(0, (ior 2 4))]) r_205_78 rfl rfl rfl ?_
                              rw [show (ior 2 4) = 6 from by decide]
                              refine gx_st (L' := [(2, 192), (0, w), (0, b), (0, 6), (0, 2)]) (S' := []) r_205_79 rfl rfl rfl ?_
                              refine gx_li (z := 3) (L' := [(2, 192), (0, w), (0, b), (0, 6), (0, 3)]) r_205_80 rfl (w32_eq (by omega) (by omega) (by omega)) rfl ?_
                              refine gx_st (L' := [(2, 192), (0, w), (0, b), (0, 6), (0, 3)]) (S' := []) r_205_83 rfl rfl rfl ?_
                              refine gx_st (L' := [(2, 192), (0, w), (0, b), (0, 6), (0, 3)]) (S' := [(0, 3)]) r_205_32 rfl rfl rfl ?_
                              refine gx_st (L' := [(2, 192), (0, w), (0, b), (0, 6), (0, 3)]) (S' := [(0, 4), (0, 3)]) r_205_34 rfl rfl rfl ?_
                              refine gx_ic (P := 4 ≤ 3) r_205_35 (rfl) (fun h35 => ?_) (fun h35 => ?_)
                              · omega
                              · refine gx_st (L' := [(2, 192), (0, w), (0, b), (0, 6), (0, 3)]) (S' := [(0, 6)]) r_205_38 rfl rfl rfl ?_
                                refine gx_st (L' := [(2, 192), (0, w), (0, b), (0, 6), (0, 3)]) (S' := [(0, 3), (0, 6)]) r_205_39 rfl rfl rfl ?_
                                refine gx_st (L' := [(2, 192), (0, w), (0, b), (0, 6), (0, 3)]) (S' := [(0, 2), (0, 3), (0, 6)]) r_205_41 rfl rfl rfl ?_
                                refine gx_ic (P := 2 ≤ 3) r_205_42 (rfl) (fun h42 => ?_) (fun h42 => ?_)
                                · refine gx_st (L' := [(2, 192), (0, w), (0, b), (0, 6), (0, 3)]) (S' := [(0, 0), (0, 6)]) r_205_49 rfl rfl rfl ?_
                                  refine gx_st (L' := [(2, 192), (0, w), (0, b), (0, 6), (0, 3)]) (S' := [(0, 3), (0, 0), (0, 6)]) r_205_50 rfl rfl rfl ?_
                                  refine gx_st (L' := [(2, 192), (0, w), (0, b), (0, 6), (0, 3)]) (S' := [(0, 2), (0, 3), (0, 0), (0, 6)]) r_205_52 rfl rfl rfl ?_
                                  refine gx_rm (z := (3 % 2)) r_205_53 (by decide) (tm_eq (by omega) rfl) ?_
                                  refine gx_i0 (P := ¬ (3 % 2) = 0) r_205_54 (rfl) (fun h54 => ?_) (fun h54 => ?_)
                                  · refine gx_st (L' := [(2, 192), (0, w), (0, b), (0, 6), (0, 3)]) (S' := [(0, 0), (0, 0), (0, 6)]) r_205_61 rfl rfl rfl ?_
                                    refine gx_st (L' := [(2, 192), (0, w), (0, b), (0, 6), (0, 3)]) (S' := [(0, w), (0, 0), (0, 0), (0, 6)]) r_205_62 rfl rfl rfl ?_
                                    refine gx_st (L' := [(2, 192), (0, w), (0, b), (0, 6), (0, 3)]) (S' := [(0, b), (0, w), (0, 0), (0, 0), (0, 6)]) r_205_63 rfl rfl rfl ?_
                                    refine gx_ci (nx := 67) (S2 := [(0, 6)]) (x_204_00 w b hw hb) r_205_64 rfl rfl rfl rfl rfl rfl rfl (by decide) rfl (fun x64 n64 q64 => ?_)
                                    obtain rfl := q64.1.symm
                                    obtain rfl := q64.2.symm
                                    show GX T 2 205 67 [(2, 192), (0, w), (0, b), (0, 6), (0, 3)] [(0, (if 1 ≤ b / 2 then 1 else 0)), (0, 6)] m (RI (fun v m1 => v = RestV w b ∧ m1 = m))
                                    refine gx_i0 (P := ¬ (1 ≤ b / 2)) r_205_67 (b01_eq) (fun h67 => ?_) (fun h67 => ?_)
                                    · refine gx_st (L' := [(2, 192), (0, w), (0, b), (0, 6), (0, 3)]) (S' := [(0, 0), (0, 6)]) r_205_77 rfl rfl rfl ?_
                                      refine gx_st (L' := [(2, 192), (0, w), (0, b), (0, 6), (0, 3)]) (S' := [(0, (ior 6 0))]) r_205_78 rfl rfl rfl ?_
                                      rw [show (ior 6 0) = 6 from by decide]
                                      refine gx_st (L' := [(2, 192), (0, w), (0, b), (0, 6), (0, 3)]) (S' := []) r_205_79 rfl rfl rfl ?_
                                      refine gx_li (z := 4) (L' := [(2, 192), (0, w), (0, b), (0, 6), (0, 4)]) r_205_80 rfl (w32_eq (by omega) (by omega) (by omega)) rfl ?_
                                      refine gx_st (L' := [(2, 192), (0, w), (0, b), (0, 6), (0, 4)]) (S' := []) r_205_83 rfl rfl rfl ?_
                                      refine gx_st (L' := [(2, 192), (0, w), (0, b), (0, 6), (0, 4)]) (S' := [(0, 4)]) r_205_32 rfl rfl rfl ?_
                                      refine gx_st (L' := [(2, 192), (0, w), (0, b), (0, 6), (0, 4)]) (S' := [(0, 4), (0, 4)]) r_205_34 rfl rfl rfl ?_
                                      refine gx_ic (P := 4 ≤ 4) r_205_35 (rfl) (fun h35 => ?_) (fun h35 => ?_)
                                      · refine gx_st (L' := [(2, 192), (0, w), (0, b), (0, 6), (0, 4)]) (S' := [(0, 6)]) r_205_86 rfl rfl rfl ?_
                                        exact gx_rt r_205_87 rfl rfl ⟨_, rfl, RestV_c ⟨fun _ => rest_s (by omega), fun z => by omega⟩, rfl⟩
                                      · omega
                                    · have h67 := Decidable.not_not.mp h67
                                      refine gx_st (L' := [(2, 192), (0, w), (0, b), (0, 6), (0, 3)]) (S' := [(0, 1), (0, 6)]) r_205_70 rfl rfl rfl ?_
                                      refine gx_st (L' := [(2, 192), (0, w), (0, b), (0, 6), (0, 3)]) (S' := [(0, 3), (0, 1), (0, 6)]) r_205_71 rfl rfl rfl ?_
                                      refine gx_st (L' := [(2, 192), (0, w), (0, b), (0, 6), (0, 3)]) (S' := [(0, (ishl 1 3)), (0, 6)]) r_205_73 rfl rfl rfl ?_
                                      rw [show (ishl 1 3) = 8 from by decide]
                                      refine gx_st (L' := [(2, 192), (0, w), (0, b), (0, 6), (0, 3)]) (S' := [(0, 8), (0, 6)]) r_205_74 rfl rfl rfl ?_
                                      refine gx_st (L' := [(2, 192), (0, w), (0, b), (0, 6), (0, 3)]) (S' := [(0, (ior 6 8))]) r_205_78 rfl rfl rfl ?_
                                      rw [show (ior 6 8) = 14 from by decide]
                                      refine gx_st (L' := [(2, 192), (0, w), (0, b), (0, 14), (0, 3)]) (S' := []) r_205_79 rfl rfl rfl ?_
                                      refine gx_li (z := 4) (L' := [(2, 192), (0, w), (0, b), (0, 14), (0, 4)]) r_205_80 rfl (w32_eq (by omega) (by omega) (by omega)) rfl ?_
                                      refine gx_st (L' := [(2, 192), (0, w), (0, b), (0, 14), (0, 4)]) (S' := []) r_205_83 rfl rfl rfl ?_
                                      refine gx_st (L' := [(2, 192), (0, w), (0, b), (0, 14), (0, 4)]) (S' := [(0, 4)]) r_205_32 rfl rfl rfl ?_
                                      refine gx_st (L' := [(2, 192), (0, w), (0, b), (0, 14), (0, 4)]) (S' := [(0, 4), (0, 4)]) r_205_34 rfl rfl rfl ?_
                                      refine gx_ic (P := 4 ≤ 4) r_205_35 (rfl) (fun h35 => ?_) (fun h35 => ?_)
                                      · refine gx_st (L' := [(2, 192), (0, w), (0, b), (0, 14), (0, 4)]) (S' := [(0, 14)]) r_205_86 rfl rfl rfl ?_
                                        exact gx_rt r_205_87 rfl rfl ⟨_, rfl, RestV_c ⟨fun _ => rest_s (by omega), fun z => by omega⟩, rfl⟩
                                      · omega
                                  · have h54 := Decidable.not_not.mp h54
                                    refine gx_st (L' := [(2, 192), (0, w), (0, b), (0, 6), (0, 3)]) (S' := [(0, 1), (0, 0), (0, 6)]) r_205_57 rfl rfl rfl ?_
                                    refine gx_st (L' := [(2, 192), (0, w), (0, b), (0, 6), (0, 3)]) (S' := [(0, 1), (0, 0), (0, 6)]) r_205_58 rfl rfl rfl ?_
                                    refine gx_st (L' := [(2, 192), (0, w), (0, b), (0, 6), (0, 3)]) (S' := [(0, w), (0, 1), (0, 0), (0, 6)]) r_205_62 rfl rfl rfl ?_
                                    refine gx_st (L' := [(2, 192), (0, w), (0, b), (0, 6), (0, 3)]) (S' := [(0, b), (0, w), (0, 1), (0, 0), (0, 6)]) r_205_63 rfl rfl rfl ?_
                                    refine gx_ci (nx := 67) (S2 := [(0, 6)]) (x_204_01 w b hw hb) r_205_64 rfl rfl rfl rfl rfl rfl rfl (by decide) rfl (fun x64 n64 q64 => ?_)
                                    obtain rfl := q64.1.symm
                                    obtain rfl := q64.2.symm
                                    show GX T 2 205 67 [(2, 192), (0, w), (0, b), (0, 6), (0, 3)] [(0, (if w ≤ 1 ∧ b / 2 ≤ 1 then 1 else 0)), (0, 6)] m (RI (fun v m1 => v = RestV w b ∧ m1 = m))
                                    refine gx_i0 (P := ¬ (w ≤ 1 ∧ b / 2 ≤ 1)) r_205_67 (b01_eq) (fun h67 => ?_) (fun h67 => ?_)
                                    · refine gx_st (L' := [(2, 192), (0, w), (0, b), (0, 6), (0, 3)]) (S' := [(0, 0), (0, 6)]) r_205_77 rfl rfl rfl ?_
                                      refine gx_st (L' := [(2, 192), (0, w), (0, b), (0, 6), (0, 3)]) (S' := [(0, (ior 6 0))]) r_205_78 rfl rfl rfl ?_
                                      rw [show (ior 6 0) = 6 from by decide]
                                      refine gx_st (L' := [(2, 192), (0, w), (0, b), (0, 6), (0, 3)]) (S' := []) r_205_79 rfl rfl rfl ?_
                                      refine gx_li (z := 4) (L' := [(2, 192), (0, w), (0, b), (0, 6), (0, 4)]) r_205_80 rfl (w32_eq (by omega) (by omega) (by omega)) rfl ?_
                                      refine gx_st (L' := [(2, 192), (0, w), (0, b), (0, 6), (0, 4)]) (S' := []) r_205_83 rfl rfl rfl ?_
                                      refine gx_st (L' := [(2, 192), (0, w), (0, b), (0, 6), (0, 4)]) (S' := [(0, 4)]) r_205_32 rfl rfl rfl ?_
                                      refine gx_st (L' := [(2, 192), (0, w), (0, b), (0, 6), (0, 4)]) (S' := [(0, 4), (0, 4)]) r_205_34 rfl rfl rfl ?_
                                      refine gx_ic (P := 4 ≤ 4) r_205_35 (rfl) (fun h35 => ?_) (fun h35 => ?_)
                                      · refine gx_st (L' := [(2, 192), (0, w), (0, b), (0, 6), (0, 4)]) (S' := [(0, 6)]) r_205_86 rfl rfl rfl ?_
                                        exact gx_rt r_205_87 rfl rfl ⟨_, rfl, RestV_c ⟨fun _ => rest_s (by omega), fun z => by omega⟩, rfl⟩
                                      · omega
                                    · have h67 := Decidable.not_not.mp h67
                                      refine gx_st (L' := [(2, 192), (0, w), (0, b), (0, 6), (0, 3)]) (S' := [(0, 1), (0, 6)]) r_205_70 rfl rfl rfl ?_
                                      refine gx_st (L' := [(2, 192), (0, w), (0, b), (0, 6), (0, 3)]) (S' := [(0, 3), (0, 1), (0, 6)]) r_205_71 rfl rfl rfl ?_
                                      refine gx_st (L' := [(2, 192), (0, w), (0, b), (0, 6), (0, 3)]) (S' := [(0, (ishl 1 3)), (0, 6)]) r_205_73 rfl rfl rfl ?_
                                      rw [show (ishl 1 3) = 8 from by decide]
                                      refine gx_st (L' := [(2, 192), (0, w), (0, b), (0, 6), (0, 3)]) (S' := [(0, 8), (0, 6)]) r_205_74 rfl rfl rfl ?_
                                      refine gx_st (L' := [(2, 192), (0, w), (0, b), (0, 6), (0, 3)]) (S' := [(0, (ior 6 8))]) r_205_78 rfl rfl rfl ?_
                                      rw [show (ior 6 8) = 14 from by decide]
                                      refine gx_st (L' := [(2, 192), (0, w), (0, b), (0, 14), (0, 3)]) (S' := []) r_205_79 rfl rfl rfl ?_
                                      refine gx_li (z := 4) (L' := [(2, 192), (0, w), (0, b), (0, 14), (0, 4)]) r_205_80 rfl (w32_eq (by omega) (by omega) (by omega)) rfl ?_
                                      refine gx_st (L' := [(2, 192), (0, w), (0, b), (0, 14), (0, 4)]) (S' := []) r_205_83 rfl rfl rfl ?_
                                      refine gx_st (L' := [(2, 192), (0, w), (0, b), (0, 14), (0, 4)]) (S' := [(0, 4)]) r_205_32 rfl rfl rfl ?_
                                      refine gx_st (L' := [(2, 192), (0, w), (0, b), (0, 14), (0, 4)]) (S' := [(0, 4), (0, 4)]) r_205_34 rfl rfl rfl ?_
                                      refine gx_ic (P := 4 ≤ 4) r_205_35 (rfl) (fun h35 => ?_) (fun h35 => ?_)
                                      · refine gx_st (L' := [(2, 192), (0, w), (0, b), (0, 14), (0, 4)]) (S' := [(0, 14)]) r_205_86 rfl rfl rfl ?_
                                        exact gx_rt r_205_87 rfl rfl ⟨_, rfl, RestV_c ⟨fun _ => rest_s (by omega), fun z => by omega⟩, rfl⟩
                                      · omega
                                · omega
                          · have h54 := Decidable.not_not.mp h54
                            refine gx_st (L' := [(2, 192), (0, w), (0, b), (0, 2), (0, 2)]) (S' := [(0, 1), (0, 0), (0, 2)]) r_205_57 rfl rfl rfl ?_
                            refine gx_st (L' := [(2, 192), (0, w), (0, b), (0, 2), (0, 2)]) (S' := [(0, 1), (0, 0), (0, 2)]) r_205_58 rfl rfl rfl ?_
                            refine gx_st (L' := [(2, 192), (0, w), (0, b), (0, 2), (0, 2)]) (S' := [(0, w), (0, 1), (0, 0), (0, 2)]) r_205_62 rfl rfl rfl ?_
                            refine gx_st (L' := [(2, 192), (0, w), (0, b), (0, 2), (0, 2)]) (S' := [(0, b), (0, w), (0, 1), (0, 0), (0, 2)]) r_205_63 rfl rfl rfl ?_
                            refine gx_ci (nx := 67) (S2 := [(0, 2)]) (x_204_01 w b hw hb) r_205_64 rfl rfl rfl rfl rfl rfl rfl (by decide) rfl (fun x64 n64 q64 => ?_)
                            obtain rfl := q64.1.symm
                            obtain rfl := q64.2.symm
                            show GX T 2 205 67 [(2, 192), (0, w), (0, b), (0, 2), (0, 2)] [(0, (if w ≤ 1 ∧ b / 2 ≤ 1 then 1 else 0)), (0, 2)] m (RI (fun v m1 => v = RestV w b ∧ m1 = m))
                            refine gx_i0 (P := ¬ (w ≤ 1 ∧ b / 2 ≤ 1)) r_205_67 (b01_eq) (fun h67 => ?_) (fun h67 => ?_)
                            · refine gx_st (L' := [(2, 192), (0, w), (0, b), (0, 2), (0, 2)]) (S' := [(0, 0), (0, 2)]) r_205_77 rfl rfl rfl ?_
                              refine gx_st (L' := [(2, 192), (0, w), (0, b), (0, 2), (0, 2)]) (S' := [(0, (ior 2 0))]) r_205_78 rfl rfl rfl ?_
                              rw [show (ior 2 0) = 2 from by decide]
                              refine gx_st (L' := [(2, 192), (0, w), (0, b), (0, 2), (0, 2)]) (S' := []) r_205_79 rfl rfl rfl ?_
                              refine gx_li (z := 3) (L' := [(2, 192), (0, w), (0, b), (0, 2), (0, 3)]) r_205_80 rfl (w32_eq (by omega) (by omega) (by omega)) rfl ?_
                              refine gx_st (L' := [(2, 192), (0, w), (0, b), (0, 2), (0, 3)]) (S' := []) r_205_83 rfl rfl rfl ?_
                              refine gx_st (L' := [(2, 192), (0, w), (0, b), (0, 2), (0, 3)]) (S' := [(0, 3)]) r_205_32 rfl rfl rfl ?_
                              refine gx_st (L' := [(2, 192), (0, w), (0, b), (0, 2), (0, 3)]) (S' := [(0, 4), (0, 3)]) r_205_34 rfl rfl rfl ?_
                              refine gx_ic (P := 4 ≤ 3) r_205_35 (rfl) (fun h35 => ?_) (fun h35 => ?_)
                              · omega
                              · refine gx_st (L' := [(2, 192), (0, w), (0, b), (0, 2), (0, 3)]) (S' := [(0, 2)]) r_205_38 rfl rfl rfl ?_
                                refine gx_st (L' := [(2, 192), (0, w), (0, b), (0, 2), (0, 3)]) (S' := [(0, 3), (0, 2)]) r_205_39 rfl rfl rfl ?_
                                refine gx_st (L' := [(2, 192), (0, w), (0, b), (0, 2), (0, 3)]) (S' := [(0, 2), (0, 3), (0, 2)]) r_205_41 rfl rfl rfl ?_
                                refine gx_ic (P := 2 ≤ 3) r_205_42 (rfl) (fun h42 => ?_) (fun h42 => ?_)
                                · refine gx_st (L' := [(2, 192), (0, w), (0, b), (0, 2), (0, 3)]) (S' := [(0, 0), (0, 2)]) r_205_49 rfl rfl rfl ?_
                                  refine gx_st (L' := [(2, 192), (0, w), (0, b), (0, 2), (0, 3)]) (S' := [(0, 3), (0, 0), (0, 2)]) r_205_50 rfl rfl rfl ?_
                                  refine gx_st (L' := [(2, 192), (0, w), (0, b), (0, 2), (0, 3)]) (S' := [(0, 2), (0, 3), (0, 0), (0, 2)]) r_205_52 rfl rfl rfl ?_
                                  refine gx_rm (z := (3 % 2)) r_205_53 (by decide) (tm_eq (by omega) rfl) ?_
                                  refine gx_i0 (P := ¬ (3 % 2) = 0) r_205_54 (rfl) (fun h54 => ?_) (fun h54 => ?_)
                                  · refine gx_st (L' := [(2, 192), (0, w), (0, b), (0, 2), (0, 3)]) (S' := [(0, 0), (0, 0), (0, 2)]) r_205_61 rfl rfl rfl ?_
                                    refine gx_st (L' := [(2, 192), (0, w), (0, b), (0, 2), (0, 3)]) (S' := [(0, w), (0, 0), (0, 0), (0, 2)]) r_205_62 rfl rfl rfl ?_
                                    refine gx_st (L' := [(2, 192), (0, w), (0, b), (0, 2), (0, 3)]) (S' := [(0, b), (0, w), (0, 0), (0, 0), (0, 2)]) r_205_63 rfl rfl rfl ?_
                                    refine gx_ci (nx := 67) (S2 := [(0, 2)]) (x_204_00 w b hw hb) r_205_64 rfl rfl rfl rfl rfl rfl rfl (by decide) rfl (fun x64 n64 q64 => ?_)
                                    obtain rfl := q64.1.symm
                                    obtain rfl := q64.2.symm
                                    show GX T 2 205 67 [(2, 192), (0, w), (0, b), (0, 2), (0, 3)] [(0, (if 1 ≤ b / 2 then 1 else 0)), (0, 2)] m (RI (fun v m1 => v = RestV w b ∧ m1 = m))
                                    refine gx_i0 (P := ¬ (1 ≤ b / 2)) r_205_67 (b01_eq) (fun h67 => ?_) (fun h67 => ?_)
                                    · refine gx_st (L' := [(2, 192), (0, w), (0, b), (0, 2), (0, 3)]) (S' := [(0, 0), (0, 2)]) r_205_77 rfl rfl rfl ?_
                                      refine gx_st (L' := [(2, 192), (0, w), (0, b), (0, 2), (0, 3)]) (S' := [(0, (ior 2 0))]) r_205_78 rfl rfl rfl ?_
                                      rw [show (ior 2 0) = 2 from by decide]
                                      refine gx_st (L' := [(2, 192), (0, w), (0, b), (0, 2), (0, 3)]) (S' := []) r_205_79 rfl rfl rfl ?_
                                      refine gx_li (z := 4) (L' := [(2, 192), (0, w), (0, b), (0, 2), (0, 4)]) r_205_80 rfl (w32_eq (by omega) (by omega) (by omega)) rfl ?_
                                      refine gx_st (L' := [(2, 192), (0, w), (0, b), (0, 2), (0, 4)]) (S' := []) r_205_83 rfl rfl rfl ?_
                                      refine gx_st (L' := [(2, 192), (0, w), (0, b), (0, 2), (0, 4)]) (S' := [(0, 4)]) r_205_32 rfl rfl rfl ?_
                                      refine gx_st (L' := [(2, 192), (0, w), (0, b), (0, 2), (0, 4)]) (S' := [(0, 4), (0, 4)]) r_205_34 rfl rfl rfl ?_
                                      refine gx_ic (P := 4 ≤ 4) r_205_35 (rfl) (fun h35 => ?_) (fun h35 => ?_)
                                      · refine gx_st (L' := [(2, 192), (0, w), (0, b), (0, 2), (0, 4)]) (S' := [(0, 2)]) r_205_86 rfl rfl rfl ?_
                                        exact gx_rt r_205_87 rfl rfl ⟨_, rfl, RestV_c ⟨fun _ => rest_s (by omega), fun z => by omega⟩, rfl⟩
                                      · omega
                                    · have h67 := Decidable.not_not.mp h67
                                      refine gx_st (L' := [(2, 192), (0, w), (0, b), (0, 2), (0, 3)]) (S' := [(0, 1), (0, 2)]) r_205_70 rfl rfl rfl ?_
                                      refine gx_st (L' := [(2, 192), (0, w), (0, b), (0, 2), (0, 3)]) (S' := [(0, 3), (0, 1), (0, 2)]) r_205_71 rfl rfl rfl ?_
                                      refine gx_st (L' := [(2, 192), (0, w), (0, b), (0, 2), (0, 3)]) (S' := [(0, (ishl 1 3)), (0, 2)]) r_205_73 rfl rfl rfl ?_
                                      rw [show (ishl 1 3) = 8 from by decide]
                                      refine gx_st (L' := [(2, 192), (0, w), (0, b), (0, 2), (0, 3)]) (S' := [(0, 8), (0, 2)]) r_205_74 rfl rfl rfl ?_
                                      refine gx_st (L' := [(2, 192), (0, w), (0, b), (0, 2), (0, 3)]) (S' := [(0, (ior 2 8))]) r_205_78 rfl rfl rfl ?_
                                      rw [show (ior 2 8) = 10 from by decide]
                                      refine gx_st (L' := [(2, 192), (0, w), (0, b), (0, 10), (0, 3)]) (S' := []) r_205_79 rfl rfl rfl ?_
                                      refine gx_li (z := 4) (L' := [(2, 192), (0, w), (0, b), (0, 10), (0, 4)]) r_205_80 rfl (w32_eq (by omega) (by omega) (by omega)) rfl ?_
                                      refine gx_st (L' := [(2, 192), (0, w), (0, b), (0, 10), (0, 4)]) (S' := []) r_205_83 rfl rfl rfl ?_
                                      refine gx_st (L' := [(2, 192), (0, w), (0, b), (0, 10), (0, 4)]) (S' := [(0, 4)]) r_205_32 rfl rfl rfl ?_
                                      refine gx_st (L' := [(2, 192), (0, w), (0, b), (0, 10), (0, 4)]) (S' := [(0, 4), (0, 4)]) r_205_34 rfl rfl rfl ?_
                                      refine gx_ic (P := 4 ≤ 4) r_205_35 (rfl) (fun h35 => ?_) (fun h35 => ?_)
                                      · refine gx_st (L' := [(2, 192), (0, w), (0, b), (0, 10), (0, 4)]) (S' := [(0, 10)]) r_205_86 rfl rfl rfl ?_
                                        exact gx_rt r_205_87 rfl rfl ⟨_, rfl, RestV_c ⟨fun _ => rest_s (by omega), fun z => by omega⟩, rfl⟩
                                      · omega
                                  · have h54 := Decidable.not_not.mp h54
                                    refine gx_st (L' := [(2, 192), (0, w), (0, b), (0, 2), (0, 3)]) (S' := [(0, 1), (0, 0), (0, 2)]) r_205_57 rfl rfl rfl ?_
                                    refine gx_st (L' := [(2, 192), (0, w), (0, b), (0, 2), (0, 3)]) (S' := [(0, 1), (0, 0), (0, 2)]) r_205_58 rfl rfl rfl ?_
                                    refine gx_st (L' := [(2, 192), (0, w), (0, b), (0, 2), (0, 3)]) (S' := [(0, w), (0, 1), (0, 0), (0, 2)]) r_205_62 rfl rfl rfl ?_
                                    refine gx_st (L' := [(2, 192), (0, w), (0, b), (0, 2), (0, 3)]) (S' := [(0, b), (0, w), (0, 1), (0, 0), (0, 2)]) r_205_63 rfl rfl rfl ?_
                                    refine gx_ci (nx := 67) (S2 := [(0, 2)]) (x_204_01 w b hw hb) r_205_64 rfl rfl rfl rfl rfl rfl rfl (by decide) rfl (fun x64 n64 q64 => ?_)
                                    obtain rfl := q64.1.symm
                                    obtain rfl := q64.2.symm
                                    show GX T 2 205 67 [(2, 192), (0, w), (0, b), (0, 2), (0, 3)] [(0, (if w ≤ 1 ∧ b / 2 ≤ 1 then 1 else 0)), (0, 2)] m (RI (fun v m1 => v = RestV w b ∧ m1 = m))
                                    refine gx_i0 (P := ¬ (w ≤ 1 ∧ b / 2 ≤ 1)) r_205_67 (b01_eq) (fun h67 => ?_) (fun h67 => ?_)
                                    · refine gx_st (L' := [(2, 192), (0, w), (0, b), (0, 2), (0, 3)]) (S' := [(0, 0), (0, 2)]) r_205_77 rfl rfl rfl ?_
                                      refine gx_st (L' := [(2, 192), (0, w), (0, b), (0, 2), (0, 3)]) (S' := [(0, (ior 2 0))]) r_205_78 rfl rfl rfl ?_
                                      rw [show (ior 2 0) = 2 from by decide]
                                      refine gx_st (L' := [(2, 192), (0, w), (0, b), (0, 2), (0, 3)]) (S' := []) r_205_79 rfl rfl rfl ?_
                                      refine gx_li (z := 4) (L' := [(2, 192), (0, w), (0, b), (0, 2), (0, 4)]) r_205_80 rfl (w32_eq (by omega) (by omega) (by omega)) rfl ?_
                                      refine gx_st (L' := [(2, 192), (0, w), (0, b), (0, 2), (0, 4)]) (S' := []) r_205_83 rfl rfl rfl ?_
                                      refine gx_st (L' := [(2, 192), (0, w), (0, b), (0, 2), (0, 4)]) (S' := [(0, 4)]) r_205_32 rfl rfl rfl ?_
                                      refine gx_st (L' := [(2, 192), (0, w), (0, b), (0, 2), (0, 4)]) (S' := [(0, 4), (0, 4)]) r_205_34 rfl rfl rfl ?_
                                      refine gx_ic (P := 4 ≤ 4) r_205_35 (rfl) (fun h35 => ?_) (fun h35 => ?_)
                                      · refine gx_st (L' := [(2, 192), (0, w), (0, b), (0, 2), (0, 4)]) (S' := [(0, 2)]) r_205_86 rfl rfl rfl ?_
                                        exact gx_rt r_205_87 rfl rfl ⟨_, rfl, RestV_c ⟨fun _ => rest_s (by omega), fun z => by omega⟩, rfl⟩
                                      · omega
                                    · have h67 := Decidable.not_not.mp h67
                                      refine gx_st (L' := [(2, 192), (0, w), (0, b), (0, 2), (0, 3)]) (S' := [(0, 1), (0, 2)]) r_205_70 rfl rfl rfl ?_
                                      refine gx_st (L' := [(2, 192), (0, w), (0, b), (0, 2), (0, 3)]) (S' := [(0, 3), (0, 1), (0, 2)]) r_205_71 rfl rfl rfl ?_
                                      refine gx_st (L' := [(2, 192), (0, w), (0, b), (0, 2), (0, 3)]) (S' := [(0, (ishl 1 3)), (0, 2)]) r_205_73 rfl rfl rfl ?_
                                      rw [show (ishl 1 3) = 8 from by decide]
                                      refine gx_st (L' := [(2, 192), (0, w), (0, b), (0, 2), (0, 3)]) (S' := [(0, 8), (0, 2)]) r_205_74 rfl rfl rfl ?_
                                      refine gx_st (L' := [(2, 192), (0, w), (0, b), (0, 2), (0, 3)]) (S' := [(0, (ior 2 8))]) r_205_78 rfl rfl rfl ?_
                                      rw [show (ior 2 8) = 10 from by decide]
                                      refine gx_st (L' := [(2, 192), (0, w), (0, b), (0, 10), (0, 3)]) (S' := []) r_205_79 rfl rfl rfl ?_
                                      refine gx_li (z := 4) (L' := [(2, 192), (0, w), (0, b), (0, 10), (0, 4)]) r_205_80 rfl (w32_eq (by omega) (by omega) (by omega)) rfl ?_
                                      refine gx_st (L' := [(2, 192), (0, w), (0, b), (0, 10), (0, 4)]) (S' := []) r_205_83 rfl rfl rfl ?_
                                      refine gx_st (L' := [(2, 192), (0, w), (0, b), (0, 10), (0, 4)]) (S' := [(0, 4)]) r_205_32 rfl rfl rfl ?_
                                      refine gx_st (L' := [(2, 192), (0, w), (0, b), (0, 10), (0, 4)]) (S' := [(0, 4), (0, 4)]) r_205_34 rfl rfl rfl ?_
                                      refine gx_ic (P := 4 ≤ 4) r_205_35 (rfl) (fun h35 => ?_) (fun h35 => ?_)
                                      · refine gx_st (L' := [(2, 192), (0, w), (0, b), (0, 10), (0, 4)]) (S' := [(0, 10)]) r_205_86 rfl rfl rfl ?_
                                        exact gx_rt r_205_87 rfl rfl ⟨_, rfl, RestV_c ⟨fun _ => rest_s (by omega), fun z => by omega⟩, rfl⟩
                                      · omega
                                · omega
                            · have h67 := Decidable.not_not.mp h67
                              refine gx_st (L' := [(2, 192), (0, w), (0, b), (0, 2), (0, 2)]) (S' := [(0, 1), (0, 2)]) r_205_70 rfl rfl rfl ?_
                              refine gx_st (L' := [(2, 192), (0, w), (0, b), (0, 2), (0, 2)]) (S' := [(0, 2), (0, 1), (0, 2)]) r_205_71 rfl rfl rfl ?_
                              refine gx_st (L' := [(2, 192), (0, w), (0, b), (0, 2), (0, 2)]) (S' := [(0, (ishl 1 2)), (0, 2)]) r_205_73 rfl rfl rfl ?_
                              rw [show (ishl 1 2) = 4 from by decide]
                              refine gx_st (L' := [(2, 192), (0, w), (0, b), (0, 2), (0, 2)]) (S' := [(0, 4), (0, 2)]) r_205_74 rfl rfl rfl ?_
                              refine gx_st (L' := [(2, 192), (0, w), (0, b), (0, 2), (0, 2)]) (S' := [(0, (ior 2 4))]) r_205_78 rfl rfl rfl ?_
                              rw [show (ior 2 4) = 6 from by decide]
                              refine gx_st (L' := [(2, 192), (0, w), (0, b), (0, 6), (0, 2)]) (S' := []) r_205_79 rfl rfl rfl ?_
                              refine gx_li (z := 3) (L' := [(2, 192), (0, w), (0, b), (0, 6), (0, 3)]) r_205_80 rfl (w32_eq (by omega) (by omega) (by omega)) rfl ?_
                              refine gx_st (L' := [(2, 192), (0, w), (0, b), (0, 6), (0, 3)]) (S' := []) r_205_83 rfl rfl rfl ?_
                              refine gx_st (L' := [(2, 192), (0, w), (0, b), (0, 6), (0, 3)]) (S' := [(0, 3)]) r_205_32 rfl rfl rfl ?_
                              refine gx_st (L' := [(2, 192), (0, w), (0, b), (0, 6), (0, 3)]) (S' := [(0, 4), (0, 3)]) r_205_34 rfl rfl rfl ?_
                              refine gx_ic (P := 4 ≤ 3) r_205_35 (rfl) (fun h35 => ?_) (fun h35 => ?_)
                              · omega
                              · refine gx_st (L' := [(2, 192), (0, w), (0, b), (0, 6), (0, 3)]) (S' := [(0, 6)]) r_205_38 rfl rfl rfl ?_
                                refine gx_st (L' := [(2, 192), (0, w), (0, b), (0, 6), (0, 3)]) (S' := [(0, 3), (0, 6)]) r_205_39 rfl rfl rfl ?_
                                refine gx_st (L' := [(2, 192), (0, w), (0, b), (0, 6), (0, 3)]) (S' := [(0, 2), (0, 3), (0, 6)]) r_205_41 rfl rfl rfl ?_
                                refine gx_ic (P := 2 ≤ 3) r_205_42 (rfl) (fun h42 => ?_) (fun h42 => ?_)
                                · refine gx_st (L' := [(2, 192), (0, w), (0, b), (0, 6), (0, 3)]) (S' := [(0, 0), (0, 6)]) r_205_49 rfl rfl rfl ?_
                                  refine gx_st (L' := [(2, 192), (0, w), (0, b), (0, 6), (0, 3)]) (S' := [(0, 3), (0, 0), (0, 6)]) r_205_50 rfl rfl rfl ?_
                                  refine gx_st (L' := [(2, 192), (0, w), (0, b), (0, 6), (0, 3)]) (S' := [(0, 2), (0, 3), (0, 0), (0, 6)]) r_205_52 rfl rfl rfl ?_
                                  refine gx_rm (z := (3 % 2)) r_205_53 (by decide) (tm_eq (by omega) rfl) ?_
                                  refine gx_i0 (P := ¬ (3 % 2) = 0) r_205_54 (rfl) (fun h54 => ?_) (fun h54 => ?_)
                                  · refine gx_st (L' := [(2, 192), (0, w), (0, b), (0, 6), (0, 3)]) (S' := [(0, 0), (0, 0), (0, 6)]) r_205_61 rfl rfl rfl ?_
                                    refine gx_st (L' := [(2, 192), (0, w), (0, b), (0, 6), (0, 3)]) (S' := [(0, w), (0, 0), (0, 0), (0, 6)]) r_205_62 rfl rfl rfl ?_
                                    refine gx_st (L' := [(2, 192), (0, w), (0, b), (0, 6), (0, 3)]) (S' := [(0, b), (0, w), (0, 0), (0, 0), (0, 6)]) r_205_63 rfl rfl rfl ?_
                                    refine gx_ci (nx := 67) (S2 := [(0, 6)]) (x_204_00 w b hw hb) r_205_64 rfl rfl rfl rfl rfl rfl rfl (by decide) rfl (fun x64 n64 q64 => ?_)
                                    obtain rfl := q64.1.symm
                                    obtain rfl := q64.2.symm
                                    show GX T 2 205 67 [(2, 192), (0, w), (0, b), (0, 6), (0, 3)] [(0, (if 1 ≤ b / 2 then 1 else 0)), (0, 6)] m (RI (fun v m1 => v = RestV w b ∧ m1 = m))
                                    refine gx_i0 (P := ¬ (1 ≤ b / 2)) r_205_67 (b01_eq) (fun h67 => ?_) (fun h67 => ?_)
                                    · refine gx_st (L' := [(2, 192), (0, w), (0, b), (0, 6), (0, 3)]) (S' := [(0, 0), (0, 6)]) r_205_77 rfl rfl rfl ?_
                                      refine gx_st (L' := [(2, 192), (0, w), (0, b), (0, 6), (0, 3)]) (S' := [(0, (ior 6 0))]) r_205_78 rfl rfl rfl ?_
                                      rw [show (ior 6 0) = 6 from by decide]
                                      refine gx_st (L' := [(2, 192), (0, w), (0, b), (0, 6), (0, 3)]) (S' := []) r_205_79 rfl rfl rfl ?_
                                      refine gx_li (z := 4) (L' := [(2, 192), (0, w), (0, b), (0, 6), (0, 4)]) r_205_80 rfl (w32_eq (by omega) (by omega) (by omega)) rfl ?_
                                      refine gx_st (L' := [(2, 192), (0, w), (0, b), (0, 6), (0, 4)]) (S' := []) r_205_83 rfl rfl rfl ?_
                                      refine gx_st (L' := [(2, 192), (0, w), (0, b), (0, 6), (0, 4)]) (S' := [(0, 4)]) r_205_32 rfl rfl rfl ?_
                                      refine gx_st (L' := [(2, 192), (0, w), (0, b), (0, 6), (0, 4)]) (S' := [(0, 4), (0, 4)]) r_205_34 rfl rfl rfl ?_
                                      refine gx_ic (P := 4 ≤ 4) r_205_35 (rfl) (fun h35 => ?_) (fun h35 => ?_)
                                      · refine gx_st (L' := [(2, 192), (0, w), (0, b), (0, 6), (0, 4)]) (S' := [(0, 6)]) r_205_86 rfl rfl rfl ?_
                                        exact gx_rt r_205_87 rfl rfl ⟨_, rfl, RestV_c ⟨fun _ => rest_s (by omega), fun z => by omega⟩, rfl⟩
                                      · omega
                                    · have h67 := Decidable.not_not.mp h67
                                      refine gx_st (L' := [(2, 192), (0, w), (0, b), (0, 6), (0, 3)]) (S' := [(0, 1), (0, 6)]) r_205_70 rfl rfl rfl ?_
                                      refine gx_st (L' := [(2, 192), (0, w), (0, b), (0, 6), (0, 3)]) (S' := [(0, 3), (0, 1), (0, 6)]) r_205_71 rfl rfl rfl ?_
                                      refine gx_st (L' := [(2, 192), (0, w), (0, b), (0, 6), (0, 3)]) (S' := [(0, (ishl 1 3)), (0, 6)]) r_205_73 rfl rfl rfl ?_
                                      rw [show (ishl 1 3) = 8 from by decide]
                                      refine gx_st (L' := [(2, 192), (0, w), (0, b), (0, 6), (0, 3)]) (S' := [(0, 8), (0, 6)]) r_205_74 rfl rfl rfl ?_
                                      refine gx_st (L' := [(2, 192), (0, w), (0, b), (0, 6), (0, 3)]) (S' := [(0, (ior 6 8))]) r_205_78 rfl rfl rfl ?_
                                      rw [show (ior 6 8) = 14 from by decide]
                                      refine gx_st (L' := [(2, 192), (0, w), (0, b), (0, 14), (0, 3)]) (S' := []) r_205_79 rfl rfl rfl ?_
                                      refine gx_li (z := 4) (L' := [(2, 192), (0, w), (0, b), (0, 14), (0, 4)]) r_205_80 rfl (w32_eq (by omega) (by omega) (by omega)) rfl ?_
                                      refine gx_st (L' := [(2, 192), (0, w), (0, b), (0, 14), (0, 4)]) (S' := []) r_205_83 rfl rfl rfl ?_
                                      refine gx_st (L' := [(2, 192), (0, w), (0, b), (0, 14), (0, 4)]) (S' := [(0, 4)]) r_205_32 rfl rfl rfl ?_
                                      refine gx_st (L' := [(2, 192), (0, w), (0, b), (0, 14), (0, 4)]) (S' := [(0, 4), (0, 4)]) r_205_34 rfl rfl rfl ?_
                                      refine gx_ic (P := 4 ≤ 4) r_205_35 (rfl) (fun h35 => ?_) (fun h35 => ?_)
                                      · refine gx_st (L' := [(2, 192), (0, w), (0, b), (0, 14), (0, 4)]) (S' := [(0, 14)]) r_205_86 rfl rfl rfl ?_
                                        exact gx_rt r_205_87 rfl rfl ⟨_, rfl, RestV_c ⟨fun _ => rest_s (by omega), fun z => by omega⟩, rfl⟩
                                      · omega
                                  · have h54 := Decidable.not_not.mp h54
                                    refine gx_st (L' := [(2, 192), (0, w), (0, b), (0, 6), (0, 3)]) (S' := [(0, 1), (0, 0), (0, 6)]) r_205_57 rfl rfl rfl ?_
                                    refine gx_st (L' := [(2, 192), (0, w), (0, b), (0, 6), (0, 3)]) (S' := [(0, 1), (0, 0), (0, 6)]) r_205_58 rfl rfl rfl ?_
                                    refine gx_st (L' := [(2, 192), (0, w), (0, b), (0, 6), (0, 3)]) (S' := [(0, w), (0, 1), (0, 0), (0, 6)]) r_205_62 rfl rfl rfl ?_
                                    refine gx_st (L' := [(2, 192), (0, w), (0, b), (0, 6), (0, 3)]) (S' := [(0, b), (0, w), (0, 1), (0, 0), (0, 6)]) r_205_63 rfl rfl rfl ?_
                                    refine gx_ci (nx := 67) (S2 := [(0, 6)]) (x_204_01 w b hw hb) r_205_64 rfl rfl rfl rfl rfl rfl rfl (by decide) rfl (fun x64 n64 q64 => ?_)
                                    obtain rfl := q64.1.symm
                                    obtain rfl := q64.2.symm
                                    show GX T 2 205 67 [(2, 192), (0, w), (0, b), (0, 6), (0, 3)] [(0, (if w ≤ 1 ∧ b / 2 ≤ 1 then 1 else 0)), (0, 6)] m (RI (fun v m1 => v = RestV w b ∧ m1 = m))
                                    refine gx_i0 (P := ¬ (w ≤ 1 ∧ b / 2 ≤ 1)) r_205_67 (b01_eq) (fun h67 => ?_) (fun h67 => ?_)
                                    · refine gx_st (L' := [(2, 192), (0, w), (0, b), (0, 6), (0, 3)]) (S' := [(0, 0), (0, 6)]) r_205_77 rfl rfl rfl ?_
                                      refine gx_st (L' := [(2, 192), (0, w), (0, b), (0, 6), (0, 3)]) (S' := [(0, (ior 6 0))]) r_205_78 rfl rfl rfl ?_
                                      rw [show (ior 6 0) = 6 from by decide]
                                      refine gx_st (L' := [(2, 192), (0, w), (0, b), (0, 6), (0, 3)]) (S' := []) r_205_79 rfl rfl rfl ?_
                                      refine gx_li (z := 4) (L' := [(2, 192), (0, w), (0, b), (0, 6), (0, 4)]) r_205_80 rfl (w32_eq (by omega) (by omega) (by omega)) rfl ?_
                                      refine gx_st (L' := [(2, 192), (0, w), (0, b), (0, 6), (0, 4)]) (S' := []) r_205_83 rfl rfl rfl ?_
                                      refine gx_st (L' := [(2, 192), (0, w), (0, b), (0, 6), (0, 4)]) (S' := [(0, 4)]) r_205_32 rfl rfl rfl ?_
                                      refine gx_st (L' := [(2, 192), (0, w), (0, b), (0, 6), (0, 4)]) (S' := [(0, 4), (0, 4)]) r_205_34 rfl rfl rfl ?_
                                      refine gx_ic (P := 4 ≤ 4) r_205_35 (rfl) (fun h35 => ?_) (fun h35 => ?_)
                                      · refine gx_st (L' := [(2, 192), (0, w), (0, b), (0, 6), (0, 4)]) (S' := [(0, 6)]) r_205_86 rfl rfl rfl ?_
                                        exact gx_rt r_205_87 rfl rfl ⟨_, rfl, RestV_c ⟨fun _ => rest_s (by omega), fun z => by omega⟩, rfl⟩
                                      · omega
                                    · have h67 := Decidable.not_not.mp h67
                                      refine gx_st (L' := [(2, 192), (0, w), (0, b), (0, 6), (0, 3)]) (S' := [(0, 1), (0, 6)]) r_205_70 rfl rfl rfl ?_
                                      refine gx_st (L' := [(2, 192), (0, w), (0, b), (0, 6), (0, 3)]) (S' := [(0, 3), (0, 1), (0, 6)]) r_205_71 rfl rfl rfl ?_
                                      refine gx_st (L' := [(2, 192), (0, w), (0, b), (0, 6), (0, 3)]) (S' := [(0, (ishl 1 3)), (0, 6)]) r_205_73 rfl rfl rfl ?_
                                      rw [show (ishl 1 3) = 8 from by decide]
                                      refine gx_st (L' := [(2, 192), (0, w), (0, b), (0, 6), (0, 3)]) (S' := [(0, 8), (0, 6)]) r_205_74 rfl rfl rfl ?_
                                      refine gx_st (L' := [(2, 192), (0, w), (0, b), (0, 6), (0, 3)]) (S' := [(0, (ior 6 8))]) r_205_78 rfl rfl rfl ?_
                                      rw [show (ior 6 8) = 14 from by decide]
                                      refine gx_st (L' := [(2, 192), (0, w), (0, b), (0, 14), (0, 3)]) (S' := []) r_205_79 rfl rfl rfl ?_
                                      refine gx_li (z := 4) (L' := [(2, 192), (0, w), (0, b), (0, 14), (0, 4)]) r_205_80 rfl (w32_eq (by omega) (by omega) (by omega)) rfl ?_
                                      refine gx_st (L' := [(2, 192), (0, w), (0, b), (0, 14), (0, 4)]) (S' := []) r_205_83 rfl rfl rfl ?_
                                      refine gx_st (L' := [(2, 192), (0, w), (0, b), (0, 14), (0, 4)]) (S' := [(0, 4)]) r_205_32 rfl rfl rfl ?_
                                      refine gx_st (L' := [(2, 192), (0, w), (0, b), (0, 14), (0, 4)]) (S' := [(0, 4), (0, 4)]) r_205_34 rfl rfl rfl ?_
                                      refine gx_ic (P := 4 ≤ 4) r_205_35 (rfl) (fun h35 => ?_) (fun h35 => ?_)
                                      · refine gx_st (L' := [(2, 192), (0, w), (0, b), (0, 14), (0, 4)]) (S' := [(0, 14)]) r_205_86 rfl rfl rfl ?_
                                        exact gx_rt r_205_87 rfl rfl ⟨_, rfl, RestV_c ⟨fun _ => rest_s (by omega), fun z => by omega⟩, rfl⟩
                                      · omega
                                · omega
                        · omega
            · have h67 := Decidable.not_not.mp h67
              refine gx_st (L' := [(2, 192), (0, w), (0, b), (0, 0), (0, 0)]) (S' := [(0, 1), (0, 0)]) r_205_70 rfl rfl rfl ?_
              refine gx_st (L' := [(2, 192), (0, w), (0, b), (0, 0), (0, 0)]) (S' := [(0, 0), (0, 1), (0, 0)]) r_205_71 rfl rfl rfl ?_
              refine gx_st (L' := [(2, 192), (0, w), (0, b), (0, 0), (0, 0)]) (S' := [(0, (ishl 1 0)), (0, 0)]) r_205_73 rfl rfl rfl ?_
              rw [show (ishl 1 0) = 1 from by decide]
              refine gx_st (L' := [(2, 192), (0, w), (0, b), (0, 0), (0, 0)]) (S' := [(0, 1), (0, 0)]) r_205_74 rfl rfl rfl ?_
              refine gx_st (L' := [(2, 192), (0, w), (0, b), (0, 0), (0, 0)]) (S' := [(0, (ior 0 1))]) r_205_78 rfl rfl rfl ?_
              rw [show (ior 0 1) = 1 from by decide]
              refine gx_st (L' := [(2, 192), (0, w), (0, b), (0, 1), (0, 0)]) (S' := []) r_205_79 rfl rfl rfl ?_
              refine gx_li (z := 1) (L' := [(2, 192), (0, w), (0, b), (0, 1), (0, 1)]) r_205_80 rfl (w32_eq (by omega) (by omega) (by omega)) rfl ?_
              refine gx_st (L' := [(2, 192), (0, w), (0, b), (0, 1), (0, 1)]) (S' := []) r_205_83 rfl rfl rfl ?_
              refine gx_st (L' := [(2, 192), (0, w), (0, b), (0, 1), (0, 1)]) (S' := [(0, 1)]) r_205_32 rfl rfl rfl ?_
              refine gx_st (L' := [(2, 192), (0, w), (0, b), (0, 1), (0, 1)]) (S' := [(0, 4), (0, 1)]) r_205_34 rfl rfl rfl ?_
              refine gx_ic (P := 4 ≤ 1) r_205_35 (rfl) (fun h35 => ?_) (fun h35 => ?_)
              · omega
              · refine gx_st (L' := [(2, 192), (0, w), (0, b), (0, 1), (0, 1)]) (S' := [(0, 1)]) r_205_38 rfl rfl rfl ?_
                refine gx_st (L' := [(2, 192), (0, w), (0, b), (0, 1), (0, 1)]) (S' := [(0, 1), (0, 1)]) r_205_39 rfl rfl rfl ?_
                refine gx_st (L' := [(2, 192), (0, w), (0, b), (0, 1), (0, 1)]) (S' := [(0, 2), (0, 1), (0, 1)]) r_205_41 rfl rfl rfl ?_
                refine gx_ic (P := 2 ≤ 1) r_205_42 (rfl) (fun h42 => ?_) (fun h42 => ?_)
                · omega
                · refine gx_st (L' := [(2, 192), (0, w), (0, b), (0, 1), (0, 1)]) (S' := [(0, 1), (0, 1)]) r_205_45 rfl rfl rfl ?_
                  refine gx_st (L' := [(2, 192), (0, w), (0, b), (0, 1), (0, 1)]) (S' := [(0, 1), (0, 1)]) r_205_46 rfl rfl rfl ?_
                  refine gx_st (L' := [(2, 192), (0, w), (0, b), (0, 1), (0, 1)]) (S' := [(0, 1), (0, 1), (0, 1)]) r_205_50 rfl rfl rfl ?_
                  refine gx_st (L' := [(2, 192), (0, w), (0, b), (0, 1), (0, 1)]) (S' := [(0, 2), (0, 1), (0, 1), (0, 1)]) r_205_52 rfl rfl rfl ?_
                  refine gx_rm (z := (1 % 2)) r_205_53 (by decide) (tm_eq (by omega) rfl) ?_
                  refine gx_i0 (P := ¬ (1 % 2) = 0) r_205_54 (rfl) (fun h54 => ?_) (fun h54 => ?_)
                  · refine gx_st (L' := [(2, 192), (0, w), (0, b), (0, 1), (0, 1)]) (S' := [(0, 0), (0, 1), (0, 1)]) r_205_61 rfl rfl rfl ?_
                    refine gx_st (L' := [(2, 192), (0, w), (0, b), (0, 1), (0, 1)]) (S' := [(0, w), (0, 0), (0, 1), (0, 1)]) r_205_62 rfl rfl rfl ?_
                    refine gx_st (L' := [(2, 192), (0, w), (0, b), (0, 1), (0, 1)]) (S' := [(0, b), (0, w), (0, 0), (0, 1), (0, 1)]) r_205_63 rfl rfl rfl ?_
                    refine gx_ci (nx := 67) (S2 := [(0, 1)]) (x_204_10 w b hw hb) r_205_64 rfl rfl rfl rfl rfl rfl rfl (by decide) rfl (fun x64 n64 q64 => ?_)
                    obtain rfl := q64.1.symm
                    obtain rfl := q64.2.symm
                    show GX T 2 205 67 [(2, 192), (0, w), (0, b), (0, 1), (0, 1)] [(0, 0), (0, 1)] m (RI (fun v m1 => v = RestV w b ∧ m1 = m))
                    refine gx_i0 (P := 0 = 0) r_205_67 (rfl) (fun h67 => ?_) (fun h67 => ?_)
                    · refine gx_st (L' := [(2, 192), (0, w), (0, b), (0, 1), (0, 1)]) (S' := [(0, 0), (0, 1)]) r_205_77 rfl rfl rfl ?_
                      refine gx_st (L' := [(2, 192), (0, w), (0, b), (0, 1), (0, 1)]) (S' := [(0, (ior 1 0))]) r_205_78 rfl rfl rfl ?_
                      rw [show (ior 1 0) = 1 from by decide]
                      refine gx_st (L' := [(2, 192), (0, w), (0, b), (0, 1), (0, 1)]) (S' := []) r_205_79 rfl rfl rfl ?_
                      refine gx_li (z := 2) (L' := [(2, 192), (0, w), (0, b), (0, 1), (0, 2)]) r_205_80 rfl (w32_eq (by omega) (by omega) (by omega)) rfl ?_
                      refine gx_st (L' := [(2, 192), (0, w), (0, b), (0, 1), (0, 2)]) (S' := []) r_205_83 rfl rfl rfl ?_
                      refine gx_st (L' := [(2, 192), (0, w), (0, b), (0, 1), (0, 2)]) (S' := [(0, 2)]) r_205_32 rfl rfl rfl ?_
                      refine gx_st (L' := [(2, 192), (0, w), (0, b), (0, 1), (0, 2)]) (S' := [(0, 4), (0, 2)]) r_205_34 rfl rfl rfl ?_
                      refine gx_ic (P := 4 ≤ 2) r_205_35 (rfl) (fun h35 => ?_) (fun h35 => ?_)
                      · omega
                      · refine gx_st (L' := [(2, 192), (0, w), (0, b), (0, 1), (0, 2)]) (S' := [(0, 1)]) r_205_38 rfl rfl rfl ?_
                        refine gx_st (L' := [(2, 192), (0, w), (0, b), (0, 1), (0, 2)]) (S' := [(0, 2), (0, 1)]) r_205_39 rfl rfl rfl ?_
                        refine gx_st (L' := [(2, 192), (0, w), (0, b), (0, 1), (0, 2)]) (S' := [(0, 2), (0, 2), (0, 1)]) r_205_41 rfl rfl rfl ?_
                        refine gx_ic (P := 2 ≤ 2) r_205_42 (rfl) (fun h42 => ?_) (fun h42 => ?_)
                        · refine gx_st (L' := [(2, 192), (0, w), (0, b), (0, 1), (0, 2)]) (S' := [(0, 0), (0, 1)]) r_205_49 rfl rfl rfl ?_
                          refine gx_st (L' := [(2, 192), (0, w), (0, b), (0, 1), (0, 2)]) (S' := [(0, 2), (0, 0), (0, 1)]) r_205_50 rfl rfl rfl ?_
                          refine gx_st (L' := [(2, 192), (0, w), (0, b), (0, 1), (0, 2)]) (S' := [(0, 2), (0, 2), (0, 0), (0, 1)]) r_205_52 rfl rfl rfl ?_
                          refine gx_rm (z := (2 % 2)) r_205_53 (by decide) (tm_eq (by omega) rfl) ?_
                          refine gx_i0 (P := ¬ (2 % 2) = 0) r_205_54 (rfl) (fun h54 => ?_) (fun h54 => ?_)
                          · refine gx_st (L' := [(2, 192), (0, w), (0, b), (0, 1), (0, 2)]) (S' := [(0, 0), (0, 0), (0, 1)]) r_205_61 rfl rfl rfl ?_
                            refine gx_st (L' := [(2, 192), (0, w), (0, b), (0, 1), (0, 2)]) (S' := [(0, w), (0, 0), (0, 0), (0, 1)]) r_205_62 rfl rfl rfl ?_
                            refine gx_st (L' := [(2, 192), (0, w), (0, b), (0, 1), (0, 2)]) (S' := [(0, b), (0, w), (0, 0), (0, 0), (0, 1)]) r_205_63 rfl rfl rfl ?_
                            refine gx_ci (nx := 67) (S2 := [(0, 1)]) (x_204_00 w b hw hb) r_205_64 rfl rfl rfl rfl rfl rfl rfl (by decide) rfl (fun x64 n64 q64 => ?_)
                            obtain rfl := q64.1.symm
                            obtain rfl := q64.2.symm
                            show GX T 2 205 67 [(2, 192), (0, w), (0, b), (0, 1), (0, 2)] [(0, (if 1 ≤ b / 2 then 1 else 0)), (0, 1)] m (RI (fun v m1 => v = RestV w b ∧ m1 = m))
                            refine gx_i0 (P := ¬ (1 ≤ b / 2)) r_205_67 (b01_eq) (fun h67 => ?_) (fun h67 => ?_)
                            · refine gx_st (L' := [(2, 192), (0, w), (0, b), (0, 1), (0, 2)]) (S' := [(0, 0), (0, 1)]) r_205_77 rfl rfl rfl ?_
                              refine gx_st (L' := [(2, 192), (0, w), (0, b), (0, 1), (0, 2)]) (S' := [(0, (ior 1 0))]) r_205_78 rfl rfl rfl ?_
                              rw [show (ior 1 0) = 1 from by decide]
                              refine gx_st (L' := [(2, 192), (0, w), (0, b), (0, 1), (0, 2)]) (S' := []) r_205_79 rfl rfl rfl ?_
                              refine gx_li (z := 3) (L' := [(2, 192), (0, w), (0, b), (0, 1), (0, 3)]) r_205_80 rfl (w32_eq (by omega) (by omega) (by omega)) rfl ?_
                              refine gx_st (L' := [(2, 192), (0, w), (0, b), (0, 1), (0, 3)]) (S' := []) r_205_83 rfl rfl rfl ?_
                              refine gx_st (L' := [(2, 192), (0, w), (0, b), (0, 1), (0, 3)]) (S' := [(0, 3)]) r_205_32 rfl rfl rfl ?_
                              refine gx_st (L' := [(2, 192), (0, w), (0, b), (0, 1), (0, 3)]) (S' := [(0, 4), (0, 3)]) r_205_34 rfl rfl rfl ?_
                              refine gx_ic (P := 4 ≤ 3) r_205_35 (rfl) (fun h35 => ?_) (fun h35 => ?_)
                              · omega
                              · refine gx_st (L' := [(2, 192), (0, w), (0, b), (0, 1), (0, 3)]) (S' := [(0, 1)]) r_205_38 rfl rfl rfl ?_
                                refine gx_st (L' := [(2, 192), (0, w), (0, b), (0, 1), (0, 3)]) (S' := [(0, 3), (0, 1)]) r_205_39 rfl rfl rfl ?_
                                refine gx_st (L' := [(2, 192), (0, w), (0, b), (0, 1), (0, 3)]) (S' := [(0, 2), (0, 3), (0, 1)]) r_205_41 rfl rfl rfl ?_
                                refine gx_ic (P := 2 ≤ 3) r_205_42 (rfl) (fun h42 => ?_) (fun h42 => ?_)
                                · refine gx_st (L' := [(2, 192), (0, w), (0, b), (0, 1), (0, 3)]) (S' := [(0, 0), (0, 1)]) r_205_49 rfl rfl rfl ?_
                                  refine gx_st (L' := [(2, 192), (0, w), (0, b), (0, 1), (0, 3)]) (S' := [(0, 3), (0, 0), (0, 1)]) r_205_50 rfl rfl rfl ?_
                                  refine gx_st (L' := [(2, 192), (0, w), (0, b), (0, 1), (0, 3)]) (S' := [(0, 2), (0, 3), (0, 0), (0, 1)]) r_205_52 rfl rfl rfl ?_
                                  refine gx_rm (z := (3 % 2)) r_205_53 (by decide) (tm_eq (by omega) rfl) ?_
                                  refine gx_i0 (P := ¬ (3 % 2) = 0) r_205_54 (rfl) (fun h54 => ?_) (fun h54 => ?_)
                                  · refine gx_st (L' := [(2, 192), (0, w), (0, b), (0, 1), (0, 3)]) (S' := [(0, 0), (0, 0), (0, 1)]) r_205_61 rfl rfl rfl ?_
                                    refine gx_st (L' := [(2, 192), (0, w), (0, b), (0, 1), (0, 3)]) (S' := [(0, w), (0, 0), (0, 0), (0, 1)]) r_205_62 rfl rfl rfl ?_
                                    refine gx_st (L' := [(2, 192), (0, w), (0, b), (0, 1), (0, 3)]) (S' := [(0, b), (0, w), (0, 0), (0, 0), (0, 1)]) r_205_63 rfl rfl rfl ?_
                                    refine gx_ci (nx := 67) (S2 := [(0, 1)]) (x_204_00 w b hw hb) r_205_64 rfl rfl rfl rfl rfl rfl rfl (by decide) rfl (fun x64 n64 q64 => ?_)
                                    obtain rfl := q64.1.symm
                                    obtain rfl := q64.2.symm
                                    show GX T 2 205 67 [(2, 192), (0, w), (0, b), (0, 1), (0, 3)] [(0, (if 1 ≤ b / 2 then 1 else 0)), (0, 1)] m (RI (fun v m1 => v = RestV w b ∧ m1 = m))
                                    refine gx_i0 (P := ¬ (1 ≤ b / 2)) r_205_67 (b01_eq) (fun h67 => ?_) (fun h67 => ?_)
                                    · refine gx_st (L' := [(2, 192), (0, w), (0, b), (0, 1), (0, 3)]) (S' := [(0, 0), (0, 1)]) r_205_77 rfl rfl rfl ?_
                                      refine gx_st (L' := [(2, 192), (0, w), (0, b), (0, 1), (0, 3)]) (S' := [(0, (ior 1 0))]) r_205_78 rfl rfl rfl ?_
                                      rw [show (ior 1 0) = 1 from by decide]
                                      refine gx_st (L' := [(2, 192), (0, w), (0, b), (0, 1), (0, 3)]) (S' := []) r_205_79 rfl rfl rfl ?_
                                      refine gx_li (z := 4) (L' := [(2, 192), (0, w), (0, b), (0, 1), (0, 4)]) r_205_80 rfl (w32_eq (by omega) (by omega) (by omega)) rfl ?_
                                      refine gx_st (L' := [(2, 192), (0, w), (0, b), (0, 1), (0, 4)]) (S' := []) r_205_83 rfl rfl rfl ?_
                                      refine gx_st (L' := [(2, 192), (0, w), (0, b), (0, 1), (0, 4)]) (S' := [(0, 4)]) r_205_32 rfl rfl rfl ?_
                                      refine gx_st (L' := [(2, 192), (0, w), (0, b), (0, 1), (0, 4)]) (S' := [(0, 4), (0, 4)]) r_205_34 rfl rfl rfl ?_
                                      refine gx_ic (P := 4 ≤ 4) r_205_35 (rfl) (fun h35 => ?_) (fun h35 => ?_)
                                      · refine gx_st (L' := [(2, 192), (0, w), (0, b), (0, 1), (0, 4)]) (S' := [(0, 1)]) r_205_86 rfl rfl rfl ?_
                                        exact gx_rt r_205_87 rfl rfl ⟨_, rfl, RestV_c ⟨fun _ => rest_s (by omega), fun z => by omega⟩, rfl⟩
                                      · omega
                                    · have h67 := Decidable.not_not.mp h67
                                      refine gx_st (L' := [(2, 192), (0, w), (0, b), (0, 1), (0, 3)]) (S' := [(0, 1), (0, 1)]) r_205_70 rfl rfl rfl ?_
                                      refine gx_st (L' := [(2, 192), (0, w), (0, b), (0, 1), (0, 3)]) (S' := [(0, 3), (0, 1), (0, 1)]) r_205_71 rfl rfl rfl ?_
                                      refine gx_st (L' := [(2, 192), (0, w), (0, b), (0, 1), (0, 3)]) (S' := [(0, (ishl 1 3)), (0, 1)]) r_205_73 rfl rfl rfl ?_
                                      rw [show (ishl 1 3) = 8 from by decide]
                                      refine gx_st (L' := [(2, 192), (0, w), (0, b), (0, 1), (0, 3)]) (S' := [(0, 8), (0, 1)]) r_205_74 rfl rfl rfl ?_
                                      refine gx_st (L' := [(2, 192), (0, w), (0, b), (0, 1), (0, 3)]) (S' := [(0, (ior 1 8))]) r_205_78 rfl rfl rfl ?_
                                      rw [show (ior 1 8) = 9 from by decide]
                                      refine gx_st (L' := [(2, 192), (0, w), (0, b), (0, 9), (0, 3)]) (S' := []) r_205_79 rfl rfl rfl ?_
                                      refine gx_li (z := 4) (L' := [(2, 192), (0, w), (0, b), (0, 9), (0, 4)]) r_205_80 rfl (w32_eq (by omega) (by omega) (by omega)) rfl ?_
                                      refine gx_st (L' := [(2, 192), (0, w), (0, b), (0, 9), (0, 4)]) (S' := []) r_205_83 rfl rfl rfl ?_
                                      refine gx_st (L' := [(2, 192), (0, w), (0, b), (0, 9), (0, 4)]) (S' := [(0, 4)]) r_205_32 rfl rfl rfl ?_
                                      refine gx_st (L' := [(2, 192), (0, w), (0, b), (0, 9), (0, 4)]) (S' := [(0, 4), (0, 4)]) r_205_34 rfl rfl rfl ?_
                                      refine gx_ic (P := 4 ≤ 4) r_205_35 (rfl) (fun h35 => ?_) (fun h35 => ?_)
                                      · refine gx_st (L' := [(2, 192), (0, w), (0, b), (0, 9), (0, 4)]) (S' := [(0, 9)]) r_205_86 rfl rfl rfl ?_
                                        exact gx_rt r_205_87 rfl rfl ⟨_, rfl, RestV_c ⟨fun _ => rest_s (by omega), fun z => by omega⟩, rfl⟩
                                      · omega
                                  · have h54 := Decidable.not_not.mp h54
                                    refine gx_st (L' := [(2, 192), (0, w), (0, b), (0, 1), (0, 3)]) (S' := [(0, 1), (0, 0), (0, 1)]) r_205_57 rfl rfl rfl ?_
                                    refine gx_st (L' := [(2, 192), (0, w), (0, b), (0, 1), (0, 3)]) (S' := [(0, 1), (0, 0), (0, 1)]) r_205_58 rfl rfl rfl ?_
                                    refine gx_st (L' := [(2, 192), (0, w), (0, b), (0, 1), (0, 3)]) (S' := [(0, w), (0, 1), (0, 0), (0, 1)]) r_205_62 rfl rfl rfl ?_
                                    refine gx_st (L' := [(2, 192), (0, w), (0, b), (0, 1), (0, 3)]) (S' := [(0, b), (0, w), (0, 1), (0, 0), (0, 1)]) r_205_63 rfl rfl rfl ?_
                                    refine gx_ci (nx := 67) (S2 := [(0, 1)]) (x_204_01 w b hw hb) r_205_64 rfl rfl rfl rfl rfl rfl rfl (by decide) rfl (fun x64 n64 q64 => ?_)
                                    obtain rfl := q64.1.symm
                                    obtain rfl := q64.2.symm
                                    show GX T 2 205 67 [(2, 192), (0, w), (0, b), (0, 1), (0, 3)] [(0, (if w ≤ 1 ∧ b / 2 ≤ 1 then 1 else 0)), (0, 1)] m (RI (fun v m1 => v = RestV w b ∧ m1 = m))
                                    refine gx_i0 (P := ¬ (w ≤ 1 ∧ b / 2 ≤ 1)) r_205_67 (b01_eq) (fun h67 => ?_) (fun h67 => ?_)
                                    · refine gx_st (L' := [(2, 192), (0, w), (0, b), (0, 1), (0, 3)]) (S' := [(0, 0), (0, 1)]) r_205_77 rfl rfl rfl ?_
                                      refine gx_st (L' := [(2, 192), (0, w), (0, b), (0, 1), (0, 3)]) (S' := [(0, (ior 1 0))]) r_205_78 rfl rfl rfl ?_
                                      rw [show (ior 1 0) = 1 from by decide]
                                      refine gx_st (L' := [(2, 192), (0, w), (0, b), (0, 1), (0, 3)]) (S' := []) r_205_79 rfl rfl rfl ?_
                                      refine gx_li (z := 4) (L' := [(2, 192), (0, w), (0, b), (0, 1), (0, 4)]) r_205_80 rfl (w32_eq (by omega) (by omega) (by omega)) rfl ?_
                                      refine gx_st (L' := [(2, 192), (0, w), (0, b), (0, 1), (0, 4)]) (S' := []) r_205_83 rfl rfl rfl ?_
                                      refine gx_st (L' := [(2, 192), (0, w), (0, b), (0, 1), (0, 4)]) (S' := [(0, 4)]) r_205_32 rfl rfl rfl ?_
                                      refine gx_st (L' := [(2, 192), (0, w), (0, b), (0, 1), (0, 4)]) (S' := [(0, 4), (0, 4)]) r_205_34 rfl rfl rfl ?_
                                      refine gx_ic (P := 4 ≤ 4) r_205_35 (rfl) (fun h35 => ?_) (fun h35 => ?_)
                                      · refine gx_st (L' := [(2, 192), (0, w), (0, b), (0, 1), (0, 4)]) (S' := [(0, 1)]) r_205_86 rfl rfl rfl ?_
                                        exact gx_rt r_205_87 rfl rfl ⟨_, rfl, RestV_c ⟨fun _ => rest_s (by omega), fun z => by omega⟩, rfl⟩
                                      · omega
                                    · have h67 := Decidable.not_not.mp h67
                                      refine gx_st (L' := [(2, 192), (0, w), (0, b), (0, 1), (0, 3)]) (S' := [(0, 1), (0, 1)]) r_205_70 rfl rfl rfl ?_
                                      refine gx_st (L' := [(2, 192), (0, w), (0, b), (0, 1), (0, 3)]) (S' := [(0, 3), (0, 1), (0, 1)]) r_205_71 rfl rfl rfl ?_
                                      refine gx_st (L' := [(2, 192), (0, w), (0, b), (0, 1), (0, 3)]) (S' := [(0, (ishl 1 3)), (0, 1)]) r_205_73 rfl rfl rfl ?_
                                      rw [show (ishl 1 3) = 8 from by decide]
                                      refine gx_st (L' := [(2, 192), (0, w), (0, b), (0, 1), (0, 3)]) (S' := [(0, 8), (0, 1)]) r_205_74 rfl rfl rfl ?_
                                      refine gx_st (L' := [(2, 192), (0, w), (0, b), (0, 1), (0, 3)]) (S' := [(0, (ior 1 8))]) r_205_78 rfl rfl rfl ?_
                                      rw [show (ior 1 8) = 9 from by decide]
                                      refine gx_st (L' := [(2, 192), (0, w), (0, b), (0, 9), (0, 3)]) (S' := []) r_205_79 rfl rfl rfl ?_
                                      refine gx_li (z := 4) (L' := [(2, 192), (0, w), (0, b), (0, 9), (0, 4)]) r_205_80 rfl (w32_eq (by omega) (by omega) (by omega)) rfl ?_
                                      refine gx_st (L' := [(2, 192), (0, w), (0, b), (0, 9), (0, 4)]) (S' := []) r_205_83 rfl rfl rfl ?_
                                      refine gx_st (L' := [(2, 192), (0, w), (0, b), (0, 9), (0, 4)]) (S' := [(0, 4)]) r_205_32 rfl rfl rfl ?_
                                      refine gx_st (L' := [(2, 192), (0, w), (0, b), (0, 9), (0, 4)]) (S' := [(0, 4), (0, 4)]) r_205_34 rfl rfl rfl ?_
                                      refine gx_ic (P := 4 ≤ 4) r_205_35 (rfl) (fun h35 => ?_) (fun h35 => ?_)
                                      · refine gx_st (L' := [(2, 192), (0, w), (0, b), (0, 9), (0, 4)]) (S' := [(0, 9)]) r_205_86 rfl rfl rfl ?_
                                        exact gx_rt r_205_87 rfl rfl ⟨_, rfl, RestV_c ⟨fun _ => rest_s (by omega), fun z => by omega⟩, rfl⟩
                                      · omega
                                · omega
                            · have h67 := Decidable.not_not.mp h67
                              refine gx_st (L' := [(2, 192), (0, w), (0, b), (0, 1), (0, 2)]) (S' := [(0, 1), (0, 1)]) r_205_70 rfl rfl rfl ?_
                              refine gx_st (L' := [(2, 192), (0, w), (0, b), (0, 1), (0, 2)]) (S' := [(0, 2), (0, 1), (0, 1)]) r_205_71 rfl rfl rfl ?_
                              refine gx_st (L' := [(2, 192), (0, w), (0, b), (0, 1), (0, 2)]) (S' := [(0, (ishl 1 2)), (0, 1)]) r_205_73 rfl rfl rfl ?_
                              rw [show (ishl 1 2) = 4 from by decide]
                              refine gx_st (L' := [(2, 192), (0, w), (0, b), (0, 1), (0, 2)]) (S' := [(0, 4), (0, 1)]) r_205_74 rfl rfl rfl ?_
                              refine gx_st (L' := [(2, 192), (0, w), (0, b), (0, 1), (0, 2)]) (S' := [(0, (ior 1 4))]) r_205_78 rfl rfl rfl ?_
                              rw [show (ior 1 4) = 5 from by decide]
                              refine gx_st (L' := [(2, 192), (0, w), (0, b), (0, 5), (0, 2)]) (S' := []) r_205_79 rfl rfl rfl ?_
                              refine gx_li (z := 3) (L' := [(2, 192), (0, w), (0, b), (0, 5), (0, 3)]) r_205_80 rfl (w32_eq (by omega) (by omega) (by omega)) rfl ?_
                              refine gx_st (L' := [(2, 192), (0, w), (0, b), (0, 5), (0, 3)]) (S' := []) r_205_83 rfl rfl rfl ?_
                              refine gx_st (L' := [(2, 192), (0, w), (0, b), (0, 5), (0, 3)]) (S' := [(0, 3)]) r_205_32 rfl rfl rfl ?_
                              refine gx_st (L' := [(2, 192), (0, w), (0, b), (0, 5), (0, 3)]) (S' := [(0, 4), (0, 3)]) r_205_34 rfl rfl rfl ?_
                              refine gx_ic (P := 4 ≤ 3) r_205_35 (rfl) (fun h35 => ?_) (fun h35 => ?_)
                              · omega
                              · refine gx_st (L' := [(2, 192), (0, w), (0, b), (0, 5), (0, 3)]) (S' := [(0, 5)]) r_205_38 rfl rfl rfl ?_
                                refine gx_st (L' := [(2, 192), (0, w), (0, b), (0, 5), (0, 3)]) (S' := [(0, 3), (0, 5)]) r_205_39 rfl rfl rfl ?_
                                refine gx_st (L' := [(2, 192), (0, w), (0, b), (0, 5), (0, 3)]) (S' := [(0, 2), (0, 3), (0, 5)]) r_205_41 rfl rfl rfl ?_
                                refine gx_ic (P := 2 ≤ 3) r_205_42 (rfl) (fun h42 => ?_) (fun h42 => ?_)
                                · refine gx_st (L' := [(2, 192), (0, w), (0, b), (0, 5), (0, 3)]) (S' := [(0, 0), (0, 5)]) r_205_49 rfl rfl rfl ?_
                                  refine gx_st (L' := [(2, 192), (0, w), (0, b), (0, 5), (0, 3)]) (S' := [(0, 3), (0, 0), (0, 5)]) r_205_50 rfl rfl rfl ?_
                                  refine gx_st (L' := [(2, 192), (0, w), (0, b), (0, 5), (0, 3)]) (S' := [(0, 2), (0, 3), (0, 0), (0, 5)]) r_205_52 rfl rfl rfl ?_
                                  refine gx_rm (z := (3 % 2)) r_205_53 (by decide) (tm_eq (by omega) rfl) ?_
                                  refine gx_i0 (P := ¬ (3 % 2) = 0) r_205_54 (rfl) (fun h54 => ?_) (fun h54 => ?_)
                                  · refine gx_st (L' := [(2, 192), (0, w), (0, b), (0, 5), (0, 3)]) (S' := [(0, 0), (0, 0), (0, 5)]) r_205_61 rfl rfl rfl ?_
                                    refine gx_st (L' := [(2, 192), (0, w), (0, b), (0, 5), (0, 3)]) (S' := [(0, w), (0, 0), (0, 0), (0, 5)]) r_205_62 rfl rfl rfl ?_
                                    refine gx_st (L' := [(2, 192), (0, w), (0, b), (0, 5), (0, 3)]) (S' := [(0, b), (0, w), (0, 0), (0, 0), (0, 5)]) r_205_63 rfl rfl rfl ?_
                                    refine gx_ci (nx := 67) (S2 := [(0, 5)]) (x_204_00 w b hw hb) r_205_64 rfl rfl rfl rfl rfl rfl rfl (by decide) rfl (fun x64 n64 q64 => ?_)
                                    obtain rfl := q64.1.symm
                                    obtain rfl := q64.2.symm
                                    show GX T 2 205 67 [(2, 192), (0, w), (0, b), (0, 5), (0, 3)] [(0, (if 1 ≤ b / 2 then 1 else 0)), (0, 5)] m (RI (fun v m1 => v = RestV w b ∧ m1 = m))
                                    refine gx_i0 (P := ¬ (1 ≤ b / 2)) r_205_67 (b01_eq) (fun h67 => ?_) (fun h67 => ?_)
                                    · refine gx_st (L' := [(2, 192), (0, w), (0, b), (0, 5), (0, 3)]) (S' := [(0, 0), (0, 5)]) r_205_77 rfl rfl rfl ?_
                                      refine gx_st (L' := [(2, 192), (0, w), (0, b), (0, 5), (0, 3)]) (S' := [(0, (ior 5 0))]) r_205_78 rfl rfl rfl ?_
                                      rw [show (ior 5 0) = 5 from by decide]
                                      refine gx_st (L' := [(2, 192), (0, w), (0, b), (0, 5), (0, 3)]) (S' := []) r_205_79 rfl rfl rfl ?_
                                      refine gx_li (z := 4) (L' := [(2, 192), (0, w), (0, b), (0, 5), (0, 4)]) r_205_80 rfl (w32_eq (by omega) (by omega) (by omega)) rfl ?_
                                      refine gx_st (L' := [(2, 192), (0, w), (0, b), (0, 5), (0, 4)]) (S' := []) r_205_83 rfl rfl rfl ?_
                                      refine gx_st (L' := [(2, 192), (0, w), (0, b), (0, 5), (0, 4)]) (S' := [(0, 4)]) r_205_32 rfl rfl rfl ?_
                                      refine gx_st (L' := [(2, 192), (0, w), (0, b), (0, 5), (0, 4)]) (S' := [(0, 4), (0, 4)]) r_205_34 rfl rfl rfl ?_
                                      refine gx_ic (P := 4 ≤ 4) r_205_35 (rfl) (fun h35 => ?_) (fun h35 => ?_)
                                      · refine gx_st (L' := [(2, 192), (0, w), (0, b), (0, 5), (0, 4)]) (S' := [(0, 5)]) r_205_86 rfl rfl rfl ?_
                                        exact gx_rt r_205_87 rfl rfl ⟨_, rfl, RestV_c ⟨fun _ => rest_s (by omega), fun z => by omega⟩, rfl⟩
                                      · omega
                                    · have h67 := Decidable.not_not.mp h67
                                      refine gx_st (L' := [(2, 192), (0, w), (0, b), (0, 5), (0, 3)]) (S' := [(0, 1), (0, 5)]) r_205_70 rfl rfl rfl ?_
                                      refine gx_st (L' := [(2, 192), (0, w), (0, b), (0, 5), (0, 3)]) (S' := [(0, 3), (0, 1), (0, 5)]) r_205_71 rfl rfl rfl ?_
                                      refine gx_st (L' := [(2, 192), (0, w), (0, b), (0, 5), (0, 3)]) (S' := [(0, (ishl 1 3)), (0, 5)]) r_205_73 rfl rfl rfl ?_
                                      rw [show (ishl 1 3) = 8 from by decide]
                                      refine gx_st (L' := [(2, 192), (0, w), (0, b), (0, 5), (0, 3)]) (S' := [(0, 8), (0, 5)]) r_205_74 rfl rfl rfl ?_
                                      refine gx_st (L' := [(2, 192), (0, w), (0, b), (0, 5), (0, 3)]) (S' := [(0, (ior 5 8))]) r_205_78 rfl rfl rfl ?_
                                      rw [show (ior 5 8) = 13 from by decide]
                                      refine gx_st (L' := [(2, 192), (0, w), (0, b), (0, 13), (0, 3)]) (S' := []) r_205_79 rfl rfl rfl ?_
                                      refine gx_li (z := 4) (L' := [(2, 192), (0, w), (0, b), (0, 13), (0, 4)]) r_205_80 rfl (w32_eq (by omega) (by omega) (by omega)) rfl ?_
                                      refine gx_st (L' := [(2, 192), (0, w), (0, b), (0, 13), (0, 4)]) (S' := []) r_205_83 rfl rfl rfl ?_
                                      refine gx_st (L' := [(2, 192), (0, w), (0, b), (0, 13), (0, 4)]) (S' := [(0, 4)]) r_205_32 rfl rfl rfl ?_
                                      refine gx_st (L' := [(2, 192), (0, w), (0, b), (0, 13), (0, 4)]) (S' := [(0, 4), (0, 4)]) r_205_34 rfl rfl rfl ?_
                                      refine gx_ic (P := 4 ≤ 4) r_205_35 (rfl) (fun h35 => ?_) (fun h35 => ?_)
                                      · refine gx_st (L' := [(2, 192), (0, w), (0, b), (0, 13), (0, 4)]) (S' := [(0, 13)]) r_205_86 rfl rfl rfl ?_
                                        exact gx_rt r_205_87 rfl rfl ⟨_, rfl, RestV_c ⟨fun _ => rest_s (by omega), fun z => by omega⟩, rfl⟩
                                      · omega
                                  · have h54 := Decidable.not_not.mp h54
                                    refine gx_st (L' := [(2, 192), (0, w), (0, b), (0, 5), (0, 3)]) (S' := [(0, 1), (0, 0), (0, 5)]) r_205_57 rfl rfl rfl ?_
                                    refine gx_st (L' := [(2, 192), (0, w), (0, b), (0, 5), (0, 3)]) (S' := [(0, 1), (0, 0), (0, 5)]) r_205_58 rfl rfl rfl ?_
                                    refine gx_st (L' := [(2, 192), (0, w), (0, b), (0, 5), (0, 3)]) (S' := [(0, w), (0, 1), (0, 0), (0, 5)]) r_205_62 rfl rfl rfl ?_
                                    refine gx_st (L' := [(2, 192), (0, w), (0, b), (0, 5), (0, 3)]) (S' := [(0, b), (0, w), (0, 1), (0, 0), (0, 5)]) r_205_63 rfl rfl rfl ?_
                                    refine gx_ci (nx := 67) (S2 := [(0, 5)]) (x_204_01 w b hw hb) r_205_64 rfl rfl rfl rfl rfl rfl rfl (by decide) rfl (fun x64 n64 q64 => ?_)
                                    obtain rfl := q64.1.symm
                                    obtain rfl := q64.2.symm
                                    show GX T 2 205 67 [(2, 192), (0, w), (0, b), (0, 5), (0, 3)] [(0, (if w ≤ 1 ∧ b / 2 ≤ 1 then 1 else 0)), (0, 5)] m (RI (fun v m1 => v = RestV w b ∧ m1 = m))
                                    refine gx_i0 (P := ¬ (w ≤ 1 ∧ b / 2 ≤ 1)) r_205_67 (b01_eq) (fun h67 => ?_) (fun h67 => ?_)
                                    · refine gx_st (L' := [(2, 192), (0, w), (0, b), (0, 5), (0, 3)]) (S' := [(0, 0), (0, 5)]) r_205_77 rfl rfl rfl ?_
                                      refine gx_st (L' := [(2, 192), (0, w), (0, b), (0, 5), (0, 3)]) (S' := [(0, (ior 5 0))]) r_205_78 rfl rfl rfl ?_
                                      rw [show (ior 5 0) = 5 from by decide]
                                      refine gx_st (L' := [(2, 192), (0, w), (0, b), (0, 5), (0, 3)]) (S' := []) r_205_79 rfl rfl rfl ?_
                                      refine gx_li (z := 4) (L' := [(2, 192), (0, w), (0, b), (0, 5), (0, 4)]) r_205_80 rfl (w32_eq (by omega) (by omega) (by omega)) rfl ?_
                                      refine gx_st (L' := [(2, 192), (0, w), (0, b), (0, 5), (0, 4)]) (S' := []) r_205_83 rfl rfl rfl ?_
                                      refine gx_st (L' := [(2, 192), (0, w), (0, b), (0, 5), (0, 4)]) (S' := [(0, 4)]) r_205_32 rfl rfl rfl ?_
                                      refine gx_st (L' := [(2, 192), (0, w), (0, b), (0, 5), (0, 4)]) (S' := [(0, 4), (0, 4)]) r_205_34 rfl rfl rfl ?_
                                      refine gx_ic (P := 4 ≤ 4) r_205_35 (rfl) (fun h35 => ?_) (fun h35 => ?_)
                                      · refine gx_st (L' := [(2, 192), (0, w), (0, b), (0, 5), (0, 4)]) (S' := [(0, 5)]) r_205_86 rfl rfl rfl ?_
                                        exact gx_rt r_205_87 rfl rfl ⟨_, rfl, RestV_c ⟨fun _ => rest_s (by omega), fun z => by omega⟩, rfl⟩
                                      · omega
                                    · have h67 := Decidable.not_not.mp h67
                                      refine gx_st (L' := [(2, 192), (0, w), (0, b), (0, 5), (0, 3)]) (S' := [(0, 1), (0, 5)]) r_205_70 rfl rfl rfl ?_
                                      refine gx_st (L' := [(2, 192), (0, w), (0, b), (0, 5), (0, 3)]) (S' := [(0, 3), (0, 1), (0, 5)]) r_205_71 rfl rfl rfl ?_
                                      refine gx_st (L' := [(2, 192), (0, w), (0, b), (0, 5), (0, 3)]) (S' := [(0, (ishl 1 3)), (0, 5)]) r_205_73 rfl rfl rfl ?_
                                      rw [show (ishl 1 3) = 8 from by decide]
                                      refine gx_st (L' := [(2, 192), (0, w), (0, b), (0, 5), (0, 3)]) (S' := [(0, 8), (0, 5)]) r_205_74 rfl rfl rfl ?_
                                      refine gx_st (L' := [(2, 192), (0, w), (0, b), (0, 5), (0, 3)]) (S' := [(0, (ior 5 8))]) r_205_78 rfl rfl rfl ?_
                                      rw [show (ior 5 8) = 13 from by decide]
                                      refine gx_st (L' := [(2, 192), (0, w), (0, b), (0, 13), (0, 3)]) (S' := []) r_205_79 rfl rfl rfl ?_
                                      refine gx_li (z := 4) (L' := [(2, 192), (0, w), (0, b), (0, 13), (0, 4)]) r_205_80 rfl (w32_eq (by omega) (by omega) (by omega)) rfl ?_
                                      refine gx_st (L' := [(2, 192), (0, w), (0, b), (0, 13), (0, 4)]) (S' := []) r_205_83 rfl rfl rfl ?_
                                      refine gx_st (L' := [(2, 192), (0, w), (0, b), (0, 13), (0, 4)]) (S' := [(0, 4)]) r_205_32 rfl rfl rfl ?_
                                      refine gx_st (L' := [(2, 192), (0, w), (0, b), (0, 13), (0, 4)]) (S' := [(0, 4), (0, 4)]) r_205_34 rfl rfl rfl ?_
                                      refine gx_ic (P := 4 ≤ 4) r_205_35 (rfl) (fun h35 => ?_) (fun h35 => ?_)
                                      · refine gx_st (L' := [(2, 192), (0, w), (0, b), (0, 13), (0, 4)]) (S' := [(0, 13)]) r_205_86 rfl rfl rfl ?_
                                        exact gx_rt r_205_87 rfl rfl ⟨_, rfl, RestV_c ⟨fun _ => rest_s (by omega), fun z => by omega⟩, rfl⟩
                                      · omega
                                · omega
                          · have h54 := Decidable.not_not.mp h54
                            refine gx_st (L' := [(2, 192), (0, w), (0, b), (0, 1), (0, 2)]) (S' := [(0, 1), (0, 0), (0, 1)]) r_205_57 rfl rfl rfl ?_
                            refine gx_st (L' := [(2, 192), (0, w), (0, b), (0, 1), (0, 2)]) (S' := [(0, 1), (0, 0), (0, 1)]) r_205_58 rfl rfl rfl ?_
                            refine gx_st (L' := [(2, 192), (0, w), (0, b), (0, 1), (0, 2)]) (S' := [(0, w), (0, 1), (0, 0), (0, 1)]) r_205_62 rfl rfl rfl ?_
                            refine gx_st (L' := [(2, 192), (0, w), (0, b), (0, 1), (0, 2)]) (S' := [(0, b), (0, w), (0, 1), (0, 0), (0, 1)]) r_205_63 rfl rfl rfl ?_
                            refine gx_ci (nx := 67) (S2 := [(0, 1)]) (x_204_01 w b hw hb) r_205_64 rfl rfl rfl rfl rfl rfl rfl (by decide) rfl (fun x64 n64 q64 => ?_)
                            obtain rfl := q64.1.symm
                            obtain rfl := q64.2.symm
                            show GX T 2 205 67 [(2, 192), (0, w), (0, b), (0, 1), (0, 2)] [(0, (if w ≤ 1 ∧ b / 2 ≤ 1 then 1 else 0)), (0, 1)] m (RI (fun v m1 => v = RestV w b ∧ m1 = m))
                            refine gx_i0 (P := ¬ (w ≤ 1 ∧ b / 2 ≤ 1)) r_205_67 (b01_eq) (fun h67 => ?_) (fun h67 => ?_)
                            · refine gx_st (L' := [(2, 192), (0, w), (0, b), (0, 1), (0, 2)]) (S' := [(0, 0), (0, 1)]) r_205_77 rfl rfl rfl ?_
                              refine gx_st (L' := [(2, 192), (0, w), (0, b), (0, 1), (0, 2)]) (S' := [(0, (ior 1 0))]) r_205_78 rfl rfl rfl ?_
                              rw [show (ior 1 0) = 1 from by decide]
                              refine gx_st (L' := [(2, 192), (0, w), (0, b), (0, 1), (0, 2)]) (S' := []) r_205_79 rfl rfl rfl ?_
                              refine gx_li (z := 3) (L' := [(2, 192), (0, w), (0, b), (0, 1), (0, 3)]) r_205_80 rfl (w32_eq (by omega) (by omega) (by omega)) rfl ?_
                              refine gx_st (L' := [(2, 192), (0, w), (0, b), (0, 1), (0, 3)]) (S' := []) r_205_83 rfl rfl rfl ?_
                              refine gx_st (L' := [(2, 192), (0, w), (0, b), (0, 1), (0, 3)]) (S' := [(0, 3)]) r_205_32 rfl rfl rfl ?_
                              refine gx_st (L' := [(2, 192), (0, w), (0, b), (0, 1), (0, 3)]) (S' := [(0, 4), (0, 3)]) r_205_34 rfl rfl rfl ?_
                              refine gx_ic (P := 4 ≤ 3) r_205_35 (rfl) (fun h35 => ?_) (fun h35 => ?_)
                              · omega
                              · refine gx_st (L' := [(2, 192), (0, w), (0, b), (0, 1), (0, 3)]) (S' := [(0, 1)]) r_205_38 rfl rfl rfl ?_
                                refine gx_st (L' := [(2, 192), (0, w), (0, b), (0, 1), (0, 3)]) (S' := [(0, 3), (0, 1)]) r_205_39 rfl rfl rfl ?_
                                refine gx_st (L' := [(2, 192), (0, w), (0, b), (0, 1), (0, 3)]) (S' := [(0, 2), (0, 3), (0, 1)]) r_205_41 rfl rfl rfl ?_
                                refine gx_ic (P := 2 ≤ 3) r_205_42 (rfl) (fun h42 => ?_) (fun h42 => ?_)
                                · refine gx_st (L' := [(2, 192), (0, w), (0, b), (0, 1), (0, 3)]) (S' := [(0, 0), (0, 1)]) r_205_49 rfl rfl rfl ?_
                                  refine gx_st (L' := [(2, 192), (0, w), (0, b), (0, 1), (0, 3)]) (S' := [(0, 3), (0, 0), (0, 1)]) r_205_50 rfl rfl rfl ?_
                                  refine gx_st (L' := [(2, 192), (0, w), (0, b), (0, 1), (0, 3)]) (S' := [(0, 2), (0, 3), (0, 0), (0, 1)]) r_205_52 rfl rfl rfl ?_
                                  refine gx_rm (z := (3 % 2)) r_205_53 (by decide) (tm_eq (by omega) rfl) ?_
                                  refine gx_i0 (P := ¬ (3 % 2) = 0) r_205_54 (rfl) (fun h54 => ?_) (fun h54 => ?_)
                                  · refine gx_st (L' := [(2, 192), (0, w), (0, b), (0, 1), (0, 3)]) (S' := [(0, 0), (0, 0), (0, 1)]) r_205_61 rfl rfl rfl ?_
                                    refine gx_st (L' := [(2, 192), (0, w), (0, b), (0, 1), (0, 3)]) (S' := [(0, w), (0, 0), (0, 0), (0, 1)]) r_205_62 rfl rfl rfl ?_
                                    refine gx_st (L' := [(2, 192), (0, w), (0, b), (0, 1), (0, 3)]) (S' := [(0, b), (0, w), (0, 0), (0, 0), (0, 1)]) r_205_63 rfl rfl rfl ?_
                                    refine gx_ci (nx := 67) (S2 := [(0, 1)]) (x_204_00 w b hw hb) r_205_64 rfl rfl rfl rfl rfl rfl rfl (by decide) rfl (fun x64 n64 q64 => ?_)
                                    obtain rfl := q64.1.symm
                                    obtain rfl := q64.2.symm
                                    show GX T 2 205 67 [(2, 192), (0, w), (0, b), (0, 1), (0, 3)] [(0, (if 1 ≤ b / 2 then 1 else 0)), (0, 1)] m (RI (fun v m1 => v = RestV w b ∧ m1 = m))
                                    refine gx_i0 (P := ¬ (1 ≤ b / 2)) r_205_67 (b01_eq) (fun h67 => ?_) (fun h67 => ?_)
                                    · refine gx_st (L' := [(2, 192), (0, w), (0, b), (0, 1), (0, 3)]) (S' := [(0, 0), (0, 1)]) r_205_77 rfl rfl rfl ?_
                                      refine gx_st (L' := [(2, 192), (0, w), (0, b), (0, 1), (0, 3)]) (S' := [(0, (ior 1 0))]) r_205_78 rfl rfl rfl ?_
                                      rw [show (ior 1 0) = 1 from by decide]
                                      refine gx_st (L' := [(2, 192), (0, w), (0, b), (0, 1), (0, 3)]) (S' := []) r_205_79 rfl rfl rfl ?_
                                      refine gx_li (z := 4) (L' := [(2, 192), (0, w), (0, b), (0, 1), (0, 4)]) r_205_80 rfl (w32_eq (by omega) (by omega) (by omega)) rfl ?_
                                      refine gx_st (L' := [(2, 192), (0, w), (0, b), (0, 1), (0, 4)]) (S' := []) r_205_83 rfl rfl rfl ?_
                                      refine gx_st (L' := [(2, 192), (0, w), (0, b), (0, 1), (0, 4)]) (S' := [(0, 4)]) r_205_32 rfl rfl rfl ?_
                                      refine gx_st (L' := [(2, 192), (0, w), (0, b), (0, 1), (0, 4)]) (S' := [(0, 4), (0, 4)]) r_205_34 rfl rfl rfl ?_
                                      refine gx_ic (P := 4 ≤ 4) r_205_35 (rfl) (fun h35 => ?_) (fun h35 => ?_)
                                      · refine gx_st (L' := [(2, 192), (0, w), (0, b), (0, 1), (0, 4)]) (S' := [(0, 1)]) r_205_86 rfl rfl rfl ?_
                                        exact gx_rt r_205_87 rfl rfl ⟨_, rfl, RestV_c ⟨fun _ => rest_s (by omega), fun z => by omega⟩, rfl⟩
                                      · omega
                                    · have h67 := Decidable.not_not.mp h67
                                      refine gx_st (L' := [(2, 192), (0, w), (0, b), (0, 1), (0, 3)]) (S' := [(0, 1), (0, 1)]) r_205_70 rfl rfl rfl ?_
                                      refine gx_st (L' := [(2, 192), (0, w), (0, b), (0, 1), (0, 3)]) (S' := [(0, 3), (0, 1), (0, 1)]) r_205_71 rfl rfl rfl ?_
                                      refine gx_st (L' := [(2, 192), (0, w), (0, b), (0, 1), (0, 3)]) (S' := [(0, (ishl 1 3)), (0, 1)]) r_205_73 rfl rfl rfl ?_
                                      rw [show (ishl 1 3) = 8 from by decide]
                                      refine gx_st (L' := [(2, 192), (0, w), (0, b), (0, 1), (0, 3)]) (S' := [(0, 8), (0, 1)]) r_205_74 rfl rfl rfl ?_
                                      refine gx_st (L' := [(2, 192), (0, w), (0, b), (0, 1), (0, 3)]) (S' := [(0, (ior 1 8))]) r_205_78 rfl rfl rfl ?_
                                      rw [show (ior 1 8) = 9 from by decide]
                                      refine gx_st (L' := [(2, 192), (0, w), (0, b), (0, 9), (0, 3)]) (S' := []) r_205_79 rfl rfl rfl ?_
                                      refine gx_li (z := 4) (L' := [(2, 192), (0, w), (0, b), (0, 9), (0, 4)]) r_205_80 rfl (w32_eq (by omega) (by omega) (by omega)) rfl ?_
                                      refine gx_st (L' := [(2, 192), (0, w), (0, b), (0, 9), (0, 4)]) (S' := []) r_205_83 rfl rfl rfl ?_
                                      refine gx_st (L' := [(2, 192), (0, w), (0, b), (0, 9), (0, 4)]) (S' := [(0, 4)]) r_205_32 rfl rfl rfl ?_
                                      refine gx_st (L' := [(2, 192), (0, w), (0, b), (0, 9), (0, 4)]) (S' := [(0, 4), (0, 4)]) r_205_34 rfl rfl rfl ?_
                                      refine gx_ic (P := 4 ≤ 4) r_205_35 (rfl) (fun h35 => ?_) (fun h35 => ?_)
                                      · refine gx_st (L' := [(2, 192), (0, w), (0, b), (0, 9), (0, 4)]) (S' := [(0, 9)]) r_205_86 rfl rfl rfl ?_
                                        exact gx_rt r_205_87 rfl rfl ⟨_, rfl, RestV_c ⟨fun _ => rest_s (by omega), fun z => by omega⟩, rfl⟩
                                      · omega
                                  · have h54 := Decidable.not_not.mp h54
                                    refine gx_st (L' := [(2, 192), (0, w), (0, b), (0, 1), (0, 3)]) (S' := [(0, 1), (0, 0), (0, 1)]) r_205_57 rfl rfl rfl ?_
                                    refine gx_st (L' := [(2, 192), (0, w), (0, b), (0, 1), (0, 3)]) (S' := [(0, 1), (0, 0), (0, 1)]) r_205_58 rfl rfl rfl ?_
                                    refine gx_st (L' := [(2, 192), (0, w), (0, b), (0, 1), (0, 3)]) (S' := [(0, w), (0, 1), (0, 0), (0, 1)]) r_205_62 rfl rfl rfl ?_
                                    refine gx_st (L' := [(2, 192), (0, w), (0, b), (0, 1), (0, 3)]) (S' := [(0, b), (0, w), (0, 1), (0, 0), (0, 1)]) r_205_63 rfl rfl rfl ?_
                                    refine gx_ci (nx := 67) (S2 := [(0, 1)]) (x_204_01 w b hw hb) r_205_64 rfl rfl rfl rfl rfl rfl rfl (by decide) rfl (fun x64 n64 q64 => ?_)
                                    obtain rfl := q64.1.symm
                                    obtain rfl := q64.2.symm
                                    show GX T 2 205 67 [(2, 192), (0, w), (0, b), (0, 1), (0, 3)] [(0, (if w ≤ 1 ∧ b / 2 ≤ 1 then 1 else 0)), (0, 1)] m (RI (fun v m1 => v = RestV w b ∧ m1 = m))
                                    refine gx_i0 (P := ¬ (w ≤ 1 ∧ b / 2 ≤ 1)) r_205_67 (b01_eq) (fun h67 => ?_) (fun h67 => ?_)
                                    · refine gx_st (L' := [(2, 192), (0, w), (0, b), (0, 1), (0, 3)]) (S' := [(0, 0), (0, 1)]) r_205_77 rfl rfl rfl ?_
                                      refine gx_st (L' := [(2, 192), (0, w), (0, b), (0, 1), (0, 3)]) (S' := [(0, (ior 1 0))]) r_205_78 rfl rfl rfl ?_
                                      rw [show (ior 1 0) = 1 from by decide]
                                      refine gx_st (L' := [(2, 192), (0, w), (0, b), (0, 1), (0, 3)]) (S' := []) r_205_79 rfl rfl rfl ?_
                                      refine gx_li (z := 4) (L' := [(2, 192), (0, w), (0, b), (0, 1), (0, 4)]) r_205_80 rfl (w32_eq (by omega) (by omega) (by omega)) rfl ?_
                                      refine gx_st (L' := [(2, 192), (0, w), (0, b), (0, 1), (0, 4)]) (S' := []) r_205_83 rfl rfl rfl ?_
                                      refine gx_st (L' := [(2, 192), (0, w), (0, b), (0, 1), (0, 4)]) (S' := [(0, 4)]) r_205_32 rfl rfl rfl ?_
                                      refine gx_st (L' := [(2, 192), (0, w), (0, b), (0, 1), (0, 4)]) (S' := [(0, 4), (0, 4)]) r_205_34 rfl rfl rfl ?_
                                      refine gx_ic (P := 4 ≤ 4) r_205_35 (rfl) (fun h35 => ?_) (fun h35 => ?_)
                                      · refine gx_st (L' := [(2, 192), (0, w), (0, b), (0, 1), (0, 4)]) (S' := [(0, 1)]) r_205_86 rfl rfl rfl ?_
                                        exact gx_rt r_205_87 rfl rfl ⟨_, rfl, RestV_c ⟨fun _ => rest_s (by omega), fun z => by omega⟩, rfl⟩
                                      · omega
                                    · have h67 := Decidable.not_not.mp h67
                                      refine gx_st (L' := [(2, 192), (0, w), (0, b), (0, 1), (0, 3)]) (S' := [(0, 1), (0, 1)]) r_205_70 rfl rfl rfl ?_
                                      refine gx_st (L' := [(2, 192), (0, w), (0, b), (0, 1), (0, 3)]) (S' := [(0, 3), (0, 1), (0, 1)]) r_205_71 rfl rfl rfl ?_
                                      refine gx_st (L' := [(2, 192), (0, w), (0, b), (0, 1), (0, 3)]) (S' := [(0, (ishl 1 3)), (0, 1)]) r_205_73 rfl rfl rfl ?_
                                      rw [show (ishl 1 3) = 8 from by decide]
                                      refine gx_st (L' := [(2, 192), (0, w), (0, b), (0, 1), (0, 3)]) (S' := [(0, 8), (0, 1)]) r_205_74 rfl rfl rfl ?_
                                      refine gx_st (L' := [(2, 192), (0, w), (0, b), (0, 1), (0, 3)]) (S' := [(0, (ior 1 8))]) r_205_78 rfl rfl rfl ?_
                                      rw [show (ior 1 8) = 9 from by decide]
                                      refine gx_st (L' := [(2, 192), (0, w), (0, b), (0, 9), (0, 3)]) (S' := []) r_205_79 rfl rfl rfl ?_
                                      refine gx_li (z := 4) (L' := [(2, 192), (0, w), (0, b), (0, 9), (0, 4)]) r_205_80 rfl (w32_eq (by omega) (by omega) (by omega)) rfl ?_
                                      refine gx_st (L' := [(2, 192), (0, w), (0, b), (0, 9), (0, 4)]) (S' := []) r_205_83 rfl rfl rfl ?_
                                      refine gx_st (L' := [(2, 192), (0, w), (0, b), (0, 9), (0, 4)]) (S' := [(0, 4)]) r_205_32 rfl rfl rfl ?_
                                      refine gx_st (L' := [(2, 192), (0, w), (0, b), (0, 9), (0, 4)]) (S' := [(0, 4), (0, 4)]) r_205_34 rfl rfl rfl ?_
                                      refine gx_ic (P := 4 ≤ 4) r_205_35 (rfl) (fun h35 => ?_) (fun h35 => ?_)
                                      · refine gx_st (L' := [(2, 192), (0, w), (0, b), (0, 9), (0, 4)]) (S' := [(0, 9)]) r_205_86 rfl rfl rfl ?_
                                        exact gx_rt r_205_87 rfl rfl ⟨_, rfl, RestV_c ⟨fun _ => rest_s (by omega), fun z => by omega⟩, rfl⟩
                                      · omega
                                · omega
                            · have h67 := Decidable.not_not.mp h67
                              refine gx_st (L' := [(2, 192), (0, w), (0, b), (0, 1), (0, 2)]) (S' := [(0, 1), (0, 1)]) r_205_70 rfl rfl rfl ?_
                              refine gx_st (L' := [(2, 192), (0, w), (0, b), (0, 1), (0, 2)]) (S' := [(0, 2), (0, 1), (0, 1)]) r_205_71 rfl rfl rfl ?_
                              refine gx_st (L' := [(2, 192), (0, w), (0, b), (0, 1), (0, 2)]) (S' := [(0, (ishl 1 2)), (0, 1)]) r_205_73 rfl rfl rfl ?_
                              rw [show (ishl 1 2) = 4 from by decide]
                              refine gx_st (L' := [(2, 192), (0, w), (0, b), (0, 1), (0, 2)]) (S' := [(0, 4), (0, 1)]) r_205_74 rfl rfl rfl ?_
                              refine gx_st (L' := [(2, 192), (0, w), (0, b), (0, 1), (0, 2)]) (S' := [(0, (ior 1 4))]) r_205_78 rfl rfl rfl ?_
                              rw [show (ior 1 4) = 5 from by decide]
                              refine gx_st (L' := [(2, 192), (0, w), (0, b), (0, 5), (0, 2)]) (S' := []) r_205_79 rfl rfl rfl ?_
                              refine gx_li (z := 3) (L' := [(2, 192), (0, w), (0, b), (0, 5), (0, 3)]) r_205_80 rfl (w32_eq (by omega) (by omega) (by omega)) rfl ?_
                              refine gx_st (L' := [(2, 192), (0, w), (0, b), (0, 5), (0, 3)]) (S' := []) r_205_83 rfl rfl rfl ?_
                              refine gx_st (L' := [(2, 192), (0, w), (0, b), (0, 5), (0, 3)]) (S' := [(0, 3)]) r_205_32 rfl rfl rfl ?_
                              refine gx_st (L' := [(2, 192), (0, w), (0, b), (0, 5), (0, 3)]) (S' := [(0, 4), (0, 3)]) r_205_34 rfl rfl rfl ?_
                              refine gx_ic (P := 4 ≤ 3) r_205_35 (rfl) (fun h35 => ?_) (fun h35 => ?_)
                              · omega
                              · refine gx_st (L' := [(2, 192), (0, w), (0, b), (0, 5), (0, 3)]) (S' := [(0, 5)]) r_205_38 rfl rfl rfl ?_
                                refine gx_st (L' := [(2, 192), (0, w), (0, b), (0, 5), (0, 3)]) (S' := [(0, 3), (0, 5)]) r_205_39 rfl rfl rfl ?_
                                refine gx_st (L' := [(2, 192), (0, w), (0, b), (0, 5), (0, 3)]) (S' := [(0, 2), (0, 3), (0, 5)]) r_205_41 rfl rfl rfl ?_
                                refine gx_ic (P := 2 ≤ 3) r_205_42 (rfl) (fun h42 => ?_) (fun h42 => ?_)
                                · refine gx_st (L' := [(2, 192), (0, w), (0, b), (0, 5), (0, 3)]) (S' := [(0, 0), (0, 5)]) r_205_49 rfl rfl rfl ?_
                                  refine gx_st (L' := [(2, 192), (0, w), (0, b), (0, 5), (0, 3)]) (S' := [(0, 3), (0, 0), (0, 5)]) r_205_50 rfl rfl rfl ?_
                                  refine gx_st (L' := [(2, 192), (0, w), (0, b), (0, 5), (0, 3)]) (S' := [(0, 2), (0, 3), (0, 0), (0, 5)]) r_205_52 rfl rfl rfl ?_
                                  refine gx_rm (z := (3 % 2)) r_205_53 (by decide) (tm_eq (by omega) rfl) ?_
                                  refine gx_i0 (P := ¬ (3 % 2) = 0) r_205_54 (rfl) (fun h54 => ?_) (fun h54 => ?_)
                                  · refine gx_st (L' := [(2, 192), (0, w), (0, b), (0, 5), (0, 3)]) (S' := [(0, 0), (0, 0), (0, 5)]) r_205_61 rfl rfl rfl ?_
                                    refine gx_st (L' := [(2, 192), (0, w), (0, b), (0, 5), (0, 3)]) (S' := [(0, w), (0, 0), (0, 0), (0, 5)]) r_205_62 rfl rfl rfl ?_
                                    refine gx_st (L' := [(2, 192), (0, w), (0, b), (0, 5), (0, 3)]) (S' := [(0, b), (0, w), (0, 0), (0, 0), (0, 5)]) r_205_63 rfl rfl rfl ?_
                                    refine gx_ci (nx := 67) (S2 := [(0, 5)]) (x_204_00 w b hw hb) r_205_64 rfl rfl rfl rfl rfl rfl rfl (by decide) rfl (fun x64 n64 q64 => ?_)
                                    obtain rfl := q64.1.symm
                                    obtain rfl := q64.2.symm
                                    show GX T 2 205 67 [(2, 192), (0, w), (0, b), (0, 5), (0, 3)] [(0, (if 1 ≤ b / 2 then 1 else 0)), (0, 5)] m (RI (fun v m1 => v = RestV w b ∧ m1 = m))
                                    refine gx_i0 (P := ¬ (1 ≤ b / 2)) r_205_67 (b01_eq) (fun h67 => ?_) (fun h67 => ?_)
                                    · refine gx_st (L' := [(2, 192), (0, w), (0, b), (0, 5), (0, 3)]) (S' := [(0, 0), (0, 5)]) r_205_77 rfl rfl rfl ?_
                                      refine gx_st (L' := [(2, 192), (0, w), (0, b), (0, 5), (0, 3)]) (S' := [(0, (ior 5 0))]) r_205_78 rfl rfl rfl ?_
                                      rw [show (ior 5 0) = 5 from by decide]
                                      refine gx_st (L' := [(2, 192), (0, w), (0, b), (0, 5), (0, 3)]) (S' := []) r_205_79 rfl rfl rfl ?_
                                      refine gx_li (z := 4) (L' := [(2, 192), (0, w), (0, b), (0, 5), (0, 4)]) r_205_80 rfl (w32_eq (by omega) (by omega) (by omega)) rfl ?_
                                      refine gx_st (L' := [(2, 192), (0, w), (0, b), (0, 5), (0, 4)]) (S' := []) r_205_83 rfl rfl rfl ?_
                                      refine gx_st (L' := [(2, 192), (0, w), (0, b), (0, 5), (0, 4)]) (S' := [(0, 4)]) r_205_32 rfl rfl rfl ?_
                                      refine gx_st (L' := [(2, 192), (0, w), (0, b), (0, 5), (0, 4)]) (S' := [(0, 4), (0, 4)]) r_205_34 rfl rfl rfl ?_
                                      refine gx_ic (P := 4 ≤ 4) r_205_35 (rfl) (fun h35 => ?_) (fun h35 => ?_)
                                      · refine gx_st (L' := [(2, 192), (0, w), (0, b), (0, 5), (0, 4)]) (S' := [(0, 5)]) r_205_86 rfl rfl rfl ?_
                                        exact gx_rt r_205_87 rfl rfl ⟨_, rfl, RestV_c ⟨fun _ => rest_s (by omega), fun z => by omega⟩, rfl⟩
                                      · omega
                                    · have h67 := Decidable.not_not.mp h67
                                      refine gx_st (L' := [(2, 192), (0, w), (0, b), (0, 5), (0, 3)]) (S' := [(0, 1), (0, 5)]) r_205_70 rfl rfl rfl ?_
                                      refine gx_st (L' := [(2, 192), (0, w), (0, b), (0, 5), (0, 3)]) (S' := [(0, 3), (0, 1), (0, 5)]) r_205_71 rfl rfl rfl ?_
                                      refine gx_st (L' := [(2, 192), (0, w), (0, b), (0, 5), (0, 3)]) (S' := [(0, (ishl 1 3)), (0, 5)]) r_205_73 rfl rfl rfl ?_
                                      rw [show (ishl 1 3) = 8 from by decide]
                                      refine gx_st (L' := [(2, 192), (0, w), (0, b), (0, 5), (0, 3)]) (S' := [(0, 8), (0, 5)]) r_205_74 rfl rfl rfl ?_
                                      refine gx_st (L' := [(2, 192), (0, w), (0, b), (0, 5), (0, 3)]) (S' := [(0, (ior 5 8))]) r_205_78 rfl rfl rfl ?_
                                      rw [show (ior 5 8) = 13 from by decide]
                                      refine gx_st (L' := [(2, 192), (0, w), (0, b), (0, 13), (0, 3)]) (S' := []) r_205_79 rfl rfl rfl ?_
                                      refine gx_li (z := 4) (L' := [(2, 192), (0, w), (0, b), (0, 13), (0, 4)]) r_205_80 rfl (w32_eq (by omega) (by omega) (by omega)) rfl ?_
                                      refine gx_st (L' := [(2, 192), (0, w), (0, b), (0, 13), (0, 4)]) (S' := []) r_205_83 rfl rfl rfl ?_
                                      refine gx_st (L' := [(2, 192), (0, w), (0, b), (0, 13), (0, 4)]) (S' := [(0, 4)]) r_205_32 rfl rfl rfl ?_
                                      refine gx_st (L' := [(2, 192), (0, w), (0, b), (0, 13), (0, 4)]) (S' := [(0, 4), (0, 4)]) r_205_34 rfl rfl rfl ?_
                                      refine gx_ic (P := 4 ≤ 4) r_205_35 (rfl) (fun h35 => ?_) (fun h35 => ?_)
                                      · refine gx_st (L' := [(2, 192), (0, w), (0, b), (0, 13), (0, 4)]) (S' := [(0, 13)]) r_205_86 rfl rfl rfl ?_
                                        exact gx_rt r_205_87 rfl rfl ⟨_, rfl, RestV_c ⟨fun _ => rest_s (by omega), fun z => by omega⟩, rfl⟩
                                      · omega
                                  · have h54 := Decidable.not_not.mp h54
                                    refine gx_st (L' := [(2, 192), (0, w), (0, b), (0, 5), (0, 3)]) (S' := [(0, 1), (0, 0), (0, 5)]) r_205_57 rfl rfl rfl ?_
                                    refine gx_st (L' := [(2, 192), (0, w), (0, b), (0, 5), (0, 3)]) (S' := [(0, 1), (0, 0), (0, 5)]) r_205_58 rfl rfl rfl ?_
                                    refine gx_st (L' := [(2, 192), (0, w), (0, b), (0, 5), (0, 3)]) (S' := [(0, w), (0, 1), (0, 0), (0, 5)]) r_205_62 rfl rfl rfl ?_
                                    refine gx_st (L' := [(2, 192), (0, w), (0, b), (0, 5), (0, 3)]) (S' := [(0, b), (0, w), (0, 1), (0, 0), (0, 5)]) r_205_63 rfl rfl rfl ?_
                                    refine gx_ci (nx := 67) (S2 := [(0, 5)]) (x_204_01 w b hw hb) r_205_64 rfl rfl rfl rfl rfl rfl rfl (by decide) rfl (fun x64 n64 q64 => ?_)
                                    obtain rfl := q64.1.symm
                                    obtain rfl := q64.2.symm
                                    show GX T 2 205 67 [(2, 192), (0, w), (0, b), (0, 5), (0, 3)] [(0, (if w ≤ 1 ∧ b / 2 ≤ 1 then 1 else 0)), (0, 5)] m (RI (fun v m1 => v = RestV w b ∧ m1 = m))
                                    refine gx_i0 (P := ¬ (w ≤ 1 ∧ b / 2 ≤ 1)) r_205_67 (b01_eq) (fun h67 => ?_) (fun h67 => ?_)
                                    · refine gx_st (L' := [(2, 192), (0, w), (0, b), (0, 5), (0, 3)]) (S' := [(0, 0), (0, 5)]) r_205_77 rfl rfl rfl ?_
                                      refine gx_st (L' := [(2, 192), (0, w), (0, b), (0, 5), (0, 3)]) (S' := [(0, (ior 5 0))]) r_205_78 rfl rfl rfl ?_
                                      rw [show (ior 5 0) = 5 from by decide]
                                      refine gx_st (L' := [(2, 192), (0, w), (0, b), (0, 5), (0, 3)]) (S' := []) r_205_79 rfl rfl rfl ?_
                                      refine gx_li (z := 4) (L' := [(2, 192), (0, w), (0, b), (0, 5), (0, 4)]) r_205_80 rfl (w32_eq (by omega) (by omega) (by omega)) rfl ?_
                                      refine gx_st (L' := [(2, 192), (0, w), (0, b), (0, 5), (0, 4)]) (S' := []) r_205_83 rfl rfl rfl ?_
                                      refine gx_st (L' := [(2, 192), (0, w), (0, b), (0, 5), (0, 4)]) (S' := [(0, 4)]) r_205_32 rfl rfl rfl ?_
                                      refine gx_st (L' := [(2, 192), (0, w), (0, b), (0, 5), (0, 4)]) (S' := [(0, 4), (0, 4)]) r_205_34 rfl rfl rfl ?_
                                      refine gx_ic (P := 4 ≤ 4) r_205_35 (rfl) (fun h35 => ?_) (fun h35 => ?_)
                                      · refine gx_st (L' := [(2, 192), (0, w), (0, b), (0, 5), (0, 4)]) (S' := [(0, 5)]) r_205_86 rfl rfl rfl ?_
                                        exact gx_rt r_205_87 rfl rfl ⟨_, rfl, RestV_c ⟨fun _ => rest_s (by omega), fun z => by omega⟩, rfl⟩
                                      · omega
                                    · have h67 := Decidable.not_not.mp h67
                                      refine gx_st (L' := [(2, 192), (0, w), (0, b), (0, 5), (0, 3)]) (S' := [(0, 1), (0, 5)]) r_205_70 rfl rfl rfl ?_
                                      refine gx_st (L' := [(2, 192), (0, w), (0, b), (0, 5), (0, 3)]) (S' := [(0, 3), (0, 1), (0, 5)]) r_205_71 rfl rfl rfl ?_
                                      refine gx_st (L' := [(2, 192), (0, w), (0, b), (0, 5), (0, 3)]) (S' := [(0, (ishl 1 3)), (0, 5)]) r_205_73 rfl rfl rfl ?_
                                      rw [show (ishl 1 3) = 8 from by decide]
                                      refine gx_st (L' := [(2, 192), (0, w), (0, b), (0, 5), (0, 3)]) (S' := [(0, 8), (0, 5)]) r_205_74 rfl rfl rfl ?_
                                      refine gx_st (L' := [(2, 192), (0, w), (0, b), (0, 5), (0, 3)]) (S' := [(0, (ior 5 8))]) r_205_78 rfl rfl rfl ?_
                                      rw [show (ior 5 8) = 13 from by decide]
                                      refine gx_st (L' := [(2, 192), (0, w), (0, b), (0, 13), (0, 3)]) (S' := []) r_205_79 rfl rfl rfl ?_
                                      refine gx_li (z := 4) (L' := [(2, 192), (0, w), (0, b), (0, 13), (0, 4)]) r_205_80 rfl (w32_eq (by omega) (by omega) (by omega)) rfl ?_
                                      refine gx_st (L' := [(2, 192), (0, w), (0, b), (0, 13), (0, 4)]) (S' := []) r_205_83 rfl rfl rfl ?_
                                      refine gx_st (L' := [(2, 192), (0, w), (0, b), (0, 13), (0, 4)]) (S' := [(0, 4)]) r_205_32 rfl rfl rfl ?_
                                      refine gx_st (L' := [(2, 192), (0, w), (0, b), (0, 13), (0, 4)]) (S' := [(0, 4), (0, 4)]) r_205_34 rfl rfl rfl ?_
                                      refine gx_ic (P := 4 ≤ 4) r_205_35 (rfl) (fun h35 => ?_) (fun h35 => ?_)
                                      · refine gx_st (L' := [(2, 192), (0, w), (0, b), (0, 13), (0, 4)]) (S' := [(0, 13)]) r_205_86 rfl rfl rfl ?_
                                        exact gx_rt r_205_87 rfl rfl ⟨_, rfl, RestV_c ⟨fun _ => rest_s (by omega), fun z => by omega⟩, rfl⟩
                                      · omega
                                · omega
                        · omega
                    · omega
                  · have h54 := Decidable.not_not.mp h54
                    refine gx_st (L' := [(2, 192), (0, w), (0, b), (0, 1), (0, 1)]) (S' := [(0, 1), (0, 1), (0, 1)]) r_205_57 rfl rfl rfl ?_
                    refine gx_st (L' := [(2, 192), (0, w), (0, b), (0, 1), (0, 1)]) (S' := [(0, 1), (0, 1), (0, 1)]) r_205_58 rfl rfl rfl ?_
                    refine gx_st (L' := [(2, 192), (0, w), (0, b), (0, 1), (0, 1)]) (S' := [(0, w), (0, 1), (0, 1), (0, 1)]) r_205_62 rfl rfl rfl ?_
                    refine gx_st (L' := [(2, 192), (0, w), (0, b), (0, 1), (0, 1)]) (S' := [(0, b), (0, w), (0, 1), (0, 1), (0, 1)]) r_205_63 rfl rfl rfl ?_
                    refine gx_ci (nx := 67) (S2 := [(0, 1)]) (x_204_11 w b hw hb) r_205_64 rfl rfl rfl rfl rfl rfl rfl (by decide) rfl (fun x64 n64 q64 => ?_)
                    obtain rfl := q64.1.symm
                    obtain rfl := q64.2.symm
                    show GX T 2 205 67 [(2, 192), (0, w), (0, b), (0, 1), (0, 1)] [(0, (if 1 ≤ w ∧ b ≤ 2 then 1 else 0)), (0, 1)] m (RI (fun v m1 => v = RestV w b ∧ m1 = m))
                    refine gx_i0 (P := ¬ (1 ≤ w ∧ b ≤ 2)) r_205_67 (b01_eq) (fun h67 => ?_) (fun h67 => ?_)
                    · refine gx_st (L' := [(2, 192), (0, w), (0, b), (0, 1), (0, 1)]) (S' := [(0, 0), (0, 1)]) r_205_77 rfl rfl rfl ?_
                      refine gx_st (L' := [(2, 192), (0, w), (0, b), (0, 1), (0, 1)]) (S' := [(0, (ior 1 0))]) r_205_78 rfl rfl rfl ?_
                      rw [show (ior 1 0) = 1 from by decide]
                      refine gx_st (L' := [(2, 192), (0, w), (0, b), (0, 1), (0, 1)]) (S' := []) r_205_79 rfl rfl rfl ?_
                      refine gx_li (z := 2) (L' := [(2, 192), (0, w), (0, b), (0, 1), (0, 2)]) r_205_80 rfl (w32_eq (by omega) (by omega) (by omega)) rfl ?_
                      refine gx_st (L' := [(2, 192), (0, w), (0, b), (0, 1), (0, 2)]) (S' := []) r_205_83 rfl rfl rfl ?_
                      refine gx_st (L' := [(2, 192), (0, w), (0, b), (0, 1), (0, 2)]) (S' := [(0, 2)]) r_205_32 rfl rfl rfl ?_
                      refine gx_st (L' := [(2, 192), (0, w), (0, b), (0, 1), (0, 2)]) (S' := [(0, 4), (0, 2)]) r_205_34 rfl rfl rfl ?_
                      refine gx_ic (P := 4 ≤ 2) r_205_35 (rfl) (fun h35 => ?_) (fun h35 => ?_)
                      · omega
                      · refine gx_st (L' := [(2, 192), (0, w), (0, b), (0, 1), (0, 2)]) (S' := [(0, 1)]) r_205_38 rfl rfl rfl ?_
                        refine gx_st (L' := [(2, 192), (0, w), (0, b), (0, 1), (0, 2)]) (S' := [(0, 2), (0, 1)]) r_205_39 rfl rfl rfl ?_
                        refine gx_st (L' := [(2, 192), (0, w), (0, b), (0, 1), (0, 2)]) (S' := [(0, 2), (0, 2), (0, 1)]) r_205_41 rfl rfl rfl ?_
                        refine gx_ic (P := 2 ≤ 2) r_205_42 (rfl) (fun h42 => ?_) (fun h42 => ?_)
                        · refine gx_st (L' := [(2, 192), (0, w), (0, b), (0, 1), (0, 2)]) (S' := [(0, 0), (0, 1)]) r_205_49 rfl rfl rfl ?_
                          refine gx_st (L' := [(2, 192), (0, w), (0, b), (0, 1), (0, 2)]) (S' := [(0, 2), (0, 0), (0, 1)]) r_205_50 rfl rfl rfl ?_
                          refine gx_st (L' := [(2, 192), (0, w), (0, b), (0, 1), (0, 2)]) (S' := [(0, 2), (0, 2), (0, 0), (0, 1)]) r_205_52 rfl rfl rfl ?_
                          refine gx_rm (z := (2 % 2)) r_205_53 (by decide) (tm_eq (by omega) rfl) ?_
                          refine gx_i0 (P := ¬ (2 % 2) = 0) r_205_54 (rfl) (fun h54 => ?_) (fun h54 => ?_)
                          · refine gx_st (L' := [(2, 192), (0, w), (0, b), (0, 1), (0, 2)]) (S' := [(0, 0), (0, 0), (0, 1)]) r_205_61 rfl rfl rfl ?_
                            refine gx_st (L' := [(2, 192), (0, w), (0, b), (0, 1), (0, 2)]) (S' := [(0, w), (0, 0), (0, 0), (0, 1)]) r_205_62 rfl rfl rfl ?_
                            refine gx_st (L' := [(2, 192), (0, w), (0, b), (0, 1), (0, 2)]) (S' := [(0, b), (0, w), (0, 0), (0, 0), (0, 1)]) r_205_63 rfl rfl rfl ?_
                            refine gx_ci (nx := 67) (S2 := [(0, 1)]) (x_204_00 w b hw hb) r_205_64 rfl rfl rfl rfl rfl rfl rfl (by decide) rfl (fun x64 n64 q64 => ?_)
                            obtain rfl := q64.1.symm
                            obtain rfl := q64.2.symm
                            show GX T 2 205 67 [(2, 192), (0, w), (0, b), (0, 1), (0, 2)] [(0, (if 1 ≤ b / 2 then 1 else 0)), (0, 1)] m (RI (fun v m1 => v = RestV w b ∧ m1 = m))
                            refine gx_i0 (P := ¬ (1 ≤ b / 2)) r_205_67 (b01_eq) (fun h67 => ?_) (fun h67 => ?_)
                            · refine gx_st (L' := [(2, 192), (0, w), (0, b), (0, 1), (0, 2)]) (S' := [(0, 0), (0, 1)]) r_205_77 rfl rfl rfl ?_
                              refine gx_st (L' := [(2, 192), (0, w), (0, b), (0, 1), (0, 2)]) (S' := [(0, (ior 1 0))]) r_205_78 rfl rfl rfl ?_
                              rw [show (ior 1 0) = 1 from by decide]
                              refine gx_st (L' := [(2, 192), (0, w), (0, b), (0, 1), (0, 2)]) (S' := []) r_205_79 rfl rfl rfl ?_
                              refine gx_li (z := 3) (L' := [(2, 192), (0, w), (0, b), (0, 1), (0, 3)]) r_205_80 rfl (w32_eq (by omega) (by omega) (by omega)) rfl ?_
                              refine gx_st (L' := [(2, 192), (0, w), (0, b), (0, 1), (0, 3)]) (S' := []) r_205_83 rfl rfl rfl ?_
                              refine gx_st (L' := [(2, 192), (0, w), (0, b), (0, 1), (0, 3)]) (S' := [(0, 3)]) r_205_32 rfl rfl rfl ?_
                              refine gx_st (L' := [(2, 192), (0, w), (0, b), (0, 1), (0, 3)]) (S' := [(0, 4), (0, 3)]) r_205_34 rfl rfl rfl ?_
                              refine gx_ic (P := 4 ≤ 3) r_205_35 (rfl) (fun h35 => ?_) (fun h35 => ?_)
                              · omega
                              · refine gx_st (L' := [(2, 192), (0, w), (0, b), (0, 1), (0, 3)]) (S' := [(0, 1)]) r_205_38 rfl rfl rfl ?_
                                refine gx_st (L' := [(2, 192), (0, w), (0, b), (0, 1), (0, 3)]) (S' := [(0, 3), (0, 1)]) r_205_39 rfl rfl rfl ?_
                                refine gx_st (L' := [(2, 192), (0, w), (0, b), (0, 1), (0, 3)]) (S' := [(0, 2), (0, 3), (0, 1)]) r_205_41 rfl rfl rfl ?_
                                refine gx_ic (P := 2 ≤ 3) r_205_42 (rfl) (fun h42 => ?_) (fun h42 => ?_)
                                · refine gx_st (L' := [(2, 192), (0, w), (0, b), (0, 1), (0, 3)]) (S' := [(0, 0), (0, 1)]) r_205_49 rfl rfl rfl ?_
                                  refine gx_st (L' := [(2, 192), (0, w), (0, b), (0, 1), (0, 3)]) (S' := [(0, 3), (0, 0), (0, 1)]) r_205_50 rfl rfl rfl ?_
                                  refine gx_st (L' := [(2, 192), (0, w), (0, b), (0, 1), (0, 3)]) (S' := [(0, 2), (0, 3), (0, 0), (0, 1)]) r_205_52 rfl rfl rfl ?_
                                  refine gx_rm (z := (3 % 2)) r_205_53 (by decide) (tm_eq (by omega) rfl) ?_
                                  refine gx_i0 (P := ¬ (3 % 2) = 0) r_205_54 (rfl) (fun h54 => ?_) (fun h54 => ?_)
                                  · refine gx_st (L' := [(2, 192), (0, w), (0, b), (0, 1), (0, 3)]) (S' := [(0, 0), (0, 0), (0, 1)]) r_205_61 rfl rfl rfl ?_
                                    refine gx_st (L' := [(2, 192), (0, w), (0, b), (0, 1), (0, 3)]) (S' := [(0, w), (0, 0), (0, 0), (0, 1)]) r_205_62 rfl rfl rfl ?_
                                    refine gx_st (L' := [(2, 192), (0, w), (0, b), (0, 1), (0, 3)]) (S' := [(0, b), (0, w), (0, 0), (0, 0), (0, 1)]) r_205_63 rfl rfl rfl ?_
                                    refine gx_ci (nx := 67) (S2 := [(0, 1)]) (x_204_00 w b hw hb) r_205_64 rfl rfl rfl rfl rfl rfl rfl (by decide) rfl (fun x64 n64 q64 => ?_)
                                    obtain rfl := q64.1.symm
                                    obtain rfl := q64.2.symm
                                    show GX T 2 205 67 [(2, 192), (0, w), (0, b), (0, 1), (0, 3)] [(0, (if 1 ≤ b / 2 then 1 else 0)), (0, 1)] m (RI (fun v m1 => v = RestV w b ∧ m1 = m))
                                    refine gx_i0 (P := ¬ (1 ≤ b / 2)) r_205_67 (b01_eq) (fun h67 => ?_) (fun h67 => ?_)
                                    · refine gx_st (L' := [(2, 192), (0, w), (0, b), (0, 1), (0, 3)]) (S' := [(0, 0), (0, 1)]) r_205_77 rfl rfl rfl ?_
                                      refine gx_st (L' := [(2, 192), (0, w), (0, b), (0, 1), (0, 3)]) (S' := [(0, (ior 1 0))]) r_205_78 rfl rfl rfl ?_
                                      rw [show (ior 1 0) = 1 from by decide]
                                      refine gx_st (L' := [(2, 192), (0, w), (0, b), (0, 1), (0, 3)]) (S' := []) r_205_79 rfl rfl rfl ?_
                                      refine gx_li (z := 4) (L' := [(2, 192), (0, w), (0, b), (0, 1), (0, 4)]) r_205_80 rfl (w32_eq (by omega) (by omega) (by omega)) rfl ?_
                                      refine gx_st (L' := [(2, 192), (0, w), (0, b), (0, 1), (0, 4)]) (S' := []) r_205_83 rfl rfl rfl ?_
                                      refine gx_st (L' := [(2, 192), (0, w), (0, b), (0, 1), (0, 4)]) (S' := [(0, 4)]) r_205_32 rfl rfl rfl ?_
                                      refine gx_st (L' := [(2, 192), (0, w), (0, b), (0, 1), (0, 4)]) (S' := [(0, 4), (0, 4)]) r_205_34 rfl rfl rfl ?_
                                      refine gx_ic (P := 4 ≤ 4) r_205_35 (rfl) (fun h35 => ?_) (fun h35 => ?_)
                                      · refine gx_st (L' := [(2, 192), (0, w), (0, b), (0, 1), (0, 4)]) (S' := [(0, 1)]) r_205_86 rfl rfl rfl ?_
                                        exact gx_rt r_205_87 rfl rfl ⟨_, rfl, RestV_c ⟨fun _ => rest_s (by omega), fun z => by omega⟩, rfl⟩
                                      · omega
                                    · have h67 := Decidable.not_not.mp h67
                                      refine gx_st (L' := [(2, 192), (0, w), (0, b), (0, 1), (0, 3)]) (S' := [(0, 1), (0, 1)]) r_205_70 rfl rfl rfl ?_
                                      refine gx_st (L' := [(2, 192), (0, w), (0, b), (0, 1), (0, 3)]) (S' := [(0, 3), (0, 1), (0, 1)]) r_205_71 rfl rfl rfl ?_
                                      refine gx_st (L' := [(2, 192), (0, w), (0, b), (0, 1), (0, 3)]) (S' := [(0, (ishl 1 3)), (0, 1)]) r_205_73 rfl rfl rfl ?_
                                      rw [show (ishl 1 3) = 8 from by decide]
                                      refine gx_st (L' := [(2, 192), (0, w), (0, b), (0, 1), (0, 3)]) (S' := [(0, 8), (0, 1)]) r_205_74 rfl rfl rfl ?_
                                      refine gx_st (L' := [(2, 192), (0, w), (0, b), (0, 1), (0, 3)]) (S' := [(0, (ior 1 8))]) r_205_78 rfl rfl rfl ?_
                                      rw [show (ior 1 8) = 9 from by decide]
                                      refine gx_st (L' := [(2, 192), (0, w), (0, b), (0, 9), (0, 3)]) (S' := []) r_205_79 rfl rfl rfl ?_
                                      refine gx_li (z := 4) (L' := [(2, 192), (0, w), (0, b), (0, 9), (0, 4)]) r_205_80 rfl (w32_eq (by omega) (by omega) (by omega)) rfl ?_
                                      refine gx_st (L' := [(2, 192), (0, w), (0, b), (0, 9), (0, 4)]) (S' := []) r_205_83 rfl rfl rfl ?_
                                      refine gx_st (L' := [(2, 192), (0, w), (0, b), (0, 9), (0, 4)]) (S' := [(0, 4)]) r_205_32 rfl rfl rfl ?_
                                      refine gx_st (L' := [(2, 192), (0, w), (0, b), (0, 9), (0, 4)]) (S' := [(0, 4), (0, 4)]) r_205_34 rfl rfl rfl ?_
                                      refine gx_ic (P := 4 ≤ 4) r_205_35 (rfl) (fun h35 => ?_) (fun h35 => ?_)
                                      · refine gx_st (L' := [(2, 192), (0, w), (0, b), (0, 9), (0, 4)]) (S' := [(0, 9)]) r_205_86 rfl rfl rfl ?_
                                        exact gx_rt r_205_87 rfl rfl ⟨_, rfl, RestV_c ⟨fun _ => rest_s (by omega), fun z => by omega⟩, rfl⟩
                                      · omega
                                  · have h54 := Decidable.not_not.mp h54
                                    refine gx_st (L' := [(2, 192), (0, w), (0, b), (0, 1), (0, 3)]) (S' := [(0, 1), (0, 0), (0, 1)]) r_205_57 rfl rfl rfl ?_
                                    refine gx_st (L' := [(2, 192), (0, w), (0, b), (0, 1), (0, 3)]) (S' := [(0, 1), (0, 0), (0, 1)]) r_205_58 rfl rfl rfl ?_
                                    refine gx_st (L' := [(2, 192), (0, w), (0, b), (0, 1), (0, 3)]) (S' := [(0, w), (0, 1), (0, 0), (0, 1)]) r_205_62 rfl rfl rfl ?_
                                    refine gx_st (L' := [(2, 192), (0, w), (0, b), (0, 1), (0, 3)]) (S' := [(0, b), (0, w), (0, 1), (0, 0), (0, 1)]) r_205_63 rfl rfl rfl ?_
                                    refine gx_ci (nx := 67) (S2 := [(0, 1)]) (x_204_01 w b hw hb) r_205_64 rfl rfl rfl rfl rfl rfl rfl (by decide) rfl (fun x64 n64 q64 => ?_)
                                    obtain rfl := q64.1.symm
                                    obtain rfl := q64.2.symm
                                    show GX T 2 205 67 [(2, 192), (0, w), (0, b), (0, 1), (0, 3)] [(0, (if w ≤ 1 ∧ b / 2 ≤ 1 then 1 else 0)), (0, 1)] m (RI (fun v m1 => v = RestV w b ∧ m1 = m))
                                    refine gx_i0 (P := ¬ (w ≤ 1 ∧ b / 2 ≤ 1)) r_205_67 (b01_eq) (fun h67 => ?_) (fun h67 => ?_)
                                    · refine gx_st (L' := [(2, 192), (0, w), (0, b), (0, 1), (0, 3)]) (S' := [(0, 0), (0, 1)]) r_205_77 rfl rfl rfl ?_
                                      refine gx_st (L' := [(2, 192), (0, w), (0, b), (0, 1), (0, 3)]) (S' := [(0, (ior 1 0))]) r_205_78 rfl rfl rfl ?_
                                      rw [show (ior 1 0) = 1 from by decide]
                                      refine gx_st (L' := [(2, 192), (0, w), (0, b), (0, 1), (0, 3)]) (S' := []) r_205_79 rfl rfl rfl ?_
                                      refine gx_li (z := 4) (L' := [(2, 192), (0, w), (0, b), (0, 1), (0, 4)]) r_205_80 rfl (w32_eq (by omega) (by omega) (by omega)) rfl ?_
                                      refine gx_st (L' := [(2, 192), (0, w), (0, b), (0, 1), (0, 4)]) (S' := []) r_205_83 rfl rfl rfl ?_
                                      refine gx_st (L' := [(2, 192), (0, w), (0, b), (0, 1), (0, 4)]) (S' := [(0, 4)]) r_205_32 rfl rfl rfl ?_
                                      refine gx_st (L' := [(2, 192), (0, w), (0, b), (0, 1), (0, 4)]) (S' := [(0, 4), (0, 4)]) r_205_34 rfl rfl rfl ?_
                                      refine gx_ic (P := 4 ≤ 4) r_205_35 (rfl) (fun h35 => ?_) (fun h35 => ?_)
                                      · refine gx_st (L' := [(2, 192), (0, w), (0, b), (0, 1), (0, 4)]) (S' := [(0, 1)]) r_205_86 rfl rfl rfl ?_
                                        exact gx_rt r_205_87 rfl rfl ⟨_, rfl, RestV_c ⟨fun _ => rest_s (by omega), fun z => by omega⟩, rfl⟩
                                      · omega
                                    · have h67 := Decidable.not_not.mp h67
                                      refine gx_st (L' := [(2, 192), (0, w), (0, b), (0, 1), (0, 3)]) (S' := [(0, 1), (0, 1)]) r_205_70 rfl rfl rfl ?_
                                      refine gx_st (L' := [(2, 192), (0, w), (0, b), (0, 1), (0, 3)]) (S' := [(0, 3), (0, 1), (0, 1)]) r_205_71 rfl rfl rfl ?_
                                      refine gx_st (L' := [(2, 192), (0, w), (0, b), (0, 1), (0, 3)]) (S' := [(0, (ishl 1 3)), (0, 1)]) r_205_73 rfl rfl rfl ?_
                                      rw [show (ishl 1 3) = 8 from by decide]
                                      refine gx_st (L' := [(2, 192), (0, w), (0, b), (0, 1), (0, 3)]) (S' := [(0, 8), (0, 1)]) r_205_74 rfl rfl rfl ?_
                                      refine gx_st (L' := [(2, 192), (0, w), (0, b), (0, 1), (0, 3)]) (S' := [(0, (ior 1 8))]) r_205_78 rfl rfl rfl ?_
                                      rw [show (ior 1 8) = 9 from by decide]
                                      refine gx_st (L' := [(2, 192), (0, w), (0, b), (0, 9), (0, 3)]) (S' := []) r_205_79 rfl rfl rfl ?_
                                      refine gx_li (z := 4) (L' := [(2, 192), (0, w), (0, b), (0, 9), (0, 4)]) r_205_80 rfl (w32_eq (by omega) (by omega) (by omega)) rfl ?_
                                      refine gx_st (L' := [(2, 192), (0, w), (0, b), (0, 9), (0, 4)]) (S' := []) r_205_83 rfl rfl rfl ?_
                                      refine gx_st (L' := [(2, 192), (0, w), (0, b), (0, 9), (0, 4)]) (S' := [(0, 4)]) r_205_32 rfl rfl rfl ?_
                                      refine gx_st (L' := [(2, 192), (0, w), (0, b), (0, 9), (0, 4)]) (S' := [(0, 4), (0, 4)]) r_205_34 rfl rfl rfl ?_
                                      refine gx_ic (P := 4 ≤ 4) r_205_35 (rfl) (fun h35 => ?_) (fun h35 => ?_)
                                      · refine gx_st (L' := [(2, 192), (0, w), (0, b), (0, 9), (0, 4)]) (S' := [(0, 9)]) r_205_86 rfl rfl rfl ?_
                                        exact gx_rt r_205_87 rfl rfl ⟨_, rfl, RestV_c ⟨fun _ => rest_s (by omega), fun z => by omega⟩, rfl⟩
                                      · omega
                                · omega
                            · have h67 := Decidable.not_not.mp h67
                              refine gx_st (L' := [(2, 192), (0, w), (0, b), (0, 1), (0, 2)]) (S' := [(0, 1), (0, 1)]) r_205_70 rfl rfl rfl ?_
                              refine gx_st (L' := [(2, 192), (0, w), (0, b), (0, 1), (0, 2)]) (S' := [(0, 2), (0, 1), (0, 1)]) r_205_71 rfl rfl rfl ?_
                              refine gx_st (L' := [(2, 192), (0, w), (0, b), (0, 1), (0, 2)]) (S' := [(0, (ishl 1 2)), (0, 1)]) r_205_73 rfl rfl rfl ?_
                              rw [show (ishl 1 2) = 4 from by decide]
                              refine gx_st (L' := [(2, 192), (0, w), (0, b), (0, 1), (0, 2)]) (S' := [(0, 4), (0, 1)]) r_205_74 rfl rfl rfl ?_
                              refine gx_st (L' := [(2, 192), (0, w), (0, b), (0, 1), (0, 2)]) (S' := [(0, (ior 1 4))]) r_205_78 rfl rfl rfl ?_
                              rw [show (ior 1 4) = 5 from by decide]
                              refine gx_st (L' := [(2, 192), (0, w), (0, b), (0, 5), (0, 2)]) (S' := []) r_205_79 rfl rfl rfl ?_
                              refine gx_li (z := 3) (L' := [(2, 192), (0, w), (0, b), (0, 5), (0, 3)]) r_205_80 rfl (w32_eq (by omega) (by omega) (by omega)) rfl ?_
                              refine gx_st (L' := [(2, 192), (0, w), (0, b), (0, 5), (0, 3)]) (S' := []) r_205_83 rfl rfl rfl ?_
                              refine gx_st (L' := [(2, 192), (0, w), (0, b), (0, 5), (0, 3)]) (S' := [(0, 3)]) r_205_32 rfl rfl rfl ?_
                              refine gx_st (L' := [(2, 192), (0, w), (0, b), (0, 5), (0, 3)]) (S' := [(0, 4), (0, 3)]) r_205_34 rfl rfl rfl ?_
                              refine gx_ic (P := 4 ≤ 3) r_205_35 (rfl) (fun h35 => ?_) (fun h35 => ?_)
                              · omega
                              · refine gx_st (L' := [(2, 192), (0, w), (0, b), (0, 5), (0, 3)]) (S' := [(0, 5)]) r_205_38 rfl rfl rfl ?_
                                refine gx_st (L' := [(2, 192), (0, w), (0, b), (0, 5), (0, 3)]) (S' := [(0, 3), (0, 5)]) r_205_39 rfl rfl rfl ?_
                                refine gx_st (L' := [(2, 192), (0, w), (0, b), (0, 5), (0, 3)]) (S' := [(0, 2), (0, 3), (0, 5)]) r_205_41 rfl rfl rfl ?_
                                refine gx_ic (P := 2 ≤ 3) r_205_42 (rfl) (fun h42 => ?_) (fun h42 => ?_)
                                · refine gx_st (L' := [(2, 192), (0, w), (0, b), (0, 5), (0, 3)]) (S' := [(0, 0), (0, 5)]) r_205_49 rfl rfl rfl ?_
                                  refine gx_st (L' := [(2, 192), (0, w), (0, b), (0, 5), (0, 3)]) (S' := [(0, 3), (0, 0), (0, 5)]) r_205_50 rfl rfl rfl ?_
                                  refine gx_st (L' := [(2, 192), (0, w), (0, b), (0, 5), (0, 3)]) (S' := [(0, 2), (0, 3), (0, 0), (0, 5)]) r_205_52 rfl rfl rfl ?_
                                  refine gx_rm (z := (3 % 2)) r_205_53 (by decide) (tm_eq (by omega) rfl) ?_
                                  refine gx_i0 (P := ¬ (3 % 2) = 0) r_205_54 (rfl) (fun h54 => ?_) (fun h54 => ?_)
                                  · refine gx_st (L' := [(2, 192), (0, w), (0, b), (0, 5), (0, 3)]) (S' := [(0, 0), (0, 0), (0, 5)]) r_205_61 rfl rfl rfl ?_
                                    refine gx_st (L' := [(2, 192), (0, w), (0, b), (0, 5), (0, 3)]) (S' := [(0, w), (0, 0), (0, 0), (0, 5)]) r_205_62 rfl rfl rfl ?_
                                    refine gx_st (L' := [(2, 192), (0, w), (0, b), (0, 5), (0, 3)]) (S' := [(0, b), (0, w), (0, 0), (0, 0), (0, 5)]) r_205_63 rfl rfl rfl ?_
                                    refine gx_ci (nx := 67) (S2 := [(0, 5)]) (x_204_00 w b hw hb) r_205_64 rfl rfl rfl rfl rfl rfl rfl (by decide) rfl (fun x64 n64 q64 => ?_)
                                    obtain rfl := q64.1.symm
                                    obtain rfl := q64.2.symm
                                    show GX T 2 205 67 [(2, 192), (0, w), (0, b), (0, 5), (0, 3)] [(0, (if 1 ≤ b / 2 then 1 else 0)), (0, 5)] m (RI (fun v m1 => v = RestV w b ∧ m1 = m))
                                    refine gx_i0 (P := ¬ (1 ≤ b / 2)) r_205_67 (b01_eq) (fun h67 => ?_) (fun h67 => ?_)
                                    · refine gx_st (L' := [(2, 192), (0, w), (0, b), (0, 5), (0, 3)]) (S' := [(0, 0), (0, 5)]) r_205_77 rfl rfl rfl ?_
                                      refine gx_st (L' := [(2, 192), (0, w), (0, b), (0, 5), (0, 3)]) (S' := [(0, (ior 5 0))]) r_205_78 rfl rfl rfl ?_
                                      rw [show (ior 5 0) = 5 from by decide]
                                      refine gx_st (L' := [(2, 192), (0, w), (0, b), (0, 5), (0, 3)]) (S' := []) r_205_79 rfl rfl rfl ?_
                                      refine gx_li (z := 4) (L' := [(2, 192), (0, w), (0, b), (0, 5), (0, 4)]) r_205_80 rfl (w32_eq (by omega) (by omega) (by omega)) rfl ?_
                                      refine gx_st (L' := [(2, 192), (0, w), (0, b), (0, 5), (0, 4)]) (S' := []) r_205_83 rfl rfl rfl ?_
                                      refine gx_st (L' := [(2, 192), (0, w), (0, b), (0, 5), (0, 4)]) (S' := [(0, 4)]) r_205_32 rfl rfl rfl ?_
                                      refine gx_st (L' := [(2, 192), (0, w), (0, b), (0, 5), (0, 4)]) (S' := [(0, 4), (0, 4)]) r_205_34 rfl rfl rfl ?_
                                      refine gx_ic (P := 4 ≤ 4) r_205_35 (rfl) (fun h35 => ?_) (fun h35 => ?_)
                                      · refine gx_st (L' := [(2, 192), (0, w), (0, b), (0, 5), (0, 4)]) (S' := [(0, 5)]) r_205_86 rfl rfl rfl ?_
                                        exact gx_rt r_205_87 rfl rfl ⟨_, rfl, RestV_c ⟨fun _ => rest_s (by omega), fun z => by omega⟩, rfl⟩
                                      · omega
                                    · have h67 := Decidable.not_not.mp h67
                                      refine gx_st (L' := [(2, 192), (0, w), (0, b), (0, 5), (0, 3)]) (S' := [(0, 1), (0, 5)]) r_205_70 rfl rfl rfl ?_
                                      refine gx_st (L' := [(2, 192), (0, w), (0, b), (0, 5), (0, 3)]) (S' := [(0, 3), (0, 1), (0, 5)]) r_205_71 rfl rfl rfl ?_
                                      refine gx_st (L' := [(2, 192), (0, w), (0, b), (0, 5), (0, 3)]) (S' := [(0, (ishl 1 3)), (0, 5)]) r_205_73 rfl rfl rfl ?_
                                      rw [show (ishl 1 3) = 8 from by decide]
                                      refine gx_st (L' := [(2, 192), (0, w), (0, b), (0, 5), (0, 3)]) (S' := [(0, 8), (0, 5)]) r_205_74 rfl rfl rfl ?_
                                      refine gx_st (L' := [(2, 192), (0, w), (0, b), (0, 5), (0, 3)]) (S' := [(0, (ior 5 8))]) r_205_78 rfl rfl rfl ?_
                                      rw [show (ior 5 8) = 13 from by decide]
                                      refine gx_st (L' := [(2, 192), (0, w), (0, b), (0, 13), (0, 3)]) (S' := []) r_205_79 rfl rfl rfl ?_
                                      refine gx_li (z := 4) (L' := [(2, 192), (0, w), (0, b), (0, 13), (0, 4)]) r_205_80 rfl (w32_eq (by omega) (by omega) (by omega)) rfl ?_
                                      refine gx_st (L' := [(2, 192), (0, w), (0, b), (0, 13), (0, 4)]) (S' := []) r_205_83 rfl rfl rfl ?_
                                      refine gx_st (L' := [(2, 192), (0, w), (0, b), (0, 13), (0, 4)]) (S' := [(0, 4)]) r_205_32 rfl rfl rfl ?_
                                      refine gx_st (L' := [(2, 192), (0, w), (0, b), (0, 13), (0, 4)]) (S' := [(0, 4), (0, 4)]) r_205_34 rfl rfl rfl ?_
                                      refine gx_ic (P := 4 ≤ 4) r_205_35 (rfl) (fun h35 => ?_) (fun h35 => ?_)
                                      · refine gx_st (L' := [(2, 192), (0, w), (0, b), (0, 13), (0, 4)]) (S' := [(0, 13)]) r_205_86 rfl rfl rfl ?_
                                        exact gx_rt r_205_87 rfl rfl ⟨_, rfl, RestV_c ⟨fun _ => rest_s (by omega), fun z => by omega⟩, rfl⟩
                                      · omega
                                  · have h54 := Decidable.not_not.mp h54
                                    refine gx_st (L' := [(2, 192), (0, w), (0, b), (0, 5), (0, 3)]) (S' := [(0, 1), (0, 0), (0, 5)]) r_205_57 rfl rfl rfl ?_
                                    refine gx_st (L' := [(2, 192), (0, w), (0, b), (0, 5), (0, 3)]) (S' := [(0, 1), (0, 0), (0, 5)]) r_205_58 rfl rfl rfl ?_
                                    refine gx_st (L' := [(2, 192), (0, w), (0, b), (0, 5), (0, 3)]) (S' := [(0, w), (0, 1), (0, 0), (0, 5)]) r_205_62 rfl rfl rfl ?_
                                    refine gx_st (L' := [(2, 192), (0, w), (0, b), (0, 5), (0, 3)]) (S' := [(0, b), (0, w), (0, 1), (0, 0), (0, 5)]) r_205_63 rfl rfl rfl ?_
                                    refine gx_ci (nx := 67) (S2 := [(0, 5)]) (x_204_01 w b hw hb) r_205_64 rfl rfl rfl rfl rfl rfl rfl (by decide) rfl (fun x64 n64 q64 => ?_)
                                    obtain rfl := q64.1.symm
                                    obtain rfl := q64.2.symm
                                    show GX T 2 205 67 [(2, 192), (0, w), (0, b), (0, 5), (0, 3)] [(0, (if w ≤ 1 ∧ b / 2 ≤ 1 then 1 else 0)), (0, 5)] m (RI (fun v m1 => v = RestV w b ∧ m1 = m))
                                    refine gx_i0 (P := ¬ (w ≤ 1 ∧ b / 2 ≤ 1)) r_205_67 (b01_eq) (fun h67 => ?_) (fun h67 => ?_)
                                    · refine gx_st (L' := [(2, 192), (0, w), (0, b), (0, 5), (0, 3)]) (S' := [(0, 0), (0, 5)]) r_205_77 rfl rfl rfl ?_
                                      refine gx_st (L' := [(2, 192), (0, w), (0, b), (0, 5), (0, 3)]) (S' := [(0, (ior 5 0))]) r_205_78 rfl rfl rfl ?_
                                      rw [show (ior 5 0) = 5 from by decide]
                                      refine gx_st (L' := [(2, 192), (0, w), (0, b), (0, 5), (0, 3)]) (S' := []) r_205_79 rfl rfl rfl ?_
                                      refine gx_li (z := 4) (L' := [(2, 192), (0, w), (0, b), (0, 5), (0, 4)]) r_205_80 rfl (w32_eq (by omega) (by omega) (by omega)) rfl ?_
                                      refine gx_st (L' := [(2, 192), (0, w), (0, b), (0, 5), (0, 4)]) (S' := []) r_205_83 rfl rfl rfl ?_
                                      refine gx_st (L' := [(2, 192), (0, w), (0, b), (0, 5), (0, 4)]) (S' := [(0, 4)]) r_205_32 rfl rfl rfl ?_
                                      refine gx_st (L' := [(2, 192), (0, w), (0, b), (0, 5), (0, 4)]) (S' := [(0, 4), (0, 4)]) r_205_34 rfl rfl rfl ?_
                                      refine gx_ic (P := 4 ≤ 4) r_205_35 (rfl) (fun h35 => ?_) (fun h35 => ?_)
                                      · refine gx_st (L' := [(2, 192), (0, w), (0, b), (0, 5), (0, 4)]) (S' := [(0, 5)]) r_205_86 rfl rfl rfl ?_
                                        exact gx_rt r_205_87 rfl rfl ⟨_, rfl, RestV_c ⟨fun _ => rest_s (by omega), fun z => by omega⟩, rfl⟩
                                      · omega
                                    · have h67 := Decidable.not_not.mp h67
                                      refine gx_st (L' := [(2, 192), (0, w), (0, b), (0, 5), (0, 3)]) (S' := [(0, 1), (0, 5)]) r_205_70 rfl rfl rfl ?_
                                      refine gx_st (L' := [(2, 192), (0, w), (0, b), (0, 5), (0, 3)]) (S' := [(0, 3), (0, 1), (0, 5)]) r_205_71 rfl rfl rfl ?_
                                      refine gx_st (L' := [(2, 192), (0, w), (0, b), (0, 5), (0, 3)]) (S' := [(0, (ishl 1 3)), (0, 5)]) r_205_73 rfl rfl rfl ?_
                                      rw [show (ishl 1 3) = 8 from by decide]
                                      refine gx_st (L' := [(2, 192), (0, w), (0, b), (0, 5), (0, 3)]) (S' := [(0, 8), (0, 5)]) r_205_74 rfl rfl rfl ?_
                                      refine gx_st (L' := [(2, 192), (0, w), (0, b), (0, 5), (0, 3)]) (S' := [(0, (ior 5 8))]) r_205_78 rfl rfl rfl ?_
                                      rw [show (ior 5 8) = 13 from by decide]
                                      refine gx_st (L' := [(2, 192), (0, w), (0, b), (0, 13), (0, 3)]) (S' := []) r_205_79 rfl rfl rfl ?_
                                      refine gx_li (z := 4) (L' := [(2, 192), (0, w), (0, b), (0, 13), (0, 4)]) r_205_80 rfl (w32_eq (by omega) (by omega) (by omega)) rfl ?_
                                      refine gx_st (L' := [(2, 192), (0, w), (0, b), (0, 13), (0, 4)]) (S' := []) r_205_83 rfl rfl rfl ?_
                                      refine gx_st (L' := [(2, 192), (0, w), (0, b), (0, 13), (0, 4)]) (S' := [(0, 4)]) r_205_32 rfl rfl rfl ?_
                                      refine gx_st (L' := [(2, 192), (0, w), (0, b), (0, 13), (0, 4)]) (S' := [(0, 4), (0, 4)]) r_205_34 rfl rfl rfl ?_
                                      refine gx_ic (P := 4 ≤ 4) r_205_35 (rfl) (fun h35 => ?_) (fun h35 => ?_)
                                      · refine gx_st (L' := [(2, 192), (0, w), (0, b), (0, 13), (0, 4)]) (S' := [(0, 13)]) r_205_86 rfl rfl rfl ?_
                                        exact gx_rt r_205_87 rfl rfl ⟨_, rfl, RestV_c ⟨fun _ => rest_s (by omega), fun z => by omega⟩, rfl⟩
                                      · omega
                                · omega
                          · have h54 := Decidable.not_not.mp h54
                            refine gx_st (L' := [(2, 192), (0, w), (0, b), (0, 1), (0, 2)]) (S' := [(0, 1), (0, 0), (0, 1)]) r_205_57 rfl rfl rfl ?_
                            refine gx_st (L' := [(2, 192), (0, w), (0, b), (0, 1), (0, 2)]) (S' := [(0, 1), (0, 0), (0, 1)]) r_205_58 rfl rfl rfl ?_
                            refine gx_st (L' := [(2, 192), (0, w), (0, b), (0, 1), (0, 2)]) (S' := [(0, w), (0, 1), (0, 0), (0, 1)]) r_205_62 rfl rfl rfl ?_
                            refine gx_st (L' := [(2, 192), (0, w), (0, b), (0, 1), (0, 2)]) (S' := [(0, b), (0, w), (0, 1), (0, 0), (0, 1)]) r_205_63 rfl rfl rfl ?_
                            refine gx_ci (nx := 67) (S2 := [(0, 1)]) (x_204_01 w b hw hb) r_205_64 rfl rfl rfl rfl rfl rfl rfl (by decide) rfl (fun x64 n64 q64 => ?_)
                            obtain rfl := q64.1.symm
                            obtain rfl := q64.2.symm
                            show GX T 2 205 67 [(2, 192), (0, w), (0, b), (0, 1), (0, 2)] [(0, (if w ≤ 1 ∧ b / 2 ≤ 1 then 1 else 0)), (0, 1)] m (RI (fun v m1 => v = RestV w b ∧ m1 = m))
                            refine gx_i0 (P := ¬ (w ≤ 1 ∧ b / 2 ≤ 1)) r_205_67 (b01_eq) (fun h67 => ?_) (fun h67 => ?_)
                            · refine gx_st (L' := [(2, 192), (0, w), (0, b), (0, 1), (0, 2)]) (S' := [(0, 0), (0, 1)]) r_205_77 rfl rfl rfl ?_
                              refine gx_st (L' := [(2, 192), (0, w), (0, b), (0, 1), (0, 2)]) (S' := [(0, (ior 1 0))]) r_205_78 rfl rfl rfl ?_
                              rw [show (ior 1 0) = 1 from by decide]
                              refine gx_st (L' := [(2, 192), (0, w), (0, b), (0, 1), (0, 2)]) (S' := []) r_205_79 rfl rfl rfl ?_
                              refine gx_li (z := 3) (L' := [(2, 192), (0, w), (0, b), (0, 1), (0, 3)]) r_205_80 rfl (w32_eq (by omega) (by omega) (by omega)) rfl ?_
                              refine gx_st (L' := [(2, 192), (0, w), (0, b), (0, 1), (0, 3)]) (S' := []) r_205_83 rfl rfl rfl ?_
                              refine gx_st (L' := [(2, 192), (0, w), (0, b), (0, 1), (0, 3)]) (S' := [(0, 3)]) r_205_32 rfl rfl rfl ?_
                              refine gx_st (L' := [(2, 192), (0, w), (0, b), (0, 1), (0, 3)]) (S' := [(0, 4), (0, 3)]) r_205_34 rfl rfl rfl ?_
                              refine gx_ic (P := 4 ≤ 3) r_205_35 (rfl) (fun h35 => ?_) (fun h35 => ?_)
                              · omega
                              · refine gx_st (L' := [(2, 192), (0, w), (0, b), (0, 1), (0, 3)]) (S' := [(0, 1)]) r_205_38 rfl rfl rfl ?_
                                refine gx_st (L' := [(2, 192), (0, w), (0, b), (0, 1), (0, 3)]) (S' := [(0, 3), (0, 1)]) r_205_39 rfl rfl rfl ?_
                                refine gx_st (L' := [(2, 192), (0, w), (0, b), (0, 1), (0, 3)]) (S' := [(0, 2), (0, 3), (0, 1)]) r_205_41 rfl rfl rfl ?_
                                refine gx_ic (P := 2 ≤ 3) r_205_42 (rfl) (fun h42 => ?_) (fun h42 => ?_)
                                · refine gx_st (L' := [(2, 192), (0, w), (0, b), (0, 1), (0, 3)]) (S' := [(0, 0), (0, 1)]) r_205_49 rfl rfl rfl ?_
                                  refine gx_st (L' := [(2, 192), (0, w), (0, b), (0, 1), (0, 3)]) (S' := [(0, 3), (0, 0), (0, 1)]) r_205_50 rfl rfl rfl ?_
                                  refine gx_st (L' := [(2, 192), (0, w), (0, b), (0, 1), (0, 3)]) (S' := [(0, 2), (0, 3), (0, 0), (0, 1)]) r_205_52 rfl rfl rfl ?_
                                  refine gx_rm (z := (3 % 2)) r_205_53 (by decide) (tm_eq (by omega) rfl) ?_
                                  refine gx_i0 (P := ¬ (3 % 2) = 0) r_205_54 (rfl) (fun h54 => ?_) (fun h54 => ?_)
                                  · refine gx_st (L' := [(2, 192), (0, w), (0, b), (0, 1), (0, 3)]) (S' := [(0, 0), (0, 0), (0, 1)]) r_205_61 rfl rfl rfl ?_
                                    refine gx_st (L' := [(2, 192), (0, w), (0, b), (0, 1), (0, 3)]) (S' := [(0, w), (0, 0), (0, 0), (0, 1)]) r_205_62 rfl rfl rfl ?_
                                    refine gx_st (L' := [(2, 192), (0, w), (0, b), (0, 1), (0, 3)]) (S' := [(0, b), (0, w), (0, 0), (0, 0), (0, 1)]) r_205_63 rfl rfl rfl ?_
                                    refine gx_ci (nx := 67) (S2 := [(0, 1)]) (x_204_00 w b hw hb) r_205_64 rfl rfl rfl rfl rfl rfl rfl (by decide) rfl (fun x64 n64 q64 => ?_)
                                    obtain rfl := q64.1.symm
                                    obtain rfl := q64.2.symm
                                    show GX T 2 205 67 [(2, 192), (0, w), (0, b), (0, 1), (0, 3)] [(0, (if 1 ≤ b / 2 then 1 else 0)), (0, 1)] m (RI (fun v m1 => v = RestV w b ∧ m1 = m))
                                    refine gx_i0 (P := ¬ (1 ≤ b / 2)) r_205_67 (b01_eq) (fun h67 => ?_) (fun h67 => ?_)
                                    · refine gx_st (L' := [(2, 192), (0, w), (0, b), (0, 1), (0, 3)]) (S' := [(0, 0), (0, 1)]) r_205_77 rfl rfl rfl ?_
                                      refine gx_st (L' := [(2, 192), (0, w), (0, b), (0, 1), (0, 3)]) (S' := [(0, (ior 1 0))]) r_205_78 rfl rfl rfl ?_
                                      rw [show (ior 1 0) = 1 from by decide]
                                      refine gx_st (L' := [(2, 192), (0, w), (0, b), (0, 1), (0, 3)]) (S' := []) r_205_79 rfl rfl rfl ?_
                                      refine gx_li (z := 4) (L' := [(2, 192), (0, w), (0, b), (0, 1), (0, 4)]) r_205_80 rfl (w32_eq (by omega) (by omega) (by omega)) rfl ?_
                                      refine gx_st (L' := [(2, 192), (0, w), (0, b), (0, 1), (0, 4)]) (S' := []) r_205_83 rfl rfl rfl ?_
                                      refine gx_st (L' := [(2, 192), (0, w), (0, b), (0, 1), (0, 4)]) (S' := [(0, 4)]) r_205_32 rfl rfl rfl ?_
                                      refine gx_st (L' := [(2, 192), (0, w), (0, b), (0, 1), (0, 4)]) (S' := [(0, 4), (0, 4)]) r_205_34 rfl rfl rfl ?_
                                      refine gx_ic (P := 4 ≤ 4) r_205_35 (rfl) (fun h35 => ?_) (fun h35 => ?_)
                                      · refine gx_st (L' := [(2, 192), (0, w), (0, b), (0, 1), (0, 4)]) (S' := [(0, 1)]) r_205_86 rfl rfl rfl ?_
                                        exact gx_rt r_205_87 rfl rfl ⟨_, rfl, RestV_c ⟨fun _ => rest_s (by omega), fun z => by omega⟩, rfl⟩
                                      · omega
                                    · have h67 := Decidable.not_not.mp h67
                                      refine gx_st (L' := [(2, 192), (0, w), (0, b), (0, 1), (0, 3)]) (S' := [(0, 1), (0, 1)]) r_205_70 rfl rfl rfl ?_
                                      refine gx_st (L' := [(2, 192), (0, w), (0, b), (0, 1), (0, 3)]) (S' := [(0, 3), (0, 1), (0, 1)]) r_205_71 rfl rfl rfl ?_
                                      refine gx_st (L' := [(2, 192), (0, w), (0, b), (0, 1), (0, 3)]) (S' := [(0, (ishl 1 3)), (0, 1)]) r_205_73 rfl rfl rfl ?_
                                      rw [show (ishl 1 3) = 8 from by decide]
                                      refine gx_st (L' := [(2, 192), (0, w), (0, b), (0, 1), (0, 3)]) (S' := [(0, 8), (0, 1)]) r_205_74 rfl rfl rfl ?_
                                      refine gx_st (L' := [(2, 192), (0, w), (0, b), (0, 1), (0, 3)]) (S' := [(0, (ior 1 8))]) r_205_78 rfl rfl rfl ?_
                                      rw [show (ior 1 8) = 9 from by decide]
                                      refine gx_st (L' := [(2, 192), (0, w), (0, b), (0, 9), (0, 3)]) (S' := []) r_205_79 rfl rfl rfl ?_
                                      refine gx_li (z := 4) (L' := [(2, 192), (0, w), (0, b), (0, 9), (0, 4)]) r_205_80 rfl (w32_eq (by omega) (by omega) (by omega)) rfl ?_
                                      refine gx_st (L' := [(2, 192), (0, w), (0, b), (0, 9), (0, 4)]) (S' := []) r_205_83 rfl rfl rfl ?_
                                      refine gx_st (L' := [(2, 192), (0, w), (0, b), (0, 9), (0, 4)]) (S' := [(0, 4)]) r_205_32 rfl rfl rfl ?_
                                      refine gx_st (L' := [(2, 192), (0, w), (0, b), (0, 9), (0, 4)]) (S' := [(0, 4), (0, 4)]) r_205_34 rfl rfl rfl ?_
                                      refine gx_ic (P := 4 ≤ 4) r_205_35 (rfl) (fun h35 => ?_) (fun h35 => ?_)
                                      · refine gx_st (L' := [(2, 192), (0, w), (0, b), (0, 9), (0, 4)]) (S' := [(0, 9)]) r_205_86 rfl rfl rfl ?_
                                        exact gx_rt r_205_87 rfl rfl ⟨_, rfl, RestV_c ⟨fun _ => rest_s (by omega), fun z => by omega⟩, rfl⟩
                                      · omega
                                  · have h54 := Decidable.not_not.mp h54
                                    refine gx_st (L' := [(2, 192), (0, w), (0, b), (0, 1), (0, 3)]) (S' := [(0, 1), (0, 0), (0, 1)]) r_205_57 rfl rfl rfl ?_
                                    refine gx_st (L' := [(2, 192), (0, w), (0, b), (0, 1), (0, 3)]) (S' := [(0, 1), (0, 0), (0, 1)]) r_205_58 rfl rfl rfl ?_
                                    refine gx_st (L' := [(2, 192), (0, w), (0, b), (0, 1), (0, 3)]) (S' := [(0, w), (0, 1), (0, 0), (0, 1)]) r_205_62 rfl rfl rfl ?_
                                    refine gx_st (L' := [(2, 192), (0, w), (0, b), (0, 1), (0, 3)]) (S' := [(0, b), (0, w), (0, 1), (0, 0), (0, 1)]) r_205_63 rfl rfl rfl ?_
                                    refine gx_ci (nx := 67) (S2 := [(0, 1)]) (x_204_01 w b hw hb) r_205_64 rfl rfl rfl rfl rfl rfl rfl (by decide) rfl (fun x64 n64 q64 => ?_)
                                    obtain rfl := q64.1.symm
                                    obtain rfl := q64.2.symm
                                    show GX T 2 205 67 [(2, 192), (0, w), (0, b), (0, 1), (0, 3)] [(0, (if w ≤ 1 ∧ b / 2 ≤ 1 then 1 else 0)), (0, 1)] m (RI (fun v m1 => v = RestV w b ∧ m1 = m))
                                    refine gx_i0 (P := ¬ (w ≤ 1 ∧ b / 2 ≤ 1)) r_205_67 (b01_eq) (fun h67 => ?_) (fun h67 => ?_)
                                    · refine gx_st (L' := [(2, 192), (0, w), (0, b), (0, 1), (0, 3)]) (S' := [(0, 0), (0, 1)]) r_205_77 rfl rfl rfl ?_
                                      refine gx_st (L' := [(2, 192), (0, w), (0, b), (0, 1), (0, 3)]) (S' := [(0, (ior 1 0))]) r_205_78 rfl rfl rfl ?_
                                      rw [show (ior 1 0) = 1 from by decide]
                                      refine gx_st (L' := [(2, 192), (0, w), (0, b), (0, 1), (0, 3)]) (S' := []) r_205_79 rfl rfl rfl ?_
                                      refine gx_li (z := 4) (L' := [(2, 192), (0, w), (0, b), (0, 1), (0, 4)]) r_205_80 rfl (w32_eq (by omega) (by omega) (by omega)) rfl ?_
                                      refine gx_st (L' := [(2, 192), (0, w), (0, b), (0, 1), (0, 4)]) (S' := []) r_205_83 rfl rfl rfl ?_
                                      refine gx_st (L' := [(2, 192), (0, w), (0, b), (0, 1), (0, 4)]) (S' := [(0, 4)]) r_205_32 rfl rfl rfl ?_
                                      refine gx_st (L' := [(2, 192), (0, w), (0, b), (0, 1), (0, 4)]) (S' := [(0, 4), (0, 4)]) r_205_34 rfl rfl rfl ?_
                                      refine gx_ic (P := 4 ≤ 4) r_205_35 (rfl) (fun h35 => ?_) (fun h35 => ?_)
                                      · refine gx_st (L' := [(2, 192), (0, w), (0, b), (0, 1), (0, 4)]) (S' := [(0, 1)]) r_205_86 rfl rfl rfl ?_
                                        exact gx_rt r_205_87 rfl rfl ⟨_, rfl, RestV_c ⟨fun _ => rest_s (by omega), fun z => by omega⟩, rfl⟩
                                      · omega
                                    · have h67 := Decidable.not_not.mp h67
                                      refine gx_st (L' := [(2, 192), (0, w), (0, b), (0, 1), (0, 3)]) (S' := [(0, 1), (0, 1)]) r_205_70 rfl rfl rfl ?_
                                      refine gx_st (L' := [(2, 192), (0, w), (0, b), (0, 1), (0, 3)]) (S' := [(0, 3), (0, 1), (0, 1)]) r_205_71 rfl rfl rfl ?_
                                      refine gx_st (L' := [(2, 192), (0, w), (0, b), (0, 1), (0, 3)]) (S' := [(0, (ishl 1 3)), (0, 1)]) r_205_73 rfl rfl rfl ?_
                                      rw [show (ishl 1 3) = 8 from by decide]
                                      refine gx_st (L' := [(2, 192), (0, w), (0, b), (0, 1), (0, 3)]) (S' := [(0, 8), (0, 1)]) r_205_74 rfl rfl rfl ?_
                                      refine gx_st (L' := [(2, 192), (0, w), (0, b), (0, 1), (0, 3)]) (S' := [(0, (ior 1 8))]) r_205_78 rfl rfl rfl ?_
                                      rw [show (ior 1 8) = 9 from by decide]
                                      refine gx_st (L' := [(2, 192), (0, w), (0, b), (0, 9), (0, 3)]) (S' := []) r_205_79 rfl rfl rfl ?_
                                      refine gx_li (z := 4) (L' := [(2, 192), (0, w), (0, b), (0, 9), (0, 4)]) r_205_80 rfl (w32_eq (by omega) (by omega) (by omega)) rfl ?_
                                      refine gx_st (L' := [(2, 192), (0, w), (0, b), (0, 9), (0, 4)]) (S' := []) r_205_83 rfl rfl rfl ?_
                                      refine gx_st (L' := [(2, 192), (0, w), (0, b), (0, 9), (0, 4)]) (S' := [(0, 4)]) r_205_32 rfl rfl rfl ?_
                                      refine gx_st (L' := [(2, 192), (0, w), (0, b), (0, 9), (0, 4)]) (S' := [(0, 4), (0, 4)]) r_205_34 rfl rfl rfl ?_
                                      refine gx_ic (P := 4 ≤ 4) r_205_35 (rfl) (fun h35 => ?_) (fun h35 => ?_)
                                      · refine gx_st (L' := [(2, 192), (0, w), (0, b), (0, 9), (0, 4)]) (S' := [(0, 9)]) r_205_86 rfl rfl rfl ?_
                                        exact gx_rt r_205_87 rfl rfl ⟨_, rfl, RestV_c ⟨fun _ => rest_s (by omega), fun z => by omega⟩, rfl⟩
                                      · omega
                                · omega
                            · have h67 := Decidable.not_not.mp h67
                              refine gx_st (L' := [(2, 192), (0, w), (0, b), (0, 1), (0, 2)]) (S' := [(0, 1), (0, 1)]) r_205_70 rfl rfl rfl ?_
                              refine gx_st (L' := [(2, 192), (0, w), (0, b), (0, 1), (0, 2)]) (S' := [(0, 2), (0, 1), (0, 1)]) r_205_71 rfl rfl rfl ?_
                              refine gx_st (L' := [(2, 192), (0, w), (0, b), (0, 1), (0, 2)]) (S' := [(0, (ishl 1 2)), (0, 1)]) r_205_73 rfl rfl rfl ?_
                              rw [show (ishl 1 2) = 4 from by decide]
                              refine gx_st (L' := [(2, 192), (0, w), (0, b), (0, 1), (0, 2)]) (S' := [(0, 4), (0, 1)]) r_205_74 rfl rfl rfl ?_
                              refine gx_st (L' := [(2, 192), (0, w), (0, b), (0, 1), (0, 2)]) (S' := [(0, (ior 1 4))]) r_205_78 rfl rfl rfl ?_
                              rw [show (ior 1 4) = 5 from by decide]
                              refine gx_st (L' := [(2, 192), (0, w), (0, b), (0, 5), (0, 2)]) (S' := []) r_205_79 rfl rfl rfl ?_
                              refine gx_li (z := 3) (L' := [(2, 192), (0, w), (0, b), (0, 5), (0, 3)]) r_205_80 rfl (w32_eq (by omega) (by omega) (by omega)) rfl ?_
                              refine gx_st (L' := [(2, 192), (0, w), (0, b), (0, 5), (0, 3)]) (S' := []) r_205_83 rfl rfl rfl ?_
                              refine gx_st (L' := [(2, 192), (0, w), (0, b), (0, 5), (0, 3)]) (S' := [(0, 3)]) r_205_32 rfl rfl rfl ?_
                              refine gx_st (L' := [(2, 192), (0, w), (0, b), (0, 5), (0, 3)]) (S' := [(0, 4), (0, 3)]) r_205_34 rfl rfl rfl ?_
                              refine gx_ic (P := 4 ≤ 3) r_205_35 (rfl) (fun h35 => ?_) (fun h35 => ?_)
                              · omega
                              · refine gx_st (L' := [(2, 192), (0, w), (0, b), (0, 5), (0, 3)]) (S' := [(0, 5)]) r_205_38 rfl rfl rfl ?_
                                refine gx_st (L' := [(2, 192), (0, w), (0, b), (0, 5), (0, 3)]) (S' := [(0, 3), (0, 5)]) r_205_39 rfl rfl rfl ?_
                                refine gx_st (L' := [(2, 192), (0, w), (0, b), (0, 5), (0, 3)]) (S' := [(0, 2), (0, 3), (0, 5)]) r_205_41 rfl rfl rfl ?_
                                refine gx_ic (P := 2 ≤ 3) r_205_42 (rfl) (fun h42 => ?_) (fun h42 => ?_)
                                · refine gx_st (L' := [(2, 192), (0, w), (0, b), (0, 5), (0, 3)]) (S' := [(0, 0), (0, 5)]) r_205_49 rfl rfl rfl ?_
                                  refine gx_st (L' := [(2, 192), (0, w), (0, b), (0, 5), (0, 3)]) (S' := [(0, 3), (0, 0), (0, 5)]) r_205_50 rfl rfl rfl ?_
                                  refine gx_st (L' := [(2, 192), (0, w), (0, b), (0, 5), (0, 3)]) (S' := [(0, 2), (0, 3), (0, 0), (0, 5)]) r_205_52 rfl rfl rfl ?_
                                  refine gx_rm (z := (3 % 2)) r_205_53 (by decide) (tm_eq (by omega) rfl) ?_
                                  refine gx_i0 (P := ¬ (3 % 2) = 0) r_205_54 (rfl) (fun h54 => ?_) (fun h54 => ?_)
                                  · refine gx_st (L' := [(2, 192), (0, w), (0, b), (0, 5), (0, 3)]) (S' := [(0, 0), (0, 0), (0, 5)]) r_205_61 rfl rfl rfl ?_
                                    refine gx_st (L' := [(2, 192), (0, w), (0, b), (0, 5), (0, 3)]) (S' := [(0, w), (0, 0), (0, 0), (0, 5)]) r_205_62 rfl rfl rfl ?_
                                    refine gx_st (L' := [(2, 192), (0, w), (0, b), (0, 5), (0, 3)]) (S' := [(0, b), (0, w), (0, 0), (0, 0), (0, 5)]) r_205_63 rfl rfl rfl ?_
                                    refine gx_ci (nx := 67) (S2 := [(0, 5)]) (x_204_00 w b hw hb) r_205_64 rfl rfl rfl rfl rfl rfl rfl (by decide) rfl (fun x64 n64 q64 => ?_)
                                    obtain rfl := q64.1.symm
                                    obtain rfl := q64.2.symm
                                    show GX T 2 205 67 [(2, 192), (0, w), (0, b), (0, 5), (0, 3)] [(0, (if 1 ≤ b / 2 then 1 else 0)), (0, 5)] m (RI (fun v m1 => v = RestV w b ∧ m1 = m))
                                    refine gx_i0 (P := ¬ (1 ≤ b / 2)) r_205_67 (b01_eq) (fun h67 => ?_) (fun h67 => ?_)
                                    · refine gx_st (L' := [(2, 192), (0, w), (0, b), (0, 5), (0, 3)]) (S' := [(0, 0), (0, 5)]) r_205_77 rfl rfl rfl ?_
                                      refine gx_st (L' := [(2, 192), (0, w), (0, b), (0, 5), (0, 3)]) (S' := [(0, (ior 5 0))]) r_205_78 rfl rfl rfl ?_
                                      rw [show (ior 5 0) = 5 from by decide]
                                      refine gx_st (L' := [(2, 192), (0, w), (0, b), (0, 5), (0, 3)]) (S' := []) r_205_79 rfl rfl rfl ?_
                                      refine gx_li (z := 4) (L' := [(2, 192), (0, w), (0, b), (0, 5), (0, 4)]) r_205_80 rfl (w32_eq (by omega) (by omega) (by omega)) rfl ?_
                                      refine gx_st (L' := [(2, 192), (0, w), (0, b), (0, 5), (0, 4)]) (S' := []) r_205_83 rfl rfl rfl ?_
                                      refine gx_st (L' := [(2, 192), (0, w), (0, b), (0, 5), (0, 4)]) (S' := [(0, 4)]) r_205_32 rfl rfl rfl ?_
                                      refine gx_st (L' := [(2, 192), (0, w), (0, b), (0, 5), (0, 4)]) (S' := [(0, 4), (0, 4)]) r_205_34 rfl rfl rfl ?_
                                      refine gx_ic (P := 4 ≤ 4) r_205_35 (rfl) (fun h35 => ?_) (fun h35 => ?_)
                                      · refine gx_st (L' := [(2, 192), (0, w), (0, b), (0, 5), (0, 4)]) (S' := [(0, 5)]) r_205_86 rfl rfl rfl ?_
                                        exact gx_rt r_205_87 rfl rfl ⟨_, rfl, RestV_c ⟨fun _ => rest_s (by omega), fun z => by omega⟩, rfl⟩
                                      · omega
                                    · have h67 := Decidable.not_not.mp h67
                                      refine gx_st (L' := [(2, 192), (0, w), (0, b), (0, 5), (0, 3)]) (S' := [(0, 1), (0, 5)]) r_205_70 rfl rfl rfl ?_
                                      refine gx_st (L' := [(2, 192), (0, w), (0, b), (0, 5), (0, 3)]) (S' := [(0, 3), (0, 1), (0, 5)]) r_205_71 rfl rfl rfl ?_
                                      refine gx_st (L' := [(2, 192), (0, w), (0, b), (0, 5), (0, 3)]) (S' := [(0, (ishl 1 3)), (0, 5)]) r_205_73 rfl rfl rfl ?_
                                      rw [show (ishl 1 3) = 8 from by decide]
                                      refine gx_st (L' := [(2, 192), (0, w), (0, b), (0, 5), (0, 3)]) (S' := [(0, 8), (0, 5)]) r_205_74 rfl rfl rfl ?_
                                      refine gx_st (L' := [(2, 192), (0, w), (0, b), (0, 5), (0, 3)]) (S' := [(0, (ior 5 8))]) r_205_78 rfl rfl rfl ?_
                                      rw [show (ior 5 8) = 13 from by decide]
                                      refine gx_st (L' := [(2, 192), (0, w), (0, b), (0, 13), (0, 3)]) (S' := []) r_205_79 rfl rfl rfl ?_
                                      refine gx_li (z := 4) (L' := [(2, 192), (0, w), (0, b), (0, 13), (0, 4)]) r_205_80 rfl (w32_eq (by omega) (by omega) (by omega)) rfl ?_
                                      refine gx_st (L' := [(2, 192), (0, w), (0, b), (0, 13), (0, 4)]) (S' := []) r_205_83 rfl rfl rfl ?_
                                      refine gx_st (L' := [(2, 192), (0, w), (0, b), (0, 13), (0, 4)]) (S' := [(0, 4)]) r_205_32 rfl rfl rfl ?_
                                      refine gx_st (L' := [(2, 192), (0, w), (0, b), (0, 13), (0, 4)]) (S' := [(0, 4), (0, 4)]) r_205_34 rfl rfl rfl ?_
                                      refine gx_ic (P := 4 ≤ 4) r_205_35 (rfl) (fun h35 => ?_) (fun h35 => ?_)
                                      · refine gx_st (L' := [(2, 192), (0, w), (0, b), (0, 13), (0, 4)]) (S' := [(0, 13)]) r_205_86 rfl rfl rfl ?_
                                        exact gx_rt r_205_87 rfl rfl ⟨_, rfl, RestV_c ⟨fun _ => rest_s (by omega), fun z => by omega⟩, rfl⟩
                                      · omega
                                  · have h54 := Decidable.not_not.mp h54
                                    refine gx_st (L' := [(2, 192), (0, w), (0, b), (0, 5), (0, 3)]) (S' := [(0, 1), (0, 0), (0, 5)]) r_205_57 rfl rfl rfl ?_
                                    refine gx_st (L' := [(2, 192), (0, w), (0, b), (0, 5), (0, 3)]) (S' := [(0, 1), (0, 0), (0, 5)]) r_205_58 rfl rfl rfl ?_
                                    refine gx_st (L' := [(2, 192), (0, w), (0, b), (0, 5), (0, 3)]) (S' := [(0, w), (0, 1), (0, 0), (0, 5)]) r_205_62 rfl rfl rfl ?_
                                    refine gx_st (L' := [(2, 192), (0, w), (0, b), (0, 5), (0, 3)]) (S' := [(0, b), (0, w), (0, 1), (0, 0), (0, 5)]) r_205_63 rfl rfl rfl ?_
                                    refine gx_ci (nx := 67) (S2 := [(0, 5)]) (x_204_01 w b hw hb) r_205_64 rfl rfl rfl rfl rfl rfl rfl (by decide) rfl (fun x64 n64 q64 => ?_)
                                    obtain rfl := q64.1.symm
                                    obtain rfl := q64.2.symm
                                    show GX T 2 205 67 [(2, 192), (0, w), (0, b), (0, 5), (0, 3)] [(0, (if w ≤ 1 ∧ b / 2 ≤ 1 then 1 else 0)), (0, 5)] m (RI (fun v m1 => v = RestV w b ∧ m1 = m))
                                    refine gx_i0 (P := ¬ (w ≤ 1 ∧ b / 2 ≤ 1)) r_205_67 (b01_eq) (fun h67 => ?_) (fun h67 => ?_)
                                    · refine gx_st (L' := [(2, 192), (0, w), (0, b), (0, 5), (0, 3)]) (S' := [(0, 0), (0, 5)]) r_205_77 rfl rfl rfl ?_
                                      refine gx_st (L' := [(2, 192), (0, w), (0, b), (0, 5), (0, 3)]) (S' := [(0, (ior 5 0))]) r_205_78 rfl rfl rfl ?_
                                      rw [show (ior 5 0) = 5 from by decide]
                                      refine gx_st (L' := [(2, 192), (0, w), (0, b), (0, 5), (0, 3)]) (S' := []) r_205_79 rfl rfl rfl ?_
                                      refine gx_li (z := 4) (L' := [(2, 192), (0, w), (0, b), (0, 5), (0, 4)]) r_205_80 rfl (w32_eq (by omega) (by omega) (by omega)) rfl ?_
                                      refine gx_st (L' := [(2, 192), (0, w), (0, b), (0, 5), (0, 4)]) (S' := []) r_205_83 rfl rfl rfl ?_
                                      refine gx_st (L' := [(2, 192), (0, w), (0, b), (0, 5), (0, 4)]) (S' := [(0, 4)]) r_205_32 rfl rfl rfl ?_
                                      refine gx_st (L' := [(2, 192), (0, w), (0, b), (0, 5), (0, 4)]) (S' := [(0, 4), (0, 4)]) r_205_34 rfl rfl rfl ?_
                                      refine gx_ic (P := 4 ≤ 4) r_205_35 (rfl) (fun h35 => ?_) (fun h35 => ?_)
                                      · refine gx_st (L' := [(2, 192), (0, w), (0, b), (0, 5), (0, 4)]) (S' := [(0, 5)]) r_205_86 rfl rfl rfl ?_
                                        exact gx_rt r_205_87 rfl rfl ⟨_, rfl, RestV_c ⟨fun _ => rest_s (by omega), fun z => by omega⟩, rfl⟩
                                      · omega
                                    · have h67 := Decidable.not_not.mp h67
                                      refine gx_st (L' := [(2, 192), (0, w), (0, b), (0, 5), (0, 3)]) (S' := [(0, 1), (0, 5)]) r_205_70 rfl rfl rfl ?_
                                      refine gx_st (L' := [(2, 192), (0, w), (0, b), (0, 5), (0, 3)]) (S' := [(0, 3), (0, 1), (0, 5)]) r_205_71 rfl rfl rfl ?_
                                      refine gx_st (L' := [(2, 192), (0, w), (0, b), (0, 5), (0, 3)]) (S' := [(0, (ishl 1 3)), (0, 5)]) r_205_73 rfl rfl rfl ?_
                                      rw [show (ishl 1 3) = 8 from by decide]
                                      refine gx_st (L' := [(2, 192), (0, w), (0, b), (0, 5), (0, 3)]) (S' := [(0, 8), (0, 5)]) r_205_74 rfl rfl rfl ?_
                                      refine gx_st (L' := [(2, 192), (0, w), (0, b), (0, 5), (0, 3)]) (S' := [(0, (ior 5 8))]) r_205_78 rfl rfl rfl ?_
                                      rw [show (ior 5 8) = 13 from by decide]
                                      refine gx_st (L' := [(2, 192), (0, w), (0, b), (0, 13), (0, 3)]) (S' := []) r_205_79 rfl rfl rfl ?_
                                      refine gx_li (z := 4) (L' := [(2, 192), (0, w), (0, b), (0, 13), (0, 4)]) r_205_80 rfl (w32_eq (by omega) (by omega) (by omega)) rfl ?_
                                      refine gx_st (L' := [(2, 192), (0, w), (0, b), (0, 13), (0, 4)]) (S' := []) r_205_83 rfl rfl rfl ?_
                                      refine gx_st (L' := [(2, 192), (0, w), (0, b), (0, 13), (0, 4)]) (S' := [(0, 4)]) r_205_32 rfl rfl rfl ?_
                                      refine gx_st (L' := [(2, 192), (0, w), (0, b), (0, 13), (0, 4)]) (S' := [(0, 4), (0, 4)]) r_205_34 rfl rfl rfl ?_
                                      refine gx_ic (P := 4 ≤ 4) r_205_35 (rfl) (fun h35 => ?_) (fun h35 => ?_)
                                      · refine gx_st (L' := [(2, 192), (0, w), (0, b), (0, 13), (0, 4)]) (S' := [(0, 13)]) r_205_86 rfl rfl rfl ?_
                                        exact gx_rt r_205_87 rfl rfl ⟨_, rfl, RestV_c ⟨fun _ => rest_s (by omega), fun z => by omega⟩, rfl⟩
                                      · omega
                                · omega
                        · omega
                    · have h67 := Decidable.not_not.mp h67
                      refine gx_st (L' := [(2, 192), (0, w), (0, b), (0, 1), (0, 1)]) (S' := [(0, 1), (0, 1)]) r_205_70 rfl rfl rfl ?_
                      refine gx_st (L' := [(2, 192), (0, w), (0, b), (0, 1), (0, 1)]) (S' := [(0, 1), (0, 1), (0, 1)]) r_205_71 rfl rfl rfl ?_
                      refine gx_st (L' := [(2, 192), (0, w), (0, b), (0, 1), (0, 1)]) (S' := [(0, (ishl 1 1)), (0, 1)]) r_205_73 rfl rfl rfl ?_
                      rw [show (ishl 1 1) = 2 from by decide]
                      refine gx_st (L' := [(2, 192), (0, w), (0, b), (0, 1), (0, 1)]) (S' := [(0, 2), (0, 1)]) r_205_74 rfl rfl rfl ?_
                      refine gx_st (L' := [(2, 192), (0, w), (0, b), (0, 1), (0, 1)]) (S' := [(0, (ior 1 2))]) r_205_78 rfl rfl rfl ?_
                      rw [show (ior 1 2) = 3 from by decide]
                      refine gx_st (L' := [(2, 192), (0, w), (0, b), (0, 3), (0, 1)]) (S' := []) r_205_79 rfl rfl rfl ?_
                      refine gx_li (z := 2) (L' := [(2, 192), (0, w), (0, b), (0, 3), (0, 2)]) r_205_80 rfl (w32_eq (by omega) (by omega) (by omega)) rfl ?_
                      refine gx_st (L' := [(2, 192), (0, w), (0, b), (0, 3), (0, 2)]) (S' := []) r_205_83 rfl rfl rfl ?_
                      refine gx_st (L' := [(2, 192), (0, w), (0, b), (0, 3), (0, 2)]) (S' := [(0, 2)]) r_205_32 rfl rfl rfl ?_
                      refine gx_st (L' := [(2, 192), (0, w), (0, b), (0, 3), (0, 2)]) (S' := [(0, 4), (0, 2)]) r_205_34 rfl rfl rfl ?_
                      refine gx_ic (P := 4 ≤ 2) r_205_35 (rfl) (fun h35 => ?_) (fun h35 => ?_)
                      · omega
                      · refine gx_st (L' := [(2, 192), (0, w), (0, b), (0, 3), (0, 2)]) (S' := [(0, 3)]) r_205_38 rfl rfl rfl ?_
                        refine gx_st (L' := [(2, 192), (0, w), (0, b), (0, 3), (0, 2)]) (S' := [(0, 2), (0, 3)]) r_205_39 rfl rfl rfl ?_
                        refine gx_st (L' := [(2, 192), (0, w), (0, b), (0, 3), (0, 2)]) (S' := [(0, 2), (0, 2), (0, 3)]) r_205_41 rfl rfl rfl ?_
                        refine gx_ic (P := 2 ≤ 2) r_205_42 (rfl) (fun h42 => ?_) (fun h42 => ?_)
                        · refine gx_st (L' := [(2, 192), (0, w), (0, b), (0, 3), (0, 2)]) (S' := [(0, 0), (0, 3)]) r_205_49 rfl rfl rfl ?_
                          refine gx_st (L' := [(2, 192), (0, w), (0, b), (0, 3), (0, 2)]) (S' := [(0, 2), (0, 0), (0, 3)]) r_205_50 rfl rfl rfl ?_
                          refine gx_st (L' := [(2, 192), (0, w), (0, b), (0, 3), (0, 2)]) (S' := [(0, 2), (0, 2), (0, 0), (0, 3)]) r_205_52 rfl rfl rfl ?_
                          refine gx_rm (z := (2 % 2)) r_205_53 (by decide) (tm_eq (by omega) rfl) ?_
                          refine gx_i0 (P := ¬ (2 % 2) = 0) r_205_54 (rfl) (fun h54 => ?_) (fun h54 => ?_)
                          · refine gx_st (L' := [(2, 192), (0, w), (0, b), (0, 3), (0, 2)]) (S' := [(0, 0), (0, 0), (0, 3)]) r_205_61 rfl rfl rfl ?_
                            refine gx_st (L' := [(2, 192), (0, w), (0, b), (0, 3), (0, 2)]) (S' := [(0, w), (0, 0), (0, 0), (0, 3)]) r_205_62 rfl rfl rfl ?_
                            refine gx_st (L' := [(2, 192), (0, w), (0, b), (0, 3), (0, 2)]) (S' := [(0, b), (0, w), (0, 0), (0, 0), (0, 3)]) r_205_63 rfl rfl rfl ?_
                            refine gx_ci (nx := 67) (S2 := [(0, 3)]) (x_204_00 w b hw hb) r_205_64 rfl rfl rfl rfl rfl rfl rfl (by decide) rfl (fun x64 n64 q64 => ?_)
                            obtain rfl := q64.1.symm
                            obtain rfl := q64.2.symm
                            show GX T 2 205 67 [(2, 192), (0, w), (0, b), (0, 3), (0, 2)] [(0, (if 1 ≤ b / 2 then 1 else 0)), (0, 3)] m (RI (fun v m1 => v = RestV w b ∧ m1 = m))
                            refine gx_i0 (P := ¬ (1 ≤ b / 2)) r_205_67 (b01_eq) (fun h67 => ?_) (fun h67 => ?_)
                            · refine gx_st (L' := [(2, 192), (0, w), (0, b), (0, 3), (0, 2)]) (S' := [(0, 0), (0, 3)]) r_205_77 rfl rfl rfl ?_
                              refine gx_st (L' := [(2, 192), (0, w), (0, b), (0, 3), (0, 2)]) (S' := [(0, (ior 3 0))]) r_205_78 rfl rfl rfl ?_
                              rw [show (ior 3 0) = 3 from by decide]
                              refine gx_st (L' := [(2, 192), (0, w), (0, b), (0, 3), (0, 2)]) (S' := []) r_205_79 rfl rfl rfl ?_
                              refine gx_li (z := 3) (L' := [(2, 192), (0, w), (0, b), (0, 3), (0, 3)]) r_205_80 rfl (w32_eq (by omega) (by omega) (by omega)) rfl ?_
                              refine gx_st (L' := [(2, 192), (0, w), (0, b), (0, 3), (0, 3)]) (S' := []) r_205_83 rfl rfl rfl ?_
                              refine gx_st (L' := [(2, 192), (0, w), (0, b), (0, 3), (0, 3)]) (S' := [(0, 3)]) r_205_32 rfl rfl rfl ?_
                              refine gx_st (L' := [(2, 192), (0, w), (0, b), (0, 3), (0, 3)]) (S' := [(0, 4), (0, 3)]) r_205_34 rfl rfl rfl ?_
                              refine gx_ic (P := 4 ≤ 3) r_205_35 (rfl) (fun h35 => ?_) (fun h35 => ?_)
                              · omega
                              · refine gx_st (L' := [(2, 192), (0, w), (0, b), (0, 3), (0, 3)]) (S' := [(0, 3)]) r_205_38 rfl rfl rfl ?_
                                refine gx_st (L' := [(2, 192), (0, w), (0, b), (0, 3), (0, 3)]) (S' := [(0, 3), (0, 3)]) r_205_39 rfl rfl rfl ?_
                                refine gx_st (L' := [(2, 192), (0, w), (0, b), (0, 3), (0, 3)]) (S' := [(0, 2), (0, 3), (0, 3)]) r_205_41 rfl rfl rfl ?_
                                refine gx_ic (P := 2 ≤ 3) r_205_42 (rfl) (fun h42 => ?_) (fun h42 => ?_)
                                · refine gx_st (L' := [(2, 192), (0, w), (0, b), (0, 3), (0, 3)]) (S' := [(0, 0), (0, 3)]) r_205_49 rfl rfl rfl ?_
                                  refine gx_st (L' := [(2, 192), (0, w), (0, b), (0, 3), (0, 3)]) (S' := [(0, 3), (0, 0), (0, 3)]) r_205_50 rfl rfl rfl ?_
                                  refine gx_st (L' := [(2, 192), (0, w), (0, b), (0, 3), (0, 3)]) (S' := [(0, 2), (0, 3), (0, 0), (0, 3)]) r_205_52 rfl rfl rfl ?_
                                  refine gx_rm (z := (3 % 2)) r_205_53 (by decide) (tm_eq (by omega) rfl) ?_
                                  refine gx_i0 (P := ¬ (3 % 2) = 0) r_205_54 (rfl) (fun h54 => ?_) (fun h54 => ?_)
                                  · refine gx_st (L' := [(2, 192), (0, w), (0, b), (0, 3), (0, 3)]) (S' := [(0, 0), (0, 0), (0, 3)]) r_205_61 rfl rfl rfl ?_
                                    refine gx_st (L' := [(2, 192), (0, w), (0, b), (0, 3), (0, 3)]) (S' := [(0, w), (0, 0), (0, 0), (0, 3)]) r_205_62 rfl rfl rfl ?_
                                    refine gx_st (L' := [(2, 192), (0, w), (0, b), (0, 3), (0, 3)]) (S' := [(0, b), (0, w), (0, 0), (0, 0), (0, 3)]) r_205_63 rfl rfl rfl ?_
                                    refine gx_ci (nx := 67) (S2 := [(0, 3)]) (x_204_00 w b hw hb) r_205_64 rfl rfl rfl rfl rfl rfl rfl (by decide) rfl (fun x64 n64 q64 => ?_)
                                    obtain rfl := q64.1.symm
                                    obtain rfl := q64.2.symm
                                    show GX T 2 205 67 [(2, 192), (0, w), (0, b), (0, 3), (0, 3)] [(0, (if 1 ≤ b / 2 then 1 else 0)), (0, 3)] m (RI (fun v m1 => v = RestV w b ∧ m1 = m))
                                    refine gx_i0 (P := ¬ (1 ≤ b / 2)) r_205_67 (b01_eq) (fun h67 => ?_) (fun h67 => ?_)
                                    · refine gx_st (L' := [(2, 192), (0, w), (0, b), (0, 3), (0, 3)]) (S' := [(0, 0), (0, 3)]) r_205_77 rfl rfl rfl ?_
                                      refine gx_st (L' := [(2, 192), (0, w), (0, b), (0, 3), (0, 3)]) (S' := [(0, (ior 3 0))]) r_205_78 rfl rfl rfl ?_
                                      rw [show (ior 3 0) = 3 from by decide]
                                      refine gx_st (L' := [(2, 192), (0, w), (0, b), (0, 3), (0, 3)]) (S' := []) r_205_79 rfl rfl rfl ?_
                                      refine gx_li (z := 4) (L' := [(2, 192), (0, w), (0, b), (0, 3), (0, 4)]) r_205_80 rfl (w32_eq (by omega) (by omega) (by omega)) rfl ?_
                                      refine gx_st (L' := [(2, 192), (0, w), (0, b), (0, 3), (0, 4)]) (S' := []) r_205_83 rfl rfl rfl ?_
                                      refine gx_st (L' := [(2, 192), (0, w), (0, b), (0, 3), (0, 4)]) (S' := [(0, 4)]) r_205_32 rfl rfl rfl ?_
                                      refine gx_st (L' := [(2, 192), (0, w), (0, b), (0, 3), (0, 4)]) (S' := [(0, 4), (0, 4)]) r_205_34 rfl rfl rfl ?_
                                      refine gx_ic (P := 4 ≤ 4) r_205_35 (rfl) (fun h35 => ?_) (fun h35 => ?_)
                                      · refine gx_st (L' := [(2, 192), (0, w), (0, b), (0, 3), (0, 4)]) (S' := [(0, 3)]) r_205_86 rfl rfl rfl ?_
                                        exact gx_rt r_205_87 rfl rfl ⟨_, rfl, RestV_c ⟨fun _ => rest_s (by omega), fun z => by omega⟩, rfl⟩
                                      · omega
                                    · have h67 := Decidable.not_not.mp h67
                                      refine gx_st (L' := [(2, 192), (0, w), (0, b), (0, 3), (0, 3)]) (S' := [(0, 1), (0, 3)]) r_205_70 rfl rfl rfl ?_
                                      refine gx_st (L' := [(2, 192), (0, w), (0, b), (0, 3), (0, 3)]) (S' := [(0, 3), (0, 1), (0, 3)]) r_205_71 rfl rfl rfl ?_
                                      refine gx_st (L' := [(2, 192), (0, w), (0, b), (0, 3), (0, 3)]) (S' := [(0, (ishl 1 3)), (0, 3)]) r_205_73 rfl rfl rfl ?_
                                      rw [show (ishl 1 3) = 8 from by decide]
                                      refine gx_st (L' := [(2, 192), (0, w), (0, b), (0, 3), (0, 3)]) (S' := [(0, 8), (0, 3)]) r_205_74 rfl rfl rfl ?_
                                      refine gx_st (L' := [(2, 192), (0, w), (0, b), (0, 3), (0, 3)]) (S' := [(0, (ior 3 8))]) r_205_78 rfl rfl rfl ?_
                                      rw [show (ior 3 8) = 11 from by decide]
                                      refine gx_st (L' := [(2, 192), (0, w), (0, b), (0, 11), (0, 3)]) (S' := []) r_205_79 rfl rfl rfl ?_
                                      refine gx_li (z := 4) (L' := [(2, 192), (0, w), (0, b), (0, 11), (0, 4)]) r_205_80 rfl (w32_eq (by omega) (by omega) (by omega)) rfl ?_
                                      refine gx_st (L' := [(2, 192), (0, w), (0, b), (0, 11), (0, 4)]) (S' := []) r_205_83 rfl rfl rfl ?_
                                      refine gx_st (L' := [(2, 192), (0, w), (0, b), (0, 11), (0, 4)]) (S' := [(0, 4)]) r_205_32 rfl rfl rfl ?_
                                      refine gx_st (L' := [(2, 192), (0, w), (0, b), (0, 11), (0, 4)]) (S' := [(0, 4), (0, 4)]) r_205_34 rfl rfl rfl ?_
                                      refine gx_ic (P := 4 ≤ 4) r_205_35 (rfl) (fun h35 => ?_) (fun h35 => ?_)
                                      · refine gx_st (L' := [(2, 192), (0, w), (0, b), (0, 11), (0, 4)]) (S' := [(0, 11)]) r_205_86 rfl rfl rfl ?_
                                        exact gx_rt r_205_87 rfl rfl ⟨_, rfl, RestV_c ⟨fun _ => rest_s (by omega), fun z => by omega⟩, rfl⟩
                                      · omega
                                  · have h54 := Decidable.not_not.mp h54
                                    refine gx_st (L' := [(2, 192), (0, w), (0, b), (0, 3), (0, 3)]) (S' := [(0, 1), (0, 0), (0, 3)]) r_205_57 rfl rfl rfl ?_
                                    refine gx_st (L' := [(2, 192), (0, w), (0, b), (0, 3), (0, 3)]) (S' := [(0, 1), (0, 0), (0, 3)]) r_205_58 rfl rfl rfl ?_
                                    refine gx_st (L' := [(2, 192), (0, w), (0, b), (0, 3), (0, 3)]) (S' := [(0, w), (0, 1), (0, 0), (0, 3)]) r_205_62 rfl rfl rfl ?_
                                    refine gx_st (L' := [(2, 192), (0, w), (0, b), (0, 3), (0, 3)]) (S' := [(0, b), (0, w), (0, 1), (0, 0), (0, 3)]) r_205_63 rfl rfl rfl ?_
                                    refine gx_ci (nx := 67) (S2 := [(0, 3)]) (x_204_01 w b hw hb) r_205_64 rfl rfl rfl rfl rfl rfl rfl (by decide) rfl (fun x64 n64 q64 => ?_)
                                    obtain rfl := q64.1.symm
                                    obtain rfl := q64.2.symm
                                    show GX T 2 205 67 [(2, 192), (0, w), (0, b), (0, 3), (0, 3)] [(0, (if w ≤ 1 ∧ b / 2 ≤ 1 then 1 else 0)), (0, 3)] m (RI (fun v m1 => v = RestV w b ∧ m1 = m))
                                    refine gx_i0 (P := ¬ (w ≤ 1 ∧ b / 2 ≤ 1)) r_205_67 (b01_eq) (fun h67 => ?_) (fun h67 => ?_)
                                    · refine gx_st (L' := [(2, 192), (0, w), (0, b), (0, 3), (0, 3)]) (S' := [(0, 0), (0, 3)]) r_205_77 rfl rfl rfl ?_
                                      refine gx_st (L' := [(2, 192), (0, w), (0, b), (0, 3), (0, 3)]) (S' := [(0, (ior 3 0))]) r_205_78 rfl rfl rfl ?_
                                      rw [show (ior 3 0) = 3 from by decide]
                                      refine gx_st (L' := [(2, 192), (0, w), (0, b), (0, 3), (0, 3)]) (S' := []) r_205_79 rfl rfl rfl ?_
                                      refine gx_li (z := 4) (L' := [(2, 192), (0, w), (0, b), (0, 3), (0, 4)]) r_205_80 rfl (w32_eq (by omega) (by omega) (by omega)) rfl ?_
                                      refine gx_st (L' := [(2, 192), (0, w), (0, b), (0, 3), (0, 4)]) (S' := []) r_205_83 rfl rfl rfl ?_
                                      refine gx_st (L' := [(2, 192), (0, w), (0, b), (0, 3), (0, 4)]) (S' := [(0, 4)]) r_205_32 rfl rfl rfl ?_
                                      refine gx_st (L' := [(2, 192), (0, w), (0, b), (0, 3), (0, 4)]) (S' := [(0, 4), (0, 4)]) r_205_34 rfl rfl rfl ?_
                                      refine gx_ic (P := 4 ≤ 4) r_205_35 (rfl) (fun h35 => ?_) (fun h35 => ?_)
                                      · refine gx_st (L' := [(2, 192), (0, w), (0, b), (0, 3), (0, 4)]) (S' := [(0, 3)]) r_205_86 rfl rfl rfl ?_
                                        exact gx_rt r_205_87 rfl rfl ⟨_, rfl, RestV_c ⟨fun _ => rest_s (by omega), fun z => by omega⟩, rfl⟩
                                      · omega
                                    · have h67 := Decidable.not_not.mp h67
                                      refine gx_st (L' := [(2, 192), (0, w), (0, b), (0, 3), (0, 3)]) (S' := [(0, 1), (0, 3)]) r_205_70 rfl rfl rfl ?_
                                      refine gx_st (L' := [(2, 192), (0, w), (0, b), (0, 3), (0, 3)]) (S' := [(0, 3), (0, 1), (0, 3)]) r_205_71 rfl rfl rfl ?_
                                      refine gx_st (L' := [(2, 192), (0, w), (0, b), (0, 3), (0, 3)]) (S' := [(0, (ishl 1 3)), (0, 3)]) r_205_73 rfl rfl rfl ?_
                                      rw [show (ishl 1 3) = 8 from by decide]
                                      refine gx_st (L' := [(2, 192), (0, w), (0, b), (0, 3), (0, 3)]) (S' := [(0, 8), (0, 3)]) r_205_74 rfl rfl rfl ?_
                                      refine gx_st (L' := [(2, 192), (0, w), (0, b), (0, 3), (0, 3)]) (S' := [(0, (ior 3 8))]) r_205_78 rfl rfl rfl ?_
                                      rw [show (ior 3 8) = 11 from by decide]
                                      refine gx_st (L' := [(2, 192), (0, w), (0, b), (0, 11), (0, 3)]) (S' := []) r_205_79 rfl rfl rfl ?_
                                      refine gx_li (z := 4) (L' := [(2, 192), (0, w), (0, b), (0, 11), (0, 4)]) r_205_80 rfl (w32_eq (by omega) (by omega) (by omega)) rfl ?_
                                      refine gx_st (L' := [(2, 192), (0, w), (0, b), (0, 11), (0, 4)]) (S' := []) r_205_83 rfl rfl rfl ?_
                                      refine gx_st (L' := [(2, 192), (0, w), (0, b), (0, 11), (0, 4)]) (S' := [(0, 4)]) r_205_32 rfl rfl rfl ?_
                                      refine gx_st (L' := [(2, 192), (0, w), (0, b), (0, 11), (0, 4)]) (S' := [(0, 4), (0, 4)]) r_205_34 rfl rfl rfl ?_
                                      refine gx_ic (P := 4 ≤ 4) r_205_35 (rfl) (fun h35 => ?_) (fun h35 => ?_)
                                      · refine gx_st (L' := [(2, 192), (0, w), (0, b), (0, 11), (0, 4)]) (S' := [(0, 11)]) r_205_86 rfl rfl rfl ?_
                                        exact gx_rt r_205_87 rfl rfl ⟨_, rfl, RestV_c ⟨fun _ => rest_s (by omega), fun z => by omega⟩, rfl⟩
                                      · omega
                                · omega
                            · have h67 := Decidable.not_not.mp h67
                              refine gx_st (L' := [(2, 192), (0, w), (0, b), (0, 3), (0, 2)]) (S' := [(0, 1), (0, 3)]) r_205_70 rfl rfl rfl ?_
                              refine gx_st (L' := [(2, 192), (0, w), (0, b), (0, 3), (0, 2)]) (S' := [(0, 2), (0, 1), (0, 3)]) r_205_71 rfl rfl rfl ?_
                              refine gx_st (L' := [(2, 192), (0, w), (0, b), (0, 3), (0, 2)]) (S' := [(0, (ishl 1 2)), (0, 3)]) r_205_73 rfl rfl rfl ?_
                              rw [show (ishl 1 2) = 4 from by decide]
                              refine gx_st (L' := [(2, 192), (0, w), (0, b), (0, 3), (0, 2)]) (S' := [(0, 4), (0, 3)]) r_205_74 rfl rfl rfl ?_
                              refine gx_st (L' := [(2, 192), (0, w), (0, b), (0, 3), (0, 2)]) (S' := [(0, (ior 3 4))]) r_205_78 rfl rfl rfl ?_
                              rw [show (ior 3 4) = 7 from by decide]
                              refine gx_st (L' := [(2, 192), (0, w), (0, b), (0, 7), (0, 2)]) (S' := []) r_205_79 rfl rfl rfl ?_
                              refine gx_li (z := 3) (L' := [(2, 192), (0, w), (0, b), (0, 7), (0, 3)]) r_205_80 rfl (w32_eq (by omega) (by omega) (by omega)) rfl ?_
                              refine gx_st (L' := [(2, 192), (0, w), (0, b), (0, 7), (0, 3)]) (S' := []) r_205_83 rfl rfl rfl ?_
                              refine gx_st (L' := [(2, 192), (0, w), (0, b), (0, 7), (0, 3)]) (S' := [(0, 3)]) r_205_32 rfl rfl rfl ?_
                              refine gx_st (L' := [(2, 192), (0, w), (0, b), (0, 7), (0, 3)]) (S' := [(0, 4), (0, 3)]) r_205_34 rfl rfl rfl ?_
                              refine gx_ic (P := 4 ≤ 3) r_205_35 (rfl) (fun h35 => ?_) (fun h35 => ?_)
                              · omega
                              · refine gx_st (L' := [(2, 192), (0, w), (0, b), (0, 7), (0, 3)]) (S' := [(0, 7)]) r_205_38 rfl rfl rfl ?_
                                refine gx_st (L' := [(2, 192), (0, w), (0, b), (0, 7), (0, 3)]) (S' := [(0, 3), (0, 7)]) r_205_39 rfl rfl rfl ?_
                                refine gx_st (L' := [(2, 192), (0, w), (0, b), (0, 7), (0, 3)]) (S' := [(0, 2), (0, 3), (0, 7)]) r_205_41 rfl rfl rfl ?_
                                refine gx_ic (P := 2 ≤ 3) r_205_42 (rfl) (fun h42 => ?_) (fun h42 => ?_)
                                · refine gx_st (L' := [(2, 192), (0, w), (0, b), (0, 7), (0, 3)]) (S' := [(0, 0), (0, 7)]) r_205_49 rfl rfl rfl ?_
                                  refine gx_st (L' := [(2, 192), (0, w), (0, b), (0, 7), (0, 3)]) (S' := [(0, 3), (0, 0), (0, 7)]) r_205_50 rfl rfl rfl ?_
                                  refine gx_st (L' := [(2, 192), (0, w), (0, b), (0, 7), (0, 3)]) (S' := [(0, 2), (0, 3), (0, 0), (0, 7)]) r_205_52 rfl rfl rfl ?_
                                  refine gx_rm (z := (3 % 2)) r_205_53 (by decide) (tm_eq (by omega) rfl) ?_
                                  refine gx_i0 (P := ¬ (3 % 2) = 0) r_205_54 (rfl) (fun h54 => ?_) (fun h54 => ?_)
                                  · refine gx_st (L' := [(2, 192), (0, w), (0, b), (0, 7), (0, 3)]) (S' := [(0, 0), (0, 0), (0, 7)]) r_205_61 rfl rfl rfl ?_
                                    refine gx_st (L' := [(2, 192), (0, w), (0, b), (0, 7), (0, 3)]) (S' := [(0, w), (0, 0), (0, 0), (0, 7)]) r_205_62 rfl rfl rfl ?_
                                    refine gx_st (L' := [(2, 192), (0, w), (0, b), (0, 7), (0, 3)]) (S' := [(0, b), (0, w), (0, 0), (0, 0), (0, 7)]) r_205_63 rfl rfl rfl ?_
                                    refine gx_ci (nx := 67) (S2 := [(0, 7)]) (x_204_00 w b hw hb) r_205_64 rfl rfl rfl rfl rfl rfl rfl (by decide) rfl (fun x64 n64 q64 => ?_)
                                    obtain rfl := q64.1.symm
                                    obtain rfl := q64.2.symm
                                    show GX T 2 205 67 [(2, 192), (0, w), (0, b), (0, 7), (0, 3)] [(0, (if 1 ≤ b / 2 then 1 else 0)), (0, 7)] m (RI (fun v m1 => v = RestV w b ∧ m1 = m))
                                    refine gx_i0 (P := ¬ (1 ≤ b / 2)) r_205_67 (b01_eq) (fun h67 => ?_) (fun h67 => ?_)
                                    · refine gx_st (L' := [(2, 192), (0, w), (0, b), (0, 7), (0, 3)]) (S' := [(0, 0), (0, 7)]) r_205_77 rfl rfl rfl ?_
                                      refine gx_st (L' := [(2, 192), (0, w), (0, b), (0, 7), (0, 3)]) (S' := [(0, (ior 7 0))]) r_205_78 rfl rfl rfl ?_
                                      rw [show (ior 7 0) = 7 from by decide]
                                      refine gx_st (L' := [(2, 192), (0, w), (0, b), (0, 7), (0, 3)]) (S' := []) r_205_79 rfl rfl rfl ?_
                                      refine gx_li (z := 4) (L' := [(2, 192), (0, w), (0, b), (0, 7), (0, 4)]) r_205_80 rfl (w32_eq (by omega) (by omega) (by omega)) rfl ?_
                                      refine gx_st (L' := [(2, 192), (0, w), (0, b), (0, 7), (0, 4)]) (S' := []) r_205_83 rfl rfl rfl ?_
                                      refine gx_st (L' := [(2, 192), (0, w), (0, b), (0, 7), (0, 4)]) (S' := [(0, 4)]) r_205_32 rfl rfl rfl ?_
                                      refine gx_st (L' := [(2, 192), (0, w), (0, b), (0, 7), (0, 4)]) (S' := [(0, 4), (0, 4)]) r_205_34 rfl rfl rfl ?_
                                      refine gx_ic (P := 4 ≤ 4) r_205_35 (rfl) (fun h35 => ?_) (fun h35 => ?_)
                                      · refine gx_st (L' := [(2, 192), (0, w), (0, b), (0, 7), (0, 4)]) (S' := [(0, 7)]) r_205_86 rfl rfl rfl ?_
                                        exact gx_rt r_205_87 rfl rfl ⟨_, rfl, RestV_c ⟨fun _ => rest_s (by omega), fun z => by omega⟩, rfl⟩
                                      · omega
                                    · have h67 := Decidable.not_not.mp h67
                                      refine gx_st (L' := [(2, 192), (0, w), (0, b), (0, 7), (0, 3)]) (S' := [(0, 1), (0, 7)]) r_205_70 rfl rfl rfl ?_
                                      refine gx_st (L' := [(2, 192), (0, w), (0, b), (0, 7), (0, 3)]) (S' := [(0, 3), (0, 1), (0, 7)]) r_205_71 rfl rfl rfl ?_
                                      refine gx_st (L' := [(2, 192), (0, w), (0, b), (0, 7), (0, 3)]) (S' := [(0, (ishl 1 3)), (0, 7)]) r_205_73 rfl rfl rfl ?_
                                      rw [show (ishl 1 3) = 8 from by decide]
                                      refine gx_st (L' := [(2, 192), (0, w), (0, b), (0, 7), (0, 3)]) (S' := [(0, 8), (0, 7)]) r_205_74 rfl rfl rfl ?_
                                      refine gx_st (L' := [(2, 192), (0, w), (0, b), (0, 7), (0, 3)]) (S' := [(0, (ior 7 8))]) r_205_78 rfl rfl rfl ?_
                                      rw [show (ior 7 8) = 15 from by decide]
                                      refine gx_st (L' := [(2, 192), (0, w), (0, b), (0, 15), (0, 3)]) (S' := []) r_205_79 rfl rfl rfl ?_
                                      refine gx_li (z := 4) (L' := [(2, 192), (0, w), (0, b), (0, 15), (0, 4)]) r_205_80 rfl (w32_eq (by omega) (by omega) (by omega)) rfl ?_
                                      refine gx_st (L' := [(2, 192), (0, w), (0, b), (0, 15), (0, 4)]) (S' := []) r_205_83 rfl rfl rfl ?_
                                      refine gx_st (L' := [(2, 192), (0, w), (0, b), (0, 15), (0, 4)]) (S' := [(0, 4)]) r_205_32 rfl rfl rfl ?_
                                      refine gx_st (L' := [(2, 192), (0, w), (0, b), (0, 15), (0, 4)]) (S' := [(0, 4), (0, 4)]) r_205_34 rfl rfl rfl ?_
                                      refine gx_ic (P := 4 ≤ 4) r_205_35 (rfl) (fun h35 => ?_) (fun h35 => ?_)
                                      · refine gx_st (L' := [(2, 192), (0, w), (0, b), (0, 15), (0, 4)]) (S' := [(0, 15)]) r_205_86 rfl rfl rfl ?_
                                        exact gx_rt r_205_87 rfl rfl ⟨_, rfl, RestV_c ⟨fun _ => rest_s (by omega), fun z => by omega⟩, rfl⟩
                                      · omega
                                  · have h54 := Decidable.not_not.mp h54
                                    refine gx_st (L' := [(2, 192), (0, w), (0, b), (0, 7), (0, 3)]) (S' := [(0, 1), (0, 0), (0, 7)]) r_205_57 rfl rfl rfl ?_
                                    refine gx_st (L' := [(2, 192), (0, w), (0, b), (0, 7), (0, 3)]) (S' := [(0, 1), (0, 0), (0, 7)]) r_205_58 rfl rfl rfl ?_
                                    refine gx_st (L' := [(2, 192), (0, w), (0, b), (0, 7), (0, 3)]) (S' := [(0, w), (0, 1), (0, 0), (0, 7)]) r_205_62 rfl rfl rfl ?_
                                    refine gx_st (L' := [(2, 192), (0, w), (0, b), (0, 7), (0, 3)]) (S' := [(0, b), (0, w), (0, 1), (0, 0), (0, 7)]) r_205_63 rfl rfl rfl ?_
                                    refine gx_ci (nx := 67) (S2 := [(0, 7)]) (x_204_01 w b hw hb) r_205_64 rfl rfl rfl rfl rfl rfl rfl (by decide) rfl (fun x64 n64 q64 => ?_)
                                    obtain rfl := q64.1.symm
                                    obtain rfl := q64.2.symm
                                    show GX T 2 205 67 [(2, 192), (0, w), (0, b), (0, 7), (0, 3)] [(0, (if w ≤ 1 ∧ b / 2 ≤ 1 then 1 else 0)), (0, 7)] m (RI (fun v m1 => v = RestV w b ∧ m1 = m))
                                    refine gx_i0 (P := ¬ (w ≤ 1 ∧ b / 2 ≤ 1)) r_205_67 (b01_eq) (fun h67 => ?_) (fun h67 => ?_)
                                    · refine gx_st (L' := [(2, 192), (0, w), (0, b), (0, 7), (0, 3)]) (S' := [(0, 0), (0, 7)]) r_205_77 rfl rfl rfl ?_
                                      refine gx_st (L' := [(2, 192), (0, w), (0, b), (0, 7), (0, 3)]) (S' := [(0, (ior 7 0))]) r_205_78 rfl rfl rfl ?_
                                      rw [show (ior 7 0) = 7 from by decide]
                                      refine gx_st (L' := [(2, 192), (0, w), (0, b), (0, 7), (0, 3)]) (S' := []) r_205_79 rfl rfl rfl ?_
                                      refine gx_li (z := 4) (L' := [(2, 192), (0, w), (0, b), (0, 7), (0, 4)]) r_205_80 rfl (w32_eq (by omega) (by omega) (by omega)) rfl ?_
                                      refine gx_st (L' := [(2, 192), (0, w), (0, b), (0, 7), (0, 4)]) (S' := []) r_205_83 rfl rfl rfl ?_
                                      refine gx_st (L' := [(2, 192), (0, w), (0, b), (0, 7), (0, 4)]) (S' := [(0, 4)]) r_205_32 rfl rfl rfl ?_
                                      refine gx_st (L' := [(2, 192), (0, w), (0, b), (0, 7), (0, 4)]) (S' := [(0, 4), (0, 4)]) r_205_34 rfl rfl rfl ?_
                                      refine gx_ic (P := 4 ≤ 4) r_205_35 (rfl) (fun h35 => ?_) (fun h35 => ?_)
                                      · refine gx_st (L' := [(2, 192), (0, w), (0, b), (0, 7), (0, 4)]) (S' := [(0, 7)]) r_205_86 rfl rfl rfl ?_
                                        exact gx_rt r_205_87 rfl rfl ⟨_, rfl, RestV_c ⟨fun _ => rest_s (by omega), fun z => by omega⟩, rfl⟩
                                      · omega
                                    · have h67 := Decidable.not_not.mp h67
                                      refine gx_st (L' := [(2, 192), (0, w), (0, b), (0, 7), (0, 3)]) (S' := [(0, 1), (0, 7)]) r_205_70 rfl rfl rfl ?_
                                      refine gx_st (L' := [(2, 192), (0, w), (0, b), (0, 7), (0, 3)]) (S' := [(0, 3), (0, 1), (0, 7)]) r_205_71 rfl rfl rfl ?_
                                      refine gx_st (L' := [(2, 192), (0, w), (0, b), (0, 7), (0, 3)]) (S' := [(0, (ishl 1 3)), (0, 7)]) r_205_73 rfl rfl rfl ?_
                                      rw [show (ishl 1 3) = 8 from by decide]
                                      refine gx_st (L' := [(2, 192), (0, w), (0, b), (0, 7), (0, 3)]) (S' := [(0, 8), (0, 7)]) r_205_74 rfl rfl rfl ?_
                                      refine gx_st (L' := [(2, 192), (0, w), (0, b), (0, 7), (0, 3)]) (S' := [(0, (ior 7 8))]) r_205_78 rfl rfl rfl ?_
                                      rw [show (ior 7 8) = 15 from by decide]
                                      refine gx_st (L' := [(2, 192), (0, w), (0, b), (0, 15), (0, 3)]) (S' := []) r_205_79 rfl rfl rfl ?_
                                      refine gx_li (z := 4) (L' := [(2, 192), (0, w), (0, b), (0, 15), (0, 4)]) r_205_80 rfl (w32_eq (by omega) (by omega) (by omega)) rfl ?_
                                      refine gx_st (L' := [(2, 192), (0, w), (0, b), (0, 15), (0, 4)]) (S' := []) r_205_83 rfl rfl rfl ?_
                                      refine gx_st (L' := [(2, 192), (0, w), (0, b), (0, 15), (0, 4)]) (S' := [(0, 4)]) r_205_32 rfl rfl rfl ?_
                                      refine gx_st (L' := [(2, 192), (0, w), (0, b), (0, 15), (0, 4)]) (S' := [(0, 4), (0, 4)]) r_205_34 rfl rfl rfl ?_
                                      refine gx_ic (P := 4 ≤ 4) r_205_35 (rfl) (fun h35 => ?_) (fun h35 => ?_)
                                      · refine gx_st (L' := [(2, 192), (0, w), (0, b), (0, 15), (0, 4)]) (S' := [(0, 15)]) r_205_86 rfl rfl rfl ?_
                                        exact gx_rt r_205_87 rfl rfl ⟨_, rfl, RestV_c ⟨fun _ => rest_s (by omega), fun z => by omega⟩, rfl⟩
                                      · omega
                                · omega
                          · have h54 := Decidable.not_not.mp h54
                            refine gx_st (L' := [(2, 192), (0, w), (0, b), (0, 3), (0, 2)]) (S' := [(0, 1), (0, 0), (0, 3)]) r_205_57 rfl rfl rfl ?_
                            refine gx_st (L' := [(2, 192), (0, w), (0, b), (0, 3), (0, 2)]) (S' := [(0, 1), (0, 0), (0, 3)]) r_205_58 rfl rfl rfl ?_
                            refine gx_st (L' := [(2, 192), (0, w), (0, b), (0, 3), (0, 2)]) (S' := [(0, w), (0, 1), (0, 0), (0, 3)]) r_205_62 rfl rfl rfl ?_
                            refine gx_st (L' := [(2, 192), (0, w), (0, b), (0, 3), (0, 2)]) (S' := [(0, b), (0, w), (0, 1), (0, 0), (0, 3)]) r_205_63 rfl rfl rfl ?_
                            refine gx_ci (nx := 67) (S2 := [(0, 3)]) (x_204_01 w b hw hb) r_205_64 rfl rfl rfl rfl rfl rfl rfl (by decide) rfl (fun x64 n64 q64 => ?_)
                            obtain rfl := q64.1.symm
                            obtain rfl := q64.2.symm
                            show GX T 2 205 67 [(2, 192), (0, w), (0, b), (0, 3), (0, 2)] [(0, (if w ≤ 1 ∧ b / 2 ≤ 1 then 1 else 0)), (0, 3)] m (RI (fun v m1 => v = RestV w b ∧ m1 = m))
                            refine gx_i0 (P := ¬ (w ≤ 1 ∧ b / 2 ≤ 1)) r_205_67 (b01_eq) (fun h67 => ?_) (fun h67 => ?_)
                            · refine gx_st (L' := [(2, 192), (0, w), (0, b), (0, 3), (0, 2)]) (S' := [(0, 0), (0, 3)]) r_205_77 rfl rfl rfl ?_
                              refine gx_st (L' := [(2, 192), (0, w), (0, b), (0, 3), (0, 2)]) (S' := [(0, (ior 3 0))]) r_205_78 rfl rfl rfl ?_
                              rw [show (ior 3 0) = 3 from by decide]
                              refine gx_st (L' := [(2, 192), (0, w), (0, b), (0, 3), (0, 2)]) (S' := []) r_205_79 rfl rfl rfl ?_
                              refine gx_li (z := 3) (L' := [(2, 192), (0, w), (0, b), (0, 3), (0, 3)]) r_205_80 rfl (w32_eq (by omega) (by omega) (by omega)) rfl ?_
                              refine gx_st (L' := [(2, 192), (0, w), (0, b), (0, 3), (0, 3)]) (S' := []) r_205_83 rfl rfl rfl ?_
                              refine gx_st (L' := [(2, 192), (0, w), (0, b), (0, 3), (0, 3)]) (S' := [(0, 3)]) r_205_32 rfl rfl rfl ?_
                              refine gx_st (L' := [(2, 192), (0, w), (0, b), (0, 3), (0, 3)]) (S' := [(0, 4), (0, 3)]) r_205_34 rfl rfl rfl ?_
                              refine gx_ic (P := 4 ≤ 3) r_205_35 (rfl) (fun h35 => ?_) (fun h35 => ?_)
                              · omega
                              · refine gx_st (L' := [(2, 192), (0, w), (0, b), (0, 3), (0, 3)]) (S' := [(0, 3)]) r_205_38 rfl rfl rfl ?_
                                refine gx_st (L' := [(2, 192), (0, w), (0, b), (0, 3), (0, 3)]) (S' := [(0, 3), (0, 3)]) r_205_39 rfl rfl rfl ?_
                                refine gx_st (L' := [(2, 192), (0, w), (0, b), (0, 3), (0, 3)]) (S' := [(0, 2), (0, 3), (0, 3)]) r_205_41 rfl rfl rfl ?_
                                refine gx_ic (P := 2 ≤ 3) r_205_42 (rfl) (fun h42 => ?_) (fun h42 => ?_)
                                · refine gx_st (L' := [(2, 192), (0, w), (0, b), (0, 3), (0, 3)]) (S' := [(0, 0), (0, 3)]) r_205_49 rfl rfl rfl ?_
                                  refine gx_st (L' := [(2, 192), (0, w), (0, b), (0, 3), (0, 3)]) (S' := [(0, 3), (0, 0), (0, 3)]) r_205_50 rfl rfl rfl ?_
                                  refine gx_st (L' := [(2, 192), (0, w), (0, b), (0, 3), (0, 3)]) (S' := [(0, 2), (0, 3), (0, 0), (0, 3)]) r_205_52 rfl rfl rfl ?_
                                  refine gx_rm (z := (3 % 2)) r_205_53 (by decide) (tm_eq (by omega) rfl) ?_
                                  refine gx_i0 (P := ¬ (3 % 2) = 0) r_205_54 (rfl) (fun h54 => ?_) (fun h54 => ?_)
                                  · refine gx_st (L' := [(2, 192), (0, w), (0, b), (0, 3), (0, 3)]) (S' := [(0, 0), (0, 0), (0, 3)]) r_205_61 rfl rfl rfl ?_
                                    refine gx_st (L' := [(2, 192), (0, w), (0, b), (0, 3), (0, 3)]) (S' := [(0, w), (0, 0), (0, 0), (0, 3)]) r_205_62 rfl rfl rfl ?_
                                    refine gx_st (L' := [(2, 192), (0, w), (0, b), (0, 3), (0, 3)]) (S' := [(0, b), (0, w), (0, 0), (0, 0), (0, 3)]) r_205_63 rfl rfl rfl ?_
                                    refine gx_ci (nx := 67) (S2 := [(0, 3)]) (x_204_00 w b hw hb) r_205_64 rfl rfl rfl rfl rfl rfl rfl (by decide) rfl (fun x64 n64 q64 => ?_)
                                    obtain rfl := q64.1.symm
                                    obtain rfl := q64.2.symm
                                    show GX T 2 205 67 [(2, 192), (0, w), (0, b), (0, 3), (0, 3)] [(0, (if 1 ≤ b / 2 then 1 else 0)), (0, 3)] m (RI (fun v m1 => v = RestV w b ∧ m1 = m))
                                    refine gx_i0 (P := ¬ (1 ≤ b / 2)) r_205_67 (b01_eq) (fun h67 => ?_) (fun h67 => ?_)
                                    · refine gx_st (L' := [(2, 192), (0, w), (0, b), (0, 3), (0, 3)]) (S' := [(0, 0), (0, 3)]) r_205_77 rfl rfl rfl ?_
                                      refine gx_st (L' := [(2, 192), (0, w), (0, b), (0, 3), (0, 3)]) (S' := [(0, (ior 3 0))]) r_205_78 rfl rfl rfl ?_
                                      rw [show (ior 3 0) = 3 from by decide]
                                      refine gx_st (L' := [(2, 192), (0, w), (0, b), (0, 3), (0, 3)]) (S' := []) r_205_79 rfl rfl rfl ?_
                                      refine gx_li (z := 4) (L' := [(2, 192), (0, w), (0, b), (0, 3), (0, 4)]) r_205_80 rfl (w32_eq (by omega) (by omega) (by omega)) rfl ?_
                                      refine gx_st (L' := [(2, 192), (0, w), (0, b), (0, 3), (0, 4)]) (S' := []) r_205_83 rfl rfl rfl ?_
                                      refine gx_st (L' := [(2, 192), (0, w), (0, b), (0, 3), (0, 4)]) (S' := [(0, 4)]) r_205_32 rfl rfl rfl ?_
                                      refine gx_st (L' := [(2, 192), (0, w), (0, b), (0, 3), (0, 4)]) (S' := [(0, 4), (0, 4)]) r_205_34 rfl rfl rfl ?_
                                      refine gx_ic (P := 4 ≤ 4) r_205_35 (rfl) (fun h35 => ?_) (fun h35 => ?_)
                                      · refine gx_st (L' := [(2, 192), (0, w), (0, b), (0, 3), (0, 4)]) (S' := [(0, 3)]) r_205_86 rfl rfl rfl ?_
                                        exact gx_rt r_205_87 rfl rfl ⟨_, rfl, RestV_c ⟨fun _ => rest_s (by omega), fun z => by omega⟩, rfl⟩
                                      · omega
                                    · have h67 := Decidable.not_not.mp h67
                                      refine gx_st (L' := [(2, 192), (0, w), (0, b), (0, 3), (0, 3)]) (S' := [(0, 1), (0, 3)]) r_205_70 rfl rfl rfl ?_
                                      refine gx_st (L' := [(2, 192), (0, w), (0, b), (0, 3), (0, 3)]) (S' := [(0, 3), (0, 1), (0, 3)]) r_205_71 rfl rfl rfl ?_
                                      refine gx_st (L' := [(2, 192), (0, w), (0, b), (0, 3), (0, 3)]) (S' := [(0, (ishl 1 3)), (0, 3)]) r_205_73 rfl rfl rfl ?_
                                      rw [show (ishl 1 3) = 8 from by decide]
                                      refine gx_st (L' := [(2, 192), (0, w), (0, b), (0, 3), (0, 3)]) (S' := [(0, 8), (0, 3)]) r_205_74 rfl rfl rfl ?_
                                      refine gx_st (L' := [(2, 192), (0, w), (0, b), (0, 3), (0, 3)]) (S' := [(0, (ior 3 8))]) r_205_78 rfl rfl rfl ?_
                                      rw [show (ior 3 8) = 11 from by decide]
                                      refine gx_st (L' := [(2, 192), (0, w), (0, b), (0, 11), (0, 3)]) (S' := []) r_205_79 rfl rfl rfl ?_
                                      refine gx_li (z := 4) (L' := [(2, 192), (0, w), (0, b), (0, 11), (0, 4)]) r_205_80 rfl (w32_eq (by omega) (by omega) (by omega)) rfl ?_
                                      refine gx_st (L' := [(2, 192), (0, w), (0, b), (0, 11), (0, 4)]) (S' := []) r_205_83 rfl rfl rfl ?_
                                      refine gx_st (L' := [(2, 192), (0, w), (0, b), (0, 11), (0, 4)]) (S' := [(0, 4)]) r_205_32 rfl rfl rfl ?_
                                      refine gx_st (L' := [(2, 192), (0, w), (0, b), (0, 11), (0, 4)]) (S' := [(0, 4), (0, 4)]) r_205_34 rfl rfl rfl ?_
                                      refine gx_ic (P := 4 ≤ 4) r_205_35 (rfl) (fun h35 => ?_) (fun h35 => ?_)
                                      · refine gx_st (L' := [(2, 192), (0, w), (0, b), (0, 11), (0, 4)]) (S' := [(0, 11)]) r_205_86 rfl rfl rfl ?_
                                        exact gx_rt r_205_87 rfl rfl ⟨_, rfl, RestV_c ⟨fun _ => rest_s (by omega), fun z => by omega⟩, rfl⟩
                                      · omega
                                  · have h54 := Decidable.not_not.mp h54
                                    refine gx_st (L' := [(2, 192), (0, w), (0, b), (0, 3), (0, 3)]) (S' := [(0, 1), (0, 0), (0, 3)]) r_205_57 rfl rfl rfl ?_
                                    refine gx_st (L' := [(2, 192), (0, w), (0, b), (0, 3), (0, 3)]) (S' := [(0, 1), (0, 0), (0, 3)]) r_205_58 rfl rfl rfl ?_
                                    refine gx_st (L' := [(2, 192), (0, w), (0, b), (0, 3), (0, 3)]) (S' := [(0, w), (0, 1), (0, 0), (0, 3)]) r_205_62 rfl rfl rfl ?_
                                    refine gx_st (L' := [(2, 192), (0, w), (0, b), (0, 3), (0, 3)]) (S' := [(0, b), (0, w), (0, 1), (0, 0), (0, 3)]) r_205_63 rfl rfl rfl ?_
                                    refine gx_ci (nx := 67) (S2 := [(0, 3)]) (x_204_01 w b hw hb) r_205_64 rfl rfl rfl rfl rfl rfl rfl (by decide) rfl (fun x64 n64 q64 => ?_)
                                    obtain rfl := q64.1.symm
                                    obtain rfl := q64.2.symm
                                    show GX T 2 205 67 [(2, 192), (0, w), (0, b), (0, 3), (0, 3)] [(0, (if w ≤ 1 ∧ b / 2 ≤ 1 then 1 else 0)), (0, 3)] m (RI (fun v m1 => v = RestV w b ∧ m1 = m))
                                    refine gx_i0 (P := ¬ (w ≤ 1 ∧ b / 2 ≤ 1)) r_205_67 (b01_eq) (fun h67 => ?_) (fun h67 => ?_)
                                    · refine gx_st (L' := [(2, 192), (0, w), (0, b), (0, 3), (0, 3)]) (S' := [(0, 0), (0, 3)]) r_205_77 rfl rfl rfl ?_
                                      refine gx_st (L' := [(2, 192), (0, w), (0, b), (0, 3), (0, 3)]) (S' := [(0, (ior 3 0))]) r_205_78 rfl rfl rfl ?_
                                      rw [show (ior 3 0) = 3 from by decide]
                                      refine gx_st (L' := [(2, 192), (0, w), (0, b), (0, 3), (0, 3)]) (S' := []) r_205_79 rfl rfl rfl ?_
                                      refine gx_li (z := 4) (L' := [(2, 192), (0, w), (0, b), (0, 3), (0, 4)]) r_205_80 rfl (w32_eq (by omega) (by omega) (by omega)) rfl ?_
                                      refine gx_st (L' := [(2, 192), (0, w), (0, b), (0, 3), (0, 4)]) (S' := []) r_205_83 rfl rfl rfl ?_
                                      refine gx_st (L' := [(2, 192), (0, w), (0, b), (0, 3), (0, 4)]) (S' := [(0, 4)]) r_205_32 rfl rfl rfl ?_
                                      refine gx_st (L' := [(2, 192), (0, w), (0, b), (0, 3), (0, 4)]) (S' := [(0, 4), (0, 4)]) r_205_34 rfl rfl rfl ?_
                                      refine gx_ic (P := 4 ≤ 4) r_205_35 (rfl) (fun h35 => ?_) (fun h35 => ?_)
                                      · refine gx_st (L' := [(2, 192), (0, w), (0, b), (0, 3), (0, 4)]) (S' := [(0, 3)]) r_205_86 rfl rfl rfl ?_
                                        exact gx_rt r_205_87 rfl rfl ⟨_, rfl, RestV_c ⟨fun _ => rest_s (by omega), fun z => by omega⟩, rfl⟩
                                      · omega
                                    · have h67 := Decidable.not_not.mp h67
                                      refine gx_st (L' := [(2, 192), (0, w), (0, b), (0, 3), (0, 3)]) (S' := [(0, 1), (0, 3)]) r_205_70 rfl rfl rfl ?_
                                      refine gx_st (L' := [(2, 192), (0, w), (0, b), (0, 3), (0, 3)]) (S' := [(0, 3), (0, 1), (0, 3)]) r_205_71 rfl rfl rfl ?_
                                      refine gx_st (L' := [(2, 192), (0, w), (0, b), (0, 3), (0, 3)]) (S' := [(0, (ishl 1 3)), (0, 3)]) r_205_73 rfl rfl rfl ?_
                                      rw [show (ishl 1 3) = 8 from by decide]
                                      refine gx_st (L' := [(2, 192), (0, w), (0, b), (0, 3), (0, 3)]) (S' := [(0, 8), (0, 3)]) r_205_74 rfl rfl rfl ?_
                                      refine gx_st (L' := [(2, 192), (0, w), (0, b), (0, 3), (0, 3)]) (S' := [(0, (ior 3 8))]) r_205_78 rfl rfl rfl ?_
                                      rw [show (ior 3 8) = 11 from by decide]
                                      refine gx_st (L' := [(2, 192), (0, w), (0, b), (0, 11), (0, 3)]) (S' := []) r_205_79 rfl rfl rfl ?_
                                      refine gx_li (z := 4) (L' := [(2, 192), (0, w), (0, b), (0, 11), (0, 4)]) r_205_80 rfl (w32_eq (by omega) (by omega) (by omega)) rfl ?_
                                      refine gx_st (L' := [(2, 192), (0, w), (0, b), (0, 11), (0, 4)]) (S' := []) r_205_83 rfl rfl rfl ?_
                                      refine gx_st (L' := [(2, 192), (0, w), (0, b), (0, 11), (0, 4)]) (S' := [(0, 4)]) r_205_32 rfl rfl rfl ?_
                                      refine gx_st (L' := [(2, 192), (0, w), (0, b), (0, 11), (0, 4)]) (S' := [(0, 4), (0, 4)]) r_205_34 rfl rfl rfl ?_
                                      refine gx_ic (P := 4 ≤ 4) r_205_35 (rfl) (fun h35 => ?_) (fun h35 => ?_)
                                      · refine gx_st (L' := [(2, 192), (0, w), (0, b), (0, 11), (0, 4)]) (S' := [(0, 11)]) r_205_86 rfl rfl rfl ?_
                                        exact gx_rt r_205_87 rfl rfl ⟨_, rfl, RestV_c ⟨fun _ => rest_s (by omega), fun z => by omega⟩, rfl⟩
                                      · omega
                                · omega
                            · have h67 := Decidable.not_not.mp h67
                              refine gx_st (L' := [(2, 192), (0, w), (0, b), (0, 3), (0, 2)]) (S' := [(0, 1), (0, 3)]) r_205_70 rfl rfl rfl ?_
                              refine gx_st (L' := [(2, 192), (0, w), (0, b), (0, 3), (0, 2)]) (S' := [(0, 2), (0, 1), (0, 3)]) r_205_71 rfl rfl rfl ?_
                              refine gx_st (L' := [(2, 192), (0, w), (0, b), (0, 3), (0, 2)]) (S' := [(0, (ishl 1 2)), (0, 3)]) r_205_73 rfl rfl rfl ?_
                              rw [show (ishl 1 2) = 4 from by decide]
                              refine gx_st (L' := [(2, 192), (0, w), (0, b), (0, 3), (0, 2)]) (S' := [(0, 4), (0, 3)]) r_205_74 rfl rfl rfl ?_
                              refine gx_st (L' := [(2, 192), (0, w), (0, b), (0, 3), (0, 2)]) (S' := [(0, (ior 3 4))]) r_205_78 rfl rfl rfl ?_
                              rw [show (ior 3 4) = 7 from by decide]
                              refine gx_st (L' := [(2, 192), (0, w), (0, b), (0, 7), (0, 2)]) (S' := []) r_205_79 rfl rfl rfl ?_
                              refine gx_li (z := 3) (L' := [(2, 192), (0, w), (0, b), (0, 7), (0, 3)]) r_205_80 rfl (w32_eq (by omega) (by omega) (by omega)) rfl ?_
                              refine gx_st (L' := [(2, 192), (0, w), (0, b), (0, 7), (0, 3)]) (S' := []) r_205_83 rfl rfl rfl ?_
                              refine gx_st (L' := [(2, 192), (0, w), (0, b), (0, 7), (0, 3)]) (S' := [(0, 3)]) r_205_32 rfl rfl rfl ?_
                              refine gx_st (L' := [(2, 192), (0, w), (0, b), (0, 7), (0, 3)]) (S' := [(0, 4), (0, 3)]) r_205_34 rfl rfl rfl ?_
                              refine gx_ic (P := 4 ≤ 3) r_205_35 (rfl) (fun h35 => ?_) (fun h35 => ?_)
                              · omega
                              · refine gx_st (L' := [(2, 192), (0, w), (0, b), (0, 7), (0, 3)]) (S' := [(0, 7)]) r_205_38 rfl rfl rfl ?_
                                refine gx_st (L' := [(2, 192), (0, w), (0, b), (0, 7), (0, 3)]) (S' := [(0, 3), (0, 7)]) r_205_39 rfl rfl rfl ?_
                                refine gx_st (L' := [(2, 192), (0, w), (0, b), (0, 7), (0, 3)]) (S' := [(0, 2), (0, 3), (0, 7)]) r_205_41 rfl rfl rfl ?_
                                refine gx_ic (P := 2 ≤ 3) r_205_42 (rfl) (fun h42 => ?_) (fun h42 => ?_)
                                · refine gx_st (L' := [(2, 192), (0, w), (0, b), (0, 7), (0, 3)]) (S' := [(0, 0), (0, 7)]) r_205_49 rfl rfl rfl ?_
                                  refine gx_st (L' := [(2, 192), (0, w), (0, b), (0, 7), (0, 3)]) (S' := [(0, 3), (0, 0), (0, 7)]) r_205_50 rfl rfl rfl ?_
                                  refine gx_st (L' := [(2, 192), (0, w), (0, b), (0, 7), (0, 3)]) (S' := [(0, 2), (0, 3), (0, 0), (0, 7)]) r_205_52 rfl rfl rfl ?_
                                  refine gx_rm (z := (3 % 2)) r_205_53 (by decide) (tm_eq (by omega) rfl) ?_
                                  refine gx_i0 (P := ¬ (3 % 2) = 0) r_205_54 (rfl) (fun h54 => ?_) (fun h54 => ?_)
                                  · refine gx_st (L' := [(2, 192), (0, w), (0, b), (0, 7), (0, 3)]) (S' := [(0, 0), (0, 0), (0, 7)]) r_205_61 rfl rfl rfl ?_
                                    refine gx_st (L' := [(2, 192), (0, w), (0, b), (0, 7), (0, 3)]) (S' := [(0, w), (0, 0), (0, 0), (0, 7)]) r_205_62 rfl rfl rfl ?_
                                    refine gx_st (L' := [(2, 192), (0, w), (0, b), (0, 7), (0, 3)]) (S' := [(0, b), (0, w), (0, 0), (0, 0), (0, 7)]) r_205_63 rfl rfl rfl ?_
                                    refine gx_ci (nx := 67) (S2 := [(0, 7)]) (x_204_00 w b hw hb) r_205_64 rfl rfl rfl rfl rfl rfl rfl (by decide) rfl (fun x64 n64 q64 => ?_)
                                    obtain rfl := q64.1.symm
                                    obtain rfl := q64.2.symm
                                    show GX T 2 205 67 [(2, 192), (0, w), (0, b), (0, 7), (0, 3)] [(0, (if 1 ≤ b / 2 then 1 else 0)), (0, 7)] m (RI (fun v m1 => v = RestV w b ∧ m1 = m))
                                    refine gx_i0 (P := ¬ (1 ≤ b / 2)) r_205_67 (b01_eq) (fun h67 => ?_) (fun h67 => ?_)
                                    · refine gx_st (L' := [(2, 192), (0, w), (0, b), (0, 7), (0, 3)]) (S' := [(0, 0), (0, 7)]) r_205_77 rfl rfl rfl ?_
                                      refine gx_st (L' := [(2, 192), (0, w), (0, b), (0, 7), (0, 3)]) (S' := [(0, (ior 7 0))]) r_205_78 rfl rfl rfl ?_
                                      rw [show (ior 7 0) = 7 from by decide]
                                      refine gx_st (L' := [(2, 192), (0, w), (0, b), (0, 7), (0, 3)]) (S' := []) r_205_79 rfl rfl rfl ?_
                                      refine gx_li (z := 4) (L' := [(2, 192), (0, w), (0, b), (0, 7), (0, 4)]) r_205_80 rfl (w32_eq (by omega) (by omega) (by omega)) rfl ?_
                                      refine gx_st (L' := [(2, 192), (0, w), (0, b), (0, 7), (0, 4)]) (S' := []) r_205_83 rfl rfl rfl ?_
                                      refine gx_st (L' := [(2, 192), (0, w), (0, b), (0, 7), (0, 4)]) (S' := [(0, 4)]) r_205_32 rfl rfl rfl ?_
                                      refine gx_st (L' := [(2, 192), (0, w), (0, b), (0, 7), (0, 4)]) (S' := [(0, 4), (0, 4)]) r_205_34 rfl rfl rfl ?_
                                      refine gx_ic (P := 4 ≤ 4) r_205_35 (rfl) (fun h35 => ?_) (fun h35 => ?_)
                                      · refine gx_st (L' := [(2, 192), (0, w), (0, b), (0, 7), (0, 4)]) (S' := [(0, 7)]) r_205_86 rfl rfl rfl ?_
                                        exact gx_rt r_205_87 rfl rfl ⟨_, rfl, RestV_c ⟨fun _ => rest_s (by omega), fun z => by omega⟩, rfl⟩
                                      · omega
                                    · have h67 := Decidable.not_not.mp h67
                                      refine gx_st (L' := [(2, 192), (0, w), (0, b), (0, 7), (0, 3)]) (S' := [(0, 1), (0, 7)]) r_205_70 rfl rfl rfl ?_
                                      refine gx_st (L' := [(2, 192), (0, w), (0, b), (0, 7), (0, 3)]) (S' := [(0, 3), (0, 1), (0, 7)]) r_205_71 rfl rfl rfl ?_
                                      refine gx_st (L' := [(2, 192), (0, w), (0, b), (0, 7), (0, 3)]) (S' := [(0, (ishl 1 3)), (0, 7)]) r_205_73 rfl rfl rfl ?_
                                      rw [show (ishl 1 3) = 8 from by decide]
                                      refine gx_st (L' := [(2, 192), (0, w), (0, b), (0, 7), (0, 3)]) (S' := [(0, 8), (0, 7)]) r_205_74 rfl rfl rfl ?_
                                      refine gx_st (L' := [(2, 192), (0, w), (0, b), (0, 7), (0, 3)]) (S' := [(0, (ior 7 8))]) r_205_78 rfl rfl rfl ?_
                                      rw [show (ior 7 8) = 15 from by decide]
                                      refine gx_st (L' := [(2, 192), (0, w), (0, b), (0, 15), (0, 3)]) (S' := []) r_205_79 rfl rfl rfl ?_
                                      refine gx_li (z := 4) (L' := [(2, 192), (0, w), (0, b), (0, 15), (0, 4)]) r_205_80 rfl (w32_eq (by omega) (by omega) (by omega)) rfl ?_
                                      refine gx_st (L' := [(2, 192), (0, w), (0, b), (0, 15), (0, 4)]) (S' := []) r_205_83 rfl rfl rfl ?_
                                      refine gx_st (L' := [(2, 192), (0, w), (0, b), (0, 15), (0, 4)]) (S' := [(0, 4)]) r_205_32 rfl rfl rfl ?_
                                      refine gx_st (L' := [(2, 192), (0, w), (0, b), (0, 15), (0, 4)]) (S' := [(0, 4), (0, 4)]) r_205_34 rfl rfl rfl ?_
                                      refine gx_ic (P := 4 ≤ 4) r_205_35 (rfl) (fun h35 => ?_) (fun h35 => ?_)
                                      · refine gx_st (L' := [(2, 192), (0, w), (0, b), (0, 15), (0, 4)]) (S' := [(0, 15)]) r_205_86 rfl rfl rfl ?_
                                        exact gx_rt r_205_87 rfl rfl ⟨_, rfl, RestV_c ⟨fun _ => rest_s (by omega), fun z => by omega⟩, rfl⟩
                                      · omega
                                  · have h54 := Decidable.not_not.mp h54
                                    refine gx_st (L' := [(2, 192), (0, w), (0, b), (0, 7), (0, 3)]) (S' := [(0, 1), (0, 0), (0, 7)]) r_205_57 rfl rfl rfl ?_
                                    refine gx_st (L' := [(2, 192), (0, w), (0, b), (0, 7), (0, 3)]) (S' := [(0, 1), (0, 0), (0, 7)]) r_205_58 rfl rfl rfl ?_
                                    refine gx_st (L' := [(2, 192), (0, w), (0, b), (0, 7), (0, 3)]) (S' := [(0, w), (0, 1), (0, 0), (0, 7)]) r_205_62 rfl rfl rfl ?_
                                    refine gx_st (L' := [(2, 192), (0, w), (0, b), (0, 7), (0, 3)]) (S' := [(0, b), (0, w), (0, 1), (0, 0), (0, 7)]) r_205_63 rfl rfl rfl ?_
                                    refine gx_ci (nx := 67) (S2 := [(0, 7)]) (x_204_01 w b hw hb) r_205_64 rfl rfl rfl rfl rfl rfl rfl (by decide) rfl (fun x64 n64 q64 => ?_)
                                    obtain rfl := q64.1.symm
                                    obtain rfl := q64.2.symm
                                    show GX T 2 205 67 [(2, 192), (0, w), (0, b), (0, 7), (0, 3)] [(0, (if w ≤ 1 ∧ b / 2 ≤ 1 then 1 else 0)), (0, 7)] m (RI (fun v m1 => v = RestV w b ∧ m1 = m))
                                    refine gx_i0 (P := ¬ (w ≤ 1 ∧ b / 2 ≤ 1)) r_205_67 (b01_eq) (fun h67 => ?_) (fun h67 => ?_)
                                    · refine gx_st (L' := [(2, 192), (0, w), (0, b), (0, 7), (0, 3)]) (S' := [(0, 0), (0, 7)]) r_205_77 rfl rfl rfl ?_
                                      refine gx_st (L' := [(2, 192), (0, w), (0, b), (0, 7), (0, 3)]) (S' := [(0, (ior 7 0))]) r_205_78 rfl rfl rfl ?_
                                      rw [show (ior 7 0) = 7 from by decide]
                                      refine gx_st (L' := [(2, 192), (0, w), (0, b), (0, 7), (0, 3)]) (S' := []) r_205_79 rfl rfl rfl ?_
                                      refine gx_li (z := 4) (L' := [(2, 192), (0, w), (0, b), (0, 7), (0, 4)]) r_205_80 rfl (w32_eq (by omega) (by omega) (by omega)) rfl ?_
                                      refine gx_st (L' := [(2, 192), (0, w), (0, b), (0, 7), (0, 4)]) (S' := []) r_205_83 rfl rfl rfl ?_
                                      refine gx_st (L' := [(2, 192), (0, w), (0, b), (0, 7), (0, 4)]) (S' := [(0, 4)]) r_205_32 rfl rfl rfl ?_
                                      refine gx_st (L' := [(2, 192), (0, w), (0, b), (0, 7), (0, 4)]) (S' := [(0, 4), (0, 4)]) r_205_34 rfl rfl rfl ?_
                                      refine gx_ic (P := 4 ≤ 4) r_205_35 (rfl) (fun h35 => ?_) (fun h35 => ?_)
                                      · refine gx_st (L' := [(2, 192), (0, w), (0, b), (0, 7), (0, 4)]) (S' := [(0, 7)]) r_205_86 rfl rfl rfl ?_
                                        exact gx_rt r_205_87 rfl rfl ⟨_, rfl, RestV_c ⟨fun _ => rest_s (by omega), fun z => by omega⟩, rfl⟩
                                      · omega
                                    · have h67 := Decidable.not_not.mp h67
                                      refine gx_st (L' := [(2, 192), (0, w), (0, b), (0, 7), (0, 3)]) (S' := [(0, 1), (0, 7)]) r_205_70 rfl rfl rfl ?_
                                      refine gx_st (L' := [(2, 192), (0, w), (0, b), (0, 7), (0, 3)]) (S' := [(0, 3), (0, 1), (0, 7)]) r_205_71 rfl rfl rfl ?_
                                      refine gx_st (L' := [(2, 192), (0, w), (0, b), (0, 7), (0, 3)]) (S' := [(0, (ishl 1 3)), (0, 7)]) r_205_73 rfl rfl rfl ?_
                                      rw [show (ishl 1 3) = 8 from by decide]
                                      refine gx_st (L' := [(2, 192), (0, w), (0, b), (0, 7), (0, 3)]) (S' := [(0, 8), (0, 7)]) r_205_74 rfl rfl rfl ?_
                                      refine gx_st (L' := [(2, 192), (0, w), (0, b), (0, 7), (0, 3)]) (S' := [(0, (ior 7 8))]) r_205_78 rfl rfl rfl ?_
                                      rw [show (ior 7 8) = 15 from by decide]
                                      refine gx_st (L' := [(2, 192), (0, w), (0, b), (0, 15), (0, 3)]) (S' := []) r_205_79 rfl rfl rfl ?_
                                      refine gx_li (z := 4) (L' := [(2, 192), (0, w), (0, b), (0, 15), (0, 4)]) r_205_80 rfl (w32_eq (by omega) (by omega) (by omega)) rfl ?_
                                      refine gx_st (L' := [(2, 192), (0, w), (0, b), (0, 15), (0, 4)]) (S' := []) r_205_83 rfl rfl rfl ?_
                                      refine gx_st (L' := [(2, 192), (0, w), (0, b), (0, 15), (0, 4)]) (S' := [(0, 4)]) r_205_32 rfl rfl rfl ?_
                                      refine gx_st (L' := [(2, 192), (0, w), (0, b), (0, 15), (0, 4)]) (S' := [(0, 4), (0, 4)]) r_205_34 rfl rfl rfl ?_
                                      refine gx_ic (P := 4 ≤ 4) r_205_35 (rfl) (fun h35 => ?_) (fun h35 => ?_)
                                      · refine gx_st (L' := [(2, 192), (0, w), (0, b), (0, 15), (0, 4)]) (S' := [(0, 15)]) r_205_86 rfl rfl rfl ?_
                                        exact gx_rt r_205_87 rfl rfl ⟨_, rfl, RestV_c ⟨fun _ => rest_s (by omega), fun z => by omega⟩, rfl⟩
                                      · omega
                                · omega
                        · omega
    · refine gx_st (L' := [(2, 192), (0, w), (0, b), (9, 0), (9, 0)]) (S' := [(0, (-2))]) r_205_24 rfl rfl rfl ?_
      exact gx_rt r_205_26 rfl rfl ⟨_, rfl, RestV_c ⟨fun z => by omega, fun _ => rfl⟩, rfl⟩
end REST
