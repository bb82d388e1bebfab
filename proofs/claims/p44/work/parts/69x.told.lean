/-! what is told of the isle exactly -/
theorem r_5_0 : row 5 0 = some (.iload_n 1, 1, 0, 0, 0, 0) := rfl
theorem r_5_1 : row 5 1 = some (.aload_n 0, 2, 0, 0, 0, 0) := rfl
theorem r_5_2 : row 5 2 = some (.getfield 19, 5, 9, 1, 2, 2159) := rfl
theorem r_5_5 : row 5 5 = some (.getfield 123, 8, 3, 6, 10, 1093) := rfl
theorem r_5_8 : row 5 8 = some (.invokestatic 126, 11, 71, 2, 0, 4020) := rfl
theorem r_5_11 : row 5 11 = some (.ifCond .eq 11, 14, 22, 0, 0, 0) := rfl
theorem r_5_14 : row 5 14 = some (.iload_n 2, 15, 0, 0, 0, 0) := rfl
theorem r_5_15 : row 5 15 = some (.iconst 2, 16, 2, 0, 0, 0) := rfl
theorem r_5_16 : row 5 16 = some (.invokestatic 126, 19, 71, 2, 0, 4020) := rfl
theorem r_5_19 : row 5 19 = some (.ifCond .ne 6, 22, 25, 0, 0, 0) := rfl
theorem r_5_22 : row 5 22 = some (.bipush (-2), 24, (-2), 0, 0, 0) := rfl
theorem r_5_24 : row 5 24 = some (.ireturn, 25, 0, 0, 0, 0) := rfl
theorem r_5_25 : row 5 25 = some (.iload_n 2, 26, 0, 0, 0, 0) := rfl
theorem r_5_26 : row 5 26 = some (.ifCond .ne 17, 29, 43, 0, 0, 0) := rfl
theorem r_5_29 : row 5 29 = some (.aload_n 0, 30, 0, 0, 0, 0) := rfl
theorem r_5_30 : row 5 30 = some (.getfield 19, 33, 9, 1, 2, 2159) := rfl
theorem r_5_33 : row 5 33 = some (.getfield 130, 36, 3, 10, 12, 1109) := rfl
theorem r_5_36 : row 5 36 = some (.iload_n 1, 37, 0, 0, 0, 0) := rfl
theorem r_5_37 : row 5 37 = some (.invokestatic 134, 40, 237, 2, 10, 4023) := rfl
theorem r_5_40 : row 5 40 = some (.goto 14, 43, 54, 0, 0, 0) := rfl
theorem r_5_43 : row 5 43 = some (.aload_n 0, 44, 0, 0, 0, 0) := rfl
theorem r_5_44 : row 5 44 = some (.getfield 19, 47, 9, 1, 2, 2159) := rfl
theorem r_5_47 : row 5 47 = some (.getfield 140, 50, 3, 11, 12, 1114) := rfl
theorem r_5_50 : row 5 50 = some (.iload_n 1, 51, 0, 0, 0, 0) := rfl
theorem r_5_51 : row 5 51 = some (.invokestatic 134, 54, 237, 2, 10, 4023) := rfl
theorem r_5_54 : row 5 54 = some (.ireturn, 55, 0, 0, 0, 0) := rfl
theorem r_6_0 : row 6 0 = some (.iload_n 1, 1, 0, 0, 0, 0) := rfl
theorem r_6_1 : row 6 1 = some (.aload_n 0, 2, 0, 0, 0, 0) := rfl
theorem r_6_2 : row 6 2 = some (.getfield 19, 5, 9, 1, 2, 2159) := rfl
theorem r_6_5 : row 6 5 = some (.getfield 143, 8, 3, 7, 10, 1097) := rfl
theorem r_6_8 : row 6 8 = some (.invokestatic 126, 11, 71, 2, 0, 4020) := rfl
theorem r_6_11 : row 6 11 = some (.ifCond .eq 11, 14, 22, 0, 0, 0) := rfl
theorem r_6_14 : row 6 14 = some (.iload_n 2, 15, 0, 0, 0, 0) := rfl
theorem r_6_15 : row 6 15 = some (.iconst 2, 16, 2, 0, 0, 0) := rfl
theorem r_6_16 : row 6 16 = some (.invokestatic 126, 19, 71, 2, 0, 4020) := rfl
theorem r_6_19 : row 6 19 = some (.ifCond .ne 6, 22, 25, 0, 0, 0) := rfl
theorem r_6_22 : row 6 22 = some (.bipush (-2), 24, (-2), 0, 0, 0) := rfl
theorem r_6_24 : row 6 24 = some (.ireturn, 25, 0, 0, 0, 0) := rfl
theorem r_6_25 : row 6 25 = some (.iload_n 2, 26, 0, 0, 0, 0) := rfl
theorem r_6_26 : row 6 26 = some (.ifCond .ne 17, 29, 43, 0, 0, 0) := rfl
theorem r_6_29 : row 6 29 = some (.aload_n 0, 30, 0, 0, 0, 0) := rfl
theorem r_6_30 : row 6 30 = some (.getfield 19, 33, 9, 1, 2, 2159) := rfl
theorem r_6_33 : row 6 33 = some (.getfield 146, 36, 3, 12, 12, 1118) := rfl
theorem r_6_36 : row 6 36 = some (.iload_n 1, 37, 0, 0, 0, 0) := rfl
theorem r_6_37 : row 6 37 = some (.invokestatic 134, 40, 237, 2, 10, 4023) := rfl
theorem r_6_40 : row 6 40 = some (.goto 14, 43, 54, 0, 0, 0) := rfl
theorem r_6_43 : row 6 43 = some (.aload_n 0, 44, 0, 0, 0, 0) := rfl
theorem r_6_44 : row 6 44 = some (.getfield 19, 47, 9, 1, 2, 2159) := rfl
theorem r_6_47 : row 6 47 = some (.getfield 149, 50, 3, 13, 12, 1122) := rfl
theorem r_6_50 : row 6 50 = some (.iload_n 1, 51, 0, 0, 0, 0) := rfl
theorem r_6_51 : row 6 51 = some (.invokestatic 134, 54, 237, 2, 10, 4023) := rfl
theorem r_6_54 : row 6 54 = some (.ireturn, 55, 0, 0, 0, 0) := rfl
theorem r_7_0 : row 7 0 = some (.iload_n 1, 1, 0, 0, 0, 0) := rfl
theorem r_7_1 : row 7 1 = some (.aload_n 0, 2, 0, 0, 0, 0) := rfl
theorem r_7_2 : row 7 2 = some (.getfield 19, 5, 9, 1, 2, 2159) := rfl
theorem r_7_5 : row 7 5 = some (.getfield 152, 8, 3, 8, 10, 1101) := rfl
theorem r_7_8 : row 7 8 = some (.invokestatic 126, 11, 71, 2, 0, 4020) := rfl
theorem r_7_11 : row 7 11 = some (.ifCond .eq 11, 14, 22, 0, 0, 0) := rfl
theorem r_7_14 : row 7 14 = some (.iload_n 2, 15, 0, 0, 0, 0) := rfl
theorem r_7_15 : row 7 15 = some (.iconst 2, 16, 2, 0, 0, 0) := rfl
theorem r_7_16 : row 7 16 = some (.invokestatic 126, 19, 71, 2, 0, 4020) := rfl
theorem r_7_19 : row 7 19 = some (.ifCond .ne 6, 22, 25, 0, 0, 0) := rfl
theorem r_7_22 : row 7 22 = some (.bipush (-2), 24, (-2), 0, 0, 0) := rfl
theorem r_7_24 : row 7 24 = some (.ireturn, 25, 0, 0, 0, 0) := rfl
theorem r_7_25 : row 7 25 = some (.iload_n 2, 26, 0, 0, 0, 0) := rfl
theorem r_7_26 : row 7 26 = some (.ifCond .ne 14, 29, 40, 0, 0, 0) := rfl
theorem r_7_29 : row 7 29 = some (.aload_n 0, 30, 0, 0, 0, 0) := rfl
theorem r_7_30 : row 7 30 = some (.getfield 19, 33, 9, 1, 2, 2159) := rfl
theorem r_7_33 : row 7 33 = some (.iload_n 1, 34, 0, 0, 0, 0) := rfl
theorem r_7_34 : row 7 34 = some (.invokevirtual 155, 37, 258, 1, 10, 3166) := rfl
theorem r_7_37 : row 7 37 = some (.goto 14, 40, 51, 0, 0, 0) := rfl
theorem r_7_40 : row 7 40 = some (.aload_n 0, 41, 0, 0, 0, 0) := rfl
theorem r_7_41 : row 7 41 = some (.getfield 19, 44, 9, 1, 2, 2159) := rfl
theorem r_7_44 : row 7 44 = some (.getfield 159, 47, 3, 15, 12, 1128) := rfl
theorem r_7_47 : row 7 47 = some (.iload_n 1, 48, 0, 0, 0, 0) := rfl
theorem r_7_48 : row 7 48 = some (.invokestatic 134, 51, 237, 2, 10, 4023) := rfl
theorem r_7_51 : row 7 51 = some (.ireturn, 52, 0, 0, 0, 0) := rfl
theorem r_8_0 : row 8 0 = some (.aload_n 0, 1, 0, 0, 0, 0) := rfl
theorem r_8_1 : row 8 1 = some (.getfield 19, 4, 9, 1, 2, 2159) := rfl
theorem r_8_4 : row 8 4 = some (.invokevirtual 162, 7, 252, 0, 10, 4036) := rfl
theorem r_8_7 : row 8 7 = some (.ifCond .eq 13, 10, 20, 0, 0, 0) := rfl
theorem r_8_10 : row 8 10 = some (.aload_n 0, 11, 0, 0, 0, 0) := rfl
theorem r_8_11 : row 8 11 = some (.getfield 19, 14, 9, 1, 2, 2159) := rfl
theorem r_8_14 : row 8 14 = some (.getfield 166, 17, 3, 9, 10, 1107) := rfl
theorem r_8_17 : row 8 17 = some (.goto 5, 20, 22, 0, 0, 0) := rfl
theorem r_8_20 : row 8 20 = some (.bipush (-2), 22, (-2), 0, 0, 0) := rfl
theorem r_8_22 : row 8 22 = some (.ireturn, 23, 0, 0, 0, 0) := rfl
theorem r_119_0 : row 119 0 = some (.aload_n 0, 1, 0, 0, 0, 0) := rfl
theorem r_119_1 : row 119 1 = some (.iload_n 1, 2, 0, 0, 0, 0) := rfl
theorem r_119_2 : row 119 2 = some (.i2l, 3, 0, 0, 0, 0) := rfl
theorem r_119_3 : row 119 3 = some (.invokevirtual 216, 6, 94, 1, 0, 7001) := rfl
theorem r_119_6 : row 119 6 = some (.ifCond .eq 29, 9, 35, 0, 0, 0) := rfl
theorem r_119_9 : row 119 9 = some (.iload_n 2, 10, 0, 0, 0, 0) := rfl
theorem r_119_10 : row 119 10 = some (.i2l, 11, 0, 0, 0, 0) := rfl
theorem r_119_11 : row 119 11 = some (.lconst 0, 12, 0, 0, 0, 0) := rfl
theorem r_119_12 : row 119 12 = some (.lconst 1, 13, 1, 0, 0, 0) := rfl
theorem r_119_13 : row 119 13 = some (.invokestatic 82, 16, 86, 3, 0, 6131) := rfl
theorem r_119_16 : row 119 16 = some (.ifCond .eq 19, 19, 35, 0, 0, 0) := rfl
theorem r_119_19 : row 119 19 = some (.aload_n 0, 20, 0, 0, 0, 0) := rfl
theorem r_119_20 : row 119 20 = some (.getfield 9, 23, 10, 1, 2, 6002) := rfl
theorem r_119_23 : row 119 23 = some (.bipush 31, 25, 31, 0, 0, 0) := rfl
theorem r_119_25 : row 119 25 = some (.iconst 2, 26, 2, 0, 0, 0) := rfl
theorem r_119_26 : row 119 26 = some (.iload_n 1, 27, 0, 0, 0, 0) := rfl
theorem r_119_27 : row 119 27 = some (.imul, 28, 0, 0, 0, 0) := rfl
theorem r_119_28 : row 119 28 = some (.iadd, 29, 0, 0, 0, 0) := rfl
theorem r_119_29 : row 119 29 = some (.iload_n 2, 30, 0, 0, 0, 0) := rfl
theorem r_119_30 : row 119 30 = some (.iadd, 31, 0, 0, 0, 0) := rfl
theorem r_119_31 : row 119 31 = some (.iaload, 32, 0, 0, 0, 0) := rfl
theorem r_119_32 : row 119 32 = some (.goto 5, 35, 37, 0, 0, 0) := rfl
theorem r_119_35 : row 119 35 = some (.bipush (-2), 37, (-2), 0, 0, 0) := rfl
theorem r_119_37 : row 119 37 = some (.ireturn, 38, 0, 0, 0, 0) := rfl
theorem r_120_0 : row 120 0 = some (.aload_n 0, 1, 0, 0, 0, 0) := rfl
theorem r_120_1 : row 120 1 = some (.iload_n 1, 2, 0, 0, 0, 0) := rfl
theorem r_120_2 : row 120 2 = some (.invokevirtual 220, 5, 95, 1, 0, 7009) := rfl
theorem r_120_5 : row 120 5 = some (.ifCond .eq 29, 8, 34, 0, 0, 0) := rfl
theorem r_120_8 : row 120 8 = some (.iload_n 2, 9, 0, 0, 0, 0) := rfl
theorem r_120_9 : row 120 9 = some (.i2l, 10, 0, 0, 0, 0) := rfl
theorem r_120_10 : row 120 10 = some (.lconst 0, 11, 0, 0, 0, 0) := rfl
theorem r_120_11 : row 120 11 = some (.lconst 1, 12, 1, 0, 0, 0) := rfl
theorem r_120_12 : row 120 12 = some (.invokestatic 82, 15, 86, 3, 0, 6131) := rfl
theorem r_120_15 : row 120 15 = some (.ifCond .eq 19, 18, 34, 0, 0, 0) := rfl
theorem r_120_18 : row 120 18 = some (.aload_n 0, 19, 0, 0, 0, 0) := rfl
theorem r_120_19 : row 120 19 = some (.getfield 9, 22, 10, 1, 2, 6002) := rfl
theorem r_120_22 : row 120 22 = some (.bipush 41, 24, 41, 0, 0, 0) := rfl
theorem r_120_24 : row 120 24 = some (.iconst 2, 25, 2, 0, 0, 0) := rfl
theorem r_120_25 : row 120 25 = some (.iload_n 1, 26, 0, 0, 0, 0) := rfl
theorem r_120_26 : row 120 26 = some (.imul, 27, 0, 0, 0, 0) := rfl
theorem r_120_27 : row 120 27 = some (.iadd, 28, 0, 0, 0, 0) := rfl
theorem r_120_28 : row 120 28 = some (.iload_n 2, 29, 0, 0, 0, 0) := rfl
theorem r_120_29 : row 120 29 = some (.iadd, 30, 0, 0, 0, 0) := rfl
theorem r_120_30 : row 120 30 = some (.iaload, 31, 0, 0, 0, 0) := rfl
theorem r_120_31 : row 120 31 = some (.goto 5, 34, 36, 0, 0, 0) := rfl
theorem r_120_34 : row 120 34 = some (.bipush (-2), 36, (-2), 0, 0, 0) := rfl
theorem r_120_36 : row 120 36 = some (.ireturn, 37, 0, 0, 0, 0) := rfl
theorem r_121_0 : row 121 0 = some (.aload_n 0, 1, 0, 0, 0, 0) := rfl
theorem r_121_1 : row 121 1 = some (.iload_n 1, 2, 0, 0, 0, 0) := rfl
theorem r_121_2 : row 121 2 = some (.invokevirtual 224, 5, 96, 1, 0, 7017) := rfl
theorem r_121_5 : row 121 5 = some (.ifCond .eq 29, 8, 34, 0, 0, 0) := rfl
theorem r_121_8 : row 121 8 = some (.iload_n 2, 9, 0, 0, 0, 0) := rfl
theorem r_121_9 : row 121 9 = some (.i2l, 10, 0, 0, 0, 0) := rfl
theorem r_121_10 : row 121 10 = some (.lconst 0, 11, 0, 0, 0, 0) := rfl
theorem r_121_11 : row 121 11 = some (.lconst 1, 12, 1, 0, 0, 0) := rfl
theorem r_121_12 : row 121 12 = some (.invokestatic 82, 15, 86, 3, 0, 6131) := rfl
theorem r_121_15 : row 121 15 = some (.ifCond .eq 19, 18, 34, 0, 0, 0) := rfl
theorem r_121_18 : row 121 18 = some (.aload_n 0, 19, 0, 0, 0, 0) := rfl
theorem r_121_19 : row 121 19 = some (.getfield 9, 22, 10, 1, 2, 6002) := rfl
theorem r_121_22 : row 121 22 = some (.bipush 47, 24, 47, 0, 0, 0) := rfl
theorem r_121_24 : row 121 24 = some (.iconst 2, 25, 2, 0, 0, 0) := rfl
theorem r_121_25 : row 121 25 = some (.iload_n 1, 26, 0, 0, 0, 0) := rfl
theorem r_121_26 : row 121 26 = some (.imul, 27, 0, 0, 0, 0) := rfl
theorem r_121_27 : row 121 27 = some (.iadd, 28, 0, 0, 0, 0) := rfl
theorem r_121_28 : row 121 28 = some (.iload_n 2, 29, 0, 0, 0, 0) := rfl
theorem r_121_29 : row 121 29 = some (.iadd, 30, 0, 0, 0, 0) := rfl
theorem r_121_30 : row 121 30 = some (.iaload, 31, 0, 0, 0, 0) := rfl
theorem r_121_31 : row 121 31 = some (.goto 5, 34, 36, 0, 0, 0) := rfl
theorem r_121_34 : row 121 34 = some (.bipush (-2), 36, (-2), 0, 0, 0) := rfl
theorem r_121_36 : row 121 36 = some (.ireturn, 37, 0, 0, 0, 0) := rfl
theorem r_122_0 : row 122 0 = some (.aload_n 0, 1, 0, 0, 0, 0) := rfl
theorem r_122_1 : row 122 1 = some (.invokevirtual 86, 4, 90, 0, 0, 7025) := rfl
theorem r_122_4 : row 122 4 = some (.ifCond .eq 13, 7, 17, 0, 0, 0) := rfl
theorem r_122_7 : row 122 7 = some (.aload_n 0, 8, 0, 0, 0, 0) := rfl
theorem r_122_8 : row 122 8 = some (.getfield 9, 11, 10, 1, 2, 6002) := rfl
theorem r_122_11 : row 122 11 = some (.bipush 10, 13, 10, 0, 0, 0) := rfl
theorem r_122_13 : row 122 13 = some (.iaload, 14, 0, 0, 0, 0) := rfl
theorem r_122_14 : row 122 14 = some (.goto 5, 17, 19, 0, 0, 0) := rfl
theorem r_122_17 : row 122 17 = some (.bipush (-2), 19, (-2), 0, 0, 0) := rfl
theorem r_122_19 : row 122 19 = some (.ireturn, 20, 0, 0, 0, 0) := rfl
theorem r_258_0 : row 258 0 = some (.aload_n 0, 1, 0, 0, 0, 0) := rfl
theorem r_258_1 : row 258 1 = some (.getfield 55, 4, 3, 14, 2, 1124) := rfl
theorem r_258_4 : row 258 4 = some (.iload_n 1, 5, 0, 0, 0, 0) := rfl
theorem r_258_5 : row 258 5 = some (.invokestatic 77, 8, 237, 2, 10, 3107) := rfl
theorem r_258_8 : row 258 8 = some (.ireturn, 9, 0, 0, 0, 0) := rfl
section TOLD
variable {T : List Kd} {m : Mm}
theorem z_258 (hT : TT T) (hp : PinR m) {k : Nat} (hk : k < 5) : GX T 1 258 0 [(2, 4), (0, (k : Int))] [] m (RI (fun v m1 => v = m 9 k ∧ m1 = m)) := by
  refine gx_st (L' := [(2, 4), (0, (k : Int))]) (S' := [(2, 4)]) r_258_0 rfl rfl rfl ?_
  refine gx_gf (x := 9) 2 r_258_1 (rfl) (ty_4 hT) ⟨by decide, rfl, by decide, by decide⟩ rfl (fun _ => by omega) (pin_at hp (t := 9) rfl (by decide)) ?_
  refine gx_st (L' := [(2, 4), (0, (k : Int))]) (S' := [(0, (k : Int)), (2, 9)]) r_258_4 rfl rfl rfl ?_
  refine gx_ci (nx := 8) (S2 := []) (c_237 (r := 9) (n := 5) (ty_9 hT) (by decide) (by decide) hk) r_258_5 rfl rfl rfl rfl rfl rfl rfl (by decide) rfl (fun x5 n5 q5 => ?_)
  obtain rfl := q5.1.symm
  obtain rfl := q5.2.symm
  show GX T 1 258 8 [(2, 4), (0, (k : Int))] [(0, (m 9 k))] m (RI (fun v m1 => v = m 9 k ∧ m1 = m))
  exact gx_rt r_258_8 rfl rfl ⟨_, rfl, ⟨rfl, rfl⟩⟩
theorem z_5 (hT : TT T) (hp : PinR m) (a b : Int) (hn : m 4 6 ≤ 5) : GX T 2 5 0 [(2, 1), (0, a), (0, b)] [] m (RI (fun v m1 => (¬ ((0 ≤ a ∧ a < m 4 6) ∧ 0 ≤ b ∧ b < 2) → v = -2) ∧ (∀ i : Nat, a = (i : Int) → ((0 ≤ a ∧ a < m 4 6) ∧ 0 ≤ b ∧ b < 2) → v = (if b = 0 then m 5 i else m 6 i)))) := by
  refine gx_st (L' := [(2, 1), (0, a), (0, b)]) (S' := [(0, a)]) r_5_0 rfl rfl rfl ?_
  refine gx_st (L' := [(2, 1), (0, a), (0, b)]) (S' := [(2, 1), (0, a)]) r_5_1 rfl rfl rfl ?_
  refine gx_gf (x := 4) 2 r_5_2 (rfl) (ty_1 hT) ⟨by decide, rfl, by decide, by decide⟩ rfl (fun _ => by omega) (pin_at hp (t := 4) rfl (by decide)) ?_
  refine gx_gf (x := (m 4 6)) 0 r_5_5 (rfl) (ty_4 hT) ⟨by decide, rfl, by decide, by decide⟩ rfl (fun z => absurd z (by decide)) (rfl) ?_
  refine gx_ci (nx := 11) (S2 := []) (x_71 a (m 4 6)) r_5_8 rfl rfl rfl rfl rfl rfl rfl (by decide) rfl (fun x8 n8 q8 => ?_)
  obtain rfl := q8.1.symm
  obtain rfl := q8.2.symm
  show GX T 2 5 11 [(2, 1), (0, a), (0, b)] [(0, (if 0 ≤ a ∧ a < (m 4 6) then 1 else 0))] m (RI (fun v m1 => (¬ ((0 ≤ a ∧ a < m 4 6) ∧ 0 ≤ b ∧ b < 2) → v = -2) ∧ (∀ i : Nat, a = (i : Int) → ((0 ≤ a ∧ a < m 4 6) ∧ 0 ≤ b ∧ b < 2) → v = (if b = 0 then m 5 i else m 6 i))))
  refine gx_i0 (P := ¬ (0 ≤ a ∧ a < (m 4 6))) r_5_11 (b01_eq) (fun h11 => ?_) (fun h11 => ?_)
  · refine gx_st (L' := [(2, 1), (0, a), (0, b)]) (S' := [(0, (-2))]) r_5_22 rfl rfl rfl ?_
    exact gx_rt r_5_24 rfl rfl ⟨_, rfl, fun z => rfl, fun i hi hb => (by exfalso; omega)⟩
  · have h11 := Decidable.not_not.mp h11
    refine gx_st (L' := [(2, 1), (0, a), (0, b)]) (S' := [(0, b)]) r_5_14 rfl rfl rfl ?_
    refine gx_st (L' := [(2, 1), (0, a), (0, b)]) (S' := [(0, 2), (0, b)]) r_5_15 rfl rfl rfl ?_
    refine gx_ci (nx := 19) (S2 := []) (x_71 b 2) r_5_16 rfl rfl rfl rfl rfl rfl rfl (by decide) rfl (fun x16 n16 q16 => ?_)
    obtain rfl := q16.1.symm
    obtain rfl := q16.2.symm
    show GX T 2 5 19 [(2, 1), (0, a), (0, b)] [(0, (if 0 ≤ b ∧ b < 2 then 1 else 0))] m (RI (fun v m1 => (¬ ((0 ≤ a ∧ a < m 4 6) ∧ 0 ≤ b ∧ b < 2) → v = -2) ∧ (∀ i : Nat, a = (i : Int) → ((0 ≤ a ∧ a < m 4 6) ∧ 0 ≤ b ∧ b < 2) → v = (if b = 0 then m 5 i else m 6 i))))
    refine gx_i0 (P := 0 ≤ b ∧ b < 2) r_5_19 (b01_ne) (fun h19 => ?_) (fun h19 => ?_)
    · obtain ⟨ii, hia⟩ : ∃ i : Nat, a = (i : Int) := ⟨a.toNat, by omega⟩
      rw [hia]
      refine gx_st (L' := [(2, 1), (0, (ii : Int)), (0, b)]) (S' := [(0, b)]) r_5_25 rfl rfl rfl ?_
      refine gx_i0 (P := ¬ b = 0) r_5_26 (rfl) (fun h26 => ?_) (fun h26 => ?_)
      · refine gx_st (L' := [(2, 1), (0, (ii : Int)), (0, b)]) (S' := [(2, 1)]) r_5_43 rfl rfl rfl ?_
        refine gx_gf (x := 4) 2 r_5_44 (rfl) (ty_1 hT) ⟨by decide, rfl, by decide, by decide⟩ rfl (fun _ => by omega) (pin_at hp (t := 4) rfl (by decide)) ?_
        refine gx_gf (x := 6) 2 r_5_47 (rfl) (ty_4 hT) ⟨by decide, rfl, by decide, by decide⟩ rfl (fun _ => by omega) (pin_at hp (t := 6) rfl (by decide)) ?_
        refine gx_st (L' := [(2, 1), (0, (ii : Int)), (0, b)]) (S' := [(0, (ii : Int)), (2, 6)]) r_5_50 rfl rfl rfl ?_
        refine gx_ci (nx := 54) (S2 := []) (c_237 (r := 6) (n := 5) (ty_6 hT) (by decide) (by decide) (k := ii) (by omega)) r_5_51 rfl rfl rfl rfl rfl rfl rfl (by decide) rfl (fun x51 n51 q51 => ?_)
        obtain rfl := q51.1.symm
        obtain rfl := q51.2.symm
        show GX T 2 5 54 [(2, 1), (0, (ii : Int)), (0, b)] [(0, (m 6 ii))] m (RI (fun v m1 => (¬ ((0 ≤ (ii : Int) ∧ (ii : Int) < m 4 6) ∧ 0 ≤ b ∧ b < 2) → v = -2) ∧ (∀ i : Nat, (ii : Int) = (i : Int) → ((0 ≤ (ii : Int) ∧ (ii : Int) < m 4 6) ∧ 0 ≤ b ∧ b < 2) → v = (if b = 0 then m 5 i else m 6 i))))
        exact gx_rt r_5_54 rfl rfl ⟨_, rfl, fun z => absurd z (by omega), fun i e hb => by rw [show i = ii by omega]; exact (if_neg (by omega)).symm⟩
      · have h26 := Decidable.not_not.mp h26
        refine gx_st (L' := [(2, 1), (0, (ii : Int)), (0, b)]) (S' := [(2, 1)]) r_5_29 rfl rfl rfl ?_
        refine gx_gf (x := 4) 2 r_5_30 (rfl) (ty_1 hT) ⟨by decide, rfl, by decide, by decide⟩ rfl (fun _ => by omega) (pin_at hp (t := 4) rfl (by decide)) ?_
        refine gx_gf (x := 5) 2 r_5_33 (rfl) (ty_4 hT) ⟨by decide, rfl, by decide, by decide⟩ rfl (fun _ => by omega) (pin_at hp (t := 5) rfl (by decide)) ?_
        refine gx_st (L' := [(2, 1), (0, (ii : Int)), (0, b)]) (S' := [(0, (ii : Int)), (2, 5)]) r_5_36 rfl rfl rfl ?_
        refine gx_ci (nx := 40) (S2 := []) (c_237 (r := 5) (n := 5) (ty_5 hT) (by decide) (by decide) (k := ii) (by omega)) r_5_37 rfl rfl rfl rfl rfl rfl rfl (by decide) rfl (fun x37 n37 q37 => ?_)
        obtain rfl := q37.1.symm
        obtain rfl := q37.2.symm
        show GX T 2 5 40 [(2, 1), (0, (ii : Int)), (0, b)] [(0, (m 5 ii))] m (RI (fun v m1 => (¬ ((0 ≤ (ii : Int) ∧ (ii : Int) < m 4 6) ∧ 0 ≤ b ∧ b < 2) → v = -2) ∧ (∀ i : Nat, (ii : Int) = (i : Int) → ((0 ≤ (ii : Int) ∧ (ii : Int) < m 4 6) ∧ 0 ≤ b ∧ b < 2) → v = (if b = 0 then m 5 i else m 6 i))))
        refine gx_st (L' := [(2, 1), (0, (ii : Int)), (0, b)]) (S' := [(0, (m 5 ii))]) r_5_40 rfl rfl rfl ?_
        exact gx_rt r_5_54 rfl rfl ⟨_, rfl, fun z => absurd z (by omega), fun i e hb => by rw [show i = ii by omega]; exact (if_pos (by omega)).symm⟩
    · refine gx_st (L' := [(2, 1), (0, a), (0, b)]) (S' := [(0, (-2))]) r_5_22 rfl rfl rfl ?_
      exact gx_rt r_5_24 rfl rfl ⟨_, rfl, fun z => rfl, fun i hi hb => (by exfalso; omega)⟩
theorem z_6 (hT : TT T) (hp : PinR m) (a b : Int) (hn : m 4 7 ≤ 3) : GX T 2 6 0 [(2, 1), (0, a), (0, b)] [] m (RI (fun v m1 => (¬ ((0 ≤ a ∧ a < m 4 7) ∧ 0 ≤ b ∧ b < 2) → v = -2) ∧ (∀ i : Nat, a = (i : Int) → ((0 ≤ a ∧ a < m 4 7) ∧ 0 ≤ b ∧ b < 2) → v = (if b = 0 then m 7 i else m 8 i)))) := by
  refine gx_st (L' := [(2, 1), (0, a), (0, b)]) (S' := [(0, a)]) r_6_0 rfl rfl rfl ?_
  refine gx_st (L' := [(2, 1), (0, a), (0, b)]) (S' := [(2, 1), (0, a)]) r_6_1 rfl rfl rfl ?_
  refine gx_gf (x := 4) 2 r_6_2 (rfl) (ty_1 hT) ⟨by decide, rfl, by decide, by decide⟩ rfl (fun _ => by omega) (pin_at hp (t := 4) rfl (by decide)) ?_
  refine gx_gf (x := (m 4 7)) 0 r_6_5 (rfl) (ty_4 hT) ⟨by decide, rfl, by decide, by decide⟩ rfl (fun z => absurd z (by decide)) (rfl) ?_
  refine gx_ci (nx := 11) (S2 := []) (x_71 a (m 4 7)) r_6_8 rfl rfl rfl rfl rfl rfl rfl (by decide) rfl (fun x8 n8 q8 => ?_)
  obtain rfl := q8.1.symm
  obtain rfl := q8.2.symm
  show GX T 2 6 11 [(2, 1), (0, a), (0, b)] [(0, (if 0 ≤ a ∧ a < (m 4 7) then 1 else 0))] m (RI (fun v m1 => (¬ ((0 ≤ a ∧ a < m 4 7) ∧ 0 ≤ b ∧ b < 2) → v = -2) ∧ (∀ i : Nat, a = (i : Int) → ((0 ≤ a ∧ a < m 4 7) ∧ 0 ≤ b ∧ b < 2) → v = (if b = 0 then m 7 i else m 8 i))))
  refine gx_i0 (P := ¬ (0 ≤ a ∧ a < (m 4 7))) r_6_11 (b01_eq) (fun h11 => ?_) (fun h11 => ?_)
  · refine gx_st (L' := [(2, 1), (0, a), (0, b)]) (S' := [(0, (-2))]) r_6_22 rfl rfl rfl ?_
    exact gx_rt r_6_24 rfl rfl ⟨_, rfl, fun z => rfl, fun i hi hb => (by exfalso; omega)⟩
  · have h11 := Decidable.not_not.mp h11
    refine gx_st (L' := [(2, 1), (0, a), (0, b)]) (S' := [(0, b)]) r_6_14 rfl rfl rfl ?_
    refine gx_st (L' := [(2, 1), (0, a), (0, b)]) (S' := [(0, 2), (0, b)]) r_6_15 rfl rfl rfl ?_
    refine gx_ci (nx := 19) (S2 := []) (x_71 b 2) r_6_16 rfl rfl rfl rfl rfl rfl rfl (by decide) rfl (fun x16 n16 q16 => ?_)
    obtain rfl := q16.1.symm
    obtain rfl := q16.2.symm
    show GX T 2 6 19 [(2, 1), (0, a), (0, b)] [(0, (if 0 ≤ b ∧ b < 2 then 1 else 0))] m (RI (fun v m1 => (¬ ((0 ≤ a ∧ a < m 4 7) ∧ 0 ≤ b ∧ b < 2) → v = -2) ∧ (∀ i : Nat, a = (i : Int) → ((0 ≤ a ∧ a < m 4 7) ∧ 0 ≤ b ∧ b < 2) → v = (if b = 0 then m 7 i else m 8 i))))
    refine gx_i0 (P := 0 ≤ b ∧ b < 2) r_6_19 (b01_ne) (fun h19 => ?_) (fun h19 => ?_)
    · obtain ⟨ii, hia⟩ : ∃ i : Nat, a = (i : Int) := ⟨a.toNat, by omega⟩
      rw [hia]
      refine gx_st (L' := [(2, 1), (0, (ii : Int)), (0, b)]) (S' := [(0, b)]) r_6_25 rfl rfl rfl ?_
      refine gx_i0 (P := ¬ b = 0) r_6_26 (rfl) (fun h26 => ?_) (fun h26 => ?_)
      · refine gx_st (L' := [(2, 1), (0, (ii : Int)), (0, b)]) (S' := [(2, 1)]) r_6_43 rfl rfl rfl ?_
        refine gx_gf (x := 4) 2 r_6_44 (rfl) (ty_1 hT) ⟨by decide, rfl, by decide, by decide⟩ rfl (fun _ => by omega) (pin_at hp (t := 4) rfl (by decide)) ?_
        refine gx_gf (x := 8) 2 r_6_47 (rfl) (ty_4 hT) ⟨by decide, rfl, by decide, by decide⟩ rfl (fun _ => by omega) (pin_at hp (t := 8) rfl (by decide)) ?_
        refine gx_st (L' := [(2, 1), (0, (ii : Int)), (0, b)]) (S' := [(0, (ii : Int)), (2, 8)]) r_6_50 rfl rfl rfl ?_
        refine gx_ci (nx := 54) (S2 := []) (c_237 (r := 8) (n := 3) (ty_8 hT) (by decide) (by decide) (k := ii) (by omega)) r_6_51 rfl rfl rfl rfl rfl rfl rfl (by decide) rfl (fun x51 n51 q51 => ?_)
        obtain rfl := q51.1.symm
        obtain rfl := q51.2.symm
        show GX T 2 6 54 [(2, 1), (0, (ii : Int)), (0, b)] [(0, (m 8 ii))] m (RI (fun v m1 => (¬ ((0 ≤ (ii : Int) ∧ (ii : Int) < m 4 7) ∧ 0 ≤ b ∧ b < 2) → v = -2) ∧ (∀ i : Nat, (ii : Int) = (i : Int) → ((0 ≤ (ii : Int) ∧ (ii : Int) < m 4 7) ∧ 0 ≤ b ∧ b < 2) → v = (if b = 0 then m 7 i else m 8 i))))
        exact gx_rt r_6_54 rfl rfl ⟨_, rfl, fun z => absurd z (by omega), fun i e hb => by rw [show i = ii by omega]; exact (if_neg (by omega)).symm⟩
      · have h26 := Decidable.not_not.mp h26
        refine gx_st (L' := [(2, 1), (0, (ii : Int)), (0, b)]) (S' := [(2, 1)]) r_6_29 rfl rfl rfl ?_
        refine gx_gf (x := 4) 2 r_6_30 (rfl) (ty_1 hT) ⟨by decide, rfl, by decide, by decide⟩ rfl (fun _ => by omega) (pin_at hp (t := 4) rfl (by decide)) ?_
        refine gx_gf (x := 7) 2 r_6_33 (rfl) (ty_4 hT) ⟨by decide, rfl, by decide, by decide⟩ rfl (fun _ => by omega) (pin_at hp (t := 7) rfl (by decide)) ?_
        refine gx_st (L' := [(2, 1), (0, (ii : Int)), (0, b)]) (S' := [(0, (ii : Int)), (2, 7)]) r_6_36 rfl rfl rfl ?_
        refine gx_ci (nx := 40) (S2 := []) (c_237 (r := 7) (n := 3) (ty_7 hT) (by decide) (by decide) (k := ii) (by omega)) r_6_37 rfl rfl rfl rfl rfl rfl rfl (by decide) rfl (fun x37 n37 q37 => ?_)
        obtain rfl := q37.1.symm
        obtain rfl := q37.2.symm
        show GX T 2 6 40 [(2, 1), (0, (ii : Int)), (0, b)] [(0, (m 7 ii))] m (RI (fun v m1 => (¬ ((0 ≤ (ii : Int) ∧ (ii : Int) < m 4 7) ∧ 0 ≤ b ∧ b < 2) → v = -2) ∧ (∀ i : Nat, (ii : Int) = (i : Int) → ((0 ≤ (ii : Int) ∧ (ii : Int) < m 4 7) ∧ 0 ≤ b ∧ b < 2) → v = (if b = 0 then m 7 i else m 8 i))))
        refine gx_st (L' := [(2, 1), (0, (ii : Int)), (0, b)]) (S' := [(0, (m 7 ii))]) r_6_40 rfl rfl rfl ?_
        exact gx_rt r_6_54 rfl rfl ⟨_, rfl, fun z => absurd z (by omega), fun i e hb => by rw [show i = ii by omega]; exact (if_pos (by omega)).symm⟩
    · refine gx_st (L' := [(2, 1), (0, a), (0, b)]) (S' := [(0, (-2))]) r_6_22 rfl rfl rfl ?_
      exact gx_rt r_6_24 rfl rfl ⟨_, rfl, fun z => rfl, fun i hi hb => (by exfalso; omega)⟩
theorem z_7 (hT : TT T) (hp : PinR m) (a b : Int) (hn : m 4 8 ≤ 5) : GX T 2 7 0 [(2, 1), (0, a), (0, b)] [] m (RI (fun v m1 => (¬ ((0 ≤ a ∧ a < m 4 8) ∧ 0 ≤ b ∧ b < 2) → v = -2) ∧ (∀ i : Nat, a = (i : Int) → ((0 ≤ a ∧ a < m 4 8) ∧ 0 ≤ b ∧ b < 2) → v = (if b = 0 then m 9 i else m 10 i)))) := by
  refine gx_st (L' := [(2, 1), (0, a), (0, b)]) (S' := [(0, a)]) r_7_0 rfl rfl rfl ?_
  refine gx_st (L' := [(2, 1), (0, a), (0, b)]) (S' := [(2, 1), (0, a)]) r_7_1 rfl rfl rfl ?_
  refine gx_gf (x := 4) 2 r_7_2 (rfl) (ty_1 hT) ⟨by decide, rfl, by decide, by decide⟩ rfl (fun _ => by omega) (pin_at hp (t := 4) rfl (by decide)) ?_
  refine gx_gf (x := (m 4 8)) 0 r_7_5 (rfl) (ty_4 hT) ⟨by decide, rfl, by decide, by decide⟩ rfl (fun z => absurd z (by decide)) (rfl) ?_
  refine gx_ci (nx := 11) (S2 := []) (x_71 a (m 4 8)) r_7_8 rfl rfl rfl rfl rfl rfl rfl (by decide) rfl (fun x8 n8 q8 => ?_)
  obtain rfl := q8.1.symm
  obtain rfl := q8.2.symm
  show GX T 2 7 11 [(2, 1), (0, a), (0, b)] [(0, (if 0 ≤ a ∧ a < (m 4 8) then 1 else 0))] m (RI (fun v m1 => (¬ ((0 ≤ a ∧ a < m 4 8) ∧ 0 ≤ b ∧ b < 2) → v = -2) ∧ (∀ i : Nat, a = (i : Int) → ((0 ≤ a ∧ a < m 4 8) ∧ 0 ≤ b ∧ b < 2) → v = (if b = 0 then m 9 i else m 10 i))))
  refine gx_i0 (P := ¬ (0 ≤ a ∧ a < (m 4 8))) r_7_11 (b01_eq) (fun h11 => ?_) (fun h11 => ?_)
  · refine gx_st (L' := [(2, 1), (0, a), (0, b)]) (S' := [(0, (-2))]) r_7_22 rfl rfl rfl ?_
    exact gx_rt r_7_24 rfl rfl ⟨_, rfl, fun z => rfl, fun i hi hb => (by exfalso; omega)⟩
  · have h11 := Decidable.not_not.mp h11
    refine gx_st (L' := [(2, 1), (0, a), (0, b)]) (S' := [(0, b)]) r_7_14 rfl rfl rfl ?_
    refine gx_st (L' := [(2, 1), (0, a), (0, b)]) (S' := [(0, 2), (0, b)]) r_7_15 rfl rfl rfl ?_
    refine gx_ci (nx := 19) (S2 := []) (x_71 b 2) r_7_16 rfl rfl rfl rfl rfl rfl rfl (by decide) rfl (fun x16 n16 q16 => ?_)
    obtain rfl := q16.1.symm
    obtain rfl := q16.2.symm
    show GX T 2 7 19 [(2, 1), (0, a), (0, b)] [(0, (if 0 ≤ b ∧ b < 2 then 1 else 0))] m (RI (fun v m1 => (¬ ((0 ≤ a ∧ a < m 4 8) ∧ 0 ≤ b ∧ b < 2) → v = -2) ∧ (∀ i : Nat, a = (i : Int) → ((0 ≤ a ∧ a < m 4 8) ∧ 0 ≤ b ∧ b < 2) → v = (if b = 0 then m 9 i else m 10 i))))
    refine gx_i0 (P := 0 ≤ b ∧ b < 2) r_7_19 (b01_ne) (fun h19 => ?_) (fun h19 => ?_)
    · obtain ⟨ii, hia⟩ : ∃ i : Nat, a = (i : Int) := ⟨a.toNat, by omega⟩
      rw [hia]
      refine gx_st (L' := [(2, 1), (0, (ii : Int)), (0, b)]) (S' := [(0, b)]) r_7_25 rfl rfl rfl ?_
      refine gx_i0 (P := ¬ b = 0) r_7_26 (rfl) (fun h26 => ?_) (fun h26 => ?_)
      · refine gx_st (L' := [(2, 1), (0, (ii : Int)), (0, b)]) (S' := [(2, 1)]) r_7_40 rfl rfl rfl ?_
        refine gx_gf (x := 4) 2 r_7_41 (rfl) (ty_1 hT) ⟨by decide, rfl, by decide, by decide⟩ rfl (fun _ => by omega) (pin_at hp (t := 4) rfl (by decide)) ?_
        refine gx_gf (x := 10) 2 r_7_44 (rfl) (ty_4 hT) ⟨by decide, rfl, by decide, by decide⟩ rfl (fun _ => by omega) (pin_at hp (t := 10) rfl (by decide)) ?_
        refine gx_st (L' := [(2, 1), (0, (ii : Int)), (0, b)]) (S' := [(0, (ii : Int)), (2, 10)]) r_7_47 rfl rfl rfl ?_
        refine gx_ci (nx := 51) (S2 := []) (c_237 (r := 10) (n := 5) (ty_10 hT) (by decide) (by decide) (k := ii) (by omega)) r_7_48 rfl rfl rfl rfl rfl rfl rfl (by decide) rfl (fun x48 n48 q48 => ?_)
        obtain rfl := q48.1.symm
        obtain rfl := q48.2.symm
        show GX T 2 7 51 [(2, 1), (0, (ii : Int)), (0, b)] [(0, (m 10 ii))] m (RI (fun v m1 => (¬ ((0 ≤ (ii : Int) ∧ (ii : Int) < m 4 8) ∧ 0 ≤ b ∧ b < 2) → v = -2) ∧ (∀ i : Nat, (ii : Int) = (i : Int) → ((0 ≤ (ii : Int) ∧ (ii : Int) < m 4 8) ∧ 0 ≤ b ∧ b < 2) → v = (if b = 0 then m 9 i else m 10 i))))
        exact gx_rt r_7_51 rfl rfl ⟨_, rfl, fun z => absurd z (by omega), fun i e hb => by rw [show i = ii by omega]; exact (if_neg (by omega)).symm⟩
      · have h26 := Decidable.not_not.mp h26
        refine gx_st (L' := [(2, 1), (0, (ii : Int)), (0, b)]) (S' := [(2, 1)]) r_7_29 rfl rfl rfl ?_
        refine gx_gf (x := 4) 2 r_7_30 (rfl) (ty_1 hT) ⟨by decide, rfl, by decide, by decide⟩ rfl (fun _ => by omega) (pin_at hp (t := 4) rfl (by decide)) ?_
        refine gx_st (L' := [(2, 1), (0, (ii : Int)), (0, b)]) (S' := [(0, (ii : Int)), (2, 4)]) r_7_33 rfl rfl rfl ?_
        refine gx_ci (nx := 37) (S2 := []) (z_258 hT hp (k := ii) (by omega)) r_7_34 rfl rfl rfl rfl rfl (rcv_v rfl (ty_4 hT) (by decide) rfl (by decide)) rfl (by decide) rfl (fun x34 n34 q34 => ?_)
        obtain rfl := q34.1.symm
        obtain rfl := q34.2.symm
        show GX T 2 7 37 [(2, 1), (0, (ii : Int)), (0, b)] [(0, (m 9 ii))] m (RI (fun v m1 => (¬ ((0 ≤ (ii : Int) ∧ (ii : Int) < m 4 8) ∧ 0 ≤ b ∧ b < 2) → v = -2) ∧ (∀ i : Nat, (ii : Int) = (i : Int) → ((0 ≤ (ii : Int) ∧ (ii : Int) < m 4 8) ∧ 0 ≤ b ∧ b < 2) → v = (if b = 0 then m 9 i else m 10 i))))
        refine gx_st (L' := [(2, 1), (0, (ii : Int)), (0, b)]) (S' := [(0, (m 9 ii))]) r_7_37 rfl rfl rfl ?_
        exact gx_rt r_7_51 rfl rfl ⟨_, rfl, fun z => absurd z (by omega), fun i e hb => by rw [show i = ii by omega]; exact (if_pos (by omega)).symm⟩
    · refine gx_st (L' := [(2, 1), (0, a), (0, b)]) (S' := [(0, (-2))]) r_7_22 rfl rfl rfl ?_
      exact gx_rt r_7_24 rfl rfl ⟨_, rfl, fun z => rfl, fun i hi hb => (by exfalso; omega)⟩
theorem z_8 (hT : TT T) (hp : PinR m) : GX T 1 8 0 [(2, 1)] [] m (RI (fun v m1 => v = (if 0 < m 4 0 then m 4 9 else -2))) := by
  refine gx_st (L' := [(2, 1)]) (S' := [(2, 1)]) r_8_0 rfl rfl rfl ?_
  refine gx_gf (x := 4) 2 r_8_1 (rfl) (ty_1 hT) ⟨by decide, rfl, by decide, by decide⟩ rfl (fun _ => by omega) (pin_at hp (t := 4) rfl (by decide)) ?_
  refine gx_ci (nx := 7) (S2 := []) (x_252 hT) r_8_4 rfl rfl rfl rfl rfl (rcv_v rfl (ty_4 hT) (by decide) rfl (by decide)) rfl (by decide) rfl (fun x4 n4 q4 => ?_)
  obtain rfl := q4.1.symm
  obtain rfl := q4.2.symm
  show GX T 1 8 7 [(2, 1)] [(0, (if 0 < m 4 0 then 1 else 0))] m (RI (fun v m1 => v = (if 0 < m 4 0 then m 4 9 else -2)))
  refine gx_i0 (P := ¬ (0 < m 4 0)) r_8_7 (b01_eq) (fun h7 => ?_) (fun h7 => ?_)
  · refine gx_st (L' := [(2, 1)]) (S' := [(0, (-2))]) r_8_20 rfl rfl rfl ?_
    exact gx_rt r_8_22 rfl rfl ⟨_, rfl, (if_neg (by omega)).symm⟩
  · have h7 := Decidable.not_not.mp h7
    refine gx_st (L' := [(2, 1)]) (S' := [(2, 1)]) r_8_10 rfl rfl rfl ?_
    refine gx_gf (x := 4) 2 r_8_11 (rfl) (ty_1 hT) ⟨by decide, rfl, by decide, by decide⟩ rfl (fun _ => by omega) (pin_at hp (t := 4) rfl (by decide)) ?_
    refine gx_gf (x := (m 4 9)) 0 r_8_14 (rfl) (ty_4 hT) ⟨by decide, rfl, by decide, by decide⟩ rfl (fun z => absurd z (by decide)) (rfl) ?_
    refine gx_st (L' := [(2, 1)]) (S' := [(0, (m 4 9))]) r_8_17 rfl rfl rfl ?_
    exact gx_rt r_8_22 rfl rfl ⟨_, rfl, (if_pos (by omega)).symm⟩
theorem y_119 (hT : TT T) (hm : Gam m) (hp : PinR m) (a b : Int) : GX T 2 119 0 [(2, 192), (0, a), (0, b)] [] m (RI (fun v m1 => (¬ ((0 ≤ a ∧ a < m 193 5) ∧ 0 ≤ b ∧ b < 2) → v = -2) ∧ (∀ i j : Nat, a = (i : Int) → b = (j : Int) → ((0 ≤ a ∧ a < m 193 5) ∧ 0 ≤ b ∧ b < 2) → v = m 193 (31 + 2 * i + j)))) := by
  have bf := gb_193_5 hm
  refine gx_st (L' := [(2, 192), (0, a), (0, b)]) (S' := [(2, 192)]) r_119_0 rfl rfl rfl ?_
  refine gx_st (L' := [(2, 192), (0, a), (0, b)]) (S' := [(0, a), (2, 192)]) r_119_1 rfl rfl rfl ?_
  refine gx_st (L' := [(2, 192), (0, a), (0, b)]) (S' := [(1, a), (2, 192)]) r_119_2 rfl rfl rfl ?_
  refine gx_ci (nx := 6) (S2 := []) (x_94 hT hm a) r_119_3 rfl rfl rfl rfl rfl (rcv_v rfl (ty_192 hT) (by decide) rfl (by decide)) rfl (by decide) rfl (fun x3 n3 q3 => ?_)
  obtain rfl := q3.1.symm
  obtain rfl := q3.2.symm
  show GX T 2 119 6 [(2, 192), (0, a), (0, b)] [(0, (if 0 ≤ a ∧ a ≤ m 193 5 - 1 then 1 else 0))] m (RI (fun v m1 => (¬ ((0 ≤ a ∧ a < m 193 5) ∧ 0 ≤ b ∧ b < 2) → v = -2) ∧ (∀ i j : Nat, a = (i : Int) → b = (j : Int) → ((0 ≤ a ∧ a < m 193 5) ∧ 0 ≤ b ∧ b < 2) → v = m 193 (31 + 2 * i + j))))
  refine gx_i0 (P := ¬ (0 ≤ a ∧ a ≤ m 193 5 - 1)) r_119_6 (b01_eq) (fun h6 => ?_) (fun h6 => ?_)
  · refine gx_st (L' := [(2, 192), (0, a), (0, b)]) (S' := [(0, (-2))]) r_119_35 rfl rfl rfl ?_
    exact gx_rt r_119_37 rfl rfl ⟨_, rfl, fun z => rfl, fun i j e1 e2 hb => (by exfalso; omega)⟩
  · have h6 := Decidable.not_not.mp h6
    refine gx_st (L' := [(2, 192), (0, a), (0, b)]) (S' := [(0, b)]) r_119_9 rfl rfl rfl ?_
    refine gx_st (L' := [(2, 192), (0, a), (0, b)]) (S' := [(1, b)]) r_119_10 rfl rfl rfl ?_
    refine gx_st (L' := [(2, 192), (0, a), (0, b)]) (S' := [(1, 0), (1, b)]) r_119_11 rfl rfl rfl ?_
    refine gx_st (L' := [(2, 192), (0, a), (0, b)]) (S' := [(1, 1), (1, 0), (1, b)]) r_119_12 rfl rfl rfl ?_
    refine gx_ci (nx := 16) (S2 := []) (x_86 b 0 1) r_119_13 rfl rfl rfl rfl rfl rfl rfl (by decide) rfl (fun x13 n13 q13 => ?_)
    obtain rfl := q13.1.symm
    obtain rfl := q13.2.symm
    show GX T 2 119 16 [(2, 192), (0, a), (0, b)] [(0, (if 0 ≤ b ∧ b ≤ 1 then 1 else 0))] m (RI (fun v m1 => (¬ ((0 ≤ a ∧ a < m 193 5) ∧ 0 ≤ b ∧ b < 2) → v = -2) ∧ (∀ i j : Nat, a = (i : Int) → b = (j : Int) → ((0 ≤ a ∧ a < m 193 5) ∧ 0 ≤ b ∧ b < 2) → v = m 193 (31 + 2 * i + j))))
    refine gx_i0 (P := ¬ (0 ≤ b ∧ b ≤ 1)) r_119_16 (b01_eq) (fun h16 => ?_) (fun h16 => ?_)
    · refine gx_st (L' := [(2, 192), (0, a), (0, b)]) (S' := [(0, (-2))]) r_119_35 rfl rfl rfl ?_
      exact gx_rt r_119_37 rfl rfl ⟨_, rfl, fun z => rfl, fun i j e1 e2 hb => (by exfalso; omega)⟩
    · have h16 := Decidable.not_not.mp h16
      obtain ⟨ii, hia⟩ : ∃ i : Nat, a = (i : Int) := ⟨a.toNat, by omega⟩
      rw [hia]
      obtain ⟨jj, hib⟩ : ∃ j : Nat, b = (j : Int) := ⟨b.toNat, by omega⟩
      have hj2 : jj < 2 := by omega
      rw [hib]
      refine gx_st (L' := [(2, 192), (0, (ii : Int)), (0, (jj : Int))]) (S' := [(2, 192)]) r_119_19 rfl rfl rfl ?_
      refine gx_gf (x := 193) 2 r_119_20 (rfl) (ty_192 hT) ⟨by decide, rfl, by decide, by decide⟩ rfl (fun _ => by omega) (pin_at hp (t := 193) rfl (by decide)) ?_
      refine gx_st (L' := [(2, 192), (0, (ii : Int)), (0, (jj : Int))]) (S' := [(0, 31), (2, 193)]) r_119_23 rfl rfl rfl ?_
      refine gx_st (L' := [(2, 192), (0, (ii : Int)), (0, (jj : Int))]) (S' := [(0, 2), (0, 31), (2, 193)]) r_119_25 rfl rfl rfl ?_
      refine gx_st (L' := [(2, 192), (0, (ii : Int)), (0, (jj : Int))]) (S' := [(0, (ii : Int)), (0, 2), (0, 31), (2, 193)]) r_119_26 rfl rfl rfl ?_
      refine gx_ar (L' := [(2, 192), (0, (ii : Int)), (0, (jj : Int))]) (S' := [(0, 31), (2, 193)]) (t := 0) (e := w32 (2 * (ii : Int))) (z := 2 * (ii : Int)) r_119_27 rfl rfl rfl (w32_eq (by omega) (by omega) (by omega)) ?_
      refine gx_ar (L' := [(2, 192), (0, (ii : Int)), (0, (jj : Int))]) (S' := [(2, 193)]) (t := 0) (e := w32 (31 + (2 * (ii : Int)))) (z := 2 * (ii : Int) + 31) r_119_28 rfl rfl rfl (w32_eq (by omega) (by omega) (by omega)) ?_
      refine gx_st (L' := [(2, 192), (0, (ii : Int)), (0, (jj : Int))]) (S' := [(0, (jj : Int)), (0, 2 * (ii : Int) + 31), (2, 193)]) r_119_29 rfl rfl rfl ?_
      refine gx_ar (L' := [(2, 192), (0, (ii : Int)), (0, (jj : Int))]) (S' := [(2, 193)]) (t := 0) (e := w32 ((2 * (ii : Int) + 31) + (jj : Int))) (z := 2 * (ii : Int) + (jj : Int) + 31) r_119_30 rfl rfl rfl (w32_eq (by omega) (by omega) (by omega)) ?_
      refine gx_ia (n := 31 + 2 * ii + jj) (x := (m 193 (31 + 2 * ii + jj))) r_119_31 (rfl) (ty_193 hT) (by omega) ⟨rfl, by omega⟩ (rfl) ?_
      refine gx_st (L' := [(2, 192), (0, (ii : Int)), (0, (jj : Int))]) (S' := [(0, (m 193 (31 + 2 * ii + jj)))]) r_119_32 rfl rfl rfl ?_
      exact gx_rt r_119_37 rfl rfl ⟨_, rfl, fun z => absurd z (by omega), fun i j e1 e2 hb => by rw [show i = ii by omega, show j = jj by omega]⟩
theorem y_120 (hT : TT T) (hm : Gam m) (hp : PinR m) (a b : Int) : GX T 2 120 0 [(2, 192), (0, a), (0, b)] [] m (RI (fun v m1 => (¬ ((0 ≤ a ∧ a < m 193 6) ∧ 0 ≤ b ∧ b < 2) → v = -2) ∧ (∀ i j : Nat, a = (i : Int) → b = (j : Int) → ((0 ≤ a ∧ a < m 193 6) ∧ 0 ≤ b ∧ b < 2) → v = m 193 (41 + 2 * i + j)))) := by
  have bf := gb_193_6 hm
  refine gx_st (L' := [(2, 192), (0, a), (0, b)]) (S' := [(2, 192)]) r_120_0 rfl rfl rfl ?_
  refine gx_st (L' := [(2, 192), (0, a), (0, b)]) (S' := [(0, a), (2, 192)]) r_120_1 rfl rfl rfl ?_
  refine gx_ci (nx := 5) (S2 := []) (x_95 hT hm a) r_120_2 rfl rfl rfl rfl rfl (rcv_v rfl (ty_192 hT) (by decide) rfl (by decide)) rfl (by decide) rfl (fun x2 n2 q2 => ?_)
  obtain rfl := q2.1.symm
  obtain rfl := q2.2.symm
  show GX T 2 120 5 [(2, 192), (0, a), (0, b)] [(0, (if 0 ≤ a ∧ a ≤ m 193 6 - 1 then 1 else 0))] m (RI (fun v m1 => (¬ ((0 ≤ a ∧ a < m 193 6) ∧ 0 ≤ b ∧ b < 2) → v = -2) ∧ (∀ i j : Nat, a = (i : Int) → b = (j : Int) → ((0 ≤ a ∧ a < m 193 6) ∧ 0 ≤ b ∧ b < 2) → v = m 193 (41 + 2 * i + j))))
  refine gx_i0 (P := ¬ (0 ≤ a ∧ a ≤ m 193 6 - 1)) r_120_5 (b01_eq) (fun h5 => ?_) (fun h5 => ?_)
  · refine gx_st (L' := [(2, 192), (0, a), (0, b)]) (S' := [(0, (-2))]) r_120_34 rfl rfl rfl ?_
    exact gx_rt r_120_36 rfl rfl ⟨_, rfl, fun z => rfl, fun i j e1 e2 hb => (by exfalso; omega)⟩
  · have h5 := Decidable.not_not.mp h5
    refine gx_st (L' := [(2, 192), (0, a), (0, b)]) (S' := [(0, b)]) r_120_8 rfl rfl rfl ?_
    refine gx_st (L' := [(2, 192), (0, a), (0, b)]) (S' := [(1, b)]) r_120_9 rfl rfl rfl ?_
    refine gx_st (L' := [(2, 192), (0, a), (0, b)]) (S' := [(1, 0), (1, b)]) r_120_10 rfl rfl rfl ?_
    refine gx_st (L' := [(2, 192), (0, a), (0, b)]) (S' := [(1, 1), (1, 0), (1, b)]) r_120_11 rfl rfl rfl ?_
    refine gx_ci (nx := 15) (S2 := []) (x_86 b 0 1) r_120_12 rfl rfl rfl rfl rfl rfl rfl (by decide) rfl (fun x12 n12 q12 => ?_)
    obtain rfl := q12.1.symm
    obtain rfl := q12.2.symm
    show GX T 2 120 15 [(2, 192), (0, a), (0, b)] [(0, (if 0 ≤ b ∧ b ≤ 1 then 1 else 0))] m (RI (fun v m1 => (¬ ((0 ≤ a ∧ a < m 193 6) ∧ 0 ≤ b ∧ b < 2) → v = -2) ∧ (∀ i j : Nat, a = (i : Int) → b = (j : Int) → ((0 ≤ a ∧ a < m 193 6) ∧ 0 ≤ b ∧ b < 2) → v = m 193 (41 + 2 * i + j))))
    refine gx_i0 (P := ¬ (0 ≤ b ∧ b ≤ 1)) r_120_15 (b01_eq) (fun h15 => ?_) (fun h15 => ?_)
    · refine gx_st (L' := [(2, 192), (0, a), (0, b)]) (S' := [(0, (-2))]) r_120_34 rfl rfl rfl ?_
      exact gx_rt r_120_36 rfl rfl ⟨_, rfl, fun z => rfl, fun i j e1 e2 hb => (by exfalso; omega)⟩
    · have h15 := Decidable.not_not.mp h15
      obtain ⟨ii, hia⟩ : ∃ i : Nat, a = (i : Int) := ⟨a.toNat, by omega⟩
      rw [hia]
      obtain ⟨jj, hib⟩ : ∃ j : Nat, b = (j : Int) := ⟨b.toNat, by omega⟩
      have hj2 : jj < 2 := by omega
      rw [hib]
      refine gx_st (L' := [(2, 192), (0, (ii : Int)), (0, (jj : Int))]) (S' := [(2, 192)]) r_120_18 rfl rfl rfl ?_
      refine gx_gf (x := 193) 2 r_120_19 (rfl) (ty_192 hT) ⟨by decide, rfl, by decide, by decide⟩ rfl (fun _ => by omega) (pin_at hp (t := 193) rfl (by decide)) ?_
      refine gx_st (L' := [(2, 192), (0, (ii : Int)), (0, (jj : Int))]) (S' := [(0, 41), (2, 193)]) r_120_22 rfl rfl rfl ?_
      refine gx_st (L' := [(2, 192), (0, (ii : Int)), (0, (jj : Int))]) (S' := [(0, 2), (0, 41), (2, 193)]) r_120_24 rfl rfl rfl ?_
      refine gx_st (L' := [(2, 192), (0, (ii : Int)), (0, (jj : Int))]) (S' := [(0, (ii : Int)), (0, 2), (0, 41), (2, 193)]) r_120_25 rfl rfl rfl ?_
      refine gx_ar (L' := [(2, 192), (0, (ii : Int)), (0, (jj : Int))]) (S' := [(0, 41), (2, 193)]) (t := 0) (e := w32 (2 * (ii : Int))) (z := 2 * (ii : Int)) r_120_26 rfl rfl rfl (w32_eq (by omega) (by omega) (by omega)) ?_
      refine gx_ar (L' := [(2, 192), (0, (ii : Int)), (0, (jj : Int))]) (S' := [(2, 193)]) (t := 0) (e := w32 (41 + (2 * (ii : Int)))) (z := 2 * (ii : Int) + 41) r_120_27 rfl rfl rfl (w32_eq (by omega) (by omega) (by omega)) ?_
      refine gx_st (L' := [(2, 192), (0, (ii : Int)), (0, (jj : Int))]) (S' := [(0, (jj : Int)), (0, 2 * (ii : Int) + 41), (2, 193)]) r_120_28 rfl rfl rfl ?_
      refine gx_ar (L' := [(2, 192), (0, (ii : Int)), (0, (jj : Int))]) (S' := [(2, 193)]) (t := 0) (e := w32 ((2 * (ii : Int) + 41) + (jj : Int))) (z := 2 * (ii : Int) + (jj : Int) + 41) r_120_29 rfl rfl rfl (w32_eq (by omega) (by omega) (by omega)) ?_
      refine gx_ia (n := 41 + 2 * ii + jj) (x := (m 193 (41 + 2 * ii + jj))) r_120_30 (rfl) (ty_193 hT) (by omega) ⟨rfl, by omega⟩ (rfl) ?_
      refine gx_st (L' := [(2, 192), (0, (ii : Int)), (0, (jj : Int))]) (S' := [(0, (m 193 (41 + 2 * ii + jj)))]) r_120_31 rfl rfl rfl ?_
      exact gx_rt r_120_36 rfl rfl ⟨_, rfl, fun z => absurd z (by omega), fun i j e1 e2 hb => by rw [show i = ii by omega, show j = jj by omega]⟩
theorem y_121 (hT : TT T) (hm : Gam m) (hp : PinR m) (a b : Int) : GX T 2 121 0 [(2, 192), (0, a), (0, b)] [] m (RI (fun v m1 => (¬ ((0 ≤ a ∧ a < m 193 7) ∧ 0 ≤ b ∧ b < 2) → v = -2) ∧ (∀ i j : Nat, a = (i : Int) → b = (j : Int) → ((0 ≤ a ∧ a < m 193 7) ∧ 0 ≤ b ∧ b < 2) → v = m 193 (47 + 2 * i + j)))) := by
  have bf := gb_193_7 hm
  refine gx_st (L' := [(2, 192), (0, a), (0, b)]) (S' := [(2, 192)]) r_121_0 rfl rfl rfl ?_
  refine gx_st (L' := [(2, 192), (0, a), (0, b)]) (S' := [(0, a), (2, 192)]) r_121_1 rfl rfl rfl ?_
  refine gx_ci (nx := 5) (S2 := []) (x_96 hT hm a) r_121_2 rfl rfl rfl rfl rfl (rcv_v rfl (ty_192 hT) (by decide) rfl (by decide)) rfl (by decide) rfl (fun x2 n2 q2 => ?_)
  obtain rfl := q2.1.symm
  obtain rfl := q2.2.symm
  show GX T 2 121 5 [(2, 192), (0, a), (0, b)] [(0, (if 0 ≤ a ∧ a ≤ m 193 7 - 1 then 1 else 0))] m (RI (fun v m1 => (¬ ((0 ≤ a ∧ a < m 193 7) ∧ 0 ≤ b ∧ b < 2) → v = -2) ∧ (∀ i j : Nat, a = (i : Int) → b = (j : Int) → ((0 ≤ a ∧ a < m 193 7) ∧ 0 ≤ b ∧ b < 2) → v = m 193 (47 + 2 * i + j))))
  refine gx_i0 (P := ¬ (0 ≤ a ∧ a ≤ m 193 7 - 1)) r_121_5 (b01_eq) (fun h5 => ?_) (fun h5 => ?_)
  · refine gx_st (L' := [(2, 192), (0, a), (0, b)]) (S' := [(0, (-2))]) r_121_34 rfl rfl rfl ?_
    exact gx_rt r_121_36 rfl rfl ⟨_, rfl, fun z => rfl, fun i j e1 e2 hb => (by exfalso; omega)⟩
  · have h5 := Decidable.not_not.mp h5
    refine gx_st (L' := [(2, 192), (0, a), (0, b)]) (S' := [(0, b)]) r_121_8 rfl rfl rfl ?_
    refine gx_st (L' := [(2, 192), (0, a), (0, b)]) (S' := [(1, b)]) r_121_9 rfl rfl rfl ?_
    refine gx_st (L' := [(2, 192), (0, a), (0, b)]) (S' := [(1, 0), (1, b)]) r_121_10 rfl rfl rfl ?_
    refine gx_st (L' := [(2, 192), (0, a), (0, b)]) (S' := [(1, 1), (1, 0), (1, b)]) r_121_11 rfl rfl rfl ?_
    refine gx_ci (nx := 15) (S2 := []) (x_86 b 0 1) r_121_12 rfl rfl rfl rfl rfl rfl rfl (by decide) rfl (fun x12 n12 q12 => ?_)
    obtain rfl := q12.1.symm
    obtain rfl := q12.2.symm
    show GX T 2 121 15 [(2, 192), (0, a), (0, b)] [(0, (if 0 ≤ b ∧ b ≤ 1 then 1 else 0))] m (RI (fun v m1 => (¬ ((0 ≤ a ∧ a < m 193 7) ∧ 0 ≤ b ∧ b < 2) → v = -2) ∧ (∀ i j : Nat, a = (i : Int) → b = (j : Int) → ((0 ≤ a ∧ a < m 193 7) ∧ 0 ≤ b ∧ b < 2) → v = m 193 (47 + 2 * i + j))))
    refine gx_i0 (P := ¬ (0 ≤ b ∧ b ≤ 1)) r_121_15 (b01_eq) (fun h15 => ?_) (fun h15 => ?_)
    · refine gx_st (L' := [(2, 192), (0, a), (0, b)]) (S' := [(0, (-2))]) r_121_34 rfl rfl rfl ?_
      exact gx_rt r_121_36 rfl rfl ⟨_, rfl, fun z => rfl, fun i j e1 e2 hb => (by exfalso; omega)⟩
    · have h15 := Decidable.not_not.mp h15
      obtain ⟨ii, hia⟩ : ∃ i : Nat, a = (i : Int) := ⟨a.toNat, by omega⟩
      rw [hia]
      obtain ⟨jj, hib⟩ : ∃ j : Nat, b = (j : Int) := ⟨b.toNat, by omega⟩
      have hj2 : jj < 2 := by omega
      rw [hib]
      refine gx_st (L' := [(2, 192), (0, (ii : Int)), (0, (jj : Int))]) (S' := [(2, 192)]) r_121_18 rfl rfl rfl ?_
      refine gx_gf (x := 193) 2 r_121_19 (rfl) (ty_192 hT) ⟨by decide, rfl, by decide, by decide⟩ rfl (fun _ => by omega) (pin_at hp (t := 193) rfl (by decide)) ?_
      refine gx_st (L' := [(2, 192), (0, (ii : Int)), (0, (jj : Int))]) (S' := [(0, 47), (2, 193)]) r_121_22 rfl rfl rfl ?_
      refine gx_st (L' := [(2, 192), (0, (ii : Int)), (0, (jj : Int))]) (S' := [(0, 2), (0, 47), (2, 193)]) r_121_24 rfl rfl rfl ?_
      refine gx_st (L' := [(2, 192), (0, (ii : Int)), (0, (jj : Int))]) (S' := [(0, (ii : Int)), (0, 2), (0, 47), (2, 193)]) r_121_25 rfl rfl rfl ?_
      refine gx_ar (L' := [(2, 192), (0, (ii : Int)), (0, (jj : Int))]) (S' := [(0, 47), (2, 193)]) (t := 0) (e := w32 (2 * (ii : Int))) (z := 2 * (ii : Int)) r_121_26 rfl rfl rfl (w32_eq (by omega) (by omega) (by omega)) ?_
      refine gx_ar (L' := [(2, 192), (0, (ii : Int)), (0, (jj : Int))]) (S' := [(2, 193)]) (t := 0) (e := w32 (47 + (2 * (ii : Int)))) (z := 2 * (ii : Int) + 47) r_121_27 rfl rfl rfl (w32_eq (by omega) (by omega) (by omega)) ?_
      refine gx_st (L' := [(2, 192), (0, (ii : Int)), (0, (jj : Int))]) (S' := [(0, (jj : Int)), (0, 2 * (ii : Int) + 47), (2, 193)]) r_121_28 rfl rfl rfl ?_
      refine gx_ar (L' := [(2, 192), (0, (ii : Int)), (0, (jj : Int))]) (S' := [(2, 193)]) (t := 0) (e := w32 ((2 * (ii : Int) + 47) + (jj : Int))) (z := 2 * (ii : Int) + (jj : Int) + 47) r_121_29 rfl rfl rfl (w32_eq (by omega) (by omega) (by omega)) ?_
      refine gx_ia (n := 47 + 2 * ii + jj) (x := (m 193 (47 + 2 * ii + jj))) r_121_30 (rfl) (ty_193 hT) (by omega) ⟨rfl, by omega⟩ (rfl) ?_
      refine gx_st (L' := [(2, 192), (0, (ii : Int)), (0, (jj : Int))]) (S' := [(0, (m 193 (47 + 2 * ii + jj)))]) r_121_31 rfl rfl rfl ?_
      exact gx_rt r_121_36 rfl rfl ⟨_, rfl, fun z => absurd z (by omega), fun i j e1 e2 hb => by rw [show i = ii by omega, show j = jj by omega]⟩
theorem y_122 (hT : TT T) (hm : Gam m) (hp : PinR m) : GX T 1 122 0 [(2, 192)] [] m (RI (fun v m1 => v = (if 0 < m 193 9 then m 193 10 else -2))) := by
  refine gx_st (L' := [(2, 192)]) (S' := [(2, 192)]) r_122_0 rfl rfl rfl ?_
  refine gx_ci (nx := 4) (S2 := []) (x_90 hT hm) r_122_1 rfl rfl rfl rfl rfl (rcv_v rfl (ty_192 hT) (by decide) rfl (by decide)) rfl (by decide) rfl (fun x1 n1 q1 => ?_)
  obtain rfl := q1.1.symm
  obtain rfl := q1.2.symm
  show GX T 1 122 4 [(2, 192)] [(0, (if 0 < m 193 9 then 1 else 0))] m (RI (fun v m1 => v = (if 0 < m 193 9 then m 193 10 else -2)))
  refine gx_i0 (P := ¬ (0 < m 193 9)) r_122_4 (b01_eq) (fun h4 => ?_) (fun h4 => ?_)
  · refine gx_st (L' := [(2, 192)]) (S' := [(0, (-2))]) r_122_17 rfl rfl rfl ?_
    exact gx_rt r_122_19 rfl rfl ⟨_, rfl, (if_neg (by omega)).symm⟩
  · have h4 := Decidable.not_not.mp h4
    refine gx_st (L' := [(2, 192)]) (S' := [(2, 192)]) r_122_7 rfl rfl rfl ?_
    refine gx_gf (x := 193) 2 r_122_8 (rfl) (ty_192 hT) ⟨by decide, rfl, by decide, by decide⟩ rfl (fun _ => by omega) (pin_at hp (t := 193) rfl (by decide)) ?_
    refine gx_st (L' := [(2, 192)]) (S' := [(0, 10), (2, 193)]) r_122_11 rfl rfl rfl ?_
    refine gx_ia (n := 10) (x := (m 193 10)) r_122_13 (rfl) (ty_193 hT) (rfl) ⟨rfl, by decide⟩ (rfl) ?_
    refine gx_st (L' := [(2, 192)]) (S' := [(0, (m 193 10))]) r_122_14 rfl rfl rfl ?_
    exact gx_rt r_122_19 rfl rfl ⟨_, rfl, (if_pos (by omega)).symm⟩
/-- the isle at o is as the isle at s was -/
def CpI (m m1 : Mm) (s o : Nat) : Prop := (∀ i : Nat, i < 10 → m1 o i = m s i) ∧ (∀ k : Nat, k < 5 → m1 (o + 1) k = m (s + 1) k) ∧ (∀ k : Nat, k < 5 → m1 (o + 2) k = m (s + 2) k) ∧ (∀ k : Nat, k < 3 → m1 (o + 3) k = m (s + 3) k) ∧ (∀ k : Nat, k < 3 → m1 (o + 4) k = m (s + 4) k) ∧ (∀ k : Nat, k < 5 → m1 (o + 5) k = m (s + 5) k) ∧ (∀ k : Nat, k < 5 → m1 (o + 6) k = m (s + 6) k) ∧ (∀ k : Nat, k < 7 → m1 (o + 7) k = m (s + 7) k) ∧ (∀ k : Nat, k < 49 → m1 (o + 8) k = m (s + 8) k)
/-- the acts at o are as the acts at s were -/
def CpA (m m1 : Mm) (s o : Nat) : Prop := (∀ k : Nat, k < 12 → m1 (o + 1) k = m (s + 1) k) ∧ (∀ k : Nat, k < 12 → m1 (o + 2) k = m (s + 2) k) ∧ m1 o 2 = m s 2
theorem ke_i2 : ∀ i : Nat, i < 3 → pinF 154 i = 156 + 12 * i ∧ pinF 155 i = 165 + 12 * i := by decide +kernel
theorem isl_i2 : ∀ i : Nat, i < 3 → ([4, 13, 156, 168, 180] : List Nat).contains (156 + 12 * i) = true ∧ ([22, 25, 165, 177, 189] : List Nat).contains (165 + 12 * i) = true := by decide +kernel
theorem kp_gq : ∀ i : Nat, i < 3 → tyO (156 + 12 * i) = 78 ∧ tyO (165 + 12 * i) = 87 := by decide +kernel
theorem gq_kx {k i : Nat} (hi : i < 3) (h : k = 156 + 12 * i) : gq0 (2, 78, 0) (2, (k : Int)) := (gq_2 rfl).mpr ⟨rfl, by show (0 : Int) < (k : Int); omega, by show (k : Int) < 213; omega, by
  show (tyO ((k : Int)).toNat : Int) = 78
  rw [show ((k : Int)).toNat = k from rfl, h, (kp_gq i hi).1]
  rfl⟩
theorem gq_kz {k i : Nat} (hi : i < 3) (h : k = 165 + 12 * i) : gq0 (2, 87, 0) (2, (k : Int)) := (gq_2 rfl).mpr ⟨rfl, by show (0 : Int) < (k : Int); omega, by show (k : Int) < 213; omega, by
  show (tyO ((k : Int)).toNat : Int) = 87
  rw [show ((k : Int)).toNat = k from rfl, h, (kp_gq i hi).2]
  rfl⟩
set_option maxRecDepth 100000 in
theorem cu_571 : conL[571]? = some (254, [(2, 78, 0), (2, 4, 0)], (9, 0, 0), [78000, 78001, 78002, 78003, 78004, 78005, 78006, 78007, 78008, 78009, 79999, 80999, 81999, 82999, 83999, 84999, 85999, 86999], 1) := rfl
theorem pu_571 (hT : TT T) : ConH T (254, [(2, 78, 0), (2, 4, 0)], (9, 0, 0), [78000, 78001, 78002, 78003, 78004, 78005, 78006, 78007, 78008, 78009, 79999, 80999, 81999, 82999, 83999, 84999, 85999, 86999], 1) := fun args m => ((all_con hT 571).1 (by decide)) _ cu_571 args m
set_option maxRecDepth 100000 in
theorem cu_588 : conL[588]? = some (254, [(2, 4, 0), (2, 78, 0)], (9, 0, 0), [4000, 4001, 4002, 4003, 4004, 4005, 4006, 4007, 4008, 4009, 5999, 6999, 7999, 8999, 9999, 10999, 11999, 12999], 1) := rfl
theorem pu_588 (hT : TT T) : ConH T (254, [(2, 4, 0), (2, 78, 0)], (9, 0, 0), [4000, 4001, 4002, 4003, 4004, 4005, 4006, 4007, 4008, 4009, 5999, 6999, 7999, 8999, 9999, 10999, 11999, 12999], 1) := fun args m => ((all_con hT 588).1 (by decide)) _ cu_588 args m
set_option maxRecDepth 100000 in
theorem cu_574 : conL[574]? = some (236, [(2, 87, 0), (2, 22, 0)], (9, 0, 0), [87002, 88999, 89999], 1) := rfl
theorem pu_574 (hT : TT T) : ConH T (236, [(2, 87, 0), (2, 22, 0)], (9, 0, 0), [87002, 88999, 89999], 1) := fun args m => ((all_con hT 574).1 (by decide)) _ cu_574 args m
set_option maxRecDepth 100000 in
theorem cu_591 : conL[591]? = some (236, [(2, 22, 0), (2, 87, 0)], (9, 0, 0), [22002, 23999, 24999], 1) := rfl
theorem pu_591 (hT : TT T) : ConH T (236, [(2, 22, 0), (2, 87, 0)], (9, 0, 0), [22002, 23999, 24999], 1) := fun args m => ((all_con hT 591).1 (by decide)) _ cu_591 args m
theorem z_66 (hT : TT T) (hm : Gam m) (hp : PinR m) (a : Int) : GX T 2 66 0 [(2, 1), (0, a)] [] m (RI (fun v m1 => (¬ (0 ≤ a ∧ a < 3) → v = -2 ∧ m1 = m) ∧ ∀ i : Nat, i < 3 → a = (i : Int) → v = 0 ∧ CpI m m1 4 (156 + 12 * i) ∧ CpA m m1 22 (165 + 12 * i) ∧ m1 1 14 = ior (m 1 14) (ishl 1 (i : Int)) ∧ ∀ p j : Nat, ¬ (156 + 12 * i ≤ p ∧ p ≤ 167 + 12 * i) → ¬ (p = 1 ∧ j = 14) → m1 p j = m p j)) := by
  refine gx_st (L' := [(2, 1), (0, a)]) (S' := [(0, a)]) r_66_0 rfl rfl rfl ?_
  refine gx_st (L' := [(2, 1), (0, a)]) (S' := [(2, 1), (0, a)]) r_66_1 rfl rfl rfl ?_
  refine gx_gf (x := 154) 2 r_66_2 (rfl) (ty_1 hT) ⟨by decide, rfl, by decide, by decide⟩ rfl (fun _ => by omega) (pin_at hp (t := 154) rfl (by decide)) ?_
  refine gx_al r_66_5 (rfl) (ty_154 hT) ⟨by decide, by decide, by decide⟩ ?_
  show GX T 2 66 6 [(2, 1), (0, a)] [(0, 3), (0, a)] m (RI (fun v m1 => (¬ (0 ≤ a ∧ a < 3) → v = -2 ∧ m1 = m) ∧ ∀ i : Nat, i < 3 → a = (i : Int) → v = 0 ∧ CpI m m1 4 (156 + 12 * i) ∧ CpA m m1 22 (165 + 12 * i) ∧ m1 1 14 = ior (m 1 14) (ishl 1 (i : Int)) ∧ ∀ p j : Nat, ¬ (156 + 12 * i ≤ p ∧ p ≤ 167 + 12 * i) → ¬ (p = 1 ∧ j = 14) → m1 p j = m p j))
  refine gx_ci (nx := 9) (S2 := []) (x_71 a 3) r_66_6 rfl rfl rfl rfl rfl rfl rfl (by decide) rfl (fun x6 n6 q6 => ?_)
  obtain rfl := q6.1.symm
  obtain rfl := q6.2.symm
  show GX T 2 66 9 [(2, 1), (0, a)] [(0, (if 0 ≤ a ∧ a < 3 then 1 else 0))] m (RI (fun v m1 => (¬ (0 ≤ a ∧ a < 3) → v = -2 ∧ m1 = m) ∧ ∀ i : Nat, i < 3 → a = (i : Int) → v = 0 ∧ CpI m m1 4 (156 + 12 * i) ∧ CpA m m1 22 (165 + 12 * i) ∧ m1 1 14 = ior (m 1 14) (ishl 1 (i : Int)) ∧ ∀ p j : Nat, ¬ (156 + 12 * i ≤ p ∧ p ≤ 167 + 12 * i) → ¬ (p = 1 ∧ j = 14) → m1 p j = m p j))
  refine gx_i0 (P := ¬ (0 ≤ a ∧ a < 3)) r_66_9 (b01_eq) (fun h9 => ?_) (fun h9 => ?_)
  · refine gx_st (L' := [(2, 1), (0, a)]) (S' := [(0, (-2))]) r_66_24 rfl rfl rfl ?_
    exact gx_rt r_66_26 rfl rfl ⟨_, rfl, fun _ => ⟨rfl, rfl⟩, fun i2 hi2 h2 => (by exfalso; omega)⟩
  · have h9 := Decidable.not_not.mp h9
    refine gx_st (L' := [(2, 1), (0, a)]) (S' := [(0, a)]) r_66_12 rfl rfl rfl ?_
    refine gx_st (L' := [(2, 1), (0, a)]) (S' := [(2, 1), (0, a)]) r_66_13 rfl rfl rfl ?_
    refine gx_gf (x := 155) 2 r_66_14 (rfl) (ty_1 hT) ⟨by decide, rfl, by decide, by decide⟩ rfl (fun _ => by omega) (pin_at hp (t := 155) rfl (by decide)) ?_
    refine gx_al r_66_17 (rfl) (ty_155 hT) ⟨by decide, by decide, by decide⟩ ?_
    show GX T 2 66 18 [(2, 1), (0, a)] [(0, 3), (0, a)] m (RI (fun v m1 => (¬ (0 ≤ a ∧ a < 3) → v = -2 ∧ m1 = m) ∧ ∀ i : Nat, i < 3 → a = (i : Int) → v = 0 ∧ CpI m m1 4 (156 + 12 * i) ∧ CpA m m1 22 (165 + 12 * i) ∧ m1 1 14 = ior (m 1 14) (ishl 1 (i : Int)) ∧ ∀ p j : Nat, ¬ (156 + 12 * i ≤ p ∧ p ≤ 167 + 12 * i) → ¬ (p = 1 ∧ j = 14) → m1 p j = m p j))
    refine gx_ci (nx := 21) (S2 := []) (x_71 a 3) r_66_18 rfl rfl rfl rfl rfl rfl rfl (by decide) rfl (fun x18 n18 q18 => ?_)
    obtain rfl := q18.1.symm
    obtain rfl := q18.2.symm
    show GX T 2 66 21 [(2, 1), (0, a)] [(0, (if 0 ≤ a ∧ a < 3 then 1 else 0))] m (RI (fun v m1 => (¬ (0 ≤ a ∧ a < 3) → v = -2 ∧ m1 = m) ∧ ∀ i : Nat, i < 3 → a = (i : Int) → v = 0 ∧ CpI m m1 4 (156 + 12 * i) ∧ CpA m m1 22 (165 + 12 * i) ∧ m1 1 14 = ior (m 1 14) (ishl 1 (i : Int)) ∧ ∀ p j : Nat, ¬ (156 + 12 * i ≤ p ∧ p ≤ 167 + 12 * i) → ¬ (p = 1 ∧ j = 14) → m1 p j = m p j))
    refine gx_i0 (P := 0 ≤ a ∧ a < 3) r_66_21 (b01_ne) (fun h21 => ?_) (fun h21 => ?_)
    · obtain ⟨ii, hia⟩ : ∃ i : Nat, a = (i : Int) := ⟨a.toNat, by omega⟩
      have hi : ii < 3 := by omega
      obtain ⟨o, h_o⟩ : ∃ o : Nat, o = 156 + 12 * ii := ⟨_, rfl⟩
      obtain ⟨p, h_p⟩ : ∃ o : Nat, o = 165 + 12 * ii := ⟨_, rfl⟩
      have ho : IsleT T o := IsleT_of hT (by rw [h_o]; exact (isl_i2 ii hi).1)
      have hq : ActsT T p := ActsT_of hT (by rw [h_p]; exact (isl_i2 ii hi).2)
      have hor : IsleR m o := IsleR_of hp (by rw [h_o]; exact (isl_i2 ii hi).1)
      have hqr : ActsR m p := ActsR_of hp (by rw [h_p]; exact (isl_i2 ii hi).2)
      have ho0 := ho.1
      have hq0 := hq.1
      rw [hia]
      refine gx_st (L' := [(2, 1), (0, (ii : Int))]) (S' := [(2, 1)]) r_66_27 rfl rfl rfl ?_
      refine gx_gf (x := 154) 2 r_66_28 (rfl) (ty_1 hT) ⟨by decide, rfl, by decide, by decide⟩ rfl (fun _ => by omega) (pin_at hp (t := 154) rfl (by decide)) ?_
      refine gx_st (L' := [(2, 1), (0, (ii : Int))]) (S' := [(0, (ii : Int)), (2, 154)]) r_66_31 rfl rfl rfl ?_
      refine gx_aa (n := ii) (x := (o : Int)) r_66_32 (rfl) (by omega) (ty_154 hT) (by omega) ⟨by decide, by decide, by omega⟩ ((by rw [h_o]; exact pin_at hp (ke_i2 ii hi).1 (by omega))) (by omega) ?_
      refine gx_st (L' := [(2, 1), (0, (ii : Int))]) (S' := [(2, 1), (2, (o : Int))]) r_66_33 rfl rfl rfl ?_
      refine gx_gf (x := 4) 2 r_66_34 (rfl) (ty_1 hT) ⟨by decide, rfl, by decide, by decide⟩ rfl (fun _ => by omega) (pin_at hp (t := 4) rfl (by decide)) ?_
      refine gx_cv (nx := 40) (S2 := []) (gx_av (z_254 (o := o) (s := 4) ho (IsleT_of hT rfl) hor (IsleR_of hp rfl) (Or.inr (by omega))) (gx_hv (args := [(2, (o : Int)), (2, 4)]) (pu_571 hT) ⟨gq_kx hi h_o, gq_o4y2, trivial⟩ hm rfl)) r_66_37 rfl rfl rfl rfl rfl (rcv_v rfl (tisle_0 ho) (by omega) rfl (by decide)) rfl (by decide) rfl (fun n37 q37 => ?_)
      obtain ⟨⟨i1, i2, i3⟩, ig, iF⟩ := q37
      have pI : PinR n37 := PinR_fr iF (by decide) hp
      have aR : ActsR n37 22 := ActsR_of pI rfl
      have bR : ActsR n37 p := ActsR_of pI (by rw [h_p]; exact (isl_i2 ii hi).2)
      refine gx_st (L' := [(2, 1), (0, (ii : Int))]) (S' := [(2, 1)]) r_66_40 rfl rfl rfl ?_
      refine gx_gf (x := 155) 2 r_66_41 (rfl) (ty_1 hT) ⟨by decide, rfl, by decide, by decide⟩ rfl (fun _ => by omega) (pin_at pI (t := 155) rfl (by decide)) ?_
      refine gx_st (L' := [(2, 1), (0, (ii : Int))]) (S' := [(0, (ii : Int)), (2, 155)]) r_66_44 rfl rfl rfl ?_
      refine gx_aa (n := ii) (x := (p : Int)) r_66_45 (rfl) (by omega) (ty_155 hT) (by omega) ⟨by decide, by decide, by omega⟩ ((by rw [h_p]; exact pin_at pI (ke_i2 ii hi).2 (by omega))) (by omega) ?_
      refine gx_st (L' := [(2, 1), (0, (ii : Int))]) (S' := [(2, 1), (2, (p : Int))]) r_66_46 rfl rfl rfl ?_
      refine gx_gf (x := 22) 2 r_66_47 (rfl) (ty_1 hT) ⟨by decide, rfl, by decide, by decide⟩ rfl (fun _ => by omega) (pin_at pI (t := 22) rfl (by decide)) ?_
      refine gx_cv (nx := 53) (S2 := []) (gx_av (z_236 (o := p) (s := 22) hq (ActsT_of hT rfl) bR aR (Or.inr (by omega))) (gx_hv (args := [(2, (p : Int)), (2, 22)]) (pu_574 hT) ⟨gq_kz hi h_p, gq_o22y2, trivial⟩ ig rfl)) r_66_50 rfl rfl rfl rfl rfl (rcv_v rfl (tacts_0 hq) (by omega) rfl (by decide)) rfl (by decide) rfl (fun n50 q50 => ?_)
      obtain ⟨⟨a1, a2, a3, a4⟩, ag, aF⟩ := q50
      have pA : PinR n50 := PinR_fr aF (by decide) pI
      refine gx_st (L' := [(2, 1), (0, (ii : Int))]) (S' := [(2, 1)]) r_66_53 rfl rfl rfl ?_
      refine gx_st (L' := [(2, 1), (0, (ii : Int))]) (S' := [(2, 1), (2, 1)]) r_66_54 rfl rfl rfl ?_
      refine gx_gf (x := (n50 1 14)) 0 r_66_55 (rfl) (ty_1 hT) ⟨by decide, rfl, by decide, by decide⟩ rfl (fun z => absurd z (by decide)) (rfl) ?_
      refine gx_st (L' := [(2, 1), (0, (ii : Int))]) (S' := [(0, 1), (0, (n50 1 14)), (2, 1)]) r_66_58 rfl rfl rfl ?_
      refine gx_st (L' := [(2, 1), (0, (ii : Int))]) (S' := [(0, (ii : Int)), (0, 1), (0, (n50 1 14)), (2, 1)]) r_66_59 rfl rfl rfl ?_
      refine gx_st (L' := [(2, 1), (0, (ii : Int))]) (S' := [(0, (ishl 1 (ii : Int))), (0, (n50 1 14)), (2, 1)]) r_66_60 rfl rfl rfl ?_
      refine gx_st (L' := [(2, 1), (0, (ii : Int))]) (S' := [(0, (ior (n50 1 14) ((ishl 1 (ii : Int))))), (2, 1)]) r_66_61 rfl rfl rfl ?_
      obtain ⟨m1, e_m1⟩ : ∃ z, z = nu_up n50 1 14 ((ior (n50 1 14) ((ishl 1 (ii : Int))))) := ⟨_, rfl⟩
      refine gx_pf (x := (ior (n50 1 14) ((ishl 1 (ii : Int))))) 0 r_66_62 (rfl) (ty_1 hT) ⟨by decide, rfl, by decide, by decide⟩ rfl (fun z => absurd z (by decide)) (fun z => absurd z (by decide)) e_m1.symm ?_
      refine gx_st (L' := [(2, 1), (0, (ii : Int))]) (S' := [(0, 0)]) r_66_65 rfl rfl rfl ?_
      refine gx_rt r_66_66 rfl rfl ⟨_, rfl, fun z => absurd z (by omega), fun j hj h2 => ?_⟩
      obtain rfl : ii = j := by omega
      rw [← h_o, ← h_p]
      have u : ∀ p2 j : Nat, ¬ p2 = 1 → m1 p2 j = n50 p2 j := fun p2 j h => by rw [e_m1, nu_no h]
      refine ⟨rfl, ⟨fun i h => (u o i (by omega)).trans ((a4 o i (by omega) (by omega) (by omega)).trans (i1 i h)), fun k hk => (u (o + 1) k (by omega)).trans ((a4 (o + 1) k (by omega) (by omega) (by omega)).trans (i2.1 k hk)), fun k hk => (u (o + 2) k (by omega)).trans ((a4 (o + 2) k (by omega) (by omega) (by omega)).trans (i2.2.1 k hk)), fun k hk => (u (o + 3) k (by omega)).trans ((a4 (o + 3) k (by omega) (by omega) (by omega)).trans (i2.2.2.1 k hk)), fun k hk => (u (o + 4) k (by omega)).trans ((a4 (o + 4) k (by omega) (by omega) (by omega)).trans (i2.2.2.2.1 k hk)), fun k hk => (u (o + 5) k (by omega)).trans ((a4 (o + 5) k (by omega) (by omega) (by omega)).trans (i2.2.2.2.2.1 k hk)), fun k hk => (u (o + 6) k (by omega)).trans ((a4 (o + 6) k (by omega) (by omega) (by omega)).trans (i2.2.2.2.2.2.1 k hk)), fun k hk => (u (o + 7) k (by omega)).trans ((a4 (o + 7) k (by omega) (by omega) (by omega)).trans (i2.2.2.2.2.2.2.1 k hk)), fun k hk => (u (o + 8) k (by omega)).trans ((a4 (o + 8) k (by omega) (by omega) (by omega)).trans (i2.2.2.2.2.2.2.2 k hk))⟩, ⟨fun k hk => (u (p + 1) k (by omega)).trans ((a1 k hk).trans (i3 23 k (by omega) (by omega))), fun k hk => (u (p + 2) k (by omega)).trans ((a2 k hk).trans (i3 24 k (by omega) (by omega))), (u p 2 (by omega)).trans (a3.trans (i3 22 2 (by omega) (by omega)))⟩, by rw [e_m1, nu_at, a4 1 14 (by omega) (by omega) (by omega), i3 1 14 (by omega) (by omega)], fun p2 j h1 h2 => ?_⟩
      rw [e_m1]
      have z : n50 p2 j = m p2 j := (a4 p2 j (by omega) (by omega) (by omega)).trans (i3 p2 j (by omega) (by omega))
      by_cases e : p2 = 1
      · subst e; rw [nu_ne (fun y => h2 ⟨rfl, y⟩)]; exact z
      · rw [nu_no e]; exact z
    · refine gx_st (L' := [(2, 1), (0, a)]) (S' := [(0, (-2))]) r_66_24 rfl rfl rfl ?_
      exact gx_rt r_66_26 rfl rfl ⟨_, rfl, fun _ => ⟨rfl, rfl⟩, fun i2 hi2 h2 => (by exfalso; omega)⟩
theorem z_67 (hT : TT T) (hm : Gam m) (hp : PinR m) (a : Int) : GX T 6 67 0 [(2, 1), (0, a)] [] m (RI (fun v m1 => (¬ (0 ≤ a ∧ a < 3) → v = -2 ∧ m1 = m) ∧ ∀ i : Nat, i < 3 → a = (i : Int) → (¬ iand (ishr (m 1 14) (i : Int)) 1 = 1 → v = -6 ∧ m1 = m) ∧ (iand (ishr (m 1 14) (i : Int)) 1 = 1 → v = 0 ∧ CpI m m1 (156 + 12 * i) 4 ∧ CpA m m1 (165 + 12 * i) 22))) := by
  refine gx_st (L' := [(2, 1), (0, a)]) (S' := [(0, a)]) r_67_0 rfl rfl rfl ?_
  refine gx_st (L' := [(2, 1), (0, a)]) (S' := [(2, 1), (0, a)]) r_67_1 rfl rfl rfl ?_
  refine gx_gf (x := 154) 2 r_67_2 (rfl) (ty_1 hT) ⟨by decide, rfl, by decide, by decide⟩ rfl (fun _ => by omega) (pin_at hp (t := 154) rfl (by decide)) ?_
  refine gx_al r_67_5 (rfl) (ty_154 hT) ⟨by decide, by decide, by decide⟩ ?_
  show GX T 6 67 6 [(2, 1), (0, a)] [(0, 3), (0, a)] m (RI (fun v m1 => (¬ (0 ≤ a ∧ a < 3) → v = -2 ∧ m1 = m) ∧ ∀ i : Nat, i < 3 → a = (i : Int) → (¬ iand (ishr (m 1 14) (i : Int)) 1 = 1 → v = -6 ∧ m1 = m) ∧ (iand (ishr (m 1 14) (i : Int)) 1 = 1 → v = 0 ∧ CpI m m1 (156 + 12 * i) 4 ∧ CpA m m1 (165 + 12 * i) 22)))
  refine gx_ci (nx := 9) (S2 := []) (x_71 a 3) r_67_6 rfl rfl rfl rfl rfl rfl rfl (by decide) rfl (fun x6 n6 q6 => ?_)
  obtain rfl := q6.1.symm
  obtain rfl := q6.2.symm
  show GX T 6 67 9 [(2, 1), (0, a)] [(0, (if 0 ≤ a ∧ a < 3 then 1 else 0))] m (RI (fun v m1 => (¬ (0 ≤ a ∧ a < 3) → v = -2 ∧ m1 = m) ∧ ∀ i : Nat, i < 3 → a = (i : Int) → (¬ iand (ishr (m 1 14) (i : Int)) 1 = 1 → v = -6 ∧ m1 = m) ∧ (iand (ishr (m 1 14) (i : Int)) 1 = 1 → v = 0 ∧ CpI m m1 (156 + 12 * i) 4 ∧ CpA m m1 (165 + 12 * i) 22)))
  refine gx_i0 (P := ¬ (0 ≤ a ∧ a < 3)) r_67_9 (b01_eq) (fun h9 => ?_) (fun h9 => ?_)
  · refine gx_st (L' := [(2, 1), (0, a)]) (S' := [(0, (-2))]) r_67_24 rfl rfl rfl ?_
    exact gx_rt r_67_26 rfl rfl ⟨_, rfl, fun _ => ⟨rfl, rfl⟩, fun i2 hi2 h2 => (by exfalso; omega)⟩
  · have h9 := Decidable.not_not.mp h9
    refine gx_st (L' := [(2, 1), (0, a)]) (S' := [(0, a)]) r_67_12 rfl rfl rfl ?_
    refine gx_st (L' := [(2, 1), (0, a)]) (S' := [(2, 1), (0, a)]) r_67_13 rfl rfl rfl ?_
    refine gx_gf (x := 155) 2 r_67_14 (rfl) (ty_1 hT) ⟨by decide, rfl, by decide, by decide⟩ rfl (fun _ => by omega) (pin_at hp (t := 155) rfl (by decide)) ?_
    refine gx_al r_67_17 (rfl) (ty_155 hT) ⟨by decide, by decide, by decide⟩ ?_
    show GX T 6 67 18 [(2, 1), (0, a)] [(0, 3), (0, a)] m (RI (fun v m1 => (¬ (0 ≤ a ∧ a < 3) → v = -2 ∧ m1 = m) ∧ ∀ i : Nat, i < 3 → a = (i : Int) → (¬ iand (ishr (m 1 14) (i : Int)) 1 = 1 → v = -6 ∧ m1 = m) ∧ (iand (ishr (m 1 14) (i : Int)) 1 = 1 → v = 0 ∧ CpI m m1 (156 + 12 * i) 4 ∧ CpA m m1 (165 + 12 * i) 22)))
    refine gx_ci (nx := 21) (S2 := []) (x_71 a 3) r_67_18 rfl rfl rfl rfl rfl rfl rfl (by decide) rfl (fun x18 n18 q18 => ?_)
    obtain rfl := q18.1.symm
    obtain rfl := q18.2.symm
    show GX T 6 67 21 [(2, 1), (0, a)] [(0, (if 0 ≤ a ∧ a < 3 then 1 else 0))] m (RI (fun v m1 => (¬ (0 ≤ a ∧ a < 3) → v = -2 ∧ m1 = m) ∧ ∀ i : Nat, i < 3 → a = (i : Int) → (¬ iand (ishr (m 1 14) (i : Int)) 1 = 1 → v = -6 ∧ m1 = m) ∧ (iand (ishr (m 1 14) (i : Int)) 1 = 1 → v = 0 ∧ CpI m m1 (156 + 12 * i) 4 ∧ CpA m m1 (165 + 12 * i) 22)))
    refine gx_i0 (P := 0 ≤ a ∧ a < 3) r_67_21 (b01_ne) (fun h21 => ?_) (fun h21 => ?_)
    · refine gx_st (L' := [(2, 1), (0, a)]) (S' := [(2, 1)]) r_67_27 rfl rfl rfl ?_
      refine gx_gf (x := (m 1 14)) 0 r_67_28 (rfl) (ty_1 hT) ⟨by decide, rfl, by decide, by decide⟩ rfl (fun z => absurd z (by decide)) (rfl) ?_
      refine gx_st (L' := [(2, 1), (0, a)]) (S' := [(0, a), (0, (m 1 14))]) r_67_31 rfl rfl rfl ?_
      refine gx_ci (nx := 35) (S2 := []) (x_242 (m 1 14) a) r_67_32 rfl rfl rfl rfl rfl rfl rfl (by decide) rfl (fun x32 n32 q32 => ?_)
      obtain rfl := q32.1.symm
      obtain rfl := q32.2.symm
      show GX T 6 67 35 [(2, 1), (0, a)] [(0, (if 0 ≤ a ∧ a < 32 ∧ iand (ishr (m 1 14) a) 1 = 1 then 1 else 0))] m (RI (fun v m1 => (¬ (0 ≤ a ∧ a < 3) → v = -2 ∧ m1 = m) ∧ ∀ i : Nat, i < 3 → a = (i : Int) → (¬ iand (ishr (m 1 14) (i : Int)) 1 = 1 → v = -6 ∧ m1 = m) ∧ (iand (ishr (m 1 14) (i : Int)) 1 = 1 → v = 0 ∧ CpI m m1 (156 + 12 * i) 4 ∧ CpA m m1 (165 + 12 * i) 22)))
      refine gx_i0 (P := 0 ≤ a ∧ a < 32 ∧ iand (ishr (m 1 14) a) 1 = 1) r_67_35 (b01_ne) (fun h35 => ?_) (fun h35 => ?_)
      · obtain ⟨ii, hia⟩ : ∃ i : Nat, a = (i : Int) := ⟨a.toNat, by omega⟩
        have hi : ii < 3 := by omega
        obtain ⟨o, h_o⟩ : ∃ o : Nat, o = 156 + 12 * ii := ⟨_, rfl⟩
        obtain ⟨p, h_p⟩ : ∃ o : Nat, o = 165 + 12 * ii := ⟨_, rfl⟩
        have ho : IsleT T o := IsleT_of hT (by rw [h_o]; exact (isl_i2 ii hi).1)
        have hq : ActsT T p := ActsT_of hT (by rw [h_p]; exact (isl_i2 ii hi).2)
        have hor : IsleR m o := IsleR_of hp (by rw [h_o]; exact (isl_i2 ii hi).1)
        have hqr : ActsR m p := ActsR_of hp (by rw [h_p]; exact (isl_i2 ii hi).2)
        have ho0 := ho.1
        have hq0 := hq.1
        rw [hia]
        refine gx_st (L' := [(2, 1), (0, (ii : Int))]) (S' := [(2, 1)]) r_67_41 rfl rfl rfl ?_
        refine gx_gf (x := 4) 2 r_67_42 (rfl) (ty_1 hT) ⟨by decide, rfl, by decide, by decide⟩ rfl (fun _ => by omega) (pin_at hp (t := 4) rfl (by decide)) ?_
        refine gx_st (L' := [(2, 1), (0, (ii : Int))]) (S' := [(2, 1), (2, 4)]) r_67_45 rfl rfl rfl ?_
        refine gx_gf (x := 154) 2 r_67_46 (rfl) (ty_1 hT) ⟨by decide, rfl, by decide, by decide⟩ rfl (fun _ => by omega) (pin_at hp (t := 154) rfl (by decide)) ?_
        refine gx_st (L' := [(2, 1), (0, (ii : Int))]) (S' := [(0, (ii : Int)), (2, 154), (2, 4)]) r_67_49 rfl rfl rfl ?_
        refine gx_aa (n := ii) (x := (o : Int)) r_67_50 (rfl) (by omega) (ty_154 hT) (by omega) ⟨by decide, by decide, by omega⟩ ((by rw [h_o]; exact pin_at hp (ke_i2 ii hi).1 (by omega))) (by omega) ?_
        refine gx_cv (nx := 54) (S2 := []) (gx_av (z_254 (o := 4) (s := o) (IsleT_of hT rfl) ho (IsleR_of hp rfl) hor (Or.inl (by omega))) (gx_hv (args := [(2, 4), (2, (o : Int))]) (pu_588 hT) ⟨gq_o4y2, gq_kx hi h_o, trivial⟩ hm rfl)) r_67_51 rfl rfl rfl rfl rfl (rcv_v rfl (ty_4 hT) (by decide) rfl (by decide)) rfl (by decide) rfl (fun n51 q51 => ?_)
        obtain ⟨⟨i1, i2, i3⟩, ig, iF⟩ := q51
        have pI : PinR n51 := PinR_fr iF (by decide) hp
        have aR : ActsR n51 22 := ActsR_of pI rfl
        have bR : ActsR n51 p := ActsR_of pI (by rw [h_p]; exact (isl_i2 ii hi).2)
        refine gx_st (L' := [(2, 1), (0, (ii : Int))]) (S' := [(2, 1)]) r_67_54 rfl rfl rfl ?_
        refine gx_gf (x := 22) 2 r_67_55 (rfl) (ty_1 hT) ⟨by decide, rfl, by decide, by decide⟩ rfl (fun _ => by omega) (pin_at pI (t := 22) rfl (by decide)) ?_
        refine gx_st (L' := [(2, 1), (0, (ii : Int))]) (S' := [(2, 1), (2, 22)]) r_67_58 rfl rfl rfl ?_
        refine gx_gf (x := 155) 2 r_67_59 (rfl) (ty_1 hT) ⟨by decide, rfl, by decide, by decide⟩ rfl (fun _ => by omega) (pin_at pI (t := 155) rfl (by decide)) ?_
        refine gx_st (L' := [(2, 1), (0, (ii : Int))]) (S' := [(0, (ii : Int)), (2, 155), (2, 22)]) r_67_62 rfl rfl rfl ?_
        refine gx_aa (n := ii) (x := (p : Int)) r_67_63 (rfl) (by omega) (ty_155 hT) (by omega) ⟨by decide, by decide, by omega⟩ ((by rw [h_p]; exact pin_at pI (ke_i2 ii hi).2 (by omega))) (by omega) ?_
        refine gx_cv (nx := 67) (S2 := []) (gx_av (z_236 (o := 22) (s := p) (ActsT_of hT rfl) hq aR bR (Or.inl (by omega))) (gx_hv (args := [(2, 22), (2, (p : Int))]) (pu_591 hT) ⟨gq_o22y2, gq_kz hi h_p, trivial⟩ ig rfl)) r_67_64 rfl rfl rfl rfl rfl (rcv_v rfl (ty_22 hT) (by decide) rfl (by decide)) rfl (by decide) rfl (fun n64 q64 => ?_)
        obtain ⟨⟨a1, a2, a3, a4⟩, ag, aF⟩ := q64
        have pA : PinR n64 := PinR_fr aF (by decide) pI
        refine gx_st (L' := [(2, 1), (0, (ii : Int))]) (S' := [(2, 1)]) r_67_67 rfl rfl rfl ?_
        refine gx_cv (nx := 71) (S2 := []) (gx_hv (args := [(2, 1)]) (pu_277 hT) ⟨gq_o1y2, trivial⟩ ag rfl) r_67_68 rfl rfl rfl rfl rfl (rcv_v rfl (ty_1 hT) (by decide) rfl (by decide)) rfl (by decide) rfl (fun n68 q68 => ?_)
        have cF := q68.2
        refine gx_st (L' := [(2, 1), (0, (ii : Int))]) (S' := [(0, 0)]) r_67_71 rfl rfl rfl ?_
        refine gx_rt r_67_72 rfl rfl ⟨_, rfl, fun z => absurd z (by omega), fun j hj h2 => ⟨fun z => absurd (by rw [← h2, ← hia]; exact h35.2.2) z, fun _ => ?_⟩⟩
        obtain rfl : ii = j := by omega
        rw [← h_o, ← h_p]
        exact ⟨rfl, ⟨fun i h => (fr_lo cF (by decide) 4 i (by decide) (by decide) (by omega)).trans ((a4 4 i (by omega) (by decide) (by decide)).trans (i1 i h)), fun k hk => (cF 5 k rfl).trans ((a4 5 k (by omega) (by decide) (by decide)).trans (i2.1 k hk)), fun k hk => (cF 6 k rfl).trans ((a4 6 k (by omega) (by decide) (by decide)).trans (i2.2.1 k hk)), fun k hk => (cF 7 k rfl).trans ((a4 7 k (by omega) (by decide) (by decide)).trans (i2.2.2.1 k hk)), fun k hk => (cF 8 k rfl).trans ((a4 8 k (by omega) (by decide) (by decide)).trans (i2.2.2.2.1 k hk)), fun k hk => (cF 9 k rfl).trans ((a4 9 k (by omega) (by decide) (by decide)).trans (i2.2.2.2.2.1 k hk)), fun k hk => (cF 10 k rfl).trans ((a4 10 k (by omega) (by decide) (by decide)).trans (i2.2.2.2.2.2.1 k hk)), fun k hk => (cF 11 k rfl).trans ((a4 11 k (by omega) (by decide) (by decide)).trans (i2.2.2.2.2.2.2.1 k hk)), fun k hk => (cF 12 k rfl).trans ((a4 12 k (by omega) (by decide) (by decide)).trans (i2.2.2.2.2.2.2.2 k hk))⟩, ⟨fun k hk => (cF 23 k rfl).trans ((a1 k hk).trans (i3 (p + 1) k (by omega) (by omega))), fun k hk => (cF 24 k rfl).trans ((a2 k hk).trans (i3 (p + 2) k (by omega) (by omega))), (cF 22 2 rfl).trans (a3.trans (i3 p 2 (by omega) (by omega)))⟩⟩
      · refine gx_st (L' := [(2, 1), (0, a)]) (S' := [(0, (-6))]) r_67_38 rfl rfl rfl ?_
        exact gx_rt r_67_40 rfl rfl ⟨_, rfl, fun z => absurd z (by omega), fun j hj h2 => ⟨fun _ => ⟨rfl, rfl⟩, fun z => absurd ⟨by omega, by omega, by rw [h2]; exact z⟩ h35⟩⟩
    · refine gx_st (L' := [(2, 1), (0, a)]) (S' := [(0, (-2))]) r_67_24 rfl rfl rfl ?_
      exact gx_rt r_67_26 rfl rfl ⟨_, rfl, fun _ => ⟨rfl, rfl⟩, fun i2 hi2 h2 => (by exfalso; omega)⟩
end TOLD
