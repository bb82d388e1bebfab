/-! small methods of the reference, exactly -/
theorem w32_td {x y z : Int} (hx : 0 ≤ x) (h : x / y = z) (h1 : -2147483648 ≤ z) (h2 : z ≤ 2147483647) : w32 (x.tdiv y) = z := by rw [td_eq hx h]; exact w32_id ⟨h1, h2⟩
theorem w64_td {x y z : Int} (hx : 0 ≤ x) (h : x / y = z) (h1 : -9223372036854775808 ≤ z) (h2 : z ≤ 9223372036854775807) : w64 (x.tdiv y) = z := by rw [td_eq hx h]; exact w64_id ⟨h1, h2⟩
theorem r_87_0 : row 87 0 = some (.iload_n 0, 1, 0, 0, 0, 0) := rfl
theorem r_87_1 : row 87 1 = some (.iload_n 1, 2, 0, 0, 0, 0) := rfl
theorem r_87_2 : row 87 2 = some (.ishr, 3, 0, 0, 0, 0) := rfl
theorem r_87_3 : row 87 3 = some (.iconst 1, 4, 1, 0, 0, 0) := rfl
theorem r_87_4 : row 87 4 = some (.iand, 5, 0, 0, 0, 0) := rfl
theorem r_87_5 : row 87 5 = some (.ireturn, 6, 0, 0, 0, 0) := rfl
theorem r_90_0 : row 90 0 = some (.aload_n 0, 1, 0, 0, 0, 0) := rfl
theorem r_90_1 : row 90 1 = some (.getfield 9, 4, 10, 1, 2, 6002) := rfl
theorem r_90_4 : row 90 4 = some (.bipush 9, 6, 9, 0, 0, 0) := rfl
theorem r_90_6 : row 90 6 = some (.iaload, 7, 0, 0, 0, 0) := rfl
theorem r_90_7 : row 90 7 = some (.ifCond .le 7, 10, 14, 0, 0, 0) := rfl
theorem r_90_10 : row 90 10 = some (.iconst 1, 11, 1, 0, 0, 0) := rfl
theorem r_90_11 : row 90 11 = some (.goto 4, 14, 15, 0, 0, 0) := rfl
theorem r_90_14 : row 90 14 = some (.iconst 0, 15, 0, 0, 0, 0) := rfl
theorem r_90_15 : row 90 15 = some (.ireturn, 16, 0, 0, 0, 0) := rfl
theorem r_91_0 : row 91 0 = some (.lload_n 1, 1, 0, 0, 0, 0) := rfl
theorem r_91_1 : row 91 1 = some (.lconst 0, 2, 0, 0, 0, 0) := rfl
theorem r_91_2 : row 91 2 = some (.aload_n 0, 3, 0, 0, 0, 0) := rfl
theorem r_91_3 : row 91 3 = some (.getfield 9, 6, 10, 1, 2, 6002) := rfl
theorem r_91_6 : row 91 6 = some (.iconst 0, 7, 0, 0, 0, 0) := rfl
theorem r_91_7 : row 91 7 = some (.iaload, 8, 0, 0, 0, 0) := rfl
theorem r_91_8 : row 91 8 = some (.iconst 1, 9, 1, 0, 0, 0) := rfl
theorem r_91_9 : row 91 9 = some (.isub, 10, 0, 0, 0, 0) := rfl
theorem r_91_10 : row 91 10 = some (.i2l, 11, 0, 0, 0, 0) := rfl
theorem r_91_11 : row 91 11 = some (.invokestatic 82, 14, 86, 3, 0, 6131) := rfl
theorem r_91_14 : row 91 14 = some (.ireturn, 15, 0, 0, 0, 0) := rfl
theorem r_92_0 : row 92 0 = some (.iload_n 1, 1, 0, 0, 0, 0) := rfl
theorem r_92_1 : row 92 1 = some (.i2l, 2, 0, 0, 0, 0) := rfl
theorem r_92_2 : row 92 2 = some (.lconst 0, 3, 0, 0, 0, 0) := rfl
theorem r_92_3 : row 92 3 = some (.aload_n 0, 4, 0, 0, 0, 0) := rfl
theorem r_92_4 : row 92 4 = some (.getfield 9, 7, 10, 1, 2, 6002) := rfl
theorem r_92_7 : row 92 7 = some (.iconst 1, 8, 1, 0, 0, 0) := rfl
theorem r_92_8 : row 92 8 = some (.iaload, 9, 0, 0, 0, 0) := rfl
theorem r_92_9 : row 92 9 = some (.iconst 1, 10, 1, 0, 0, 0) := rfl
theorem r_92_10 : row 92 10 = some (.isub, 11, 0, 0, 0, 0) := rfl
theorem r_92_11 : row 92 11 = some (.i2l, 12, 0, 0, 0, 0) := rfl
theorem r_92_12 : row 92 12 = some (.invokestatic 82, 15, 86, 3, 0, 6131) := rfl
theorem r_92_15 : row 92 15 = some (.ireturn, 16, 0, 0, 0, 0) := rfl
theorem r_94_0 : row 94 0 = some (.lload_n 1, 1, 0, 0, 0, 0) := rfl
theorem r_94_1 : row 94 1 = some (.lconst 0, 2, 0, 0, 0, 0) := rfl
theorem r_94_2 : row 94 2 = some (.aload_n 0, 3, 0, 0, 0, 0) := rfl
theorem r_94_3 : row 94 3 = some (.getfield 9, 6, 10, 1, 2, 6002) := rfl
theorem r_94_6 : row 94 6 = some (.iconst 5, 7, 5, 0, 0, 0) := rfl
theorem r_94_7 : row 94 7 = some (.iaload, 8, 0, 0, 0, 0) := rfl
theorem r_94_8 : row 94 8 = some (.iconst 1, 9, 1, 0, 0, 0) := rfl
theorem r_94_9 : row 94 9 = some (.isub, 10, 0, 0, 0, 0) := rfl
theorem r_94_10 : row 94 10 = some (.i2l, 11, 0, 0, 0, 0) := rfl
theorem r_94_11 : row 94 11 = some (.invokestatic 82, 14, 86, 3, 0, 6131) := rfl
theorem r_94_14 : row 94 14 = some (.ireturn, 15, 0, 0, 0, 0) := rfl
theorem r_95_0 : row 95 0 = some (.iload_n 1, 1, 0, 0, 0, 0) := rfl
theorem r_95_1 : row 95 1 = some (.i2l, 2, 0, 0, 0, 0) := rfl
theorem r_95_2 : row 95 2 = some (.lconst 0, 3, 0, 0, 0, 0) := rfl
theorem r_95_3 : row 95 3 = some (.aload_n 0, 4, 0, 0, 0, 0) := rfl
theorem r_95_4 : row 95 4 = some (.getfield 9, 7, 10, 1, 2, 6002) := rfl
theorem r_95_7 : row 95 7 = some (.bipush 6, 9, 6, 0, 0, 0) := rfl
theorem r_95_9 : row 95 9 = some (.iaload, 10, 0, 0, 0, 0) := rfl
theorem r_95_10 : row 95 10 = some (.iconst 1, 11, 1, 0, 0, 0) := rfl
theorem r_95_11 : row 95 11 = some (.isub, 12, 0, 0, 0, 0) := rfl
theorem r_95_12 : row 95 12 = some (.i2l, 13, 0, 0, 0, 0) := rfl
theorem r_95_13 : row 95 13 = some (.invokestatic 82, 16, 86, 3, 0, 6131) := rfl
theorem r_95_16 : row 95 16 = some (.ireturn, 17, 0, 0, 0, 0) := rfl
theorem r_96_0 : row 96 0 = some (.iload_n 1, 1, 0, 0, 0, 0) := rfl
theorem r_96_1 : row 96 1 = some (.i2l, 2, 0, 0, 0, 0) := rfl
theorem r_96_2 : row 96 2 = some (.lconst 0, 3, 0, 0, 0, 0) := rfl
theorem r_96_3 : row 96 3 = some (.aload_n 0, 4, 0, 0, 0, 0) := rfl
theorem r_96_4 : row 96 4 = some (.getfield 9, 7, 10, 1, 2, 6002) := rfl
theorem r_96_7 : row 96 7 = some (.bipush 7, 9, 7, 0, 0, 0) := rfl
theorem r_96_9 : row 96 9 = some (.iaload, 10, 0, 0, 0, 0) := rfl
theorem r_96_10 : row 96 10 = some (.iconst 1, 11, 1, 0, 0, 0) := rfl
theorem r_96_11 : row 96 11 = some (.isub, 12, 0, 0, 0, 0) := rfl
theorem r_96_12 : row 96 12 = some (.i2l, 13, 0, 0, 0, 0) := rfl
theorem r_96_13 : row 96 13 = some (.invokestatic 82, 16, 86, 3, 0, 6131) := rfl
theorem r_96_16 : row 96 16 = some (.ireturn, 17, 0, 0, 0, 0) := rfl
theorem r_97_0 : row 97 0 = some (.aload_n 0, 1, 0, 0, 0, 0) := rfl
theorem r_97_1 : row 97 1 = some (.getfield 9, 4, 10, 1, 2, 6002) := rfl
theorem r_97_4 : row 97 4 = some (.bipush 31, 6, 31, 0, 0, 0) := rfl
theorem r_97_6 : row 97 6 = some (.iconst 2, 7, 2, 0, 0, 0) := rfl
theorem r_97_7 : row 97 7 = some (.iload_n 1, 8, 0, 0, 0, 0) := rfl
theorem r_97_8 : row 97 8 = some (.imul, 9, 0, 0, 0, 0) := rfl
theorem r_97_9 : row 97 9 = some (.iadd, 10, 0, 0, 0, 0) := rfl
theorem r_97_10 : row 97 10 = some (.iaload, 11, 0, 0, 0, 0) := rfl
theorem r_97_11 : row 97 11 = some (.ireturn, 12, 0, 0, 0, 0) := rfl
theorem r_98_0 : row 98 0 = some (.aload_n 0, 1, 0, 0, 0, 0) := rfl
theorem r_98_1 : row 98 1 = some (.getfield 9, 4, 10, 1, 2, 6002) := rfl
theorem r_98_4 : row 98 4 = some (.bipush 41, 6, 41, 0, 0, 0) := rfl
theorem r_98_6 : row 98 6 = some (.iconst 2, 7, 2, 0, 0, 0) := rfl
theorem r_98_7 : row 98 7 = some (.iload_n 1, 8, 0, 0, 0, 0) := rfl
theorem r_98_8 : row 98 8 = some (.imul, 9, 0, 0, 0, 0) := rfl
theorem r_98_9 : row 98 9 = some (.iadd, 10, 0, 0, 0, 0) := rfl
theorem r_98_10 : row 98 10 = some (.iaload, 11, 0, 0, 0, 0) := rfl
theorem r_98_11 : row 98 11 = some (.ireturn, 12, 0, 0, 0, 0) := rfl
theorem r_99_0 : row 99 0 = some (.aload_n 0, 1, 0, 0, 0, 0) := rfl
theorem r_99_1 : row 99 1 = some (.getfield 9, 4, 10, 1, 2, 6002) := rfl
theorem r_99_4 : row 99 4 = some (.bipush 47, 6, 47, 0, 0, 0) := rfl
theorem r_99_6 : row 99 6 = some (.iconst 2, 7, 2, 0, 0, 0) := rfl
theorem r_99_7 : row 99 7 = some (.iload_n 1, 8, 0, 0, 0, 0) := rfl
theorem r_99_8 : row 99 8 = some (.imul, 9, 0, 0, 0, 0) := rfl
theorem r_99_9 : row 99 9 = some (.iadd, 10, 0, 0, 0, 0) := rfl
theorem r_99_10 : row 99 10 = some (.iaload, 11, 0, 0, 0, 0) := rfl
theorem r_99_11 : row 99 11 = some (.ireturn, 12, 0, 0, 0, 0) := rfl
theorem r_104_0 : row 104 0 = some (.aload_n 0, 1, 0, 0, 0, 0) := rfl
theorem r_104_1 : row 104 1 = some (.getfield 127, 4, 10, 12, 0, 6013) := rfl
theorem r_104_4 : row 104 4 = some (.ifCond .ne 7, 7, 11, 0, 0, 0) := rfl
theorem r_104_7 : row 104 7 = some (.iconst 1, 8, 1, 0, 0, 0) := rfl
theorem r_104_8 : row 104 8 = some (.goto 4, 11, 12, 0, 0, 0) := rfl
theorem r_104_11 : row 104 11 = some (.iconst 0, 12, 0, 0, 0, 0) := rfl
theorem r_104_12 : row 104 12 = some (.ireturn, 13, 0, 0, 0, 0) := rfl
theorem r_123_0 : row 123 0 = some (.aload_n 0, 1, 0, 0, 0, 0) := rfl
theorem r_123_1 : row 123 1 = some (.getfield 34, 4, 10, 15, 2, 6016) := rfl
theorem r_123_4 : row 123 4 = some (.bipush 7, 6, 7, 0, 0, 0) := rfl
theorem r_123_6 : row 123 6 = some (.iload_n 1, 7, 0, 0, 0, 0) := rfl
theorem r_123_7 : row 123 7 = some (.imul, 8, 0, 0, 0, 0) := rfl
theorem r_123_8 : row 123 8 = some (.iload_n 2, 9, 0, 0, 0, 0) := rfl
theorem r_123_9 : row 123 9 = some (.iadd, 10, 0, 0, 0, 0) := rfl
theorem r_123_10 : row 123 10 = some (.iaload, 11, 0, 0, 0, 0) := rfl
theorem r_123_11 : row 123 11 = some (.ireturn, 12, 0, 0, 0, 0) := rfl
theorem r_131_0 : row 131 0 = some (.aload_n 0, 1, 0, 0, 0, 0) := rfl
theorem r_131_1 : row 131 1 = some (.getfield 37, 4, 10, 16, 2, 6017) := rfl
theorem r_131_4 : row 131 4 = some (.bipush 16, 6, 16, 0, 0, 0) := rfl
theorem r_131_6 : row 131 6 = some (.iload_n 1, 7, 0, 0, 0, 0) := rfl
theorem r_131_7 : row 131 7 = some (.imul, 8, 0, 0, 0, 0) := rfl
theorem r_131_8 : row 131 8 = some (.iload_n 2, 9, 0, 0, 0, 0) := rfl
theorem r_131_9 : row 131 9 = some (.iadd, 10, 0, 0, 0, 0) := rfl
theorem r_131_10 : row 131 10 = some (.iaload, 11, 0, 0, 0, 0) := rfl
theorem r_131_11 : row 131 11 = some (.ireturn, 12, 0, 0, 0, 0) := rfl
theorem r_132_0 : row 132 0 = some (.aload_n 0, 1, 0, 0, 0, 0) := rfl
theorem r_132_1 : row 132 1 = some (.getfield 37, 4, 10, 16, 2, 6017) := rfl
theorem r_132_4 : row 132 4 = some (.bipush 16, 6, 16, 0, 0, 0) := rfl
theorem r_132_6 : row 132 6 = some (.iload_n 1, 7, 0, 0, 0, 0) := rfl
theorem r_132_7 : row 132 7 = some (.imul, 8, 0, 0, 0, 0) := rfl
theorem r_132_8 : row 132 8 = some (.iload_n 2, 9, 0, 0, 0, 0) := rfl
theorem r_132_9 : row 132 9 = some (.iadd, 10, 0, 0, 0, 0) := rfl
theorem r_132_10 : row 132 10 = some (.iload_n 3, 11, 0, 0, 0, 0) := rfl
theorem r_132_11 : row 132 11 = some (.iastore, 12, 0, 0, 0, 0) := rfl
theorem r_132_12 : row 132 12 = some (.return_, 13, 0, 0, 0, 0) := rfl
theorem r_133_0 : row 133 0 = some (.iload_n 1, 1, 0, 0, 0, 0) := rfl
theorem r_133_1 : row 133 1 = some (.aload_n 0, 2, 0, 0, 0, 0) := rfl
theorem r_133_2 : row 133 2 = some (.getfield 250, 5, 10, 23, 0, 6024) := rfl
theorem r_133_5 : row 133 5 = some (.if_icmp .eq 7, 8, 12, 0, 0, 0) := rfl
theorem r_133_8 : row 133 8 = some (.iconst 1, 9, 1, 0, 0, 0) := rfl
theorem r_133_9 : row 133 9 = some (.goto 4, 12, 13, 0, 0, 0) := rfl
theorem r_133_12 : row 133 12 = some (.iconst 0, 13, 0, 0, 0, 0) := rfl
theorem r_133_13 : row 133 13 = some (.ireturn, 14, 0, 0, 0, 0) := rfl
section LEAF
variable {T : List Kd} {m : Mm}
theorem x_86  (x y z : Int) : GX T 0 86 0 [(1, x), (9, 0), (1, y), (9, 0), (1, z), (9, 0)] [] m (RI (fun v m1 => v = (if y ≤ x ∧ x ≤ z then 1 else 0) ∧ m1 = m)) := by
  refine gx_st (L' := [(1, x), (9, 0), (1, y), (9, 0), (1, z), (9, 0)]) (S' := [(1, x)]) r_86_0 rfl rfl rfl ?_
  refine gx_st (L' := [(1, x), (9, 0), (1, y), (9, 0), (1, z), (9, 0)]) (S' := [(1, y), (1, x)]) r_86_1 rfl rfl rfl ?_
  refine gx_st (L' := [(1, x), (9, 0), (1, y), (9, 0), (1, z), (9, 0)]) (S' := [(0, (if x < y then -1 else if x = y then 0 else 1))]) r_86_2 rfl rfl rfl ?_
  refine gx_i0 (P := x < y) r_86_3 (lc_lt) (fun h3 => ?_) (fun h3 => ?_)
  · refine gx_st (L' := [(1, x), (9, 0), (1, y), (9, 0), (1, z), (9, 0)]) (S' := [(0, 0)]) r_86_17 rfl rfl rfl ?_
    exact gx_rt r_86_18 rfl rfl ⟨_, rfl, ⟨by rw [if_neg (by omega)], rfl⟩⟩
  · refine gx_st (L' := [(1, x), (9, 0), (1, y), (9, 0), (1, z), (9, 0)]) (S' := [(1, x)]) r_86_6 rfl rfl rfl ?_
    refine gx_st (L' := [(1, x), (9, 0), (1, y), (9, 0), (1, z), (9, 0)]) (S' := [(1, z), (1, x)]) r_86_7 rfl rfl rfl ?_
    refine gx_st (L' := [(1, x), (9, 0), (1, y), (9, 0), (1, z), (9, 0)]) (S' := [(0, (if x < z then -1 else if x = z then 0 else 1))]) r_86_9 rfl rfl rfl ?_
    refine gx_i0 (P := z < x) r_86_10 (lc_gt) (fun h10 => ?_) (fun h10 => ?_)
    · refine gx_st (L' := [(1, x), (9, 0), (1, y), (9, 0), (1, z), (9, 0)]) (S' := [(0, 0)]) r_86_17 rfl rfl rfl ?_
      exact gx_rt r_86_18 rfl rfl ⟨_, rfl, ⟨by rw [if_neg (by omega)], rfl⟩⟩
    · refine gx_st (L' := [(1, x), (9, 0), (1, y), (9, 0), (1, z), (9, 0)]) (S' := [(0, 1)]) r_86_13 rfl rfl rfl ?_
      refine gx_st (L' := [(1, x), (9, 0), (1, y), (9, 0), (1, z), (9, 0)]) (S' := [(0, 1)]) r_86_14 rfl rfl rfl ?_
      exact gx_rt r_86_18 rfl rfl ⟨_, rfl, ⟨by rw [if_pos (by omega)], rfl⟩⟩
theorem x_87  (x k : Int) : GX T 0 87 0 [(0, x), (0, k)] [] m (RI (fun v m1 => v = iand (ishr x k) 1 ∧ m1 = m)) := by
  refine gx_st (L' := [(0, x), (0, k)]) (S' := [(0, x)]) r_87_0 rfl rfl rfl ?_
  refine gx_st (L' := [(0, x), (0, k)]) (S' := [(0, k), (0, x)]) r_87_1 rfl rfl rfl ?_
  refine gx_st (L' := [(0, x), (0, k)]) (S' := [(0, (ishr x k))]) r_87_2 rfl rfl rfl ?_
  refine gx_st (L' := [(0, x), (0, k)]) (S' := [(0, 1), (0, (ishr x k))]) r_87_3 rfl rfl rfl ?_
  refine gx_st (L' := [(0, x), (0, k)]) (S' := [(0, (iand (ishr x k) 1))]) r_87_4 rfl rfl rfl ?_
  exact gx_rt r_87_5 rfl rfl ⟨_, rfl, ⟨rfl, rfl⟩⟩
theorem x_90 (hT : TT T) (hm : Gam m)  : GX T 0 90 0 [(2, 192)] [] m (RI (fun v m1 => v = (if 0 < m 193 9 then 1 else 0) ∧ m1 = m)) := by
  refine gx_st (L' := [(2, 192)]) (S' := [(2, 192)]) r_90_0 rfl rfl rfl ?_
  refine gx_gf (x := 193) 2 r_90_1 rfl (tk_192 hT) ⟨by decide, rfl, by decide, by decide⟩ rfl (fun _ => by decide) (pr_192_1 hm) ?_
  refine gx_st (L' := [(2, 192)]) (S' := [(0, 9), (2, 193)]) r_90_4 rfl rfl rfl ?_
  obtain ⟨x6, e_x6⟩ : ∃ z, z = m 193 (9) := ⟨_, rfl⟩
  have b_x6 := gb_193_9 hm
  rw [← e_x6] at b_x6
  refine gx_ia (n := 9) (x := x6) r_90_6 rfl (tk_193 hT) (rfl) ⟨rfl, by decide⟩ (e_x6.symm) ?_
  refine gx_i0 (P := x6 ≤ 0) r_90_7 (rfl) (fun h7 => ?_) (fun h7 => ?_)
  · refine gx_st (L' := [(2, 192)]) (S' := [(0, 0)]) r_90_14 rfl rfl rfl ?_
    exact gx_rt r_90_15 rfl rfl ⟨_, rfl, ⟨by rw [if_neg (by omega)], rfl⟩⟩
  · refine gx_st (L' := [(2, 192)]) (S' := [(0, 1)]) r_90_10 rfl rfl rfl ?_
    refine gx_st (L' := [(2, 192)]) (S' := [(0, 1)]) r_90_11 rfl rfl rfl ?_
    exact gx_rt r_90_15 rfl rfl ⟨_, rfl, ⟨by rw [if_pos (by omega)], rfl⟩⟩
theorem x_91 (hT : TT T) (hm : Gam m) (p : Int) : GX T 1 91 0 [(2, 192), (1, p), (9, 0)] [] m (RI (fun v m1 => v = (if 0 ≤ p ∧ p ≤ m 193 0 - 1 then 1 else 0) ∧ m1 = m)) := by
  have b0 := gb_193_0 hm
  refine gx_st (L' := [(2, 192), (1, p), (9, 0)]) (S' := [(1, p)]) r_91_0 rfl rfl rfl ?_
  refine gx_st (L' := [(2, 192), (1, p), (9, 0)]) (S' := [(1, 0), (1, p)]) r_91_1 rfl rfl rfl ?_
  refine gx_st (L' := [(2, 192), (1, p), (9, 0)]) (S' := [(2, 192), (1, 0), (1, p)]) r_91_2 rfl rfl rfl ?_
  refine gx_gf (x := 193) 2 r_91_3 rfl (tk_192 hT) ⟨by decide, rfl, by decide, by decide⟩ rfl (fun _ => by decide) (pr_192_1 hm) ?_
  refine gx_st (L' := [(2, 192), (1, p), (9, 0)]) (S' := [(0, 0), (2, 193), (1, 0), (1, p)]) r_91_6 rfl rfl rfl ?_
  refine gx_ia (n := 0) (x := (m 193 0)) r_91_7 rfl (tk_193 hT) (rfl) ⟨rfl, by decide⟩ (rfl) ?_
  refine gx_st (L' := [(2, 192), (1, p), (9, 0)]) (S' := [(0, 1), (0, (m 193 0)), (1, 0), (1, p)]) r_91_8 rfl rfl rfl ?_
  refine gx_ar (L' := [(2, 192), (1, p), (9, 0)]) (S' := [(1, 0), (1, p)]) (t := 0) (e := w32 ((m 193 0) - 1)) (z := (m 193 0) - 1) r_91_9 rfl rfl rfl (w32_eq (by omega) (by omega) (by omega)) ?_
  refine gx_st (L' := [(2, 192), (1, p), (9, 0)]) (S' := [(1, (m 193 0) - 1), (1, 0), (1, p)]) r_91_10 rfl rfl rfl ?_
  refine gx_ci (nx := 14) (S2 := []) (x_86 p 0 ((m 193 0) - 1)) r_91_11 rfl rfl rfl rfl rfl rfl rfl (by decide) rfl (fun x11 n11 q11 => ?_)
  obtain rfl := q11.1.symm
  obtain rfl := q11.2.symm
  show GX T 1 91 14 [(2, 192), (1, p), (9, 0)] [(0, (if 0 ≤ p ∧ p ≤ (m 193 0) - 1 then 1 else 0))] m (RI (fun v m1 => v = (if 0 ≤ p ∧ p ≤ m 193 0 - 1 then 1 else 0) ∧ m1 = m))
  exact gx_rb r_91_14 rfl (by split <;> omega) ⟨_, rfl, rfl, rfl⟩
theorem x_92 (hT : TT T) (hm : Gam m) (p : Int) : GX T 1 92 0 [(2, 192), (0, p)] [] m (RI (fun v m1 => v = (if 0 ≤ p ∧ p ≤ m 193 1 - 1 then 1 else 0) ∧ m1 = m)) := by
  have b0 := gb_193_1 hm
  refine gx_st (L' := [(2, 192), (0, p)]) (S' := [(0, p)]) r_92_0 rfl rfl rfl ?_
  refine gx_st (L' := [(2, 192), (0, p)]) (S' := [(1, p)]) r_92_1 rfl rfl rfl ?_
  refine gx_st (L' := [(2, 192), (0, p)]) (S' := [(1, 0), (1, p)]) r_92_2 rfl rfl rfl ?_
  refine gx_st (L' := [(2, 192), (0, p)]) (S' := [(2, 192), (1, 0), (1, p)]) r_92_3 rfl rfl rfl ?_
  refine gx_gf (x := 193) 2 r_92_4 rfl (tk_192 hT) ⟨by decide, rfl, by decide, by decide⟩ rfl (fun _ => by decide) (pr_192_1 hm) ?_
  refine gx_st (L' := [(2, 192), (0, p)]) (S' := [(0, 1), (2, 193), (1, 0), (1, p)]) r_92_7 rfl rfl rfl ?_
  refine gx_ia (n := 1) (x := (m 193 1)) r_92_8 rfl (tk_193 hT) (rfl) ⟨rfl, by decide⟩ (rfl) ?_
  refine gx_st (L' := [(2, 192), (0, p)]) (S' := [(0, 1), (0, (m 193 1)), (1, 0), (1, p)]) r_92_9 rfl rfl rfl ?_
  refine gx_ar (L' := [(2, 192), (0, p)]) (S' := [(1, 0), (1, p)]) (t := 0) (e := w32 ((m 193 1) - 1)) (z := (m 193 1) - 1) r_92_10 rfl rfl rfl (w32_eq (by omega) (by omega) (by omega)) ?_
  refine gx_st (L' := [(2, 192), (0, p)]) (S' := [(1, (m 193 1) - 1), (1, 0), (1, p)]) r_92_11 rfl rfl rfl ?_
  refine gx_ci (nx := 15) (S2 := []) (x_86 p 0 ((m 193 1) - 1)) r_92_12 rfl rfl rfl rfl rfl rfl rfl (by decide) rfl (fun x12 n12 q12 => ?_)
  obtain rfl := q12.1.symm
  obtain rfl := q12.2.symm
  show GX T 1 92 15 [(2, 192), (0, p)] [(0, (if 0 ≤ p ∧ p ≤ (m 193 1) - 1 then 1 else 0))] m (RI (fun v m1 => v = (if 0 ≤ p ∧ p ≤ m 193 1 - 1 then 1 else 0) ∧ m1 = m))
  exact gx_rb r_92_15 rfl (by split <;> omega) ⟨_, rfl, rfl, rfl⟩
theorem x_94 (hT : TT T) (hm : Gam m) (p : Int) : GX T 1 94 0 [(2, 192), (1, p), (9, 0)] [] m (RI (fun v m1 => v = (if 0 ≤ p ∧ p ≤ m 193 5 - 1 then 1 else 0) ∧ m1 = m)) := by
  have b0 := gb_193_5 hm
  refine gx_st (L' := [(2, 192), (1, p), (9, 0)]) (S' := [(1, p)]) r_94_0 rfl rfl rfl ?_
  refine gx_st (L' := [(2, 192), (1, p), (9, 0)]) (S' := [(1, 0), (1, p)]) r_94_1 rfl rfl rfl ?_
  refine gx_st (L' := [(2, 192), (1, p), (9, 0)]) (S' := [(2, 192), (1, 0), (1, p)]) r_94_2 rfl rfl rfl ?_
  refine gx_gf (x := 193) 2 r_94_3 rfl (tk_192 hT) ⟨by decide, rfl, by decide, by decide⟩ rfl (fun _ => by decide) (pr_192_1 hm) ?_
  refine gx_st (L' := [(2, 192), (1, p), (9, 0)]) (S' := [(0, 5), (2, 193), (1, 0), (1, p)]) r_94_6 rfl rfl rfl ?_
  refine gx_ia (n := 5) (x := (m 193 5)) r_94_7 rfl (tk_193 hT) (rfl) ⟨rfl, by decide⟩ (rfl) ?_
  refine gx_st (L' := [(2, 192), (1, p), (9, 0)]) (S' := [(0, 1), (0, (m 193 5)), (1, 0), (1, p)]) r_94_8 rfl rfl rfl ?_
  refine gx_ar (L' := [(2, 192), (1, p), (9, 0)]) (S' := [(1, 0), (1, p)]) (t := 0) (e := w32 ((m 193 5) - 1)) (z := (m 193 5) - 1) r_94_9 rfl rfl rfl (w32_eq (by omega) (by omega) (by omega)) ?_
  refine gx_st (L' := [(2, 192), (1, p), (9, 0)]) (S' := [(1, (m 193 5) - 1), (1, 0), (1, p)]) r_94_10 rfl rfl rfl ?_
  refine gx_ci (nx := 14) (S2 := []) (x_86 p 0 ((m 193 5) - 1)) r_94_11 rfl rfl rfl rfl rfl rfl rfl (by decide) rfl (fun x11 n11 q11 => ?_)
  obtain rfl := q11.1.symm
  obtain rfl := q11.2.symm
  show GX T 1 94 14 [(2, 192), (1, p), (9, 0)] [(0, (if 0 ≤ p ∧ p ≤ (m 193 5) - 1 then 1 else 0))] m (RI (fun v m1 => v = (if 0 ≤ p ∧ p ≤ m 193 5 - 1 then 1 else 0) ∧ m1 = m))
  exact gx_rb r_94_14 rfl (by split <;> omega) ⟨_, rfl, rfl, rfl⟩
theorem x_95 (hT : TT T) (hm : Gam m) (p : Int) : GX T 1 95 0 [(2, 192), (0, p)] [] m (RI (fun v m1 => v = (if 0 ≤ p ∧ p ≤ m 193 6 - 1 then 1 else 0) ∧ m1 = m)) := by
  have b0 := gb_193_6 hm
  refine gx_st (L' := [(2, 192), (0, p)]) (S' := [(0, p)]) r_95_0 rfl rfl rfl ?_
  refine gx_st (L' := [(2, 192), (0, p)]) (S' := [(1, p)]) r_95_1 rfl rfl rfl ?_
  refine gx_st (L' := [(2, 192), (0, p)]) (S' := [(1, 0), (1, p)]) r_95_2 rfl rfl rfl ?_
  refine gx_st (L' := [(2, 192), (0, p)]) (S' := [(2, 192), (1, 0), (1, p)]) r_95_3 rfl rfl rfl ?_
  refine gx_gf (x := 193) 2 r_95_4 rfl (tk_192 hT) ⟨by decide, rfl, by decide, by decide⟩ rfl (fun _ => by decide) (pr_192_1 hm) ?_
  refine gx_st (L' := [(2, 192), (0, p)]) (S' := [(0, 6), (2, 193), (1, 0), (1, p)]) r_95_7 rfl rfl rfl ?_
  refine gx_ia (n := 6) (x := (m 193 6)) r_95_9 rfl (tk_193 hT) (rfl) ⟨rfl, by decide⟩ (rfl) ?_
  refine gx_st (L' := [(2, 192), (0, p)]) (S' := [(0, 1), (0, (m 193 6)), (1, 0), (1, p)]) r_95_10 rfl rfl rfl ?_
  refine gx_ar (L' := [(2, 192), (0, p)]) (S' := [(1, 0), (1, p)]) (t := 0) (e := w32 ((m 193 6) - 1)) (z := (m 193 6) - 1) r_95_11 rfl rfl rfl (w32_eq (by omega) (by omega) (by omega)) ?_
  refine gx_st (L' := [(2, 192), (0, p)]) (S' := [(1, (m 193 6) - 1), (1, 0), (1, p)]) r_95_12 rfl rfl rfl ?_
  refine gx_ci (nx := 16) (S2 := []) (x_86 p 0 ((m 193 6) - 1)) r_95_13 rfl rfl rfl rfl rfl rfl rfl (by decide) rfl (fun x13 n13 q13 => ?_)
  obtain rfl := q13.1.symm
  obtain rfl := q13.2.symm
  show GX T 1 95 16 [(2, 192), (0, p)] [(0, (if 0 ≤ p ∧ p ≤ (m 193 6) - 1 then 1 else 0))] m (RI (fun v m1 => v = (if 0 ≤ p ∧ p ≤ m 193 6 - 1 then 1 else 0) ∧ m1 = m))
  exact gx_rb r_95_16 rfl (by split <;> omega) ⟨_, rfl, rfl, rfl⟩
theorem x_96 (hT : TT T) (hm : Gam m) (p : Int) : GX T 1 96 0 [(2, 192), (0, p)] [] m (RI (fun v m1 => v = (if 0 ≤ p ∧ p ≤ m 193 7 - 1 then 1 else 0) ∧ m1 = m)) := by
  have b0 := gb_193_7 hm
  refine gx_st (L' := [(2, 192), (0, p)]) (S' := [(0, p)]) r_96_0 rfl rfl rfl ?_
  refine gx_st (L' := [(2, 192), (0, p)]) (S' := [(1, p)]) r_96_1 rfl rfl rfl ?_
  refine gx_st (L' := [(2, 192), (0, p)]) (S' := [(1, 0), (1, p)]) r_96_2 rfl rfl rfl ?_
  refine gx_st (L' := [(2, 192), (0, p)]) (S' := [(2, 192), (1, 0), (1, p)]) r_96_3 rfl rfl rfl ?_
  refine gx_gf (x := 193) 2 r_96_4 rfl (tk_192 hT) ⟨by decide, rfl, by decide, by decide⟩ rfl (fun _ => by decide) (pr_192_1 hm) ?_
  refine gx_st (L' := [(2, 192), (0, p)]) (S' := [(0, 7), (2, 193), (1, 0), (1, p)]) r_96_7 rfl rfl rfl ?_
  refine gx_ia (n := 7) (x := (m 193 7)) r_96_9 rfl (tk_193 hT) (rfl) ⟨rfl, by decide⟩ (rfl) ?_
  refine gx_st (L' := [(2, 192), (0, p)]) (S' := [(0, 1), (0, (m 193 7)), (1, 0), (1, p)]) r_96_10 rfl rfl rfl ?_
  refine gx_ar (L' := [(2, 192), (0, p)]) (S' := [(1, 0), (1, p)]) (t := 0) (e := w32 ((m 193 7) - 1)) (z := (m 193 7) - 1) r_96_11 rfl rfl rfl (w32_eq (by omega) (by omega) (by omega)) ?_
  refine gx_st (L' := [(2, 192), (0, p)]) (S' := [(1, (m 193 7) - 1), (1, 0), (1, p)]) r_96_12 rfl rfl rfl ?_
  refine gx_ci (nx := 16) (S2 := []) (x_86 p 0 ((m 193 7) - 1)) r_96_13 rfl rfl rfl rfl rfl rfl rfl (by decide) rfl (fun x13 n13 q13 => ?_)
  obtain rfl := q13.1.symm
  obtain rfl := q13.2.symm
  show GX T 1 96 16 [(2, 192), (0, p)] [(0, (if 0 ≤ p ∧ p ≤ (m 193 7) - 1 then 1 else 0))] m (RI (fun v m1 => v = (if 0 ≤ p ∧ p ≤ m 193 7 - 1 then 1 else 0) ∧ m1 = m))
  exact gx_rb r_96_16 rfl (by split <;> omega) ⟨_, rfl, rfl, rfl⟩
theorem x_97 (hT : TT T) (hm : Gam m) {k : Nat} (hk : k < 5) : GX T 0 97 0 [(2, 192), (0, (k : Int))] [] m (RI (fun v m1 => v = m 193 (31 + 2 * k) ∧ m1 = m)) := by
  refine gx_st (L' := [(2, 192), (0, (k : Int))]) (S' := [(2, 192)]) r_97_0 rfl rfl rfl ?_
  refine gx_gf (x := 193) 2 r_97_1 rfl (tk_192 hT) ⟨by decide, rfl, by decide, by decide⟩ rfl (fun _ => by decide) (pr_192_1 hm) ?_
  refine gx_st (L' := [(2, 192), (0, (k : Int))]) (S' := [(0, 31), (2, 193)]) r_97_4 rfl rfl rfl ?_
  refine gx_st (L' := [(2, 192), (0, (k : Int))]) (S' := [(0, 2), (0, 31), (2, 193)]) r_97_6 rfl rfl rfl ?_
  refine gx_st (L' := [(2, 192), (0, (k : Int))]) (S' := [(0, (k : Int)), (0, 2), (0, 31), (2, 193)]) r_97_7 rfl rfl rfl ?_
  refine gx_ar (L' := [(2, 192), (0, (k : Int))]) (S' := [(0, 31), (2, 193)]) (t := 0) (e := w32 (2 * (k : Int))) (z := 2 * (k : Int)) r_97_8 rfl rfl rfl (w32_eq (by omega) (by omega) (by omega)) ?_
  refine gx_ar (L' := [(2, 192), (0, (k : Int))]) (S' := [(2, 193)]) (t := 0) (e := w32 (31 + (2 * (k : Int)))) (z := 2 * (k : Int) + 31) r_97_9 rfl rfl rfl (w32_eq (by omega) (by omega) (by omega)) ?_
  refine gx_ia (n := 31 + 2 * k) (x := (m 193 (31 + 2 * k))) r_97_10 rfl (tk_193 hT) (by omega) ⟨rfl, by omega⟩ (rfl) ?_
  exact gx_rt r_97_11 rfl rfl ⟨_, rfl, ⟨rfl, rfl⟩⟩
theorem x_98 (hT : TT T) (hm : Gam m) {k : Nat} (hk : k < 3) : GX T 0 98 0 [(2, 192), (0, (k : Int))] [] m (RI (fun v m1 => v = m 193 (41 + 2 * k) ∧ m1 = m)) := by
  refine gx_st (L' := [(2, 192), (0, (k : Int))]) (S' := [(2, 192)]) r_98_0 rfl rfl rfl ?_
  refine gx_gf (x := 193) 2 r_98_1 rfl (tk_192 hT) ⟨by decide, rfl, by decide, by decide⟩ rfl (fun _ => by decide) (pr_192_1 hm) ?_
  refine gx_st (L' := [(2, 192), (0, (k : Int))]) (S' := [(0, 41), (2, 193)]) r_98_4 rfl rfl rfl ?_
  refine gx_st (L' := [(2, 192), (0, (k : Int))]) (S' := [(0, 2), (0, 41), (2, 193)]) r_98_6 rfl rfl rfl ?_
  refine gx_st (L' := [(2, 192), (0, (k : Int))]) (S' := [(0, (k : Int)), (0, 2), (0, 41), (2, 193)]) r_98_7 rfl rfl rfl ?_
  refine gx_ar (L' := [(2, 192), (0, (k : Int))]) (S' := [(0, 41), (2, 193)]) (t := 0) (e := w32 (2 * (k : Int))) (z := 2 * (k : Int)) r_98_8 rfl rfl rfl (w32_eq (by omega) (by omega) (by omega)) ?_
  refine gx_ar (L' := [(2, 192), (0, (k : Int))]) (S' := [(2, 193)]) (t := 0) (e := w32 (41 + (2 * (k : Int)))) (z := 2 * (k : Int) + 41) r_98_9 rfl rfl rfl (w32_eq (by omega) (by omega) (by omega)) ?_
  refine gx_ia (n := 41 + 2 * k) (x := (m 193 (41 + 2 * k))) r_98_10 rfl (tk_193 hT) (by omega) ⟨rfl, by omega⟩ (rfl) ?_
  exact gx_rt r_98_11 rfl rfl ⟨_, rfl, ⟨rfl, rfl⟩⟩
theorem x_99 (hT : TT T) (hm : Gam m) {k : Nat} (hk : k < 5) : GX T 0 99 0 [(2, 192), (0, (k : Int))] [] m (RI (fun v m1 => v = m 193 (47 + 2 * k) ∧ m1 = m)) := by
  refine gx_st (L' := [(2, 192), (0, (k : Int))]) (S' := [(2, 192)]) r_99_0 rfl rfl rfl ?_
  refine gx_gf (x := 193) 2 r_99_1 rfl (tk_192 hT) ⟨by decide, rfl, by decide, by decide⟩ rfl (fun _ => by decide) (pr_192_1 hm) ?_
  refine gx_st (L' := [(2, 192), (0, (k : Int))]) (S' := [(0, 47), (2, 193)]) r_99_4 rfl rfl rfl ?_
  refine gx_st (L' := [(2, 192), (0, (k : Int))]) (S' := [(0, 2), (0, 47), (2, 193)]) r_99_6 rfl rfl rfl ?_
  refine gx_st (L' := [(2, 192), (0, (k : Int))]) (S' := [(0, (k : Int)), (0, 2), (0, 47), (2, 193)]) r_99_7 rfl rfl rfl ?_
  refine gx_ar (L' := [(2, 192), (0, (k : Int))]) (S' := [(0, 47), (2, 193)]) (t := 0) (e := w32 (2 * (k : Int))) (z := 2 * (k : Int)) r_99_8 rfl rfl rfl (w32_eq (by omega) (by omega) (by omega)) ?_
  refine gx_ar (L' := [(2, 192), (0, (k : Int))]) (S' := [(2, 193)]) (t := 0) (e := w32 (47 + (2 * (k : Int)))) (z := 2 * (k : Int) + 47) r_99_9 rfl rfl rfl (w32_eq (by omega) (by omega) (by omega)) ?_
  refine gx_ia (n := 47 + 2 * k) (x := (m 193 (47 + 2 * k))) r_99_10 rfl (tk_193 hT) (by omega) ⟨rfl, by omega⟩ (rfl) ?_
  exact gx_rt r_99_11 rfl rfl ⟨_, rfl, ⟨rfl, rfl⟩⟩
theorem x_123 (hT : TT T) (hm : Gam m) {a b : Nat} (ha : a < 7) (hb : b < 7) : GX T 0 123 0 [(2, 192), (0, (a : Int)), (0, (b : Int))] [] m (RI (fun v m1 => v = m 199 (7 * a + b) ∧ m1 = m)) := by
  refine gx_st (L' := [(2, 192), (0, (a : Int)), (0, (b : Int))]) (S' := [(2, 192)]) r_123_0 rfl rfl rfl ?_
  refine gx_gf (x := 199) 2 r_123_1 rfl (tk_192 hT) ⟨by decide, rfl, by decide, by decide⟩ rfl (fun _ => by decide) (pr_192_15 hm) ?_
  refine gx_st (L' := [(2, 192), (0, (a : Int)), (0, (b : Int))]) (S' := [(0, 7), (2, 199)]) r_123_4 rfl rfl rfl ?_
  refine gx_st (L' := [(2, 192), (0, (a : Int)), (0, (b : Int))]) (S' := [(0, (a : Int)), (0, 7), (2, 199)]) r_123_6 rfl rfl rfl ?_
  refine gx_ar (L' := [(2, 192), (0, (a : Int)), (0, (b : Int))]) (S' := [(2, 199)]) (t := 0) (e := w32 (7 * (a : Int))) (z := 7 * (a : Int)) r_123_7 rfl rfl rfl (w32_eq (by omega) (by omega) (by omega)) ?_
  refine gx_st (L' := [(2, 192), (0, (a : Int)), (0, (b : Int))]) (S' := [(0, (b : Int)), (0, 7 * (a : Int)), (2, 199)]) r_123_8 rfl rfl rfl ?_
  refine gx_ar (L' := [(2, 192), (0, (a : Int)), (0, (b : Int))]) (S' := [(2, 199)]) (t := 0) (e := w32 ((7 * (a : Int)) + (b : Int))) (z := 7 * (a : Int) + (b : Int)) r_123_9 rfl rfl rfl (w32_eq (by omega) (by omega) (by omega)) ?_
  refine gx_ia (n := 7 * a + b) (x := (m 199 (7 * a + b))) r_123_10 rfl (tk_199 hT) (by omega) ⟨rfl, by omega⟩ (rfl) ?_
  exact gx_rt r_123_11 rfl rfl ⟨_, rfl, ⟨rfl, rfl⟩⟩
theorem x_131 (hT : TT T) (hm : Gam m) {h k : Nat} (hh : h < 13) (hk : k < 16) : GX T 0 131 0 [(2, 192), (0, (h : Int)), (0, (k : Int))] [] m (RI (fun v m1 => v = m 200 (16 * h + k) ∧ m1 = m)) := by
  refine gx_st (L' := [(2, 192), (0, (h : Int)), (0, (k : Int))]) (S' := [(2, 192)]) r_131_0 rfl rfl rfl ?_
  refine gx_gf (x := 200) 2 r_131_1 rfl (tk_192 hT) ⟨by decide, rfl, by decide, by decide⟩ rfl (fun _ => by decide) (pr_192_16 hm) ?_
  refine gx_st (L' := [(2, 192), (0, (h : Int)), (0, (k : Int))]) (S' := [(0, 16), (2, 200)]) r_131_4 rfl rfl rfl ?_
  refine gx_st (L' := [(2, 192), (0, (h : Int)), (0, (k : Int))]) (S' := [(0, (h : Int)), (0, 16), (2, 200)]) r_131_6 rfl rfl rfl ?_
  refine gx_ar (L' := [(2, 192), (0, (h : Int)), (0, (k : Int))]) (S' := [(2, 200)]) (t := 0) (e := w32 (16 * (h : Int))) (z := 16 * (h : Int)) r_131_7 rfl rfl rfl (w32_eq (by omega) (by omega) (by omega)) ?_
  refine gx_st (L' := [(2, 192), (0, (h : Int)), (0, (k : Int))]) (S' := [(0, (k : Int)), (0, 16 * (h : Int)), (2, 200)]) r_131_8 rfl rfl rfl ?_
  refine gx_ar (L' := [(2, 192), (0, (h : Int)), (0, (k : Int))]) (S' := [(2, 200)]) (t := 0) (e := w32 ((16 * (h : Int)) + (k : Int))) (z := 16 * (h : Int) + (k : Int)) r_131_9 rfl rfl rfl (w32_eq (by omega) (by omega) (by omega)) ?_
  refine gx_ia (n := 16 * h + k) (x := (m 200 (16 * h + k))) r_131_10 rfl (tk_200 hT) (by omega) ⟨rfl, by omega⟩ (rfl) ?_
  exact gx_rt r_131_11 rfl rfl ⟨_, rfl, ⟨rfl, rfl⟩⟩
theorem x_132 (hT : TT T) (hm : Gam m) {h k : Nat} (hh : h < 13) (hk : k < 16) (x : Int) : GX T 0 132 0 [(2, 192), (0, (h : Int)), (0, (k : Int)), (0, x)] [] m (RV (fun m1 => m1 = nu_up m 200 (16 * h + k) x)) := by
  refine gx_st (L' := [(2, 192), (0, (h : Int)), (0, (k : Int)), (0, x)]) (S' := [(2, 192)]) r_132_0 rfl rfl rfl ?_
  refine gx_gf (x := 200) 2 r_132_1 rfl (tk_192 hT) ⟨by decide, rfl, by decide, by decide⟩ rfl (fun _ => by decide) (pr_192_16 hm) ?_
  refine gx_st (L' := [(2, 192), (0, (h : Int)), (0, (k : Int)), (0, x)]) (S' := [(0, 16), (2, 200)]) r_132_4 rfl rfl rfl ?_
  refine gx_st (L' := [(2, 192), (0, (h : Int)), (0, (k : Int)), (0, x)]) (S' := [(0, (h : Int)), (0, 16), (2, 200)]) r_132_6 rfl rfl rfl ?_
  refine gx_ar (L' := [(2, 192), (0, (h : Int)), (0, (k : Int)), (0, x)]) (S' := [(2, 200)]) (t := 0) (e := w32 (16 * (h : Int))) (z := 16 * (h : Int)) r_132_7 rfl rfl rfl (w32_eq (by omega) (by omega) (by omega)) ?_
  refine gx_st (L' := [(2, 192), (0, (h : Int)), (0, (k : Int)), (0, x)]) (S' := [(0, (k : Int)), (0, 16 * (h : Int)), (2, 200)]) r_132_8 rfl rfl rfl ?_
  refine gx_ar (L' := [(2, 192), (0, (h : Int)), (0, (k : Int)), (0, x)]) (S' := [(2, 200)]) (t := 0) (e := w32 ((16 * (h : Int)) + (k : Int))) (z := 16 * (h : Int) + (k : Int)) r_132_9 rfl rfl rfl (w32_eq (by omega) (by omega) (by omega)) ?_
  refine gx_st (L' := [(2, 192), (0, (h : Int)), (0, (k : Int)), (0, x)]) (S' := [(0, x), (0, 16 * (h : Int) + (k : Int)), (2, 200)]) r_132_10 rfl rfl rfl ?_
  obtain ⟨m1, e_m1⟩ : ∃ z, z = nu_up m 200 (16 * h + k) x := ⟨_, rfl⟩
  refine gx_is (n := 16 * h + k) (x := x) r_132_11 rfl (by decide) (tk_200 hT) (by omega) ⟨rfl, by omega⟩ e_m1.symm ?_
  exact gx_rt r_132_12 rfl rfl ⟨rfl, e_m1⟩
theorem x_133 (hT : TT T) (hm : Gam m) (t : Int) : GX T 0 133 0 [(2, 192), (0, t)] [] m (RI (fun v m1 => v = (if ¬ t = m 192 23 then 1 else 0) ∧ m1 = m)) := by
  refine gx_st (L' := [(2, 192), (0, t)]) (S' := [(0, t)]) r_133_0 rfl rfl rfl ?_
  refine gx_st (L' := [(2, 192), (0, t)]) (S' := [(2, 192), (0, t)]) r_133_1 rfl rfl rfl ?_
  refine gx_gf (x := (m 192 23)) 0 r_133_2 rfl (tk_192 hT) ⟨by decide, rfl, by decide, by decide⟩ rfl (fun z => absurd z (by decide)) (rfl) ?_
  refine gx_ic (P := t = (m 192 23)) r_133_5 (rfl) (fun h5 => ?_) (fun h5 => ?_)
  · refine gx_st (L' := [(2, 192), (0, t)]) (S' := [(0, 0)]) r_133_12 rfl rfl rfl ?_
    exact gx_rt r_133_13 rfl rfl ⟨_, rfl, ⟨by rw [if_neg (by omega)], rfl⟩⟩
  · refine gx_st (L' := [(2, 192), (0, t)]) (S' := [(0, 1)]) r_133_8 rfl rfl rfl ?_
    refine gx_st (L' := [(2, 192), (0, t)]) (S' := [(0, 1)]) r_133_9 rfl rfl rfl ?_
    exact gx_rt r_133_13 rfl rfl ⟨_, rfl, ⟨by rw [if_pos (by omega)], rfl⟩⟩
theorem x_104 (hT : TT T) (hm : Gam m)  : GX T 0 104 0 [(2, 192)] [] m (RI (fun v m1 => v = (if m 192 12 = 0 then 1 else 0) ∧ m1 = m)) := by
  refine gx_st (L' := [(2, 192)]) (S' := [(2, 192)]) r_104_0 rfl rfl rfl ?_
  refine gx_gf (x := (m 192 12)) 0 r_104_1 rfl (tk_192 hT) ⟨by decide, rfl, by decide, by decide⟩ rfl (fun z => absurd z (by decide)) (rfl) ?_
  refine gx_i0 (P := ¬ (m 192 12) = 0) r_104_4 (rfl) (fun h4 => ?_) (fun h4 => ?_)
  · refine gx_st (L' := [(2, 192)]) (S' := [(0, 0)]) r_104_11 rfl rfl rfl ?_
    exact gx_rt r_104_12 rfl rfl ⟨_, rfl, ⟨by rw [if_neg (by omega)], rfl⟩⟩
  · have h4 := Decidable.not_not.mp h4
    refine gx_st (L' := [(2, 192)]) (S' := [(0, 1)]) r_104_7 rfl rfl rfl ?_
    refine gx_st (L' := [(2, 192)]) (S' := [(0, 1)]) r_104_8 rfl rfl rfl ?_
    exact gx_rt r_104_12 rfl rfl ⟨_, rfl, ⟨by rw [if_pos (by omega)], rfl⟩⟩
end LEAF
