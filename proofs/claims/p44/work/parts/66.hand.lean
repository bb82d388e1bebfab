/-! takeNumber of the class, paste of the reference -/
theorem r_230_0 : row 230 0 = some (.iload_n 1, 1, 0, 0, 0, 0) := rfl
theorem r_230_1 : row 230 1 = some (.invokestatic 386, 4, 226, 1, 0, 8107) := rfl
theorem r_230_4 : row 230 4 = some (.ifCond .eq 10, 7, 14, 0, 0, 0) := rfl
theorem r_230_7 : row 230 7 = some (.iload_n 3, 8, 0, 0, 0, 0) := rfl
theorem r_230_8 : row 230 8 = some (.invokestatic 386, 11, 226, 1, 0, 8107) := rfl
theorem r_230_11 : row 230 11 = some (.ifCond .ne 6, 14, 17, 0, 0, 0) := rfl
theorem r_230_14 : row 230 14 = some (.bipush (-2), 16, (-2), 0, 0, 0) := rfl
theorem r_230_16 : row 230 16 = some (.ireturn, 17, 0, 0, 0, 0) := rfl
theorem r_230_17 : row 230 17 = some (.aload_n 0, 18, 0, 0, 0, 0) := rfl
theorem r_230_18 : row 230 18 = some (.getfield 64, 21, 10, 37, 2, 6038) := rfl
theorem r_230_21 : row 230 21 = some (.iload_n 1, 22, 0, 0, 0, 0) := rfl
theorem r_230_22 : row 230 22 = some (.iaload, 23, 0, 0, 0, 0) := rfl
theorem r_230_23 : row 230 23 = some (.iconst (-1), 24, (-1), 0, 0, 0) := rfl
theorem r_230_24 : row 230 24 = some (.if_icmp .eq 13, 27, 37, 0, 0, 0) := rfl
theorem r_230_27 : row 230 27 = some (.aload_n 0, 28, 0, 0, 0, 0) := rfl
theorem r_230_28 : row 230 28 = some (.getfield 64, 31, 10, 37, 2, 6038) := rfl
theorem r_230_31 : row 230 31 = some (.iload_n 3, 32, 0, 0, 0, 0) := rfl
theorem r_230_32 : row 230 32 = some (.iaload, 33, 0, 0, 0, 0) := rfl
theorem r_230_33 : row 230 33 = some (.iconst (-1), 34, (-1), 0, 0, 0) := rfl
theorem r_230_34 : row 230 34 = some (.if_icmp .ne 6, 37, 40, 0, 0, 0) := rfl
theorem r_230_37 : row 230 37 = some (.bipush (-6), 39, (-6), 0, 0, 0) := rfl
theorem r_230_39 : row 230 39 = some (.ireturn, 40, 0, 0, 0, 0) := rfl
theorem r_230_40 : row 230 40 = some (.aload_n 0, 41, 0, 0, 0, 0) := rfl
theorem r_230_41 : row 230 41 = some (.getfield 67, 44, 10, 38, 2, 6039) := rfl
theorem r_230_44 : row 230 44 = some (.iload_n 1, 45, 0, 0, 0, 0) := rfl
theorem r_230_45 : row 230 45 = some (.iaload, 46, 0, 0, 0, 0) := rfl
theorem r_230_46 : row 230 46 = some (.aload_n 0, 47, 0, 0, 0, 0) := rfl
theorem r_230_47 : row 230 47 = some (.getfield 67, 50, 10, 38, 2, 6039) := rfl
theorem r_230_50 : row 230 50 = some (.iload_n 3, 51, 0, 0, 0, 0) := rfl
theorem r_230_51 : row 230 51 = some (.iaload, 52, 0, 0, 0, 0) := rfl
theorem r_230_52 : row 230 52 = some (.if_icmp .eq 6, 55, 58, 0, 0, 0) := rfl
theorem r_230_55 : row 230 55 = some (.bipush (-8), 57, (-8), 0, 0, 0) := rfl
theorem r_230_57 : row 230 57 = some (.ireturn, 58, 0, 0, 0, 0) := rfl
theorem r_230_58 : row 230 58 = some (.iload_n 2, 59, 0, 0, 0, 0) := rfl
theorem r_230_59 : row 230 59 = some (.ifCond .lt 48, 62, 107, 0, 0, 0) := rfl
theorem r_230_62 : row 230 62 = some (.iload 4, 64, 0, 0, 0, 0) := rfl
theorem r_230_64 : row 230 64 = some (.ifCond .lt 43, 67, 107, 0, 0, 0) := rfl
theorem r_230_67 : row 230 67 = some (.iload 5, 69, 0, 0, 0, 0) := rfl
theorem r_230_69 : row 230 69 = some (.ifCond .lt 38, 72, 107, 0, 0, 0) := rfl
theorem r_230_72 : row 230 72 = some (.iload_n 2, 73, 0, 0, 0, 0) := rfl
theorem r_230_73 : row 230 73 = some (.i2l, 74, 0, 0, 0, 0) := rfl
theorem r_230_74 : row 230 74 = some (.iload 5, 76, 0, 0, 0, 0) := rfl
theorem r_230_76 : row 230 76 = some (.i2l, 77, 0, 0, 0, 0) := rfl
theorem r_230_77 : row 230 77 = some (.ladd, 78, 0, 0, 0, 0) := rfl
theorem r_230_78 : row 230 78 = some (.aload_n 0, 79, 0, 0, 0, 0) := rfl
theorem r_230_79 : row 230 79 = some (.getfield 64, 82, 10, 37, 2, 6038) := rfl
theorem r_230_82 : row 230 82 = some (.iload_n 1, 83, 0, 0, 0, 0) := rfl
theorem r_230_83 : row 230 83 = some (.iaload, 84, 0, 0, 0, 0) := rfl
theorem r_230_84 : row 230 84 = some (.i2l, 85, 0, 0, 0, 0) := rfl
theorem r_230_85 : row 230 85 = some (.lcmp, 86, 0, 0, 0, 0) := rfl
theorem r_230_86 : row 230 86 = some (.ifCond .gt 21, 89, 107, 0, 0, 0) := rfl
theorem r_230_89 : row 230 89 = some (.iload 4, 91, 0, 0, 0, 0) := rfl
theorem r_230_91 : row 230 91 = some (.i2l, 92, 0, 0, 0, 0) := rfl
theorem r_230_92 : row 230 92 = some (.iload 5, 94, 0, 0, 0, 0) := rfl
theorem r_230_94 : row 230 94 = some (.i2l, 95, 0, 0, 0, 0) := rfl
theorem r_230_95 : row 230 95 = some (.ladd, 96, 0, 0, 0, 0) := rfl
theorem r_230_96 : row 230 96 = some (.aload_n 0, 97, 0, 0, 0, 0) := rfl
theorem r_230_97 : row 230 97 = some (.getfield 64, 100, 10, 37, 2, 6038) := rfl
theorem r_230_100 : row 230 100 = some (.iload_n 3, 101, 0, 0, 0, 0) := rfl
theorem r_230_101 : row 230 101 = some (.iaload, 102, 0, 0, 0, 0) := rfl
theorem r_230_102 : row 230 102 = some (.i2l, 103, 0, 0, 0, 0) := rfl
theorem r_230_103 : row 230 103 = some (.lcmp, 104, 0, 0, 0, 0) := rfl
theorem r_230_104 : row 230 104 = some (.ifCond .le 6, 107, 110, 0, 0, 0) := rfl
theorem r_230_107 : row 230 107 = some (.bipush (-7), 109, (-7), 0, 0, 0) := rfl
theorem r_230_109 : row 230 109 = some (.ireturn, 110, 0, 0, 0, 0) := rfl
theorem r_230_110 : row 230 110 = some (.iconst 0, 111, 0, 0, 0, 0) := rfl
theorem r_230_111 : row 230 111 = some (.istore 6, 113, 0, 0, 0, 0) := rfl
theorem r_230_113 : row 230 113 = some (.iload 6, 115, 0, 0, 0, 0) := rfl
theorem r_230_115 : row 230 115 = some (.iload 5, 117, 0, 0, 0, 0) := rfl
theorem r_230_117 : row 230 117 = some (.if_icmp .ge 30, 120, 147, 0, 0, 0) := rfl
theorem r_230_120 : row 230 120 = some (.aload_n 0, 121, 0, 0, 0, 0) := rfl
theorem r_230_121 : row 230 121 = some (.getfield 74, 124, 10, 40, 2, 6041) := rfl
theorem r_230_124 : row 230 124 = some (.iload 6, 126, 0, 0, 0, 0) := rfl
theorem r_230_126 : row 230 126 = some (.aload_n 0, 127, 0, 0, 0, 0) := rfl
theorem r_230_127 : row 230 127 = some (.getfield 70, 130, 10, 39, 2, 6040) := rfl
theorem r_230_130 : row 230 130 = some (.bipush 60, 132, 60, 0, 0, 0) := rfl
theorem r_230_132 : row 230 132 = some (.iload_n 1, 133, 0, 0, 0, 0) := rfl
theorem r_230_133 : row 230 133 = some (.imul, 134, 0, 0, 0, 0) := rfl
theorem r_230_134 : row 230 134 = some (.iload_n 2, 135, 0, 0, 0, 0) := rfl
theorem r_230_135 : row 230 135 = some (.iadd, 136, 0, 0, 0, 0) := rfl
theorem r_230_136 : row 230 136 = some (.iload 6, 138, 0, 0, 0, 0) := rfl
theorem r_230_138 : row 230 138 = some (.iadd, 139, 0, 0, 0, 0) := rfl
theorem r_230_139 : row 230 139 = some (.laload, 140, 0, 0, 0, 0) := rfl
theorem r_230_140 : row 230 140 = some (.lastore, 141, 0, 0, 0, 0) := rfl
theorem r_230_141 : row 230 141 = some (.iinc 6 1, 144, 0, 0, 0, 0) := rfl
theorem r_230_144 : row 230 144 = some (.goto (-31), 147, 113, 0, 0, 0) := rfl
theorem r_230_147 : row 230 147 = some (.iconst 0, 148, 0, 0, 0, 0) := rfl
theorem r_230_148 : row 230 148 = some (.istore 6, 150, 0, 0, 0, 0) := rfl
theorem r_230_150 : row 230 150 = some (.iload 6, 152, 0, 0, 0, 0) := rfl
theorem r_230_152 : row 230 152 = some (.iload 5, 154, 0, 0, 0, 0) := rfl
theorem r_230_154 : row 230 154 = some (.if_icmp .ge 31, 157, 185, 0, 0, 0) := rfl
theorem r_230_157 : row 230 157 = some (.aload_n 0, 158, 0, 0, 0, 0) := rfl
theorem r_230_158 : row 230 158 = some (.getfield 70, 161, 10, 39, 2, 6040) := rfl
theorem r_230_161 : row 230 161 = some (.bipush 60, 163, 60, 0, 0, 0) := rfl
theorem r_230_163 : row 230 163 = some (.iload_n 3, 164, 0, 0, 0, 0) := rfl
theorem r_230_164 : row 230 164 = some (.imul, 165, 0, 0, 0, 0) := rfl
theorem r_230_165 : row 230 165 = some (.iload 4, 167, 0, 0, 0, 0) := rfl
theorem r_230_167 : row 230 167 = some (.iadd, 168, 0, 0, 0, 0) := rfl
theorem r_230_168 : row 230 168 = some (.iload 6, 170, 0, 0, 0, 0) := rfl
theorem r_230_170 : row 230 170 = some (.iadd, 171, 0, 0, 0, 0) := rfl
theorem r_230_171 : row 230 171 = some (.aload_n 0, 172, 0, 0, 0, 0) := rfl
theorem r_230_172 : row 230 172 = some (.getfield 74, 175, 10, 40, 2, 6041) := rfl
theorem r_230_175 : row 230 175 = some (.iload 6, 177, 0, 0, 0, 0) := rfl
theorem r_230_177 : row 230 177 = some (.laload, 178, 0, 0, 0, 0) := rfl
theorem r_230_178 : row 230 178 = some (.lastore, 179, 0, 0, 0, 0) := rfl
theorem r_230_179 : row 230 179 = some (.iinc 6 1, 182, 0, 0, 0, 0) := rfl
theorem r_230_182 : row 230 182 = some (.goto (-32), 185, 150, 0, 0, 0) := rfl
theorem r_230_185 : row 230 185 = some (.iconst 0, 186, 0, 0, 0, 0) := rfl
theorem r_230_186 : row 230 186 = some (.ireturn, 187, 0, 0, 0, 0) := rfl
theorem r_307_0 : row 307 0 = some (.aload_n 0, 1, 0, 0, 0, 0) := rfl
theorem r_307_1 : row 307 1 = some (.getfield 19, 4, 8, 2, 0, 1037) := rfl
theorem r_307_4 : row 307 4 = some (.ifCond .ne 16, 7, 20, 0, 0, 0) := rfl
theorem r_307_7 : row 307 7 = some (.aload_n 0, 8, 0, 0, 0, 0) := rfl
theorem r_307_8 : row 307 8 = some (.iload_n 1, 9, 0, 0, 0, 0) := rfl
theorem r_307_9 : row 307 9 = some (.putfield 19, 12, 8, 2, 0, 1037) := rfl
theorem r_307_12 : row 307 12 = some (.aload_n 0, 13, 0, 0, 0, 0) := rfl
theorem r_307_13 : row 307 13 = some (.aload_n 0, 14, 0, 0, 0, 0) := rfl
theorem r_307_14 : row 307 14 = some (.getfield 28, 17, 8, 5, 0, 1042) := rfl
theorem r_307_17 : row 307 17 = some (.putfield 22, 20, 8, 3, 0, 1039) := rfl
theorem r_307_20 : row 307 20 = some (.return_, 21, 0, 0, 0, 0) := rfl
theorem r_310_0 : row 310 0 = some (.aload_n 0, 1, 0, 0, 0, 0) := rfl
theorem r_310_1 : row 310 1 = some (.getfield 25, 4, 8, 4, 0, 1041) := rfl
theorem r_310_4 : row 310 4 = some (.iconst 2, 5, 2, 0, 0, 0) := rfl
theorem r_310_5 : row 310 5 = some (.if_icmp .eq 8, 8, 13, 0, 0, 0) := rfl
theorem r_310_8 : row 310 8 = some (.aload_n 0, 9, 0, 0, 0, 0) := rfl
theorem r_310_9 : row 310 9 = some (.iconst 1, 10, 1, 0, 0, 0) := rfl
theorem r_310_10 : row 310 10 = some (.invokevirtual 94, 13, 307, 1, 0, 3073) := rfl
theorem r_310_13 : row 310 13 = some (.aload_n 0, 14, 0, 0, 0, 0) := rfl
theorem r_310_14 : row 310 14 = some (.invokevirtual 171, 17, 315, 0, 0, 3082) := rfl
theorem r_310_17 : row 310 17 = some (.istore 4, 19, 0, 0, 0, 0) := rfl
theorem r_310_19 : row 310 19 = some (.iload 4, 21, 0, 0, 0, 0) := rfl
theorem r_310_21 : row 310 21 = some (.iload_n 1, 22, 0, 0, 0, 0) := rfl
theorem r_310_22 : row 310 22 = some (.if_icmp .lt 15, 25, 37, 0, 0, 0) := rfl
theorem r_310_25 : row 310 25 = some (.iload 4, 27, 0, 0, 0, 0) := rfl
theorem r_310_27 : row 310 27 = some (.iload_n 2, 28, 0, 0, 0, 0) := rfl
theorem r_310_28 : row 310 28 = some (.if_icmp .gt 9, 31, 37, 0, 0, 0) := rfl
theorem r_310_31 : row 310 31 = some (.iload 4, 33, 0, 0, 0, 0) := rfl
theorem r_310_33 : row 310 33 = some (.iload_n 3, 34, 0, 0, 0, 0) := rfl
theorem r_310_34 : row 310 34 = some (.if_icmp .ne 8, 37, 42, 0, 0, 0) := rfl
theorem r_310_37 : row 310 37 = some (.aload_n 0, 38, 0, 0, 0, 0) := rfl
theorem r_310_38 : row 310 38 = some (.iconst 2, 39, 2, 0, 0, 0) := rfl
theorem r_310_39 : row 310 39 = some (.invokevirtual 94, 42, 307, 1, 0, 3073) := rfl
theorem r_310_42 : row 310 42 = some (.aload_n 0, 43, 0, 0, 0, 0) := rfl
theorem r_310_43 : row 310 43 = some (.invokevirtual 45, 46, 312, 0, 0, 2237) := rfl
theorem r_310_46 : row 310 46 = some (.aload_n 0, 47, 0, 0, 0, 0) := rfl
theorem r_310_47 : row 310 47 = some (.getfield 19, 50, 8, 2, 0, 1037) := rfl
theorem r_310_50 : row 310 50 = some (.ifCond .ne 8, 53, 58, 0, 0, 0) := rfl
theorem r_310_53 : row 310 53 = some (.iload 4, 55, 0, 0, 0, 0) := rfl
theorem r_310_55 : row 310 55 = some (.goto 4, 58, 59, 0, 0, 0) := rfl
theorem r_310_58 : row 310 58 = some (.iconst 0, 59, 0, 0, 0, 0) := rfl
theorem r_310_59 : row 310 59 = some (.ireturn, 60, 0, 0, 0, 0) := rfl
section HAND
variable {T : List Kd} {m : Mm}
theorem x_307 (hT : TT T) (hm : Gam m) {k : Int} (hk1 : 1 ≤ k) (hk2 : k ≤ 3) : GX T 0 307 0 [(2, 2), (0, k)] [] m (RV (fun m1 => Gam m1 ∧ Fr [2002, 2003] m m1 ∧ ¬ m1 2 2 = 0)) := by
  refine gx_st (L' := [(2, 2), (0, k)]) (S' := [(2, 2)]) r_307_0 rfl rfl rfl ?_
  obtain ⟨x1, e_x1⟩ : ∃ z, z = m 2 2 := ⟨_, rfl⟩
  have b_x1 := gb_2_2 hm
  rw [← e_x1] at b_x1
  refine gx_gf (x := x1) 0 r_307_1 rfl (tk_2 hT) ⟨by decide, rfl, by decide, by decide⟩ rfl (fun z => absurd z (by decide)) (e_x1.symm) ?_
  refine gx_i0 (P := ¬ x1 = 0) r_307_4 (rfl) (fun h4 => ?_) (fun h4 => ?_)
  · exact gx_rt r_307_20 rfl rfl ⟨rfl, hm, Fr_rf, by omega⟩
  · have h4 := Decidable.not_not.mp h4
    refine gx_st (L' := [(2, 2), (0, k)]) (S' := [(2, 2)]) r_307_7 rfl rfl rfl ?_
    refine gx_st (L' := [(2, 2), (0, k)]) (S' := [(0, k), (2, 2)]) r_307_8 rfl rfl rfl ?_
    obtain ⟨m1, e_m1⟩ : ∃ z, z = nu_up m 2 2 k := ⟨_, rfl⟩
    have h_m1 : Gam m1 := by rw [e_m1]; exact gu_2_2 hm (by omega) (by omega)
    have f_m1 : Fr [2002, 2003] m m1 := Fr_tr Fr_rf (by rw [e_m1]; exact Fr_up rfl)
    refine gx_pf (x := k) 0 r_307_9 rfl (tk_2 hT) ⟨by decide, rfl, by decide, by decide⟩ rfl (fun z => absurd z (by decide)) (fun z => absurd z (by decide)) e_m1.symm ?_
    refine gx_st (L' := [(2, 2), (0, k)]) (S' := [(2, 2)]) r_307_12 rfl rfl rfl ?_
    refine gx_st (L' := [(2, 2), (0, k)]) (S' := [(2, 2), (2, 2)]) r_307_13 rfl rfl rfl ?_
    obtain ⟨x14, e_x14⟩ : ∃ z, z = m1 2 5 := ⟨_, rfl⟩
    have b_x14 := gb_2_5 h_m1
    rw [← e_x14] at b_x14
    refine gx_gf (x := x14) 0 r_307_14 rfl (tk_2 hT) ⟨by decide, rfl, by decide, by decide⟩ rfl (fun z => absurd z (by decide)) (e_x14.symm) ?_
    obtain ⟨m2, e_m2⟩ : ∃ z, z = nu_up m1 2 3 x14 := ⟨_, rfl⟩
    have h_m2 : Gam m2 := by rw [e_m2]; exact gu_2_3 h_m1 (by omega) (by omega)
    have f_m2 : Fr [2002, 2003] m m2 := Fr_tr f_m1 (by rw [e_m2]; exact Fr_up rfl)
    refine gx_pf (x := x14) 0 r_307_17 rfl (tk_2 hT) ⟨by decide, rfl, by decide, by decide⟩ rfl (fun z => absurd z (by decide)) (fun z => absurd z (by decide)) e_m2.symm ?_
    exact gx_rt r_307_20 rfl rfl ⟨rfl, h_m2, f_m2, by rw [e_m2, nu_ne (by decide), e_m1, nu_at]; omega⟩
theorem x_310 (hT : TT T) (h315 : ConH T cn_315) (h312 : ConH T (312, [(2, 2, 0)], (9, 0, 0), [2004, 2005, 2006], 2)) (hm : Gam m) (l u w : Int) : GX T 3 310 0 [(2, 2), (0, l), (0, u), (0, w), (9, 0)] [] m (RI (fun v m1 => ((l ≤ v ∧ v ≤ u) ∨ v = 0) ∧ Gam m1 ∧ Fr [2002, 2003, 2004, 2005, 2006] m m1)) := by
  refine gx_st (L' := [(2, 2), (0, l), (0, u), (0, w), (9, 0)]) (S' := [(2, 2)]) r_310_0 rfl rfl rfl ?_
  obtain ⟨x1, e_x1⟩ : ∃ z, z = m 2 4 := ⟨_, rfl⟩
  have b_x1 := gb_2_4 hm
  rw [← e_x1] at b_x1
  refine gx_gf (x := x1) 0 r_310_1 rfl (tk_2 hT) ⟨by decide, rfl, by decide, by decide⟩ rfl (fun z => absurd z (by decide)) (e_x1.symm) ?_
  refine gx_st (L' := [(2, 2), (0, l), (0, u), (0, w), (9, 0)]) (S' := [(0, 2), (0, x1)]) r_310_4 rfl rfl rfl ?_
  refine gx_ic (P := x1 = 2) r_310_5 (rfl) (fun h5 => ?_) (fun h5 => ?_)
  · refine gx_st (L' := [(2, 2), (0, l), (0, u), (0, w), (9, 0)]) (S' := [(2, 2)]) r_310_13 rfl rfl rfl ?_
    refine gx_ci (nx := 17) (S2 := []) (gx_hi (args := [(2, 2)]) h315 ⟨gq_o2, trivial⟩ hm rfl) r_310_14 rfl rfl rfl rfl rfl (rcv_v rfl (tk_2 hT) (by decide) rfl (by decide)) rfl (by decide) rfl (fun x14 n14 q14 => ?_)
    obtain rfl := (Fr_nil q14.2.2.2).symm
    have b_x14 := And.intro q14.1 q14.2.1
    show GX T 3 310 17 [(2, 2), (0, l), (0, u), (0, w), (9, 0)] [(0, x14)] m (RI (fun v m1 => ((l ≤ v ∧ v ≤ u) ∨ v = 0) ∧ Gam m1 ∧ Fr [2002, 2003, 2004, 2005, 2006] m m1))
    refine gx_st (L' := [(2, 2), (0, l), (0, u), (0, w), (0, x14)]) (S' := []) r_310_17 rfl rfl rfl ?_
    refine gx_st (L' := [(2, 2), (0, l), (0, u), (0, w), (0, x14)]) (S' := [(0, x14)]) r_310_19 rfl rfl rfl ?_
    refine gx_st (L' := [(2, 2), (0, l), (0, u), (0, w), (0, x14)]) (S' := [(0, l), (0, x14)]) r_310_21 rfl rfl rfl ?_
    refine gx_ic (P := x14 < l) r_310_22 (rfl) (fun h22 => ?_) (fun h22 => ?_)
    · refine gx_st (L' := [(2, 2), (0, l), (0, u), (0, w), (0, x14)]) (S' := [(2, 2)]) r_310_37 rfl rfl rfl ?_
      refine gx_st (L' := [(2, 2), (0, l), (0, u), (0, w), (0, x14)]) (S' := [(0, 2), (2, 2)]) r_310_38 rfl rfl rfl ?_
      refine gx_cv (nx := 42) (S2 := []) (x_307 hT hm (k := 2) (by decide) (by decide)) r_310_39 rfl rfl rfl rfl rfl (rcv_v rfl (tk_2 hT) (by decide) rfl (by decide)) rfl (by decide) rfl (fun n39 q39 => ?_)
      have f_n39 : Fr [2002, 2003, 2004, 2005, 2006] m n39 := Fr_tr Fr_rf (Fr_sub q39.2.1 (by decide))
      refine gx_st (L' := [(2, 2), (0, l), (0, u), (0, w), (0, x14)]) (S' := [(2, 2)]) r_310_42 rfl rfl rfl ?_
      refine gx_cv (nx := 46) (S2 := []) (gx_hv (args := [(2, 2)]) h312 ⟨gq_o2, trivial⟩ q39.1 rfl) r_310_43 rfl rfl rfl rfl rfl (rcv_v rfl (tk_2 hT) (by decide) rfl (by decide)) rfl (by decide) rfl (fun n43 q43 => ?_)
      have f_n43 : Fr [2002, 2003, 2004, 2005, 2006] m n43 := Fr_tr f_n39 (Fr_sub q43.2 (by decide))
      have bl_ : ¬ n43 2 2 = 0 := by rw [q43.2 2 2 rfl]; exact q39.2.2
      refine gx_st (L' := [(2, 2), (0, l), (0, u), (0, w), (0, x14)]) (S' := [(2, 2)]) r_310_46 rfl rfl rfl ?_
      obtain ⟨x47, e_x47⟩ : ∃ z, z = n43 2 2 := ⟨_, rfl⟩
      have b_x47 := gb_2_2 q43.1
      rw [← e_x47] at b_x47
      refine gx_gf (x := x47) 0 r_310_47 rfl (tk_2 hT) ⟨by decide, rfl, by decide, by decide⟩ rfl (fun z => absurd z (by decide)) (e_x47.symm) ?_
      refine gx_i0 (P := ¬ x47 = 0) r_310_50 (rfl) (fun h50 => ?_) (fun h50 => ?_)
      · refine gx_st (L' := [(2, 2), (0, l), (0, u), (0, w), (0, x14)]) (S' := [(0, 0)]) r_310_58 rfl rfl rfl ?_
        exact gx_rt r_310_59 rfl rfl ⟨_, rfl, Or.inr rfl, q43.1, f_n43⟩
      · have h50 := Decidable.not_not.mp h50
        refine gx_st (L' := [(2, 2), (0, l), (0, u), (0, w), (0, x14)]) (S' := [(0, x14)]) r_310_53 rfl rfl rfl ?_
        refine gx_st (L' := [(2, 2), (0, l), (0, u), (0, w), (0, x14)]) (S' := [(0, x14)]) r_310_55 rfl rfl rfl ?_
        exact absurd (by omega) bl_
    · refine gx_st (L' := [(2, 2), (0, l), (0, u), (0, w), (0, x14)]) (S' := [(0, x14)]) r_310_25 rfl rfl rfl ?_
      refine gx_st (L' := [(2, 2), (0, l), (0, u), (0, w), (0, x14)]) (S' := [(0, u), (0, x14)]) r_310_27 rfl rfl rfl ?_
      refine gx_ic (P := u < x14) r_310_28 (rfl) (fun h28 => ?_) (fun h28 => ?_)
      · refine gx_st (L' := [(2, 2), (0, l), (0, u), (0, w), (0, x14)]) (S' := [(2, 2)]) r_310_37 rfl rfl rfl ?_
        refine gx_st (L' := [(2, 2), (0, l), (0, u), (0, w), (0, x14)]) (S' := [(0, 2), (2, 2)]) r_310_38 rfl rfl rfl ?_
        refine gx_cv (nx := 42) (S2 := []) (x_307 hT hm (k := 2) (by decide) (by decide)) r_310_39 rfl rfl rfl rfl rfl (rcv_v rfl (tk_2 hT) (by decide) rfl (by decide)) rfl (by decide) rfl (fun n39 q39 => ?_)
        have f_n39 : Fr [2002, 2003, 2004, 2005, 2006] m n39 := Fr_tr Fr_rf (Fr_sub q39.2.1 (by decide))
        refine gx_st (L' := [(2, 2), (0, l), (0, u), (0, w), (0, x14)]) (S' := [(2, 2)]) r_310_42 rfl rfl rfl ?_
        refine gx_cv (nx := 46) (S2 := []) (gx_hv (args := [(2, 2)]) h312 ⟨gq_o2, trivial⟩ q39.1 rfl) r_310_43 rfl rfl rfl rfl rfl (rcv_v rfl (tk_2 hT) (by decide) rfl (by decide)) rfl (by decide) rfl (fun n43 q43 => ?_)
        have f_n43 : Fr [2002, 2003, 2004, 2005, 2006] m n43 := Fr_tr f_n39 (Fr_sub q43.2 (by decide))
        have bl_ : ¬ n43 2 2 = 0 := by rw [q43.2 2 2 rfl]; exact q39.2.2
        refine gx_st (L' := [(2, 2), (0, l), (0, u), (0, w), (0, x14)]) (S' := [(2, 2)]) r_310_46 rfl rfl rfl ?_
        obtain ⟨x47, e_x47⟩ : ∃ z, z = n43 2 2 := ⟨_, rfl⟩
        have b_x47 := gb_2_2 q43.1
        rw [← e_x47] at b_x47
        refine gx_gf (x := x47) 0 r_310_47 rfl (tk_2 hT) ⟨by decide, rfl, by decide, by decide⟩ rfl (fun z => absurd z (by decide)) (e_x47.symm) ?_
        refine gx_i0 (P := ¬ x47 = 0) r_310_50 (rfl) (fun h50 => ?_) (fun h50 => ?_)
        · refine gx_st (L' := [(2, 2), (0, l), (0, u), (0, w), (0, x14)]) (S' := [(0, 0)]) r_310_58 rfl rfl rfl ?_
          exact gx_rt r_310_59 rfl rfl ⟨_, rfl, Or.inr rfl, q43.1, f_n43⟩
        · have h50 := Decidable.not_not.mp h50
          refine gx_st (L' := [(2, 2), (0, l), (0, u), (0, w), (0, x14)]) (S' := [(0, x14)]) r_310_53 rfl rfl rfl ?_
          refine gx_st (L' := [(2, 2), (0, l), (0, u), (0, w), (0, x14)]) (S' := [(0, x14)]) r_310_55 rfl rfl rfl ?_
          exact absurd (by omega) bl_
      · refine gx_st (L' := [(2, 2), (0, l), (0, u), (0, w), (0, x14)]) (S' := [(0, x14)]) r_310_31 rfl rfl rfl ?_
        refine gx_st (L' := [(2, 2), (0, l), (0, u), (0, w), (0, x14)]) (S' := [(0, w), (0, x14)]) r_310_33 rfl rfl rfl ?_
        refine gx_ic (P := ¬ x14 = w) r_310_34 (rfl) (fun h34 => ?_) (fun h34 => ?_)
        · refine gx_st (L' := [(2, 2), (0, l), (0, u), (0, w), (0, x14)]) (S' := [(2, 2)]) r_310_42 rfl rfl rfl ?_
          refine gx_cv (nx := 46) (S2 := []) (gx_hv (args := [(2, 2)]) h312 ⟨gq_o2, trivial⟩ hm rfl) r_310_43 rfl rfl rfl rfl rfl (rcv_v rfl (tk_2 hT) (by decide) rfl (by decide)) rfl (by decide) rfl (fun n43 q43 => ?_)
          have f_n43 : Fr [2002, 2003, 2004, 2005, 2006] m n43 := Fr_tr Fr_rf (Fr_sub q43.2 (by decide))
          refine gx_st (L' := [(2, 2), (0, l), (0, u), (0, w), (0, x14)]) (S' := [(2, 2)]) r_310_46 rfl rfl rfl ?_
          obtain ⟨x47, e_x47⟩ : ∃ z, z = n43 2 2 := ⟨_, rfl⟩
          have b_x47 := gb_2_2 q43.1
          rw [← e_x47] at b_x47
          refine gx_gf (x := x47) 0 r_310_47 rfl (tk_2 hT) ⟨by decide, rfl, by decide, by decide⟩ rfl (fun z => absurd z (by decide)) (e_x47.symm) ?_
          refine gx_i0 (P := ¬ x47 = 0) r_310_50 (rfl) (fun h50 => ?_) (fun h50 => ?_)
          · refine gx_st (L' := [(2, 2), (0, l), (0, u), (0, w), (0, x14)]) (S' := [(0, 0)]) r_310_58 rfl rfl rfl ?_
            exact gx_rt r_310_59 rfl rfl ⟨_, rfl, Or.inr rfl, q43.1, f_n43⟩
          · have h50 := Decidable.not_not.mp h50
            refine gx_st (L' := [(2, 2), (0, l), (0, u), (0, w), (0, x14)]) (S' := [(0, x14)]) r_310_53 rfl rfl rfl ?_
            refine gx_st (L' := [(2, 2), (0, l), (0, u), (0, w), (0, x14)]) (S' := [(0, x14)]) r_310_55 rfl rfl rfl ?_
            exact gx_rt r_310_59 rfl rfl ⟨_, rfl, Or.inl ⟨by omega, by omega⟩, q43.1, f_n43⟩
        · have h34 := Decidable.not_not.mp h34
          refine gx_st (L' := [(2, 2), (0, l), (0, u), (0, w), (0, x14)]) (S' := [(2, 2)]) r_310_37 rfl rfl rfl ?_
          refine gx_st (L' := [(2, 2), (0, l), (0, u), (0, w), (0, x14)]) (S' := [(0, 2), (2, 2)]) r_310_38 rfl rfl rfl ?_
          refine gx_cv (nx := 42) (S2 := []) (x_307 hT hm (k := 2) (by decide) (by decide)) r_310_39 rfl rfl rfl rfl rfl (rcv_v rfl (tk_2 hT) (by decide) rfl (by decide)) rfl (by decide) rfl (fun n39 q39 => ?_)
          have f_n39 : Fr [2002, 2003, 2004, 2005, 2006] m n39 := Fr_tr Fr_rf (Fr_sub q39.2.1 (by decide))
          refine gx_st (L' := [(2, 2), (0, l), (0, u), (0, w), (0, x14)]) (S' := [(2, 2)]) r_310_42 rfl rfl rfl ?_
          refine gx_cv (nx := 46) (S2 := []) (gx_hv (args := [(2, 2)]) h312 ⟨gq_o2, trivial⟩ q39.1 rfl) r_310_43 rfl rfl rfl rfl rfl (rcv_v rfl (tk_2 hT) (by decide) rfl (by decide)) rfl (by decide) rfl (fun n43 q43 => ?_)
          have f_n43 : Fr [2002, 2003, 2004, 2005, 2006] m n43 := Fr_tr f_n39 (Fr_sub q43.2 (by decide))
          have bl_ : ¬ n43 2 2 = 0 := by rw [q43.2 2 2 rfl]; exact q39.2.2
          refine gx_st (L' := [(2, 2), (0, l), (0, u), (0, w), (0, x14)]) (S' := [(2, 2)]) r_310_46 rfl rfl rfl ?_
          obtain ⟨x47, e_x47⟩ : ∃ z, z = n43 2 2 := ⟨_, rfl⟩
          have b_x47 := gb_2_2 q43.1
          rw [← e_x47] at b_x47
          refine gx_gf (x := x47) 0 r_310_47 rfl (tk_2 hT) ⟨by decide, rfl, by decide, by decide⟩ rfl (fun z => absurd z (by decide)) (e_x47.symm) ?_
          refine gx_i0 (P := ¬ x47 = 0) r_310_50 (rfl) (fun h50 => ?_) (fun h50 => ?_)
          · refine gx_st (L' := [(2, 2), (0, l), (0, u), (0, w), (0, x14)]) (S' := [(0, 0)]) r_310_58 rfl rfl rfl ?_
            exact gx_rt r_310_59 rfl rfl ⟨_, rfl, Or.inr rfl, q43.1, f_n43⟩
          · have h50 := Decidable.not_not.mp h50
            refine gx_st (L' := [(2, 2), (0, l), (0, u), (0, w), (0, x14)]) (S' := [(0, x14)]) r_310_53 rfl rfl rfl ?_
            refine gx_st (L' := [(2, 2), (0, l), (0, u), (0, w), (0, x14)]) (S' := [(0, x14)]) r_310_55 rfl rfl rfl ?_
            exact absurd (by omega) bl_
  · refine gx_st (L' := [(2, 2), (0, l), (0, u), (0, w), (9, 0)]) (S' := [(2, 2)]) r_310_8 rfl rfl rfl ?_
    refine gx_st (L' := [(2, 2), (0, l), (0, u), (0, w), (9, 0)]) (S' := [(0, 1), (2, 2)]) r_310_9 rfl rfl rfl ?_
    refine gx_cv (nx := 13) (S2 := []) (x_307 hT hm (k := 1) (by decide) (by decide)) r_310_10 rfl rfl rfl rfl rfl (rcv_v rfl (tk_2 hT) (by decide) rfl (by decide)) rfl (by decide) rfl (fun n10 q10 => ?_)
    have f_n10 : Fr [2002, 2003, 2004, 2005, 2006] m n10 := Fr_tr Fr_rf (Fr_sub q10.2.1 (by decide))
    refine gx_st (L' := [(2, 2), (0, l), (0, u), (0, w), (9, 0)]) (S' := [(2, 2)]) r_310_13 rfl rfl rfl ?_
    refine gx_ci (nx := 17) (S2 := []) (gx_hi (args := [(2, 2)]) h315 ⟨gq_o2, trivial⟩ q10.1 rfl) r_310_14 rfl rfl rfl rfl rfl (rcv_v rfl (tk_2 hT) (by decide) rfl (by decide)) rfl (by decide) rfl (fun x14 n14 q14 => ?_)
    obtain rfl := (Fr_nil q14.2.2.2).symm
    have b_x14 := And.intro q14.1 q14.2.1
    show GX T 3 310 17 [(2, 2), (0, l), (0, u), (0, w), (9, 0)] [(0, x14)] n10 (RI (fun v m1 => ((l ≤ v ∧ v ≤ u) ∨ v = 0) ∧ Gam m1 ∧ Fr [2002, 2003, 2004, 2005, 2006] m m1))
    refine gx_st (L' := [(2, 2), (0, l), (0, u), (0, w), (0, x14)]) (S' := []) r_310_17 rfl rfl rfl ?_
    refine gx_st (L' := [(2, 2), (0, l), (0, u), (0, w), (0, x14)]) (S' := [(0, x14)]) r_310_19 rfl rfl rfl ?_
    refine gx_st (L' := [(2, 2), (0, l), (0, u), (0, w), (0, x14)]) (S' := [(0, l), (0, x14)]) r_310_21 rfl rfl rfl ?_
    refine gx_ic (P := x14 < l) r_310_22 (rfl) (fun h22 => ?_) (fun h22 => ?_)
    · refine gx_st (L' := [(2, 2), (0, l), (0, u), (0, w), (0, x14)]) (S' := [(2, 2)]) r_310_37 rfl rfl rfl ?_
      refine gx_st (L' := [(2, 2), (0, l), (0, u), (0, w), (0, x14)]) (S' := [(0, 2), (2, 2)]) r_310_38 rfl rfl rfl ?_
      refine gx_cv (nx := 42) (S2 := []) (x_307 hT q10.1 (k := 2) (by decide) (by decide)) r_310_39 rfl rfl rfl rfl rfl (rcv_v rfl (tk_2 hT) (by decide) rfl (by decide)) rfl (by decide) rfl (fun n39 q39 => ?_)
      have f_n39 : Fr [2002, 2003, 2004, 2005, 2006] m n39 := Fr_tr f_n10 (Fr_sub q39.2.1 (by decide))
      refine gx_st (L' := [(2, 2), (0, l), (0, u), (0, w), (0, x14)]) (S' := [(2, 2)]) r_310_42 rfl rfl rfl ?_
      refine gx_cv (nx := 46) (S2 := []) (gx_hv (args := [(2, 2)]) h312 ⟨gq_o2, trivial⟩ q39.1 rfl) r_310_43 rfl rfl rfl rfl rfl (rcv_v rfl (tk_2 hT) (by decide) rfl (by decide)) rfl (by decide) rfl (fun n43 q43 => ?_)
      have f_n43 : Fr [2002, 2003, 2004, 2005, 2006] m n43 := Fr_tr f_n39 (Fr_sub q43.2 (by decide))
      have bl_ : ¬ n43 2 2 = 0 := by rw [q43.2 2 2 rfl]; exact q39.2.2
      refine gx_st (L' := [(2, 2), (0, l), (0, u), (0, w), (0, x14)]) (S' := [(2, 2)]) r_310_46 rfl rfl rfl ?_
      obtain ⟨x47, e_x47⟩ : ∃ z, z = n43 2 2 := ⟨_, rfl⟩
      have b_x47 := gb_2_2 q43.1
      rw [← e_x47] at b_x47
      refine gx_gf (x := x47) 0 r_310_47 rfl (tk_2 hT) ⟨by decide, rfl, by decide, by decide⟩ rfl (fun z => absurd z (by decide)) (e_x47.symm) ?_
      refine gx_i0 (P := ¬ x47 = 0) r_310_50 (rfl) (fun h50 => ?_) (fun h50 => ?_)
      · refine gx_st (L' := [(2, 2), (0, l), (0, u), (0, w), (0, x14)]) (S' := [(0, 0)]) r_310_58 rfl rfl rfl ?_
        exact gx_rt r_310_59 rfl rfl ⟨_, rfl, Or.inr rfl, q43.1, f_n43⟩
      · have h50 := Decidable.not_not.mp h50
        refine gx_st (L' := [(2, 2), (0, l), (0, u), (0, w), (0, x14)]) (S' := [(0, x14)]) r_310_53 rfl rfl rfl ?_
        refine gx_st (L' := [(2, 2), (0, l), (0, u), (0, w), (0, x14)]) (S' := [(0, x14)]) r_310_55 rfl rfl rfl ?_
        exact absurd (by omega) bl_
    · refine gx_st (L' := [(2, 2), (0, l), (0, u), (0, w), (0, x14)]) (S' := [(0, x14)]) r_310_25 rfl rfl rfl ?_
      refine gx_st (L' := [(2, 2), (0, l), (0, u), (0, w), (0, x14)]) (S' := [(0, u), (0, x14)]) r_310_27 rfl rfl rfl ?_
      refine gx_ic (P := u < x14) r_310_28 (rfl) (fun h28 => ?_) (fun h28 => ?_)
      · refine gx_st (L' := [(2, 2), (0, l), (0, u), (0, w), (0, x14)]) (S' := [(2, 2)]) r_310_37 rfl rfl rfl ?_
        refine gx_st (L' := [(2, 2), (0, l), (0, u), (0, w), (0, x14)]) (S' := [(0, 2), (2, 2)]) r_310_38 rfl rfl rfl ?_
        refine gx_cv (nx := 42) (S2 := []) (x_307 hT q10.1 (k := 2) (by decide) (by decide)) r_310_39 rfl rfl rfl rfl rfl (rcv_v rfl (tk_2 hT) (by decide) rfl (by decide)) rfl (by decide) rfl (fun n39 q39 => ?_)
        have f_n39 : Fr [2002, 2003, 2004, 2005, 2006] m n39 := Fr_tr f_n10 (Fr_sub q39.2.1 (by decide))
        refine gx_st (L' := [(2, 2), (0, l), (0, u), (0, w), (0, x14)]) (S' := [(2, 2)]) r_310_42 rfl rfl rfl ?_
        refine gx_cv (nx := 46) (S2 := []) (gx_hv (args := [(2, 2)]) h312 ⟨gq_o2, trivial⟩ q39.1 rfl) r_310_43 rfl rfl rfl rfl rfl (rcv_v rfl (tk_2 hT) (by decide) rfl (by decide)) rfl (by decide) rfl (fun n43 q43 => ?_)
        have f_n43 : Fr [2002, 2003, 2004, 2005, 2006] m n43 := Fr_tr f_n39 (Fr_sub q43.2 (by decide))
        have bl_ : ¬ n43 2 2 = 0 := by rw [q43.2 2 2 rfl]; exact q39.2.2
        refine gx_st (L' := [(2, 2), (0, l), (0, u), (0, w), (0, x14)]) (S' := [(2, 2)]) r_310_46 rfl rfl rfl ?_
        obtain ⟨x47, e_x47⟩ : ∃ z, z = n43 2 2 := ⟨_, rfl⟩
        have b_x47 := gb_2_2 q43.1
        rw [← e_x47] at b_x47
        refine gx_gf (x := x47) 0 r_310_47 rfl (tk_2 hT) ⟨by decide, rfl, by decide, by decide⟩ rfl (fun z => absurd z (by decide)) (e_x47.symm) ?_
        refine gx_i0 (P := ¬ x47 = 0) r_310_50 (rfl) (fun h50 => ?_) (fun h50 => ?_)
        · refine gx_st (L' := [(2, 2), (0, l), (0, u), (0, w), (0, x14)]) (S' := [(0, 0)]) r_310_58 rfl rfl rfl ?_
          exact gx_rt r_310_59 rfl rfl ⟨_, rfl, Or.inr rfl, q43.1, f_n43⟩
        · have h50 := Decidable.not_not.mp h50
          refine gx_st (L' := [(2, 2), (0, l), (0, u), (0, w), (0, x14)]) (S' := [(0, x14)]) r_310_53 rfl rfl rfl ?_
          refine gx_st (L' := [(2, 2), (0, l), (0, u), (0, w), (0, x14)]) (S' := [(0, x14)]) r_310_55 rfl rfl rfl ?_
          exact absurd (by omega) bl_
      · refine gx_st (L' := [(2, 2), (0, l), (0, u), (0, w), (0, x14)]) (S' := [(0, x14)]) r_310_31 rfl rfl rfl ?_
        refine gx_st (L' := [(2, 2), (0, l), (0, u), (0, w), (0, x14)]) (S' := [(0, w), (0, x14)]) r_310_33 rfl rfl rfl ?_
        refine gx_ic (P := ¬ x14 = w) r_310_34 (rfl) (fun h34 => ?_) (fun h34 => ?_)
        · refine gx_st (L' := [(2, 2), (0, l), (0, u), (0, w), (0, x14)]) (S' := [(2, 2)]) r_310_42 rfl rfl rfl ?_
          refine gx_cv (nx := 46) (S2 := []) (gx_hv (args := [(2, 2)]) h312 ⟨gq_o2, trivial⟩ q10.1 rfl) r_310_43 rfl rfl rfl rfl rfl (rcv_v rfl (tk_2 hT) (by decide) rfl (by decide)) rfl (by decide) rfl (fun n43 q43 => ?_)
          have f_n43 : Fr [2002, 2003, 2004, 2005, 2006] m n43 := Fr_tr f_n10 (Fr_sub q43.2 (by decide))
          refine gx_st (L' := [(2, 2), (0, l), (0, u), (0, w), (0, x14)]) (S' := [(2, 2)]) r_310_46 rfl rfl rfl ?_
          obtain ⟨x47, e_x47⟩ : ∃ z, z = n43 2 2 := ⟨_, rfl⟩
          have b_x47 := gb_2_2 q43.1
          rw [← e_x47] at b_x47
          refine gx_gf (x := x47) 0 r_310_47 rfl (tk_2 hT) ⟨by decide, rfl, by decide, by decide⟩ rfl (fun z => absurd z (by decide)) (e_x47.symm) ?_
          refine gx_i0 (P := ¬ x47 = 0) r_310_50 (rfl) (fun h50 => ?_) (fun h50 => ?_)
          · refine gx_st (L' := [(2, 2), (0, l), (0, u), (0, w), (0, x14)]) (S' := [(0, 0)]) r_310_58 rfl rfl rfl ?_
            exact gx_rt r_310_59 rfl rfl ⟨_, rfl, Or.inr rfl, q43.1, f_n43⟩
          · have h50 := Decidable.not_not.mp h50
            refine gx_st (L' := [(2, 2), (0, l), (0, u), (0, w), (0, x14)]) (S' := [(0, x14)]) r_310_53 rfl rfl rfl ?_
            refine gx_st (L' := [(2, 2), (0, l), (0, u), (0, w), (0, x14)]) (S' := [(0, x14)]) r_310_55 rfl rfl rfl ?_
            exact gx_rt r_310_59 rfl rfl ⟨_, rfl, Or.inl ⟨by omega, by omega⟩, q43.1, f_n43⟩
        · have h34 := Decidable.not_not.mp h34
          refine gx_st (L' := [(2, 2), (0, l), (0, u), (0, w), (0, x14)]) (S' := [(2, 2)]) r_310_37 rfl rfl rfl ?_
          refine gx_st (L' := [(2, 2), (0, l), (0, u), (0, w), (0, x14)]) (S' := [(0, 2), (2, 2)]) r_310_38 rfl rfl rfl ?_
          refine gx_cv (nx := 42) (S2 := []) (x_307 hT q10.1 (k := 2) (by decide) (by decide)) r_310_39 rfl rfl rfl rfl rfl (rcv_v rfl (tk_2 hT) (by decide) rfl (by decide)) rfl (by decide) rfl (fun n39 q39 => ?_)
          have f_n39 : Fr [2002, 2003, 2004, 2005, 2006] m n39 := Fr_tr f_n10 (Fr_sub q39.2.1 (by decide))
          refine gx_st (L' := [(2, 2), (0, l), (0, u), (0, w), (0, x14)]) (S' := [(2, 2)]) r_310_42 rfl rfl rfl ?_
          refine gx_cv (nx := 46) (S2 := []) (gx_hv (args := [(2, 2)]) h312 ⟨gq_o2, trivial⟩ q39.1 rfl) r_310_43 rfl rfl rfl rfl rfl (rcv_v rfl (tk_2 hT) (by decide) rfl (by decide)) rfl (by decide) rfl (fun n43 q43 => ?_)
          have f_n43 : Fr [2002, 2003, 2004, 2005, 2006] m n43 := Fr_tr f_n39 (Fr_sub q43.2 (by decide))
          have bl_ : ¬ n43 2 2 = 0 := by rw [q43.2 2 2 rfl]; exact q39.2.2
          refine gx_st (L' := [(2, 2), (0, l), (0, u), (0, w), (0, x14)]) (S' := [(2, 2)]) r_310_46 rfl rfl rfl ?_
          obtain ⟨x47, e_x47⟩ : ∃ z, z = n43 2 2 := ⟨_, rfl⟩
          have b_x47 := gb_2_2 q43.1
          rw [← e_x47] at b_x47
          refine gx_gf (x := x47) 0 r_310_47 rfl (tk_2 hT) ⟨by decide, rfl, by decide, by decide⟩ rfl (fun z => absurd z (by decide)) (e_x47.symm) ?_
          refine gx_i0 (P := ¬ x47 = 0) r_310_50 (rfl) (fun h50 => ?_) (fun h50 => ?_)
          · refine gx_st (L' := [(2, 2), (0, l), (0, u), (0, w), (0, x14)]) (S' := [(0, 0)]) r_310_58 rfl rfl rfl ?_
            exact gx_rt r_310_59 rfl rfl ⟨_, rfl, Or.inr rfl, q43.1, f_n43⟩
          · have h50 := Decidable.not_not.mp h50
            refine gx_st (L' := [(2, 2), (0, l), (0, u), (0, w), (0, x14)]) (S' := [(0, x14)]) r_310_53 rfl rfl rfl ?_
            refine gx_st (L' := [(2, 2), (0, l), (0, u), (0, w), (0, x14)]) (S' := [(0, x14)]) r_310_55 rfl rfl rfl ?_
            exact absurd (by omega) bl_
theorem pst_a {m0 : Mm} {Q : AV → Mm → Prop} (hT : TT T) {s i t j n : Nat} (hs : s < 4) (hi : i + n ≤ 60) (hout : ∀ m, Gam m → Fr [109999, 110999] m0 m → GX T 2 230 147 [(2, 192), (0, (s : Int)), (0, (i : Int)), (0, (t : Int)), (0, (j : Int)), (0, (n : Int)), (0, (n : Int))] [] m Q) : ∀ (N k : Nat) (m : Mm), n - k < N → k ≤ n → Gam m → Fr [109999, 110999] m0 m → GX T 2 230 113 [(2, 192), (0, (s : Int)), (0, (i : Int)), (0, (t : Int)), (0, (j : Int)), (0, (n : Int)), (0, (k : Int))] [] m Q := by
  intro N
  induction N with
  | zero => intro k m hN; exact absurd hN (Nat.not_lt_zero _)
  | succ N ih =>
    intro k m hN hk hm hf
    refine gx_st (L' := [(2, 192), (0, (s : Int)), (0, (i : Int)), (0, (t : Int)), (0, (j : Int)), (0, (n : Int)), (0, (k : Int))]) (S' := [(0, (k : Int))]) r_230_113 rfl rfl rfl ?_
    refine gx_st (L' := [(2, 192), (0, (s : Int)), (0, (i : Int)), (0, (t : Int)), (0, (j : Int)), (0, (n : Int)), (0, (k : Int))]) (S' := [(0, (n : Int)), (0, (k : Int))]) r_230_115 rfl rfl rfl ?_
    refine gx_ic (P := (n : Int) ≤ (k : Int)) r_230_117 (rfl) (fun h117 => ?_) (fun h117 => ?_)
    · have hkn : k = n := by omega
      rw [hkn]
      exact hout m hm hf
    · refine gx_st (L' := [(2, 192), (0, (s : Int)), (0, (i : Int)), (0, (t : Int)), (0, (j : Int)), (0, (n : Int)), (0, (k : Int))]) (S' := [(2, 192)]) r_230_120 rfl rfl rfl ?_
      refine gx_gf (x := 212) 2 r_230_121 rfl (tk_192 hT) ⟨by decide, rfl, by decide, by decide⟩ rfl (fun _ => by decide) (pr_192_40 hm) ?_
      refine gx_st (L' := [(2, 192), (0, (s : Int)), (0, (i : Int)), (0, (t : Int)), (0, (j : Int)), (0, (n : Int)), (0, (k : Int))]) (S' := [(0, (k : Int)), (2, 212)]) r_230_124 rfl rfl rfl ?_
      refine gx_st (L' := [(2, 192), (0, (s : Int)), (0, (i : Int)), (0, (t : Int)), (0, (j : Int)), (0, (n : Int)), (0, (k : Int))]) (S' := [(2, 192), (0, (k : Int)), (2, 212)]) r_230_126 rfl rfl rfl ?_
      refine gx_gf (x := 211) 2 r_230_127 rfl (tk_192 hT) ⟨by decide, rfl, by decide, by decide⟩ rfl (fun _ => by decide) (pr_192_39 hm) ?_
      refine gx_st (L' := [(2, 192), (0, (s : Int)), (0, (i : Int)), (0, (t : Int)), (0, (j : Int)), (0, (n : Int)), (0, (k : Int))]) (S' := [(0, 60), (2, 211), (0, (k : Int)), (2, 212)]) r_230_130 rfl rfl rfl ?_
      refine gx_st (L' := [(2, 192), (0, (s : Int)), (0, (i : Int)), (0, (t : Int)), (0, (j : Int)), (0, (n : Int)), (0, (k : Int))]) (S' := [(0, (s : Int)), (0, 60), (2, 211), (0, (k : Int)), (2, 212)]) r_230_132 rfl rfl rfl ?_
      refine gx_ar (L' := [(2, 192), (0, (s : Int)), (0, (i : Int)), (0, (t : Int)), (0, (j : Int)), (0, (n : Int)), (0, (k : Int))]) (S' := [(2, 211), (0, (k : Int)), (2, 212)]) (t := 0) (e := w32 (60 * (s : Int))) (z := 60 * (s : Int)) r_230_133 rfl rfl rfl (w32_eq (by omega) (by omega) (by omega)) ?_
      refine gx_st (L' := [(2, 192), (0, (s : Int)), (0, (i : Int)), (0, (t : Int)), (0, (j : Int)), (0, (n : Int)), (0, (k : Int))]) (S' := [(0, (i : Int)), (0, 60 * (s : Int)), (2, 211), (0, (k : Int)), (2, 212)]) r_230_134 rfl rfl rfl ?_
      refine gx_ar (L' := [(2, 192), (0, (s : Int)), (0, (i : Int)), (0, (t : Int)), (0, (j : Int)), (0, (n : Int)), (0, (k : Int))]) (S' := [(2, 211), (0, (k : Int)), (2, 212)]) (t := 0) (e := w32 ((60 * (s : Int)) + (i : Int))) (z := 60 * (s : Int) + (i : Int)) r_230_135 rfl rfl rfl (w32_eq (by omega) (by omega) (by omega)) ?_
      refine gx_st (L' := [(2, 192), (0, (s : Int)), (0, (i : Int)), (0, (t : Int)), (0, (j : Int)), (0, (n : Int)), (0, (k : Int))]) (S' := [(0, (k : Int)), (0, 60 * (s : Int) + (i : Int)), (2, 211), (0, (k : Int)), (2, 212)]) r_230_136 rfl rfl rfl ?_
      refine gx_ar (L' := [(2, 192), (0, (s : Int)), (0, (i : Int)), (0, (t : Int)), (0, (j : Int)), (0, (n : Int)), (0, (k : Int))]) (S' := [(2, 211), (0, (k : Int)), (2, 212)]) (t := 0) (e := w32 ((60 * (s : Int) + (i : Int)) + (k : Int))) (z := 60 * (s : Int) + (i : Int) + (k : Int)) r_230_138 rfl rfl rfl (w32_eq (by omega) (by omega) (by omega)) ?_
      obtain ⟨x139, e_x139⟩ : ∃ z, z = m 211 (60 * s + i + k) := ⟨_, rfl⟩
      have b_x139 := gb_211 hm (i := 60 * s + i + k) (by omega)
      rw [← e_x139] at b_x139
      refine gx_la (n := 60 * s + i + k) (x := x139) r_230_139 rfl (by decide) (tk_211 hT) (by omega) ⟨rfl, by omega⟩ (e_x139.symm) ?_
      obtain ⟨m1, e_m1⟩ : ∃ z, z = nu_up m 212 (k) x139 := ⟨_, rfl⟩
      have h_m1 : Gam m1 := by rw [e_m1]; exact gu_212 hm (i := k) (by omega) (by omega)
      have f_m1 : Fr [109999, 110999] m0 m1 := Fr_tr hf (by rw [e_m1]; exact Fr_ua rfl rfl)
      refine gx_ls (n := k) (x := x139) r_230_140 rfl (by decide) (tk_212 hT) (by omega) ⟨rfl, by omega⟩ e_m1.symm ?_
      refine gx_li (z := (k : Int) + 1) (L' := [(2, 192), (0, (s : Int)), (0, (i : Int)), (0, (t : Int)), (0, (j : Int)), (0, (n : Int)), (0, (k : Int) + 1)]) r_230_141 rfl (w32_eq (by omega) (by omega) (by omega)) rfl ?_
      refine gx_st (L' := [(2, 192), (0, (s : Int)), (0, (i : Int)), (0, (t : Int)), (0, (j : Int)), (0, (n : Int)), (0, (k : Int) + 1)]) (S' := []) r_230_144 rfl rfl rfl ?_
      rw [show (k : Int) + 1 = ((k + 1 : Nat) : Int) from rfl]
      exact ih (k + 1) m1 (by omega) (by omega) h_m1 f_m1
theorem pst_b {m0 : Mm} {Q : AV → Mm → Prop} (hT : TT T) {s i t j n : Nat} (ht : t < 4) (hn : n ≤ 60) (hj : j + n ≤ 60) (hout : ∀ m, Gam m → Fr [109999, 110999] m0 m → GX T 2 230 185 [(2, 192), (0, (s : Int)), (0, (i : Int)), (0, (t : Int)), (0, (j : Int)), (0, (n : Int)), (0, (n : Int))] [] m Q) : ∀ (N k : Nat) (m : Mm), n - k < N → k ≤ n → Gam m → Fr [109999, 110999] m0 m → GX T 2 230 150 [(2, 192), (0, (s : Int)), (0, (i : Int)), (0, (t : Int)), (0, (j : Int)), (0, (n : Int)), (0, (k : Int))] [] m Q := by
  intro N
  induction N with
  | zero => intro k m hN; exact absurd hN (Nat.not_lt_zero _)
  | succ N ih =>
    intro k m hN hk hm hf
    refine gx_st (L' := [(2, 192), (0, (s : Int)), (0, (i : Int)), (0, (t : Int)), (0, (j : Int)), (0, (n : Int)), (0, (k : Int))]) (S' := [(0, (k : Int))]) r_230_150 rfl rfl rfl ?_
    refine gx_st (L' := [(2, 192), (0, (s : Int)), (0, (i : Int)), (0, (t : Int)), (0, (j : Int)), (0, (n : Int)), (0, (k : Int))]) (S' := [(0, (n : Int)), (0, (k : Int))]) r_230_152 rfl rfl rfl ?_
    refine gx_ic (P := (n : Int) ≤ (k : Int)) r_230_154 (rfl) (fun h154 => ?_) (fun h154 => ?_)
    · have hkn : k = n := by omega
      rw [hkn]
      exact hout m hm hf
    · refine gx_st (L' := [(2, 192), (0, (s : Int)), (0, (i : Int)), (0, (t : Int)), (0, (j : Int)), (0, (n : Int)), (0, (k : Int))]) (S' := [(2, 192)]) r_230_157 rfl rfl rfl ?_
      refine gx_gf (x := 211) 2 r_230_158 rfl (tk_192 hT) ⟨by decide, rfl, by decide, by decide⟩ rfl (fun _ => by decide) (pr_192_39 hm) ?_
      refine gx_st (L' := [(2, 192), (0, (s : Int)), (0, (i : Int)), (0, (t : Int)), (0, (j : Int)), (0, (n : Int)), (0, (k : Int))]) (S' := [(0, 60), (2, 211)]) r_230_161 rfl rfl rfl ?_
      refine gx_st (L' := [(2, 192), (0, (s : Int)), (0, (i : Int)), (0, (t : Int)), (0, (j : Int)), (0, (n : Int)), (0, (k : Int))]) (S' := [(0, (t : Int)), (0, 60), (2, 211)]) r_230_163 rfl rfl rfl ?_
      refine gx_ar (L' := [(2, 192), (0, (s : Int)), (0, (i : Int)), (0, (t : Int)), (0, (j : Int)), (0, (n : Int)), (0, (k : Int))]) (S' := [(2, 211)]) (t := 0) (e := w32 (60 * (t : Int))) (z := 60 * (t : Int)) r_230_164 rfl rfl rfl (w32_eq (by omega) (by omega) (by omega)) ?_
      refine gx_st (L' := [(2, 192), (0, (s : Int)), (0, (i : Int)), (0, (t : Int)), (0, (j : Int)), (0, (n : Int)), (0, (k : Int))]) (S' := [(0, (j : Int)), (0, 60 * (t : Int)), (2, 211)]) r_230_165 rfl rfl rfl ?_
      refine gx_ar (L' := [(2, 192), (0, (s : Int)), (0, (i : Int)), (0, (t : Int)), (0, (j : Int)), (0, (n : Int)), (0, (k : Int))]) (S' := [(2, 211)]) (t := 0) (e := w32 ((60 * (t : Int)) + (j : Int))) (z := 60 * (t : Int) + (j : Int)) r_230_167 rfl rfl rfl (w32_eq (by omega) (by omega) (by omega)) ?_
      refine gx_st (L' := [(2, 192), (0, (s : Int)), (0, (i : Int)), (0, (t : Int)), (0, (j : Int)), (0, (n : Int)), (0, (k : Int))]) (S' := [(0, (k : Int)), (0, 60 * (t : Int) + (j : Int)), (2, 211)]) r_230_168 rfl rfl rfl ?_
      refine gx_ar (L' := [(2, 192), (0, (s : Int)), (0, (i : Int)), (0, (t : Int)), (0, (j : Int)), (0, (n : Int)), (0, (k : Int))]) (S' := [(2, 211)]) (t := 0) (e := w32 ((60 * (t : Int) + (j : Int)) + (k : Int))) (z := 60 * (t : Int) + (j : Int) + (k : Int)) r_230_170 rfl rfl rfl (w32_eq (by omega) (by omega) (by omega)) ?_
      refine gx_st (L' := [(2, 192), (0, (s : Int)), (0, (i : Int)), (0, (t : Int)), (0, (j : Int)), (0, (n : Int)), (0, (k : Int))]) (S' := [(2, 192), (0, 60 * (t : Int) + (j : Int) + (k : Int)), (2, 211)]) r_230_171 rfl rfl rfl ?_
      refine gx_gf (x := 212) 2 r_230_172 rfl (tk_192 hT) ⟨by decide, rfl, by decide, by decide⟩ rfl (fun _ => by decide) (pr_192_40 hm) ?_
      refine gx_st (L' := [(2, 192), (0, (s : Int)), (0, (i : Int)), (0, (t : Int)), (0, (j : Int)), (0, (n : Int)), (0, (k : Int))]) (S' := [(0, (k : Int)), (2, 212), (0, 60 * (t : Int) + (j : Int) + (k : Int)), (2, 211)]) r_230_175 rfl rfl rfl ?_
      obtain ⟨x177, e_x177⟩ : ∃ z, z = m 212 (k) := ⟨_, rfl⟩
      have b_x177 := gb_212 hm (i := k) (by omega)
      rw [← e_x177] at b_x177
      refine gx_la (n := k) (x := x177) r_230_177 rfl (by decide) (tk_212 hT) (by omega) ⟨rfl, by omega⟩ (e_x177.symm) ?_
      obtain ⟨m1, e_m1⟩ : ∃ z, z = nu_up m 211 (60 * t + j + k) x177 := ⟨_, rfl⟩
      have h_m1 : Gam m1 := by rw [e_m1]; exact gu_211 hm (i := 60 * t + j + k) (by omega) (by omega)
      have f_m1 : Fr [109999, 110999] m0 m1 := Fr_tr hf (by rw [e_m1]; exact Fr_ua rfl rfl)
      refine gx_ls (n := 60 * t + j + k) (x := x177) r_230_178 rfl (by decide) (tk_211 hT) (by omega) ⟨rfl, by omega⟩ e_m1.symm ?_
      refine gx_li (z := (k : Int) + 1) (L' := [(2, 192), (0, (s : Int)), (0, (i : Int)), (0, (t : Int)), (0, (j : Int)), (0, (n : Int)), (0, (k : Int) + 1)]) r_230_179 rfl (w32_eq (by omega) (by omega) (by omega)) rfl ?_
      refine gx_st (L' := [(2, 192), (0, (s : Int)), (0, (i : Int)), (0, (t : Int)), (0, (j : Int)), (0, (n : Int)), (0, (k : Int) + 1)]) (S' := []) r_230_182 rfl rfl rfl ?_
      rw [show (k : Int) + 1 = ((k + 1 : Nat) : Int) from rfl]
      exact ih (k + 1) m1 (by omega) (by omega) h_m1 f_m1
/-- what paste answers, by how many numbers there are, and widths -/
def PstV (ms mt ws wt b e f v : Int) : Prop := ((ms = -1 ∨ mt = -1) → v = -6) ∧ (¬ (ms = -1 ∨ mt = -1) → (¬ ws = wt → v = -8) ∧ (ws = wt → ((b < 0 ∨ e < 0 ∨ f < 0 ∨ ms < b + f ∨ mt < e + f) → v = -7) ∧ (¬ (b < 0 ∨ e < 0 ∨ f < 0 ∨ ms < b + f ∨ mt < e + f) → v = 0)))
theorem x_230 (hT : TT T) (hm : Gam m) {a b c e f : Int} (hb : in32 b) (he : in32 e) (hf : in32 f) : GX T 2 230 0 [(2, 192), (0, a), (0, b), (0, c), (0, e), (0, f), (9, 0)] [] m (RI (fun v m1 => ((¬ (0 ≤ a ∧ a ≤ 3) ∨ ¬ (0 ≤ c ∧ c ≤ 3) → v = -2) ∧ (∀ s t : Nat, s < 4 → t < 4 → a = (s : Int) → c = (t : Int) → PstV (m 209 s) (m 209 t) (m 210 s) (m 210 t) b e f v)) ∧ Gam m1 ∧ Fr [109999, 110999] m m1)) := by
  unfold in32 at hb he hf
  refine gx_st (L' := [(2, 192), (0, a), (0, b), (0, c), (0, e), (0, f), (9, 0)]) (S' := [(0, a)]) r_230_0 rfl rfl rfl ?_
  refine gx_ci (nx := 4) (S2 := []) (x_226 a) r_230_1 rfl rfl rfl rfl rfl rfl rfl (by decide) rfl (fun x1 n1 q1 => ?_)
  obtain rfl := q1.1.symm
  obtain rfl := q1.2.symm
  show GX T 2 230 4 [(2, 192), (0, a), (0, b), (0, c), (0, e), (0, f), (9, 0)] [(0, (if 0 ≤ a ∧ a ≤ 3 then 1 else 0))] m (RI (fun v m1 => ((¬ (0 ≤ a ∧ a ≤ 3) ∨ ¬ (0 ≤ c ∧ c ≤ 3) → v = -2) ∧ (∀ s t : Nat, s < 4 → t < 4 → a = (s : Int) → c = (t : Int) → PstV (m 209 s) (m 209 t) (m 210 s) (m 210 t) b e f v)) ∧ Gam m1 ∧ Fr [109999, 110999] m m1))
  refine gx_i0 (P := ¬ (0 ≤ a ∧ a ≤ 3)) r_230_4 (b01_eq) (fun h4 => ?_) (fun h4 => ?_)
  · refine gx_st (L' := [(2, 192), (0, a), (0, b), (0, c), (0, e), (0, f), (9, 0)]) (S' := [(0, (-2))]) r_230_14 rfl rfl rfl ?_
    exact gx_rt r_230_16 rfl rfl ⟨_, rfl, ⟨fun _ => rfl, fun s t h1 h2 h3 h4 => by omega⟩, hm, Fr_rf⟩
  · have h4 := Decidable.not_not.mp h4
    refine gx_st (L' := [(2, 192), (0, a), (0, b), (0, c), (0, e), (0, f), (9, 0)]) (S' := [(0, c)]) r_230_7 rfl rfl rfl ?_
    refine gx_ci (nx := 11) (S2 := []) (x_226 c) r_230_8 rfl rfl rfl rfl rfl rfl rfl (by decide) rfl (fun x8 n8 q8 => ?_)
    obtain rfl := q8.1.symm
    obtain rfl := q8.2.symm
    show GX T 2 230 11 [(2, 192), (0, a), (0, b), (0, c), (0, e), (0, f), (9, 0)] [(0, (if 0 ≤ c ∧ c ≤ 3 then 1 else 0))] m (RI (fun v m1 => ((¬ (0 ≤ a ∧ a ≤ 3) ∨ ¬ (0 ≤ c ∧ c ≤ 3) → v = -2) ∧ (∀ s t : Nat, s < 4 → t < 4 → a = (s : Int) → c = (t : Int) → PstV (m 209 s) (m 209 t) (m 210 s) (m 210 t) b e f v)) ∧ Gam m1 ∧ Fr [109999, 110999] m m1))
    refine gx_i0 (P := 0 ≤ c ∧ c ≤ 3) r_230_11 (b01_ne) (fun h11 => ?_) (fun h11 => ?_)
    · obtain ⟨s, hsa⟩ : ∃ s : Nat, a = (s : Int) := ⟨a.toNat, by omega⟩
      obtain ⟨t, htc⟩ : ∃ t : Nat, c = (t : Int) := ⟨c.toNat, by omega⟩
      have hs : s < 4 := by omega
      have ht : t < 4 := by omega
      rw [hsa, htc]
      refine gx_st (L' := [(2, 192), (0, (s : Int)), (0, b), (0, (t : Int)), (0, e), (0, f), (9, 0)]) (S' := [(2, 192)]) r_230_17 rfl rfl rfl ?_
      refine gx_gf (x := 209) 2 r_230_18 rfl (tk_192 hT) ⟨by decide, rfl, by decide, by decide⟩ rfl (fun _ => by decide) (pr_192_37 hm) ?_
      refine gx_st (L' := [(2, 192), (0, (s : Int)), (0, b), (0, (t : Int)), (0, e), (0, f), (9, 0)]) (S' := [(0, (s : Int)), (2, 209)]) r_230_21 rfl rfl rfl ?_
      obtain ⟨x22, e_x22⟩ : ∃ z, z = m 209 (s) := ⟨_, rfl⟩
      have b_x22 := gb_209 hm (i := s) (by omega)
      rw [← e_x22] at b_x22
      refine gx_ia (n := s) (x := x22) r_230_22 rfl (tk_209 hT) (by omega) ⟨rfl, by omega⟩ (e_x22.symm) ?_
      refine gx_st (L' := [(2, 192), (0, (s : Int)), (0, b), (0, (t : Int)), (0, e), (0, f), (9, 0)]) (S' := [(0, (-1)), (0, x22)]) r_230_23 rfl rfl rfl ?_
      refine gx_ic (P := x22 = (-1)) r_230_24 (rfl) (fun h24 => ?_) (fun h24 => ?_)
      · refine gx_st (L' := [(2, 192), (0, (s : Int)), (0, b), (0, (t : Int)), (0, e), (0, f), (9, 0)]) (S' := [(0, (-6))]) r_230_37 rfl rfl rfl ?_
        refine gx_rt r_230_39 rfl rfl ⟨_, rfl, ⟨fun z => by omega, fun s2 t2 h1 h2 h3 h4 => ?_⟩, hm, Fr_rf⟩
        obtain rfl : s2 = s := by omega
        obtain rfl : t2 = t := by omega
        unfold PstV
        refine ⟨fun y => ?_, fun y => ⟨fun y2 => ?_, fun y2 => ⟨fun y3 => ?_, fun y3 => ?_⟩⟩⟩ <;> omega
      · refine gx_st (L' := [(2, 192), (0, (s : Int)), (0, b), (0, (t : Int)), (0, e), (0, f), (9, 0)]) (S' := [(2, 192)]) r_230_27 rfl rfl rfl ?_
        refine gx_gf (x := 209) 2 r_230_28 rfl (tk_192 hT) ⟨by decide, rfl, by decide, by decide⟩ rfl (fun _ => by decide) (pr_192_37 hm) ?_
        refine gx_st (L' := [(2, 192), (0, (s : Int)), (0, b), (0, (t : Int)), (0, e), (0, f), (9, 0)]) (S' := [(0, (t : Int)), (2, 209)]) r_230_31 rfl rfl rfl ?_
        obtain ⟨x32, e_x32⟩ : ∃ z, z = m 209 (t) := ⟨_, rfl⟩
        have b_x32 := gb_209 hm (i := t) (by omega)
        rw [← e_x32] at b_x32
        refine gx_ia (n := t) (x := x32) r_230_32 rfl (tk_209 hT) (by omega) ⟨rfl, by omega⟩ (e_x32.symm) ?_
        refine gx_st (L' := [(2, 192), (0, (s : Int)), (0, b), (0, (t : Int)), (0, e), (0, f), (9, 0)]) (S' := [(0, (-1)), (0, x32)]) r_230_33 rfl rfl rfl ?_
        refine gx_ic (P := ¬ x32 = (-1)) r_230_34 (rfl) (fun h34 => ?_) (fun h34 => ?_)
        · refine gx_st (L' := [(2, 192), (0, (s : Int)), (0, b), (0, (t : Int)), (0, e), (0, f), (9, 0)]) (S' := [(2, 192)]) r_230_40 rfl rfl rfl ?_
          refine gx_gf (x := 210) 2 r_230_41 rfl (tk_192 hT) ⟨by decide, rfl, by decide, by decide⟩ rfl (fun _ => by decide) (pr_192_38 hm) ?_
          refine gx_st (L' := [(2, 192), (0, (s : Int)), (0, b), (0, (t : Int)), (0, e), (0, f), (9, 0)]) (S' := [(0, (s : Int)), (2, 210)]) r_230_44 rfl rfl rfl ?_
          obtain ⟨x45, e_x45⟩ : ∃ z, z = m 210 (s) := ⟨_, rfl⟩
          have b_x45 := gb_210 hm (i := s) (by omega)
          rw [← e_x45] at b_x45
          refine gx_ia (n := s) (x := x45) r_230_45 rfl (tk_210 hT) (by omega) ⟨rfl, by omega⟩ (e_x45.symm) ?_
          refine gx_st (L' := [(2, 192), (0, (s : Int)), (0, b), (0, (t : Int)), (0, e), (0, f), (9, 0)]) (S' := [(2, 192), (0, x45)]) r_230_46 rfl rfl rfl ?_
          refine gx_gf (x := 210) 2 r_230_47 rfl (tk_192 hT) ⟨by decide, rfl, by decide, by decide⟩ rfl (fun _ => by decide) (pr_192_38 hm) ?_
          refine gx_st (L' := [(2, 192), (0, (s : Int)), (0, b), (0, (t : Int)), (0, e), (0, f), (9, 0)]) (S' := [(0, (t : Int)), (2, 210), (0, x45)]) r_230_50 rfl rfl rfl ?_
          obtain ⟨x51, e_x51⟩ : ∃ z, z = m 210 (t) := ⟨_, rfl⟩
          have b_x51 := gb_210 hm (i := t) (by omega)
          rw [← e_x51] at b_x51
          refine gx_ia (n := t) (x := x51) r_230_51 rfl (tk_210 hT) (by omega) ⟨rfl, by omega⟩ (e_x51.symm) ?_
          refine gx_ic (P := x45 = x51) r_230_52 (rfl) (fun h52 => ?_) (fun h52 => ?_)
          · refine gx_st (L' := [(2, 192), (0, (s : Int)), (0, b), (0, (t : Int)), (0, e), (0, f), (9, 0)]) (S' := [(0, b)]) r_230_58 rfl rfl rfl ?_
            refine gx_i0 (P := b < 0) r_230_59 (rfl) (fun h59 => ?_) (fun h59 => ?_)
            · refine gx_st (L' := [(2, 192), (0, (s : Int)), (0, b), (0, (t : Int)), (0, e), (0, f), (9, 0)]) (S' := [(0, (-7))]) r_230_107 rfl rfl rfl ?_
              refine gx_rt r_230_109 rfl rfl ⟨_, rfl, ⟨fun z => by omega, fun s2 t2 h1 h2 h3 h4 => ?_⟩, hm, Fr_rf⟩
              obtain rfl : s2 = s := by omega
              obtain rfl : t2 = t := by omega
              unfold PstV
              refine ⟨fun y => ?_, fun y => ⟨fun y2 => ?_, fun y2 => ⟨fun y3 => ?_, fun y3 => ?_⟩⟩⟩ <;> omega
            · refine gx_st (L' := [(2, 192), (0, (s : Int)), (0, b), (0, (t : Int)), (0, e), (0, f), (9, 0)]) (S' := [(0, e)]) r_230_62 rfl rfl rfl ?_
              refine gx_i0 (P := e < 0) r_230_64 (rfl) (fun h64 => ?_) (fun h64 => ?_)
              · refine gx_st (L' := [(2, 192), (0, (s : Int)), (0, b), (0, (t : Int)), (0, e), (0, f), (9, 0)]) (S' := [(0, (-7))]) r_230_107 rfl rfl rfl ?_
                refine gx_rt r_230_109 rfl rfl ⟨_, rfl, ⟨fun z => by omega, fun s2 t2 h1 h2 h3 h4 => ?_⟩, hm, Fr_rf⟩
                obtain rfl : s2 = s := by omega
                obtain rfl : t2 = t := by omega
                unfold PstV
                refine ⟨fun y => ?_, fun y => ⟨fun y2 => ?_, fun y2 => ⟨fun y3 => ?_, fun y3 => ?_⟩⟩⟩ <;> omega
              · refine gx_st (L' := [(2, 192), (0, (s : Int)), (0, b), (0, (t : Int)), (0, e), (0, f), (9, 0)]) (S' := [(0, f)]) r_230_67 rfl rfl rfl ?_
                refine gx_i0 (P := f < 0) r_230_69 (rfl) (fun h69 => ?_) (fun h69 => ?_)
                · refine gx_st (L' := [(2, 192), (0, (s : Int)), (0, b), (0, (t : Int)), (0, e), (0, f), (9, 0)]) (S' := [(0, (-7))]) r_230_107 rfl rfl rfl ?_
                  refine gx_rt r_230_109 rfl rfl ⟨_, rfl, ⟨fun z => by omega, fun s2 t2 h1 h2 h3 h4 => ?_⟩, hm, Fr_rf⟩
                  obtain rfl : s2 = s := by omega
                  obtain rfl : t2 = t := by omega
                  unfold PstV
                  refine ⟨fun y => ?_, fun y => ⟨fun y2 => ?_, fun y2 => ⟨fun y3 => ?_, fun y3 => ?_⟩⟩⟩ <;> omega
                · refine gx_st (L' := [(2, 192), (0, (s : Int)), (0, b), (0, (t : Int)), (0, e), (0, f), (9, 0)]) (S' := [(0, b)]) r_230_72 rfl rfl rfl ?_
                  refine gx_st (L' := [(2, 192), (0, (s : Int)), (0, b), (0, (t : Int)), (0, e), (0, f), (9, 0)]) (S' := [(1, b)]) r_230_73 rfl rfl rfl ?_
                  refine gx_st (L' := [(2, 192), (0, (s : Int)), (0, b), (0, (t : Int)), (0, e), (0, f), (9, 0)]) (S' := [(0, f), (1, b)]) r_230_74 rfl rfl rfl ?_
                  refine gx_st (L' := [(2, 192), (0, (s : Int)), (0, b), (0, (t : Int)), (0, e), (0, f), (9, 0)]) (S' := [(1, f), (1, b)]) r_230_76 rfl rfl rfl ?_
                  refine gx_ar (L' := [(2, 192), (0, (s : Int)), (0, b), (0, (t : Int)), (0, e), (0, f), (9, 0)]) (S' := []) (t := 1) (e := w64 (b + f)) (z := b + f) r_230_77 rfl rfl rfl (w64_eq (by omega) (by omega) (by omega)) ?_
                  refine gx_st (L' := [(2, 192), (0, (s : Int)), (0, b), (0, (t : Int)), (0, e), (0, f), (9, 0)]) (S' := [(2, 192), (1, b + f)]) r_230_78 rfl rfl rfl ?_
                  refine gx_gf (x := 209) 2 r_230_79 rfl (tk_192 hT) ⟨by decide, rfl, by decide, by decide⟩ rfl (fun _ => by decide) (pr_192_37 hm) ?_
                  refine gx_st (L' := [(2, 192), (0, (s : Int)), (0, b), (0, (t : Int)), (0, e), (0, f), (9, 0)]) (S' := [(0, (s : Int)), (2, 209), (1, b + f)]) r_230_82 rfl rfl rfl ?_
                  obtain ⟨x83, e_x83⟩ : ∃ z, z = m 209 (s) := ⟨_, rfl⟩
                  have b_x83 := gb_209 hm (i := s) (by omega)
                  rw [← e_x83] at b_x83
                  refine gx_ia (n := s) (x := x83) r_230_83 rfl (tk_209 hT) (by omega) ⟨rfl, by omega⟩ (e_x83.symm) ?_
                  refine gx_st (L' := [(2, 192), (0, (s : Int)), (0, b), (0, (t : Int)), (0, e), (0, f), (9, 0)]) (S' := [(1, x83), (1, b + f)]) r_230_84 rfl rfl rfl ?_
                  refine gx_st (L' := [(2, 192), (0, (s : Int)), (0, b), (0, (t : Int)), (0, e), (0, f), (9, 0)]) (S' := [(0, (if (b + f) < x83 then -1 else if (b + f) = x83 then 0 else 1))]) r_230_85 rfl rfl rfl ?_
                  refine gx_i0 (P := x83 < (b + f)) r_230_86 (lc_gt) (fun h86 => ?_) (fun h86 => ?_)
                  · refine gx_st (L' := [(2, 192), (0, (s : Int)), (0, b), (0, (t : Int)), (0, e), (0, f), (9, 0)]) (S' := [(0, (-7))]) r_230_107 rfl rfl rfl ?_
                    refine gx_rt r_230_109 rfl rfl ⟨_, rfl, ⟨fun z => by omega, fun s2 t2 h1 h2 h3 h4 => ?_⟩, hm, Fr_rf⟩
                    obtain rfl : s2 = s := by omega
                    obtain rfl : t2 = t := by omega
                    unfold PstV
                    refine ⟨fun y => ?_, fun y => ⟨fun y2 => ?_, fun y2 => ⟨fun y3 => ?_, fun y3 => ?_⟩⟩⟩ <;> omega
                  · refine gx_st (L' := [(2, 192), (0, (s : Int)), (0, b), (0, (t : Int)), (0, e), (0, f), (9, 0)]) (S' := [(0, e)]) r_230_89 rfl rfl rfl ?_
                    refine gx_st (L' := [(2, 192), (0, (s : Int)), (0, b), (0, (t : Int)), (0, e), (0, f), (9, 0)]) (S' := [(1, e)]) r_230_91 rfl rfl rfl ?_
                    refine gx_st (L' := [(2, 192), (0, (s : Int)), (0, b), (0, (t : Int)), (0, e), (0, f), (9, 0)]) (S' := [(0, f), (1, e)]) r_230_92 rfl rfl rfl ?_
                    refine gx_st (L' := [(2, 192), (0, (s : Int)), (0, b), (0, (t : Int)), (0, e), (0, f), (9, 0)]) (S' := [(1, f), (1, e)]) r_230_94 rfl rfl rfl ?_
                    refine gx_ar (L' := [(2, 192), (0, (s : Int)), (0, b), (0, (t : Int)), (0, e), (0, f), (9, 0)]) (S' := []) (t := 1) (e := w64 (e + f)) (z := e + f) r_230_95 rfl rfl rfl (w64_eq (by omega) (by omega) (by omega)) ?_
                    refine gx_st (L' := [(2, 192), (0, (s : Int)), (0, b), (0, (t : Int)), (0, e), (0, f), (9, 0)]) (S' := [(2, 192), (1, e + f)]) r_230_96 rfl rfl rfl ?_
                    refine gx_gf (x := 209) 2 r_230_97 rfl (tk_192 hT) ⟨by decide, rfl, by decide, by decide⟩ rfl (fun _ => by decide) (pr_192_37 hm) ?_
                    refine gx_st (L' := [(2, 192), (0, (s : Int)), (0, b), (0, (t : Int)), (0, e), (0, f), (9, 0)]) (S' := [(0, (t : Int)), (2, 209), (1, e + f)]) r_230_100 rfl rfl rfl ?_
                    obtain ⟨x101, e_x101⟩ : ∃ z, z = m 209 (t) := ⟨_, rfl⟩
                    have b_x101 := gb_209 hm (i := t) (by omega)
                    rw [← e_x101] at b_x101
                    refine gx_ia (n := t) (x := x101) r_230_101 rfl (tk_209 hT) (by omega) ⟨rfl, by omega⟩ (e_x101.symm) ?_
                    refine gx_st (L' := [(2, 192), (0, (s : Int)), (0, b), (0, (t : Int)), (0, e), (0, f), (9, 0)]) (S' := [(1, x101), (1, e + f)]) r_230_102 rfl rfl rfl ?_
                    refine gx_st (L' := [(2, 192), (0, (s : Int)), (0, b), (0, (t : Int)), (0, e), (0, f), (9, 0)]) (S' := [(0, (if (e + f) < x101 then -1 else if (e + f) = x101 then 0 else 1))]) r_230_103 rfl rfl rfl ?_
                    refine gx_i0 (P := (e + f) ≤ x101) r_230_104 (lc_le) (fun h104 => ?_) (fun h104 => ?_)
                    · refine gx_st (L' := [(2, 192), (0, (s : Int)), (0, b), (0, (t : Int)), (0, e), (0, f), (9, 0)]) (S' := [(0, 0)]) r_230_110 rfl rfl rfl ?_
                      refine gx_st (L' := [(2, 192), (0, (s : Int)), (0, b), (0, (t : Int)), (0, e), (0, f), (0, 0)]) (S' := []) r_230_111 rfl rfl rfl ?_
                      obtain ⟨i, hib⟩ : ∃ i : Nat, b = (i : Int) := ⟨b.toNat, by omega⟩
                      obtain ⟨j, hje⟩ : ∃ j : Nat, e = (j : Int) := ⟨e.toNat, by omega⟩
                      obtain ⟨n, hnf⟩ : ∃ n : Nat, f = (n : Int) := ⟨f.toNat, by omega⟩
                      have g1_ := gb_209 hm (i := s) hs
                      have g2_ := gb_209 hm (i := t) ht
                      rw [hib, hje, hnf]
                      refine pst_a hT (m0 := m) (s := s) (i := i) (t := t) (j := j) (n := n) hs (by omega) (fun p1 g1 f1 => ?_) (n + 1) 0 m (by omega) (by omega) hm Fr_rf
                      refine gx_st (L' := [(2, 192), (0, (s : Int)), (0, (i : Int)), (0, (t : Int)), (0, (j : Int)), (0, (n : Int)), (0, (n : Int))]) (S' := [(0, 0)]) r_230_147 rfl rfl rfl ?_
                      refine gx_st (L' := [(2, 192), (0, (s : Int)), (0, (i : Int)), (0, (t : Int)), (0, (j : Int)), (0, (n : Int)), (0, 0)]) (S' := []) r_230_148 rfl rfl rfl ?_
                      refine pst_b hT (m0 := m) (s := s) (i := i) (t := t) (j := j) (n := n) ht (by omega) (by omega) (fun p2 g2 f2 => ?_) (n + 1) 0 p1 (by omega) (by omega) g1 f1
                      refine gx_st (L' := [(2, 192), (0, (s : Int)), (0, (i : Int)), (0, (t : Int)), (0, (j : Int)), (0, (n : Int)), (0, (n : Int))]) (S' := [(0, 0)]) r_230_185 rfl rfl rfl ?_
                      refine gx_rt r_230_186 rfl rfl ⟨_, rfl, ⟨fun z => by omega, fun s2 t2 h1 h2 h3 h4 => ?_⟩, g2, f2⟩
                      obtain rfl : s2 = s := by omega
                      obtain rfl : t2 = t := by omega
                      unfold PstV
                      refine ⟨fun y => ?_, fun y => ⟨fun y2 => ?_, fun y2 => ⟨fun y3 => ?_, fun y3 => ?_⟩⟩⟩ <;> omega
                    · refine gx_st (L' := [(2, 192), (0, (s : Int)), (0, b), (0, (t : Int)), (0, e), (0, f), (9, 0)]) (S' := [(0, (-7))]) r_230_107 rfl rfl rfl ?_
                      refine gx_rt r_230_109 rfl rfl ⟨_, rfl, ⟨fun z => by omega, fun s2 t2 h1 h2 h3 h4 => ?_⟩, hm, Fr_rf⟩
                      obtain rfl : s2 = s := by omega
                      obtain rfl : t2 = t := by omega
                      unfold PstV
                      refine ⟨fun y => ?_, fun y => ⟨fun y2 => ?_, fun y2 => ⟨fun y3 => ?_, fun y3 => ?_⟩⟩⟩ <;> omega
          · refine gx_st (L' := [(2, 192), (0, (s : Int)), (0, b), (0, (t : Int)), (0, e), (0, f), (9, 0)]) (S' := [(0, (-8))]) r_230_55 rfl rfl rfl ?_
            refine gx_rt r_230_57 rfl rfl ⟨_, rfl, ⟨fun z => by omega, fun s2 t2 h1 h2 h3 h4 => ?_⟩, hm, Fr_rf⟩
            obtain rfl : s2 = s := by omega
            obtain rfl : t2 = t := by omega
            unfold PstV
            refine ⟨fun y => ?_, fun y => ⟨fun y2 => ?_, fun y2 => ⟨fun y3 => ?_, fun y3 => ?_⟩⟩⟩ <;> omega
        · have h34 := Decidable.not_not.mp h34
          refine gx_st (L' := [(2, 192), (0, (s : Int)), (0, b), (0, (t : Int)), (0, e), (0, f), (9, 0)]) (S' := [(0, (-6))]) r_230_37 rfl rfl rfl ?_
          refine gx_rt r_230_39 rfl rfl ⟨_, rfl, ⟨fun z => by omega, fun s2 t2 h1 h2 h3 h4 => ?_⟩, hm, Fr_rf⟩
          obtain rfl : s2 = s := by omega
          obtain rfl : t2 = t := by omega
          unfold PstV
          refine ⟨fun y => ?_, fun y => ⟨fun y2 => ?_, fun y2 => ⟨fun y3 => ?_, fun y3 => ?_⟩⟩⟩ <;> omega
    · refine gx_st (L' := [(2, 192), (0, a), (0, b), (0, c), (0, e), (0, f), (9, 0)]) (S' := [(0, (-2))]) r_230_14 rfl rfl rfl ?_
      exact gx_rt r_230_16 rfl rfl ⟨_, rfl, ⟨fun _ => rfl, fun s t h1 h2 h3 h4 => by omega⟩, hm, Fr_rf⟩
end HAND
