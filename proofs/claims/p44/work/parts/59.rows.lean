/-! rows of acts: goRows -/
theorem r_178_0 : row 178 0 = some (.iload_n 2, 1, 0, 0, 0, 0) := rfl
theorem r_178_1 : row 178 1 = some (.iconst 1, 2, 1, 0, 0, 0) := rfl
theorem r_178_2 : row 178 2 = some (.iadd, 3, 0, 0, 0, 0) := rfl
theorem r_178_3 : row 178 3 = some (.istore_n 3, 4, 0, 0, 0, 0) := rfl
theorem r_178_4 : row 178 4 = some (.iload_n 3, 5, 0, 0, 0, 0) := rfl
theorem r_178_5 : row 178 5 = some (.bipush 10, 7, 10, 0, 0, 0) := rfl
theorem r_178_7 : row 178 7 = some (.aload_n 0, 8, 0, 0, 0, 0) := rfl
theorem r_178_8 : row 178 8 = some (.getfield 9, 11, 10, 1, 2, 6002) := rfl
theorem r_178_11 : row 178 11 = some (.iconst 0, 12, 0, 0, 0, 0) := rfl
theorem r_178_12 : row 178 12 = some (.iaload, 13, 0, 0, 0, 0) := rfl
theorem r_178_13 : row 178 13 = some (.iadd, 14, 0, 0, 0, 0) := rfl
theorem r_178_14 : row 178 14 = some (.if_icmp .ge 31, 17, 45, 0, 0, 0) := rfl
theorem r_178_17 : row 178 17 = some (.iload_n 3, 18, 0, 0, 0, 0) := rfl
theorem r_178_18 : row 178 18 = some (.iconst 2, 19, 2, 0, 0, 0) := rfl
theorem r_178_19 : row 178 19 = some (.if_icmp .le 9, 22, 28, 0, 0, 0) := rfl
theorem r_178_22 : row 178 22 = some (.iload_n 3, 23, 0, 0, 0, 0) := rfl
theorem r_178_23 : row 178 23 = some (.bipush 10, 25, 10, 0, 0, 0) := rfl
theorem r_178_25 : row 178 25 = some (.if_icmp .lt 14, 28, 39, 0, 0, 0) := rfl
theorem r_178_28 : row 178 28 = some (.aload_n 0, 29, 0, 0, 0, 0) := rfl
theorem r_178_29 : row 178 29 = some (.iload_n 1, 30, 0, 0, 0, 0) := rfl
theorem r_178_30 : row 178 30 = some (.iload_n 3, 31, 0, 0, 0, 0) := rfl
theorem r_178_31 : row 178 31 = some (.invokevirtual 308, 34, 137, 2, 0, 7106) := rfl
theorem r_178_34 : row 178 34 = some (.ifCond .eq 5, 37, 39, 0, 0, 0) := rfl
theorem r_178_37 : row 178 37 = some (.iload_n 3, 38, 0, 0, 0, 0) := rfl
theorem r_178_38 : row 178 38 = some (.ireturn, 39, 0, 0, 0, 0) := rfl
theorem r_178_39 : row 178 39 = some (.iinc 3 1, 42, 0, 0, 0, 0) := rfl
theorem r_178_42 : row 178 42 = some (.goto (-38), 45, 4, 0, 0, 0) := rfl
theorem r_178_45 : row 178 45 = some (.iconst (-1), 46, (-1), 0, 0, 0) := rfl
theorem r_178_46 : row 178 46 = some (.ireturn, 47, 0, 0, 0, 0) := rfl
theorem r_180_0 : row 180 0 = some (.aload_n 0, 1, 0, 0, 0, 0) := rfl
theorem r_180_1 : row 180 1 = some (.iconst 0, 2, 0, 0, 0, 0) := rfl
theorem r_180_2 : row 180 2 = some (.putfield 365, 5, 10, 31, 0, 6032) := rfl
theorem r_180_5 : row 180 5 = some (.aload_n 0, 6, 0, 0, 0, 0) := rfl
theorem r_180_6 : row 180 6 = some (.aload_n 0, 7, 0, 0, 0, 0) := rfl
theorem r_180_7 : row 180 7 = some (.iconst 0, 8, 0, 0, 0, 0) := rfl
theorem r_180_8 : row 180 8 = some (.invokevirtual 244, 11, 99, 1, 0, 7066) := rfl
theorem r_180_11 : row 180 11 = some (.iconst 0, 12, 0, 0, 0, 0) := rfl
theorem r_180_12 : row 180 12 = some (.invokevirtual 315, 15, 134, 2, 0, 7094) := rfl
theorem r_180_15 : row 180 15 = some (.iconst 0, 16, 0, 0, 0, 0) := rfl
theorem r_180_16 : row 180 16 = some (.istore_n 2, 17, 0, 0, 0, 0) := rfl
theorem r_180_17 : row 180 17 = some (.aload_n 0, 18, 0, 0, 0, 0) := rfl
theorem r_180_18 : row 180 18 = some (.getfield 52, 21, 10, 29, 2, 6030) := rfl
theorem r_180_21 : row 180 21 = some (.iconst 0, 22, 0, 0, 0, 0) := rfl
theorem r_180_22 : row 180 22 = some (.iconst (-1), 23, (-1), 0, 0, 0) := rfl
theorem r_180_23 : row 180 23 = some (.iastore, 24, 0, 0, 0, 0) := rfl
theorem r_180_24 : row 180 24 = some (.iload_n 2, 25, 0, 0, 0, 0) := rfl
theorem r_180_25 : row 180 25 = some (.ifCond .lt 172, 28, 197, 0, 0, 0) := rfl
theorem r_180_28 : row 180 28 = some (.aload_n 0, 29, 0, 0, 0, 0) := rfl
theorem r_180_29 : row 180 29 = some (.getfield 52, 32, 10, 29, 2, 6030) := rfl
theorem r_180_32 : row 180 32 = some (.iload_n 2, 33, 0, 0, 0, 0) := rfl
theorem r_180_33 : row 180 33 = some (.aload_n 0, 34, 0, 0, 0, 0) := rfl
theorem r_180_34 : row 180 34 = some (.getfield 52, 37, 10, 29, 2, 6030) := rfl
theorem r_180_37 : row 180 37 = some (.iload_n 2, 38, 0, 0, 0, 0) := rfl
theorem r_180_38 : row 180 38 = some (.iaload, 39, 0, 0, 0, 0) := rfl
theorem r_180_39 : row 180 39 = some (.iconst (-1), 40, (-1), 0, 0, 0) := rfl
theorem r_180_40 : row 180 40 = some (.if_icmp .ne 7, 43, 47, 0, 0, 0) := rfl
theorem r_180_43 : row 180 43 = some (.iconst 0, 44, 0, 0, 0, 0) := rfl
theorem r_180_44 : row 180 44 = some (.goto 14, 47, 58, 0, 0, 0) := rfl
theorem r_180_47 : row 180 47 = some (.aload_n 0, 48, 0, 0, 0, 0) := rfl
theorem r_180_48 : row 180 48 = some (.iload_n 2, 49, 0, 0, 0, 0) := rfl
theorem r_180_49 : row 180 49 = some (.aload_n 0, 50, 0, 0, 0, 0) := rfl
theorem r_180_50 : row 180 50 = some (.getfield 52, 53, 10, 29, 2, 6030) := rfl
theorem r_180_53 : row 180 53 = some (.iload_n 2, 54, 0, 0, 0, 0) := rfl
theorem r_180_54 : row 180 54 = some (.iaload, 55, 0, 0, 0, 0) := rfl
theorem r_180_55 : row 180 55 = some (.invokevirtual 368, 58, 178, 2, 0, 8051) := rfl
theorem r_180_58 : row 180 58 = some (.iastore, 59, 0, 0, 0, 0) := rfl
theorem r_180_59 : row 180 59 = some (.aload_n 0, 60, 0, 0, 0, 0) := rfl
theorem r_180_60 : row 180 60 = some (.getfield 52, 63, 10, 29, 2, 6030) := rfl
theorem r_180_63 : row 180 63 = some (.iload_n 2, 64, 0, 0, 0, 0) := rfl
theorem r_180_64 : row 180 64 = some (.iaload, 65, 0, 0, 0, 0) := rfl
theorem r_180_65 : row 180 65 = some (.iconst (-1), 66, (-1), 0, 0, 0) := rfl
theorem r_180_66 : row 180 66 = some (.if_icmp .ne 9, 69, 75, 0, 0, 0) := rfl
theorem r_180_69 : row 180 69 = some (.iinc 2 (-1), 72, 0, 0, 0, 0) := rfl
theorem r_180_72 : row 180 72 = some (.goto (-48), 75, 24, 0, 0, 0) := rfl
theorem r_180_75 : row 180 75 = some (.aload_n 0, 76, 0, 0, 0, 0) := rfl
theorem r_180_76 : row 180 76 = some (.iload_n 2, 77, 0, 0, 0, 0) := rfl
theorem r_180_77 : row 180 77 = some (.aload_n 0, 78, 0, 0, 0, 0) := rfl
theorem r_180_78 : row 180 78 = some (.getfield 52, 81, 10, 29, 2, 6030) := rfl
theorem r_180_81 : row 180 81 = some (.iload_n 2, 82, 0, 0, 0, 0) := rfl
theorem r_180_82 : row 180 82 = some (.iaload, 83, 0, 0, 0, 0) := rfl
theorem r_180_83 : row 180 83 = some (.invokevirtual 318, 86, 142, 2, 0, 7102) := rfl
theorem r_180_86 : row 180 86 = some (.aload_n 0, 87, 0, 0, 0, 0) := rfl
theorem r_180_87 : row 180 87 = some (.getfield 52, 90, 10, 29, 2, 6030) := rfl
theorem r_180_90 : row 180 90 = some (.iload_n 2, 91, 0, 0, 0, 0) := rfl
theorem r_180_91 : row 180 91 = some (.iaload, 92, 0, 0, 0, 0) := rfl
theorem r_180_92 : row 180 92 = some (.iconst 2, 93, 2, 0, 0, 0) := rfl
theorem r_180_93 : row 180 93 = some (.if_icmp .ne 50, 96, 143, 0, 0, 0) := rfl
theorem r_180_96 : row 180 96 = some (.iload_n 2, 97, 0, 0, 0, 0) := rfl
theorem r_180_97 : row 180 97 = some (.iload_n 1, 98, 0, 0, 0, 0) := rfl
theorem r_180_98 : row 180 98 = some (.if_icmp .ne 45, 101, 143, 0, 0, 0) := rfl
theorem r_180_101 : row 180 101 = some (.iconst 0, 102, 0, 0, 0, 0) := rfl
theorem r_180_102 : row 180 102 = some (.istore_n 3, 103, 0, 0, 0, 0) := rfl
theorem r_180_103 : row 180 103 = some (.iload_n 3, 104, 0, 0, 0, 0) := rfl
theorem r_180_104 : row 180 104 = some (.iload_n 2, 105, 0, 0, 0, 0) := rfl
theorem r_180_105 : row 180 105 = some (.if_icmp .gt 28, 108, 133, 0, 0, 0) := rfl
theorem r_180_108 : row 180 108 = some (.aload_n 0, 109, 0, 0, 0, 0) := rfl
theorem r_180_109 : row 180 109 = some (.getfield 365, 112, 10, 31, 0, 6032) := rfl
theorem r_180_112 : row 180 112 = some (.ifCond .ne 21, 115, 133, 0, 0, 0) := rfl
theorem r_180_115 : row 180 115 = some (.aload_n 0, 116, 0, 0, 0, 0) := rfl
theorem r_180_116 : row 180 116 = some (.getfield 55, 119, 10, 30, 2, 6031) := rfl
theorem r_180_119 : row 180 119 = some (.iload_n 3, 120, 0, 0, 0, 0) := rfl
theorem r_180_120 : row 180 120 = some (.aload_n 0, 121, 0, 0, 0, 0) := rfl
theorem r_180_121 : row 180 121 = some (.getfield 52, 124, 10, 29, 2, 6030) := rfl
theorem r_180_124 : row 180 124 = some (.iload_n 3, 125, 0, 0, 0, 0) := rfl
theorem r_180_125 : row 180 125 = some (.iaload, 126, 0, 0, 0, 0) := rfl
theorem r_180_126 : row 180 126 = some (.iastore, 127, 0, 0, 0, 0) := rfl
theorem r_180_127 : row 180 127 = some (.iinc 3 1, 130, 0, 0, 0, 0) := rfl
theorem r_180_130 : row 180 130 = some (.goto (-27), 133, 103, 0, 0, 0) := rfl
theorem r_180_133 : row 180 133 = some (.aload_n 0, 134, 0, 0, 0, 0) := rfl
theorem r_180_134 : row 180 134 = some (.dup, 135, 0, 0, 0, 0) := rfl
theorem r_180_135 : row 180 135 = some (.getfield 365, 138, 10, 31, 0, 6032) := rfl
theorem r_180_138 : row 180 138 = some (.iconst 1, 139, 1, 0, 0, 0) := rfl
theorem r_180_139 : row 180 139 = some (.iadd, 140, 0, 0, 0, 0) := rfl
theorem r_180_140 : row 180 140 = some (.putfield 365, 143, 10, 31, 0, 6032) := rfl
theorem r_180_143 : row 180 143 = some (.iload_n 2, 144, 0, 0, 0, 0) := rfl
theorem r_180_144 : row 180 144 = some (.iload_n 1, 145, 0, 0, 0, 0) := rfl
theorem r_180_145 : row 180 145 = some (.if_icmp .eq (-121), 148, 24, 0, 0, 0) := rfl
theorem r_180_148 : row 180 148 = some (.aload_n 0, 149, 0, 0, 0, 0) := rfl
theorem r_180_149 : row 180 149 = some (.getfield 52, 152, 10, 29, 2, 6030) := rfl
theorem r_180_152 : row 180 152 = some (.iload_n 2, 153, 0, 0, 0, 0) := rfl
theorem r_180_153 : row 180 153 = some (.iaload, 154, 0, 0, 0, 0) := rfl
theorem r_180_154 : row 180 154 = some (.iconst 2, 155, 2, 0, 0, 0) := rfl
theorem r_180_155 : row 180 155 = some (.if_icmp .eq (-131), 158, 24, 0, 0, 0) := rfl
theorem r_180_158 : row 180 158 = some (.aload_n 0, 159, 0, 0, 0, 0) := rfl
theorem r_180_159 : row 180 159 = some (.iload_n 2, 160, 0, 0, 0, 0) := rfl
theorem r_180_160 : row 180 160 = some (.iconst 1, 161, 1, 0, 0, 0) := rfl
theorem r_180_161 : row 180 161 = some (.iadd, 162, 0, 0, 0, 0) := rfl
theorem r_180_162 : row 180 162 = some (.iconst 1, 163, 1, 0, 0, 0) := rfl
theorem r_180_163 : row 180 163 = some (.invokevirtual 263, 166, 131, 2, 0, 7110) := rfl
theorem r_180_166 : row 180 166 = some (.iconst (-1), 167, (-1), 0, 0, 0) := rfl
theorem r_180_167 : row 180 167 = some (.if_icmp .eq (-143), 170, 24, 0, 0, 0) := rfl
theorem r_180_170 : row 180 170 = some (.aload_n 0, 171, 0, 0, 0, 0) := rfl
theorem r_180_171 : row 180 171 = some (.iload_n 2, 172, 0, 0, 0, 0) := rfl
theorem r_180_172 : row 180 172 = some (.iconst 1, 173, 1, 0, 0, 0) := rfl
theorem r_180_173 : row 180 173 = some (.iadd, 174, 0, 0, 0, 0) := rfl
theorem r_180_174 : row 180 174 = some (.iload_n 1, 175, 0, 0, 0, 0) := rfl
theorem r_180_175 : row 180 175 = some (.invokevirtual 371, 178, 179, 2, 0, 8055) := rfl
theorem r_180_178 : row 180 178 = some (.ifCond .ne 6, 181, 184, 0, 0, 0) := rfl
theorem r_180_181 : row 180 181 = some (.goto (-157), 184, 24, 0, 0, 0) := rfl
theorem r_180_184 : row 180 184 = some (.iinc 2 1, 187, 0, 0, 0, 0) := rfl
theorem r_180_187 : row 180 187 = some (.aload_n 0, 188, 0, 0, 0, 0) := rfl
theorem r_180_188 : row 180 188 = some (.getfield 52, 191, 10, 29, 2, 6030) := rfl
theorem r_180_191 : row 180 191 = some (.iload_n 2, 192, 0, 0, 0, 0) := rfl
theorem r_180_192 : row 180 192 = some (.iconst (-1), 193, (-1), 0, 0, 0) := rfl
theorem r_180_193 : row 180 193 = some (.iastore, 194, 0, 0, 0, 0) := rfl
theorem r_180_194 : row 180 194 = some (.goto (-170), 197, 24, 0, 0, 0) := rfl
theorem r_180_197 : row 180 197 = some (.aload_n 0, 198, 0, 0, 0, 0) := rfl
theorem r_180_198 : row 180 198 = some (.getfield 365, 201, 10, 31, 0, 6032) := rfl
theorem r_180_201 : row 180 201 = some (.ireturn, 202, 0, 0, 0, 0) := rfl
theorem next_l {T : List Kd} {m : Mm} (hT : TT T) (h136 : ConH T cn_136) (hm : Gam m) {h a : Nat} (hh : h < 13) (hrow : m 200 (16 * h + 1) = -1 ∨ 0 ≤ m 200 (16 * h)) : ∀ (N k : Nat), 20 - k < N → a < k → k ≤ 17 → GX T 3 178 4 [(2, 192), (0, (h : Int)), (0, (a : Int)), (0, (k : Int))] [] m (RI (fun v m1 => (v = -1 ∨ ((a : Int) < v ∧ v ≤ 16)) ∧ m1 = m)) := by
  intro N
  induction N with
  | zero => intro k hN; exact absurd hN (Nat.not_lt_zero _)
  | succ N ih =>
    intro k hN hk hk2
    have b0_ := gb_193_0 hm
    refine gx_st (L' := [(2, 192), (0, (h : Int)), (0, (a : Int)), (0, (k : Int))]) (S' := [(0, (k : Int))]) r_178_4 rfl rfl rfl ?_
    refine gx_st (L' := [(2, 192), (0, (h : Int)), (0, (a : Int)), (0, (k : Int))]) (S' := [(0, 10), (0, (k : Int))]) r_178_5 rfl rfl rfl ?_
    refine gx_st (L' := [(2, 192), (0, (h : Int)), (0, (a : Int)), (0, (k : Int))]) (S' := [(2, 192), (0, 10), (0, (k : Int))]) r_178_7 rfl rfl rfl ?_
    refine gx_gf (x := 193) 2 r_178_8 rfl (tk_192 hT) ⟨by decide, rfl, by decide, by decide⟩ rfl (fun _ => by decide) (pr_192_1 hm) ?_
    refine gx_st (L' := [(2, 192), (0, (h : Int)), (0, (a : Int)), (0, (k : Int))]) (S' := [(0, 0), (2, 193), (0, 10), (0, (k : Int))]) r_178_11 rfl rfl rfl ?_
    obtain ⟨x12, e_x12⟩ : ∃ z, z = m 193 (0) := ⟨_, rfl⟩
    have b_x12 := gb_193_0 hm
    rw [← e_x12] at b_x12
    refine gx_ia (n := 0) (x := x12) r_178_12 rfl (tk_193 hT) (rfl) ⟨rfl, by decide⟩ (e_x12.symm) ?_
    refine gx_ar (L' := [(2, 192), (0, (h : Int)), (0, (a : Int)), (0, (k : Int))]) (S' := [(0, (k : Int))]) (t := 0) (e := w32 (10 + x12)) (z := x12 + 10) r_178_13 rfl rfl rfl (w32_eq (by omega) (by omega) (by omega)) ?_
    refine gx_ic (P := x12 + 10 ≤ (k : Int)) r_178_14 (rfl) (fun h14 => ?_) (fun h14 => ?_)
    · refine gx_st (L' := [(2, 192), (0, (h : Int)), (0, (a : Int)), (0, (k : Int))]) (S' := [(0, (-1))]) r_178_45 rfl rfl rfl ?_
      exact gx_rt r_178_46 rfl rfl ⟨_, rfl, Or.inl rfl, rfl⟩
    · refine gx_st (L' := [(2, 192), (0, (h : Int)), (0, (a : Int)), (0, (k : Int))]) (S' := [(0, (k : Int))]) r_178_17 rfl rfl rfl ?_
      refine gx_st (L' := [(2, 192), (0, (h : Int)), (0, (a : Int)), (0, (k : Int))]) (S' := [(0, 2), (0, (k : Int))]) r_178_18 rfl rfl rfl ?_
      refine gx_ic (P := (k : Int) ≤ 2) r_178_19 (rfl) (fun h19 => ?_) (fun h19 => ?_)
      · refine gx_st (L' := [(2, 192), (0, (h : Int)), (0, (a : Int)), (0, (k : Int))]) (S' := [(2, 192)]) r_178_28 rfl rfl rfl ?_
        refine gx_st (L' := [(2, 192), (0, (h : Int)), (0, (a : Int)), (0, (k : Int))]) (S' := [(0, (h : Int)), (2, 192)]) r_178_29 rfl rfl rfl ?_
        refine gx_st (L' := [(2, 192), (0, (h : Int)), (0, (a : Int)), (0, (k : Int))]) (S' := [(0, (k : Int)), (0, (h : Int)), (2, 192)]) r_178_30 rfl rfl rfl ?_
        refine gx_ci (nx := 34) (S2 := []) (x_137 hT h136 hm (h := h) hh (a := (k : Int)) (by omega) (by omega) hrow) r_178_31 rfl rfl rfl rfl rfl (rcv_v rfl (tk_192 hT) (by decide) rfl (by decide)) rfl (by decide) rfl (fun x31 n31 q31 => ?_)
        obtain ⟨⟨cv, cw⟩, z31⟩ := q31
        obtain rfl := z31.symm
        show GX T 3 178 34 [(2, 192), (0, (h : Int)), (0, (a : Int)), (0, (k : Int))] [(0, x31)] m (RI (fun v m1 => (v = -1 ∨ ((a : Int) < v ∧ v ≤ 16)) ∧ m1 = m))
        refine gx_i0 (P := x31 = 0) r_178_34 (rfl) (fun h34 => ?_) (fun h34 => ?_)
        · refine gx_li (z := (k : Int) + 1) (L' := [(2, 192), (0, (h : Int)), (0, (a : Int)), (0, (k : Int) + 1)]) r_178_39 rfl (w32_eq (by omega) (by omega) (by omega)) rfl ?_
          refine gx_st (L' := [(2, 192), (0, (h : Int)), (0, (a : Int)), (0, (k : Int) + 1)]) (S' := []) r_178_42 rfl rfl rfl ?_
          rw [show (k : Int) + 1 = ((k + 1 : Nat) : Int) from rfl]
          exact ih (k + 1) (by omega) (by omega) (by omega)
        · refine gx_st (L' := [(2, 192), (0, (h : Int)), (0, (a : Int)), (0, (k : Int))]) (S' := [(0, (k : Int))]) r_178_37 rfl rfl rfl ?_
          exact gx_rt r_178_38 rfl rfl ⟨_, rfl, Or.inr ⟨by omega, by omega⟩, rfl⟩
      · refine gx_st (L' := [(2, 192), (0, (h : Int)), (0, (a : Int)), (0, (k : Int))]) (S' := [(0, (k : Int))]) r_178_22 rfl rfl rfl ?_
        refine gx_st (L' := [(2, 192), (0, (h : Int)), (0, (a : Int)), (0, (k : Int))]) (S' := [(0, 10), (0, (k : Int))]) r_178_23 rfl rfl rfl ?_
        refine gx_ic (P := (k : Int) < 10) r_178_25 (rfl) (fun h25 => ?_) (fun h25 => ?_)
        · refine gx_li (z := (k : Int) + 1) (L' := [(2, 192), (0, (h : Int)), (0, (a : Int)), (0, (k : Int) + 1)]) r_178_39 rfl (w32_eq (by omega) (by omega) (by omega)) rfl ?_
          refine gx_st (L' := [(2, 192), (0, (h : Int)), (0, (a : Int)), (0, (k : Int) + 1)]) (S' := []) r_178_42 rfl rfl rfl ?_
          rw [show (k : Int) + 1 = ((k + 1 : Nat) : Int) from rfl]
          exact ih (k + 1) (by omega) (by omega) (by omega)
        · refine gx_st (L' := [(2, 192), (0, (h : Int)), (0, (a : Int)), (0, (k : Int))]) (S' := [(2, 192)]) r_178_28 rfl rfl rfl ?_
          refine gx_st (L' := [(2, 192), (0, (h : Int)), (0, (a : Int)), (0, (k : Int))]) (S' := [(0, (h : Int)), (2, 192)]) r_178_29 rfl rfl rfl ?_
          refine gx_st (L' := [(2, 192), (0, (h : Int)), (0, (a : Int)), (0, (k : Int))]) (S' := [(0, (k : Int)), (0, (h : Int)), (2, 192)]) r_178_30 rfl rfl rfl ?_
          refine gx_ci (nx := 34) (S2 := []) (x_137 hT h136 hm (h := h) hh (a := (k : Int)) (by omega) (by omega) hrow) r_178_31 rfl rfl rfl rfl rfl (rcv_v rfl (tk_192 hT) (by decide) rfl (by decide)) rfl (by decide) rfl (fun x31 n31 q31 => ?_)
          obtain ⟨⟨cv, cw⟩, z31⟩ := q31
          obtain rfl := z31.symm
          show GX T 3 178 34 [(2, 192), (0, (h : Int)), (0, (a : Int)), (0, (k : Int))] [(0, x31)] m (RI (fun v m1 => (v = -1 ∨ ((a : Int) < v ∧ v ≤ 16)) ∧ m1 = m))
          refine gx_i0 (P := x31 = 0) r_178_34 (rfl) (fun h34 => ?_) (fun h34 => ?_)
          · refine gx_li (z := (k : Int) + 1) (L' := [(2, 192), (0, (h : Int)), (0, (a : Int)), (0, (k : Int) + 1)]) r_178_39 rfl (w32_eq (by omega) (by omega) (by omega)) rfl ?_
            refine gx_st (L' := [(2, 192), (0, (h : Int)), (0, (a : Int)), (0, (k : Int) + 1)]) (S' := []) r_178_42 rfl rfl rfl ?_
            rw [show (k : Int) + 1 = ((k + 1 : Nat) : Int) from rfl]
            exact ih (k + 1) (by omega) (by omega) (by omega)
          · refine gx_st (L' := [(2, 192), (0, (h : Int)), (0, (a : Int)), (0, (k : Int))]) (S' := [(0, (k : Int))]) r_178_37 rfl rfl rfl ?_
            exact gx_rt r_178_38 rfl rfl ⟨_, rfl, Or.inr ⟨by omega, by omega⟩, rfl⟩
theorem x_178 {T : List Kd} {m : Mm} (hT : TT T) (h136 : ConH T cn_136) (hm : Gam m) {h a : Nat} (hh : h < 13) (ha : a ≤ 16) (hrow : m 200 (16 * h + 1) = -1 ∨ 0 ≤ m 200 (16 * h)) : GX T 3 178 0 [(2, 192), (0, (h : Int)), (0, (a : Int)), (9, 0)] [] m (RI (fun v m1 => (v = -1 ∨ ((a : Int) < v ∧ v ≤ 16)) ∧ m1 = m)) := by
  refine gx_st (L' := [(2, 192), (0, (h : Int)), (0, (a : Int)), (9, 0)]) (S' := [(0, (a : Int))]) r_178_0 rfl rfl rfl ?_
  refine gx_st (L' := [(2, 192), (0, (h : Int)), (0, (a : Int)), (9, 0)]) (S' := [(0, 1), (0, (a : Int))]) r_178_1 rfl rfl rfl ?_
  refine gx_ar (L' := [(2, 192), (0, (h : Int)), (0, (a : Int)), (9, 0)]) (S' := []) (t := 0) (e := w32 ((a : Int) + 1)) (z := (a : Int) + 1) r_178_2 rfl rfl rfl (w32_eq (by omega) (by omega) (by omega)) ?_
  refine gx_st (L' := [(2, 192), (0, (h : Int)), (0, (a : Int)), (0, (a : Int) + 1)]) (S' := []) r_178_3 rfl rfl rfl ?_
  rw [show (a : Int) + 1 = ((a + 1 : Nat) : Int) from rfl]
  exact next_l hT h136 hm hh hrow 20 (a + 1) (by omega) (by omega) (by omega)
/-- what holds at the head of goRows -/
def IV (m0 m : Mm) : Prop := Gam m ∧ Ext m ∧ FS m ∧ Fr [90021, 90022, 90031, 98999, 99999, 100999, 102999, 103999, 104999] m0 m
theorem IV_row {m0 m : Mm} {i : Nat} {x : Int} (h : IV m0 m) (h1 : -2147483648 ≤ x) (h2 : x ≤ 2147483647) : IV m0 (nu_up m 205 i x) := ⟨gu_205 h.1 h1 h2, Ext_fr (W := [103999]) (Fr_ua rfl rfl) (by decide) h.2.1, FS_fr (W := [103999]) (Fr_ua rfl rfl) (by decide) h.2.2.1, Fr_tr h.2.2.2 (Fr_ua rfl rfl)⟩
theorem IV_first {m0 m : Mm} {i : Nat} {x : Int} (h : IV m0 m) (h1 : -2147483648 ≤ x) (h2 : x ≤ 2147483647) : IV m0 (nu_up m 206 i x) := ⟨gu_206 h.1 h1 h2, Ext_fr (W := [104999]) (Fr_ua rfl rfl) (by decide) h.2.1, FS_fr (W := [104999]) (Fr_ua rfl rfl) (by decide) h.2.2.1, Fr_tr h.2.2.2 (Fr_ua rfl rfl)⟩
theorem IV_many {m0 m : Mm} {x : Int} (h : IV m0 m) (h1 : -2147483648 ≤ x) (h2 : x ≤ 2147483647) : IV m0 (nu_up m 192 31 x) := ⟨gu_192_31 h.1 h1 h2, Ext_fr (W := [90031]) (Fr_up rfl) (by decide) h.2.1, FS_fr (W := [90031]) (Fr_up rfl) (by decide) h.2.2.1, Fr_tr h.2.2.2 (Fr_up rfl)⟩
theorem IV_rd {n : Nat} {m0 m m1 : Mm} (h : IV m0 m) (hr : RD n m m1) : IV m0 m1 := ⟨hr.1, Ext_rd h.2.1 hr, FS_rd h.2.2.1 hr, Fr_tr h.2.2.2 (Fr_sub hr.2.2.2 (by decide))⟩
theorem keep_l {T : List Kd} {m0 : Mm} {r : Nat → Int} {Q : AV → Mm → Prop} (hT : TT T) {l h : Nat} (hh : h < 12) (hout : ∀ (k : Nat) (m : Mm), IV m0 m → (∀ i, m 205 i = r i) → GX T 10 180 133 [(2, 192), (0, (l : Int)), (0, (h : Int)), (0, (k : Int))] [] m Q) : ∀ (N k : Nat) (m : Mm), h + 1 - k < N → k ≤ h + 1 → IV m0 m → (∀ i, m 205 i = r i) → GX T 10 180 103 [(2, 192), (0, (l : Int)), (0, (h : Int)), (0, (k : Int))] [] m Q := by
  intro N
  induction N with
  | zero => intro k m hN; exact absurd hN (Nat.not_lt_zero _)
  | succ N ih =>
    intro k m hN hk hi hr
    have hm := hi.1
    refine gx_st (L' := [(2, 192), (0, (l : Int)), (0, (h : Int)), (0, (k : Int))]) (S' := [(0, (k : Int))]) r_180_103 rfl rfl rfl ?_
    refine gx_st (L' := [(2, 192), (0, (l : Int)), (0, (h : Int)), (0, (k : Int))]) (S' := [(0, (h : Int)), (0, (k : Int))]) r_180_104 rfl rfl rfl ?_
    refine gx_ic (P := (h : Int) < (k : Int)) r_180_105 (rfl) (fun h105 => ?_) (fun h105 => ?_)
    · exact hout k m hi hr
    · refine gx_st (L' := [(2, 192), (0, (l : Int)), (0, (h : Int)), (0, (k : Int))]) (S' := [(2, 192)]) r_180_108 rfl rfl rfl ?_
      obtain ⟨x109, e_x109⟩ : ∃ z, z = m 192 31 := ⟨_, rfl⟩
      have b_x109 := gb_192_31 hm
      rw [← e_x109] at b_x109
      refine gx_gf (x := x109) 0 r_180_109 rfl (tk_192 hT) ⟨by decide, rfl, by decide, by decide⟩ rfl (fun z => absurd z (by decide)) (e_x109.symm) ?_
      refine gx_i0 (P := ¬ x109 = 0) r_180_112 (rfl) (fun h112 => ?_) (fun h112 => ?_)
      · exact hout k m hi hr
      · have h112 := Decidable.not_not.mp h112
        refine gx_st (L' := [(2, 192), (0, (l : Int)), (0, (h : Int)), (0, (k : Int))]) (S' := [(2, 192)]) r_180_115 rfl rfl rfl ?_
        refine gx_gf (x := 206) 2 r_180_116 rfl (tk_192 hT) ⟨by decide, rfl, by decide, by decide⟩ rfl (fun _ => by decide) (pr_192_30 hm) ?_
        refine gx_st (L' := [(2, 192), (0, (l : Int)), (0, (h : Int)), (0, (k : Int))]) (S' := [(0, (k : Int)), (2, 206)]) r_180_119 rfl rfl rfl ?_
        refine gx_st (L' := [(2, 192), (0, (l : Int)), (0, (h : Int)), (0, (k : Int))]) (S' := [(2, 192), (0, (k : Int)), (2, 206)]) r_180_120 rfl rfl rfl ?_
        refine gx_gf (x := 205) 2 r_180_121 rfl (tk_192 hT) ⟨by decide, rfl, by decide, by decide⟩ rfl (fun _ => by decide) (pr_192_29 hm) ?_
        refine gx_st (L' := [(2, 192), (0, (l : Int)), (0, (h : Int)), (0, (k : Int))]) (S' := [(0, (k : Int)), (2, 205), (0, (k : Int)), (2, 206)]) r_180_124 rfl rfl rfl ?_
        obtain ⟨x125, e_x125⟩ : ∃ z, z = m 205 (k) := ⟨_, rfl⟩
        have b_x125 := gb_205 hm (i := k) (by omega)
        rw [← e_x125] at b_x125
        refine gx_ia (n := k) (x := x125) r_180_125 rfl (tk_205 hT) (by omega) ⟨rfl, by omega⟩ (e_x125.symm) ?_
        obtain ⟨m1, e_m1⟩ : ∃ z, z = nu_up m 206 (k) x125 := ⟨_, rfl⟩
        refine gx_is (n := k) (x := x125) r_180_126 rfl (by decide) (tk_206 hT) (by omega) ⟨rfl, by omega⟩ e_m1.symm ?_
        refine gx_li (z := (k : Int) + 1) (L' := [(2, 192), (0, (l : Int)), (0, (h : Int)), (0, (k : Int) + 1)]) r_180_127 rfl (w32_eq (by omega) (by omega) (by omega)) rfl ?_
        refine gx_st (L' := [(2, 192), (0, (l : Int)), (0, (h : Int)), (0, (k : Int) + 1)]) (S' := []) r_180_130 rfl rfl rfl ?_
        rw [show (k : Int) + 1 = ((k + 1 : Nat) : Int) from rfl]
        exact ih (k + 1) m1 (by omega) (by omega) (by rw [e_m1]; exact IV_first hi (by omega) (by omega)) (fun i => by rw [e_m1, nu_no (by decide)]; exact hr i)
theorem rows_st {T : List Kd} {m0 : Mm} {Q : AV → Mm → Prop} (hT : TT T) (h136 : ConH T cn_136) (h179 : ConH T cn_179) {l h : Nat} (hl : l < 12) (hhl : h ≤ l)
    (hdeep : h < l → ∀ r : Nat → Int, (∀ i : Nat, i < h + 1 → 0 ≤ r i ∧ r i ≤ 16) → (∀ (x : AV) (m : Mm), ¬ x.1 = 1 → IV m0 m → (∀ i : Nat, i < h + 1 → m 205 i = r i) → GX T 10 180 24 [(2, 192), (0, (l : Int)), (0, (h : Int)), x] [] m Q) → ∀ (x : AV) (m : Mm), ¬ x.1 = 1 → IV m0 m → (∀ i : Nat, i < h + 1 → m 205 i = r i) → m 205 (h + 1) = -1 → GX T 10 180 24 [(2, 192), (0, (l : Int)), (0, ((h + 1 : Nat) : Int)), x] [] m Q)
    (r : Nat → Int) (hr : ∀ i : Nat, i < h → 0 ≤ r i ∧ r i ≤ 16) (hout : ∀ (x : AV) (m : Mm), ¬ x.1 = 1 → IV m0 m → (∀ i : Nat, i < h → m 205 i = r i) → GX T 10 180 24 [(2, 192), (0, (l : Int)), (0, (h : Int) - 1), x] [] m Q) :
    ∀ (N : Nat) (x : AV) (m : Mm), (16 - m 205 h).toNat < N → ¬ x.1 = 1 → IV m0 m → (∀ i : Nat, i < h → m 205 i = r i) → -1 ≤ m 205 h → m 205 h ≤ 16 → GX T 10 180 24 [(2, 192), (0, (l : Int)), (0, (h : Int)), x] [] m Q := by
  intro N
  induction N with
  | zero => intro x m hN; exact absurd hN (Nat.not_lt_zero _)
  | succ N ih =>
    intro x m hN hx hi hb hr1 hr2
    have hm := hi.1
    refine gx_st (L' := [(2, 192), (0, (l : Int)), (0, (h : Int)), x]) (S' := [(0, (h : Int))]) r_180_24 rfl rfl rfl ?_
    refine gx_i0 (P := (h : Int) < 0) r_180_25 (rfl) (fun h25 => ?_) (fun h25 => ?_)
    · omega
    · refine gx_st (L' := [(2, 192), (0, (l : Int)), (0, (h : Int)), x]) (S' := [(2, 192)]) r_180_28 rfl rfl rfl ?_
      refine gx_gf (x := 205) 2 r_180_29 rfl (tk_192 hT) ⟨by decide, rfl, by decide, by decide⟩ rfl (fun _ => by decide) (pr_192_29 hm) ?_
      refine gx_st (L' := [(2, 192), (0, (l : Int)), (0, (h : Int)), x]) (S' := [(0, (h : Int)), (2, 205)]) r_180_32 rfl rfl rfl ?_
      refine gx_st (L' := [(2, 192), (0, (l : Int)), (0, (h : Int)), x]) (S' := [(2, 192), (0, (h : Int)), (2, 205)]) r_180_33 rfl rfl rfl ?_
      refine gx_gf (x := 205) 2 r_180_34 rfl (tk_192 hT) ⟨by decide, rfl, by decide, by decide⟩ rfl (fun _ => by decide) (pr_192_29 hm) ?_
      refine gx_st (L' := [(2, 192), (0, (l : Int)), (0, (h : Int)), x]) (S' := [(0, (h : Int)), (2, 205), (0, (h : Int)), (2, 205)]) r_180_37 rfl rfl rfl ?_
      obtain ⟨x38, e_x38⟩ : ∃ z, z = m 205 (h) := ⟨_, rfl⟩
      have b_x38 := gb_205 hm (i := h) (by omega)
      rw [← e_x38] at b_x38
      refine gx_ia (n := h) (x := x38) r_180_38 rfl (tk_205 hT) (by omega) ⟨rfl, by omega⟩ (e_x38.symm) ?_
      refine gx_st (L' := [(2, 192), (0, (l : Int)), (0, (h : Int)), x]) (S' := [(0, (-1)), (0, x38), (0, (h : Int)), (2, 205)]) r_180_39 rfl rfl rfl ?_
      refine gx_ic (P := ¬ x38 = (-1)) r_180_40 (rfl) (fun h40 => ?_) (fun h40 => ?_)
      · refine gx_st (L' := [(2, 192), (0, (l : Int)), (0, (h : Int)), x]) (S' := [(2, 192), (0, (h : Int)), (2, 205)]) r_180_47 rfl rfl rfl ?_
        refine gx_st (L' := [(2, 192), (0, (l : Int)), (0, (h : Int)), x]) (S' := [(0, (h : Int)), (2, 192), (0, (h : Int)), (2, 205)]) r_180_48 rfl rfl rfl ?_
        refine gx_st (L' := [(2, 192), (0, (l : Int)), (0, (h : Int)), x]) (S' := [(2, 192), (0, (h : Int)), (2, 192), (0, (h : Int)), (2, 205)]) r_180_49 rfl rfl rfl ?_
        refine gx_gf (x := 205) 2 r_180_50 rfl (tk_192 hT) ⟨by decide, rfl, by decide, by decide⟩ rfl (fun _ => by decide) (pr_192_29 hm) ?_
        refine gx_st (L' := [(2, 192), (0, (l : Int)), (0, (h : Int)), x]) (S' := [(0, (h : Int)), (2, 205), (0, (h : Int)), (2, 192), (0, (h : Int)), (2, 205)]) r_180_53 rfl rfl rfl ?_
        obtain ⟨x54, e_x54⟩ : ∃ z, z = m 205 (h) := ⟨_, rfl⟩
        have b_x54 := gb_205 hm (i := h) (by omega)
        rw [← e_x54] at b_x54
        refine gx_ia (n := h) (x := x54) r_180_54 rfl (tk_205 hT) (by omega) ⟨rfl, by omega⟩ (e_x54.symm) ?_
        obtain ⟨a, ha⟩ : ∃ a : Nat, x38 = (a : Int) := ⟨x38.toNat, by omega⟩
        have b54 : x54 = (a : Int) := by rw [e_x54, ← e_x38]; exact ha
        rw [b54]
        show GX T 10 180 55 [(2, 192), (0, (l : Int)), (0, (h : Int)), x] [(0, (a : Int)), (0, (h : Int)), (2, 192), (0, (h : Int)), (2, 205)] m Q
        refine gx_ci (nx := 58) (S2 := [(0, (h : Int)), (2, 205)]) (x_178 hT h136 hm (h := h) (a := a) (by omega) (by omega) (hi.2.1.2.2 h (by omega))) r_180_55 rfl rfl rfl rfl rfl (rcv_v rfl (tk_192 hT) (by decide) rfl (by decide)) rfl (by decide) rfl (fun x55 n55 q55 => ?_)
        obtain ⟨nv, z55⟩ := q55
        obtain rfl := z55.symm
        have hlt55 : x55 = -1 ∨ x38 < x55 := by omega
        have hle55 : x55 ≤ 16 := by omega
        have hge55 : -1 ≤ x55 := by omega
        show GX T 10 180 58 [(2, 192), (0, (l : Int)), (0, (h : Int)), x] [(0, x55), (0, (h : Int)), (2, 205)] m Q
        obtain ⟨m1, e_m1⟩ : ∃ z, z = nu_up m 205 (h) x55 := ⟨_, rfl⟩
        have h_m1 : Gam m1 := by rw [e_m1]; exact (IV_row hi (by omega) (by omega)).1
        refine gx_is (n := h) (x := x55) r_180_58 rfl (by decide) (tk_205 hT) (by omega) ⟨rfl, by omega⟩ e_m1.symm ?_
        have i_m1 : IV m0 m1 := by rw [e_m1]; exact IV_row hi (by omega) (by omega)
        have v_m1 : m1 205 h = x55 := by rw [e_m1, nu_at]
        have u_m1 : ∀ i : Nat, i < h → m1 205 i = r i := fun i hi2 => by rw [e_m1, nu_ne (by omega)]; exact hb i hi2
        refine gx_st (L' := [(2, 192), (0, (l : Int)), (0, (h : Int)), x]) (S' := [(2, 192)]) r_180_59 rfl rfl rfl ?_
        refine gx_gf (x := 205) 2 r_180_60 rfl (tk_192 hT) ⟨by decide, rfl, by decide, by decide⟩ rfl (fun _ => by decide) (pr_192_29 i_m1.1) ?_
        refine gx_st (L' := [(2, 192), (0, (l : Int)), (0, (h : Int)), x]) (S' := [(0, (h : Int)), (2, 205)]) r_180_63 rfl rfl rfl ?_
        refine gx_ia (n := h) (x := x55) r_180_64 rfl (tk_205 hT) (by omega) ⟨rfl, by omega⟩ (v_m1) ?_
        refine gx_st (L' := [(2, 192), (0, (l : Int)), (0, (h : Int)), x]) (S' := [(0, (-1)), (0, x55)]) r_180_65 rfl rfl rfl ?_
        refine gx_ic (P := ¬ x55 = (-1)) r_180_66 (rfl) (fun h66 => ?_) (fun h66 => ?_)
        · refine gx_st (L' := [(2, 192), (0, (l : Int)), (0, (h : Int)), x]) (S' := [(2, 192)]) r_180_75 rfl rfl rfl ?_
          refine gx_st (L' := [(2, 192), (0, (l : Int)), (0, (h : Int)), x]) (S' := [(0, (h : Int)), (2, 192)]) r_180_76 rfl rfl rfl ?_
          refine gx_st (L' := [(2, 192), (0, (l : Int)), (0, (h : Int)), x]) (S' := [(2, 192), (0, (h : Int)), (2, 192)]) r_180_77 rfl rfl rfl ?_
          refine gx_gf (x := 205) 2 r_180_78 rfl (tk_192 hT) ⟨by decide, rfl, by decide, by decide⟩ rfl (fun _ => by decide) (pr_192_29 i_m1.1) ?_
          refine gx_st (L' := [(2, 192), (0, (l : Int)), (0, (h : Int)), x]) (S' := [(0, (h : Int)), (2, 205), (0, (h : Int)), (2, 192)]) r_180_81 rfl rfl rfl ?_
          refine gx_ia (n := h) (x := x55) r_180_82 rfl (tk_205 hT) (by omega) ⟨rfl, by omega⟩ (v_m1) ?_
          refine gx_cv (nx := 86) (S2 := []) (x_142 h136 hT i_m1.1 (h := h) (n := h + 1) (by omega) rfl i_m1.2.2.1 (a := x55) (by omega) (by omega) (i_m1.2.1.2.2 h (by omega))) r_180_83 rfl rfl rfl rfl rfl (rcv_v rfl (tk_192 hT) (by decide) rfl (by decide)) rfl (by decide) rfl (fun n83 q83 => ?_)
          have i_n83 := IV_rd i_m1 q83
          have r_n83 : ∀ i, n83 205 i = m1 205 i := Fr_cell (o := 205) q83.2.2.2 (by decide) (by decide)
          have v_n83 : n83 205 h = x55 := (r_n83 h).trans v_m1
          have u_n83 : ∀ i : Nat, i < h → n83 205 i = r i := fun i hi2 => (r_n83 i).trans (u_m1 i hi2)
          refine gx_st (L' := [(2, 192), (0, (l : Int)), (0, (h : Int)), x]) (S' := [(2, 192)]) r_180_86 rfl rfl rfl ?_
          refine gx_gf (x := 205) 2 r_180_87 rfl (tk_192 hT) ⟨by decide, rfl, by decide, by decide⟩ rfl (fun _ => by decide) (pr_192_29 i_n83.1) ?_
          refine gx_st (L' := [(2, 192), (0, (l : Int)), (0, (h : Int)), x]) (S' := [(0, (h : Int)), (2, 205)]) r_180_90 rfl rfl rfl ?_
          refine gx_ia (n := h) (x := x55) r_180_91 rfl (tk_205 hT) (by omega) ⟨rfl, by omega⟩ (v_n83) ?_
          refine gx_st (L' := [(2, 192), (0, (l : Int)), (0, (h : Int)), x]) (S' := [(0, 2), (0, x55)]) r_180_92 rfl rfl rfl ?_
          refine gx_ic (P := ¬ x55 = 2) r_180_93 (rfl) (fun h93 => ?_) (fun h93 => ?_)
          · refine gx_st (L' := [(2, 192), (0, (l : Int)), (0, (h : Int)), x]) (S' := [(0, (h : Int))]) r_180_143 rfl rfl rfl ?_
            refine gx_st (L' := [(2, 192), (0, (l : Int)), (0, (h : Int)), x]) (S' := [(0, (l : Int)), (0, (h : Int))]) r_180_144 rfl rfl rfl ?_
            refine gx_ic (P := (h : Int) = (l : Int)) r_180_145 (rfl) (fun h145 => ?_) (fun h145 => ?_)
            · exact ih _ n83 (by rw [v_n83]; omega) hx i_n83 u_n83 (by rw [v_n83]; omega) (by rw [v_n83]; omega)
            · refine gx_st (L' := [(2, 192), (0, (l : Int)), (0, (h : Int)), x]) (S' := [(2, 192)]) r_180_148 rfl rfl rfl ?_
              refine gx_gf (x := 205) 2 r_180_149 rfl (tk_192 hT) ⟨by decide, rfl, by decide, by decide⟩ rfl (fun _ => by decide) (pr_192_29 i_n83.1) ?_
              refine gx_st (L' := [(2, 192), (0, (l : Int)), (0, (h : Int)), x]) (S' := [(0, (h : Int)), (2, 205)]) r_180_152 rfl rfl rfl ?_
              refine gx_ia (n := h) (x := x55) r_180_153 rfl (tk_205 hT) (by omega) ⟨rfl, by omega⟩ (v_n83) ?_
              refine gx_st (L' := [(2, 192), (0, (l : Int)), (0, (h : Int)), x]) (S' := [(0, 2), (0, x55)]) r_180_154 rfl rfl rfl ?_
              refine gx_ic (P := x55 = 2) r_180_155 (rfl) (fun h155 => ?_) (fun h155 => ?_)
              · exact ih _ n83 (by rw [v_n83]; omega) hx i_n83 u_n83 (by rw [v_n83]; omega) (by rw [v_n83]; omega)
              · refine gx_st (L' := [(2, 192), (0, (l : Int)), (0, (h : Int)), x]) (S' := [(2, 192)]) r_180_158 rfl rfl rfl ?_
                refine gx_st (L' := [(2, 192), (0, (l : Int)), (0, (h : Int)), x]) (S' := [(0, (h : Int)), (2, 192)]) r_180_159 rfl rfl rfl ?_
                refine gx_st (L' := [(2, 192), (0, (l : Int)), (0, (h : Int)), x]) (S' := [(0, 1), (0, (h : Int)), (2, 192)]) r_180_160 rfl rfl rfl ?_
                refine gx_ar (L' := [(2, 192), (0, (l : Int)), (0, (h : Int)), x]) (S' := [(2, 192)]) (t := 0) (e := w32 ((h : Int) + 1)) (z := (h : Int) + 1) r_180_161 rfl rfl rfl (w32_eq (by omega) (by omega) (by omega)) ?_
                refine gx_st (L' := [(2, 192), (0, (l : Int)), (0, (h : Int)), x]) (S' := [(0, 1), (0, (h : Int) + 1), (2, 192)]) r_180_162 rfl rfl rfl ?_
                refine gx_ci (nx := 166) (S2 := []) (x_131 hT i_n83.1 (h := h + 1) (k := 1) (by omega) (by omega)) r_180_163 rfl rfl rfl rfl rfl (rcv_v rfl (tk_192 hT) (by decide) rfl (by decide)) rfl (by decide) rfl (fun x163 n163 q163 => ?_)
                obtain ⟨e_x163, z_x163⟩ := q163
                obtain rfl := z_x163.symm
                have b_x163 : -1 ≤ x163 ∧ x163 ≤ 4 := by rw [e_x163]; exact gb_200_on i_n83.1 (h := h + 1) (by omega)
                show GX T 10 180 166 [(2, 192), (0, (l : Int)), (0, (h : Int)), x] [(0, x163)] n83 Q
                refine gx_st (L' := [(2, 192), (0, (l : Int)), (0, (h : Int)), x]) (S' := [(0, (-1)), (0, x163)]) r_180_166 rfl rfl rfl ?_
                refine gx_ic (P := x163 = (-1)) r_180_167 (rfl) (fun h167 => ?_) (fun h167 => ?_)
                · exact ih _ n83 (by rw [v_n83]; omega) hx i_n83 u_n83 (by rw [v_n83]; omega) (by rw [v_n83]; omega)
                · refine gx_st (L' := [(2, 192), (0, (l : Int)), (0, (h : Int)), x]) (S' := [(2, 192)]) r_180_170 rfl rfl rfl ?_
                  refine gx_st (L' := [(2, 192), (0, (l : Int)), (0, (h : Int)), x]) (S' := [(0, (h : Int)), (2, 192)]) r_180_171 rfl rfl rfl ?_
                  refine gx_st (L' := [(2, 192), (0, (l : Int)), (0, (h : Int)), x]) (S' := [(0, 1), (0, (h : Int)), (2, 192)]) r_180_172 rfl rfl rfl ?_
                  refine gx_ar (L' := [(2, 192), (0, (l : Int)), (0, (h : Int)), x]) (S' := [(2, 192)]) (t := 0) (e := w32 ((h : Int) + 1)) (z := (h : Int) + 1) r_180_173 rfl rfl rfl (w32_eq (by omega) (by omega) (by omega)) ?_
                  refine gx_st (L' := [(2, 192), (0, (l : Int)), (0, (h : Int)), x]) (S' := [(0, (l : Int)), (0, (h : Int) + 1), (2, 192)]) r_180_174 rfl rfl rfl ?_
                  refine gx_ci (nx := 178) (S2 := []) (gx_hi (args := [(2, 192), (0, (h : Int) + 1), (0, (l : Int))]) h179 ⟨gq_o192, gq_any (by omega) (by omega), gq_any (by omega) (by omega), trivial⟩ i_n83.1 rfl) r_180_175 rfl rfl rfl rfl rfl (rcv_v rfl (tk_192 hT) (by decide) rfl (by decide)) rfl (by decide) rfl (fun x175 n175 q175 => ?_)
                  obtain rfl := (Fr_nil q175.2.2.2).symm
                  have b_x175 := And.intro q175.1 q175.2.1
                  show GX T 10 180 178 [(2, 192), (0, (l : Int)), (0, (h : Int)), x] [(0, x175)] n83 Q
                  refine gx_i0 (P := ¬ x175 = 0) r_180_178 (rfl) (fun h178 => ?_) (fun h178 => ?_)
                  · refine gx_li (z := (h : Int) + 1) (L' := [(2, 192), (0, (l : Int)), (0, (h : Int) + 1), x]) r_180_184 rfl (w32_eq (by omega) (by omega) (by omega)) rfl ?_
                    refine gx_st (L' := [(2, 192), (0, (l : Int)), (0, (h : Int) + 1), x]) (S' := [(2, 192)]) r_180_187 rfl rfl rfl ?_
                    refine gx_gf (x := 205) 2 r_180_188 rfl (tk_192 hT) ⟨by decide, rfl, by decide, by decide⟩ rfl (fun _ => by decide) (pr_192_29 i_n83.1) ?_
                    refine gx_st (L' := [(2, 192), (0, (l : Int)), (0, (h : Int) + 1), x]) (S' := [(0, (h : Int) + 1), (2, 205)]) r_180_191 rfl rfl rfl ?_
                    refine gx_st (L' := [(2, 192), (0, (l : Int)), (0, (h : Int) + 1), x]) (S' := [(0, (-1)), (0, (h : Int) + 1), (2, 205)]) r_180_192 rfl rfl rfl ?_
                    obtain ⟨m2, e_m2⟩ : ∃ z, z = nu_up n83 205 (h + 1) (-1) := ⟨_, rfl⟩
                    refine gx_is (n := h + 1) (x := (-1)) r_180_193 rfl (by decide) (tk_205 hT) (by omega) ⟨rfl, by omega⟩ e_m2.symm ?_
                    refine gx_st (L' := [(2, 192), (0, (l : Int)), (0, (h : Int) + 1), x]) (S' := []) r_180_194 rfl rfl rfl ?_
                    rw [show (h : Int) + 1 = ((h + 1 : Nat) : Int) from rfl]
                    refine hdeep (by omega) (fun i => n83 205 i) (fun i hi2 => ?_) (fun x2 m2 hx2 i2 b2 => ?_) _ m2 hx ?_ (fun i hi2 => by rw [e_m2, nu_ne (by omega)]) (by rw [e_m2, nu_at])
                    · by_cases e : i = h
                      · rw [e]; show 0 ≤ n83 205 h ∧ n83 205 h ≤ 16; rw [v_n83]; omega
                      · show 0 ≤ n83 205 i ∧ n83 205 i ≤ 16; rw [u_n83 i (by omega)]; exact hr i (by omega)
                    · have b3 : m2 205 h = x55 := (b2 h (by omega)).trans v_n83
                      exact ih x2 m2 (by rw [b3]; omega) hx2 i2 (fun i hi2 => (b2 i (by omega)).trans (u_n83 i hi2)) (by rw [b3]; omega) (by rw [b3]; omega)
                    · rw [e_m2]; exact IV_row i_n83 (by decide) (by decide)
                  · have h178 := Decidable.not_not.mp h178
                    refine gx_st (L' := [(2, 192), (0, (l : Int)), (0, (h : Int)), x]) (S' := []) r_180_181 rfl rfl rfl ?_
                    exact ih _ n83 (by rw [v_n83]; omega) hx i_n83 u_n83 (by rw [v_n83]; omega) (by rw [v_n83]; omega)
          · have h93 := Decidable.not_not.mp h93
            refine gx_st (L' := [(2, 192), (0, (l : Int)), (0, (h : Int)), x]) (S' := [(0, (h : Int))]) r_180_96 rfl rfl rfl ?_
            refine gx_st (L' := [(2, 192), (0, (l : Int)), (0, (h : Int)), x]) (S' := [(0, (l : Int)), (0, (h : Int))]) r_180_97 rfl rfl rfl ?_
            refine gx_ic (P := ¬ (h : Int) = (l : Int)) r_180_98 (rfl) (fun h98 => ?_) (fun h98 => ?_)
            · refine gx_st (L' := [(2, 192), (0, (l : Int)), (0, (h : Int)), x]) (S' := [(0, (h : Int))]) r_180_143 rfl rfl rfl ?_
              refine gx_st (L' := [(2, 192), (0, (l : Int)), (0, (h : Int)), x]) (S' := [(0, (l : Int)), (0, (h : Int))]) r_180_144 rfl rfl rfl ?_
              refine gx_ic (P := (h : Int) = (l : Int)) r_180_145 (rfl) (fun h145 => ?_) (fun h145 => ?_)
              · exact ih _ n83 (by rw [v_n83]; omega) hx i_n83 u_n83 (by rw [v_n83]; omega) (by rw [v_n83]; omega)
              · refine gx_st (L' := [(2, 192), (0, (l : Int)), (0, (h : Int)), x]) (S' := [(2, 192)]) r_180_148 rfl rfl rfl ?_
                refine gx_gf (x := 205) 2 r_180_149 rfl (tk_192 hT) ⟨by decide, rfl, by decide, by decide⟩ rfl (fun _ => by decide) (pr_192_29 i_n83.1) ?_
                refine gx_st (L' := [(2, 192), (0, (l : Int)), (0, (h : Int)), x]) (S' := [(0, (h : Int)), (2, 205)]) r_180_152 rfl rfl rfl ?_
                refine gx_ia (n := h) (x := x55) r_180_153 rfl (tk_205 hT) (by omega) ⟨rfl, by omega⟩ (v_n83) ?_
                refine gx_st (L' := [(2, 192), (0, (l : Int)), (0, (h : Int)), x]) (S' := [(0, 2), (0, x55)]) r_180_154 rfl rfl rfl ?_
                refine gx_ic (P := x55 = 2) r_180_155 (rfl) (fun h155 => ?_) (fun h155 => ?_)
                · exact ih _ n83 (by rw [v_n83]; omega) hx i_n83 u_n83 (by rw [v_n83]; omega) (by rw [v_n83]; omega)
                · refine gx_st (L' := [(2, 192), (0, (l : Int)), (0, (h : Int)), x]) (S' := [(2, 192)]) r_180_158 rfl rfl rfl ?_
                  refine gx_st (L' := [(2, 192), (0, (l : Int)), (0, (h : Int)), x]) (S' := [(0, (h : Int)), (2, 192)]) r_180_159 rfl rfl rfl ?_
                  refine gx_st (L' := [(2, 192), (0, (l : Int)), (0, (h : Int)), x]) (S' := [(0, 1), (0, (h : Int)), (2, 192)]) r_180_160 rfl rfl rfl ?_
                  refine gx_ar (L' := [(2, 192), (0, (l : Int)), (0, (h : Int)), x]) (S' := [(2, 192)]) (t := 0) (e := w32 ((h : Int) + 1)) (z := (h : Int) + 1) r_180_161 rfl rfl rfl (w32_eq (by omega) (by omega) (by omega)) ?_
                  refine gx_st (L' := [(2, 192), (0, (l : Int)), (0, (h : Int)), x]) (S' := [(0, 1), (0, (h : Int) + 1), (2, 192)]) r_180_162 rfl rfl rfl ?_
                  refine gx_ci (nx := 166) (S2 := []) (x_131 hT i_n83.1 (h := h + 1) (k := 1) (by omega) (by omega)) r_180_163 rfl rfl rfl rfl rfl (rcv_v rfl (tk_192 hT) (by decide) rfl (by decide)) rfl (by decide) rfl (fun x163 n163 q163 => ?_)
                  obtain ⟨e_x163, z_x163⟩ := q163
                  obtain rfl := z_x163.symm
                  have b_x163 : -1 ≤ x163 ∧ x163 ≤ 4 := by rw [e_x163]; exact gb_200_on i_n83.1 (h := h + 1) (by omega)
                  show GX T 10 180 166 [(2, 192), (0, (l : Int)), (0, (h : Int)), x] [(0, x163)] n83 Q
                  refine gx_st (L' := [(2, 192), (0, (l : Int)), (0, (h : Int)), x]) (S' := [(0, (-1)), (0, x163)]) r_180_166 rfl rfl rfl ?_
                  refine gx_ic (P := x163 = (-1)) r_180_167 (rfl) (fun h167 => ?_) (fun h167 => ?_)
                  · exact ih _ n83 (by rw [v_n83]; omega) hx i_n83 u_n83 (by rw [v_n83]; omega) (by rw [v_n83]; omega)
                  · refine gx_st (L' := [(2, 192), (0, (l : Int)), (0, (h : Int)), x]) (S' := [(2, 192)]) r_180_170 rfl rfl rfl ?_
                    refine gx_st (L' := [(2, 192), (0, (l : Int)), (0, (h : Int)), x]) (S' := [(0, (h : Int)), (2, 192)]) r_180_171 rfl rfl rfl ?_
                    refine gx_st (L' := [(2, 192), (0, (l : Int)), (0, (h : Int)), x]) (S' := [(0, 1), (0, (h : Int)), (2, 192)]) r_180_172 rfl rfl rfl ?_
                    refine gx_ar (L' := [(2, 192), (0, (l : Int)), (0, (h : Int)), x]) (S' := [(2, 192)]) (t := 0) (e := w32 ((h : Int) + 1)) (z := (h : Int) + 1) r_180_173 rfl rfl rfl (w32_eq (by omega) (by omega) (by omega)) ?_
                    refine gx_st (L' := [(2, 192), (0, (l : Int)), (0, (h : Int)), x]) (S' := [(0, (l : Int)), (0, (h : Int) + 1), (2, 192)]) r_180_174 rfl rfl rfl ?_
                    refine gx_ci (nx := 178) (S2 := []) (gx_hi (args := [(2, 192), (0, (h : Int) + 1), (0, (l : Int))]) h179 ⟨gq_o192, gq_any (by omega) (by omega), gq_any (by omega) (by omega), trivial⟩ i_n83.1 rfl) r_180_175 rfl rfl rfl rfl rfl (rcv_v rfl (tk_192 hT) (by decide) rfl (by decide)) rfl (by decide) rfl (fun x175 n175 q175 => ?_)
                    obtain rfl := (Fr_nil q175.2.2.2).symm
                    have b_x175 := And.intro q175.1 q175.2.1
                    show GX T 10 180 178 [(2, 192), (0, (l : Int)), (0, (h : Int)), x] [(0, x175)] n83 Q
                    refine gx_i0 (P := ¬ x175 = 0) r_180_178 (rfl) (fun h178 => ?_) (fun h178 => ?_)
                    · refine gx_li (z := (h : Int) + 1) (L' := [(2, 192), (0, (l : Int)), (0, (h : Int) + 1), x]) r_180_184 rfl (w32_eq (by omega) (by omega) (by omega)) rfl ?_
                      refine gx_st (L' := [(2, 192), (0, (l : Int)), (0, (h : Int) + 1), x]) (S' := [(2, 192)]) r_180_187 rfl rfl rfl ?_
                      refine gx_gf (x := 205) 2 r_180_188 rfl (tk_192 hT) ⟨by decide, rfl, by decide, by decide⟩ rfl (fun _ => by decide) (pr_192_29 i_n83.1) ?_
                      refine gx_st (L' := [(2, 192), (0, (l : Int)), (0, (h : Int) + 1), x]) (S' := [(0, (h : Int) + 1), (2, 205)]) r_180_191 rfl rfl rfl ?_
                      refine gx_st (L' := [(2, 192), (0, (l : Int)), (0, (h : Int) + 1), x]) (S' := [(0, (-1)), (0, (h : Int) + 1), (2, 205)]) r_180_192 rfl rfl rfl ?_
                      obtain ⟨m3, e_m3⟩ : ∃ z, z = nu_up n83 205 (h + 1) (-1) := ⟨_, rfl⟩
                      refine gx_is (n := h + 1) (x := (-1)) r_180_193 rfl (by decide) (tk_205 hT) (by omega) ⟨rfl, by omega⟩ e_m3.symm ?_
                      refine gx_st (L' := [(2, 192), (0, (l : Int)), (0, (h : Int) + 1), x]) (S' := []) r_180_194 rfl rfl rfl ?_
                      rw [show (h : Int) + 1 = ((h + 1 : Nat) : Int) from rfl]
                      refine hdeep (by omega) (fun i => n83 205 i) (fun i hi2 => ?_) (fun x2 m2 hx2 i2 b2 => ?_) _ m3 hx ?_ (fun i hi2 => by rw [e_m3, nu_ne (by omega)]) (by rw [e_m3, nu_at])
                      · by_cases e : i = h
                        · rw [e]; show 0 ≤ n83 205 h ∧ n83 205 h ≤ 16; rw [v_n83]; omega
                        · show 0 ≤ n83 205 i ∧ n83 205 i ≤ 16; rw [u_n83 i (by omega)]; exact hr i (by omega)
                      · have b3 : m2 205 h = x55 := (b2 h (by omega)).trans v_n83
                        exact ih x2 m2 (by rw [b3]; omega) hx2 i2 (fun i hi2 => (b2 i (by omega)).trans (u_n83 i hi2)) (by rw [b3]; omega) (by rw [b3]; omega)
                      · rw [e_m3]; exact IV_row i_n83 (by decide) (by decide)
                    · have h178 := Decidable.not_not.mp h178
                      refine gx_st (L' := [(2, 192), (0, (l : Int)), (0, (h : Int)), x]) (S' := []) r_180_181 rfl rfl rfl ?_
                      exact ih _ n83 (by rw [v_n83]; omega) hx i_n83 u_n83 (by rw [v_n83]; omega) (by rw [v_n83]; omega)
            · have h98 := Decidable.not_not.mp h98
              refine gx_st (L' := [(2, 192), (0, (l : Int)), (0, (h : Int)), x]) (S' := [(0, 0)]) r_180_101 rfl rfl rfl ?_
              refine gx_st (L' := [(2, 192), (0, (l : Int)), (0, (h : Int)), (0, 0)]) (S' := []) r_180_102 rfl rfl rfl ?_
              refine keep_l hT (h := h) (by omega) (fun k p1 i_p1 r_p1 => ?_) (h + 2) 0 n83 (by omega) (by omega) i_n83 (fun i => rfl)
              have v_p1 : p1 205 h = x55 := (r_p1 h).trans v_n83
              have u_p1 : ∀ i : Nat, i < h → p1 205 i = r i := fun i hi2 => (r_p1 i).trans (u_n83 i hi2)
              refine gx_st (L' := [(2, 192), (0, (l : Int)), (0, (h : Int)), (0, (k : Int))]) (S' := [(2, 192)]) r_180_133 rfl rfl rfl ?_
              refine gx_st (L' := [(2, 192), (0, (l : Int)), (0, (h : Int)), (0, (k : Int))]) (S' := [(2, 192), (2, 192)]) r_180_134 rfl rfl rfl ?_
              obtain ⟨x135, e_x135⟩ : ∃ z, z = p1 192 31 := ⟨_, rfl⟩
              have b_x135 := gb_192_31 i_p1.1
              rw [← e_x135] at b_x135
              refine gx_gf (x := x135) 0 r_180_135 rfl (tk_192 hT) ⟨by decide, rfl, by decide, by decide⟩ rfl (fun z => absurd z (by decide)) (e_x135.symm) ?_
              refine gx_st (L' := [(2, 192), (0, (l : Int)), (0, (h : Int)), (0, (k : Int))]) (S' := [(0, 1), (0, x135), (2, 192)]) r_180_138 rfl rfl rfl ?_
              refine gx_st (L' := [(2, 192), (0, (l : Int)), (0, (h : Int)), (0, (k : Int))]) (S' := [(0, (w32 (x135 + 1))), (2, 192)]) r_180_139 rfl rfl rfl ?_
              have k139 := w32_in (x135 + 1)
              unfold in32 at k139
              obtain ⟨m4, e_m4⟩ : ∃ z, z = nu_up p1 192 31 ((w32 (x135 + 1))) := ⟨_, rfl⟩
              refine gx_pf (x := (w32 (x135 + 1))) 0 r_180_140 rfl (tk_192 hT) ⟨by decide, rfl, by decide, by decide⟩ rfl (fun z => absurd z (by decide)) (fun z => absurd z (by decide)) e_m4.symm ?_
              have i_m4 : IV m0 m4 := by rw [e_m4]; exact IV_many i_p1 (by omega) (by omega)
              have v_m4 : m4 205 h = x55 := by rw [e_m4, nu_no (by decide)]; exact v_p1
              have u_m4 : ∀ i : Nat, i < h → m4 205 i = r i := fun i hi2 => by rw [e_m4, nu_no (by decide)]; exact u_p1 i hi2
              refine gx_st (L' := [(2, 192), (0, (l : Int)), (0, (h : Int)), (0, (k : Int))]) (S' := [(0, (h : Int))]) r_180_143 rfl rfl rfl ?_
              refine gx_st (L' := [(2, 192), (0, (l : Int)), (0, (h : Int)), (0, (k : Int))]) (S' := [(0, (l : Int)), (0, (h : Int))]) r_180_144 rfl rfl rfl ?_
              refine gx_ic (P := (h : Int) = (l : Int)) r_180_145 (rfl) (fun h145 => ?_) (fun h145 => ?_)
              · exact ih _ m4 (by rw [v_m4]; omega) Nat.zero_ne_one i_m4 u_m4 (by rw [v_m4]; omega) (by rw [v_m4]; omega)
              · refine gx_st (L' := [(2, 192), (0, (l : Int)), (0, (h : Int)), (0, (k : Int))]) (S' := [(2, 192)]) r_180_148 rfl rfl rfl ?_
                refine gx_gf (x := 205) 2 r_180_149 rfl (tk_192 hT) ⟨by decide, rfl, by decide, by decide⟩ rfl (fun _ => by decide) (pr_192_29 i_m4.1) ?_
                refine gx_st (L' := [(2, 192), (0, (l : Int)), (0, (h : Int)), (0, (k : Int))]) (S' := [(0, (h : Int)), (2, 205)]) r_180_152 rfl rfl rfl ?_
                refine gx_ia (n := h) (x := x55) r_180_153 rfl (tk_205 hT) (by omega) ⟨rfl, by omega⟩ (v_m4) ?_
                refine gx_st (L' := [(2, 192), (0, (l : Int)), (0, (h : Int)), (0, (k : Int))]) (S' := [(0, 2), (0, x55)]) r_180_154 rfl rfl rfl ?_
                refine gx_ic (P := x55 = 2) r_180_155 (rfl) (fun h155 => ?_) (fun h155 => ?_)
                · exact ih _ m4 (by rw [v_m4]; omega) Nat.zero_ne_one i_m4 u_m4 (by rw [v_m4]; omega) (by rw [v_m4]; omega)
                · refine gx_st (L' := [(2, 192), (0, (l : Int)), (0, (h : Int)), (0, (k : Int))]) (S' := [(2, 192)]) r_180_158 rfl rfl rfl ?_
                  refine gx_st (L' := [(2, 192), (0, (l : Int)), (0, (h : Int)), (0, (k : Int))]) (S' := [(0, (h : Int)), (2, 192)]) r_180_159 rfl rfl rfl ?_
                  refine gx_st (L' := [(2, 192), (0, (l : Int)), (0, (h : Int)), (0, (k : Int))]) (S' := [(0, 1), (0, (h : Int)), (2, 192)]) r_180_160 rfl rfl rfl ?_
                  refine gx_ar (L' := [(2, 192), (0, (l : Int)), (0, (h : Int)), (0, (k : Int))]) (S' := [(2, 192)]) (t := 0) (e := w32 ((h : Int) + 1)) (z := (h : Int) + 1) r_180_161 rfl rfl rfl (w32_eq (by omega) (by omega) (by omega)) ?_
                  refine gx_st (L' := [(2, 192), (0, (l : Int)), (0, (h : Int)), (0, (k : Int))]) (S' := [(0, 1), (0, (h : Int) + 1), (2, 192)]) r_180_162 rfl rfl rfl ?_
                  refine gx_ci (nx := 166) (S2 := []) (x_131 hT i_m4.1 (h := h + 1) (k := 1) (by omega) (by omega)) r_180_163 rfl rfl rfl rfl rfl (rcv_v rfl (tk_192 hT) (by decide) rfl (by decide)) rfl (by decide) rfl (fun x163 n163 q163 => ?_)
                  obtain ⟨e_x163, z_x163⟩ := q163
                  obtain rfl := z_x163.symm
                  have b_x163 : -1 ≤ x163 ∧ x163 ≤ 4 := by rw [e_x163]; exact gb_200_on i_m4.1 (h := h + 1) (by omega)
                  show GX T 10 180 166 [(2, 192), (0, (l : Int)), (0, (h : Int)), (0, (k : Int))] [(0, x163)] m4 Q
                  refine gx_st (L' := [(2, 192), (0, (l : Int)), (0, (h : Int)), (0, (k : Int))]) (S' := [(0, (-1)), (0, x163)]) r_180_166 rfl rfl rfl ?_
                  refine gx_ic (P := x163 = (-1)) r_180_167 (rfl) (fun h167 => ?_) (fun h167 => ?_)
                  · exact ih _ m4 (by rw [v_m4]; omega) Nat.zero_ne_one i_m4 u_m4 (by rw [v_m4]; omega) (by rw [v_m4]; omega)
                  · refine gx_st (L' := [(2, 192), (0, (l : Int)), (0, (h : Int)), (0, (k : Int))]) (S' := [(2, 192)]) r_180_170 rfl rfl rfl ?_
                    refine gx_st (L' := [(2, 192), (0, (l : Int)), (0, (h : Int)), (0, (k : Int))]) (S' := [(0, (h : Int)), (2, 192)]) r_180_171 rfl rfl rfl ?_
                    refine gx_st (L' := [(2, 192), (0, (l : Int)), (0, (h : Int)), (0, (k : Int))]) (S' := [(0, 1), (0, (h : Int)), (2, 192)]) r_180_172 rfl rfl rfl ?_
                    refine gx_ar (L' := [(2, 192), (0, (l : Int)), (0, (h : Int)), (0, (k : Int))]) (S' := [(2, 192)]) (t := 0) (e := w32 ((h : Int) + 1)) (z := (h : Int) + 1) r_180_173 rfl rfl rfl (w32_eq (by omega) (by omega) (by omega)) ?_
                    refine gx_st (L' := [(2, 192), (0, (l : Int)), (0, (h : Int)), (0, (k : Int))]) (S' := [(0, (l : Int)), (0, (h : Int) + 1), (2, 192)]) r_180_174 rfl rfl rfl ?_
                    refine gx_ci (nx := 178) (S2 := []) (gx_hi (args := [(2, 192), (0, (h : Int) + 1), (0, (l : Int))]) h179 ⟨gq_o192, gq_any (by omega) (by omega), gq_any (by omega) (by omega), trivial⟩ i_m4.1 rfl) r_180_175 rfl rfl rfl rfl rfl (rcv_v rfl (tk_192 hT) (by decide) rfl (by decide)) rfl (by decide) rfl (fun x175 n175 q175 => ?_)
                    obtain rfl := (Fr_nil q175.2.2.2).symm
                    have b_x175 := And.intro q175.1 q175.2.1
                    show GX T 10 180 178 [(2, 192), (0, (l : Int)), (0, (h : Int)), (0, (k : Int))] [(0, x175)] m4 Q
                    refine gx_i0 (P := ¬ x175 = 0) r_180_178 (rfl) (fun h178 => ?_) (fun h178 => ?_)
                    · refine gx_li (z := (h : Int) + 1) (L' := [(2, 192), (0, (l : Int)), (0, (h : Int) + 1), (0, (k : Int))]) r_180_184 rfl (w32_eq (by omega) (by omega) (by omega)) rfl ?_
                      refine gx_st (L' := [(2, 192), (0, (l : Int)), (0, (h : Int) + 1), (0, (k : Int))]) (S' := [(2, 192)]) r_180_187 rfl rfl rfl ?_
                      refine gx_gf (x := 205) 2 r_180_188 rfl (tk_192 hT) ⟨by decide, rfl, by decide, by decide⟩ rfl (fun _ => by decide) (pr_192_29 i_m4.1) ?_
                      refine gx_st (L' := [(2, 192), (0, (l : Int)), (0, (h : Int) + 1), (0, (k : Int))]) (S' := [(0, (h : Int) + 1), (2, 205)]) r_180_191 rfl rfl rfl ?_
                      refine gx_st (L' := [(2, 192), (0, (l : Int)), (0, (h : Int) + 1), (0, (k : Int))]) (S' := [(0, (-1)), (0, (h : Int) + 1), (2, 205)]) r_180_192 rfl rfl rfl ?_
                      obtain ⟨m5, e_m5⟩ : ∃ z, z = nu_up m4 205 (h + 1) (-1) := ⟨_, rfl⟩
                      refine gx_is (n := h + 1) (x := (-1)) r_180_193 rfl (by decide) (tk_205 hT) (by omega) ⟨rfl, by omega⟩ e_m5.symm ?_
                      refine gx_st (L' := [(2, 192), (0, (l : Int)), (0, (h : Int) + 1), (0, (k : Int))]) (S' := []) r_180_194 rfl rfl rfl ?_
                      rw [show (h : Int) + 1 = ((h + 1 : Nat) : Int) from rfl]
                      refine hdeep (by omega) (fun i => m4 205 i) (fun i hi2 => ?_) (fun x2 m2 hx2 i2 b2 => ?_) _ m5 Nat.zero_ne_one ?_ (fun i hi2 => by rw [e_m5, nu_ne (by omega)]) (by rw [e_m5, nu_at])
                      · by_cases e : i = h
                        · rw [e]; show 0 ≤ m4 205 h ∧ m4 205 h ≤ 16; rw [v_m4]; omega
                        · show 0 ≤ m4 205 i ∧ m4 205 i ≤ 16; rw [u_m4 i (by omega)]; exact hr i (by omega)
                      · have b3 : m2 205 h = x55 := (b2 h (by omega)).trans v_m4
                        exact ih x2 m2 (by rw [b3]; omega) hx2 i2 (fun i hi2 => (b2 i (by omega)).trans (u_m4 i hi2)) (by rw [b3]; omega) (by rw [b3]; omega)
                      · rw [e_m5]; exact IV_row i_m4 (by decide) (by decide)
                    · have h178 := Decidable.not_not.mp h178
                      refine gx_st (L' := [(2, 192), (0, (l : Int)), (0, (h : Int)), (0, (k : Int))]) (S' := []) r_180_181 rfl rfl rfl ?_
                      exact ih _ m4 (by rw [v_m4]; omega) Nat.zero_ne_one i_m4 u_m4 (by rw [v_m4]; omega) (by rw [v_m4]; omega)
        · have h66 := Decidable.not_not.mp h66
          refine gx_li (z := (h : Int) - 1) (L' := [(2, 192), (0, (l : Int)), (0, (h : Int) - 1), x]) r_180_69 rfl (w32_eq (by omega) (by omega) (by omega)) rfl ?_
          refine gx_st (L' := [(2, 192), (0, (l : Int)), (0, (h : Int) - 1), x]) (S' := []) r_180_72 rfl rfl rfl ?_
          exact hout _ m1 hx i_m1 u_m1
      · have h40 := Decidable.not_not.mp h40
        refine gx_st (L' := [(2, 192), (0, (l : Int)), (0, (h : Int)), x]) (S' := [(0, 0), (0, (h : Int)), (2, 205)]) r_180_43 rfl rfl rfl ?_
        refine gx_st (L' := [(2, 192), (0, (l : Int)), (0, (h : Int)), x]) (S' := [(0, 0), (0, (h : Int)), (2, 205)]) r_180_44 rfl rfl rfl ?_
        have hlt55 : (0 : Int) = -1 ∨ x38 < 0 := by omega
        obtain ⟨m4, e_m4⟩ : ∃ z, z = nu_up m 205 (h) 0 := ⟨_, rfl⟩
        have h_m4 : Gam m4 := by rw [e_m4]; exact (IV_row hi (by omega) (by omega)).1
        refine gx_is (n := h) (x := 0) r_180_58 rfl (by decide) (tk_205 hT) (by omega) ⟨rfl, by omega⟩ e_m4.symm ?_
        have i_m4 : IV m0 m4 := by rw [e_m4]; exact IV_row hi (by omega) (by omega)
        have v_m4 : m4 205 h = 0 := by rw [e_m4, nu_at]
        have u_m4 : ∀ i : Nat, i < h → m4 205 i = r i := fun i hi2 => by rw [e_m4, nu_ne (by omega)]; exact hb i hi2
        refine gx_st (L' := [(2, 192), (0, (l : Int)), (0, (h : Int)), x]) (S' := [(2, 192)]) r_180_59 rfl rfl rfl ?_
        refine gx_gf (x := 205) 2 r_180_60 rfl (tk_192 hT) ⟨by decide, rfl, by decide, by decide⟩ rfl (fun _ => by decide) (pr_192_29 i_m4.1) ?_
        refine gx_st (L' := [(2, 192), (0, (l : Int)), (0, (h : Int)), x]) (S' := [(0, (h : Int)), (2, 205)]) r_180_63 rfl rfl rfl ?_
        refine gx_ia (n := h) (x := 0) r_180_64 rfl (tk_205 hT) (by omega) ⟨rfl, by omega⟩ (v_m4) ?_
        refine gx_st (L' := [(2, 192), (0, (l : Int)), (0, (h : Int)), x]) (S' := [(0, (-1)), (0, 0)]) r_180_65 rfl rfl rfl ?_
        refine gx_ic (P := ¬ 0 = (-1)) r_180_66 (rfl) (fun h66 => ?_) (fun h66 => ?_)
        · refine gx_st (L' := [(2, 192), (0, (l : Int)), (0, (h : Int)), x]) (S' := [(2, 192)]) r_180_75 rfl rfl rfl ?_
          refine gx_st (L' := [(2, 192), (0, (l : Int)), (0, (h : Int)), x]) (S' := [(0, (h : Int)), (2, 192)]) r_180_76 rfl rfl rfl ?_
          refine gx_st (L' := [(2, 192), (0, (l : Int)), (0, (h : Int)), x]) (S' := [(2, 192), (0, (h : Int)), (2, 192)]) r_180_77 rfl rfl rfl ?_
          refine gx_gf (x := 205) 2 r_180_78 rfl (tk_192 hT) ⟨by decide, rfl, by decide, by decide⟩ rfl (fun _ => by decide) (pr_192_29 i_m4.1) ?_
          refine gx_st (L' := [(2, 192), (0, (l : Int)), (0, (h : Int)), x]) (S' := [(0, (h : Int)), (2, 205), (0, (h : Int)), (2, 192)]) r_180_81 rfl rfl rfl ?_
          refine gx_ia (n := h) (x := 0) r_180_82 rfl (tk_205 hT) (by omega) ⟨rfl, by omega⟩ (v_m4) ?_
          have hv0 : (0 : Int) ≤ 0 := by omega
          refine gx_cv (nx := 86) (S2 := []) (x_142 h136 hT i_m4.1 (h := h) (n := h + 1) (by omega) rfl i_m4.2.2.1 (a := 0) (by omega) (by omega) (i_m4.2.1.2.2 h (by omega))) r_180_83 rfl rfl rfl rfl rfl (rcv_v rfl (tk_192 hT) (by decide) rfl (by decide)) rfl (by decide) rfl (fun n83 q83 => ?_)
          have i_n83 := IV_rd i_m4 q83
          have r_n83 : ∀ i, n83 205 i = m4 205 i := Fr_cell (o := 205) q83.2.2.2 (by decide) (by decide)
          have v_n83 : n83 205 h = 0 := (r_n83 h).trans v_m4
          have u_n83 : ∀ i : Nat, i < h → n83 205 i = r i := fun i hi2 => (r_n83 i).trans (u_m4 i hi2)
          refine gx_st (L' := [(2, 192), (0, (l : Int)), (0, (h : Int)), x]) (S' := [(2, 192)]) r_180_86 rfl rfl rfl ?_
          refine gx_gf (x := 205) 2 r_180_87 rfl (tk_192 hT) ⟨by decide, rfl, by decide, by decide⟩ rfl (fun _ => by decide) (pr_192_29 i_n83.1) ?_
          refine gx_st (L' := [(2, 192), (0, (l : Int)), (0, (h : Int)), x]) (S' := [(0, (h : Int)), (2, 205)]) r_180_90 rfl rfl rfl ?_
          refine gx_ia (n := h) (x := 0) r_180_91 rfl (tk_205 hT) (by omega) ⟨rfl, by omega⟩ (v_n83) ?_
          refine gx_st (L' := [(2, 192), (0, (l : Int)), (0, (h : Int)), x]) (S' := [(0, 2), (0, 0)]) r_180_92 rfl rfl rfl ?_
          refine gx_ic (P := ¬ 0 = 2) r_180_93 (rfl) (fun h93 => ?_) (fun h93 => ?_)
          · refine gx_st (L' := [(2, 192), (0, (l : Int)), (0, (h : Int)), x]) (S' := [(0, (h : Int))]) r_180_143 rfl rfl rfl ?_
            refine gx_st (L' := [(2, 192), (0, (l : Int)), (0, (h : Int)), x]) (S' := [(0, (l : Int)), (0, (h : Int))]) r_180_144 rfl rfl rfl ?_
            refine gx_ic (P := (h : Int) = (l : Int)) r_180_145 (rfl) (fun h145 => ?_) (fun h145 => ?_)
            · exact ih _ n83 (by rw [v_n83]; omega) hx i_n83 u_n83 (by rw [v_n83]; omega) (by rw [v_n83]; omega)
            · refine gx_st (L' := [(2, 192), (0, (l : Int)), (0, (h : Int)), x]) (S' := [(2, 192)]) r_180_148 rfl rfl rfl ?_
              refine gx_gf (x := 205) 2 r_180_149 rfl (tk_192 hT) ⟨by decide, rfl, by decide, by decide⟩ rfl (fun _ => by decide) (pr_192_29 i_n83.1) ?_
              refine gx_st (L' := [(2, 192), (0, (l : Int)), (0, (h : Int)), x]) (S' := [(0, (h : Int)), (2, 205)]) r_180_152 rfl rfl rfl ?_
              refine gx_ia (n := h) (x := 0) r_180_153 rfl (tk_205 hT) (by omega) ⟨rfl, by omega⟩ (v_n83) ?_
              refine gx_st (L' := [(2, 192), (0, (l : Int)), (0, (h : Int)), x]) (S' := [(0, 2), (0, 0)]) r_180_154 rfl rfl rfl ?_
              refine gx_ic (P := 0 = 2) r_180_155 (rfl) (fun h155 => ?_) (fun h155 => ?_)
              · exact ih _ n83 (by rw [v_n83]; omega) hx i_n83 u_n83 (by rw [v_n83]; omega) (by rw [v_n83]; omega)
              · refine gx_st (L' := [(2, 192), (0, (l : Int)), (0, (h : Int)), x]) (S' := [(2, 192)]) r_180_158 rfl rfl rfl ?_
                refine gx_st (L' := [(2, 192), (0, (l : Int)), (0, (h : Int)), x]) (S' := [(0, (h : Int)), (2, 192)]) r_180_159 rfl rfl rfl ?_
                refine gx_st (L' := [(2, 192), (0, (l : Int)), (0, (h : Int)), x]) (S' := [(0, 1), (0, (h : Int)), (2, 192)]) r_180_160 rfl rfl rfl ?_
                refine gx_ar (L' := [(2, 192), (0, (l : Int)), (0, (h : Int)), x]) (S' := [(2, 192)]) (t := 0) (e := w32 ((h : Int) + 1)) (z := (h : Int) + 1) r_180_161 rfl rfl rfl (w32_eq (by omega) (by omega) (by omega)) ?_
                refine gx_st (L' := [(2, 192), (0, (l : Int)), (0, (h : Int)), x]) (S' := [(0, 1), (0, (h : Int) + 1), (2, 192)]) r_180_162 rfl rfl rfl ?_
                refine gx_ci (nx := 166) (S2 := []) (x_131 hT i_n83.1 (h := h + 1) (k := 1) (by omega) (by omega)) r_180_163 rfl rfl rfl rfl rfl (rcv_v rfl (tk_192 hT) (by decide) rfl (by decide)) rfl (by decide) rfl (fun x163 n163 q163 => ?_)
                obtain ⟨e_x163, z_x163⟩ := q163
                obtain rfl := z_x163.symm
                have b_x163 : -1 ≤ x163 ∧ x163 ≤ 4 := by rw [e_x163]; exact gb_200_on i_n83.1 (h := h + 1) (by omega)
                show GX T 10 180 166 [(2, 192), (0, (l : Int)), (0, (h : Int)), x] [(0, x163)] n83 Q
                refine gx_st (L' := [(2, 192), (0, (l : Int)), (0, (h : Int)), x]) (S' := [(0, (-1)), (0, x163)]) r_180_166 rfl rfl rfl ?_
                refine gx_ic (P := x163 = (-1)) r_180_167 (rfl) (fun h167 => ?_) (fun h167 => ?_)
                · exact ih _ n83 (by rw [v_n83]; omega) hx i_n83 u_n83 (by rw [v_n83]; omega) (by rw [v_n83]; omega)
                · refine gx_st (L' := [(2, 192), (0, (l : Int)), (0, (h : Int)), x]) (S' := [(2, 192)]) r_180_170 rfl rfl rfl ?_
                  refine gx_st (L' := [(2, 192), (0, (l : Int)), (0, (h : Int)), x]) (S' := [(0, (h : Int)), (2, 192)]) r_180_171 rfl rfl rfl ?_
                  refine gx_st (L' := [(2, 192), (0, (l : Int)), (0, (h : Int)), x]) (S' := [(0, 1), (0, (h : Int)), (2, 192)]) r_180_172 rfl rfl rfl ?_
                  refine gx_ar (L' := [(2, 192), (0, (l : Int)), (0, (h : Int)), x]) (S' := [(2, 192)]) (t := 0) (e := w32 ((h : Int) + 1)) (z := (h : Int) + 1) r_180_173 rfl rfl rfl (w32_eq (by omega) (by omega) (by omega)) ?_
                  refine gx_st (L' := [(2, 192), (0, (l : Int)), (0, (h : Int)), x]) (S' := [(0, (l : Int)), (0, (h : Int) + 1), (2, 192)]) r_180_174 rfl rfl rfl ?_
                  refine gx_ci (nx := 178) (S2 := []) (gx_hi (args := [(2, 192), (0, (h : Int) + 1), (0, (l : Int))]) h179 ⟨gq_o192, gq_any (by omega) (by omega), gq_any (by omega) (by omega), trivial⟩ i_n83.1 rfl) r_180_175 rfl rfl rfl rfl rfl (rcv_v rfl (tk_192 hT) (by decide) rfl (by decide)) rfl (by decide) rfl (fun x175 n175 q175 => ?_)
                  obtain rfl := (Fr_nil q175.2.2.2).symm
                  have b_x175 := And.intro q175.1 q175.2.1
                  show GX T 10 180 178 [(2, 192), (0, (l : Int)), (0, (h : Int)), x] [(0, x175)] n83 Q
                  refine gx_i0 (P := ¬ x175 = 0) r_180_178 (rfl) (fun h178 => ?_) (fun h178 => ?_)
                  · refine gx_li (z := (h : Int) + 1) (L' := [(2, 192), (0, (l : Int)), (0, (h : Int) + 1), x]) r_180_184 rfl (w32_eq (by omega) (by omega) (by omega)) rfl ?_
                    refine gx_st (L' := [(2, 192), (0, (l : Int)), (0, (h : Int) + 1), x]) (S' := [(2, 192)]) r_180_187 rfl rfl rfl ?_
                    refine gx_gf (x := 205) 2 r_180_188 rfl (tk_192 hT) ⟨by decide, rfl, by decide, by decide⟩ rfl (fun _ => by decide) (pr_192_29 i_n83.1) ?_
                    refine gx_st (L' := [(2, 192), (0, (l : Int)), (0, (h : Int) + 1), x]) (S' := [(0, (h : Int) + 1), (2, 205)]) r_180_191 rfl rfl rfl ?_
                    refine gx_st (L' := [(2, 192), (0, (l : Int)), (0, (h : Int) + 1), x]) (S' := [(0, (-1)), (0, (h : Int) + 1), (2, 205)]) r_180_192 rfl rfl rfl ?_
                    obtain ⟨m5, e_m5⟩ : ∃ z, z = nu_up n83 205 (h + 1) (-1) := ⟨_, rfl⟩
                    refine gx_is (n := h + 1) (x := (-1)) r_180_193 rfl (by decide) (tk_205 hT) (by omega) ⟨rfl, by omega⟩ e_m5.symm ?_
                    refine gx_st (L' := [(2, 192), (0, (l : Int)), (0, (h : Int) + 1), x]) (S' := []) r_180_194 rfl rfl rfl ?_
                    rw [show (h : Int) + 1 = ((h + 1 : Nat) : Int) from rfl]
                    refine hdeep (by omega) (fun i => n83 205 i) (fun i hi2 => ?_) (fun x2 m2 hx2 i2 b2 => ?_) _ m5 hx ?_ (fun i hi2 => by rw [e_m5, nu_ne (by omega)]) (by rw [e_m5, nu_at])
                    · by_cases e : i = h
                      · rw [e]; show 0 ≤ n83 205 h ∧ n83 205 h ≤ 16; rw [v_n83]; omega
                      · show 0 ≤ n83 205 i ∧ n83 205 i ≤ 16; rw [u_n83 i (by omega)]; exact hr i (by omega)
                    · have b3 : m2 205 h = 0 := (b2 h (by omega)).trans v_n83
                      exact ih x2 m2 (by rw [b3]; omega) hx2 i2 (fun i hi2 => (b2 i (by omega)).trans (u_n83 i hi2)) (by rw [b3]; omega) (by rw [b3]; omega)
                    · rw [e_m5]; exact IV_row i_n83 (by decide) (by decide)
                  · have h178 := Decidable.not_not.mp h178
                    refine gx_st (L' := [(2, 192), (0, (l : Int)), (0, (h : Int)), x]) (S' := []) r_180_181 rfl rfl rfl ?_
                    exact ih _ n83 (by rw [v_n83]; omega) hx i_n83 u_n83 (by rw [v_n83]; omega) (by rw [v_n83]; omega)
          · have h93 := Decidable.not_not.mp h93
            refine gx_st (L' := [(2, 192), (0, (l : Int)), (0, (h : Int)), x]) (S' := [(0, (h : Int))]) r_180_96 rfl rfl rfl ?_
            refine gx_st (L' := [(2, 192), (0, (l : Int)), (0, (h : Int)), x]) (S' := [(0, (l : Int)), (0, (h : Int))]) r_180_97 rfl rfl rfl ?_
            refine gx_ic (P := ¬ (h : Int) = (l : Int)) r_180_98 (rfl) (fun h98 => ?_) (fun h98 => ?_)
            · refine gx_st (L' := [(2, 192), (0, (l : Int)), (0, (h : Int)), x]) (S' := [(0, (h : Int))]) r_180_143 rfl rfl rfl ?_
              refine gx_st (L' := [(2, 192), (0, (l : Int)), (0, (h : Int)), x]) (S' := [(0, (l : Int)), (0, (h : Int))]) r_180_144 rfl rfl rfl ?_
              refine gx_ic (P := (h : Int) = (l : Int)) r_180_145 (rfl) (fun h145 => ?_) (fun h145 => ?_)
              · exact ih _ n83 (by rw [v_n83]; omega) hx i_n83 u_n83 (by rw [v_n83]; omega) (by rw [v_n83]; omega)
              · refine gx_st (L' := [(2, 192), (0, (l : Int)), (0, (h : Int)), x]) (S' := [(2, 192)]) r_180_148 rfl rfl rfl ?_
                refine gx_gf (x := 205) 2 r_180_149 rfl (tk_192 hT) ⟨by decide, rfl, by decide, by decide⟩ rfl (fun _ => by decide) (pr_192_29 i_n83.1) ?_
                refine gx_st (L' := [(2, 192), (0, (l : Int)), (0, (h : Int)), x]) (S' := [(0, (h : Int)), (2, 205)]) r_180_152 rfl rfl rfl ?_
                refine gx_ia (n := h) (x := 0) r_180_153 rfl (tk_205 hT) (by omega) ⟨rfl, by omega⟩ (v_n83) ?_
                refine gx_st (L' := [(2, 192), (0, (l : Int)), (0, (h : Int)), x]) (S' := [(0, 2), (0, 0)]) r_180_154 rfl rfl rfl ?_
                refine gx_ic (P := 0 = 2) r_180_155 (rfl) (fun h155 => ?_) (fun h155 => ?_)
                · exact ih _ n83 (by rw [v_n83]; omega) hx i_n83 u_n83 (by rw [v_n83]; omega) (by rw [v_n83]; omega)
                · refine gx_st (L' := [(2, 192), (0, (l : Int)), (0, (h : Int)), x]) (S' := [(2, 192)]) r_180_158 rfl rfl rfl ?_
                  refine gx_st (L' := [(2, 192), (0, (l : Int)), (0, (h : Int)), x]) (S' := [(0, (h : Int)), (2, 192)]) r_180_159 rfl rfl rfl ?_
                  refine gx_st (L' := [(2, 192), (0, (l : Int)), (0, (h : Int)), x]) (S' := [(0, 1), (0, (h : Int)), (2, 192)]) r_180_160 rfl rfl rfl ?_
                  refine gx_ar (L' := [(2, 192), (0, (l : Int)), (0, (h : Int)), x]) (S' := [(2, 192)]) (t := 0) (e := w32 ((h : Int) + 1)) (z := (h : Int) + 1) r_180_161 rfl rfl rfl (w32_eq (by omega) (by omega) (by omega)) ?_
                  refine gx_st (L' := [(2, 192), (0, (l : Int)), (0, (h : Int)), x]) (S' := [(0, 1), (0, (h : Int) + 1), (2, 192)]) r_180_162 rfl rfl rfl ?_
                  refine gx_ci (nx := 166) (S2 := []) (x_131 hT i_n83.1 (h := h + 1) (k := 1) (by omega) (by omega)) r_180_163 rfl rfl rfl rfl rfl (rcv_v rfl (tk_192 hT) (by decide) rfl (by decide)) rfl (by decide) rfl (fun x163 n163 q163 => ?_)
                  obtain ⟨e_x163, z_x163⟩ := q163
                  obtain rfl := z_x163.symm
                  have b_x163 : -1 ≤ x163 ∧ x163 ≤ 4 := by rw [e_x163]; exact gb_200_on i_n83.1 (h := h + 1) (by omega)
                  show GX T 10 180 166 [(2, 192), (0, (l : Int)), (0, (h : Int)), x] [(0, x163)] n83 Q
                  refine gx_st (L' := [(2, 192), (0, (l : Int)), (0, (h : Int)), x]) (S' := [(0, (-1)), (0, x163)]) r_180_166 rfl rfl rfl ?_
                  refine gx_ic (P := x163 = (-1)) r_180_167 (rfl) (fun h167 => ?_) (fun h167 => ?_)
                  · exact ih _ n83 (by rw [v_n83]; omega) hx i_n83 u_n83 (by rw [v_n83]; omega) (by rw [v_n83]; omega)
                  · refine gx_st (L' := [(2, 192), (0, (l : Int)), (0, (h : Int)), x]) (S' := [(2, 192)]) r_180_170 rfl rfl rfl ?_
                    refine gx_st (L' := [(2, 192), (0, (l : Int)), (0, (h : Int)), x]) (S' := [(0, (h : Int)), (2, 192)]) r_180_171 rfl rfl rfl ?_
                    refine gx_st (L' := [(2, 192), (0, (l : Int)), (0, (h : Int)), x]) (S' := [(0, 1), (0, (h : Int)), (2, 192)]) r_180_172 rfl rfl rfl ?_
                    refine gx_ar (L' := [(2, 192), (0, (l : Int)), (0, (h : Int)), x]) (S' := [(2, 192)]) (t := 0) (e := w32 ((h : Int) + 1)) (z := (h : Int) + 1) r_180_173 rfl rfl rfl (w32_eq (by omega) (by omega) (by omega)) ?_
                    refine gx_st (L' := [(2, 192), (0, (l : Int)), (0, (h : Int)), x]) (S' := [(0, (l : Int)), (0, (h : Int) + 1), (2, 192)]) r_180_174 rfl rfl rfl ?_
                    refine gx_ci (nx := 178) (S2 := []) (gx_hi (args := [(2, 192), (0, (h : Int) + 1), (0, (l : Int))]) h179 ⟨gq_o192, gq_any (by omega) (by omega), gq_any (by omega) (by omega), trivial⟩ i_n83.1 rfl) r_180_175 rfl rfl rfl rfl rfl (rcv_v rfl (tk_192 hT) (by decide) rfl (by decide)) rfl (by decide) rfl (fun x175 n175 q175 => ?_)
                    obtain rfl := (Fr_nil q175.2.2.2).symm
                    have b_x175 := And.intro q175.1 q175.2.1
                    show GX T 10 180 178 [(2, 192), (0, (l : Int)), (0, (h : Int)), x] [(0, x175)] n83 Q
                    refine gx_i0 (P := ¬ x175 = 0) r_180_178 (rfl) (fun h178 => ?_) (fun h178 => ?_)
                    · refine gx_li (z := (h : Int) + 1) (L' := [(2, 192), (0, (l : Int)), (0, (h : Int) + 1), x]) r_180_184 rfl (w32_eq (by omega) (by omega) (by omega)) rfl ?_
                      refine gx_st (L' := [(2, 192), (0, (l : Int)), (0, (h : Int) + 1), x]) (S' := [(2, 192)]) r_180_187 rfl rfl rfl ?_
                      refine gx_gf (x := 205) 2 r_180_188 rfl (tk_192 hT) ⟨by decide, rfl, by decide, by decide⟩ rfl (fun _ => by decide) (pr_192_29 i_n83.1) ?_
                      refine gx_st (L' := [(2, 192), (0, (l : Int)), (0, (h : Int) + 1), x]) (S' := [(0, (h : Int) + 1), (2, 205)]) r_180_191 rfl rfl rfl ?_
                      refine gx_st (L' := [(2, 192), (0, (l : Int)), (0, (h : Int) + 1), x]) (S' := [(0, (-1)), (0, (h : Int) + 1), (2, 205)]) r_180_192 rfl rfl rfl ?_
                      obtain ⟨m6, e_m6⟩ : ∃ z, z = nu_up n83 205 (h + 1) (-1) := ⟨_, rfl⟩
                      refine gx_is (n := h + 1) (x := (-1)) r_180_193 rfl (by decide) (tk_205 hT) (by omega) ⟨rfl, by omega⟩ e_m6.symm ?_
                      refine gx_st (L' := [(2, 192), (0, (l : Int)), (0, (h : Int) + 1), x]) (S' := []) r_180_194 rfl rfl rfl ?_
                      rw [show (h : Int) + 1 = ((h + 1 : Nat) : Int) from rfl]
                      refine hdeep (by omega) (fun i => n83 205 i) (fun i hi2 => ?_) (fun x2 m2 hx2 i2 b2 => ?_) _ m6 hx ?_ (fun i hi2 => by rw [e_m6, nu_ne (by omega)]) (by rw [e_m6, nu_at])
                      · by_cases e : i = h
                        · rw [e]; show 0 ≤ n83 205 h ∧ n83 205 h ≤ 16; rw [v_n83]; omega
                        · show 0 ≤ n83 205 i ∧ n83 205 i ≤ 16; rw [u_n83 i (by omega)]; exact hr i (by omega)
                      · have b3 : m2 205 h = 0 := (b2 h (by omega)).trans v_n83
                        exact ih x2 m2 (by rw [b3]; omega) hx2 i2 (fun i hi2 => (b2 i (by omega)).trans (u_n83 i hi2)) (by rw [b3]; omega) (by rw [b3]; omega)
                      · rw [e_m6]; exact IV_row i_n83 (by decide) (by decide)
                    · have h178 := Decidable.not_not.mp h178
                      refine gx_st (L' := [(2, 192), (0, (l : Int)), (0, (h : Int)), x]) (S' := []) r_180_181 rfl rfl rfl ?_
                      exact ih _ n83 (by rw [v_n83]; omega) hx i_n83 u_n83 (by rw [v_n83]; omega) (by rw [v_n83]; omega)
            · have h98 := Decidable.not_not.mp h98
              refine gx_st (L' := [(2, 192), (0, (l : Int)), (0, (h : Int)), x]) (S' := [(0, 0)]) r_180_101 rfl rfl rfl ?_
              refine gx_st (L' := [(2, 192), (0, (l : Int)), (0, (h : Int)), (0, 0)]) (S' := []) r_180_102 rfl rfl rfl ?_
              refine keep_l hT (h := h) (by omega) (fun k p1 i_p1 r_p1 => ?_) (h + 2) 0 n83 (by omega) (by omega) i_n83 (fun i => rfl)
              have v_p1 : p1 205 h = 0 := (r_p1 h).trans v_n83
              have u_p1 : ∀ i : Nat, i < h → p1 205 i = r i := fun i hi2 => (r_p1 i).trans (u_n83 i hi2)
              refine gx_st (L' := [(2, 192), (0, (l : Int)), (0, (h : Int)), (0, (k : Int))]) (S' := [(2, 192)]) r_180_133 rfl rfl rfl ?_
              refine gx_st (L' := [(2, 192), (0, (l : Int)), (0, (h : Int)), (0, (k : Int))]) (S' := [(2, 192), (2, 192)]) r_180_134 rfl rfl rfl ?_
              obtain ⟨x135, e_x135⟩ : ∃ z, z = p1 192 31 := ⟨_, rfl⟩
              have b_x135 := gb_192_31 i_p1.1
              rw [← e_x135] at b_x135
              refine gx_gf (x := x135) 0 r_180_135 rfl (tk_192 hT) ⟨by decide, rfl, by decide, by decide⟩ rfl (fun z => absurd z (by decide)) (e_x135.symm) ?_
              refine gx_st (L' := [(2, 192), (0, (l : Int)), (0, (h : Int)), (0, (k : Int))]) (S' := [(0, 1), (0, x135), (2, 192)]) r_180_138 rfl rfl rfl ?_
              refine gx_st (L' := [(2, 192), (0, (l : Int)), (0, (h : Int)), (0, (k : Int))]) (S' := [(0, (w32 (x135 + 1))), (2, 192)]) r_180_139 rfl rfl rfl ?_
              have k139 := w32_in (x135 + 1)
              unfold in32 at k139
              obtain ⟨m7, e_m7⟩ : ∃ z, z = nu_up p1 192 31 ((w32 (x135 + 1))) := ⟨_, rfl⟩
              refine gx_pf (x := (w32 (x135 + 1))) 0 r_180_140 rfl (tk_192 hT) ⟨by decide, rfl, by decide, by decide⟩ rfl (fun z => absurd z (by decide)) (fun z => absurd z (by decide)) e_m7.symm ?_
              have i_m7 : IV m0 m7 := by rw [e_m7]; exact IV_many i_p1 (by omega) (by omega)
              have v_m7 : m7 205 h = 0 := by rw [e_m7, nu_no (by decide)]; exact v_p1
              have u_m7 : ∀ i : Nat, i < h → m7 205 i = r i := fun i hi2 => by rw [e_m7, nu_no (by decide)]; exact u_p1 i hi2
              refine gx_st (L' := [(2, 192), (0, (l : Int)), (0, (h : Int)), (0, (k : Int))]) (S' := [(0, (h : Int))]) r_180_143 rfl rfl rfl ?_
              refine gx_st (L' := [(2, 192), (0, (l : Int)), (0, (h : Int)), (0, (k : Int))]) (S' := [(0, (l : Int)), (0, (h : Int))]) r_180_144 rfl rfl rfl ?_
              refine gx_ic (P := (h : Int) = (l : Int)) r_180_145 (rfl) (fun h145 => ?_) (fun h145 => ?_)
              · exact ih _ m7 (by rw [v_m7]; omega) Nat.zero_ne_one i_m7 u_m7 (by rw [v_m7]; omega) (by rw [v_m7]; omega)
              · refine gx_st (L' := [(2, 192), (0, (l : Int)), (0, (h : Int)), (0, (k : Int))]) (S' := [(2, 192)]) r_180_148 rfl rfl rfl ?_
                refine gx_gf (x := 205) 2 r_180_149 rfl (tk_192 hT) ⟨by decide, rfl, by decide, by decide⟩ rfl (fun _ => by decide) (pr_192_29 i_m7.1) ?_
                refine gx_st (L' := [(2, 192), (0, (l : Int)), (0, (h : Int)), (0, (k : Int))]) (S' := [(0, (h : Int)), (2, 205)]) r_180_152 rfl rfl rfl ?_
                refine gx_ia (n := h) (x := 0) r_180_153 rfl (tk_205 hT) (by omega) ⟨rfl, by omega⟩ (v_m7) ?_
                refine gx_st (L' := [(2, 192), (0, (l : Int)), (0, (h : Int)), (0, (k : Int))]) (S' := [(0, 2), (0, 0)]) r_180_154 rfl rfl rfl ?_
                refine gx_ic (P := 0 = 2) r_180_155 (rfl) (fun h155 => ?_) (fun h155 => ?_)
                · exact ih _ m7 (by rw [v_m7]; omega) Nat.zero_ne_one i_m7 u_m7 (by rw [v_m7]; omega) (by rw [v_m7]; omega)
                · refine gx_st (L' := [(2, 192), (0, (l : Int)), (0, (h : Int)), (0, (k : Int))]) (S' := [(2, 192)]) r_180_158 rfl rfl rfl ?_
                  refine gx_st (L' := [(2, 192), (0, (l : Int)), (0, (h : Int)), (0, (k : Int))]) (S' := [(0, (h : Int)), (2, 192)]) r_180_159 rfl rfl rfl ?_
                  refine gx_st (L' := [(2, 192), (0, (l : Int)), (0, (h : Int)), (0, (k : Int))]) (S' := [(0, 1), (0, (h : Int)), (2, 192)]) r_180_160 rfl rfl rfl ?_
                  refine gx_ar (L' := [(2, 192), (0, (l : Int)), (0, (h : Int)), (0, (k : Int))]) (S' := [(2, 192)]) (t := 0) (e := w32 ((h : Int) + 1)) (z := (h : Int) + 1) r_180_161 rfl rfl rfl (w32_eq (by omega) (by omega) (by omega)) ?_
                  refine gx_st (L' := [(2, 192), (0, (l : Int)), (0, (h : Int)), (0, (k : Int))]) (S' := [(0, 1), (0, (h : Int) + 1), (2, 192)]) r_180_162 rfl rfl rfl ?_
                  refine gx_ci (nx := 166) (S2 := []) (x_131 hT i_m7.1 (h := h + 1) (k := 1) (by omega) (by omega)) r_180_163 rfl rfl rfl rfl rfl (rcv_v rfl (tk_192 hT) (by decide) rfl (by decide)) rfl (by decide) rfl (fun x163 n163 q163 => ?_)
                  obtain ⟨e_x163, z_x163⟩ := q163
                  obtain rfl := z_x163.symm
                  have b_x163 : -1 ≤ x163 ∧ x163 ≤ 4 := by rw [e_x163]; exact gb_200_on i_m7.1 (h := h + 1) (by omega)
                  show GX T 10 180 166 [(2, 192), (0, (l : Int)), (0, (h : Int)), (0, (k : Int))] [(0, x163)] m7 Q
                  refine gx_st (L' := [(2, 192), (0, (l : Int)), (0, (h : Int)), (0, (k : Int))]) (S' := [(0, (-1)), (0, x163)]) r_180_166 rfl rfl rfl ?_
                  refine gx_ic (P := x163 = (-1)) r_180_167 (rfl) (fun h167 => ?_) (fun h167 => ?_)
                  · exact ih _ m7 (by rw [v_m7]; omega) Nat.zero_ne_one i_m7 u_m7 (by rw [v_m7]; omega) (by rw [v_m7]; omega)
                  · refine gx_st (L' := [(2, 192), (0, (l : Int)), (0, (h : Int)), (0, (k : Int))]) (S' := [(2, 192)]) r_180_170 rfl rfl rfl ?_
                    refine gx_st (L' := [(2, 192), (0, (l : Int)), (0, (h : Int)), (0, (k : Int))]) (S' := [(0, (h : Int)), (2, 192)]) r_180_171 rfl rfl rfl ?_
                    refine gx_st (L' := [(2, 192), (0, (l : Int)), (0, (h : Int)), (0, (k : Int))]) (S' := [(0, 1), (0, (h : Int)), (2, 192)]) r_180_172 rfl rfl rfl ?_
                    refine gx_ar (L' := [(2, 192), (0, (l : Int)), (0, (h : Int)), (0, (k : Int))]) (S' := [(2, 192)]) (t := 0) (e := w32 ((h : Int) + 1)) (z := (h : Int) + 1) r_180_173 rfl rfl rfl (w32_eq (by omega) (by omega) (by omega)) ?_
                    refine gx_st (L' := [(2, 192), (0, (l : Int)), (0, (h : Int)), (0, (k : Int))]) (S' := [(0, (l : Int)), (0, (h : Int) + 1), (2, 192)]) r_180_174 rfl rfl rfl ?_
                    refine gx_ci (nx := 178) (S2 := []) (gx_hi (args := [(2, 192), (0, (h : Int) + 1), (0, (l : Int))]) h179 ⟨gq_o192, gq_any (by omega) (by omega), gq_any (by omega) (by omega), trivial⟩ i_m7.1 rfl) r_180_175 rfl rfl rfl rfl rfl (rcv_v rfl (tk_192 hT) (by decide) rfl (by decide)) rfl (by decide) rfl (fun x175 n175 q175 => ?_)
                    obtain rfl := (Fr_nil q175.2.2.2).symm
                    have b_x175 := And.intro q175.1 q175.2.1
                    show GX T 10 180 178 [(2, 192), (0, (l : Int)), (0, (h : Int)), (0, (k : Int))] [(0, x175)] m7 Q
                    refine gx_i0 (P := ¬ x175 = 0) r_180_178 (rfl) (fun h178 => ?_) (fun h178 => ?_)
                    · refine gx_li (z := (h : Int) + 1) (L' := [(2, 192), (0, (l : Int)), (0, (h : Int) + 1), (0, (k : Int))]) r_180_184 rfl (w32_eq (by omega) (by omega) (by omega)) rfl ?_
                      refine gx_st (L' := [(2, 192), (0, (l : Int)), (0, (h : Int) + 1), (0, (k : Int))]) (S' := [(2, 192)]) r_180_187 rfl rfl rfl ?_
                      refine gx_gf (x := 205) 2 r_180_188 rfl (tk_192 hT) ⟨by decide, rfl, by decide, by decide⟩ rfl (fun _ => by decide) (pr_192_29 i_m7.1) ?_
                      refine gx_st (L' := [(2, 192), (0, (l : Int)), (0, (h : Int) + 1), (0, (k : Int))]) (S' := [(0, (h : Int) + 1), (2, 205)]) r_180_191 rfl rfl rfl ?_
                      refine gx_st (L' := [(2, 192), (0, (l : Int)), (0, (h : Int) + 1), (0, (k : Int))]) (S' := [(0, (-1)), (0, (h : Int) + 1), (2, 205)]) r_180_192 rfl rfl rfl ?_
                      obtain ⟨m8, e_m8⟩ : ∃ z, z = nu_up m7 205 (h + 1) (-1) := ⟨_, rfl⟩
                      refine gx_is (n := h + 1) (x := (-1)) r_180_193 rfl (by decide) (tk_205 hT) (by omega) ⟨rfl, by omega⟩ e_m8.symm ?_
                      refine gx_st (L' := [(2, 192), (0, (l : Int)), (0, (h : Int) + 1), (0, (k : Int))]) (S' := []) r_180_194 rfl rfl rfl ?_
                      rw [show (h : Int) + 1 = ((h + 1 : Nat) : Int) from rfl]
                      refine hdeep (by omega) (fun i => m7 205 i) (fun i hi2 => ?_) (fun x2 m2 hx2 i2 b2 => ?_) _ m8 Nat.zero_ne_one ?_ (fun i hi2 => by rw [e_m8, nu_ne (by omega)]) (by rw [e_m8, nu_at])
                      · by_cases e : i = h
                        · rw [e]; show 0 ≤ m7 205 h ∧ m7 205 h ≤ 16; rw [v_m7]; omega
                        · show 0 ≤ m7 205 i ∧ m7 205 i ≤ 16; rw [u_m7 i (by omega)]; exact hr i (by omega)
                      · have b3 : m2 205 h = 0 := (b2 h (by omega)).trans v_m7
                        exact ih x2 m2 (by rw [b3]; omega) hx2 i2 (fun i hi2 => (b2 i (by omega)).trans (u_m7 i hi2)) (by rw [b3]; omega) (by rw [b3]; omega)
                      · rw [e_m8]; exact IV_row i_m7 (by decide) (by decide)
                    · have h178 := Decidable.not_not.mp h178
                      refine gx_st (L' := [(2, 192), (0, (l : Int)), (0, (h : Int)), (0, (k : Int))]) (S' := []) r_180_181 rfl rfl rfl ?_
                      exact ih _ m7 (by rw [v_m7]; omega) Nat.zero_ne_one i_m7 u_m7 (by rw [v_m7]; omega) (by rw [v_m7]; omega)
        · have h66 := Decidable.not_not.mp h66
          refine gx_li (z := (h : Int) - 1) (L' := [(2, 192), (0, (l : Int)), (0, (h : Int) - 1), x]) r_180_69 rfl (w32_eq (by omega) (by omega) (by omega)) rfl ?_
          refine gx_st (L' := [(2, 192), (0, (l : Int)), (0, (h : Int) - 1), x]) (S' := []) r_180_72 rfl rfl rfl ?_
          exact hout _ m4 hx i_m4 u_m4
theorem rows_lv {T : List Kd} {m0 : Mm} {Q : AV → Mm → Prop} (hT : TT T) (h136 : ConH T cn_136) (h179 : ConH T cn_179) {l : Nat} (hl : l < 12) : ∀ (c h : Nat), h + c = l → ∀ r : Nat → Int, (∀ i : Nat, i < h → 0 ≤ r i ∧ r i ≤ 16) → (∀ (x : AV) (m : Mm), ¬ x.1 = 1 → IV m0 m → (∀ i : Nat, i < h → m 205 i = r i) → GX T 10 180 24 [(2, 192), (0, (l : Int)), (0, (h : Int) - 1), x] [] m Q) → ∀ (x : AV) (m : Mm), ¬ x.1 = 1 → IV m0 m → (∀ i : Nat, i < h → m 205 i = r i) → -1 ≤ m 205 h → m 205 h ≤ 16 → GX T 10 180 24 [(2, 192), (0, (l : Int)), (0, (h : Int)), x] [] m Q := by
  intro c
  induction c with
  | zero =>
    intro h hc r hr hout x m hx hi hb h1 h2
    exact rows_st hT h136 h179 hl (by omega) (fun z => absurd z (by omega)) r hr hout _ x m (Nat.lt_succ_self _) hx hi hb h1 h2
  | succ c ihc =>
    intro h hc r hr hout x m hx hi hb h1 h2
    refine rows_st hT h136 h179 hl (by omega) (fun _ r2 hr2 hout2 x2 m2 hx2 hi2 hb2 e2 => ?_) r hr hout _ x m (Nat.lt_succ_self _) hx hi hb h1 h2
    refine ihc (h + 1) (by omega) r2 hr2 (fun x3 m3 hx3 hi3 hb3 => ?_) x2 m2 hx2 hi2 hb2 (by rw [e2]; decide) (by rw [e2]; decide)
    rw [show ((h + 1 : Nat) : Int) - 1 = (h : Int) by omega]
    exact hout2 x3 m3 hx3 hi3 hb3
theorem x_180 {T : List Kd} {m : Mm} (hT : TT T) (h136 : ConH T cn_136) (h179 : ConH T cn_179) (hm : Gam m) (hx : Ext m) (hs : FS m) {l : Nat} (hl : l < 12) : GX T 10 180 0 [(2, 192), (0, (l : Int)), (9, 0), (9, 0)] [] m (RI (fun v m1 => -2147483648 ≤ v ∧ v ≤ 2147483647 ∧ Gam m1 ∧ Ext m1 ∧ Fr [90021, 90022, 90031, 98999, 99999, 100999, 102999, 103999, 104999] m m1 ∧ FS m1)) := by
  refine gx_st (L' := [(2, 192), (0, (l : Int)), (9, 0), (9, 0)]) (S' := [(2, 192)]) r_180_0 rfl rfl rfl ?_
  refine gx_st (L' := [(2, 192), (0, (l : Int)), (9, 0), (9, 0)]) (S' := [(0, 0), (2, 192)]) r_180_1 rfl rfl rfl ?_
  obtain ⟨m1, e_m1⟩ : ∃ z, z = nu_up m 192 31 0 := ⟨_, rfl⟩
  refine gx_pf (x := 0) 0 r_180_2 rfl (tk_192 hT) ⟨by decide, rfl, by decide, by decide⟩ rfl (fun z => absurd z (by decide)) (fun z => absurd z (by decide)) e_m1.symm ?_
  have i_m1 : IV m m1 := by rw [e_m1]; exact IV_many ⟨hm, hx, hs, Fr_rf⟩ (by decide) (by decide)
  refine gx_st (L' := [(2, 192), (0, (l : Int)), (9, 0), (9, 0)]) (S' := [(2, 192)]) r_180_5 rfl rfl rfl ?_
  refine gx_st (L' := [(2, 192), (0, (l : Int)), (9, 0), (9, 0)]) (S' := [(2, 192), (2, 192)]) r_180_6 rfl rfl rfl ?_
  refine gx_st (L' := [(2, 192), (0, (l : Int)), (9, 0), (9, 0)]) (S' := [(0, 0), (2, 192), (2, 192)]) r_180_7 rfl rfl rfl ?_
  refine gx_ci (nx := 11) (S2 := [(2, 192)]) (x_99 hT i_m1.1 (k := 0) (by omega)) r_180_8 rfl rfl rfl rfl rfl (rcv_v rfl (tk_192 hT) (by decide) rfl (by decide)) rfl (by decide) rfl (fun x8 n8 q8 => ?_)
  obtain ⟨e_x8, z_x8⟩ := q8
  obtain rfl := z_x8.symm
  have b_x8 := gb_193_bp i_m1.1 (k := 0) (by omega)
  rw [← e_x8] at b_x8
  show GX T 10 180 11 [(2, 192), (0, (l : Int)), (9, 0), (9, 0)] [(0, x8), (2, 192)] m1 (RI (fun v m1 => -2147483648 ≤ v ∧ v ≤ 2147483647 ∧ Gam m1 ∧ Ext m1 ∧ Fr [90021, 90022, 90031, 98999, 99999, 100999, 102999, 103999, 104999] m m1 ∧ FS m1))
  refine gx_st (L' := [(2, 192), (0, (l : Int)), (9, 0), (9, 0)]) (S' := [(0, 0), (0, x8), (2, 192)]) r_180_11 rfl rfl rfl ?_
  refine gx_cv (nx := 15) (S2 := []) (x_134 hT i_m1.1 (x := x8) (y := 0) (by omega) (by omega) (by omega) (by omega) (by omega)) r_180_12 rfl rfl rfl rfl rfl (rcv_v rfl (tk_192 hT) (by decide) rfl (by decide)) rfl (by decide) rfl (fun n12 q12 => ?_)
  have i_n12 := IV_rd i_m1 q12.1
  refine gx_st (L' := [(2, 192), (0, (l : Int)), (9, 0), (9, 0)]) (S' := [(0, 0)]) r_180_15 rfl rfl rfl ?_
  refine gx_st (L' := [(2, 192), (0, (l : Int)), (0, 0), (9, 0)]) (S' := []) r_180_16 rfl rfl rfl ?_
  refine gx_st (L' := [(2, 192), (0, (l : Int)), (0, 0), (9, 0)]) (S' := [(2, 192)]) r_180_17 rfl rfl rfl ?_
  refine gx_gf (x := 205) 2 r_180_18 rfl (tk_192 hT) ⟨by decide, rfl, by decide, by decide⟩ rfl (fun _ => by decide) (pr_192_29 i_n12.1) ?_
  refine gx_st (L' := [(2, 192), (0, (l : Int)), (0, 0), (9, 0)]) (S' := [(0, 0), (2, 205)]) r_180_21 rfl rfl rfl ?_
  refine gx_st (L' := [(2, 192), (0, (l : Int)), (0, 0), (9, 0)]) (S' := [(0, (-1)), (0, 0), (2, 205)]) r_180_22 rfl rfl rfl ?_
  obtain ⟨m2, e_m2⟩ : ∃ z, z = nu_up n12 205 (0) (-1) := ⟨_, rfl⟩
  refine gx_is (n := 0) (x := (-1)) r_180_23 rfl (by decide) (tk_205 hT) (rfl) ⟨rfl, by decide⟩ e_m2.symm ?_
  have i_m2 : IV m m2 := by rw [e_m2]; exact IV_row i_n12 (by decide) (by decide)
  have e0 : m2 205 0 = -1 := by rw [e_m2, nu_at]
  refine rows_lv hT h136 h179 hl l 0 (by omega) (fun _ => 0) (fun i hi => absurd hi (Nat.not_lt_zero _)) (fun x p1 hx1 i_p1 _ => ?_) (9, 0) m2 (by decide) i_m2 (fun i hi => absurd hi (Nat.not_lt_zero _)) (by rw [e0]; decide) (by rw [e0]; decide)
  show GX T 10 180 24 [(2, 192), (0, (l : Int)), (0, -1), x] [] p1 (RI (fun v m1 => -2147483648 ≤ v ∧ v ≤ 2147483647 ∧ Gam m1 ∧ Ext m1 ∧ Fr [90021, 90022, 90031, 98999, 99999, 100999, 102999, 103999, 104999] m m1 ∧ FS m1))
  refine gx_st (L' := [(2, 192), (0, (l : Int)), (0, (-1)), x]) (S' := [(0, (-1))]) r_180_24 rfl rfl rfl ?_
  refine gx_i0 (P := (-1) < 0) r_180_25 (rfl) (fun h25 => ?_) (fun h25 => ?_)
  · refine gx_st (L' := [(2, 192), (0, (l : Int)), (0, (-1)), x]) (S' := [(2, 192)]) r_180_197 rfl rfl rfl ?_
    obtain ⟨x198, e_x198⟩ : ∃ z, z = p1 192 31 := ⟨_, rfl⟩
    have b_x198 := gb_192_31 i_p1.1
    rw [← e_x198] at b_x198
    refine gx_gf (x := x198) 0 r_180_198 rfl (tk_192 hT) ⟨by decide, rfl, by decide, by decide⟩ rfl (fun z => absurd z (by decide)) (e_x198.symm) ?_
    exact gx_rt r_180_201 rfl rfl ⟨_, rfl, by omega, by omega, i_p1.1, i_p1.2.1, i_p1.2.2.2, i_p1.2.2.1⟩
  · omega
