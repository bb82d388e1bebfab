/-! layWays -/
theorem r_124_0 : row 124 0 = some (.iconst 0, 1, 0, 0, 0, 0) := rfl
theorem r_124_1 : row 124 1 = some (.istore_n 1, 2, 0, 0, 0, 0) := rfl
theorem r_124_2 : row 124 2 = some (.iload_n 1, 3, 0, 0, 0, 0) := rfl
theorem r_124_3 : row 124 3 = some (.bipush 49, 5, 49, 0, 0, 0) := rfl
theorem r_124_5 : row 124 5 = some (.if_icmp .ge 32, 8, 37, 0, 0, 0) := rfl
theorem r_124_8 : row 124 8 = some (.aload_n 0, 9, 0, 0, 0, 0) := rfl
theorem r_124_9 : row 124 9 = some (.getfield 34, 12, 10, 15, 2, 6016) := rfl
theorem r_124_12 : row 124 12 = some (.iload_n 1, 13, 0, 0, 0, 0) := rfl
theorem r_124_13 : row 124 13 = some (.iload_n 1, 14, 0, 0, 0, 0) := rfl
theorem r_124_14 : row 124 14 = some (.bipush 7, 16, 7, 0, 0, 0) := rfl
theorem r_124_16 : row 124 16 = some (.idiv, 17, 0, 0, 0, 0) := rfl
theorem r_124_17 : row 124 17 = some (.iload_n 1, 18, 0, 0, 0, 0) := rfl
theorem r_124_18 : row 124 18 = some (.bipush 7, 20, 7, 0, 0, 0) := rfl
theorem r_124_20 : row 124 20 = some (.irem, 21, 0, 0, 0, 0) := rfl
theorem r_124_21 : row 124 21 = some (.if_icmp .ne 7, 24, 28, 0, 0, 0) := rfl
theorem r_124_24 : row 124 24 = some (.iconst 0, 25, 0, 0, 0, 0) := rfl
theorem r_124_25 : row 124 25 = some (.goto 5, 28, 30, 0, 0, 0) := rfl
theorem r_124_28 : row 124 28 = some (.ldc 227, 30, 1000000000, 0, 0, 7041) := rfl
theorem r_124_30 : row 124 30 = some (.iastore, 31, 0, 0, 0, 0) := rfl
theorem r_124_31 : row 124 31 = some (.iinc 1 1, 34, 0, 0, 0, 0) := rfl
theorem r_124_34 : row 124 34 = some (.goto (-32), 37, 2, 0, 0, 0) := rfl
theorem r_124_37 : row 124 37 = some (.iconst 0, 38, 0, 0, 0, 0) := rfl
theorem r_124_38 : row 124 38 = some (.istore_n 1, 39, 0, 0, 0, 0) := rfl
theorem r_124_39 : row 124 39 = some (.iload_n 1, 40, 0, 0, 0, 0) := rfl
theorem r_124_40 : row 124 40 = some (.aload_n 0, 41, 0, 0, 0, 0) := rfl
theorem r_124_41 : row 124 41 = some (.getfield 9, 44, 10, 1, 2, 6002) := rfl
theorem r_124_44 : row 124 44 = some (.iconst 4, 45, 4, 0, 0, 0) := rfl
theorem r_124_45 : row 124 45 = some (.iaload, 46, 0, 0, 0, 0) := rfl
theorem r_124_46 : row 124 46 = some (.if_icmp .ge 59, 49, 105, 0, 0, 0) := rfl
theorem r_124_49 : row 124 49 = some (.aload_n 0, 50, 0, 0, 0, 0) := rfl
theorem r_124_50 : row 124 50 = some (.getfield 9, 53, 10, 1, 2, 6002) := rfl
theorem r_124_53 : row 124 53 = some (.bipush 11, 55, 11, 0, 0, 0) := rfl
theorem r_124_55 : row 124 55 = some (.iconst 2, 56, 2, 0, 0, 0) := rfl
theorem r_124_56 : row 124 56 = some (.iload_n 1, 57, 0, 0, 0, 0) := rfl
theorem r_124_57 : row 124 57 = some (.imul, 58, 0, 0, 0, 0) := rfl
theorem r_124_58 : row 124 58 = some (.iadd, 59, 0, 0, 0, 0) := rfl
theorem r_124_59 : row 124 59 = some (.iaload, 60, 0, 0, 0, 0) := rfl
theorem r_124_60 : row 124 60 = some (.istore_n 2, 61, 0, 0, 0, 0) := rfl
theorem r_124_61 : row 124 61 = some (.aload_n 0, 62, 0, 0, 0, 0) := rfl
theorem r_124_62 : row 124 62 = some (.getfield 9, 65, 10, 1, 2, 6002) := rfl
theorem r_124_65 : row 124 65 = some (.bipush 11, 67, 11, 0, 0, 0) := rfl
theorem r_124_67 : row 124 67 = some (.iconst 2, 68, 2, 0, 0, 0) := rfl
theorem r_124_68 : row 124 68 = some (.iload_n 1, 69, 0, 0, 0, 0) := rfl
theorem r_124_69 : row 124 69 = some (.imul, 70, 0, 0, 0, 0) := rfl
theorem r_124_70 : row 124 70 = some (.iadd, 71, 0, 0, 0, 0) := rfl
theorem r_124_71 : row 124 71 = some (.iconst 1, 72, 1, 0, 0, 0) := rfl
theorem r_124_72 : row 124 72 = some (.iadd, 73, 0, 0, 0, 0) := rfl
theorem r_124_73 : row 124 73 = some (.iaload, 74, 0, 0, 0, 0) := rfl
theorem r_124_74 : row 124 74 = some (.istore_n 3, 75, 0, 0, 0, 0) := rfl
theorem r_124_75 : row 124 75 = some (.aload_n 0, 76, 0, 0, 0, 0) := rfl
theorem r_124_76 : row 124 76 = some (.getfield 34, 79, 10, 15, 2, 6016) := rfl
theorem r_124_79 : row 124 79 = some (.bipush 7, 81, 7, 0, 0, 0) := rfl
theorem r_124_81 : row 124 81 = some (.iload_n 2, 82, 0, 0, 0, 0) := rfl
theorem r_124_82 : row 124 82 = some (.imul, 83, 0, 0, 0, 0) := rfl
theorem r_124_83 : row 124 83 = some (.iload_n 3, 84, 0, 0, 0, 0) := rfl
theorem r_124_84 : row 124 84 = some (.iadd, 85, 0, 0, 0, 0) := rfl
theorem r_124_85 : row 124 85 = some (.iconst 1, 86, 1, 0, 0, 0) := rfl
theorem r_124_86 : row 124 86 = some (.iastore, 87, 0, 0, 0, 0) := rfl
theorem r_124_87 : row 124 87 = some (.aload_n 0, 88, 0, 0, 0, 0) := rfl
theorem r_124_88 : row 124 88 = some (.getfield 34, 91, 10, 15, 2, 6016) := rfl
theorem r_124_91 : row 124 91 = some (.bipush 7, 93, 7, 0, 0, 0) := rfl
theorem r_124_93 : row 124 93 = some (.iload_n 3, 94, 0, 0, 0, 0) := rfl
theorem r_124_94 : row 124 94 = some (.imul, 95, 0, 0, 0, 0) := rfl
theorem r_124_95 : row 124 95 = some (.iload_n 2, 96, 0, 0, 0, 0) := rfl
theorem r_124_96 : row 124 96 = some (.iadd, 97, 0, 0, 0, 0) := rfl
theorem r_124_97 : row 124 97 = some (.iconst 1, 98, 1, 0, 0, 0) := rfl
theorem r_124_98 : row 124 98 = some (.iastore, 99, 0, 0, 0, 0) := rfl
theorem r_124_99 : row 124 99 = some (.iinc 1 1, 102, 0, 0, 0, 0) := rfl
theorem r_124_102 : row 124 102 = some (.goto (-63), 105, 39, 0, 0, 0) := rfl
theorem r_124_105 : row 124 105 = some (.aload_n 0, 106, 0, 0, 0, 0) := rfl
theorem r_124_106 : row 124 106 = some (.getfield 9, 109, 10, 1, 2, 6002) := rfl
theorem r_124_109 : row 124 109 = some (.iconst 0, 110, 0, 0, 0, 0) := rfl
theorem r_124_110 : row 124 110 = some (.iaload, 111, 0, 0, 0, 0) := rfl
theorem r_124_111 : row 124 111 = some (.istore_n 1, 112, 0, 0, 0, 0) := rfl
theorem r_124_112 : row 124 112 = some (.iconst 0, 113, 0, 0, 0, 0) := rfl
theorem r_124_113 : row 124 113 = some (.istore_n 2, 114, 0, 0, 0, 0) := rfl
theorem r_124_114 : row 124 114 = some (.iload_n 2, 115, 0, 0, 0, 0) := rfl
theorem r_124_115 : row 124 115 = some (.iload_n 1, 116, 0, 0, 0, 0) := rfl
theorem r_124_116 : row 124 116 = some (.if_icmp .ge 73, 119, 189, 0, 0, 0) := rfl
theorem r_124_119 : row 124 119 = some (.iconst 0, 120, 0, 0, 0, 0) := rfl
theorem r_124_120 : row 124 120 = some (.istore_n 3, 121, 0, 0, 0, 0) := rfl
theorem r_124_121 : row 124 121 = some (.iload_n 3, 122, 0, 0, 0, 0) := rfl
theorem r_124_122 : row 124 122 = some (.iload_n 1, 123, 0, 0, 0, 0) := rfl
theorem r_124_123 : row 124 123 = some (.if_icmp .ge 60, 126, 183, 0, 0, 0) := rfl
theorem r_124_126 : row 124 126 = some (.iconst 0, 127, 0, 0, 0, 0) := rfl
theorem r_124_127 : row 124 127 = some (.istore 4, 129, 0, 0, 0, 0) := rfl
theorem r_124_129 : row 124 129 = some (.iload 4, 131, 0, 0, 0, 0) := rfl
theorem r_124_131 : row 124 131 = some (.iload_n 1, 132, 0, 0, 0, 0) := rfl
theorem r_124_132 : row 124 132 = some (.if_icmp .ge 45, 135, 177, 0, 0, 0) := rfl
theorem r_124_135 : row 124 135 = some (.aload_n 0, 136, 0, 0, 0, 0) := rfl
theorem r_124_136 : row 124 136 = some (.getfield 34, 139, 10, 15, 2, 6016) := rfl
theorem r_124_139 : row 124 139 = some (.bipush 7, 141, 7, 0, 0, 0) := rfl
theorem r_124_141 : row 124 141 = some (.iload_n 3, 142, 0, 0, 0, 0) := rfl
theorem r_124_142 : row 124 142 = some (.imul, 143, 0, 0, 0, 0) := rfl
theorem r_124_143 : row 124 143 = some (.iload 4, 145, 0, 0, 0, 0) := rfl
theorem r_124_145 : row 124 145 = some (.iadd, 146, 0, 0, 0, 0) := rfl
theorem r_124_146 : row 124 146 = some (.aload_n 0, 147, 0, 0, 0, 0) := rfl
theorem r_124_147 : row 124 147 = some (.iload_n 3, 148, 0, 0, 0, 0) := rfl
theorem r_124_148 : row 124 148 = some (.iload 4, 150, 0, 0, 0, 0) := rfl
theorem r_124_150 : row 124 150 = some (.invokevirtual 228, 153, 123, 2, 0, 7042) := rfl
theorem r_124_153 : row 124 153 = some (.aload_n 0, 154, 0, 0, 0, 0) := rfl
theorem r_124_154 : row 124 154 = some (.iload_n 3, 155, 0, 0, 0, 0) := rfl
theorem r_124_155 : row 124 155 = some (.iload_n 2, 156, 0, 0, 0, 0) := rfl
theorem r_124_156 : row 124 156 = some (.invokevirtual 228, 159, 123, 2, 0, 7042) := rfl
theorem r_124_159 : row 124 159 = some (.aload_n 0, 160, 0, 0, 0, 0) := rfl
theorem r_124_160 : row 124 160 = some (.iload_n 2, 161, 0, 0, 0, 0) := rfl
theorem r_124_161 : row 124 161 = some (.iload 4, 163, 0, 0, 0, 0) := rfl
theorem r_124_163 : row 124 163 = some (.invokevirtual 228, 166, 123, 2, 0, 7042) := rfl
theorem r_124_166 : row 124 166 = some (.iadd, 167, 0, 0, 0, 0) := rfl
theorem r_124_167 : row 124 167 = some (.invokestatic 121, 170, (-4), 2, 0, 6167) := rfl
theorem r_124_170 : row 124 170 = some (.iastore, 171, 0, 0, 0, 0) := rfl
theorem r_124_171 : row 124 171 = some (.iinc 4 1, 174, 0, 0, 0, 0) := rfl
theorem r_124_174 : row 124 174 = some (.goto (-45), 177, 129, 0, 0, 0) := rfl
theorem r_124_177 : row 124 177 = some (.iinc 3 1, 180, 0, 0, 0, 0) := rfl
theorem r_124_180 : row 124 180 = some (.goto (-59), 183, 121, 0, 0, 0) := rfl
theorem r_124_183 : row 124 183 = some (.iinc 2 1, 186, 0, 0, 0, 0) := rfl
theorem r_124_186 : row 124 186 = some (.goto (-72), 189, 114, 0, 0, 0) := rfl
theorem r_124_189 : row 124 189 = some (.return_, 190, 0, 0, 0, 0) := rfl
section LAY
variable {T : List Kd} {m0 : Mm} {Q : AV → Mm → Prop}
theorem lw_eq {m m' : Mm} (h : Fr [97999] m m') : m' 193 = m 193 := funext (Fr_cell (o := 193) h (by decide) (by decide))
theorem fr97 {m m' : Mm} {i : Nat} {x : Int} (h : Fr [97999] m m') : Fr [97999] m (nu_up m' 199 i x) := Fr_tr h (Fr_ua rfl rfl)
theorem lay_a (hT : TT T) (hout : ∀ m, Gam m → Fr [97999] m0 m → (∀ i : Nat, i < 49 → (i / 7 = i % 7 → m 199 i = 0) ∧ (¬ i / 7 = i % 7 → m 199 i = FAR)) → GX T 2 124 37 [(2, 192), (0, 49), (9, 0), (9, 0), (9, 0)] [] m Q) : ∀ (N k : Nat) (m : Mm), 49 - k < N → k ≤ 49 → Gam m → Fr [97999] m0 m → (∀ i : Nat, i < k → (i / 7 = i % 7 → m 199 i = 0) ∧ (¬ i / 7 = i % 7 → m 199 i = FAR)) → GX T 2 124 2 [(2, 192), (0, (k : Int)), (9, 0), (9, 0), (9, 0)] [] m Q := by
  intro N
  induction N with
  | zero => intro k m hN; exact absurd hN (Nat.not_lt_zero _)
  | succ N ih =>
    intro k m hN hk hm hf hI
    refine gx_st (L' := [(2, 192), (0, (k : Int)), (9, 0), (9, 0), (9, 0)]) (S' := [(0, (k : Int))]) r_124_2 rfl rfl rfl ?_
    refine gx_st (L' := [(2, 192), (0, (k : Int)), (9, 0), (9, 0), (9, 0)]) (S' := [(0, 49), (0, (k : Int))]) r_124_3 rfl rfl rfl ?_
    refine gx_ic (P := 49 ≤ (k : Int)) r_124_5 (rfl) (fun h5 => ?_) (fun h5 => ?_)
    · have hk49 : k = 49 := by omega
      subst hk49
      exact hout m hm hf hI
    · refine gx_st (L' := [(2, 192), (0, (k : Int)), (9, 0), (9, 0), (9, 0)]) (S' := [(2, 192)]) r_124_8 rfl rfl rfl ?_
      refine gx_gf (x := 199) 2 r_124_9 rfl (tk_192 hT) ⟨by decide, rfl, by decide, by decide⟩ rfl (fun _ => by decide) (pr_192_15 hm) ?_
      refine gx_st (L' := [(2, 192), (0, (k : Int)), (9, 0), (9, 0), (9, 0)]) (S' := [(0, (k : Int)), (2, 199)]) r_124_12 rfl rfl rfl ?_
      refine gx_st (L' := [(2, 192), (0, (k : Int)), (9, 0), (9, 0), (9, 0)]) (S' := [(0, (k : Int)), (0, (k : Int)), (2, 199)]) r_124_13 rfl rfl rfl ?_
      refine gx_st (L' := [(2, 192), (0, (k : Int)), (9, 0), (9, 0), (9, 0)]) (S' := [(0, 7), (0, (k : Int)), (0, (k : Int)), (2, 199)]) r_124_14 rfl rfl rfl ?_
      refine gx_dv (z := ((k : Int) / 7)) r_124_16 (by decide) (w32_td (by omega) rfl (by omega) (by omega)) ?_
      refine gx_st (L' := [(2, 192), (0, (k : Int)), (9, 0), (9, 0), (9, 0)]) (S' := [(0, (k : Int)), (0, ((k : Int) / 7)), (0, (k : Int)), (2, 199)]) r_124_17 rfl rfl rfl ?_
      refine gx_st (L' := [(2, 192), (0, (k : Int)), (9, 0), (9, 0), (9, 0)]) (S' := [(0, 7), (0, (k : Int)), (0, ((k : Int) / 7)), (0, (k : Int)), (2, 199)]) r_124_18 rfl rfl rfl ?_
      refine gx_rm (z := ((k : Int) % 7)) r_124_20 (by decide) (tm_eq (by omega) rfl) ?_
      refine gx_ic (P := ¬ ((k : Int) / 7) = ((k : Int) % 7)) r_124_21 (rfl) (fun h21 => ?_) (fun h21 => ?_)
      · refine gx_st (L' := [(2, 192), (0, (k : Int)), (9, 0), (9, 0), (9, 0)]) (S' := [(0, 1000000000), (0, (k : Int)), (2, 199)]) r_124_28 rfl rfl rfl ?_
        obtain ⟨m1, e_m1⟩ : ∃ z, z = nu_up m 199 (k) 1000000000 := ⟨_, rfl⟩
        have h_m1 : Gam m1 := by rw [e_m1]; exact gu_199 hm (i := k) (by omega) (by omega)
        have f_m1 : Fr [97999] m0 m1 := Fr_tr hf (by rw [e_m1]; exact Fr_ua rfl rfl)
        refine gx_is (n := k) (x := 1000000000) r_124_30 rfl (by decide) (tk_199 hT) (by omega) ⟨rfl, by omega⟩ e_m1.symm ?_
        refine gx_li (z := (k : Int) + 1) (L' := [(2, 192), (0, (k : Int) + 1), (9, 0), (9, 0), (9, 0)]) r_124_31 rfl (w32_eq (by omega) (by omega) (by omega)) rfl ?_
        refine gx_st (L' := [(2, 192), (0, (k : Int) + 1), (9, 0), (9, 0), (9, 0)]) (S' := []) r_124_34 rfl rfl rfl ?_
        rw [show (k : Int) + 1 = ((k + 1 : Nat) : Int) from rfl]
        refine ih (k + 1) m1 (by omega) (by omega) h_m1 f_m1 (fun i hi => ?_)
        rw [e_m1]
        by_cases hik : i = k
        · subst hik
          rw [nu_at]
          exact ⟨fun z => absurd z (by omega), fun z => rfl⟩
        · rw [nu_ne hik]
          exact hI i (by omega)
      · have h21 := Decidable.not_not.mp h21
        refine gx_st (L' := [(2, 192), (0, (k : Int)), (9, 0), (9, 0), (9, 0)]) (S' := [(0, 0), (0, (k : Int)), (2, 199)]) r_124_24 rfl rfl rfl ?_
        refine gx_st (L' := [(2, 192), (0, (k : Int)), (9, 0), (9, 0), (9, 0)]) (S' := [(0, 0), (0, (k : Int)), (2, 199)]) r_124_25 rfl rfl rfl ?_
        obtain ⟨m2, e_m2⟩ : ∃ z, z = nu_up m 199 (k) 0 := ⟨_, rfl⟩
        have h_m2 : Gam m2 := by rw [e_m2]; exact gu_199 hm (i := k) (by omega) (by omega)
        have f_m2 : Fr [97999] m0 m2 := Fr_tr hf (by rw [e_m2]; exact Fr_ua rfl rfl)
        refine gx_is (n := k) (x := 0) r_124_30 rfl (by decide) (tk_199 hT) (by omega) ⟨rfl, by omega⟩ e_m2.symm ?_
        refine gx_li (z := (k : Int) + 1) (L' := [(2, 192), (0, (k : Int) + 1), (9, 0), (9, 0), (9, 0)]) r_124_31 rfl (w32_eq (by omega) (by omega) (by omega)) rfl ?_
        refine gx_st (L' := [(2, 192), (0, (k : Int) + 1), (9, 0), (9, 0), (9, 0)]) (S' := []) r_124_34 rfl rfl rfl ?_
        rw [show (k : Int) + 1 = ((k + 1 : Nat) : Int) from rfl]
        refine ih (k + 1) m2 (by omega) (by omega) h_m2 f_m2 (fun i hi => ?_)
        rw [e_m2]
        by_cases hik : i = k
        · subst hik
          rw [nu_at]
          exact ⟨fun z => rfl, fun z => absurd (by omega) z⟩
        · rw [nu_ne hik]
          exact hI i (by omega)
theorem lay_b (hT : TT T) (hx0 : Ext m0) {c : Nat} (hc : m0 193 4 = (c : Int)) (hc10 : c ≤ 10) (hout : ∀ (x y : AV) m, ¬ x.1 = 1 → ¬ y.1 = 1 → Gam m → Fr [97999] m0 m → W0 (m0 193) c (fun a b => m 199 (7 * a + b)) → GX T 2 124 105 [(2, 192), (0, (c : Int)), x, y, (9, 0)] [] m Q) : ∀ (N k : Nat) (x y : AV) (m : Mm), c - k < N → k ≤ c → Gam m → Fr [97999] m0 m → W0 (m0 193) k (fun a b => m 199 (7 * a + b)) → ¬ x.1 = 1 → ¬ y.1 = 1 → GX T 2 124 39 [(2, 192), (0, (k : Int)), x, y, (9, 0)] [] m Q := by
  intro N
  induction N with
  | zero => intro k x y m hN; exact absurd hN (Nat.not_lt_zero _)
  | succ N ih =>
    intro k x y m hN hk hm hf hI hx1 hy1
    have hw := lw_eq hf
    have hc' : m 193 4 = (c : Int) := by rw [hw]; exact hc
    refine gx_st (L' := [(2, 192), (0, (k : Int)), x, y, (9, 0)]) (S' := [(0, (k : Int))]) r_124_39 rfl rfl rfl ?_
    refine gx_st (L' := [(2, 192), (0, (k : Int)), x, y, (9, 0)]) (S' := [(2, 192), (0, (k : Int))]) r_124_40 rfl rfl rfl ?_
    refine gx_gf (x := 193) 2 r_124_41 rfl (tk_192 hT) ⟨by decide, rfl, by decide, by decide⟩ rfl (fun _ => by decide) (pr_192_1 hm) ?_
    refine gx_st (L' := [(2, 192), (0, (k : Int)), x, y, (9, 0)]) (S' := [(0, 4), (2, 193), (0, (k : Int))]) r_124_44 rfl rfl rfl ?_
    refine gx_ia (n := 4) (x := (c : Int)) r_124_45 rfl (tk_193 hT) (rfl) ⟨rfl, by decide⟩ (hc') ?_
    refine gx_ic (P := (c : Int) ≤ (k : Int)) r_124_46 (rfl) (fun h46 => ?_) (fun h46 => ?_)
    · have hkc : k = c := by omega
      subst hkc
      exact hout x y m hx1 hy1 hm hf hI
    · have hk10 : k < 10 := by omega
      have bp := gb_193_pa hm (k := 2 * k) (by omega)
      have bq := gb_193_pa hm (k := 2 * k + 1) (by omega)
      obtain ⟨p, hp⟩ : ∃ p : Nat, m 193 (11 + 2 * k) = (p : Int) := ⟨(m 193 (11 + 2 * k)).toNat, by omega⟩
      obtain ⟨q, hq⟩ : ∃ q : Nat, m 193 (12 + 2 * k) = (q : Int) := ⟨(m 193 (12 + 2 * k)).toNat, by rw [show 12 + 2 * k = 11 + (2 * k + 1) by omega]; omega⟩
      have hq2 : m 193 (11 + (2 * k + 1)) = (q : Int) := by rw [show 11 + (2 * k + 1) = 12 + 2 * k by omega]; exact hq
      have hpq : ¬ p = q := fun z => hx0.1.1 k hk10 (by omega) (by rw [← hw, hp, hq, z])
      have hp7 : p < 7 := by omega
      have hq7 : q < 7 := by omega
      refine gx_st (L' := [(2, 192), (0, (k : Int)), x, y, (9, 0)]) (S' := [(2, 192)]) r_124_49 rfl rfl rfl ?_
      refine gx_gf (x := 193) 2 r_124_50 rfl (tk_192 hT) ⟨by decide, rfl, by decide, by decide⟩ rfl (fun _ => by decide) (pr_192_1 hm) ?_
      refine gx_st (L' := [(2, 192), (0, (k : Int)), x, y, (9, 0)]) (S' := [(0, 11), (2, 193)]) r_124_53 rfl rfl rfl ?_
      refine gx_st (L' := [(2, 192), (0, (k : Int)), x, y, (9, 0)]) (S' := [(0, 2), (0, 11), (2, 193)]) r_124_55 rfl rfl rfl ?_
      refine gx_st (L' := [(2, 192), (0, (k : Int)), x, y, (9, 0)]) (S' := [(0, (k : Int)), (0, 2), (0, 11), (2, 193)]) r_124_56 rfl rfl rfl ?_
      refine gx_ar (L' := [(2, 192), (0, (k : Int)), x, y, (9, 0)]) (S' := [(0, 11), (2, 193)]) (t := 0) (e := w32 (2 * (k : Int))) (z := 2 * (k : Int)) r_124_57 rfl rfl rfl (w32_eq (by omega) (by omega) (by omega)) ?_
      refine gx_ar (L' := [(2, 192), (0, (k : Int)), x, y, (9, 0)]) (S' := [(2, 193)]) (t := 0) (e := w32 (11 + (2 * (k : Int)))) (z := 2 * (k : Int) + 11) r_124_58 rfl rfl rfl (w32_eq (by omega) (by omega) (by omega)) ?_
      refine gx_ia (n := 11 + 2 * k) (x := (p : Int)) r_124_59 rfl (tk_193 hT) (by omega) ⟨rfl, by omega⟩ (hp) ?_
      refine gx_st (L' := [(2, 192), (0, (k : Int)), (0, (p : Int)), y, (9, 0)]) (S' := []) r_124_60 rfl rfl rfl ?_
      refine gx_st (L' := [(2, 192), (0, (k : Int)), (0, (p : Int)), y, (9, 0)]) (S' := [(2, 192)]) r_124_61 rfl rfl rfl ?_
      refine gx_gf (x := 193) 2 r_124_62 rfl (tk_192 hT) ⟨by decide, rfl, by decide, by decide⟩ rfl (fun _ => by decide) (pr_192_1 hm) ?_
      refine gx_st (L' := [(2, 192), (0, (k : Int)), (0, (p : Int)), y, (9, 0)]) (S' := [(0, 11), (2, 193)]) r_124_65 rfl rfl rfl ?_
      refine gx_st (L' := [(2, 192), (0, (k : Int)), (0, (p : Int)), y, (9, 0)]) (S' := [(0, 2), (0, 11), (2, 193)]) r_124_67 rfl rfl rfl ?_
      refine gx_st (L' := [(2, 192), (0, (k : Int)), (0, (p : Int)), y, (9, 0)]) (S' := [(0, (k : Int)), (0, 2), (0, 11), (2, 193)]) r_124_68 rfl rfl rfl ?_
      refine gx_ar (L' := [(2, 192), (0, (k : Int)), (0, (p : Int)), y, (9, 0)]) (S' := [(0, 11), (2, 193)]) (t := 0) (e := w32 (2 * (k : Int))) (z := 2 * (k : Int)) r_124_69 rfl rfl rfl (w32_eq (by omega) (by omega) (by omega)) ?_
      refine gx_ar (L' := [(2, 192), (0, (k : Int)), (0, (p : Int)), y, (9, 0)]) (S' := [(2, 193)]) (t := 0) (e := w32 (11 + (2 * (k : Int)))) (z := 2 * (k : Int) + 11) r_124_70 rfl rfl rfl (w32_eq (by omega) (by omega) (by omega)) ?_
      refine gx_st (L' := [(2, 192), (0, (k : Int)), (0, (p : Int)), y, (9, 0)]) (S' := [(0, 1), (0, 2 * (k : Int) + 11), (2, 193)]) r_124_71 rfl rfl rfl ?_
      refine gx_ar (L' := [(2, 192), (0, (k : Int)), (0, (p : Int)), y, (9, 0)]) (S' := [(2, 193)]) (t := 0) (e := w32 ((2 * (k : Int) + 11) + 1)) (z := 2 * (k : Int) + 12) r_124_72 rfl rfl rfl (w32_eq (by omega) (by omega) (by omega)) ?_
      refine gx_ia (n := 12 + 2 * k) (x := (q : Int)) r_124_73 rfl (tk_193 hT) (by omega) ⟨rfl, by omega⟩ (hq) ?_
      refine gx_st (L' := [(2, 192), (0, (k : Int)), (0, (p : Int)), (0, (q : Int)), (9, 0)]) (S' := []) r_124_74 rfl rfl rfl ?_
      refine gx_st (L' := [(2, 192), (0, (k : Int)), (0, (p : Int)), (0, (q : Int)), (9, 0)]) (S' := [(2, 192)]) r_124_75 rfl rfl rfl ?_
      refine gx_gf (x := 199) 2 r_124_76 rfl (tk_192 hT) ⟨by decide, rfl, by decide, by decide⟩ rfl (fun _ => by decide) (pr_192_15 hm) ?_
      refine gx_st (L' := [(2, 192), (0, (k : Int)), (0, (p : Int)), (0, (q : Int)), (9, 0)]) (S' := [(0, 7), (2, 199)]) r_124_79 rfl rfl rfl ?_
      refine gx_st (L' := [(2, 192), (0, (k : Int)), (0, (p : Int)), (0, (q : Int)), (9, 0)]) (S' := [(0, (p : Int)), (0, 7), (2, 199)]) r_124_81 rfl rfl rfl ?_
      refine gx_ar (L' := [(2, 192), (0, (k : Int)), (0, (p : Int)), (0, (q : Int)), (9, 0)]) (S' := [(2, 199)]) (t := 0) (e := w32 (7 * (p : Int))) (z := 7 * (p : Int)) r_124_82 rfl rfl rfl (w32_eq (by omega) (by omega) (by omega)) ?_
      refine gx_st (L' := [(2, 192), (0, (k : Int)), (0, (p : Int)), (0, (q : Int)), (9, 0)]) (S' := [(0, (q : Int)), (0, 7 * (p : Int)), (2, 199)]) r_124_83 rfl rfl rfl ?_
      refine gx_ar (L' := [(2, 192), (0, (k : Int)), (0, (p : Int)), (0, (q : Int)), (9, 0)]) (S' := [(2, 199)]) (t := 0) (e := w32 ((7 * (p : Int)) + (q : Int))) (z := 7 * (p : Int) + (q : Int)) r_124_84 rfl rfl rfl (w32_eq (by omega) (by omega) (by omega)) ?_
      refine gx_st (L' := [(2, 192), (0, (k : Int)), (0, (p : Int)), (0, (q : Int)), (9, 0)]) (S' := [(0, 1), (0, 7 * (p : Int) + (q : Int)), (2, 199)]) r_124_85 rfl rfl rfl ?_
      obtain ⟨m1, e_m1⟩ : ∃ z, z = nu_up m 199 (7 * p + q) 1 := ⟨_, rfl⟩
      have h_m1 : Gam m1 := by rw [e_m1]; exact gu_199 hm (i := 7 * p + q) (by omega) (by omega)
      have f_m1 : Fr [97999] m0 m1 := Fr_tr hf (by rw [e_m1]; exact Fr_ua rfl rfl)
      refine gx_is (n := 7 * p + q) (x := 1) r_124_86 rfl (by decide) (tk_199 hT) (by omega) ⟨rfl, by omega⟩ e_m1.symm ?_
      refine gx_st (L' := [(2, 192), (0, (k : Int)), (0, (p : Int)), (0, (q : Int)), (9, 0)]) (S' := [(2, 192)]) r_124_87 rfl rfl rfl ?_
      refine gx_gf (x := 199) 2 r_124_88 rfl (tk_192 hT) ⟨by decide, rfl, by decide, by decide⟩ rfl (fun _ => by decide) (pr_192_15 h_m1) ?_
      refine gx_st (L' := [(2, 192), (0, (k : Int)), (0, (p : Int)), (0, (q : Int)), (9, 0)]) (S' := [(0, 7), (2, 199)]) r_124_91 rfl rfl rfl ?_
      refine gx_st (L' := [(2, 192), (0, (k : Int)), (0, (p : Int)), (0, (q : Int)), (9, 0)]) (S' := [(0, (q : Int)), (0, 7), (2, 199)]) r_124_93 rfl rfl rfl ?_
      refine gx_ar (L' := [(2, 192), (0, (k : Int)), (0, (p : Int)), (0, (q : Int)), (9, 0)]) (S' := [(2, 199)]) (t := 0) (e := w32 (7 * (q : Int))) (z := 7 * (q : Int)) r_124_94 rfl rfl rfl (w32_eq (by omega) (by omega) (by omega)) ?_
      refine gx_st (L' := [(2, 192), (0, (k : Int)), (0, (p : Int)), (0, (q : Int)), (9, 0)]) (S' := [(0, (p : Int)), (0, 7 * (q : Int)), (2, 199)]) r_124_95 rfl rfl rfl ?_
      refine gx_ar (L' := [(2, 192), (0, (k : Int)), (0, (p : Int)), (0, (q : Int)), (9, 0)]) (S' := [(2, 199)]) (t := 0) (e := w32 ((7 * (q : Int)) + (p : Int))) (z := 7 * (q : Int) + (p : Int)) r_124_96 rfl rfl rfl (w32_eq (by omega) (by omega) (by omega)) ?_
      refine gx_st (L' := [(2, 192), (0, (k : Int)), (0, (p : Int)), (0, (q : Int)), (9, 0)]) (S' := [(0, 1), (0, 7 * (q : Int) + (p : Int)), (2, 199)]) r_124_97 rfl rfl rfl ?_
      obtain ⟨m2, e_m2⟩ : ∃ z, z = nu_up m1 199 (7 * q + p) 1 := ⟨_, rfl⟩
      have h_m2 : Gam m2 := by rw [e_m2]; exact gu_199 h_m1 (i := 7 * q + p) (by omega) (by omega)
      have f_m2 : Fr [97999] m0 m2 := Fr_tr f_m1 (by rw [e_m2]; exact Fr_ua rfl rfl)
      refine gx_is (n := 7 * q + p) (x := 1) r_124_98 rfl (by decide) (tk_199 hT) (by omega) ⟨rfl, by omega⟩ e_m2.symm ?_
      refine gx_li (z := (k : Int) + 1) (L' := [(2, 192), (0, (k : Int) + 1), (0, (p : Int)), (0, (q : Int)), (9, 0)]) r_124_99 rfl (w32_eq (by omega) (by omega) (by omega)) rfl ?_
      refine gx_st (L' := [(2, 192), (0, (k : Int) + 1), (0, (p : Int)), (0, (q : Int)), (9, 0)]) (S' := []) r_124_102 rfl rfl rfl ?_
      rw [show (k : Int) + 1 = ((k + 1 : Nat) : Int) from rfl]
      refine ih (k + 1) _ _ m2 (by omega) (by omega) h_m2 f_m2 ?_ Nat.zero_ne_one Nat.zero_ne_one
      refine W0_st hI (by rw [← hw]; exact hp) (by rw [← hw]; exact hq) hpq (fun a b ha hb e => ?_) (fun a b ha hb e => ?_)
      · show m2 199 (7 * a + b) = 1
        rw [e_m2]
        by_cases e1 : 7 * a + b = 7 * q + p
        · rw [e1, nu_at]
        · rw [nu_ne e1, e_m1]
          rw [show 7 * a + b = 7 * p + q by omega, nu_at]
      · show m2 199 (7 * a + b) = m 199 (7 * a + b)
        rw [e_m2, nu_ne (by omega), e_m1, nu_ne (by omega)]
/-- the matrix in the midst of phase k, at a, b -/
def FK (n k a b : Nat) (D : Nat → Nat → Int) (m : Mm) : Prop := ∀ p q : Nat, p < 7 → q < 7 → ((p < n ∧ q < n ∧ (p < a ∨ (p = a ∧ q < b))) → m 199 (7 * p + q) = min (D p q) (D p k + D k q)) ∧ (¬ (p < n ∧ q < n ∧ (p < a ∨ (p = a ∧ q < b))) → m 199 (7 * p + q) = D p q)
theorem lay_e (hT : TT T) {n k a : Nat} {D : Nat → Nat → Int} (hn : n ≤ 7) (hk : k < n) (ha : a < n) (hD0 : ∀ p : Nat, p < 7 → D p p = 0) (hDn : ∀ p q : Nat, p < 7 → q < 7 → 0 ≤ D p q) (hout : ∀ m, Gam m → Fr [97999] m0 m → FK n k (a + 1) 0 D m → GX T 2 124 121 [(2, 192), (0, (n : Int)), (0, (k : Int)), (0, ((a + 1 : Nat) : Int)), (0, (n : Int))] [] m Q) : ∀ (N b : Nat) (m : Mm), n - b < N → b ≤ n → Gam m → Fr [97999] m0 m → FK n k a b D m → GX T 2 124 129 [(2, 192), (0, (n : Int)), (0, (k : Int)), (0, (a : Int)), (0, (b : Int))] [] m Q := by
  intro N
  induction N with
  | zero => intro b m hN; exact absurd hN (Nat.not_lt_zero _)
  | succ N ih =>
    intro b m hN hb hm hf hI
    refine gx_st (L' := [(2, 192), (0, (n : Int)), (0, (k : Int)), (0, (a : Int)), (0, (b : Int))]) (S' := [(0, (b : Int))]) r_124_129 rfl rfl rfl ?_
    refine gx_st (L' := [(2, 192), (0, (n : Int)), (0, (k : Int)), (0, (a : Int)), (0, (b : Int))]) (S' := [(0, (n : Int)), (0, (b : Int))]) r_124_131 rfl rfl rfl ?_
    refine gx_ic (P := (n : Int) ≤ (b : Int)) r_124_132 (rfl) (fun h132 => ?_) (fun h132 => ?_)
    · refine gx_li (z := ((a + 1 : Nat) : Int)) (L' := [(2, 192), (0, (n : Int)), (0, (k : Int)), (0, ((a + 1 : Nat) : Int)), (0, (b : Int))]) r_124_177 rfl (w32_eq (by omega) (by omega) (by omega)) rfl ?_
      refine gx_st (L' := [(2, 192), (0, (n : Int)), (0, (k : Int)), (0, ((a + 1 : Nat) : Int)), (0, (b : Int))]) (S' := []) r_124_180 rfl rfl rfl ?_
      have hbn : b = n := by omega
      subst hbn
      refine hout m hm hf (fun p q hp hq => ⟨fun z => (hI p q hp hq).1 (by omega), fun z => (hI p q hp hq).2 (by omega)⟩)
    · have w1 := gb_199 hm (i := 7 * a + b) (by omega)
      have w2 := gb_199 hm (i := 7 * a + k) (by omega)
      have w3 := gb_199 hm (i := 7 * k + b) (by omega)
      refine gx_st (L' := [(2, 192), (0, (n : Int)), (0, (k : Int)), (0, (a : Int)), (0, (b : Int))]) (S' := [(2, 192)]) r_124_135 rfl rfl rfl ?_
      refine gx_gf (x := 199) 2 r_124_136 rfl (tk_192 hT) ⟨by decide, rfl, by decide, by decide⟩ rfl (fun _ => by decide) (pr_192_15 hm) ?_
      refine gx_st (L' := [(2, 192), (0, (n : Int)), (0, (k : Int)), (0, (a : Int)), (0, (b : Int))]) (S' := [(0, 7), (2, 199)]) r_124_139 rfl rfl rfl ?_
      refine gx_st (L' := [(2, 192), (0, (n : Int)), (0, (k : Int)), (0, (a : Int)), (0, (b : Int))]) (S' := [(0, (a : Int)), (0, 7), (2, 199)]) r_124_141 rfl rfl rfl ?_
      refine gx_ar (L' := [(2, 192), (0, (n : Int)), (0, (k : Int)), (0, (a : Int)), (0, (b : Int))]) (S' := [(2, 199)]) (t := 0) (e := w32 (7 * (a : Int))) (z := 7 * (a : Int)) r_124_142 rfl rfl rfl (w32_eq (by omega) (by omega) (by omega)) ?_
      refine gx_st (L' := [(2, 192), (0, (n : Int)), (0, (k : Int)), (0, (a : Int)), (0, (b : Int))]) (S' := [(0, (b : Int)), (0, 7 * (a : Int)), (2, 199)]) r_124_143 rfl rfl rfl ?_
      refine gx_ar (L' := [(2, 192), (0, (n : Int)), (0, (k : Int)), (0, (a : Int)), (0, (b : Int))]) (S' := [(2, 199)]) (t := 0) (e := w32 ((7 * (a : Int)) + (b : Int))) (z := 7 * (a : Int) + (b : Int)) r_124_145 rfl rfl rfl (w32_eq (by omega) (by omega) (by omega)) ?_
      refine gx_st (L' := [(2, 192), (0, (n : Int)), (0, (k : Int)), (0, (a : Int)), (0, (b : Int))]) (S' := [(2, 192), (0, 7 * (a : Int) + (b : Int)), (2, 199)]) r_124_146 rfl rfl rfl ?_
      refine gx_st (L' := [(2, 192), (0, (n : Int)), (0, (k : Int)), (0, (a : Int)), (0, (b : Int))]) (S' := [(0, (a : Int)), (2, 192), (0, 7 * (a : Int) + (b : Int)), (2, 199)]) r_124_147 rfl rfl rfl ?_
      refine gx_st (L' := [(2, 192), (0, (n : Int)), (0, (k : Int)), (0, (a : Int)), (0, (b : Int))]) (S' := [(0, (b : Int)), (0, (a : Int)), (2, 192), (0, 7 * (a : Int) + (b : Int)), (2, 199)]) r_124_148 rfl rfl rfl ?_
      refine gx_ci (nx := 153) (S2 := [(0, 7 * (a : Int) + (b : Int)), (2, 199)]) (x_123 hT hm (a := a) (b := b) (by omega) (by omega)) r_124_150 rfl rfl rfl rfl rfl (rcv_v rfl (tk_192 hT) (by decide) rfl (by decide)) rfl (by decide) rfl (fun x150 n150 q150 => ?_)
      obtain rfl := q150.1.symm
      obtain rfl := q150.2.symm
      show GX T 2 124 153 [(2, 192), (0, (n : Int)), (0, (k : Int)), (0, (a : Int)), (0, (b : Int))] [(0, (m 199 (7 * a + b))), (0, 7 * (a : Int) + (b : Int)), (2, 199)] m Q
      refine gx_st (L' := [(2, 192), (0, (n : Int)), (0, (k : Int)), (0, (a : Int)), (0, (b : Int))]) (S' := [(2, 192), (0, (m 199 (7 * a + b))), (0, 7 * (a : Int) + (b : Int)), (2, 199)]) r_124_153 rfl rfl rfl ?_
      refine gx_st (L' := [(2, 192), (0, (n : Int)), (0, (k : Int)), (0, (a : Int)), (0, (b : Int))]) (S' := [(0, (a : Int)), (2, 192), (0, (m 199 (7 * a + b))), (0, 7 * (a : Int) + (b : Int)), (2, 199)]) r_124_154 rfl rfl rfl ?_
      refine gx_st (L' := [(2, 192), (0, (n : Int)), (0, (k : Int)), (0, (a : Int)), (0, (b : Int))]) (S' := [(0, (k : Int)), (0, (a : Int)), (2, 192), (0, (m 199 (7 * a + b))), (0, 7 * (a : Int) + (b : Int)), (2, 199)]) r_124_155 rfl rfl rfl ?_
      refine gx_ci (nx := 159) (S2 := [(0, (m 199 (7 * a + b))), (0, 7 * (a : Int) + (b : Int)), (2, 199)]) (x_123 hT hm (a := a) (b := k) (by omega) (by omega)) r_124_156 rfl rfl rfl rfl rfl (rcv_v rfl (tk_192 hT) (by decide) rfl (by decide)) rfl (by decide) rfl (fun x156 n156 q156 => ?_)
      obtain rfl := q156.1.symm
      obtain rfl := q156.2.symm
      show GX T 2 124 159 [(2, 192), (0, (n : Int)), (0, (k : Int)), (0, (a : Int)), (0, (b : Int))] [(0, (m 199 (7 * a + k))), (0, (m 199 (7 * a + b))), (0, 7 * (a : Int) + (b : Int)), (2, 199)] m Q
      refine gx_st (L' := [(2, 192), (0, (n : Int)), (0, (k : Int)), (0, (a : Int)), (0, (b : Int))]) (S' := [(2, 192), (0, (m 199 (7 * a + k))), (0, (m 199 (7 * a + b))), (0, 7 * (a : Int) + (b : Int)), (2, 199)]) r_124_159 rfl rfl rfl ?_
      refine gx_st (L' := [(2, 192), (0, (n : Int)), (0, (k : Int)), (0, (a : Int)), (0, (b : Int))]) (S' := [(0, (k : Int)), (2, 192), (0, (m 199 (7 * a + k))), (0, (m 199 (7 * a + b))), (0, 7 * (a : Int) + (b : Int)), (2, 199)]) r_124_160 rfl rfl rfl ?_
      refine gx_st (L' := [(2, 192), (0, (n : Int)), (0, (k : Int)), (0, (a : Int)), (0, (b : Int))]) (S' := [(0, (b : Int)), (0, (k : Int)), (2, 192), (0, (m 199 (7 * a + k))), (0, (m 199 (7 * a + b))), (0, 7 * (a : Int) + (b : Int)), (2, 199)]) r_124_161 rfl rfl rfl ?_
      refine gx_ci (nx := 166) (S2 := [(0, (m 199 (7 * a + k))), (0, (m 199 (7 * a + b))), (0, 7 * (a : Int) + (b : Int)), (2, 199)]) (x_123 hT hm (a := k) (b := b) (by omega) (by omega)) r_124_163 rfl rfl rfl rfl rfl (rcv_v rfl (tk_192 hT) (by decide) rfl (by decide)) rfl (by decide) rfl (fun x163 n163 q163 => ?_)
      obtain rfl := q163.1.symm
      obtain rfl := q163.2.symm
      show GX T 2 124 166 [(2, 192), (0, (n : Int)), (0, (k : Int)), (0, (a : Int)), (0, (b : Int))] [(0, (m 199 (7 * k + b))), (0, (m 199 (7 * a + k))), (0, (m 199 (7 * a + b))), (0, 7 * (a : Int) + (b : Int)), (2, 199)] m Q
      refine gx_ar (L' := [(2, 192), (0, (n : Int)), (0, (k : Int)), (0, (a : Int)), (0, (b : Int))]) (S' := [(0, (m 199 (7 * a + b))), (0, 7 * (a : Int) + (b : Int)), (2, 199)]) (t := 0) (e := w32 (((m 199 (7 * a + k))) + ((m 199 (7 * k + b))))) (z := (m 199 (7 * a + k)) + (m 199 (7 * k + b))) r_124_166 rfl rfl rfl (w32_eq (by omega) (by omega) (by omega)) ?_
      refine gx_st (L' := [(2, 192), (0, (n : Int)), (0, (k : Int)), (0, (a : Int)), (0, (b : Int))]) (S' := [(0, (min ((m 199 (7 * a + b))) ((m 199 (7 * a + k)) + (m 199 (7 * k + b))))), (0, 7 * (a : Int) + (b : Int)), (2, 199)]) r_124_167 rfl rfl rfl ?_
      obtain ⟨m1, e_m1⟩ : ∃ z, z = nu_up m 199 (7 * a + b) ((min ((m 199 (7 * a + b))) ((m 199 (7 * a + k)) + (m 199 (7 * k + b))))) := ⟨_, rfl⟩
      have h_m1 : Gam m1 := by rw [e_m1]; exact gu_199 hm (i := 7 * a + b) (by omega) (by omega)
      have f_m1 : Fr [97999] m0 m1 := Fr_tr hf (by rw [e_m1]; exact Fr_ua rfl rfl)
      refine gx_is (n := 7 * a + b) (x := (min ((m 199 (7 * a + b))) ((m 199 (7 * a + k)) + (m 199 (7 * k + b))))) r_124_170 rfl (by decide) (tk_199 hT) (by omega) ⟨rfl, by omega⟩ e_m1.symm ?_
      refine gx_li (z := (b : Int) + 1) (L' := [(2, 192), (0, (n : Int)), (0, (k : Int)), (0, (a : Int)), (0, (b : Int) + 1)]) r_124_171 rfl (w32_eq (by omega) (by omega) (by omega)) rfl ?_
      refine gx_st (L' := [(2, 192), (0, (n : Int)), (0, (k : Int)), (0, (a : Int)), (0, (b : Int) + 1)]) (S' := []) r_124_174 rfl rfl rfl ?_
      rw [show (b : Int) + 1 = ((b + 1 : Nat) : Int) from rfl]
      refine ih (b + 1) m1 (by omega) (by omega) h_m1 f_m1 (fun p q hp hq => ?_)
      rw [e_m1]
      by_cases e : 7 * p + q = 7 * a + b
      · obtain rfl : p = a := by omega
        obtain rfl : q = b := by omega
        rw [nu_at]
        refine ⟨fun _ => ?_, fun z => absurd (by omega) z⟩
        have r1 := (hI p q hp hq).2 (by omega)
        have d1 := hD0 k (by omega)
        have n1 := hDn p k (by omega) (by omega)
        have n2 := hDn k q (by omega) (by omega)
        have r2 : m 199 (7 * p + k) = D p k := by
          by_cases e2 : k < q
          · rw [(hI p k hp (by omega)).1 (by omega), d1]; omega
          · exact (hI p k hp (by omega)).2 (by omega)
        have r3 : m 199 (7 * k + q) = D k q := by
          by_cases e2 : k < p
          · rw [(hI k q (by omega) hq).1 (by omega), d1]; omega
          · exact (hI k q (by omega) hq).2 (by omega)
        rw [r1, r2, r3]
      · rw [nu_ne e]
        exact ⟨fun z => (hI p q hp hq).1 (by omega), fun z => (hI p q hp hq).2 (by omega)⟩
theorem lay_d (hT : TT T) {n k : Nat} {D : Nat → Nat → Int} (hn : n ≤ 7) (hk : k < n) (hD0 : ∀ p : Nat, p < 7 → D p p = 0) (hDn : ∀ p q : Nat, p < 7 → q < 7 → 0 ≤ D p q) (hout : ∀ (x y : AV) m, ¬ x.1 = 1 → ¬ y.1 = 1 → Gam m → Fr [97999] m0 m → FK n k n 0 D m → GX T 2 124 114 [(2, 192), (0, (n : Int)), (0, ((k + 1 : Nat) : Int)), x, y] [] m Q) : ∀ (N a : Nat) (y : AV) (m : Mm), n - a < N → a ≤ n → ¬ y.1 = 1 → Gam m → Fr [97999] m0 m → FK n k a 0 D m → GX T 2 124 121 [(2, 192), (0, (n : Int)), (0, (k : Int)), (0, (a : Int)), y] [] m Q := by
  intro N
  induction N with
  | zero => intro a y m hN; exact absurd hN (Nat.not_lt_zero _)
  | succ N ih =>
    intro a y m hN ha hy hm hf hI
    refine gx_st (L' := [(2, 192), (0, (n : Int)), (0, (k : Int)), (0, (a : Int)), y]) (S' := [(0, (a : Int))]) r_124_121 rfl rfl rfl ?_
    refine gx_st (L' := [(2, 192), (0, (n : Int)), (0, (k : Int)), (0, (a : Int)), y]) (S' := [(0, (n : Int)), (0, (a : Int))]) r_124_122 rfl rfl rfl ?_
    refine gx_ic (P := (n : Int) ≤ (a : Int)) r_124_123 (rfl) (fun h123 => ?_) (fun h123 => ?_)
    · refine gx_li (z := ((k + 1 : Nat) : Int)) (L' := [(2, 192), (0, (n : Int)), (0, ((k + 1 : Nat) : Int)), (0, (a : Int)), y]) r_124_183 rfl (w32_eq (by omega) (by omega) (by omega)) rfl ?_
      refine gx_st (L' := [(2, 192), (0, (n : Int)), (0, ((k + 1 : Nat) : Int)), (0, (a : Int)), y]) (S' := []) r_124_186 rfl rfl rfl ?_
      have han : a = n := by omega
      subst han
      exact hout _ _ m Nat.zero_ne_one hy hm hf hI
    · refine gx_st (L' := [(2, 192), (0, (n : Int)), (0, (k : Int)), (0, (a : Int)), y]) (S' := [(0, 0)]) r_124_126 rfl rfl rfl ?_
      refine gx_st (L' := [(2, 192), (0, (n : Int)), (0, (k : Int)), (0, (a : Int)), (0, 0)]) (S' := []) r_124_127 rfl rfl rfl ?_
      exact lay_e hT hn hk (by omega) hD0 hDn (fun m1 h1 h2 h3 => ih (a + 1) _ m1 (by omega) (by omega) Nat.zero_ne_one h1 h2 h3) (n + 1) 0 m (by omega) (by omega) hm hf hI
theorem lay_c (hT : TT T) {n : Nat} {adj : Nat → Nat → Prop} (hn : n ≤ 7) (hQ : ∀ m, Gam m → Fr [97999] m0 m → Wk n adj n (fun a b => m 199 (7 * a + b)) → Q (9, 0) m) : ∀ (N k : Nat) (x y : AV) (m : Mm), n - k < N → k ≤ n → ¬ x.1 = 1 → ¬ y.1 = 1 → Gam m → Fr [97999] m0 m → Wk n adj k (fun a b => m 199 (7 * a + b)) → GX T 2 124 114 [(2, 192), (0, (n : Int)), (0, (k : Int)), x, y] [] m Q := by
  intro N
  induction N with
  | zero => intro k x y m hN; exact absurd hN (Nat.not_lt_zero _)
  | succ N ih =>
    intro k x y m hN hk hx hy hm hf hI
    refine gx_st (L' := [(2, 192), (0, (n : Int)), (0, (k : Int)), x, y]) (S' := [(0, (k : Int))]) r_124_114 rfl rfl rfl ?_
    refine gx_st (L' := [(2, 192), (0, (n : Int)), (0, (k : Int)), x, y]) (S' := [(0, (n : Int)), (0, (k : Int))]) r_124_115 rfl rfl rfl ?_
    refine gx_ic (P := (n : Int) ≤ (k : Int)) r_124_116 (rfl) (fun h116 => ?_) (fun h116 => ?_)
    · have hkn : k = n := by omega
      subst hkn
      exact gx_rt r_124_189 rfl rfl (hQ m hm hf hI)
    · refine gx_st (L' := [(2, 192), (0, (n : Int)), (0, (k : Int)), x, y]) (S' := [(0, 0)]) r_124_119 rfl rfl rfl ?_
      refine gx_st (L' := [(2, 192), (0, (n : Int)), (0, (k : Int)), (0, 0), y]) (S' := []) r_124_120 rfl rfl rfl ?_
      refine lay_d hT (D := fun a b => m 199 (7 * a + b)) hn (by omega) (fun p hp => hI.1 p hp) (fun p q hp hq => (gb_199 hm (i := 7 * p + q) (by omega)).1) (fun x1 y1 m1 hx1 hy1 h1 h2 h3 => ?_) (n + 1) 0 y m (by omega) (by omega) hy hm hf (fun p q hp hq => ⟨fun z => absurd z.2.2 (by omega), fun _ => rfl⟩)
      refine ih (k + 1) x1 y1 m1 (by omega) (by omega) hx1 hy1 h1 h2 (Wk_st hI hn (by omega) (fun a b ha hb e => (h3 a b ha hb).1 (by omega)) (fun a b ha hb e => (h3 a b ha hb).2 (by omega)))
end LAY
theorem x_124 {T : List Kd} {m : Mm} (hT : TT T) (hm : Gam m) (hx : Ext m) : GX T 2 124 0 [(2, 192), (9, 0), (9, 0), (9, 0), (9, 0)] [] m (RV (fun m' => Gam m' ∧ Ext m' ∧ Fr [97999] m m' ∧ FS m')) := by
  have bn := gb_193_0 hm
  have bc := gb_193_4 hm
  obtain ⟨n, hn⟩ : ∃ n : Nat, m 193 0 = (n : Int) := ⟨(m 193 0).toNat, by omega⟩
  obtain ⟨c, hc⟩ : ∃ c : Nat, m 193 4 = (c : Int) := ⟨(m 193 4).toNat, by omega⟩
  have hn7 : n ≤ 7 := by omega
  have hc10 : c ≤ 10 := by omega
  refine gx_st (L' := [(2, 192), (9, 0), (9, 0), (9, 0), (9, 0)]) (S' := [(0, 0)]) r_124_0 rfl rfl rfl ?_
  refine gx_st (L' := [(2, 192), (0, 0), (9, 0), (9, 0), (9, 0)]) (S' := []) r_124_1 rfl rfl rfl ?_
  refine lay_a hT (m0 := m) (fun m1 h1 f1 I1 => ?_) 50 0 m (by omega) (by omega) hm Fr_rf (fun i hi => absurd hi (Nat.not_lt_zero _))
  refine gx_st (L' := [(2, 192), (0, 49), (9, 0), (9, 0), (9, 0)]) (S' := [(0, 0)]) r_124_37 rfl rfl rfl ?_
  refine gx_st (L' := [(2, 192), (0, 0), (9, 0), (9, 0), (9, 0)]) (S' := []) r_124_38 rfl rfl rfl ?_
  refine lay_b hT hx hc hc10 (fun x y m2 hxt hyt h2 f2 I2 => ?_) (c + 1) 0 (9, 0) (9, 0) m1 (by omega) (by omega) h1 f1 (fun a b ha hb => ⟨fun z => (I1 (7 * a + b) (by omega)).1 (by omega), fun ⟨i, hi, _⟩ => absurd hi (Nat.not_lt_zero _), fun z _ => (I1 (7 * a + b) (by omega)).2 (by omega)⟩) (by decide) (by decide)
  have hn2 : m2 193 0 = (n : Int) := by rw [lw_eq f2]; exact hn
  refine gx_st (L' := [(2, 192), (0, (c : Int)), x, y, (9, 0)]) (S' := [(2, 192)]) r_124_105 rfl rfl rfl ?_
  refine gx_gf (x := 193) 2 r_124_106 rfl (tk_192 hT) ⟨by decide, rfl, by decide, by decide⟩ rfl (fun _ => by decide) (pr_192_1 h2) ?_
  refine gx_st (L' := [(2, 192), (0, (c : Int)), x, y, (9, 0)]) (S' := [(0, 0), (2, 193)]) r_124_109 rfl rfl rfl ?_
  refine gx_ia (n := 0) (x := (n : Int)) r_124_110 rfl (tk_193 hT) (rfl) ⟨rfl, by decide⟩ (hn2) ?_
  refine gx_st (L' := [(2, 192), (0, (n : Int)), x, y, (9, 0)]) (S' := []) r_124_111 rfl rfl rfl ?_
  refine gx_st (L' := [(2, 192), (0, (n : Int)), x, y, (9, 0)]) (S' := [(0, 0)]) r_124_112 rfl rfl rfl ?_
  refine gx_st (L' := [(2, 192), (0, (n : Int)), (0, 0), y, (9, 0)]) (S' := []) r_124_113 rfl rfl rfl ?_
  refine lay_c hT (m0 := m) hn7 (fun m3 h3 f3 I3 => ⟨rfl, h3, ?_, f3, ?_⟩) (n + 1) 0 _ _ m2 (by omega) (by omega) hyt (by decide) h2 f2 (Wk_0 I2)
  · refine ⟨by rw [lw_eq f3]; exact hx.1, ?_, ?_⟩
    · have e2 : m3 194 = m 194 := funext (Fr_cell (o := 194) f3 (by decide) (by decide))
      rw [e2]; exact hx.2.1
    · have e2 : m3 200 = m 200 := funext (Fr_cell (o := 200) f3 (by decide) (by decide))
      unfold ROK; rw [e2]; exact hx.2.2
  · unfold FS
    rw [lw_eq f3, hn]
    exact Wk_end hc hc10 hn7 I3
