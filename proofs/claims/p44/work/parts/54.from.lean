/-! the ride of the reference: from the beginning on -/
theorem r_134_0 : row 134 0 = some (.aload_n 0, 1, 0, 0, 0, 0) := rfl
theorem r_134_1 : row 134 1 = some (.iconst 0, 2, 0, 0, 0, 0) := rfl
theorem r_134_2 : row 134 2 = some (.iconst 0, 3, 0, 0, 0, 0) := rfl
theorem r_134_3 : row 134 3 = some (.iload_n 1, 4, 0, 0, 0, 0) := rfl
theorem r_134_4 : row 134 4 = some (.invokevirtual 253, 7, 132, 3, 0, 7098) := rfl
theorem r_134_7 : row 134 7 = some (.aload_n 0, 8, 0, 0, 0, 0) := rfl
theorem r_134_8 : row 134 8 = some (.iconst 0, 9, 0, 0, 0, 0) := rfl
theorem r_134_9 : row 134 9 = some (.iconst 1, 10, 1, 0, 0, 0) := rfl
theorem r_134_10 : row 134 10 = some (.iload_n 2, 11, 0, 0, 0, 0) := rfl
theorem r_134_11 : row 134 11 = some (.invokevirtual 253, 14, 132, 3, 0, 7098) := rfl
theorem r_134_14 : row 134 14 = some (.aload_n 0, 15, 0, 0, 0, 0) := rfl
theorem r_134_15 : row 134 15 = some (.iconst 0, 16, 0, 0, 0, 0) := rfl
theorem r_134_16 : row 134 16 = some (.iconst 2, 17, 2, 0, 0, 0) := rfl
theorem r_134_17 : row 134 17 = some (.aload_n 0, 18, 0, 0, 0, 0) := rfl
theorem r_134_18 : row 134 18 = some (.getfield 257, 21, 10, 26, 0, 6027) := rfl
theorem r_134_21 : row 134 21 = some (.ifCond .ne 12, 24, 33, 0, 0, 0) := rfl
theorem r_134_24 : row 134 24 = some (.aload_n 0, 25, 0, 0, 0, 0) := rfl
theorem r_134_25 : row 134 25 = some (.getfield 9, 28, 10, 1, 2, 6002) := rfl
theorem r_134_28 : row 134 28 = some (.iconst 2, 29, 2, 0, 0, 0) := rfl
theorem r_134_29 : row 134 29 = some (.iaload, 30, 0, 0, 0, 0) := rfl
theorem r_134_30 : row 134 30 = some (.goto 7, 33, 37, 0, 0, 0) := rfl
theorem r_134_33 : row 134 33 = some (.aload_n 0, 34, 0, 0, 0, 0) := rfl
theorem r_134_34 : row 134 34 = some (.getfield 257, 37, 10, 26, 0, 6027) := rfl
theorem r_134_37 : row 134 37 = some (.invokevirtual 253, 40, 132, 3, 0, 7098) := rfl
theorem r_134_40 : row 134 40 = some (.aload_n 0, 41, 0, 0, 0, 0) := rfl
theorem r_134_41 : row 134 41 = some (.iconst 0, 42, 0, 0, 0, 0) := rfl
theorem r_134_42 : row 134 42 = some (.iconst 3, 43, 3, 0, 0, 0) := rfl
theorem r_134_43 : row 134 43 = some (.iconst 0, 44, 0, 0, 0, 0) := rfl
theorem r_134_44 : row 134 44 = some (.invokevirtual 253, 47, 132, 3, 0, 7098) := rfl
theorem r_134_47 : row 134 47 = some (.aload_n 0, 48, 0, 0, 0, 0) := rfl
theorem r_134_48 : row 134 48 = some (.iconst 0, 49, 0, 0, 0, 0) := rfl
theorem r_134_49 : row 134 49 = some (.iconst 4, 50, 4, 0, 0, 0) := rfl
theorem r_134_50 : row 134 50 = some (.iconst 0, 51, 0, 0, 0, 0) := rfl
theorem r_134_51 : row 134 51 = some (.invokevirtual 253, 54, 132, 3, 0, 7098) := rfl
theorem r_134_54 : row 134 54 = some (.aload_n 0, 55, 0, 0, 0, 0) := rfl
theorem r_134_55 : row 134 55 = some (.iconst 0, 56, 0, 0, 0, 0) := rfl
theorem r_134_56 : row 134 56 = some (.iconst 5, 57, 5, 0, 0, 0) := rfl
theorem r_134_57 : row 134 57 = some (.iconst 0, 58, 0, 0, 0, 0) := rfl
theorem r_134_58 : row 134 58 = some (.invokevirtual 253, 61, 132, 3, 0, 7098) := rfl
theorem r_134_61 : row 134 61 = some (.iconst 0, 62, 0, 0, 0, 0) := rfl
theorem r_134_62 : row 134 62 = some (.istore_n 3, 63, 0, 0, 0, 0) := rfl
theorem r_134_63 : row 134 63 = some (.iload_n 3, 64, 0, 0, 0, 0) := rfl
theorem r_134_64 : row 134 64 = some (.iconst 5, 65, 5, 0, 0, 0) := rfl
theorem r_134_65 : row 134 65 = some (.if_icmp .ge 19, 68, 84, 0, 0, 0) := rfl
theorem r_134_68 : row 134 68 = some (.aload_n 0, 69, 0, 0, 0, 0) := rfl
theorem r_134_69 : row 134 69 = some (.iconst 0, 70, 0, 0, 0, 0) := rfl
theorem r_134_70 : row 134 70 = some (.bipush 6, 72, 6, 0, 0, 0) := rfl
theorem r_134_72 : row 134 72 = some (.iload_n 3, 73, 0, 0, 0, 0) := rfl
theorem r_134_73 : row 134 73 = some (.iadd, 74, 0, 0, 0, 0) := rfl
theorem r_134_74 : row 134 74 = some (.iconst 0, 75, 0, 0, 0, 0) := rfl
theorem r_134_75 : row 134 75 = some (.invokevirtual 253, 78, 132, 3, 0, 7098) := rfl
theorem r_134_78 : row 134 78 = some (.iinc 3 1, 81, 0, 0, 0, 0) := rfl
theorem r_134_81 : row 134 81 = some (.goto (-18), 84, 63, 0, 0, 0) := rfl
theorem r_134_84 : row 134 84 = some (.iconst 0, 85, 0, 0, 0, 0) := rfl
theorem r_134_85 : row 134 85 = some (.istore_n 3, 86, 0, 0, 0, 0) := rfl
theorem r_134_86 : row 134 86 = some (.iload_n 3, 87, 0, 0, 0, 0) := rfl
theorem r_134_87 : row 134 87 = some (.iconst 5, 88, 5, 0, 0, 0) := rfl
theorem r_134_88 : row 134 88 = some (.if_icmp .ge 31, 91, 119, 0, 0, 0) := rfl
theorem r_134_91 : row 134 91 = some (.aload_n 0, 92, 0, 0, 0, 0) := rfl
theorem r_134_92 : row 134 92 = some (.iconst 0, 93, 0, 0, 0, 0) := rfl
theorem r_134_93 : row 134 93 = some (.bipush 11, 95, 11, 0, 0, 0) := rfl
theorem r_134_95 : row 134 95 = some (.iload_n 3, 96, 0, 0, 0, 0) := rfl
theorem r_134_96 : row 134 96 = some (.iadd, 97, 0, 0, 0, 0) := rfl
theorem r_134_97 : row 134 97 = some (.aload_n 0, 98, 0, 0, 0, 0) := rfl
theorem r_134_98 : row 134 98 = some (.getfield 9, 101, 10, 1, 2, 6002) := rfl
theorem r_134_101 : row 134 101 = some (.bipush 31, 103, 31, 0, 0, 0) := rfl
theorem r_134_103 : row 134 103 = some (.iconst 2, 104, 2, 0, 0, 0) := rfl
theorem r_134_104 : row 134 104 = some (.iload_n 3, 105, 0, 0, 0, 0) := rfl
theorem r_134_105 : row 134 105 = some (.imul, 106, 0, 0, 0, 0) := rfl
theorem r_134_106 : row 134 106 = some (.iadd, 107, 0, 0, 0, 0) := rfl
theorem r_134_107 : row 134 107 = some (.iconst 1, 108, 1, 0, 0, 0) := rfl
theorem r_134_108 : row 134 108 = some (.iadd, 109, 0, 0, 0, 0) := rfl
theorem r_134_109 : row 134 109 = some (.iaload, 110, 0, 0, 0, 0) := rfl
theorem r_134_110 : row 134 110 = some (.invokevirtual 253, 113, 132, 3, 0, 7098) := rfl
theorem r_134_113 : row 134 113 = some (.iinc 3 1, 116, 0, 0, 0, 0) := rfl
theorem r_134_116 : row 134 116 = some (.goto (-30), 119, 86, 0, 0, 0) := rfl
theorem r_134_119 : row 134 119 = some (.return_, 120, 0, 0, 0, 0) := rfl
theorem r_144_0 : row 144 0 = some (.aload_n 0, 1, 0, 0, 0, 0) := rfl
theorem r_144_1 : row 144 1 = some (.iconst (-1), 2, (-1), 0, 0, 0) := rfl
theorem r_144_2 : row 144 2 = some (.putfield 293, 5, 10, 21, 0, 6022) := rfl
theorem r_144_5 : row 144 5 = some (.aload_n 0, 6, 0, 0, 0, 0) := rfl
theorem r_144_6 : row 144 6 = some (.iconst (-1), 7, (-1), 0, 0, 0) := rfl
theorem r_144_7 : row 144 7 = some (.putfield 296, 10, 10, 22, 0, 6023) := rfl
theorem r_144_10 : row 144 10 = some (.iconst 0, 11, 0, 0, 0, 0) := rfl
theorem r_144_11 : row 144 11 = some (.istore_n 3, 12, 0, 0, 0, 0) := rfl
theorem r_144_12 : row 144 12 = some (.iload_n 3, 13, 0, 0, 0, 0) := rfl
theorem r_144_13 : row 144 13 = some (.iconst 5, 14, 5, 0, 0, 0) := rfl
theorem r_144_14 : row 144 14 = some (.if_icmp .ge 16, 17, 30, 0, 0, 0) := rfl
theorem r_144_17 : row 144 17 = some (.aload_n 0, 18, 0, 0, 0, 0) := rfl
theorem r_144_18 : row 144 18 = some (.getfield 49, 21, 10, 20, 2, 6021) := rfl
theorem r_144_21 : row 144 21 = some (.iload_n 3, 22, 0, 0, 0, 0) := rfl
theorem r_144_22 : row 144 22 = some (.iconst 0, 23, 0, 0, 0, 0) := rfl
theorem r_144_23 : row 144 23 = some (.iastore, 24, 0, 0, 0, 0) := rfl
theorem r_144_24 : row 144 24 = some (.iinc 3 1, 27, 0, 0, 0, 0) := rfl
theorem r_144_27 : row 144 27 = some (.goto (-15), 30, 12, 0, 0, 0) := rfl
theorem r_144_30 : row 144 30 = some (.aload_n 0, 31, 0, 0, 0, 0) := rfl
theorem r_144_31 : row 144 31 = some (.iload_n 1, 32, 0, 0, 0, 0) := rfl
theorem r_144_32 : row 144 32 = some (.iload_n 2, 33, 0, 0, 0, 0) := rfl
theorem r_144_33 : row 144 33 = some (.invokevirtual 315, 36, 134, 2, 0, 7094) := rfl
theorem r_144_36 : row 144 36 = some (.iconst 0, 37, 0, 0, 0, 0) := rfl
theorem r_144_37 : row 144 37 = some (.istore_n 3, 38, 0, 0, 0, 0) := rfl
theorem r_144_38 : row 144 38 = some (.iload_n 3, 39, 0, 0, 0, 0) := rfl
theorem r_144_39 : row 144 39 = some (.aload_n 0, 40, 0, 0, 0, 0) := rfl
theorem r_144_40 : row 144 40 = some (.getfield 9, 43, 10, 1, 2, 6002) := rfl
theorem r_144_43 : row 144 43 = some (.iconst 1, 44, 1, 0, 0, 0) := rfl
theorem r_144_44 : row 144 44 = some (.iaload, 45, 0, 0, 0, 0) := rfl
theorem r_144_45 : row 144 45 = some (.if_icmp .ge 20, 48, 65, 0, 0, 0) := rfl
theorem r_144_48 : row 144 48 = some (.aload_n 0, 49, 0, 0, 0, 0) := rfl
theorem r_144_49 : row 144 49 = some (.iload_n 3, 50, 0, 0, 0, 0) := rfl
theorem r_144_50 : row 144 50 = some (.aload_n 0, 51, 0, 0, 0, 0) := rfl
theorem r_144_51 : row 144 51 = some (.getfield 46, 54, 10, 19, 2, 6020) := rfl
theorem r_144_54 : row 144 54 = some (.iload_n 3, 55, 0, 0, 0, 0) := rfl
theorem r_144_55 : row 144 55 = some (.iaload, 56, 0, 0, 0, 0) := rfl
theorem r_144_56 : row 144 56 = some (.invokevirtual 318, 59, 142, 2, 0, 7102) := rfl
theorem r_144_59 : row 144 59 = some (.iinc 3 1, 62, 0, 0, 0, 0) := rfl
theorem r_144_62 : row 144 62 = some (.goto (-24), 65, 38, 0, 0, 0) := rfl
theorem r_144_65 : row 144 65 = some (.return_, 66, 0, 0, 0, 0) := rfl
theorem r_145_0 : row 145 0 = some (.aload_n 0, 1, 0, 0, 0, 0) := rfl
theorem r_145_1 : row 145 1 = some (.getfield 9, 4, 10, 1, 2, 6002) := rfl
theorem r_145_4 : row 145 4 = some (.bipush 7, 6, 7, 0, 0, 0) := rfl
theorem r_145_6 : row 145 6 = some (.iaload, 7, 0, 0, 0, 0) := rfl
theorem r_145_7 : row 145 7 = some (.ifCond .le 7, 10, 14, 0, 0, 0) := rfl
theorem r_145_10 : row 145 10 = some (.iconst 1, 11, 1, 0, 0, 0) := rfl
theorem r_145_11 : row 145 11 = some (.goto 4, 14, 15, 0, 0, 0) := rfl
theorem r_145_14 : row 145 14 = some (.iconst 0, 15, 0, 0, 0, 0) := rfl
theorem r_145_15 : row 145 15 = some (.istore_n 1, 16, 0, 0, 0, 0) := rfl
theorem r_145_16 : row 145 16 = some (.aload_n 0, 17, 0, 0, 0, 0) := rfl
theorem r_145_17 : row 145 17 = some (.iload_n 1, 18, 0, 0, 0, 0) := rfl
theorem r_145_18 : row 145 18 = some (.ifCond .eq 11, 21, 29, 0, 0, 0) := rfl
theorem r_145_21 : row 145 21 = some (.aload_n 0, 22, 0, 0, 0, 0) := rfl
theorem r_145_22 : row 145 22 = some (.iconst 0, 23, 0, 0, 0, 0) := rfl
theorem r_145_23 : row 145 23 = some (.invokevirtual 244, 26, 99, 1, 0, 7066) := rfl
theorem r_145_26 : row 145 26 = some (.goto 4, 29, 30, 0, 0, 0) := rfl
theorem r_145_29 : row 145 29 = some (.iconst (-1), 30, (-1), 0, 0, 0) := rfl
theorem r_145_30 : row 145 30 = some (.iload_n 1, 31, 0, 0, 0, 0) := rfl
theorem r_145_31 : row 145 31 = some (.ifCond .eq 7, 34, 38, 0, 0, 0) := rfl
theorem r_145_34 : row 145 34 = some (.iconst 0, 35, 0, 0, 0, 0) := rfl
theorem r_145_35 : row 145 35 = some (.goto 4, 38, 39, 0, 0, 0) := rfl
theorem r_145_38 : row 145 38 = some (.iconst (-1), 39, (-1), 0, 0, 0) := rfl
theorem r_145_39 : row 145 39 = some (.invokevirtual 321, 42, 144, 2, 0, 7090) := rfl
theorem r_145_42 : row 145 42 = some (.return_, 43, 0, 0, 0, 0) := rfl
section FROM
variable {T : List Kd} {m0 : Mm} {Q : AV → Mm → Prop}
theorem beg_a (hT : TT T) {x y : Int} (hout : ∀ (m : Mm), Gam m → Fr [98999] m0 m → RowFr 0 m0 m → m 200 1 = y → m 200 0 = x → GX T 1 134 84 [(2, 192), (0, x), (0, y), (0, 5)] [] m Q) : ∀ (N k : Nat) (m : Mm), 5 - k < N → k ≤ 5 → Gam m → Fr [98999] m0 m → RowFr 0 m0 m → m 200 1 = y → m 200 0 = x → GX T 1 134 63 [(2, 192), (0, x), (0, y), (0, (k : Int))] [] m Q := by
  intro N
  induction N with
  | zero => intro k m hN; exact absurd hN (Nat.not_lt_zero _)
  | succ N ih =>
    intro k m hN hk hm hf r1 ow aw
    refine gx_st (L' := [(2, 192), (0, x), (0, y), (0, (k : Int))]) (S' := [(0, (k : Int))]) r_134_63 rfl rfl rfl ?_
    refine gx_st (L' := [(2, 192), (0, x), (0, y), (0, (k : Int))]) (S' := [(0, 5), (0, (k : Int))]) r_134_64 rfl rfl rfl ?_
    refine gx_ic (P := 5 ≤ (k : Int)) r_134_65 (rfl) (fun h65 => ?_) (fun h65 => ?_)
    · have hkb : k = 5 := by omega
      rw [hkb]
      exact hout m hm hf r1 ow aw
    · refine gx_st (L' := [(2, 192), (0, x), (0, y), (0, (k : Int))]) (S' := [(2, 192)]) r_134_68 rfl rfl rfl ?_
      refine gx_st (L' := [(2, 192), (0, x), (0, y), (0, (k : Int))]) (S' := [(0, 0), (2, 192)]) r_134_69 rfl rfl rfl ?_
      refine gx_st (L' := [(2, 192), (0, x), (0, y), (0, (k : Int))]) (S' := [(0, 6), (0, 0), (2, 192)]) r_134_70 rfl rfl rfl ?_
      refine gx_st (L' := [(2, 192), (0, x), (0, y), (0, (k : Int))]) (S' := [(0, (k : Int)), (0, 6), (0, 0), (2, 192)]) r_134_72 rfl rfl rfl ?_
      refine gx_ar (L' := [(2, 192), (0, x), (0, y), (0, (k : Int))]) (S' := [(0, 0), (2, 192)]) (t := 0) (e := w32 (6 + (k : Int))) (z := (k : Int) + 6) r_134_73 rfl rfl rfl (w32_eq (by omega) (by omega) (by omega)) ?_
      refine gx_st (L' := [(2, 192), (0, x), (0, y), (0, (k : Int))]) (S' := [(0, 0), (0, (k : Int) + 6), (0, 0), (2, 192)]) r_134_74 rfl rfl rfl ?_
      refine gx_cv (nx := 78) (S2 := []) (x_132 hT hm (h := 0) (k := k + 6) (by omega) (by omega) 0) r_134_75 rfl rfl rfl rfl rfl (rcv_v rfl (tk_192 hT) (by decide) rfl (by decide)) rfl (by decide) rfl (fun n75 q75 => ?_)
      have h_n75 : Gam n75 := by rw [q75]; exact gu_200_x hm (i := 16 * 0 + (k + 6)) (by omega) (by omega) (by omega) (by omega) (by omega) (by omega)
      have f_n75 : Fr [98999] m0 n75 := Fr_tr hf (by rw [q75]; exact Fr_ua rfl rfl)
      have r_n75 : RowFr 0 m0 n75 := by rw [q75]; exact RowFr_up r1 (by omega) (by omega)
      have aw_n75 : n75 200 (16 * 0) = x := by rw [q75, nu_ne (by omega)]; exact aw
      have ow_n75 : n75 200 (16 * 0 + 1) = y := by rw [q75, nu_ne (by omega)]; exact ow
      show GX T 1 134 78 [(2, 192), (0, x), (0, y), (0, (k : Int))] [] n75 Q
      refine gx_li (z := (k : Int) + 1) (L' := [(2, 192), (0, x), (0, y), (0, (k : Int) + 1)]) r_134_78 rfl (w32_eq (by omega) (by omega) (by omega)) rfl ?_
      refine gx_st (L' := [(2, 192), (0, x), (0, y), (0, (k : Int) + 1)]) (S' := []) r_134_81 rfl rfl rfl ?_
      rw [show (k : Int) + 1 = ((k + 1 : Nat) : Int) from rfl]
      refine ih (k + 1)  n75 (by omega) (by omega) h_n75 f_n75 r_n75 ow_n75 aw_n75
theorem beg_b (hT : TT T) {x y : Int} (hout : ∀ (m : Mm), Gam m → Fr [98999] m0 m → RowFr 0 m0 m → m 200 1 = y → m 200 0 = x → GX T 1 134 119 [(2, 192), (0, x), (0, y), (0, 5)] [] m Q) : ∀ (N k : Nat) (m : Mm), 5 - k < N → k ≤ 5 → Gam m → Fr [98999] m0 m → RowFr 0 m0 m → m 200 1 = y → m 200 0 = x → GX T 1 134 86 [(2, 192), (0, x), (0, y), (0, (k : Int))] [] m Q := by
  intro N
  induction N with
  | zero => intro k m hN; exact absurd hN (Nat.not_lt_zero _)
  | succ N ih =>
    intro k m hN hk hm hf r1 ow aw
    refine gx_st (L' := [(2, 192), (0, x), (0, y), (0, (k : Int))]) (S' := [(0, (k : Int))]) r_134_86 rfl rfl rfl ?_
    refine gx_st (L' := [(2, 192), (0, x), (0, y), (0, (k : Int))]) (S' := [(0, 5), (0, (k : Int))]) r_134_87 rfl rfl rfl ?_
    refine gx_ic (P := 5 ≤ (k : Int)) r_134_88 (rfl) (fun h88 => ?_) (fun h88 => ?_)
    · have hkb : k = 5 := by omega
      rw [hkb]
      exact hout m hm hf r1 ow aw
    · refine gx_st (L' := [(2, 192), (0, x), (0, y), (0, (k : Int))]) (S' := [(2, 192)]) r_134_91 rfl rfl rfl ?_
      refine gx_st (L' := [(2, 192), (0, x), (0, y), (0, (k : Int))]) (S' := [(0, 0), (2, 192)]) r_134_92 rfl rfl rfl ?_
      refine gx_st (L' := [(2, 192), (0, x), (0, y), (0, (k : Int))]) (S' := [(0, 11), (0, 0), (2, 192)]) r_134_93 rfl rfl rfl ?_
      refine gx_st (L' := [(2, 192), (0, x), (0, y), (0, (k : Int))]) (S' := [(0, (k : Int)), (0, 11), (0, 0), (2, 192)]) r_134_95 rfl rfl rfl ?_
      refine gx_ar (L' := [(2, 192), (0, x), (0, y), (0, (k : Int))]) (S' := [(0, 0), (2, 192)]) (t := 0) (e := w32 (11 + (k : Int))) (z := (k : Int) + 11) r_134_96 rfl rfl rfl (w32_eq (by omega) (by omega) (by omega)) ?_
      refine gx_st (L' := [(2, 192), (0, x), (0, y), (0, (k : Int))]) (S' := [(2, 192), (0, (k : Int) + 11), (0, 0), (2, 192)]) r_134_97 rfl rfl rfl ?_
      refine gx_gf (x := 193) 2 r_134_98 rfl (tk_192 hT) ⟨by decide, rfl, by decide, by decide⟩ rfl (fun _ => by decide) (pr_192_1 hm) ?_
      refine gx_st (L' := [(2, 192), (0, x), (0, y), (0, (k : Int))]) (S' := [(0, 31), (2, 193), (0, (k : Int) + 11), (0, 0), (2, 192)]) r_134_101 rfl rfl rfl ?_
      refine gx_st (L' := [(2, 192), (0, x), (0, y), (0, (k : Int))]) (S' := [(0, 2), (0, 31), (2, 193), (0, (k : Int) + 11), (0, 0), (2, 192)]) r_134_103 rfl rfl rfl ?_
      refine gx_st (L' := [(2, 192), (0, x), (0, y), (0, (k : Int))]) (S' := [(0, (k : Int)), (0, 2), (0, 31), (2, 193), (0, (k : Int) + 11), (0, 0), (2, 192)]) r_134_104 rfl rfl rfl ?_
      refine gx_ar (L' := [(2, 192), (0, x), (0, y), (0, (k : Int))]) (S' := [(0, 31), (2, 193), (0, (k : Int) + 11), (0, 0), (2, 192)]) (t := 0) (e := w32 (2 * (k : Int))) (z := 2 * (k : Int)) r_134_105 rfl rfl rfl (w32_eq (by omega) (by omega) (by omega)) ?_
      refine gx_ar (L' := [(2, 192), (0, x), (0, y), (0, (k : Int))]) (S' := [(2, 193), (0, (k : Int) + 11), (0, 0), (2, 192)]) (t := 0) (e := w32 (31 + (2 * (k : Int)))) (z := 2 * (k : Int) + 31) r_134_106 rfl rfl rfl (w32_eq (by omega) (by omega) (by omega)) ?_
      refine gx_st (L' := [(2, 192), (0, x), (0, y), (0, (k : Int))]) (S' := [(0, 1), (0, 2 * (k : Int) + 31), (2, 193), (0, (k : Int) + 11), (0, 0), (2, 192)]) r_134_107 rfl rfl rfl ?_
      refine gx_ar (L' := [(2, 192), (0, x), (0, y), (0, (k : Int))]) (S' := [(2, 193), (0, (k : Int) + 11), (0, 0), (2, 192)]) (t := 0) (e := w32 ((2 * (k : Int) + 31) + 1)) (z := 2 * (k : Int) + 32) r_134_108 rfl rfl rfl (w32_eq (by omega) (by omega) (by omega)) ?_
      obtain ⟨x109, e_x109⟩ : ∃ z, z = m 193 (32 + 2 * k) := ⟨_, rfl⟩
      have b_x109 := gb_193 hm (i := 32 + 2 * k) (by omega)
      rw [← e_x109] at b_x109
      refine gx_ia (n := 32 + 2 * k) (x := x109) r_134_109 rfl (tk_193 hT) (by omega) ⟨rfl, by omega⟩ (e_x109.symm) ?_
      refine gx_cv (nx := 113) (S2 := []) (x_132 hT hm (h := 0) (k := k + 11) (by omega) (by omega) x109) r_134_110 rfl rfl rfl rfl rfl (rcv_v rfl (tk_192 hT) (by decide) rfl (by decide)) rfl (by decide) rfl (fun n110 q110 => ?_)
      have h_n110 : Gam n110 := by rw [q110]; exact gu_200_x hm (i := 16 * 0 + (k + 11)) (by omega) (by omega) (by omega) (by omega) (by omega) (by omega)
      have f_n110 : Fr [98999] m0 n110 := Fr_tr hf (by rw [q110]; exact Fr_ua rfl rfl)
      have r_n110 : RowFr 0 m0 n110 := by rw [q110]; exact RowFr_up r1 (by omega) (by omega)
      have aw_n110 : n110 200 (16 * 0) = x := by rw [q110, nu_ne (by omega)]; exact aw
      have ow_n110 : n110 200 (16 * 0 + 1) = y := by rw [q110, nu_ne (by omega)]; exact ow
      show GX T 1 134 113 [(2, 192), (0, x), (0, y), (0, (k : Int))] [] n110 Q
      refine gx_li (z := (k : Int) + 1) (L' := [(2, 192), (0, x), (0, y), (0, (k : Int) + 1)]) r_134_113 rfl (w32_eq (by omega) (by omega) (by omega)) rfl ?_
      refine gx_st (L' := [(2, 192), (0, x), (0, y), (0, (k : Int) + 1)]) (S' := []) r_134_116 rfl rfl rfl ?_
      rw [show (k : Int) + 1 = ((k + 1 : Nat) : Int) from rfl]
      refine ih (k + 1)  n110 (by omega) (by omega) h_n110 f_n110 r_n110 ow_n110 aw_n110
end FROM
theorem x_134 {T : List Kd} {m : Mm} (hT : TT T) (hm : Gam m) {x y : Int} (hx1 : -1 ≤ x) (hx2 : x ≤ 6) (hy1 : -1 ≤ y) (hy2 : y ≤ 4) (hxy : y = -1 ∨ 0 ≤ x) : GX T 1 134 0 [(2, 192), (0, x), (0, y), (9, 0)] [] m (RV (fun m1 => RD 0 m m1 ∧ Fr [98999] m m1)) := by
  refine gx_st (L' := [(2, 192), (0, x), (0, y), (9, 0)]) (S' := [(2, 192)]) r_134_0 rfl rfl rfl ?_
  refine gx_st (L' := [(2, 192), (0, x), (0, y), (9, 0)]) (S' := [(0, 0), (2, 192)]) r_134_1 rfl rfl rfl ?_
  refine gx_st (L' := [(2, 192), (0, x), (0, y), (9, 0)]) (S' := [(0, 0), (0, 0), (2, 192)]) r_134_2 rfl rfl rfl ?_
  refine gx_st (L' := [(2, 192), (0, x), (0, y), (9, 0)]) (S' := [(0, x), (0, 0), (0, 0), (2, 192)]) r_134_3 rfl rfl rfl ?_
  refine gx_cv (nx := 7) (S2 := []) (x_132 hT hm (h := 0) (k := 0) (by omega) (by omega) x) r_134_4 rfl rfl rfl rfl rfl (rcv_v rfl (tk_192 hT) (by decide) rfl (by decide)) rfl (by decide) rfl (fun n4 q4 => ?_)
  have h_n4 : Gam n4 := by rw [q4]; exact gu_200_at hm (h := 0) (by omega) (by omega) (by omega)
  have f_n4 : Fr [98999] m n4 := Fr_tr Fr_rf (by rw [q4]; exact Fr_ua rfl rfl)
  have r_n4 : RowFr 0 m n4 := by rw [q4]; exact RowFr_up RowFr_rf (by omega) (by omega)
  have aw_n4 : n4 200 (16 * 0) = x := by rw [q4]; exact nu_at
  have ow_n4 : n4 200 (16 * 0 + 1) = (m 200 1) := by rw [q4, nu_ne (by omega)]
  show GX T 1 134 7 [(2, 192), (0, x), (0, y), (9, 0)] [] n4 (RV (fun m1 => RD 0 m m1 ∧ Fr [98999] m m1))
  refine gx_st (L' := [(2, 192), (0, x), (0, y), (9, 0)]) (S' := [(2, 192)]) r_134_7 rfl rfl rfl ?_
  refine gx_st (L' := [(2, 192), (0, x), (0, y), (9, 0)]) (S' := [(0, 0), (2, 192)]) r_134_8 rfl rfl rfl ?_
  refine gx_st (L' := [(2, 192), (0, x), (0, y), (9, 0)]) (S' := [(0, 1), (0, 0), (2, 192)]) r_134_9 rfl rfl rfl ?_
  refine gx_st (L' := [(2, 192), (0, x), (0, y), (9, 0)]) (S' := [(0, y), (0, 1), (0, 0), (2, 192)]) r_134_10 rfl rfl rfl ?_
  refine gx_cv (nx := 14) (S2 := []) (x_132 hT h_n4 (h := 0) (k := 1) (by omega) (by omega) y) r_134_11 rfl rfl rfl rfl rfl (rcv_v rfl (tk_192 hT) (by decide) rfl (by decide)) rfl (by decide) rfl (fun n11 q11 => ?_)
  have h_n11 : Gam n11 := by rw [q11]; exact gu_200_on h_n4 (h := 0) (by omega) (by omega) (by omega)
  have f_n11 : Fr [98999] m n11 := Fr_tr f_n4 (by rw [q11]; exact Fr_ua rfl rfl)
  have r_n11 : RowFr 0 m n11 := by rw [q11]; exact RowFr_up r_n4 (by omega) (by omega)
  have aw_n11 : n11 200 (16 * 0) = x := by rw [q11, nu_ne (by omega)]; exact aw_n4
  have ow_n11 : n11 200 (16 * 0 + 1) = y := by rw [q11]; exact nu_at
  show GX T 1 134 14 [(2, 192), (0, x), (0, y), (9, 0)] [] n11 (RV (fun m1 => RD 0 m m1 ∧ Fr [98999] m m1))
  refine gx_st (L' := [(2, 192), (0, x), (0, y), (9, 0)]) (S' := [(2, 192)]) r_134_14 rfl rfl rfl ?_
  refine gx_st (L' := [(2, 192), (0, x), (0, y), (9, 0)]) (S' := [(0, 0), (2, 192)]) r_134_15 rfl rfl rfl ?_
  refine gx_st (L' := [(2, 192), (0, x), (0, y), (9, 0)]) (S' := [(0, 2), (0, 0), (2, 192)]) r_134_16 rfl rfl rfl ?_
  refine gx_st (L' := [(2, 192), (0, x), (0, y), (9, 0)]) (S' := [(2, 192), (0, 2), (0, 0), (2, 192)]) r_134_17 rfl rfl rfl ?_
  obtain ⟨x18, e_x18⟩ : ∃ z, z = n11 192 26 := ⟨_, rfl⟩
  have b_x18 := gb_192_26 h_n11
  rw [← e_x18] at b_x18
  refine gx_gf (x := x18) 0 r_134_18 rfl (tk_192 hT) ⟨by decide, rfl, by decide, by decide⟩ rfl (fun z => absurd z (by decide)) (e_x18.symm) ?_
  refine gx_i0 (P := ¬ x18 = 0) r_134_21 (rfl) (fun h21 => ?_) (fun h21 => ?_)
  · refine gx_st (L' := [(2, 192), (0, x), (0, y), (9, 0)]) (S' := [(2, 192), (0, 2), (0, 0), (2, 192)]) r_134_33 rfl rfl rfl ?_
    obtain ⟨x34, e_x34⟩ : ∃ z, z = n11 192 26 := ⟨_, rfl⟩
    have b_x34 := gb_192_26 h_n11
    rw [← e_x34] at b_x34
    refine gx_gf (x := x34) 0 r_134_34 rfl (tk_192 hT) ⟨by decide, rfl, by decide, by decide⟩ rfl (fun z => absurd z (by decide)) (e_x34.symm) ?_
    refine gx_cv (nx := 40) (S2 := []) (x_132 hT h_n11 (h := 0) (k := 2) (by omega) (by omega) x34) r_134_37 rfl rfl rfl rfl rfl (rcv_v rfl (tk_192 hT) (by decide) rfl (by decide)) rfl (by decide) rfl (fun n37 q37 => ?_)
    have h_n37 : Gam n37 := by rw [q37]; exact gu_200_x h_n11 (i := 16 * 0 + 2) (by omega) (by omega) (by omega) (by omega) (by omega) (by omega)
    have f_n37 : Fr [98999] m n37 := Fr_tr f_n11 (by rw [q37]; exact Fr_ua rfl rfl)
    have r_n37 : RowFr 0 m n37 := by rw [q37]; exact RowFr_up r_n11 (by omega) (by omega)
    have aw_n37 : n37 200 (16 * 0) = x := by rw [q37, nu_ne (by omega)]; exact aw_n11
    have ow_n37 : n37 200 (16 * 0 + 1) = y := by rw [q37, nu_ne (by omega)]; exact ow_n11
    show GX T 1 134 40 [(2, 192), (0, x), (0, y), (9, 0)] [] n37 (RV (fun m1 => RD 0 m m1 ∧ Fr [98999] m m1))
    refine gx_st (L' := [(2, 192), (0, x), (0, y), (9, 0)]) (S' := [(2, 192)]) r_134_40 rfl rfl rfl ?_
    refine gx_st (L' := [(2, 192), (0, x), (0, y), (9, 0)]) (S' := [(0, 0), (2, 192)]) r_134_41 rfl rfl rfl ?_
    refine gx_st (L' := [(2, 192), (0, x), (0, y), (9, 0)]) (S' := [(0, 3), (0, 0), (2, 192)]) r_134_42 rfl rfl rfl ?_
    refine gx_st (L' := [(2, 192), (0, x), (0, y), (9, 0)]) (S' := [(0, 0), (0, 3), (0, 0), (2, 192)]) r_134_43 rfl rfl rfl ?_
    refine gx_cv (nx := 47) (S2 := []) (x_132 hT h_n37 (h := 0) (k := 3) (by omega) (by omega) 0) r_134_44 rfl rfl rfl rfl rfl (rcv_v rfl (tk_192 hT) (by decide) rfl (by decide)) rfl (by decide) rfl (fun n44 q44 => ?_)
    have h_n44 : Gam n44 := by rw [q44]; exact gu_200_dr h_n37 (h := 0) (by omega) (by omega) (by omega)
    have f_n44 : Fr [98999] m n44 := Fr_tr f_n37 (by rw [q44]; exact Fr_ua rfl rfl)
    have r_n44 : RowFr 0 m n44 := by rw [q44]; exact RowFr_up r_n37 (by omega) (by omega)
    have aw_n44 : n44 200 (16 * 0) = x := by rw [q44, nu_ne (by omega)]; exact aw_n37
    have ow_n44 : n44 200 (16 * 0 + 1) = y := by rw [q44, nu_ne (by omega)]; exact ow_n37
    show GX T 1 134 47 [(2, 192), (0, x), (0, y), (9, 0)] [] n44 (RV (fun m1 => RD 0 m m1 ∧ Fr [98999] m m1))
    refine gx_st (L' := [(2, 192), (0, x), (0, y), (9, 0)]) (S' := [(2, 192)]) r_134_47 rfl rfl rfl ?_
    refine gx_st (L' := [(2, 192), (0, x), (0, y), (9, 0)]) (S' := [(0, 0), (2, 192)]) r_134_48 rfl rfl rfl ?_
    refine gx_st (L' := [(2, 192), (0, x), (0, y), (9, 0)]) (S' := [(0, 4), (0, 0), (2, 192)]) r_134_49 rfl rfl rfl ?_
    refine gx_st (L' := [(2, 192), (0, x), (0, y), (9, 0)]) (S' := [(0, 0), (0, 4), (0, 0), (2, 192)]) r_134_50 rfl rfl rfl ?_
    refine gx_cv (nx := 54) (S2 := []) (x_132 hT h_n44 (h := 0) (k := 4) (by omega) (by omega) 0) r_134_51 rfl rfl rfl rfl rfl (rcv_v rfl (tk_192 hT) (by decide) rfl (by decide)) rfl (by decide) rfl (fun n51 q51 => ?_)
    have h_n51 : Gam n51 := by rw [q51]; exact gu_200_x h_n44 (i := 16 * 0 + 4) (by omega) (by omega) (by omega) (by omega) (by omega) (by omega)
    have f_n51 : Fr [98999] m n51 := Fr_tr f_n44 (by rw [q51]; exact Fr_ua rfl rfl)
    have r_n51 : RowFr 0 m n51 := by rw [q51]; exact RowFr_up r_n44 (by omega) (by omega)
    have aw_n51 : n51 200 (16 * 0) = x := by rw [q51, nu_ne (by omega)]; exact aw_n44
    have ow_n51 : n51 200 (16 * 0 + 1) = y := by rw [q51, nu_ne (by omega)]; exact ow_n44
    show GX T 1 134 54 [(2, 192), (0, x), (0, y), (9, 0)] [] n51 (RV (fun m1 => RD 0 m m1 ∧ Fr [98999] m m1))
    refine gx_st (L' := [(2, 192), (0, x), (0, y), (9, 0)]) (S' := [(2, 192)]) r_134_54 rfl rfl rfl ?_
    refine gx_st (L' := [(2, 192), (0, x), (0, y), (9, 0)]) (S' := [(0, 0), (2, 192)]) r_134_55 rfl rfl rfl ?_
    refine gx_st (L' := [(2, 192), (0, x), (0, y), (9, 0)]) (S' := [(0, 5), (0, 0), (2, 192)]) r_134_56 rfl rfl rfl ?_
    refine gx_st (L' := [(2, 192), (0, x), (0, y), (9, 0)]) (S' := [(0, 0), (0, 5), (0, 0), (2, 192)]) r_134_57 rfl rfl rfl ?_
    refine gx_cv (nx := 61) (S2 := []) (x_132 hT h_n51 (h := 0) (k := 5) (by omega) (by omega) 0) r_134_58 rfl rfl rfl rfl rfl (rcv_v rfl (tk_192 hT) (by decide) rfl (by decide)) rfl (by decide) rfl (fun n58 q58 => ?_)
    have h_n58 : Gam n58 := by rw [q58]; exact gu_200_x h_n51 (i := 16 * 0 + 5) (by omega) (by omega) (by omega) (by omega) (by omega) (by omega)
    have f_n58 : Fr [98999] m n58 := Fr_tr f_n51 (by rw [q58]; exact Fr_ua rfl rfl)
    have r_n58 : RowFr 0 m n58 := by rw [q58]; exact RowFr_up r_n51 (by omega) (by omega)
    have aw_n58 : n58 200 (16 * 0) = x := by rw [q58, nu_ne (by omega)]; exact aw_n51
    have ow_n58 : n58 200 (16 * 0 + 1) = y := by rw [q58, nu_ne (by omega)]; exact ow_n51
    show GX T 1 134 61 [(2, 192), (0, x), (0, y), (9, 0)] [] n58 (RV (fun m1 => RD 0 m m1 ∧ Fr [98999] m m1))
    refine gx_st (L' := [(2, 192), (0, x), (0, y), (9, 0)]) (S' := [(0, 0)]) r_134_61 rfl rfl rfl ?_
    refine gx_st (L' := [(2, 192), (0, x), (0, y), (0, 0)]) (S' := []) r_134_62 rfl rfl rfl ?_
    refine beg_a hT (m0 := m) (fun p1 g_p1 f_p1 r_p1 o_p1 a_p1 => ?_) 6 0 n58 (by omega) (by omega) h_n58 f_n58 r_n58 ow_n58 aw_n58
    refine gx_st (L' := [(2, 192), (0, x), (0, y), (0, 5)]) (S' := [(0, 0)]) r_134_84 rfl rfl rfl ?_
    refine gx_st (L' := [(2, 192), (0, x), (0, y), (0, 0)]) (S' := []) r_134_85 rfl rfl rfl ?_
    refine beg_b hT (m0 := m) (fun p2 g_p2 f_p2 r_p2 o_p2 a_p2 => ?_) 6 0 p1 (by omega) (by omega) g_p1 f_p1 r_p1 o_p1 a_p1
    refine gx_rt r_134_119 rfl rfl ⟨rfl, ⟨g_p2, r_p2, ?_, Fr_sub f_p2 (by decide)⟩, f_p2⟩
    rcases hxy with z | z
    · exact Or.inl (by show p2 200 1 = -1; rw [o_p2]; exact z)
    · exact Or.inr (by show 0 ≤ p2 200 0; rw [a_p2]; exact z)
  · have h21 := Decidable.not_not.mp h21
    refine gx_st (L' := [(2, 192), (0, x), (0, y), (9, 0)]) (S' := [(2, 192), (0, 2), (0, 0), (2, 192)]) r_134_24 rfl rfl rfl ?_
    refine gx_gf (x := 193) 2 r_134_25 rfl (tk_192 hT) ⟨by decide, rfl, by decide, by decide⟩ rfl (fun _ => by decide) (pr_192_1 h_n11) ?_
    refine gx_st (L' := [(2, 192), (0, x), (0, y), (9, 0)]) (S' := [(0, 2), (2, 193), (0, 2), (0, 0), (2, 192)]) r_134_28 rfl rfl rfl ?_
    obtain ⟨x29, e_x29⟩ : ∃ z, z = n11 193 (2) := ⟨_, rfl⟩
    have b_x29 := gb_193_2 h_n11
    rw [← e_x29] at b_x29
    refine gx_ia (n := 2) (x := x29) r_134_29 rfl (tk_193 hT) (rfl) ⟨rfl, by decide⟩ (e_x29.symm) ?_
    refine gx_st (L' := [(2, 192), (0, x), (0, y), (9, 0)]) (S' := [(0, x29), (0, 2), (0, 0), (2, 192)]) r_134_30 rfl rfl rfl ?_
    refine gx_cv (nx := 40) (S2 := []) (x_132 hT h_n11 (h := 0) (k := 2) (by omega) (by omega) x29) r_134_37 rfl rfl rfl rfl rfl (rcv_v rfl (tk_192 hT) (by decide) rfl (by decide)) rfl (by decide) rfl (fun n37 q37 => ?_)
    have h_n37 : Gam n37 := by rw [q37]; exact gu_200_x h_n11 (i := 16 * 0 + 2) (by omega) (by omega) (by omega) (by omega) (by omega) (by omega)
    have f_n37 : Fr [98999] m n37 := Fr_tr f_n11 (by rw [q37]; exact Fr_ua rfl rfl)
    have r_n37 : RowFr 0 m n37 := by rw [q37]; exact RowFr_up r_n11 (by omega) (by omega)
    have aw_n37 : n37 200 (16 * 0) = x := by rw [q37, nu_ne (by omega)]; exact aw_n11
    have ow_n37 : n37 200 (16 * 0 + 1) = y := by rw [q37, nu_ne (by omega)]; exact ow_n11
    show GX T 1 134 40 [(2, 192), (0, x), (0, y), (9, 0)] [] n37 (RV (fun m1 => RD 0 m m1 ∧ Fr [98999] m m1))
    refine gx_st (L' := [(2, 192), (0, x), (0, y), (9, 0)]) (S' := [(2, 192)]) r_134_40 rfl rfl rfl ?_
    refine gx_st (L' := [(2, 192), (0, x), (0, y), (9, 0)]) (S' := [(0, 0), (2, 192)]) r_134_41 rfl rfl rfl ?_
    refine gx_st (L' := [(2, 192), (0, x), (0, y), (9, 0)]) (S' := [(0, 3), (0, 0), (2, 192)]) r_134_42 rfl rfl rfl ?_
    refine gx_st (L' := [(2, 192), (0, x), (0, y), (9, 0)]) (S' := [(0, 0), (0, 3), (0, 0), (2, 192)]) r_134_43 rfl rfl rfl ?_
    refine gx_cv (nx := 47) (S2 := []) (x_132 hT h_n37 (h := 0) (k := 3) (by omega) (by omega) 0) r_134_44 rfl rfl rfl rfl rfl (rcv_v rfl (tk_192 hT) (by decide) rfl (by decide)) rfl (by decide) rfl (fun n44 q44 => ?_)
    have h_n44 : Gam n44 := by rw [q44]; exact gu_200_dr h_n37 (h := 0) (by omega) (by omega) (by omega)
    have f_n44 : Fr [98999] m n44 := Fr_tr f_n37 (by rw [q44]; exact Fr_ua rfl rfl)
    have r_n44 : RowFr 0 m n44 := by rw [q44]; exact RowFr_up r_n37 (by omega) (by omega)
    have aw_n44 : n44 200 (16 * 0) = x := by rw [q44, nu_ne (by omega)]; exact aw_n37
    have ow_n44 : n44 200 (16 * 0 + 1) = y := by rw [q44, nu_ne (by omega)]; exact ow_n37
    show GX T 1 134 47 [(2, 192), (0, x), (0, y), (9, 0)] [] n44 (RV (fun m1 => RD 0 m m1 ∧ Fr [98999] m m1))
    refine gx_st (L' := [(2, 192), (0, x), (0, y), (9, 0)]) (S' := [(2, 192)]) r_134_47 rfl rfl rfl ?_
    refine gx_st (L' := [(2, 192), (0, x), (0, y), (9, 0)]) (S' := [(0, 0), (2, 192)]) r_134_48 rfl rfl rfl ?_
    refine gx_st (L' := [(2, 192), (0, x), (0, y), (9, 0)]) (S' := [(0, 4), (0, 0), (2, 192)]) r_134_49 rfl rfl rfl ?_
    refine gx_st (L' := [(2, 192), (0, x), (0, y), (9, 0)]) (S' := [(0, 0), (0, 4), (0, 0), (2, 192)]) r_134_50 rfl rfl rfl ?_
    refine gx_cv (nx := 54) (S2 := []) (x_132 hT h_n44 (h := 0) (k := 4) (by omega) (by omega) 0) r_134_51 rfl rfl rfl rfl rfl (rcv_v rfl (tk_192 hT) (by decide) rfl (by decide)) rfl (by decide) rfl (fun n51 q51 => ?_)
    have h_n51 : Gam n51 := by rw [q51]; exact gu_200_x h_n44 (i := 16 * 0 + 4) (by omega) (by omega) (by omega) (by omega) (by omega) (by omega)
    have f_n51 : Fr [98999] m n51 := Fr_tr f_n44 (by rw [q51]; exact Fr_ua rfl rfl)
    have r_n51 : RowFr 0 m n51 := by rw [q51]; exact RowFr_up r_n44 (by omega) (by omega)
    have aw_n51 : n51 200 (16 * 0) = x := by rw [q51, nu_ne (by omega)]; exact aw_n44
    have ow_n51 : n51 200 (16 * 0 + 1) = y := by rw [q51, nu_ne (by omega)]; exact ow_n44
    show GX T 1 134 54 [(2, 192), (0, x), (0, y), (9, 0)] [] n51 (RV (fun m1 => RD 0 m m1 ∧ Fr [98999] m m1))
    refine gx_st (L' := [(2, 192), (0, x), (0, y), (9, 0)]) (S' := [(2, 192)]) r_134_54 rfl rfl rfl ?_
    refine gx_st (L' := [(2, 192), (0, x), (0, y), (9, 0)]) (S' := [(0, 0), (2, 192)]) r_134_55 rfl rfl rfl ?_
    refine gx_st (L' := [(2, 192), (0, x), (0, y), (9, 0)]) (S' := [(0, 5), (0, 0), (2, 192)]) r_134_56 rfl rfl rfl ?_
    refine gx_st (L' := [(2, 192), (0, x), (0, y), (9, 0)]) (S' := [(0, 0), (0, 5), (0, 0), (2, 192)]) r_134_57 rfl rfl rfl ?_
    refine gx_cv (nx := 61) (S2 := []) (x_132 hT h_n51 (h := 0) (k := 5) (by omega) (by omega) 0) r_134_58 rfl rfl rfl rfl rfl (rcv_v rfl (tk_192 hT) (by decide) rfl (by decide)) rfl (by decide) rfl (fun n58 q58 => ?_)
    have h_n58 : Gam n58 := by rw [q58]; exact gu_200_x h_n51 (i := 16 * 0 + 5) (by omega) (by omega) (by omega) (by omega) (by omega) (by omega)
    have f_n58 : Fr [98999] m n58 := Fr_tr f_n51 (by rw [q58]; exact Fr_ua rfl rfl)
    have r_n58 : RowFr 0 m n58 := by rw [q58]; exact RowFr_up r_n51 (by omega) (by omega)
    have aw_n58 : n58 200 (16 * 0) = x := by rw [q58, nu_ne (by omega)]; exact aw_n51
    have ow_n58 : n58 200 (16 * 0 + 1) = y := by rw [q58, nu_ne (by omega)]; exact ow_n51
    show GX T 1 134 61 [(2, 192), (0, x), (0, y), (9, 0)] [] n58 (RV (fun m1 => RD 0 m m1 ∧ Fr [98999] m m1))
    refine gx_st (L' := [(2, 192), (0, x), (0, y), (9, 0)]) (S' := [(0, 0)]) r_134_61 rfl rfl rfl ?_
    refine gx_st (L' := [(2, 192), (0, x), (0, y), (0, 0)]) (S' := []) r_134_62 rfl rfl rfl ?_
    refine beg_a hT (m0 := m) (fun p1 g_p1 f_p1 r_p1 o_p1 a_p1 => ?_) 6 0 n58 (by omega) (by omega) h_n58 f_n58 r_n58 ow_n58 aw_n58
    refine gx_st (L' := [(2, 192), (0, x), (0, y), (0, 5)]) (S' := [(0, 0)]) r_134_84 rfl rfl rfl ?_
    refine gx_st (L' := [(2, 192), (0, x), (0, y), (0, 0)]) (S' := []) r_134_85 rfl rfl rfl ?_
    refine beg_b hT (m0 := m) (fun p2 g_p2 f_p2 r_p2 o_p2 a_p2 => ?_) 6 0 p1 (by omega) (by omega) g_p1 f_p1 r_p1 o_p1 a_p1
    refine gx_rt r_134_119 rfl rfl ⟨rfl, ⟨g_p2, r_p2, ?_, Fr_sub f_p2 (by decide)⟩, f_p2⟩
    rcases hxy with z | z
    · exact Or.inl (by show p2 200 1 = -1; rw [o_p2]; exact z)
    · exact Or.inr (by show 0 ≤ p2 200 0; rw [a_p2]; exact z)
section FROM2
variable {T : List Kd} {m0 : Mm} {Q : AV → Mm → Prop}
theorem from_a (hT : TT T) {x y : Int} (hout : ∀ (m : Mm), Gam m → Ext m → FS m → Fr [90021, 90022, 98999, 99999, 100999, 102999] m0 m → GX T 8 144 30 [(2, 192), (0, x), (0, y), (0, 5)] [] m Q) : ∀ (N k : Nat) (m : Mm), 5 - k < N → k ≤ 5 → Gam m → Ext m → FS m → Fr [90021, 90022, 98999, 99999, 100999, 102999] m0 m → GX T 8 144 12 [(2, 192), (0, x), (0, y), (0, (k : Int))] [] m Q := by
  intro N
  induction N with
  | zero => intro k m hN; exact absurd hN (Nat.not_lt_zero _)
  | succ N ih =>
    intro k m hN hk hm hx hs hf
    refine gx_st (L' := [(2, 192), (0, x), (0, y), (0, (k : Int))]) (S' := [(0, (k : Int))]) r_144_12 rfl rfl rfl ?_
    refine gx_st (L' := [(2, 192), (0, x), (0, y), (0, (k : Int))]) (S' := [(0, 5), (0, (k : Int))]) r_144_13 rfl rfl rfl ?_
    refine gx_ic (P := 5 ≤ (k : Int)) r_144_14 (rfl) (fun h14 => ?_) (fun h14 => ?_)
    · have hkb : k = 5 := by omega
      rw [hkb]
      exact hout m hm hx hs hf
    · refine gx_st (L' := [(2, 192), (0, x), (0, y), (0, (k : Int))]) (S' := [(2, 192)]) r_144_17 rfl rfl rfl ?_
      refine gx_gf (x := 204) 2 r_144_18 rfl (tk_192 hT) ⟨by decide, rfl, by decide, by decide⟩ rfl (fun _ => by decide) (pr_192_20 hm) ?_
      refine gx_st (L' := [(2, 192), (0, x), (0, y), (0, (k : Int))]) (S' := [(0, (k : Int)), (2, 204)]) r_144_21 rfl rfl rfl ?_
      refine gx_st (L' := [(2, 192), (0, x), (0, y), (0, (k : Int))]) (S' := [(0, 0), (0, (k : Int)), (2, 204)]) r_144_22 rfl rfl rfl ?_
      obtain ⟨m1, e_m1⟩ : ∃ z, z = nu_up m 204 (k) 0 := ⟨_, rfl⟩
      have h_m1 : Gam m1 := by rw [e_m1]; exact gu_204 hm (i := k) (by omega) (by omega)
      have f_m1 : Fr [90021, 90022, 98999, 99999, 100999, 102999] m0 m1 := Fr_tr hf (by rw [e_m1]; exact Fr_ua rfl rfl)
      have x_m1 : Ext m1 := Ext_fr (W := [102999]) (by rw [e_m1]; exact Fr_ua rfl rfl) (by decide) hx
      have s_m1 : FS m1 := FS_fr (W := [102999]) (by rw [e_m1]; exact Fr_ua rfl rfl) (by decide) hs
      refine gx_is (n := k) (x := 0) r_144_23 rfl (by decide) (tk_204 hT) (by omega) ⟨rfl, by omega⟩ e_m1.symm ?_
      refine gx_li (z := (k : Int) + 1) (L' := [(2, 192), (0, x), (0, y), (0, (k : Int) + 1)]) r_144_24 rfl (w32_eq (by omega) (by omega) (by omega)) rfl ?_
      refine gx_st (L' := [(2, 192), (0, x), (0, y), (0, (k : Int) + 1)]) (S' := []) r_144_27 rfl rfl rfl ?_
      rw [show (k : Int) + 1 = ((k + 1 : Nat) : Int) from rfl]
      refine ih (k + 1)  m1 (by omega) (by omega) h_m1 x_m1 s_m1 f_m1
theorem from_b (hT : TT T) (h136 : ConH T cn_136) {x y : Int} {c : Nat} (hc0 : m0 193 1 = (c : Int)) (hout : ∀ (m : Mm), Gam m → Ext m → FS m → Fr [90021, 90022, 98999, 99999, 100999, 102999] m0 m → GX T 8 144 65 [(2, 192), (0, x), (0, y), (0, (c : Int))] [] m Q) : ∀ (N k : Nat) (m : Mm), c - k < N → k ≤ c → Gam m → Ext m → FS m → Fr [90021, 90022, 98999, 99999, 100999, 102999] m0 m → GX T 8 144 38 [(2, 192), (0, x), (0, y), (0, (k : Int))] [] m Q := by
  intro N
  induction N with
  | zero => intro k m hN; exact absurd hN (Nat.not_lt_zero _)
  | succ N ih =>
    intro k m hN hk hm hx hs hf
    have hc : m 193 1 = (c : Int) := by rw [← hc0]; exact Fr_cell (o := 193) hf (by decide) (by decide) 1
    have b1_ := gb_193_1 hm
    refine gx_st (L' := [(2, 192), (0, x), (0, y), (0, (k : Int))]) (S' := [(0, (k : Int))]) r_144_38 rfl rfl rfl ?_
    refine gx_st (L' := [(2, 192), (0, x), (0, y), (0, (k : Int))]) (S' := [(2, 192), (0, (k : Int))]) r_144_39 rfl rfl rfl ?_
    refine gx_gf (x := 193) 2 r_144_40 rfl (tk_192 hT) ⟨by decide, rfl, by decide, by decide⟩ rfl (fun _ => by decide) (pr_192_1 hm) ?_
    refine gx_st (L' := [(2, 192), (0, x), (0, y), (0, (k : Int))]) (S' := [(0, 1), (2, 193), (0, (k : Int))]) r_144_43 rfl rfl rfl ?_
    refine gx_ia (n := 1) (x := (c : Int)) r_144_44 rfl (tk_193 hT) (rfl) ⟨rfl, by decide⟩ (hc) ?_
    refine gx_ic (P := (c : Int) ≤ (k : Int)) r_144_45 (rfl) (fun h45 => ?_) (fun h45 => ?_)
    · have hkb : k = c := by omega
      rw [hkb]
      exact hout m hm hx hs hf
    · refine gx_st (L' := [(2, 192), (0, x), (0, y), (0, (k : Int))]) (S' := [(2, 192)]) r_144_48 rfl rfl rfl ?_
      refine gx_st (L' := [(2, 192), (0, x), (0, y), (0, (k : Int))]) (S' := [(0, (k : Int)), (2, 192)]) r_144_49 rfl rfl rfl ?_
      refine gx_st (L' := [(2, 192), (0, x), (0, y), (0, (k : Int))]) (S' := [(2, 192), (0, (k : Int)), (2, 192)]) r_144_50 rfl rfl rfl ?_
      refine gx_gf (x := 203) 2 r_144_51 rfl (tk_192 hT) ⟨by decide, rfl, by decide, by decide⟩ rfl (fun _ => by decide) (pr_192_19 hm) ?_
      refine gx_st (L' := [(2, 192), (0, x), (0, y), (0, (k : Int))]) (S' := [(0, (k : Int)), (2, 203), (0, (k : Int)), (2, 192)]) r_144_54 rfl rfl rfl ?_
      obtain ⟨x55, e_x55⟩ : ∃ z, z = m 203 (k) := ⟨_, rfl⟩
      have b_x55 := gb_203 hm (i := k) (by omega)
      rw [← e_x55] at b_x55
      refine gx_ia (n := k) (x := x55) r_144_55 rfl (tk_203 hT) (by omega) ⟨rfl, by omega⟩ (e_x55.symm) ?_
      refine gx_cv (nx := 59) (S2 := []) (x_142 h136 hT hm (h := k) (n := k + 1) (by omega) rfl hs (a := x55) b_x55.1 b_x55.2 (hx.2.2 k (by omega))) r_144_56 rfl rfl rfl rfl rfl (rcv_v rfl (tk_192 hT) (by decide) rfl (by decide)) rfl (by decide) rfl (fun n56 q56 => ?_)
      have h_n56 := q56.1
      have x_n56 := Ext_rd hx q56
      have s_n56 := FS_rd hs q56
      have f_n56 := Fr_tr hf q56.2.2.2
      refine gx_li (z := (k : Int) + 1) (L' := [(2, 192), (0, x), (0, y), (0, (k : Int) + 1)]) r_144_59 rfl (w32_eq (by omega) (by omega) (by omega)) rfl ?_
      refine gx_st (L' := [(2, 192), (0, x), (0, y), (0, (k : Int) + 1)]) (S' := []) r_144_62 rfl rfl rfl ?_
      rw [show (k : Int) + 1 = ((k + 1 : Nat) : Int) from rfl]
      refine ih (k + 1)  n56 (by omega) (by omega) h_n56 x_n56 s_n56 f_n56
end FROM2
theorem x_144 {T : List Kd} {m : Mm} (hT : TT T) (h136 : ConH T cn_136) (hm : Gam m) (hx : Ext m) (hs : FS m) {x y : Int} (hx1 : -1 ≤ x) (hx2 : x ≤ 6) (hy1 : -1 ≤ y) (hy2 : y ≤ 4) (hxy : y = -1 ∨ 0 ≤ x) : GX T 8 144 0 [(2, 192), (0, x), (0, y), (9, 0)] [] m (RV (fun m' => Gam m' ∧ Ext m' ∧ Fr [90021, 90022, 98999, 99999, 100999, 102999] m m' ∧ FS m')) := by
  refine gx_st (L' := [(2, 192), (0, x), (0, y), (9, 0)]) (S' := [(2, 192)]) r_144_0 rfl rfl rfl ?_
  refine gx_st (L' := [(2, 192), (0, x), (0, y), (9, 0)]) (S' := [(0, (-1)), (2, 192)]) r_144_1 rfl rfl rfl ?_
  obtain ⟨m1, e_m1⟩ : ∃ z, z = nu_up m 192 21 (-1) := ⟨_, rfl⟩
  have h_m1 : Gam m1 := by rw [e_m1]; exact gu_192_21 hm (by omega) (by omega)
  have f_m1 : Fr [90021, 90022, 98999, 99999, 100999, 102999] m m1 := Fr_tr Fr_rf (by rw [e_m1]; exact Fr_up rfl)
  have x_m1 : Ext m1 := Ext_fr (W := [90021]) (by rw [e_m1]; exact Fr_up rfl) (by decide) hx
  have s_m1 : FS m1 := FS_fr (W := [90021]) (by rw [e_m1]; exact Fr_up rfl) (by decide) hs
  refine gx_pf (x := (-1)) 0 r_144_2 rfl (tk_192 hT) ⟨by decide, rfl, by decide, by decide⟩ rfl (fun z => absurd z (by decide)) (fun z => absurd z (by decide)) e_m1.symm ?_
  refine gx_st (L' := [(2, 192), (0, x), (0, y), (9, 0)]) (S' := [(2, 192)]) r_144_5 rfl rfl rfl ?_
  refine gx_st (L' := [(2, 192), (0, x), (0, y), (9, 0)]) (S' := [(0, (-1)), (2, 192)]) r_144_6 rfl rfl rfl ?_
  obtain ⟨m2, e_m2⟩ : ∃ z, z = nu_up m1 192 22 (-1) := ⟨_, rfl⟩
  have h_m2 : Gam m2 := by rw [e_m2]; exact gu_192_22 h_m1 (by omega) (by omega)
  have f_m2 : Fr [90021, 90022, 98999, 99999, 100999, 102999] m m2 := Fr_tr f_m1 (by rw [e_m2]; exact Fr_up rfl)
  have x_m2 : Ext m2 := Ext_fr (W := [90022]) (by rw [e_m2]; exact Fr_up rfl) (by decide) x_m1
  have s_m2 : FS m2 := FS_fr (W := [90022]) (by rw [e_m2]; exact Fr_up rfl) (by decide) s_m1
  refine gx_pf (x := (-1)) 0 r_144_7 rfl (tk_192 hT) ⟨by decide, rfl, by decide, by decide⟩ rfl (fun z => absurd z (by decide)) (fun z => absurd z (by decide)) e_m2.symm ?_
  refine gx_st (L' := [(2, 192), (0, x), (0, y), (9, 0)]) (S' := [(0, 0)]) r_144_10 rfl rfl rfl ?_
  refine gx_st (L' := [(2, 192), (0, x), (0, y), (0, 0)]) (S' := []) r_144_11 rfl rfl rfl ?_
  refine from_a hT (m0 := m) (fun p1 g_p1 x_p1 s_p1 f_p1 => ?_) 6 0 m2 (by omega) (by omega) h_m2 x_m2 s_m2 f_m2
  refine gx_st (L' := [(2, 192), (0, x), (0, y), (0, 5)]) (S' := [(2, 192)]) r_144_30 rfl rfl rfl ?_
  refine gx_st (L' := [(2, 192), (0, x), (0, y), (0, 5)]) (S' := [(0, x), (2, 192)]) r_144_31 rfl rfl rfl ?_
  refine gx_st (L' := [(2, 192), (0, x), (0, y), (0, 5)]) (S' := [(0, y), (0, x), (2, 192)]) r_144_32 rfl rfl rfl ?_
  refine gx_cv (nx := 36) (S2 := []) (x_134 hT g_p1 (x := x) (y := y) hx1 hx2 hy1 hy2 hxy) r_144_33 rfl rfl rfl rfl rfl (rcv_v rfl (tk_192 hT) (by decide) rfl (by decide)) rfl (by decide) rfl (fun n33 q33 => ?_)
  have h_n33 := q33.1.1
  have x_n33 := Ext_rd x_p1 q33.1
  have s_n33 := FS_rd s_p1 q33.1
  have f_n33 := Fr_tr f_p1 q33.1.2.2.2
  refine gx_st (L' := [(2, 192), (0, x), (0, y), (0, 5)]) (S' := [(0, 0)]) r_144_36 rfl rfl rfl ?_
  refine gx_st (L' := [(2, 192), (0, x), (0, y), (0, 0)]) (S' := []) r_144_37 rfl rfl rfl ?_
  obtain ⟨c, hc⟩ : ∃ c : Nat, m 193 1 = (c : Int) := ⟨(m 193 1).toNat, by have := gb_193_1 hm; omega⟩
  refine from_b hT h136 (m0 := m) hc (fun p2 g_p2 x_p2 s_p2 f_p2 => ?_) (c + 1) 0 n33 (by omega) (by omega) h_n33 x_n33 s_n33 f_n33
  exact gx_rt r_144_65 rfl rfl ⟨rfl, g_p2, x_p2, f_p2, s_p2⟩
theorem x_145 {T : List Kd} {m : Mm} (hT : TT T) (h136 : ConH T cn_136) (hm : Gam m) (hx : Ext m) (hs : FS m) : GX T 9 145 0 [(2, 192), (9, 0)] [] m (RV (fun m' => Gam m' ∧ Ext m' ∧ Fr [90021, 90022, 98999, 99999, 100999, 102999] m m' ∧ FS m')) := by
  refine gx_st (L' := [(2, 192), (9, 0)]) (S' := [(2, 192)]) r_145_0 rfl rfl rfl ?_
  refine gx_gf (x := 193) 2 r_145_1 rfl (tk_192 hT) ⟨by decide, rfl, by decide, by decide⟩ rfl (fun _ => by decide) (pr_192_1 hm) ?_
  refine gx_st (L' := [(2, 192), (9, 0)]) (S' := [(0, 7), (2, 193)]) r_145_4 rfl rfl rfl ?_
  obtain ⟨x6, e_x6⟩ : ∃ z, z = m 193 (7) := ⟨_, rfl⟩
  have b_x6 := gb_193_7 hm
  rw [← e_x6] at b_x6
  refine gx_ia (n := 7) (x := x6) r_145_6 rfl (tk_193 hT) (rfl) ⟨rfl, by decide⟩ (e_x6.symm) ?_
  refine gx_i0 (P := x6 ≤ 0) r_145_7 (rfl) (fun h7 => ?_) (fun h7 => ?_)
  · refine gx_st (L' := [(2, 192), (9, 0)]) (S' := [(0, 0)]) r_145_14 rfl rfl rfl ?_
    refine gx_st (L' := [(2, 192), (0, 0)]) (S' := []) r_145_15 rfl rfl rfl ?_
    refine gx_st (L' := [(2, 192), (0, 0)]) (S' := [(2, 192)]) r_145_16 rfl rfl rfl ?_
    refine gx_st (L' := [(2, 192), (0, 0)]) (S' := [(0, 0), (2, 192)]) r_145_17 rfl rfl rfl ?_
    refine gx_i0 (P := 0 = 0) r_145_18 (rfl) (fun h18 => ?_) (fun h18 => ?_)
    · refine gx_st (L' := [(2, 192), (0, 0)]) (S' := [(0, (-1)), (2, 192)]) r_145_29 rfl rfl rfl ?_
      refine gx_st (L' := [(2, 192), (0, 0)]) (S' := [(0, 0), (0, (-1)), (2, 192)]) r_145_30 rfl rfl rfl ?_
      refine gx_i0 (P := 0 = 0) r_145_31 (rfl) (fun h31 => ?_) (fun h31 => ?_)
      · refine gx_st (L' := [(2, 192), (0, 0)]) (S' := [(0, (-1)), (0, (-1)), (2, 192)]) r_145_38 rfl rfl rfl ?_
        refine gx_cv (nx := 42) (S2 := []) (x_144 hT h136 hm hx hs (x := (-1)) (y := (-1)) (by omega) (by omega) (by omega) (by omega) (by omega)) r_145_39 rfl rfl rfl rfl rfl (rcv_v rfl (tk_192 hT) (by decide) rfl (by decide)) rfl (by decide) rfl (fun n39 q39 => ?_)
        exact gx_rt r_145_42 rfl rfl ⟨rfl, q39⟩
      · refine gx_st (L' := [(2, 192), (0, 0)]) (S' := [(0, 0), (0, (-1)), (2, 192)]) r_145_34 rfl rfl rfl ?_
        refine gx_st (L' := [(2, 192), (0, 0)]) (S' := [(0, 0), (0, (-1)), (2, 192)]) r_145_35 rfl rfl rfl ?_
        refine gx_cv (nx := 42) (S2 := []) (x_144 hT h136 hm hx hs (x := (-1)) (y := 0) (by omega) (by omega) (by omega) (by omega) (by omega)) r_145_39 rfl rfl rfl rfl rfl (rcv_v rfl (tk_192 hT) (by decide) rfl (by decide)) rfl (by decide) rfl (fun n39 q39 => ?_)
        exact gx_rt r_145_42 rfl rfl ⟨rfl, q39⟩
    · refine gx_st (L' := [(2, 192), (0, 0)]) (S' := [(2, 192), (2, 192)]) r_145_21 rfl rfl rfl ?_
      refine gx_st (L' := [(2, 192), (0, 0)]) (S' := [(0, 0), (2, 192), (2, 192)]) r_145_22 rfl rfl rfl ?_
      refine gx_ci (nx := 26) (S2 := [(2, 192)]) (x_99 hT hm (k := 0) (by omega)) r_145_23 rfl rfl rfl rfl rfl (rcv_v rfl (tk_192 hT) (by decide) rfl (by decide)) rfl (by decide) rfl (fun x23 n23 q23 => ?_)
      obtain ⟨e_x23, z_x23⟩ := q23
      obtain rfl := z_x23.symm
      have b_x23 := gb_193_bp hm (k := 0) (by omega)
      rw [← e_x23] at b_x23
      show GX T 9 145 26 [(2, 192), (0, 0)] [(0, x23), (2, 192)] m (RV (fun m' => Gam m' ∧ Ext m' ∧ Fr [90021, 90022, 98999, 99999, 100999, 102999] m m' ∧ FS m'))
      refine gx_st (L' := [(2, 192), (0, 0)]) (S' := [(0, x23), (2, 192)]) r_145_26 rfl rfl rfl ?_
      refine gx_st (L' := [(2, 192), (0, 0)]) (S' := [(0, 0), (0, x23), (2, 192)]) r_145_30 rfl rfl rfl ?_
      refine gx_i0 (P := 0 = 0) r_145_31 (rfl) (fun h31 => ?_) (fun h31 => ?_)
      · refine gx_st (L' := [(2, 192), (0, 0)]) (S' := [(0, (-1)), (0, x23), (2, 192)]) r_145_38 rfl rfl rfl ?_
        refine gx_cv (nx := 42) (S2 := []) (x_144 hT h136 hm hx hs (x := x23) (y := (-1)) (by omega) (by omega) (by omega) (by omega) (by omega)) r_145_39 rfl rfl rfl rfl rfl (rcv_v rfl (tk_192 hT) (by decide) rfl (by decide)) rfl (by decide) rfl (fun n39 q39 => ?_)
        exact gx_rt r_145_42 rfl rfl ⟨rfl, q39⟩
      · refine gx_st (L' := [(2, 192), (0, 0)]) (S' := [(0, 0), (0, x23), (2, 192)]) r_145_34 rfl rfl rfl ?_
        refine gx_st (L' := [(2, 192), (0, 0)]) (S' := [(0, 0), (0, x23), (2, 192)]) r_145_35 rfl rfl rfl ?_
        refine gx_cv (nx := 42) (S2 := []) (x_144 hT h136 hm hx hs (x := x23) (y := 0) (by omega) (by omega) (by omega) (by omega) (by omega)) r_145_39 rfl rfl rfl rfl rfl (rcv_v rfl (tk_192 hT) (by decide) rfl (by decide)) rfl (by decide) rfl (fun n39 q39 => ?_)
        exact gx_rt r_145_42 rfl rfl ⟨rfl, q39⟩
  · refine gx_st (L' := [(2, 192), (9, 0)]) (S' := [(0, 1)]) r_145_10 rfl rfl rfl ?_
    refine gx_st (L' := [(2, 192), (9, 0)]) (S' := [(0, 1)]) r_145_11 rfl rfl rfl ?_
    refine gx_st (L' := [(2, 192), (0, 1)]) (S' := []) r_145_15 rfl rfl rfl ?_
    refine gx_st (L' := [(2, 192), (0, 1)]) (S' := [(2, 192)]) r_145_16 rfl rfl rfl ?_
    refine gx_st (L' := [(2, 192), (0, 1)]) (S' := [(0, 1), (2, 192)]) r_145_17 rfl rfl rfl ?_
    refine gx_i0 (P := 1 = 0) r_145_18 (rfl) (fun h18 => ?_) (fun h18 => ?_)
    · refine gx_st (L' := [(2, 192), (0, 1)]) (S' := [(0, (-1)), (2, 192)]) r_145_29 rfl rfl rfl ?_
      refine gx_st (L' := [(2, 192), (0, 1)]) (S' := [(0, 1), (0, (-1)), (2, 192)]) r_145_30 rfl rfl rfl ?_
      refine gx_i0 (P := 1 = 0) r_145_31 (rfl) (fun h31 => ?_) (fun h31 => ?_)
      · refine gx_st (L' := [(2, 192), (0, 1)]) (S' := [(0, (-1)), (0, (-1)), (2, 192)]) r_145_38 rfl rfl rfl ?_
        refine gx_cv (nx := 42) (S2 := []) (x_144 hT h136 hm hx hs (x := (-1)) (y := (-1)) (by omega) (by omega) (by omega) (by omega) (by omega)) r_145_39 rfl rfl rfl rfl rfl (rcv_v rfl (tk_192 hT) (by decide) rfl (by decide)) rfl (by decide) rfl (fun n39 q39 => ?_)
        exact gx_rt r_145_42 rfl rfl ⟨rfl, q39⟩
      · refine gx_st (L' := [(2, 192), (0, 1)]) (S' := [(0, 0), (0, (-1)), (2, 192)]) r_145_34 rfl rfl rfl ?_
        refine gx_st (L' := [(2, 192), (0, 1)]) (S' := [(0, 0), (0, (-1)), (2, 192)]) r_145_35 rfl rfl rfl ?_
        refine gx_cv (nx := 42) (S2 := []) (x_144 hT h136 hm hx hs (x := (-1)) (y := 0) (by omega) (by omega) (by omega) (by omega) (by omega)) r_145_39 rfl rfl rfl rfl rfl (rcv_v rfl (tk_192 hT) (by decide) rfl (by decide)) rfl (by decide) rfl (fun n39 q39 => ?_)
        exact gx_rt r_145_42 rfl rfl ⟨rfl, q39⟩
    · refine gx_st (L' := [(2, 192), (0, 1)]) (S' := [(2, 192), (2, 192)]) r_145_21 rfl rfl rfl ?_
      refine gx_st (L' := [(2, 192), (0, 1)]) (S' := [(0, 0), (2, 192), (2, 192)]) r_145_22 rfl rfl rfl ?_
      refine gx_ci (nx := 26) (S2 := [(2, 192)]) (x_99 hT hm (k := 0) (by omega)) r_145_23 rfl rfl rfl rfl rfl (rcv_v rfl (tk_192 hT) (by decide) rfl (by decide)) rfl (by decide) rfl (fun x23 n23 q23 => ?_)
      obtain ⟨e_x23, z_x23⟩ := q23
      obtain rfl := z_x23.symm
      have b_x23 := gb_193_bp hm (k := 0) (by omega)
      rw [← e_x23] at b_x23
      show GX T 9 145 26 [(2, 192), (0, 1)] [(0, x23), (2, 192)] m (RV (fun m' => Gam m' ∧ Ext m' ∧ Fr [90021, 90022, 98999, 99999, 100999, 102999] m m' ∧ FS m'))
      refine gx_st (L' := [(2, 192), (0, 1)]) (S' := [(0, x23), (2, 192)]) r_145_26 rfl rfl rfl ?_
      refine gx_st (L' := [(2, 192), (0, 1)]) (S' := [(0, 1), (0, x23), (2, 192)]) r_145_30 rfl rfl rfl ?_
      refine gx_i0 (P := 1 = 0) r_145_31 (rfl) (fun h31 => ?_) (fun h31 => ?_)
      · refine gx_st (L' := [(2, 192), (0, 1)]) (S' := [(0, (-1)), (0, x23), (2, 192)]) r_145_38 rfl rfl rfl ?_
        refine gx_cv (nx := 42) (S2 := []) (x_144 hT h136 hm hx hs (x := x23) (y := (-1)) (by omega) (by omega) (by omega) (by omega) (by omega)) r_145_39 rfl rfl rfl rfl rfl (rcv_v rfl (tk_192 hT) (by decide) rfl (by decide)) rfl (by decide) rfl (fun n39 q39 => ?_)
        exact gx_rt r_145_42 rfl rfl ⟨rfl, q39⟩
      · refine gx_st (L' := [(2, 192), (0, 1)]) (S' := [(0, 0), (0, x23), (2, 192)]) r_145_34 rfl rfl rfl ?_
        refine gx_st (L' := [(2, 192), (0, 1)]) (S' := [(0, 0), (0, x23), (2, 192)]) r_145_35 rfl rfl rfl ?_
        refine gx_cv (nx := 42) (S2 := []) (x_144 hT h136 hm hx hs (x := x23) (y := 0) (by omega) (by omega) (by omega) (by omega) (by omega)) r_145_39 rfl rfl rfl rfl rfl (rcv_v rfl (tk_192 hT) (by decide) rfl (by decide)) rfl (by decide) rfl (fun n39 q39 => ?_)
        exact gx_rt r_145_42 rfl rfl ⟨rfl, q39⟩
