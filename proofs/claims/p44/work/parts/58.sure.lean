/-! sure, needs, drops of the reference -/
theorem r_182_0 : row 182 0 = some (.aload_n 0, 1, 0, 0, 0, 0) := rfl
theorem r_182_1 : row 182 1 = some (.invokevirtual 359, 4, 174, 0, 0, 8027) := rfl
theorem r_182_4 : row 182 4 = some (.aload_n 0, 5, 0, 0, 0, 0) := rfl
theorem r_182_5 : row 182 5 = some (.invokevirtual 86, 8, 90, 0, 0, 7025) := rfl
theorem r_182_8 : row 182 8 = some (.ireturn, 9, 0, 0, 0, 0) := rfl
theorem r_192_0 : row 192 0 = some (.aload_n 0, 1, 0, 0, 0, 0) := rfl
theorem r_192_1 : row 192 1 = some (.invokevirtual 324, 4, 143, 0, 0, 7082) := rfl
theorem r_192_4 : row 192 4 = some (.aload_n 0, 5, 0, 0, 0, 0) := rfl
theorem r_192_5 : row 192 5 = some (.iload_n 1, 6, 0, 0, 0, 0) := rfl
theorem r_192_6 : row 192 6 = some (.invokevirtual 224, 9, 96, 1, 0, 7017) := rfl
theorem r_192_9 : row 192 9 = some (.ifCond .ne 6, 12, 15, 0, 0, 0) := rfl
theorem r_192_12 : row 192 12 = some (.bipush (-2), 14, (-2), 0, 0, 0) := rfl
theorem r_192_14 : row 192 14 = some (.ireturn, 15, 0, 0, 0, 0) := rfl
theorem r_192_15 : row 192 15 = some (.aload_n 0, 16, 0, 0, 0, 0) := rfl
theorem r_192_16 : row 192 16 = some (.iload_n 1, 17, 0, 0, 0, 0) := rfl
theorem r_192_17 : row 192 17 = some (.putfield 281, 20, 10, 27, 0, 6028) := rfl
theorem r_192_20 : row 192 20 = some (.aload_n 0, 21, 0, 0, 0, 0) := rfl
theorem r_192_21 : row 192 21 = some (.iconst 1, 22, 1, 0, 0, 0) := rfl
theorem r_192_22 : row 192 22 = some (.putfield 284, 25, 10, 28, 0, 6029) := rfl
theorem r_192_25 : row 192 25 = some (.aload_n 0, 26, 0, 0, 0, 0) := rfl
theorem r_192_26 : row 192 26 = some (.getfield 284, 29, 10, 28, 0, 6029) := rfl
theorem r_192_29 : row 192 29 = some (.bipush 100, 31, 100, 0, 0, 0) := rfl
theorem r_192_31 : row 192 31 = some (.if_icmp .ge 43, 34, 74, 0, 0, 0) := rfl
theorem r_192_34 : row 192 34 = some (.aload_n 0, 35, 0, 0, 0, 0) := rfl
theorem r_192_35 : row 192 35 = some (.invokevirtual 327, 38, 145, 0, 0, 7086) := rfl
theorem r_192_38 : row 192 38 = some (.aload_n 0, 39, 0, 0, 0, 0) := rfl
theorem r_192_39 : row 192 39 = some (.aload_n 0, 40, 0, 0, 0, 0) := rfl
theorem r_192_40 : row 192 40 = some (.getfield 9, 43, 10, 1, 2, 6002) := rfl
theorem r_192_43 : row 192 43 = some (.iconst 1, 44, 1, 0, 0, 0) := rfl
theorem r_192_44 : row 192 44 = some (.iaload, 45, 0, 0, 0, 0) := rfl
theorem r_192_45 : row 192 45 = some (.iconst 5, 46, 5, 0, 0, 0) := rfl
theorem r_192_46 : row 192 46 = some (.invokevirtual 263, 49, 131, 2, 0, 7110) := rfl
theorem r_192_49 : row 192 49 = some (.iload_n 1, 50, 0, 0, 0, 0) := rfl
theorem r_192_50 : row 192 50 = some (.invokestatic 272, 53, 87, 2, 0, 7122) := rfl
theorem r_192_53 : row 192 53 = some (.ifCond .ne 8, 56, 61, 0, 0, 0) := rfl
theorem r_192_56 : row 192 56 = some (.aload_n 0, 57, 0, 0, 0, 0) := rfl
theorem r_192_57 : row 192 57 = some (.getfield 284, 60, 10, 28, 0, 6029) := rfl
theorem r_192_60 : row 192 60 = some (.ireturn, 61, 0, 0, 0, 0) := rfl
theorem r_192_61 : row 192 61 = some (.aload_n 0, 62, 0, 0, 0, 0) := rfl
theorem r_192_62 : row 192 62 = some (.dup, 63, 0, 0, 0, 0) := rfl
theorem r_192_63 : row 192 63 = some (.getfield 284, 66, 10, 28, 0, 6029) := rfl
theorem r_192_66 : row 192 66 = some (.iconst 1, 67, 1, 0, 0, 0) := rfl
theorem r_192_67 : row 192 67 = some (.iadd, 68, 0, 0, 0, 0) := rfl
theorem r_192_68 : row 192 68 = some (.putfield 284, 71, 10, 28, 0, 6029) := rfl
theorem r_192_71 : row 192 71 = some (.goto (-46), 74, 25, 0, 0, 0) := rfl
theorem r_192_74 : row 192 74 = some (.iconst (-1), 75, (-1), 0, 0, 0) := rfl
theorem r_192_75 : row 192 75 = some (.ireturn, 76, 0, 0, 0, 0) := rfl
theorem r_193_0 : row 193 0 = some (.aload_n 0, 1, 0, 0, 0, 0) := rfl
theorem r_193_1 : row 193 1 = some (.invokevirtual 377, 4, 182, 0, 0, 8039) := rfl
theorem r_193_4 : row 193 4 = some (.ifCond .ne 6, 7, 10, 0, 0, 0) := rfl
theorem r_193_7 : row 193 7 = some (.bipush (-2), 9, (-2), 0, 0, 0) := rfl
theorem r_193_9 : row 193 9 = some (.ireturn, 10, 0, 0, 0, 0) := rfl
theorem r_193_10 : row 193 10 = some (.aload_n 0, 11, 0, 0, 0, 0) := rfl
theorem r_193_11 : row 193 11 = some (.iconst 1, 12, 1, 0, 0, 0) := rfl
theorem r_193_12 : row 193 12 = some (.putfield 257, 15, 10, 26, 0, 6027) := rfl
theorem r_193_15 : row 193 15 = some (.aload_n 0, 16, 0, 0, 0, 0) := rfl
theorem r_193_16 : row 193 16 = some (.getfield 257, 19, 10, 26, 0, 6027) := rfl
theorem r_193_19 : row 193 19 = some (.bipush 20, 21, 20, 0, 0, 0) := rfl
theorem r_193_21 : row 193 21 = some (.if_icmp .gt 32, 24, 53, 0, 0, 0) := rfl
theorem r_193_24 : row 193 24 = some (.aload_n 0, 25, 0, 0, 0, 0) := rfl
theorem r_193_25 : row 193 25 = some (.invokevirtual 327, 28, 145, 0, 0, 7086) := rfl
theorem r_193_28 : row 193 28 = some (.aload_n 0, 29, 0, 0, 0, 0) := rfl
theorem r_193_29 : row 193 29 = some (.getfield 296, 32, 10, 22, 0, 6023) := rfl
theorem r_193_32 : row 193 32 = some (.ifCond .ne 8, 35, 40, 0, 0, 0) := rfl
theorem r_193_35 : row 193 35 = some (.aload_n 0, 36, 0, 0, 0, 0) := rfl
theorem r_193_36 : row 193 36 = some (.getfield 257, 39, 10, 26, 0, 6027) := rfl
theorem r_193_39 : row 193 39 = some (.ireturn, 40, 0, 0, 0, 0) := rfl
theorem r_193_40 : row 193 40 = some (.aload_n 0, 41, 0, 0, 0, 0) := rfl
theorem r_193_41 : row 193 41 = some (.dup, 42, 0, 0, 0, 0) := rfl
theorem r_193_42 : row 193 42 = some (.getfield 257, 45, 10, 26, 0, 6027) := rfl
theorem r_193_45 : row 193 45 = some (.iconst 1, 46, 1, 0, 0, 0) := rfl
theorem r_193_46 : row 193 46 = some (.iadd, 47, 0, 0, 0, 0) := rfl
theorem r_193_47 : row 193 47 = some (.putfield 257, 50, 10, 26, 0, 6027) := rfl
theorem r_193_50 : row 193 50 = some (.goto (-35), 53, 15, 0, 0, 0) := rfl
theorem r_193_53 : row 193 53 = some (.iconst (-1), 54, (-1), 0, 0, 0) := rfl
theorem r_193_54 : row 193 54 = some (.ireturn, 55, 0, 0, 0, 0) := rfl
theorem r_212_0 : row 212 0 = some (.aload_n 0, 1, 0, 0, 0, 0) := rfl
theorem r_212_1 : row 212 1 = some (.invokevirtual 330, 4, 146, 0, 0, 7078) := rfl
theorem r_212_4 : row 212 4 = some (.ifCond .eq 15, 7, 19, 0, 0, 0) := rfl
theorem r_212_7 : row 212 7 = some (.iload_n 1, 8, 0, 0, 0, 0) := rfl
theorem r_212_8 : row 212 8 = some (.i2l, 9, 0, 0, 0, 0) := rfl
theorem r_212_9 : row 212 9 = some (.lconst 0, 10, 0, 0, 0, 0) := rfl
theorem r_212_10 : row 212 10 = some (.ldc2_w 429, 13, 100, 0, 0, 8170) := rfl
theorem r_212_13 : row 212 13 = some (.invokestatic 82, 16, 86, 3, 0, 6131) := rfl
theorem r_212_16 : row 212 16 = some (.ifCond .ne 6, 19, 22, 0, 0, 0) := rfl
theorem r_212_19 : row 212 19 = some (.bipush (-2), 21, (-2), 0, 0, 0) := rfl
theorem r_212_21 : row 212 21 = some (.ireturn, 22, 0, 0, 0, 0) := rfl
theorem r_212_22 : row 212 22 = some (.aload_n 0, 23, 0, 0, 0, 0) := rfl
theorem r_212_23 : row 212 23 = some (.getfield 9, 26, 10, 1, 2, 6002) := rfl
theorem r_212_26 : row 212 26 = some (.iconst 1, 27, 1, 0, 0, 0) := rfl
theorem r_212_27 : row 212 27 = some (.iaload, 28, 0, 0, 0, 0) := rfl
theorem r_212_28 : row 212 28 = some (.istore_n 2, 29, 0, 0, 0, 0) := rfl
theorem r_212_29 : row 212 29 = some (.ldc2_w 429, 32, 100, 0, 0, 8170) := rfl
theorem r_212_32 : row 212 32 = some (.bipush 10, 34, 10, 0, 0, 0) := rfl
theorem r_212_34 : row 212 34 = some (.aload_n 0, 35, 0, 0, 0, 0) := rfl
theorem r_212_35 : row 212 35 = some (.getfield 9, 38, 10, 1, 2, 6002) := rfl
theorem r_212_38 : row 212 38 = some (.iconst 3, 39, 3, 0, 0, 0) := rfl
theorem r_212_39 : row 212 39 = some (.iaload, 40, 0, 0, 0, 0) := rfl
theorem r_212_40 : row 212 40 = some (.isub, 41, 0, 0, 0, 0) := rfl
theorem r_212_41 : row 212 41 = some (.i2l, 42, 0, 0, 0, 0) := rfl
theorem r_212_42 : row 212 42 = some (.aload_n 0, 43, 0, 0, 0, 0) := rfl
theorem r_212_43 : row 212 43 = some (.iload_n 2, 44, 0, 0, 0, 0) := rfl
theorem r_212_44 : row 212 44 = some (.invokevirtual 342, 47, 158, 1, 0, 7202) := rfl
theorem r_212_47 : row 212 47 = some (.invokestatic 433, 50, 210, 2, 0, 8176) := rfl
theorem r_212_50 : row 212 50 = some (.lmul, 51, 0, 0, 0, 0) := rfl
theorem r_212_51 : row 212 51 = some (.iload_n 1, 52, 0, 0, 0, 0) := rfl
theorem r_212_52 : row 212 52 = some (.i2l, 53, 0, 0, 0, 0) := rfl
theorem r_212_53 : row 212 53 = some (.ldc2_w 424, 56, 10, 0, 0, 8165) := rfl
theorem r_212_56 : row 212 56 = some (.aload_n 0, 57, 0, 0, 0, 0) := rfl
theorem r_212_57 : row 212 57 = some (.iload_n 2, 58, 0, 0, 0, 0) := rfl
theorem r_212_58 : row 212 58 = some (.invokevirtual 342, 61, 158, 1, 0, 7202) := rfl
theorem r_212_61 : row 212 61 = some (.invokestatic 433, 64, 210, 2, 0, 8176) := rfl
theorem r_212_64 : row 212 64 = some (.lmul, 65, 0, 0, 0, 0) := rfl
theorem r_212_65 : row 212 65 = some (.lcmp, 66, 0, 0, 0, 0) := rfl
theorem r_212_66 : row 212 66 = some (.ifCond .ge 9, 69, 75, 0, 0, 0) := rfl
theorem r_212_69 : row 212 69 = some (.iinc 2 (-1), 72, 0, 0, 0, 0) := rfl
theorem r_212_72 : row 212 72 = some (.goto (-43), 75, 29, 0, 0, 0) := rfl
theorem r_212_75 : row 212 75 = some (.iload_n 2, 76, 0, 0, 0, 0) := rfl
theorem r_212_76 : row 212 76 = some (.ireturn, 77, 0, 0, 0, 0) := rfl
theorem sure_l {T : List Kd} {m : Mm} (hT : TT T) (hm : Gam m) {Q : AV → Mm → Prop} {p : Int} {od bs : Nat} (hp1 : 0 ≤ p) (hp2 : p ≤ 100) (hod : m 193 3 = (od : Int)) (hbs : 10 - (od : Int) = (bs : Int)) (hout : ∀ k : Nat, k ≤ 12 → Q (0, (k : Int)) m) : ∀ k : Nat, k ≤ 12 → GX T 12 212 29 [(2, 192), (0, p), (0, (k : Int))] [] m Q := by
  intro k
  have bod := gb_193_3 hm
  induction k with
  | zero =>
    intro hk
    refine gx_st (L' := [(2, 192), (0, p), (0, 0)]) (S' := [(1, 100)]) r_212_29 rfl rfl rfl ?_
    refine gx_st (L' := [(2, 192), (0, p), (0, 0)]) (S' := [(0, 10), (1, 100)]) r_212_32 rfl rfl rfl ?_
    refine gx_st (L' := [(2, 192), (0, p), (0, 0)]) (S' := [(2, 192), (0, 10), (1, 100)]) r_212_34 rfl rfl rfl ?_
    refine gx_gf (x := 193) 2 r_212_35 rfl (tk_192 hT) ⟨by decide, rfl, by decide, by decide⟩ rfl (fun _ => by decide) (pr_192_1 hm) ?_
    refine gx_st (L' := [(2, 192), (0, p), (0, 0)]) (S' := [(0, 3), (2, 193), (0, 10), (1, 100)]) r_212_38 rfl rfl rfl ?_
    obtain ⟨x39, e_x39⟩ : ∃ z, z = m 193 (3) := ⟨_, rfl⟩
    have b_x39 := gb_193_3 hm
    rw [← e_x39] at b_x39
    refine gx_ia (n := 3) (x := x39) r_212_39 rfl (tk_193 hT) (rfl) ⟨rfl, by decide⟩ (e_x39.symm) ?_
    refine gx_ar (L' := [(2, 192), (0, p), (0, 0)]) (S' := [(1, 100)]) (t := 0) (e := w32 (10 - x39)) (z := (bs : Int)) r_212_40 rfl rfl rfl (w32_eq (by omega) (by omega) (by omega)) ?_
    refine gx_st (L' := [(2, 192), (0, p), (0, 0)]) (S' := [(1, (bs : Int)), (1, 100)]) r_212_41 rfl rfl rfl ?_
    refine gx_st (L' := [(2, 192), (0, p), (0, 0)]) (S' := [(2, 192), (1, (bs : Int)), (1, 100)]) r_212_42 rfl rfl rfl ?_
    refine gx_st (L' := [(2, 192), (0, p), (0, 0)]) (S' := [(0, 0), (2, 192), (1, (bs : Int)), (1, 100)]) r_212_43 rfl rfl rfl ?_
    refine gx_ci (nx := 47) (S2 := [(1, (bs : Int)), (1, 100)]) (x_158 hT hm (c := 0) (by omega)) r_212_44 rfl rfl rfl rfl rfl (rcv_v rfl (tk_192 hT) (by decide) rfl (by decide)) rfl (by decide) rfl (fun x44 n44 q44 => ?_)
    obtain ⟨v_44, z_44⟩ := q44
    obtain rfl := z_44.symm
    obtain ⟨e44, he44⟩ : ∃ e : Nat, x44 = (e : Int) := ⟨(x44).toNat, by omega⟩
    rw [he44]
    show GX T 12 212 47 [(2, 192), (0, p), (0, 0)] [(0, (e44 : Int)), (1, (bs : Int)), (1, 100)] m Q
    refine gx_cl (nx := 50) (S2 := [(1, 100)]) (x_210 (b := bs) (e := e44) (by omega) (by omega)) r_212_47 rfl rfl rfl rfl rfl rfl rfl (by decide) rfl (fun x47 n47 q47 => ?_)
    obtain ⟨p_47, z_47⟩ := q47
    obtain rfl := z_47.symm
    have w_47 := pw_le (b := bs) (k := e44) (by omega) (by omega)
    obtain ⟨X47, hX47⟩ : ∃ X : Nat, X = bs ^ e44 := ⟨_, rfl⟩
    rw [← hX47] at p_47 w_47
    show GX T 12 212 50 [(2, 192), (0, p), (0, 0)] [(1, x47), (1, 100)] m Q
    refine gx_ar (L' := [(2, 192), (0, p), (0, 0)]) (S' := []) (t := 1) (e := w64 (100 * x47)) (z := 100 * x47) r_212_50 rfl rfl rfl (w64_eq (by omega) (by omega) (by omega)) ?_
    refine gx_st (L' := [(2, 192), (0, p), (0, 0)]) (S' := [(0, p), (1, 100 * x47)]) r_212_51 rfl rfl rfl ?_
    refine gx_st (L' := [(2, 192), (0, p), (0, 0)]) (S' := [(1, p), (1, 100 * x47)]) r_212_52 rfl rfl rfl ?_
    refine gx_st (L' := [(2, 192), (0, p), (0, 0)]) (S' := [(1, 10), (1, p), (1, 100 * x47)]) r_212_53 rfl rfl rfl ?_
    refine gx_st (L' := [(2, 192), (0, p), (0, 0)]) (S' := [(2, 192), (1, 10), (1, p), (1, 100 * x47)]) r_212_56 rfl rfl rfl ?_
    refine gx_st (L' := [(2, 192), (0, p), (0, 0)]) (S' := [(0, 0), (2, 192), (1, 10), (1, p), (1, 100 * x47)]) r_212_57 rfl rfl rfl ?_
    refine gx_ci (nx := 61) (S2 := [(1, 10), (1, p), (1, 100 * x47)]) (x_158 hT hm (c := 0) (by omega)) r_212_58 rfl rfl rfl rfl rfl (rcv_v rfl (tk_192 hT) (by decide) rfl (by decide)) rfl (by decide) rfl (fun x58 n58 q58 => ?_)
    obtain ⟨v_58, z_58⟩ := q58
    obtain rfl := z_58.symm
    obtain ⟨e58, he58⟩ : ∃ e : Nat, x58 = (e : Int) := ⟨(x58).toNat, by omega⟩
    rw [he58]
    show GX T 12 212 61 [(2, 192), (0, p), (0, 0)] [(0, (e58 : Int)), (1, 10), (1, p), (1, 100 * x47)] m Q
    refine gx_cl (nx := 64) (S2 := [(1, p), (1, 100 * x47)]) (x_210 (b := 10) (e := e58) (by omega) (by omega)) r_212_61 rfl rfl rfl rfl rfl rfl rfl (by decide) rfl (fun x61 n61 q61 => ?_)
    obtain ⟨p_61, z_61⟩ := q61
    obtain rfl := z_61.symm
    have w_61 := pw_le (b := 10) (k := e58) (by omega) (by omega)
    obtain ⟨X61, hX61⟩ : ∃ X : Nat, X = 10 ^ e58 := ⟨_, rfl⟩
    rw [← hX61] at p_61 w_61
    have y_61 : 0 < X61 := by rw [hX61]; exact Nat.pow_pos (by decide)
    show GX T 12 212 64 [(2, 192), (0, p), (0, 0)] [(1, x61), (1, p), (1, 100 * x47)] m Q
    have m1_ : 0 ≤ p * x61 := Int.mul_nonneg (by omega) (by omega)
    have m2_ : p * x61 ≤ 100 * x61 := Int.mul_le_mul_of_nonneg_right (by omega) (by omega)
    refine gx_ar (L' := [(2, 192), (0, p), (0, 0)]) (S' := [(1, 100 * x47)]) (t := 1) (e := w64 (p * x61)) (z := (p * x61)) r_212_64 rfl rfl rfl (w64_eq rfl (by omega) (by omega)) ?_
    refine gx_st (L' := [(2, 192), (0, p), (0, 0)]) (S' := [(0, (if (100 * x47) < (p * x61) then -1 else if (100 * x47) = (p * x61) then 0 else 1))]) r_212_65 rfl rfl rfl ?_
    refine gx_i0 (P := (p * x61) ≤ (100 * x47)) r_212_66 (lc_ge) (fun h66 => ?_) (fun h66 => ?_)
    · refine gx_st (L' := [(2, 192), (0, p), (0, 0)]) (S' := [(0, 0)]) r_212_75 rfl rfl rfl ?_
      exact gx_rt r_212_76 rfl rfl (hout 0 (by omega))
    · exfalso
      have e1 : e44 = 0 := by omega
      have e2 : e58 = 0 := by omega
      have e3 : x61 = 1 := by rw [p_61, hX61, e2, Nat.pow_zero]; rfl
      have e4 : x47 = 1 := by rw [p_47, hX47, e1, Nat.pow_zero]; rfl
      rw [e3, e4, Int.mul_one] at h66
      omega
  | succ k ih =>
    intro hk
    show GX T 12 212 29 [(2, 192), (0, p), (0, (k : Int) + 1)] [] m Q
    refine gx_st (L' := [(2, 192), (0, p), (0, (k : Int) + 1)]) (S' := [(1, 100)]) r_212_29 rfl rfl rfl ?_
    refine gx_st (L' := [(2, 192), (0, p), (0, (k : Int) + 1)]) (S' := [(0, 10), (1, 100)]) r_212_32 rfl rfl rfl ?_
    refine gx_st (L' := [(2, 192), (0, p), (0, (k : Int) + 1)]) (S' := [(2, 192), (0, 10), (1, 100)]) r_212_34 rfl rfl rfl ?_
    refine gx_gf (x := 193) 2 r_212_35 rfl (tk_192 hT) ⟨by decide, rfl, by decide, by decide⟩ rfl (fun _ => by decide) (pr_192_1 hm) ?_
    refine gx_st (L' := [(2, 192), (0, p), (0, (k : Int) + 1)]) (S' := [(0, 3), (2, 193), (0, 10), (1, 100)]) r_212_38 rfl rfl rfl ?_
    obtain ⟨x39, e_x39⟩ : ∃ z, z = m 193 (3) := ⟨_, rfl⟩
    have b_x39 := gb_193_3 hm
    rw [← e_x39] at b_x39
    refine gx_ia (n := 3) (x := x39) r_212_39 rfl (tk_193 hT) (rfl) ⟨rfl, by decide⟩ (e_x39.symm) ?_
    refine gx_ar (L' := [(2, 192), (0, p), (0, (k : Int) + 1)]) (S' := [(1, 100)]) (t := 0) (e := w32 (10 - x39)) (z := (bs : Int)) r_212_40 rfl rfl rfl (w32_eq (by omega) (by omega) (by omega)) ?_
    refine gx_st (L' := [(2, 192), (0, p), (0, (k : Int) + 1)]) (S' := [(1, (bs : Int)), (1, 100)]) r_212_41 rfl rfl rfl ?_
    refine gx_st (L' := [(2, 192), (0, p), (0, (k : Int) + 1)]) (S' := [(2, 192), (1, (bs : Int)), (1, 100)]) r_212_42 rfl rfl rfl ?_
    refine gx_st (L' := [(2, 192), (0, p), (0, (k : Int) + 1)]) (S' := [(0, (k : Int) + 1), (2, 192), (1, (bs : Int)), (1, 100)]) r_212_43 rfl rfl rfl ?_
    refine gx_ci (nx := 47) (S2 := [(1, (bs : Int)), (1, 100)]) (x_158 hT hm (c := k + 1) (by omega)) r_212_44 rfl rfl rfl rfl rfl (rcv_v rfl (tk_192 hT) (by decide) rfl (by decide)) rfl (by decide) rfl (fun x44 n44 q44 => ?_)
    obtain ⟨v_44, z_44⟩ := q44
    obtain rfl := z_44.symm
    obtain ⟨e44, he44⟩ : ∃ e : Nat, x44 = (e : Int) := ⟨(x44).toNat, by omega⟩
    rw [he44]
    show GX T 12 212 47 [(2, 192), (0, p), (0, (k : Int) + 1)] [(0, (e44 : Int)), (1, (bs : Int)), (1, 100)] m Q
    refine gx_cl (nx := 50) (S2 := [(1, 100)]) (x_210 (b := bs) (e := e44) (by omega) (by omega)) r_212_47 rfl rfl rfl rfl rfl rfl rfl (by decide) rfl (fun x47 n47 q47 => ?_)
    obtain ⟨p_47, z_47⟩ := q47
    obtain rfl := z_47.symm
    have w_47 := pw_le (b := bs) (k := e44) (by omega) (by omega)
    obtain ⟨X47, hX47⟩ : ∃ X : Nat, X = bs ^ e44 := ⟨_, rfl⟩
    rw [← hX47] at p_47 w_47
    show GX T 12 212 50 [(2, 192), (0, p), (0, (k : Int) + 1)] [(1, x47), (1, 100)] m Q
    refine gx_ar (L' := [(2, 192), (0, p), (0, (k : Int) + 1)]) (S' := []) (t := 1) (e := w64 (100 * x47)) (z := 100 * x47) r_212_50 rfl rfl rfl (w64_eq (by omega) (by omega) (by omega)) ?_
    refine gx_st (L' := [(2, 192), (0, p), (0, (k : Int) + 1)]) (S' := [(0, p), (1, 100 * x47)]) r_212_51 rfl rfl rfl ?_
    refine gx_st (L' := [(2, 192), (0, p), (0, (k : Int) + 1)]) (S' := [(1, p), (1, 100 * x47)]) r_212_52 rfl rfl rfl ?_
    refine gx_st (L' := [(2, 192), (0, p), (0, (k : Int) + 1)]) (S' := [(1, 10), (1, p), (1, 100 * x47)]) r_212_53 rfl rfl rfl ?_
    refine gx_st (L' := [(2, 192), (0, p), (0, (k : Int) + 1)]) (S' := [(2, 192), (1, 10), (1, p), (1, 100 * x47)]) r_212_56 rfl rfl rfl ?_
    refine gx_st (L' := [(2, 192), (0, p), (0, (k : Int) + 1)]) (S' := [(0, (k : Int) + 1), (2, 192), (1, 10), (1, p), (1, 100 * x47)]) r_212_57 rfl rfl rfl ?_
    refine gx_ci (nx := 61) (S2 := [(1, 10), (1, p), (1, 100 * x47)]) (x_158 hT hm (c := k + 1) (by omega)) r_212_58 rfl rfl rfl rfl rfl (rcv_v rfl (tk_192 hT) (by decide) rfl (by decide)) rfl (by decide) rfl (fun x58 n58 q58 => ?_)
    obtain ⟨v_58, z_58⟩ := q58
    obtain rfl := z_58.symm
    obtain ⟨e58, he58⟩ : ∃ e : Nat, x58 = (e : Int) := ⟨(x58).toNat, by omega⟩
    rw [he58]
    show GX T 12 212 61 [(2, 192), (0, p), (0, (k : Int) + 1)] [(0, (e58 : Int)), (1, 10), (1, p), (1, 100 * x47)] m Q
    refine gx_cl (nx := 64) (S2 := [(1, p), (1, 100 * x47)]) (x_210 (b := 10) (e := e58) (by omega) (by omega)) r_212_61 rfl rfl rfl rfl rfl rfl rfl (by decide) rfl (fun x61 n61 q61 => ?_)
    obtain ⟨p_61, z_61⟩ := q61
    obtain rfl := z_61.symm
    have w_61 := pw_le (b := 10) (k := e58) (by omega) (by omega)
    obtain ⟨X61, hX61⟩ : ∃ X : Nat, X = 10 ^ e58 := ⟨_, rfl⟩
    rw [← hX61] at p_61 w_61
    have y_61 : 0 < X61 := by rw [hX61]; exact Nat.pow_pos (by decide)
    show GX T 12 212 64 [(2, 192), (0, p), (0, (k : Int) + 1)] [(1, x61), (1, p), (1, 100 * x47)] m Q
    have m1_ : 0 ≤ p * x61 := Int.mul_nonneg (by omega) (by omega)
    have m2_ : p * x61 ≤ 100 * x61 := Int.mul_le_mul_of_nonneg_right (by omega) (by omega)
    refine gx_ar (L' := [(2, 192), (0, p), (0, (k : Int) + 1)]) (S' := [(1, 100 * x47)]) (t := 1) (e := w64 (p * x61)) (z := (p * x61)) r_212_64 rfl rfl rfl (w64_eq rfl (by omega) (by omega)) ?_
    refine gx_st (L' := [(2, 192), (0, p), (0, (k : Int) + 1)]) (S' := [(0, (if (100 * x47) < (p * x61) then -1 else if (100 * x47) = (p * x61) then 0 else 1))]) r_212_65 rfl rfl rfl ?_
    refine gx_i0 (P := (p * x61) ≤ (100 * x47)) r_212_66 (lc_ge) (fun h66 => ?_) (fun h66 => ?_)
    · refine gx_st (L' := [(2, 192), (0, p), (0, (k : Int) + 1)]) (S' := [(0, (k : Int) + 1)]) r_212_75 rfl rfl rfl ?_
      exact gx_rt r_212_76 rfl rfl (hout (k + 1) (by omega))
    · refine gx_li (z := (k : Int)) (L' := [(2, 192), (0, p), (0, (k : Int))]) r_212_69 rfl (w32_eq (by omega) (by omega) (by omega)) rfl ?_
      refine gx_st (L' := [(2, 192), (0, p), (0, (k : Int))]) (S' := []) r_212_72 rfl rfl rfl ?_
      exact ih (by omega)
theorem x_212 {T : List Kd} {m : Mm} (hT : TT T) (h136 : ConH T cn_136) (hm : Gam m) (hx : Ext m) (p : Int) : GX T 12 212 0 [(2, 192), (0, p), (9, 0)] [] m (RI (fun v m1 => -2147483648 ≤ v ∧ v ≤ 2147483647 ∧ Gam m1 ∧ Ext m1 ∧ Fr [90021, 90022, 90023, 90024, 90025, 90026, 90027, 97999, 98999, 99999, 100999, 101999, 102999] m m1)) := by
  refine gx_st (L' := [(2, 192), (0, p), (9, 0)]) (S' := [(2, 192)]) r_212_0 rfl rfl rfl ?_
  refine gx_ci (nx := 4) (S2 := []) (x_146 hT h136 hm hx) r_212_1 rfl rfl rfl rfl rfl (rcv_v rfl (tk_192 hT) (by decide) rfl (by decide)) rfl (by decide) rfl (fun x1 n1 q1 => ?_)
  show GX T 12 212 4 [(2, 192), (0, p), (9, 0)] [(0, x1)] n1 (RI (fun v m1 => -2147483648 ≤ v ∧ v ≤ 2147483647 ∧ Gam m1 ∧ Ext m1 ∧ Fr [90021, 90022, 90023, 90024, 90025, 90026, 90027, 97999, 98999, 99999, 100999, 101999, 102999] m m1))
  have f_n1 : Fr [90021, 90022, 90023, 90024, 90025, 90026, 90027, 97999, 98999, 99999, 100999, 101999, 102999] m n1 := Fr_sub (W' := [90021, 90022, 90023, 90024, 90025, 90026, 90027, 97999, 98999, 99999, 100999, 101999, 102999]) q1.2.2.2.1 (by decide)
  have v_x1 := q1.1
  refine gx_i0 (P := x1 = 0) r_212_4 (rfl) (fun h4 => ?_) (fun h4 => ?_)
  · refine gx_st (L' := [(2, 192), (0, p), (9, 0)]) (S' := [(0, (-2))]) r_212_19 rfl rfl rfl ?_
    exact gx_rt r_212_21 rfl rfl ⟨_, rfl, by omega, by omega, q1.2.1, q1.2.2.1, f_n1⟩
  · refine gx_st (L' := [(2, 192), (0, p), (9, 0)]) (S' := [(0, p)]) r_212_7 rfl rfl rfl ?_
    refine gx_st (L' := [(2, 192), (0, p), (9, 0)]) (S' := [(1, p)]) r_212_8 rfl rfl rfl ?_
    refine gx_st (L' := [(2, 192), (0, p), (9, 0)]) (S' := [(1, 0), (1, p)]) r_212_9 rfl rfl rfl ?_
    refine gx_st (L' := [(2, 192), (0, p), (9, 0)]) (S' := [(1, 100), (1, 0), (1, p)]) r_212_10 rfl rfl rfl ?_
    refine gx_ci (nx := 16) (S2 := []) (x_86 p 0 100) r_212_13 rfl rfl rfl rfl rfl rfl rfl (by decide) rfl (fun x13 n13 q13 => ?_)
    obtain rfl := q13.1.symm
    obtain rfl := q13.2.symm
    show GX T 12 212 16 [(2, 192), (0, p), (9, 0)] [(0, (if 0 ≤ p ∧ p ≤ 100 then 1 else 0))] n1 (RI (fun v m1 => -2147483648 ≤ v ∧ v ≤ 2147483647 ∧ Gam m1 ∧ Ext m1 ∧ Fr [90021, 90022, 90023, 90024, 90025, 90026, 90027, 97999, 98999, 99999, 100999, 101999, 102999] m m1))
    refine gx_i0 (P := 0 ≤ p ∧ p ≤ 100) r_212_16 (b01_ne) (fun h16 => ?_) (fun h16 => ?_)
    · refine gx_st (L' := [(2, 192), (0, p), (9, 0)]) (S' := [(2, 192)]) r_212_22 rfl rfl rfl ?_
      refine gx_gf (x := 193) 2 r_212_23 rfl (tk_192 hT) ⟨by decide, rfl, by decide, by decide⟩ rfl (fun _ => by decide) (pr_192_1 q1.2.1) ?_
      refine gx_st (L' := [(2, 192), (0, p), (9, 0)]) (S' := [(0, 1), (2, 193)]) r_212_26 rfl rfl rfl ?_
      obtain ⟨x27, e_x27⟩ : ∃ z, z = n1 193 (1) := ⟨_, rfl⟩
      have b_x27 := gb_193_1 q1.2.1
      rw [← e_x27] at b_x27
      refine gx_ia (n := 1) (x := x27) r_212_27 rfl (tk_193 hT) (rfl) ⟨rfl, by decide⟩ (e_x27.symm) ?_
      refine gx_st (L' := [(2, 192), (0, p), (0, x27)]) (S' := []) r_212_28 rfl rfl rfl ?_
      obtain ⟨hh, hhh⟩ : ∃ c : Nat, n1 193 1 = (c : Int) := ⟨(n1 193 1).toNat, by have := gb_193_1 q1.2.1; omega⟩
      have bhh := gb_193_1 q1.2.1
      obtain ⟨od, hod⟩ : ∃ c : Nat, n1 193 3 = (c : Int) := ⟨(n1 193 3).toNat, by have := gb_193_3 q1.2.1; omega⟩
      have bod := gb_193_3 q1.2.1
      obtain ⟨bs, hbs⟩ : ∃ c : Nat, 10 - (od : Int) = (c : Int) := ⟨(10 - (od : Int)).toNat, by omega⟩
      have e_hh : x27 = (hh : Int) := e_x27.trans hhh
      rw [e_hh]
      exact sure_l hT q1.2.1 (by omega) (by omega) hod hbs (fun k hk => ⟨_, rfl, by omega, by omega, q1.2.1, q1.2.2.1, f_n1⟩) hh (by omega)
    · refine gx_st (L' := [(2, 192), (0, p), (9, 0)]) (S' := [(0, (-2))]) r_212_19 rfl rfl rfl ?_
      exact gx_rt r_212_21 rfl rfl ⟨_, rfl, by omega, by omega, q1.2.1, q1.2.2.1, f_n1⟩
theorem needs_l {T : List Kd} {m0 : Mm} {Q : AV → Mm → Prop} (hT : TT T) (h136 : ConH T cn_136) {q : Nat} (hq : q < 5) (hret : ∀ (v : Int) (m : Mm), in32 v → Gam m → Ext m → Fr [90021, 90022, 90023, 90024, 90025, 90026, 90027, 90028, 97999, 98999, 99999, 100999, 101999, 102999] m0 m → Q (0, v) m) : ∀ (N k : Nat) (m : Mm), 100 - k < N → k ≤ 100 → Gam m → Ext m → FS m → Fr [90021, 90022, 90023, 90024, 90025, 90026, 90027, 90028, 97999, 98999, 99999, 100999, 101999, 102999] m0 m → m 192 28 = (k : Int) → GX T 12 192 25 [(2, 192), (0, (q : Int))] [] m Q := by
  intro N
  induction N with
  | zero => intro k m hN; exact absurd hN (Nat.not_lt_zero _)
  | succ N ih =>
    intro k m hN hk hm hx hs hf hfl
    refine gx_st (L' := [(2, 192), (0, (q : Int))]) (S' := [(2, 192)]) r_192_25 rfl rfl rfl ?_
    refine gx_gf (x := (k : Int)) 0 r_192_26 rfl (tk_192 hT) ⟨by decide, rfl, by decide, by decide⟩ rfl (fun z => absurd z (by decide)) (hfl) ?_
    refine gx_st (L' := [(2, 192), (0, (q : Int))]) (S' := [(0, 100), (0, (k : Int))]) r_192_29 rfl rfl rfl ?_
    refine gx_ic (P := 100 ≤ (k : Int)) r_192_31 (rfl) (fun h31 => ?_) (fun h31 => ?_)
    · refine gx_st (L' := [(2, 192), (0, (q : Int))]) (S' := [(0, (-1))]) r_192_74 rfl rfl rfl ?_
      exact gx_rt r_192_75 rfl rfl (hret _ _ (by unfold in32; omega) hm hx hf)
    · refine gx_st (L' := [(2, 192), (0, (q : Int))]) (S' := [(2, 192)]) r_192_34 rfl rfl rfl ?_
      refine gx_cv (nx := 38) (S2 := []) (x_145 hT h136 hm hx hs) r_192_35 rfl rfl rfl rfl rfl (rcv_v rfl (tk_192 hT) (by decide) rfl (by decide)) rfl (by decide) rfl (fun n35 q35 => ?_)
      have f_n35 : Fr [90021, 90022, 90023, 90024, 90025, 90026, 90027, 90028, 97999, 98999, 99999, 100999, 101999, 102999] m0 n35 := Fr_tr hf (Fr_sub (W' := [90021, 90022, 90023, 90024, 90025, 90026, 90027, 90028, 97999, 98999, 99999, 100999, 101999, 102999]) q35.2.2.1 (by decide))
      obtain ⟨c, hc⟩ : ∃ c : Nat, n35 193 1 = (c : Int) := ⟨(n35 193 1).toNat, by have := gb_193_1 q35.1; omega⟩
      have bc := gb_193_1 q35.1
      have hfl2 : n35 192 28 = (k : Int) := (q35.2.2.1 192 28 rfl).trans hfl
      refine gx_st (L' := [(2, 192), (0, (q : Int))]) (S' := [(2, 192)]) r_192_38 rfl rfl rfl ?_
      refine gx_st (L' := [(2, 192), (0, (q : Int))]) (S' := [(2, 192), (2, 192)]) r_192_39 rfl rfl rfl ?_
      refine gx_gf (x := 193) 2 r_192_40 rfl (tk_192 hT) ⟨by decide, rfl, by decide, by decide⟩ rfl (fun _ => by decide) (pr_192_1 q35.1) ?_
      refine gx_st (L' := [(2, 192), (0, (q : Int))]) (S' := [(0, 1), (2, 193), (2, 192)]) r_192_43 rfl rfl rfl ?_
      refine gx_ia (n := 1) (x := (c : Int)) r_192_44 rfl (tk_193 hT) (rfl) ⟨rfl, by decide⟩ (hc) ?_
      refine gx_st (L' := [(2, 192), (0, (q : Int))]) (S' := [(0, 5), (0, (c : Int)), (2, 192)]) r_192_45 rfl rfl rfl ?_
      refine gx_ci (nx := 49) (S2 := []) (x_131 hT q35.1 (h := c) (k := 5) (by omega) (by omega)) r_192_46 rfl rfl rfl rfl rfl (rcv_v rfl (tk_192 hT) (by decide) rfl (by decide)) rfl (by decide) rfl (fun x46 n46 q46 => ?_)
      obtain ⟨e_x46, z_x46⟩ := q46
      obtain rfl := z_x46.symm
      have b_x46 := gb_200 q35.1 (i := 16 * (c) + (5)) (by omega)
      rw [← e_x46] at b_x46
      show GX T 12 192 49 [(2, 192), (0, (q : Int))] [(0, x46)] n35 Q
      refine gx_st (L' := [(2, 192), (0, (q : Int))]) (S' := [(0, (q : Int)), (0, x46)]) r_192_49 rfl rfl rfl ?_
      refine gx_ci (nx := 53) (S2 := []) (x_87 x46 (q : Int)) r_192_50 rfl rfl rfl rfl rfl rfl rfl (by decide) rfl (fun x50 n50 q50 => ?_)
      obtain ⟨e_x50, z_x50⟩ := q50
      obtain rfl := z_x50.symm
      have b_x50 : -2147483648 ≤ x50 ∧ x50 ≤ 2147483647 := by rw [e_x50]; exact i32_in _
      show GX T 12 192 53 [(2, 192), (0, (q : Int))] [(0, x50)] n35 Q
      refine gx_i0 (P := ¬ x50 = 0) r_192_53 (rfl) (fun h53 => ?_) (fun h53 => ?_)
      · refine gx_st (L' := [(2, 192), (0, (q : Int))]) (S' := [(2, 192)]) r_192_61 rfl rfl rfl ?_
        refine gx_st (L' := [(2, 192), (0, (q : Int))]) (S' := [(2, 192), (2, 192)]) r_192_62 rfl rfl rfl ?_
        refine gx_gf (x := (k : Int)) 0 r_192_63 rfl (tk_192 hT) ⟨by decide, rfl, by decide, by decide⟩ rfl (fun z => absurd z (by decide)) (hfl2) ?_
        refine gx_st (L' := [(2, 192), (0, (q : Int))]) (S' := [(0, 1), (0, (k : Int)), (2, 192)]) r_192_66 rfl rfl rfl ?_
        refine gx_ar (L' := [(2, 192), (0, (q : Int))]) (S' := [(2, 192)]) (t := 0) (e := w32 ((k : Int) + 1)) (z := (k : Int) + 1) r_192_67 rfl rfl rfl (w32_eq (by omega) (by omega) (by omega)) ?_
        obtain ⟨m1, e_m1⟩ : ∃ z, z = nu_up n35 192 28 ((k : Int) + 1) := ⟨_, rfl⟩
        have h_m1 : Gam m1 := by rw [e_m1]; exact gu_192_28 q35.1 (by omega) (by omega)
        have f_m1 : Fr [90021, 90022, 90023, 90024, 90025, 90026, 90027, 90028, 97999, 98999, 99999, 100999, 101999, 102999] m0 m1 := Fr_tr f_n35 (by rw [e_m1]; exact Fr_up rfl)
        have x_m1 : Ext m1 := Ext_fr (W := [90028]) (by rw [e_m1]; exact Fr_up rfl) (by decide) q35.2.1
        have s_m1 : FS m1 := FS_fr (W := [90028]) (by rw [e_m1]; exact Fr_up rfl) (by decide) q35.2.2.2
        refine gx_pf (x := (k : Int) + 1) 0 r_192_68 rfl (tk_192 hT) ⟨by decide, rfl, by decide, by decide⟩ rfl (fun z => absurd z (by decide)) (fun z => absurd z (by decide)) e_m1.symm ?_
        refine gx_st (L' := [(2, 192), (0, (q : Int))]) (S' := []) r_192_71 rfl rfl rfl ?_
        exact ih (k + 1) m1 (by omega) (by omega) h_m1 x_m1 s_m1 f_m1 (by rw [e_m1, nu_at]; omega)
      · have h53 := Decidable.not_not.mp h53
        refine gx_st (L' := [(2, 192), (0, (q : Int))]) (S' := [(2, 192)]) r_192_56 rfl rfl rfl ?_
        refine gx_gf (x := (k : Int)) 0 r_192_57 rfl (tk_192 hT) ⟨by decide, rfl, by decide, by decide⟩ rfl (fun z => absurd z (by decide)) (hfl2) ?_
        exact gx_rt r_192_60 rfl rfl (hret _ _ (by unfold in32; omega) q35.1 q35.2.1 f_n35)
theorem x_192 {T : List Kd} {m : Mm} (hT : TT T) (h136 : ConH T cn_136) (hm : Gam m) (hx : Ext m) (a : Int) : GX T 12 192 0 [(2, 192), (0, a)] [] m (RI (fun v m1 => -2147483648 ≤ v ∧ v ≤ 2147483647 ∧ Gam m1 ∧ Ext m1 ∧ Fr [90021, 90022, 90023, 90024, 90025, 90026, 90027, 90028, 97999, 98999, 99999, 100999, 101999, 102999] m m1)) := by
  refine gx_st (L' := [(2, 192), (0, a)]) (S' := [(2, 192)]) r_192_0 rfl rfl rfl ?_
  refine gx_cv (nx := 4) (S2 := []) (x_143 hT hm hx) r_192_1 rfl rfl rfl rfl rfl (rcv_v rfl (tk_192 hT) (by decide) rfl (by decide)) rfl (by decide) rfl (fun n1 q1 => ?_)
  have f_n1 : Fr [90021, 90022, 90023, 90024, 90025, 90026, 90027, 90028, 97999, 98999, 99999, 100999, 101999, 102999] m n1 := Fr_sub (W' := [90021, 90022, 90023, 90024, 90025, 90026, 90027, 90028, 97999, 98999, 99999, 100999, 101999, 102999]) q1.2.2.1 (by decide)
  refine gx_st (L' := [(2, 192), (0, a)]) (S' := [(2, 192)]) r_192_4 rfl rfl rfl ?_
  refine gx_st (L' := [(2, 192), (0, a)]) (S' := [(0, a), (2, 192)]) r_192_5 rfl rfl rfl ?_
  refine gx_ci (nx := 9) (S2 := []) (x_96 hT q1.1 a) r_192_6 rfl rfl rfl rfl rfl (rcv_v rfl (tk_192 hT) (by decide) rfl (by decide)) rfl (by decide) rfl (fun x6 n6 q6 => ?_)
  obtain rfl := q6.1.symm
  obtain rfl := q6.2.symm
  show GX T 12 192 9 [(2, 192), (0, a)] [(0, (if 0 ≤ a ∧ a ≤ n1 193 7 - 1 then 1 else 0))] n1 (RI (fun v m1 => -2147483648 ≤ v ∧ v ≤ 2147483647 ∧ Gam m1 ∧ Ext m1 ∧ Fr [90021, 90022, 90023, 90024, 90025, 90026, 90027, 90028, 97999, 98999, 99999, 100999, 101999, 102999] m m1))
  refine gx_i0 (P := 0 ≤ a ∧ a ≤ n1 193 7 - 1) r_192_9 (b01_ne) (fun h9 => ?_) (fun h9 => ?_)
  · have b7_ := gb_193_7 q1.1
    obtain ⟨q, hqa⟩ : ∃ q : Nat, a = (q : Int) := ⟨a.toNat, by omega⟩
    have hq5 : q < 5 := by omega
    rw [hqa]
    show GX T 12 192 15 [(2, 192), (0, (q : Int))] [] n1 (RI (fun v m1 => -2147483648 ≤ v ∧ v ≤ 2147483647 ∧ Gam m1 ∧ Ext m1 ∧ Fr [90021, 90022, 90023, 90024, 90025, 90026, 90027, 90028, 97999, 98999, 99999, 100999, 101999, 102999] m m1))
    refine gx_st (L' := [(2, 192), (0, (q : Int))]) (S' := [(2, 192)]) r_192_15 rfl rfl rfl ?_
    refine gx_st (L' := [(2, 192), (0, (q : Int))]) (S' := [(0, (q : Int)), (2, 192)]) r_192_16 rfl rfl rfl ?_
    obtain ⟨m1, e_m1⟩ : ∃ z, z = nu_up n1 192 27 (q : Int) := ⟨_, rfl⟩
    have h_m1 : Gam m1 := by rw [e_m1]; exact gu_192_27 q1.1 (by omega) (by omega)
    have f_m1 : Fr [90021, 90022, 90023, 90024, 90025, 90026, 90027, 90028, 97999, 98999, 99999, 100999, 101999, 102999] m m1 := Fr_tr f_n1 (by rw [e_m1]; exact Fr_up rfl)
    have x_m1 : Ext m1 := Ext_fr (W := [90027]) (by rw [e_m1]; exact Fr_up rfl) (by decide) q1.2.1
    have s_m1 : FS m1 := FS_fr (W := [90027]) (by rw [e_m1]; exact Fr_up rfl) (by decide) q1.2.2.2
    refine gx_pf (x := (q : Int)) 0 r_192_17 rfl (tk_192 hT) ⟨by decide, rfl, by decide, by decide⟩ rfl (fun z => absurd z (by decide)) (fun z => absurd z (by decide)) e_m1.symm ?_
    refine gx_st (L' := [(2, 192), (0, (q : Int))]) (S' := [(2, 192)]) r_192_20 rfl rfl rfl ?_
    refine gx_st (L' := [(2, 192), (0, (q : Int))]) (S' := [(0, 1), (2, 192)]) r_192_21 rfl rfl rfl ?_
    obtain ⟨m2, e_m2⟩ : ∃ z, z = nu_up m1 192 28 1 := ⟨_, rfl⟩
    have h_m2 : Gam m2 := by rw [e_m2]; exact gu_192_28 h_m1 (by omega) (by omega)
    have f_m2 : Fr [90021, 90022, 90023, 90024, 90025, 90026, 90027, 90028, 97999, 98999, 99999, 100999, 101999, 102999] m m2 := Fr_tr f_m1 (by rw [e_m2]; exact Fr_up rfl)
    have x_m2 : Ext m2 := Ext_fr (W := [90028]) (by rw [e_m2]; exact Fr_up rfl) (by decide) x_m1
    have s_m2 : FS m2 := FS_fr (W := [90028]) (by rw [e_m2]; exact Fr_up rfl) (by decide) s_m1
    refine gx_pf (x := 1) 0 r_192_22 rfl (tk_192 hT) ⟨by decide, rfl, by decide, by decide⟩ rfl (fun z => absurd z (by decide)) (fun z => absurd z (by decide)) e_m2.symm ?_
    exact needs_l hT h136 hq5 (m0 := m) (fun v m1 hv h1 h2 h3 => ⟨v, rfl, hv.1, hv.2, h1, h2, h3⟩) 100 1 m2 (by omega) (by omega) h_m2 x_m2 s_m2 f_m2 (by rw [e_m2, nu_at]; rfl)
  · refine gx_st (L' := [(2, 192), (0, a)]) (S' := [(0, (-2))]) r_192_12 rfl rfl rfl ?_
    exact gx_rt r_192_14 rfl rfl ⟨_, rfl, by omega, by omega, q1.1, q1.2.1, f_n1⟩
theorem x_182 {T : List Kd} {m : Mm} (hT : TT T) (h136 : ConH T cn_136) (h174 : ConX T cn_174 false true) (hm : Gam m) (hx : Ext m)  : GX T 6 182 0 [(2, 192)] [] m (RI (fun v m1 => (v = 0 ∨ v = 1) ∧ Gam m1 ∧ Ext m1 ∧ Fr [90021, 90022, 90023, 90024, 90025, 90026, 90027, 97999, 98999, 99999, 100999, 101999, 102999] m m1 ∧ FS m1)) := by
  refine gx_st (L' := [(2, 192)]) (S' := [(2, 192)]) r_182_0 rfl rfl rfl ?_
  refine gx_cv (nx := 4) (S2 := []) (gx_xv (args := [(2, 192)]) h174 ⟨gq_o192, trivial⟩ hm hx (fun z => absurd z (by decide)) rfl) r_182_1 rfl rfl rfl rfl rfl (rcv_v rfl (tk_192 hT) (by decide) rfl (by decide)) rfl (by decide) rfl (fun n1 q1 => ?_)
  have f_n1 : Fr [90021, 90022, 90023, 90024, 90025, 90026, 90027, 97999, 98999, 99999, 100999, 101999, 102999] m n1 := Fr_sub (W' := [90021, 90022, 90023, 90024, 90025, 90026, 90027, 97999, 98999, 99999, 100999, 101999, 102999]) q1.2.2.1 (by decide)
  have s_n1 : FS n1 := q1.2.2.2 rfl
  refine gx_st (L' := [(2, 192)]) (S' := [(2, 192)]) r_182_4 rfl rfl rfl ?_
  refine gx_ci (nx := 8) (S2 := []) (x_90 hT q1.1) r_182_5 rfl rfl rfl rfl rfl (rcv_v rfl (tk_192 hT) (by decide) rfl (by decide)) rfl (by decide) rfl (fun x5 n5 q5 => ?_)
  obtain rfl := q5.1.symm
  obtain rfl := q5.2.symm
  show GX T 6 182 8 [(2, 192)] [(0, (if 0 < n1 193 9 then 1 else 0))] n1 (RI (fun v m1 => (v = 0 ∨ v = 1) ∧ Gam m1 ∧ Ext m1 ∧ Fr [90021, 90022, 90023, 90024, 90025, 90026, 90027, 97999, 98999, 99999, 100999, 101999, 102999] m m1 ∧ FS m1))
  exact gx_rb r_182_8 rfl (by split <;> omega) ⟨_, rfl, by split <;> omega, q1.1, q1.2.1, f_n1, s_n1⟩
theorem drops_l {T : List Kd} {m0 : Mm} {Q : AV → Mm → Prop} (hT : TT T) (h136 : ConH T cn_136)  (hret : ∀ (v : Int) (m : Mm), in32 v → Gam m → Ext m → Fr [90021, 90022, 90023, 90024, 90025, 90026, 90027, 97999, 98999, 99999, 100999, 101999, 102999] m0 m → Q (0, v) m) : ∀ (N k : Nat) (m : Mm), 21 - k < N → k ≤ 21 → Gam m → Ext m → FS m → Fr [90021, 90022, 90023, 90024, 90025, 90026, 90027, 97999, 98999, 99999, 100999, 101999, 102999] m0 m → m 192 26 = (k : Int) → GX T 12 193 15 [(2, 192)] [] m Q := by
  intro N
  induction N with
  | zero => intro k m hN; exact absurd hN (Nat.not_lt_zero _)
  | succ N ih =>
    intro k m hN hk hm hx hs hf hfl
    refine gx_st (L' := [(2, 192)]) (S' := [(2, 192)]) r_193_15 rfl rfl rfl ?_
    refine gx_gf (x := (k : Int)) 0 r_193_16 rfl (tk_192 hT) ⟨by decide, rfl, by decide, by decide⟩ rfl (fun z => absurd z (by decide)) (hfl) ?_
    refine gx_st (L' := [(2, 192)]) (S' := [(0, 20), (0, (k : Int))]) r_193_19 rfl rfl rfl ?_
    refine gx_ic (P := 20 < (k : Int)) r_193_21 (rfl) (fun h21 => ?_) (fun h21 => ?_)
    · refine gx_st (L' := [(2, 192)]) (S' := [(0, (-1))]) r_193_53 rfl rfl rfl ?_
      exact gx_rt r_193_54 rfl rfl (hret _ _ (by unfold in32; omega) hm hx hf)
    · refine gx_st (L' := [(2, 192)]) (S' := [(2, 192)]) r_193_24 rfl rfl rfl ?_
      refine gx_cv (nx := 28) (S2 := []) (x_145 hT h136 hm hx hs) r_193_25 rfl rfl rfl rfl rfl (rcv_v rfl (tk_192 hT) (by decide) rfl (by decide)) rfl (by decide) rfl (fun n25 q25 => ?_)
      have f_n25 : Fr [90021, 90022, 90023, 90024, 90025, 90026, 90027, 97999, 98999, 99999, 100999, 101999, 102999] m0 n25 := Fr_tr hf (Fr_sub (W' := [90021, 90022, 90023, 90024, 90025, 90026, 90027, 97999, 98999, 99999, 100999, 101999, 102999]) q25.2.2.1 (by decide))
      have hfl2 : n25 192 26 = (k : Int) := (q25.2.2.1 192 26 rfl).trans hfl
      refine gx_st (L' := [(2, 192)]) (S' := [(2, 192)]) r_193_28 rfl rfl rfl ?_
      obtain ⟨x29, e_x29⟩ : ∃ z, z = n25 192 22 := ⟨_, rfl⟩
      have b_x29 := gb_192_22 q25.1
      rw [← e_x29] at b_x29
      refine gx_gf (x := x29) 0 r_193_29 rfl (tk_192 hT) ⟨by decide, rfl, by decide, by decide⟩ rfl (fun z => absurd z (by decide)) (e_x29.symm) ?_
      refine gx_i0 (P := ¬ x29 = 0) r_193_32 (rfl) (fun h32 => ?_) (fun h32 => ?_)
      · refine gx_st (L' := [(2, 192)]) (S' := [(2, 192)]) r_193_40 rfl rfl rfl ?_
        refine gx_st (L' := [(2, 192)]) (S' := [(2, 192), (2, 192)]) r_193_41 rfl rfl rfl ?_
        refine gx_gf (x := (k : Int)) 0 r_193_42 rfl (tk_192 hT) ⟨by decide, rfl, by decide, by decide⟩ rfl (fun z => absurd z (by decide)) (hfl2) ?_
        refine gx_st (L' := [(2, 192)]) (S' := [(0, 1), (0, (k : Int)), (2, 192)]) r_193_45 rfl rfl rfl ?_
        refine gx_ar (L' := [(2, 192)]) (S' := [(2, 192)]) (t := 0) (e := w32 ((k : Int) + 1)) (z := (k : Int) + 1) r_193_46 rfl rfl rfl (w32_eq (by omega) (by omega) (by omega)) ?_
        obtain ⟨m1, e_m1⟩ : ∃ z, z = nu_up n25 192 26 ((k : Int) + 1) := ⟨_, rfl⟩
        have h_m1 : Gam m1 := by rw [e_m1]; exact gu_192_26 q25.1 (by omega) (by omega)
        have f_m1 : Fr [90021, 90022, 90023, 90024, 90025, 90026, 90027, 97999, 98999, 99999, 100999, 101999, 102999] m0 m1 := Fr_tr f_n25 (by rw [e_m1]; exact Fr_up rfl)
        have x_m1 : Ext m1 := Ext_fr (W := [90026]) (by rw [e_m1]; exact Fr_up rfl) (by decide) q25.2.1
        have s_m1 : FS m1 := FS_fr (W := [90026]) (by rw [e_m1]; exact Fr_up rfl) (by decide) q25.2.2.2
        refine gx_pf (x := (k : Int) + 1) 0 r_193_47 rfl (tk_192 hT) ⟨by decide, rfl, by decide, by decide⟩ rfl (fun z => absurd z (by decide)) (fun z => absurd z (by decide)) e_m1.symm ?_
        refine gx_st (L' := [(2, 192)]) (S' := []) r_193_50 rfl rfl rfl ?_
        exact ih (k + 1) m1 (by omega) (by omega) h_m1 x_m1 s_m1 f_m1 (by rw [e_m1, nu_at]; omega)
      · have h32 := Decidable.not_not.mp h32
        refine gx_st (L' := [(2, 192)]) (S' := [(2, 192)]) r_193_35 rfl rfl rfl ?_
        refine gx_gf (x := (k : Int)) 0 r_193_36 rfl (tk_192 hT) ⟨by decide, rfl, by decide, by decide⟩ rfl (fun z => absurd z (by decide)) (hfl2) ?_
        exact gx_rt r_193_39 rfl rfl (hret _ _ (by unfold in32; omega) q25.1 q25.2.1 f_n25)
theorem x_193 {T : List Kd} {m : Mm} (hT : TT T) (h136 : ConH T cn_136) (h174 : ConX T cn_174 false true) (hm : Gam m) (hx : Ext m)  : GX T 12 193 0 [(2, 192)] [] m (RI (fun v m1 => -2147483648 ≤ v ∧ v ≤ 2147483647 ∧ Gam m1 ∧ Ext m1 ∧ Fr [90021, 90022, 90023, 90024, 90025, 90026, 90027, 97999, 98999, 99999, 100999, 101999, 102999] m m1)) := by
  refine gx_st (L' := [(2, 192)]) (S' := [(2, 192)]) r_193_0 rfl rfl rfl ?_
  refine gx_ci (nx := 4) (S2 := []) (x_182 hT h136 h174 hm hx) r_193_1 rfl rfl rfl rfl rfl (rcv_v rfl (tk_192 hT) (by decide) rfl (by decide)) rfl (by decide) rfl (fun x1 n1 q1 => ?_)
  show GX T 12 193 4 [(2, 192)] [(0, x1)] n1 (RI (fun v m1 => -2147483648 ≤ v ∧ v ≤ 2147483647 ∧ Gam m1 ∧ Ext m1 ∧ Fr [90021, 90022, 90023, 90024, 90025, 90026, 90027, 97999, 98999, 99999, 100999, 101999, 102999] m m1))
  have f_n1 : Fr [90021, 90022, 90023, 90024, 90025, 90026, 90027, 97999, 98999, 99999, 100999, 101999, 102999] m n1 := Fr_sub (W' := [90021, 90022, 90023, 90024, 90025, 90026, 90027, 97999, 98999, 99999, 100999, 101999, 102999]) q1.2.2.2.1 (by decide)
  have v_x1 := q1.1
  refine gx_i0 (P := ¬ x1 = 0) r_193_4 (rfl) (fun h4 => ?_) (fun h4 => ?_)
  · refine gx_st (L' := [(2, 192)]) (S' := [(2, 192)]) r_193_10 rfl rfl rfl ?_
    refine gx_st (L' := [(2, 192)]) (S' := [(0, 1), (2, 192)]) r_193_11 rfl rfl rfl ?_
    obtain ⟨m1, e_m1⟩ : ∃ z, z = nu_up n1 192 26 1 := ⟨_, rfl⟩
    have h_m1 : Gam m1 := by rw [e_m1]; exact gu_192_26 q1.2.1 (by omega) (by omega)
    have f_m1 : Fr [90021, 90022, 90023, 90024, 90025, 90026, 90027, 97999, 98999, 99999, 100999, 101999, 102999] m m1 := Fr_tr f_n1 (by rw [e_m1]; exact Fr_up rfl)
    have x_m1 : Ext m1 := Ext_fr (W := [90026]) (by rw [e_m1]; exact Fr_up rfl) (by decide) q1.2.2.1
    have s_m1 : FS m1 := FS_fr (W := [90026]) (by rw [e_m1]; exact Fr_up rfl) (by decide) q1.2.2.2.2
    refine gx_pf (x := 1) 0 r_193_12 rfl (tk_192 hT) ⟨by decide, rfl, by decide, by decide⟩ rfl (fun z => absurd z (by decide)) (fun z => absurd z (by decide)) e_m1.symm ?_
    exact drops_l hT h136 (m0 := m) (fun v m1 hv h1 h2 h3 => ⟨v, rfl, hv.1, hv.2, h1, h2, h3⟩) 22 1 m1 (by omega) (by omega) h_m1 x_m1 s_m1 f_m1 (by rw [e_m1, nu_at]; rfl)
  · have h4 := Decidable.not_not.mp h4
    refine gx_st (L' := [(2, 192)]) (S' := [(0, (-2))]) r_193_7 rfl rfl rfl ?_
    exact gx_rt r_193_9 rfl rfl ⟨_, rfl, by omega, by omega, q1.2.1, q1.2.2.1, f_n1⟩
