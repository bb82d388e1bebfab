/-! image, back, feed of the reference -/
theorem r_88_0 : row 88 0 = some (.iload_n 1, 1, 0, 0, 0, 0) := rfl
theorem r_88_1 : row 88 1 = some (.i2l, 2, 0, 0, 0, 0) := rfl
theorem r_88_2 : row 88 2 = some (.lconst 0, 3, 0, 0, 0, 0) := rfl
theorem r_88_3 : row 88 3 = some (.ldc2_w 80, 6, 2, 0, 0, 6130) := rfl
theorem r_88_6 : row 88 6 = some (.invokestatic 82, 9, 86, 3, 0, 6131) := rfl
theorem r_88_9 : row 88 9 = some (.ifCond .ne 6, 12, 15, 0, 0, 0) := rfl
theorem r_88_12 : row 88 12 = some (.bipush (-2), 14, (-2), 0, 0, 0) := rfl
theorem r_88_14 : row 88 14 = some (.ireturn, 15, 0, 0, 0, 0) := rfl
theorem r_88_15 : row 88 15 = some (.iconst 0, 16, 0, 0, 0, 0) := rfl
theorem r_88_16 : row 88 16 = some (.istore_n 2, 17, 0, 0, 0, 0) := rfl
theorem r_88_17 : row 88 17 = some (.iload_n 2, 18, 0, 0, 0, 0) := rfl
theorem r_88_18 : row 88 18 = some (.bipush 69, 20, 69, 0, 0, 0) := rfl
theorem r_88_20 : row 88 20 = some (.if_icmp .ge 26, 23, 46, 0, 0, 0) := rfl
theorem r_88_23 : row 88 23 = some (.aload_n 0, 24, 0, 0, 0, 0) := rfl
theorem r_88_24 : row 88 24 = some (.getfield 13, 27, 10, 2, 2, 6003) := rfl
theorem r_88_27 : row 88 27 = some (.bipush 69, 29, 69, 0, 0, 0) := rfl
theorem r_88_29 : row 88 29 = some (.iload_n 1, 30, 0, 0, 0, 0) := rfl
theorem r_88_30 : row 88 30 = some (.imul, 31, 0, 0, 0, 0) := rfl
theorem r_88_31 : row 88 31 = some (.iload_n 2, 32, 0, 0, 0, 0) := rfl
theorem r_88_32 : row 88 32 = some (.iadd, 33, 0, 0, 0, 0) := rfl
theorem r_88_33 : row 88 33 = some (.aload_n 0, 34, 0, 0, 0, 0) := rfl
theorem r_88_34 : row 88 34 = some (.getfield 9, 37, 10, 1, 2, 6002) := rfl
theorem r_88_37 : row 88 37 = some (.iload_n 2, 38, 0, 0, 0, 0) := rfl
theorem r_88_38 : row 88 38 = some (.iaload, 39, 0, 0, 0, 0) := rfl
theorem r_88_39 : row 88 39 = some (.iastore, 40, 0, 0, 0, 0) := rfl
theorem r_88_40 : row 88 40 = some (.iinc 2 1, 43, 0, 0, 0, 0) := rfl
theorem r_88_43 : row 88 43 = some (.goto (-26), 46, 17, 0, 0, 0) := rfl
theorem r_88_46 : row 88 46 = some (.aload_n 0, 47, 0, 0, 0, 0) := rfl
theorem r_88_47 : row 88 47 = some (.getfield 16, 50, 10, 3, 2, 6004) := rfl
theorem r_88_50 : row 88 50 = some (.iload_n 1, 51, 0, 0, 0, 0) := rfl
theorem r_88_51 : row 88 51 = some (.iconst 1, 52, 1, 0, 0, 0) := rfl
theorem r_88_52 : row 88 52 = some (.bastore, 53, 0, 0, 0, 0) := rfl
theorem r_88_53 : row 88 53 = some (.iconst 0, 54, 0, 0, 0, 0) := rfl
theorem r_88_54 : row 88 54 = some (.ireturn, 55, 0, 0, 0, 0) := rfl
theorem r_89_0 : row 89 0 = some (.iload_n 1, 1, 0, 0, 0, 0) := rfl
theorem r_89_1 : row 89 1 = some (.i2l, 2, 0, 0, 0, 0) := rfl
theorem r_89_2 : row 89 2 = some (.lconst 0, 3, 0, 0, 0, 0) := rfl
theorem r_89_3 : row 89 3 = some (.ldc2_w 80, 6, 2, 0, 0, 6130) := rfl
theorem r_89_6 : row 89 6 = some (.invokestatic 82, 9, 86, 3, 0, 6131) := rfl
theorem r_89_9 : row 89 9 = some (.ifCond .ne 6, 12, 15, 0, 0, 0) := rfl
theorem r_89_12 : row 89 12 = some (.bipush (-2), 14, (-2), 0, 0, 0) := rfl
theorem r_89_14 : row 89 14 = some (.ireturn, 15, 0, 0, 0, 0) := rfl
theorem r_89_15 : row 89 15 = some (.aload_n 0, 16, 0, 0, 0, 0) := rfl
theorem r_89_16 : row 89 16 = some (.getfield 16, 19, 10, 3, 2, 6004) := rfl
theorem r_89_19 : row 89 19 = some (.iload_n 1, 20, 0, 0, 0, 0) := rfl
theorem r_89_20 : row 89 20 = some (.baload, 21, 0, 0, 0, 0) := rfl
theorem r_89_21 : row 89 21 = some (.ifCond .ne 6, 24, 27, 0, 0, 0) := rfl
theorem r_89_24 : row 89 24 = some (.bipush (-6), 26, (-6), 0, 0, 0) := rfl
theorem r_89_26 : row 89 26 = some (.ireturn, 27, 0, 0, 0, 0) := rfl
theorem r_89_27 : row 89 27 = some (.iconst 0, 28, 0, 0, 0, 0) := rfl
theorem r_89_28 : row 89 28 = some (.istore_n 2, 29, 0, 0, 0, 0) := rfl
theorem r_89_29 : row 89 29 = some (.iload_n 2, 30, 0, 0, 0, 0) := rfl
theorem r_89_30 : row 89 30 = some (.bipush 69, 32, 69, 0, 0, 0) := rfl
theorem r_89_32 : row 89 32 = some (.if_icmp .ge 26, 35, 58, 0, 0, 0) := rfl
theorem r_89_35 : row 89 35 = some (.aload_n 0, 36, 0, 0, 0, 0) := rfl
theorem r_89_36 : row 89 36 = some (.getfield 9, 39, 10, 1, 2, 6002) := rfl
theorem r_89_39 : row 89 39 = some (.iload_n 2, 40, 0, 0, 0, 0) := rfl
theorem r_89_40 : row 89 40 = some (.aload_n 0, 41, 0, 0, 0, 0) := rfl
theorem r_89_41 : row 89 41 = some (.getfield 13, 44, 10, 2, 2, 6003) := rfl
theorem r_89_44 : row 89 44 = some (.bipush 69, 46, 69, 0, 0, 0) := rfl
theorem r_89_46 : row 89 46 = some (.iload_n 1, 47, 0, 0, 0, 0) := rfl
theorem r_89_47 : row 89 47 = some (.imul, 48, 0, 0, 0, 0) := rfl
theorem r_89_48 : row 89 48 = some (.iload_n 2, 49, 0, 0, 0, 0) := rfl
theorem r_89_49 : row 89 49 = some (.iadd, 50, 0, 0, 0, 0) := rfl
theorem r_89_50 : row 89 50 = some (.iaload, 51, 0, 0, 0, 0) := rfl
theorem r_89_51 : row 89 51 = some (.iastore, 52, 0, 0, 0, 0) := rfl
theorem r_89_52 : row 89 52 = some (.iinc 2 1, 55, 0, 0, 0, 0) := rfl
theorem r_89_55 : row 89 55 = some (.goto (-26), 58, 29, 0, 0, 0) := rfl
theorem r_89_58 : row 89 58 = some (.iconst 0, 59, 0, 0, 0, 0) := rfl
theorem r_89_59 : row 89 59 = some (.ireturn, 60, 0, 0, 0, 0) := rfl
theorem r_100_0 : row 100 0 = some (.aload_n 0, 1, 0, 0, 0, 0) := rfl
theorem r_100_1 : row 100 1 = some (.getfield 90, 4, 10, 5, 0, 6006) := rfl
theorem r_100_4 : row 100 4 = some (.bipush 20, 6, 20, 0, 0, 0) := rfl
theorem r_100_6 : row 100 6 = some (.iadd, 7, 0, 0, 0, 0) := rfl
theorem r_100_7 : row 100 7 = some (.sipush 800, 10, 800, 0, 0, 0) := rfl
theorem r_100_10 : row 100 10 = some (.if_icmp .le 5, 13, 15, 0, 0, 0) := rfl
theorem r_100_13 : row 100 13 = some (.iconst (-1), 14, (-1), 0, 0, 0) := rfl
theorem r_100_14 : row 100 14 = some (.ireturn, 15, 0, 0, 0, 0) := rfl
theorem r_100_15 : row 100 15 = some (.aload_n 0, 16, 0, 0, 0, 0) := rfl
theorem r_100_16 : row 100 16 = some (.getfield 24, 19, 10, 6, 2, 6007) := rfl
theorem r_100_19 : row 100 19 = some (.iconst 0, 20, 0, 0, 0, 0) := rfl
theorem r_100_20 : row 100 20 = some (.iload_n 1, 21, 0, 0, 0, 0) := rfl
theorem r_100_21 : row 100 21 = some (.iastore, 22, 0, 0, 0, 0) := rfl
theorem r_100_22 : row 100 22 = some (.aload_n 0, 23, 0, 0, 0, 0) := rfl
theorem r_100_23 : row 100 23 = some (.getfield 24, 26, 10, 6, 2, 6007) := rfl
theorem r_100_26 : row 100 26 = some (.iconst 1, 27, 1, 0, 0, 0) := rfl
theorem r_100_27 : row 100 27 = some (.iload_n 2, 28, 0, 0, 0, 0) := rfl
theorem r_100_28 : row 100 28 = some (.iastore, 29, 0, 0, 0, 0) := rfl
theorem r_100_29 : row 100 29 = some (.aload_n 0, 30, 0, 0, 0, 0) := rfl
theorem r_100_30 : row 100 30 = some (.getfield 24, 33, 10, 6, 2, 6007) := rfl
theorem r_100_33 : row 100 33 = some (.iconst 2, 34, 2, 0, 0, 0) := rfl
theorem r_100_34 : row 100 34 = some (.iload_n 3, 35, 0, 0, 0, 0) := rfl
theorem r_100_35 : row 100 35 = some (.iastore, 36, 0, 0, 0, 0) := rfl
theorem r_100_36 : row 100 36 = some (.aload_n 0, 37, 0, 0, 0, 0) := rfl
theorem r_100_37 : row 100 37 = some (.getfield 24, 40, 10, 6, 2, 6007) := rfl
theorem r_100_40 : row 100 40 = some (.iconst 3, 41, 3, 0, 0, 0) := rfl
theorem r_100_41 : row 100 41 = some (.iload 4, 43, 0, 0, 0, 0) := rfl
theorem r_100_43 : row 100 43 = some (.iastore, 44, 0, 0, 0, 0) := rfl
theorem r_100_44 : row 100 44 = some (.aload_n 0, 45, 0, 0, 0, 0) := rfl
theorem r_100_45 : row 100 45 = some (.getfield 24, 48, 10, 6, 2, 6007) := rfl
theorem r_100_48 : row 100 48 = some (.iconst 4, 49, 4, 0, 0, 0) := rfl
theorem r_100_49 : row 100 49 = some (.iload 5, 51, 0, 0, 0, 0) := rfl
theorem r_100_51 : row 100 51 = some (.iastore, 52, 0, 0, 0, 0) := rfl
theorem r_100_52 : row 100 52 = some (.iconst 0, 53, 0, 0, 0, 0) := rfl
theorem r_100_53 : row 100 53 = some (.istore 6, 55, 0, 0, 0, 0) := rfl
theorem r_100_55 : row 100 55 = some (.iload 6, 57, 0, 0, 0, 0) := rfl
theorem r_100_57 : row 100 57 = some (.bipush 20, 59, 20, 0, 0, 0) := rfl
theorem r_100_59 : row 100 59 = some (.if_icmp .ge 42, 62, 101, 0, 0, 0) := rfl
theorem r_100_62 : row 100 62 = some (.aload_n 0, 63, 0, 0, 0, 0) := rfl
theorem r_100_63 : row 100 63 = some (.getfield 20, 66, 10, 4, 2, 6005) := rfl
theorem r_100_66 : row 100 66 = some (.aload_n 0, 67, 0, 0, 0, 0) := rfl
theorem r_100_67 : row 100 67 = some (.getfield 90, 70, 10, 5, 0, 6006) := rfl
theorem r_100_70 : row 100 70 = some (.iload 6, 72, 0, 0, 0, 0) := rfl
theorem r_100_72 : row 100 72 = some (.iadd, 73, 0, 0, 0, 0) := rfl
theorem r_100_73 : row 100 73 = some (.aload_n 0, 74, 0, 0, 0, 0) := rfl
theorem r_100_74 : row 100 74 = some (.getfield 24, 77, 10, 6, 2, 6007) := rfl
theorem r_100_77 : row 100 77 = some (.iload 6, 79, 0, 0, 0, 0) := rfl
theorem r_100_79 : row 100 79 = some (.iconst 4, 80, 4, 0, 0, 0) := rfl
theorem r_100_80 : row 100 80 = some (.idiv, 81, 0, 0, 0, 0) := rfl
theorem r_100_81 : row 100 81 = some (.iaload, 82, 0, 0, 0, 0) := rfl
theorem r_100_82 : row 100 82 = some (.bipush 24, 84, 24, 0, 0, 0) := rfl
theorem r_100_84 : row 100 84 = some (.bipush 8, 86, 8, 0, 0, 0) := rfl
theorem r_100_86 : row 100 86 = some (.iload 6, 88, 0, 0, 0, 0) := rfl
theorem r_100_88 : row 100 88 = some (.iconst 4, 89, 4, 0, 0, 0) := rfl
theorem r_100_89 : row 100 89 = some (.irem, 90, 0, 0, 0, 0) := rfl
theorem r_100_90 : row 100 90 = some (.imul, 91, 0, 0, 0, 0) := rfl
theorem r_100_91 : row 100 91 = some (.isub, 92, 0, 0, 0, 0) := rfl
theorem r_100_92 : row 100 92 = some (.ishr, 93, 0, 0, 0, 0) := rfl
theorem r_100_93 : row 100 93 = some (.i2b, 94, 0, 0, 0, 0) := rfl
theorem r_100_94 : row 100 94 = some (.bastore, 95, 0, 0, 0, 0) := rfl
theorem r_100_95 : row 100 95 = some (.iinc 6 1, 98, 0, 0, 0, 0) := rfl
theorem r_100_98 : row 100 98 = some (.goto (-43), 101, 55, 0, 0, 0) := rfl
theorem r_100_101 : row 100 101 = some (.aload_n 0, 102, 0, 0, 0, 0) := rfl
theorem r_100_102 : row 100 102 = some (.dup, 103, 0, 0, 0, 0) := rfl
theorem r_100_103 : row 100 103 = some (.getfield 90, 106, 10, 5, 0, 6006) := rfl
theorem r_100_106 : row 100 106 = some (.bipush 20, 108, 20, 0, 0, 0) := rfl
theorem r_100_108 : row 100 108 = some (.iadd, 109, 0, 0, 0, 0) := rfl
theorem r_100_109 : row 100 109 = some (.putfield 90, 112, 10, 5, 0, 6006) := rfl
theorem r_100_112 : row 100 112 = some (.aload_n 0, 113, 0, 0, 0, 0) := rfl
theorem r_100_113 : row 100 113 = some (.getfield 90, 116, 10, 5, 0, 6006) := rfl
theorem r_100_116 : row 100 116 = some (.ireturn, 117, 0, 0, 0, 0) := rfl
theorem ct_194 : ∀ k : Nat, k < 3 → ∀ i : Nat, i < 69 → cT (tyO 194) (69 * k + i) = cT (tyO 193) i := by decide +kernel
theorem gu_194_cp {m m1 : Mm} (hm : Gam m) (hm1 : Gam m1) {k i : Nat} (hk : k < 3) (hi : i < 69) : Gam (nu_up m1 194 (69 * k + i) (m 193 i)) := Gam_up hm1 (by
  rw [ct_194 k hk i hi]
  exact hm 193 (by decide) (by decide) i hi)
theorem gu_193_cp {m m1 : Mm} (hm : Gam m) (hm1 : Gam m1) {k i : Nat} (hk : k < 3) (hi : i < 69) : Gam (nu_up m1 193 i (m 194 (69 * k + i))) := Gam_up hm1 (by
  rw [← ct_194 k hk i hi]
  exact hm 194 (by decide) (by decide) (69 * k + i) (by show 69 * k + i < 207; omega))
theorem WOK_eq {w w' : Nat → Int} (h : WOK w) (he : ∀ i : Nat, i < 69 → w' i = w i) : WOK w' := WOK_ag h (by rw [he 8 (by omega)]; exact Int.le_refl _) (fun i hi => he i (by omega))
section IMG
variable {T : List Kd} {m0 : Mm} {Q : AV → Mm → Prop}
theorem img_l (hT : TT T) {q : Nat} (hq : q < 3) (hm0 : Gam m0) (hout : ∀ m : Mm, Gam m → Fr [92999] m0 m → ((∀ i : Nat, i < 69 → m 194 (69 * q + i) = m0 193 i) ∧ (∀ i : Nat, (i < 69 * q ∨ 69 * q + 69 ≤ i) → m 194 i = m0 194 i)) → GX T 1 88 46 [(2, 192), (0, (q : Int)), (0, 69)] [] m Q) : ∀ (N k : Nat) (m : Mm), 69 - k < N → k ≤ 69 → Gam m → Fr [92999] m0 m → ((∀ i : Nat, i < k → m 194 (69 * q + i) = m0 193 i) ∧ (∀ i : Nat, (i < 69 * q ∨ 69 * q + 69 ≤ i) → m 194 i = m0 194 i)) → GX T 1 88 17 [(2, 192), (0, (q : Int)), (0, (k : Int))] [] m Q := by
  intro N
  induction N with
  | zero => intro k m hN; exact absurd hN (Nat.not_lt_zero _)
  | succ N ih =>
    intro k m hN hk hm hf hI
    refine gx_st (L' := [(2, 192), (0, (q : Int)), (0, (k : Int))]) (S' := [(0, (k : Int))]) r_88_17 rfl rfl rfl ?_
    refine gx_st (L' := [(2, 192), (0, (q : Int)), (0, (k : Int))]) (S' := [(0, 69), (0, (k : Int))]) r_88_18 rfl rfl rfl ?_
    refine gx_ic (P := 69 ≤ (k : Int)) r_88_20 (rfl) (fun h20 => ?_) (fun h20 => ?_)
    · have hk69 : k = 69 := by omega
      rw [hk69] at hI ⊢
      exact hout m hm hf hI
    · refine gx_st (L' := [(2, 192), (0, (q : Int)), (0, (k : Int))]) (S' := [(2, 192)]) r_88_23 rfl rfl rfl ?_
      refine gx_gf (x := 194) 2 r_88_24 rfl (tk_192 hT) ⟨by decide, rfl, by decide, by decide⟩ rfl (fun _ => by decide) (pr_192_2 hm) ?_
      refine gx_st (L' := [(2, 192), (0, (q : Int)), (0, (k : Int))]) (S' := [(0, 69), (2, 194)]) r_88_27 rfl rfl rfl ?_
      refine gx_st (L' := [(2, 192), (0, (q : Int)), (0, (k : Int))]) (S' := [(0, (q : Int)), (0, 69), (2, 194)]) r_88_29 rfl rfl rfl ?_
      refine gx_ar (L' := [(2, 192), (0, (q : Int)), (0, (k : Int))]) (S' := [(2, 194)]) (t := 0) (e := w32 (69 * (q : Int))) (z := 69 * (q : Int)) r_88_30 rfl rfl rfl (w32_eq (by omega) (by omega) (by omega)) ?_
      refine gx_st (L' := [(2, 192), (0, (q : Int)), (0, (k : Int))]) (S' := [(0, (k : Int)), (0, 69 * (q : Int)), (2, 194)]) r_88_31 rfl rfl rfl ?_
      refine gx_ar (L' := [(2, 192), (0, (q : Int)), (0, (k : Int))]) (S' := [(2, 194)]) (t := 0) (e := w32 ((69 * (q : Int)) + (k : Int))) (z := 69 * (q : Int) + (k : Int)) r_88_32 rfl rfl rfl (w32_eq (by omega) (by omega) (by omega)) ?_
      refine gx_st (L' := [(2, 192), (0, (q : Int)), (0, (k : Int))]) (S' := [(2, 192), (0, 69 * (q : Int) + (k : Int)), (2, 194)]) r_88_33 rfl rfl rfl ?_
      refine gx_gf (x := 193) 2 r_88_34 rfl (tk_192 hT) ⟨by decide, rfl, by decide, by decide⟩ rfl (fun _ => by decide) (pr_192_1 hm) ?_
      refine gx_st (L' := [(2, 192), (0, (q : Int)), (0, (k : Int))]) (S' := [(0, (k : Int)), (2, 193), (0, 69 * (q : Int) + (k : Int)), (2, 194)]) r_88_37 rfl rfl rfl ?_
      refine gx_ia (n := k) (x := (m0 193 k)) r_88_38 rfl (tk_193 hT) (by omega) ⟨rfl, by omega⟩ (show m 193 (k) = (m0 193 k) from by exact Fr_cell (o := 193) hf (by decide) (by decide) k) ?_
      obtain ⟨m1, e_m1⟩ : ∃ z, z = nu_up m 194 (69 * q + k) (m0 193 k) := ⟨_, rfl⟩
      have h_m1 : Gam m1 := by rw [e_m1]; exact gu_194_cp hm0 hm hq (by omega)
      have f_m1 : Fr [92999] m0 m1 := Fr_tr hf (by rw [e_m1]; exact Fr_ua rfl rfl)
      refine gx_is (n := 69 * q + k) (x := (m0 193 k)) r_88_39 rfl (by decide) (tk_194 hT) (by omega) ⟨rfl, by omega⟩ e_m1.symm ?_
      refine gx_li (z := (k : Int) + 1) (L' := [(2, 192), (0, (q : Int)), (0, (k : Int) + 1)]) r_88_40 rfl (w32_eq (by omega) (by omega) (by omega)) rfl ?_
      refine gx_st (L' := [(2, 192), (0, (q : Int)), (0, (k : Int) + 1)]) (S' := []) r_88_43 rfl rfl rfl ?_
      rw [show (k : Int) + 1 = ((k + 1 : Nat) : Int) from rfl]
      refine ih (k + 1) m1 (by omega) (by omega) h_m1 f_m1 ⟨fun i hi => ?_, fun i hi => ?_⟩
      · rw [e_m1]
        by_cases e : i = k
        · rw [e, nu_at]
        · rw [nu_ne (by omega)]; exact hI.1 i (by omega)
      · rw [e_m1, nu_ne (by omega)]; exact hI.2 i hi
theorem bck_l (hT : TT T) {q : Nat} (hq : q < 3) (hm0 : Gam m0) (hout : ∀ m : Mm, Gam m → Fr [91999] m0 m → ((∀ i : Nat, i < 69 → m 193 i = m0 194 (69 * q + i)) ∧ (∀ i : Nat, 69 ≤ i → m 193 i = m0 193 i)) → GX T 1 89 58 [(2, 192), (0, (q : Int)), (0, 69)] [] m Q) : ∀ (N k : Nat) (m : Mm), 69 - k < N → k ≤ 69 → Gam m → Fr [91999] m0 m → ((∀ i : Nat, i < k → m 193 i = m0 194 (69 * q + i)) ∧ (∀ i : Nat, k ≤ i → m 193 i = m0 193 i)) → GX T 1 89 29 [(2, 192), (0, (q : Int)), (0, (k : Int))] [] m Q := by
  intro N
  induction N with
  | zero => intro k m hN; exact absurd hN (Nat.not_lt_zero _)
  | succ N ih =>
    intro k m hN hk hm hf hI
    refine gx_st (L' := [(2, 192), (0, (q : Int)), (0, (k : Int))]) (S' := [(0, (k : Int))]) r_89_29 rfl rfl rfl ?_
    refine gx_st (L' := [(2, 192), (0, (q : Int)), (0, (k : Int))]) (S' := [(0, 69), (0, (k : Int))]) r_89_30 rfl rfl rfl ?_
    refine gx_ic (P := 69 ≤ (k : Int)) r_89_32 (rfl) (fun h32 => ?_) (fun h32 => ?_)
    · have hk69 : k = 69 := by omega
      rw [hk69] at hI ⊢
      exact hout m hm hf hI
    · refine gx_st (L' := [(2, 192), (0, (q : Int)), (0, (k : Int))]) (S' := [(2, 192)]) r_89_35 rfl rfl rfl ?_
      refine gx_gf (x := 193) 2 r_89_36 rfl (tk_192 hT) ⟨by decide, rfl, by decide, by decide⟩ rfl (fun _ => by decide) (pr_192_1 hm) ?_
      refine gx_st (L' := [(2, 192), (0, (q : Int)), (0, (k : Int))]) (S' := [(0, (k : Int)), (2, 193)]) r_89_39 rfl rfl rfl ?_
      refine gx_st (L' := [(2, 192), (0, (q : Int)), (0, (k : Int))]) (S' := [(2, 192), (0, (k : Int)), (2, 193)]) r_89_40 rfl rfl rfl ?_
      refine gx_gf (x := 194) 2 r_89_41 rfl (tk_192 hT) ⟨by decide, rfl, by decide, by decide⟩ rfl (fun _ => by decide) (pr_192_2 hm) ?_
      refine gx_st (L' := [(2, 192), (0, (q : Int)), (0, (k : Int))]) (S' := [(0, 69), (2, 194), (0, (k : Int)), (2, 193)]) r_89_44 rfl rfl rfl ?_
      refine gx_st (L' := [(2, 192), (0, (q : Int)), (0, (k : Int))]) (S' := [(0, (q : Int)), (0, 69), (2, 194), (0, (k : Int)), (2, 193)]) r_89_46 rfl rfl rfl ?_
      refine gx_ar (L' := [(2, 192), (0, (q : Int)), (0, (k : Int))]) (S' := [(2, 194), (0, (k : Int)), (2, 193)]) (t := 0) (e := w32 (69 * (q : Int))) (z := 69 * (q : Int)) r_89_47 rfl rfl rfl (w32_eq (by omega) (by omega) (by omega)) ?_
      refine gx_st (L' := [(2, 192), (0, (q : Int)), (0, (k : Int))]) (S' := [(0, (k : Int)), (0, 69 * (q : Int)), (2, 194), (0, (k : Int)), (2, 193)]) r_89_48 rfl rfl rfl ?_
      refine gx_ar (L' := [(2, 192), (0, (q : Int)), (0, (k : Int))]) (S' := [(2, 194), (0, (k : Int)), (2, 193)]) (t := 0) (e := w32 ((69 * (q : Int)) + (k : Int))) (z := 69 * (q : Int) + (k : Int)) r_89_49 rfl rfl rfl (w32_eq (by omega) (by omega) (by omega)) ?_
      refine gx_ia (n := 69 * q + k) (x := (m0 194 (69 * q + k))) r_89_50 rfl (tk_194 hT) (by omega) ⟨rfl, by omega⟩ (show m 194 (69 * q + k) = (m0 194 (69 * q + k)) from by exact Fr_cell (o := 194) hf (by decide) (by decide) (69 * q + k)) ?_
      obtain ⟨m1, e_m1⟩ : ∃ z, z = nu_up m 193 (k) ((m0 194 (69 * q + k))) := ⟨_, rfl⟩
      have h_m1 : Gam m1 := by rw [e_m1]; exact gu_193_cp hm0 hm hq (by omega)
      have f_m1 : Fr [91999] m0 m1 := Fr_tr hf (by rw [e_m1]; exact Fr_ua rfl rfl)
      refine gx_is (n := k) (x := (m0 194 (69 * q + k))) r_89_51 rfl (by decide) (tk_193 hT) (by omega) ⟨rfl, by omega⟩ e_m1.symm ?_
      refine gx_li (z := (k : Int) + 1) (L' := [(2, 192), (0, (q : Int)), (0, (k : Int) + 1)]) r_89_52 rfl (w32_eq (by omega) (by omega) (by omega)) rfl ?_
      refine gx_st (L' := [(2, 192), (0, (q : Int)), (0, (k : Int) + 1)]) (S' := []) r_89_55 rfl rfl rfl ?_
      rw [show (k : Int) + 1 = ((k + 1 : Nat) : Int) from rfl]
      refine ih (k + 1) m1 (by omega) (by omega) h_m1 f_m1 ⟨fun i hi => ?_, fun i hi => ?_⟩
      · rw [e_m1]
        by_cases e : i = k
        · rw [e, nu_at]
        · rw [nu_ne e]; exact hI.1 i (by omega)
      · rw [e_m1, nu_ne (by omega)]; exact hI.2 i (by omega)
end IMG
theorem x_88 {T : List Kd} {m : Mm} (hT : TT T) (hm : Gam m) (hx : Ext m) (a : Int) : GX T 1 88 0 [(2, 192), (0, a), (9, 0)] [] m (RI (fun v m1 => v = (if 0 ≤ a ∧ a ≤ 2 then 0 else -2) ∧ (∀ i : Nat, m1 195 i = if (0 ≤ a ∧ a ≤ 2) ∧ (i : Int) = a then 1 else m 195 i) ∧ Gam m1 ∧ Ext m1 ∧ Fr [92999, 93999] m m1)) := by
  refine gx_st (L' := [(2, 192), (0, a), (9, 0)]) (S' := [(0, a)]) r_88_0 rfl rfl rfl ?_
  refine gx_st (L' := [(2, 192), (0, a), (9, 0)]) (S' := [(1, a)]) r_88_1 rfl rfl rfl ?_
  refine gx_st (L' := [(2, 192), (0, a), (9, 0)]) (S' := [(1, 0), (1, a)]) r_88_2 rfl rfl rfl ?_
  refine gx_st (L' := [(2, 192), (0, a), (9, 0)]) (S' := [(1, 2), (1, 0), (1, a)]) r_88_3 rfl rfl rfl ?_
  refine gx_ci (nx := 9) (S2 := []) (x_86 a 0 2) r_88_6 rfl rfl rfl rfl rfl rfl rfl (by decide) rfl (fun x6 n6 q6 => ?_)
  obtain rfl := q6.1.symm
  obtain rfl := q6.2.symm
  show GX T 1 88 9 [(2, 192), (0, a), (9, 0)] [(0, (if 0 ≤ a ∧ a ≤ 2 then 1 else 0))] m (RI (fun v m1 => v = (if 0 ≤ a ∧ a ≤ 2 then 0 else -2) ∧ (∀ i : Nat, m1 195 i = if (0 ≤ a ∧ a ≤ 2) ∧ (i : Int) = a then 1 else m 195 i) ∧ Gam m1 ∧ Ext m1 ∧ Fr [92999, 93999] m m1))
  refine gx_i0 (P := 0 ≤ a ∧ a ≤ 2) r_88_9 (b01_ne) (fun h9 => ?_) (fun h9 => ?_)
  · refine gx_st (L' := [(2, 192), (0, a), (9, 0)]) (S' := [(0, 0)]) r_88_15 rfl rfl rfl ?_
    refine gx_st (L' := [(2, 192), (0, a), (0, 0)]) (S' := []) r_88_16 rfl rfl rfl ?_
    obtain ⟨q, hqa⟩ : ∃ q : Nat, a = (q : Int) := ⟨a.toNat, by omega⟩
    have hq : q < 3 := by omega
    subst hqa
    refine img_l hT hq (m0 := m) hm (fun p1 g1 f1 I1 => ?_) 70 0 m (by omega) (by omega) hm Fr_rf ⟨fun i hi => absurd hi (Nat.not_lt_zero _), fun i _ => rfl⟩
    have x1 : Ext p1 := by
      refine ⟨?_, fun k hk => ?_, ?_⟩
      · rw [show p1 193 = m 193 from funext (Fr_cell (o := 193) f1 (by decide) (by decide))]; exact hx.1
      · by_cases e : k = q
        · rw [e]; exact WOK_eq hx.1 (fun i hi => I1.1 i hi)
        · exact WOK_eq (hx.2.1 k hk) (fun i hi => I1.2 (69 * k + i) (by omega))
      · unfold ROK; rw [show p1 200 = m 200 from funext (Fr_cell (o := 200) f1 (by decide) (by decide))]; exact hx.2.2
    have c1 : ∀ i, p1 195 i = m 195 i := Fr_cell (o := 195) f1 (by decide) (by decide)
    have f2 : Fr [92999, 93999] m p1 := Fr_sub f1 (by decide)
    refine gx_st (L' := [(2, 192), (0, (q : Int)), (0, 69)]) (S' := [(2, 192)]) r_88_46 rfl rfl rfl ?_
    refine gx_gf (x := 195) 2 r_88_47 rfl (tk_192 hT) ⟨by decide, rfl, by decide, by decide⟩ rfl (fun _ => by decide) (pr_192_3 g1) ?_
    refine gx_st (L' := [(2, 192), (0, (q : Int)), (0, 69)]) (S' := [(0, (q : Int)), (2, 195)]) r_88_50 rfl rfl rfl ?_
    refine gx_st (L' := [(2, 192), (0, (q : Int)), (0, 69)]) (S' := [(0, 1), (0, (q : Int)), (2, 195)]) r_88_51 rfl rfl rfl ?_
    obtain ⟨m1, e_m1⟩ : ∃ z, z = nu_up p1 195 (q) 1 := ⟨_, rfl⟩
    have h_m1 : Gam m1 := by rw [e_m1]; exact gu_195 g1 (i := q) (by omega) (by omega)
    have f_m1 : Fr [92999, 93999] m m1 := Fr_tr f2 (by rw [e_m1]; exact Fr_ua rfl rfl)
    have x_m1 : Ext m1 := Ext_fr (W := [93999]) (by rw [e_m1]; exact Fr_ua rfl rfl) (by decide) x1
    refine gx_zs (n := q) (x := 1) r_88_52 rfl (by decide) (tk_195 hT) (by omega) ⟨rfl, by omega⟩ (by omega) e_m1.symm ?_
    refine gx_st (L' := [(2, 192), (0, (q : Int)), (0, 69)]) (S' := [(0, 0)]) r_88_53 rfl rfl rfl ?_
    refine gx_rt r_88_54 rfl rfl ⟨_, rfl, by rw [if_pos (by omega)], fun i => ?_, h_m1, x_m1, f_m1⟩
    by_cases e : i = q
    · rw [e, e_m1, nu_at, if_pos (by omega)]
    · rw [e_m1, nu_ne e, if_neg (by omega)]; exact c1 i
  · refine gx_st (L' := [(2, 192), (0, a), (9, 0)]) (S' := [(0, (-2))]) r_88_12 rfl rfl rfl ?_
    exact gx_rt r_88_14 rfl rfl ⟨_, rfl, by rw [if_neg (by omega)], fun i => by rw [if_neg (by omega)], hm, hx, Fr_rf⟩
theorem x_89 {T : List Kd} {m : Mm} (hT : TT T) (hm : Gam m) (hx : Ext m) (a : Int) : GX T 1 89 0 [(2, 192), (0, a), (9, 0)] [] m (RI (fun v m1 => (¬ (0 ≤ a ∧ a ≤ 2) → v = -2) ∧ (∀ t : Nat, t < 3 → a = (t : Int) → (m 195 t = 0 → v = -6) ∧ (¬ m 195 t = 0 → v = 0)) ∧ Gam m1 ∧ Ext m1 ∧ Fr [91999] m m1)) := by
  refine gx_st (L' := [(2, 192), (0, a), (9, 0)]) (S' := [(0, a)]) r_89_0 rfl rfl rfl ?_
  refine gx_st (L' := [(2, 192), (0, a), (9, 0)]) (S' := [(1, a)]) r_89_1 rfl rfl rfl ?_
  refine gx_st (L' := [(2, 192), (0, a), (9, 0)]) (S' := [(1, 0), (1, a)]) r_89_2 rfl rfl rfl ?_
  refine gx_st (L' := [(2, 192), (0, a), (9, 0)]) (S' := [(1, 2), (1, 0), (1, a)]) r_89_3 rfl rfl rfl ?_
  refine gx_ci (nx := 9) (S2 := []) (x_86 a 0 2) r_89_6 rfl rfl rfl rfl rfl rfl rfl (by decide) rfl (fun x6 n6 q6 => ?_)
  obtain rfl := q6.1.symm
  obtain rfl := q6.2.symm
  show GX T 1 89 9 [(2, 192), (0, a), (9, 0)] [(0, (if 0 ≤ a ∧ a ≤ 2 then 1 else 0))] m (RI (fun v m1 => (¬ (0 ≤ a ∧ a ≤ 2) → v = -2) ∧ (∀ t : Nat, t < 3 → a = (t : Int) → (m 195 t = 0 → v = -6) ∧ (¬ m 195 t = 0 → v = 0)) ∧ Gam m1 ∧ Ext m1 ∧ Fr [91999] m m1))
  refine gx_i0 (P := 0 ≤ a ∧ a ≤ 2) r_89_9 (b01_ne) (fun h9 => ?_) (fun h9 => ?_)
  · obtain ⟨q, hqa⟩ : ∃ q : Nat, a = (q : Int) := ⟨a.toNat, by omega⟩
    have hq : q < 3 := by omega
    subst hqa
    refine gx_st (L' := [(2, 192), (0, (q : Int)), (9, 0)]) (S' := [(2, 192)]) r_89_15 rfl rfl rfl ?_
    refine gx_gf (x := 195) 2 r_89_16 rfl (tk_192 hT) ⟨by decide, rfl, by decide, by decide⟩ rfl (fun _ => by decide) (pr_192_3 hm) ?_
    refine gx_st (L' := [(2, 192), (0, (q : Int)), (9, 0)]) (S' := [(0, (q : Int)), (2, 195)]) r_89_19 rfl rfl rfl ?_
    obtain ⟨x20, e_x20⟩ : ∃ z, z = m 195 (q) := ⟨_, rfl⟩
    have b_x20 := gb_195 hm (i := q) (by omega)
    rw [← e_x20] at b_x20
    refine gx_ba (n := q) (x := x20) r_89_20 rfl (by decide) (tk_195 hT) (by omega) ⟨Or.inr rfl, by omega⟩ (e_x20.symm) ?_
    refine gx_i0 (P := ¬ x20 = 0) r_89_21 (rfl) (fun h21 => ?_) (fun h21 => ?_)
    · refine gx_st (L' := [(2, 192), (0, (q : Int)), (9, 0)]) (S' := [(0, 0)]) r_89_27 rfl rfl rfl ?_
      refine gx_st (L' := [(2, 192), (0, (q : Int)), (0, 0)]) (S' := []) r_89_28 rfl rfl rfl ?_
      refine bck_l hT hq (m0 := m) hm (fun p1 g1 f1 I1 => ?_) 70 0 m (by omega) (by omega) hm Fr_rf ⟨fun i hi => absurd hi (Nat.not_lt_zero _), fun i _ => rfl⟩
      have x1 : Ext p1 := Ext_w hx (WOK_eq (hx.2.1 q hq) (fun i hi => I1.1 i hi)) (funext (Fr_cell (o := 194) f1 (by decide) (by decide))) (funext (Fr_cell (o := 200) f1 (by decide) (by decide)))
      refine gx_st (L' := [(2, 192), (0, (q : Int)), (0, 69)]) (S' := [(0, 0)]) r_89_58 rfl rfl rfl ?_
      refine gx_rt r_89_59 rfl rfl ⟨_, rfl, fun z => by omega, fun t h1 h2 => ?_, g1, x1, f1⟩
      obtain rfl : t = q := by omega
      exact ⟨fun z => by omega, fun z => by omega⟩
    · have h21 := Decidable.not_not.mp h21
      refine gx_st (L' := [(2, 192), (0, (q : Int)), (9, 0)]) (S' := [(0, (-6))]) r_89_24 rfl rfl rfl ?_
      refine gx_rt r_89_26 rfl rfl ⟨_, rfl, fun z => by omega, fun t h1 h2 => ?_, hm, hx, Fr_rf⟩
      obtain rfl : t = q := by omega
      exact ⟨fun z => by omega, fun z => by omega⟩
  · refine gx_st (L' := [(2, 192), (0, a), (9, 0)]) (S' := [(0, (-2))]) r_89_12 rfl rfl rfl ?_
    exact gx_rt r_89_14 rfl rfl ⟨_, rfl, fun _ => rfl, fun t h1 h2 => by omega, hm, hx, Fr_rf⟩
section FEED
variable {T : List Kd} {m0 : Mm} {Q : AV → Mm → Prop}
theorem feed_l (hT : TT T) {a b c d e : Int} {r : Nat} (hr : m0 192 5 = (r : Int)) (hr2 : r ≤ 780) (hout : ∀ (m : Mm), Gam m → Fr [94999, 95999] m0 m → GX T 0 100 101 [(2, 192), (0, a), (0, b), (0, c), (0, d), (0, e), (0, 20)] [] m Q) : ∀ (N k : Nat) (m : Mm), 20 - k < N → k ≤ 20 → Gam m → Fr [94999, 95999] m0 m → GX T 0 100 55 [(2, 192), (0, a), (0, b), (0, c), (0, d), (0, e), (0, (k : Int))] [] m Q := by
  intro N
  induction N with
  | zero => intro k m hN; exact absurd hN (Nat.not_lt_zero _)
  | succ N ih =>
    intro k m hN hk hm hf
    have hrm : m 192 5 = (r : Int) := by rw [← hr]; exact hf 192 5 rfl
    refine gx_st (L' := [(2, 192), (0, a), (0, b), (0, c), (0, d), (0, e), (0, (k : Int))]) (S' := [(0, (k : Int))]) r_100_55 rfl rfl rfl ?_
    refine gx_st (L' := [(2, 192), (0, a), (0, b), (0, c), (0, d), (0, e), (0, (k : Int))]) (S' := [(0, 20), (0, (k : Int))]) r_100_57 rfl rfl rfl ?_
    refine gx_ic (P := 20 ≤ (k : Int)) r_100_59 (rfl) (fun h59 => ?_) (fun h59 => ?_)
    · have hkb : k = 20 := by omega
      rw [hkb]
      exact hout m hm hf
    · have hq4 : (k : Int) / 4 = ((k / 4 : Nat) : Int) := by omega
      refine gx_st (L' := [(2, 192), (0, a), (0, b), (0, c), (0, d), (0, e), (0, (k : Int))]) (S' := [(2, 192)]) r_100_62 rfl rfl rfl ?_
      refine gx_gf (x := 196) 2 r_100_63 rfl (tk_192 hT) ⟨by decide, rfl, by decide, by decide⟩ rfl (fun _ => by decide) (pr_192_4 hm) ?_
      refine gx_st (L' := [(2, 192), (0, a), (0, b), (0, c), (0, d), (0, e), (0, (k : Int))]) (S' := [(2, 192), (2, 196)]) r_100_66 rfl rfl rfl ?_
      refine gx_gf (x := (r : Int)) 0 r_100_67 rfl (tk_192 hT) ⟨by decide, rfl, by decide, by decide⟩ rfl (fun z => absurd z (by decide)) (hrm) ?_
      refine gx_st (L' := [(2, 192), (0, a), (0, b), (0, c), (0, d), (0, e), (0, (k : Int))]) (S' := [(0, (k : Int)), (0, (r : Int)), (2, 196)]) r_100_70 rfl rfl rfl ?_
      refine gx_ar (L' := [(2, 192), (0, a), (0, b), (0, c), (0, d), (0, e), (0, (k : Int))]) (S' := [(2, 196)]) (t := 0) (e := w32 ((r : Int) + (k : Int))) (z := (r : Int) + (k : Int)) r_100_72 rfl rfl rfl (w32_eq (by omega) (by omega) (by omega)) ?_
      refine gx_st (L' := [(2, 192), (0, a), (0, b), (0, c), (0, d), (0, e), (0, (k : Int))]) (S' := [(2, 192), (0, (r : Int) + (k : Int)), (2, 196)]) r_100_73 rfl rfl rfl ?_
      refine gx_gf (x := 197) 2 r_100_74 rfl (tk_192 hT) ⟨by decide, rfl, by decide, by decide⟩ rfl (fun _ => by decide) (pr_192_6 hm) ?_
      refine gx_st (L' := [(2, 192), (0, a), (0, b), (0, c), (0, d), (0, e), (0, (k : Int))]) (S' := [(0, (k : Int)), (2, 197), (0, (r : Int) + (k : Int)), (2, 196)]) r_100_77 rfl rfl rfl ?_
      refine gx_st (L' := [(2, 192), (0, a), (0, b), (0, c), (0, d), (0, e), (0, (k : Int))]) (S' := [(0, 4), (0, (k : Int)), (2, 197), (0, (r : Int) + (k : Int)), (2, 196)]) r_100_79 rfl rfl rfl ?_
      refine gx_dv (z := ((k : Int) / 4)) r_100_80 (by decide) (w32_td (by omega) rfl (by omega) (by omega)) ?_
      obtain ⟨x81, e_x81⟩ : ∃ z, z = m 197 (k / 4) := ⟨_, rfl⟩
      have b_x81 := gb_197 hm (i := k / 4) (by omega)
      rw [← e_x81] at b_x81
      refine gx_ia (n := k / 4) (x := x81) r_100_81 rfl (tk_197 hT) (by omega) ⟨rfl, by omega⟩ (e_x81.symm) ?_
      refine gx_st (L' := [(2, 192), (0, a), (0, b), (0, c), (0, d), (0, e), (0, (k : Int))]) (S' := [(0, 24), (0, x81), (0, (r : Int) + (k : Int)), (2, 196)]) r_100_82 rfl rfl rfl ?_
      refine gx_st (L' := [(2, 192), (0, a), (0, b), (0, c), (0, d), (0, e), (0, (k : Int))]) (S' := [(0, 8), (0, 24), (0, x81), (0, (r : Int) + (k : Int)), (2, 196)]) r_100_84 rfl rfl rfl ?_
      refine gx_st (L' := [(2, 192), (0, a), (0, b), (0, c), (0, d), (0, e), (0, (k : Int))]) (S' := [(0, (k : Int)), (0, 8), (0, 24), (0, x81), (0, (r : Int) + (k : Int)), (2, 196)]) r_100_86 rfl rfl rfl ?_
      refine gx_st (L' := [(2, 192), (0, a), (0, b), (0, c), (0, d), (0, e), (0, (k : Int))]) (S' := [(0, 4), (0, (k : Int)), (0, 8), (0, 24), (0, x81), (0, (r : Int) + (k : Int)), (2, 196)]) r_100_88 rfl rfl rfl ?_
      refine gx_rm (z := ((k : Int) % 4)) r_100_89 (by decide) (tm_eq (by omega) rfl) ?_
      refine gx_ar (L' := [(2, 192), (0, a), (0, b), (0, c), (0, d), (0, e), (0, (k : Int))]) (S' := [(0, 24), (0, x81), (0, (r : Int) + (k : Int)), (2, 196)]) (t := 0) (e := w32 (8 * (((k : Int) % 4)))) (z := 8 * ((k : Int) % 4)) r_100_90 rfl rfl rfl (w32_eq (by omega) (by omega) (by omega)) ?_
      refine gx_ar (L' := [(2, 192), (0, a), (0, b), (0, c), (0, d), (0, e), (0, (k : Int))]) (S' := [(0, x81), (0, (r : Int) + (k : Int)), (2, 196)]) (t := 0) (e := w32 (24 - (8 * ((k : Int) % 4)))) (z := (-8) * ((k : Int) % 4) + 24) r_100_91 rfl rfl rfl (w32_eq (by omega) (by omega) (by omega)) ?_
      refine gx_st (L' := [(2, 192), (0, a), (0, b), (0, c), (0, d), (0, e), (0, (k : Int))]) (S' := [(0, (ishr x81 ((-8) * ((k : Int) % 4) + 24))), (0, (r : Int) + (k : Int)), (2, 196)]) r_100_92 rfl rfl rfl ?_
      refine gx_st (L' := [(2, 192), (0, a), (0, b), (0, c), (0, d), (0, e), (0, (k : Int))]) (S' := [(0, (b8 ((ishr x81 ((-8) * ((k : Int) % 4) + 24))))), (0, (r : Int) + (k : Int)), (2, 196)]) r_100_93 rfl rfl rfl ?_
      obtain ⟨m1, e_m1⟩ : ∃ z, z = nu_up m 196 (r + k) (b8 ((b8 ((ishr x81 ((-8) * ((k : Int) % 4) + 24)))))) := ⟨_, rfl⟩
      have h_m1 : Gam m1 := by rw [e_m1]; exact gu_196 hm (i := r + k) (b8_in _).1 (b8_in _).2
      have f_m1 : Fr [94999, 95999] m0 m1 := Fr_tr hf (by rw [e_m1]; exact Fr_ua rfl rfl)
      refine gx_bs (n := r + k) (x := (b8 ((ishr x81 ((-8) * ((k : Int) % 4) + 24))))) r_100_94 rfl (by decide) (tk_196 hT) (by omega) ⟨rfl, by omega⟩ e_m1.symm ?_
      refine gx_li (z := (k : Int) + 1) (L' := [(2, 192), (0, a), (0, b), (0, c), (0, d), (0, e), (0, (k : Int) + 1)]) r_100_95 rfl (w32_eq (by omega) (by omega) (by omega)) rfl ?_
      refine gx_st (L' := [(2, 192), (0, a), (0, b), (0, c), (0, d), (0, e), (0, (k : Int) + 1)]) (S' := []) r_100_98 rfl rfl rfl ?_
      rw [show (k : Int) + 1 = ((k + 1 : Nat) : Int) from rfl]
      refine ih (k + 1)  m1 (by omega) (by omega) h_m1 f_m1
end FEED
set_option maxRecDepth 100000 in
theorem x_100 {T : List Kd} {m : Mm} (hT : TT T) (hm : Gam m) {a b c d e : Int} (ha : in32 a) (hb : in32 b) (hc : in32 c) (hd : in32 d) (he : in32 e) : GX T 0 100 0 [(2, 192), (0, a), (0, b), (0, c), (0, d), (0, e), (9, 0)] [] m (RI (fun v m1 => (780 < m 192 5 → v = -1 ∧ m1 = m) ∧ (m 192 5 ≤ 780 → v = m 192 5 + 20 ∧ m1 192 5 = m 192 5 + 20) ∧ Gam m1 ∧ Fr [90005, 94999, 95999] m m1)) := by
  unfold in32 at ha hb hc hd he
  obtain ⟨r, hr⟩ : ∃ r : Nat, m 192 5 = (r : Int) := ⟨(m 192 5).toNat, by have := gb_192_5 hm; omega⟩
  have b5 := gb_192_5 hm
  refine gx_st (L' := [(2, 192), (0, a), (0, b), (0, c), (0, d), (0, e), (9, 0)]) (S' := [(2, 192)]) r_100_0 rfl rfl rfl ?_
  refine gx_gf (x := (r : Int)) 0 r_100_1 rfl (tk_192 hT) ⟨by decide, rfl, by decide, by decide⟩ rfl (fun z => absurd z (by decide)) (hr) ?_
  refine gx_st (L' := [(2, 192), (0, a), (0, b), (0, c), (0, d), (0, e), (9, 0)]) (S' := [(0, 20), (0, (r : Int))]) r_100_4 rfl rfl rfl ?_
  refine gx_ar (L' := [(2, 192), (0, a), (0, b), (0, c), (0, d), (0, e), (9, 0)]) (S' := []) (t := 0) (e := w32 ((r : Int) + 20)) (z := (r : Int) + 20) r_100_6 rfl rfl rfl (w32_eq (by omega) (by omega) (by omega)) ?_
  refine gx_st (L' := [(2, 192), (0, a), (0, b), (0, c), (0, d), (0, e), (9, 0)]) (S' := [(0, 800), (0, (r : Int) + 20)]) r_100_7 rfl rfl rfl ?_
  refine gx_ic (P := (r : Int) + 20 ≤ 800) r_100_10 (rfl) (fun h10 => ?_) (fun h10 => ?_)
  · refine gx_st (L' := [(2, 192), (0, a), (0, b), (0, c), (0, d), (0, e), (9, 0)]) (S' := [(2, 192)]) r_100_15 rfl rfl rfl ?_
    refine gx_gf (x := 197) 2 r_100_16 rfl (tk_192 hT) ⟨by decide, rfl, by decide, by decide⟩ rfl (fun _ => by decide) (pr_192_6 hm) ?_
    refine gx_st (L' := [(2, 192), (0, a), (0, b), (0, c), (0, d), (0, e), (9, 0)]) (S' := [(0, 0), (2, 197)]) r_100_19 rfl rfl rfl ?_
    refine gx_st (L' := [(2, 192), (0, a), (0, b), (0, c), (0, d), (0, e), (9, 0)]) (S' := [(0, a), (0, 0), (2, 197)]) r_100_20 rfl rfl rfl ?_
    obtain ⟨m1, e_m1⟩ : ∃ z, z = nu_up m 197 (0) a := ⟨_, rfl⟩
    have h_m1 : Gam m1 := by rw [e_m1]; exact gu_197 hm (i := 0) (by omega) (by omega)
    have f_m1 : Fr [94999, 95999] m m1 := Fr_tr Fr_rf (by rw [e_m1]; exact Fr_ua rfl rfl)
    refine gx_is (n := 0) (x := a) r_100_21 rfl (by decide) (tk_197 hT) (rfl) ⟨rfl, by decide⟩ e_m1.symm ?_
    refine gx_st (L' := [(2, 192), (0, a), (0, b), (0, c), (0, d), (0, e), (9, 0)]) (S' := [(2, 192)]) r_100_22 rfl rfl rfl ?_
    refine gx_gf (x := 197) 2 r_100_23 rfl (tk_192 hT) ⟨by decide, rfl, by decide, by decide⟩ rfl (fun _ => by decide) (pr_192_6 h_m1) ?_
    refine gx_st (L' := [(2, 192), (0, a), (0, b), (0, c), (0, d), (0, e), (9, 0)]) (S' := [(0, 1), (2, 197)]) r_100_26 rfl rfl rfl ?_
    refine gx_st (L' := [(2, 192), (0, a), (0, b), (0, c), (0, d), (0, e), (9, 0)]) (S' := [(0, b), (0, 1), (2, 197)]) r_100_27 rfl rfl rfl ?_
    obtain ⟨m2, e_m2⟩ : ∃ z, z = nu_up m1 197 (1) b := ⟨_, rfl⟩
    have h_m2 : Gam m2 := by rw [e_m2]; exact gu_197 h_m1 (i := 1) (by omega) (by omega)
    have f_m2 : Fr [94999, 95999] m m2 := Fr_tr f_m1 (by rw [e_m2]; exact Fr_ua rfl rfl)
    refine gx_is (n := 1) (x := b) r_100_28 rfl (by decide) (tk_197 hT) (rfl) ⟨rfl, by decide⟩ e_m2.symm ?_
    refine gx_st (L' := [(2, 192), (0, a), (0, b), (0, c), (0, d), (0, e), (9, 0)]) (S' := [(2, 192)]) r_100_29 rfl rfl rfl ?_
    refine gx_gf (x := 197) 2 r_100_30 rfl (tk_192 hT) ⟨by decide, rfl, by decide, by decide⟩ rfl (fun _ => by decide) (pr_192_6 h_m2) ?_
    refine gx_st (L' := [(2, 192), (0, a), (0, b), (0, c), (0, d), (0, e), (9, 0)]) (S' := [(0, 2), (2, 197)]) r_100_33 rfl rfl rfl ?_
    refine gx_st (L' := [(2, 192), (0, a), (0, b), (0, c), (0, d), (0, e), (9, 0)]) (S' := [(0, c), (0, 2), (2, 197)]) r_100_34 rfl rfl rfl ?_
    obtain ⟨m3, e_m3⟩ : ∃ z, z = nu_up m2 197 (2) c := ⟨_, rfl⟩
    have h_m3 : Gam m3 := by rw [e_m3]; exact gu_197 h_m2 (i := 2) (by omega) (by omega)
    have f_m3 : Fr [94999, 95999] m m3 := Fr_tr f_m2 (by rw [e_m3]; exact Fr_ua rfl rfl)
    refine gx_is (n := 2) (x := c) r_100_35 rfl (by decide) (tk_197 hT) (rfl) ⟨rfl, by decide⟩ e_m3.symm ?_
    refine gx_st (L' := [(2, 192), (0, a), (0, b), (0, c), (0, d), (0, e), (9, 0)]) (S' := [(2, 192)]) r_100_36 rfl rfl rfl ?_
    refine gx_gf (x := 197) 2 r_100_37 rfl (tk_192 hT) ⟨by decide, rfl, by decide, by decide⟩ rfl (fun _ => by decide) (pr_192_6 h_m3) ?_
    refine gx_st (L' := [(2, 192), (0, a), (0, b), (0, c), (0, d), (0, e), (9, 0)]) (S' := [(0, 3), (2, 197)]) r_100_40 rfl rfl rfl ?_
    refine gx_st (L' := [(2, 192), (0, a), (0, b), (0, c), (0, d), (0, e), (9, 0)]) (S' := [(0, d), (0, 3), (2, 197)]) r_100_41 rfl rfl rfl ?_
    obtain ⟨m4, e_m4⟩ : ∃ z, z = nu_up m3 197 (3) d := ⟨_, rfl⟩
    have h_m4 : Gam m4 := by rw [e_m4]; exact gu_197 h_m3 (i := 3) (by omega) (by omega)
    have f_m4 : Fr [94999, 95999] m m4 := Fr_tr f_m3 (by rw [e_m4]; exact Fr_ua rfl rfl)
    refine gx_is (n := 3) (x := d) r_100_43 rfl (by decide) (tk_197 hT) (rfl) ⟨rfl, by decide⟩ e_m4.symm ?_
    refine gx_st (L' := [(2, 192), (0, a), (0, b), (0, c), (0, d), (0, e), (9, 0)]) (S' := [(2, 192)]) r_100_44 rfl rfl rfl ?_
    refine gx_gf (x := 197) 2 r_100_45 rfl (tk_192 hT) ⟨by decide, rfl, by decide, by decide⟩ rfl (fun _ => by decide) (pr_192_6 h_m4) ?_
    refine gx_st (L' := [(2, 192), (0, a), (0, b), (0, c), (0, d), (0, e), (9, 0)]) (S' := [(0, 4), (2, 197)]) r_100_48 rfl rfl rfl ?_
    refine gx_st (L' := [(2, 192), (0, a), (0, b), (0, c), (0, d), (0, e), (9, 0)]) (S' := [(0, e), (0, 4), (2, 197)]) r_100_49 rfl rfl rfl ?_
    obtain ⟨m5, e_m5⟩ : ∃ z, z = nu_up m4 197 (4) e := ⟨_, rfl⟩
    have h_m5 : Gam m5 := by rw [e_m5]; exact gu_197 h_m4 (i := 4) (by omega) (by omega)
    have f_m5 : Fr [94999, 95999] m m5 := Fr_tr f_m4 (by rw [e_m5]; exact Fr_ua rfl rfl)
    refine gx_is (n := 4) (x := e) r_100_51 rfl (by decide) (tk_197 hT) (rfl) ⟨rfl, by decide⟩ e_m5.symm ?_
    refine gx_st (L' := [(2, 192), (0, a), (0, b), (0, c), (0, d), (0, e), (9, 0)]) (S' := [(0, 0)]) r_100_52 rfl rfl rfl ?_
    refine gx_st (L' := [(2, 192), (0, a), (0, b), (0, c), (0, d), (0, e), (0, 0)]) (S' := []) r_100_53 rfl rfl rfl ?_
    have hr5 : m5 192 5 = (r : Int) := by rw [← hr]; exact f_m5 192 5 rfl
    refine feed_l hT (m0 := m5) hr5 (by omega) (fun p1 g1 f1 => ?_) 21 0 m5 (by omega) (by omega) h_m5 Fr_rf
    have f2 : Fr [94999, 95999] m p1 := Fr_tr f_m5 f1
    have hr6 : p1 192 5 = (r : Int) := by rw [← hr]; exact f2 192 5 rfl
    have f3 : Fr [90005, 94999, 95999] m p1 := Fr_sub f2 (by decide)
    refine gx_st (L' := [(2, 192), (0, a), (0, b), (0, c), (0, d), (0, e), (0, 20)]) (S' := [(2, 192)]) r_100_101 rfl rfl rfl ?_
    refine gx_st (L' := [(2, 192), (0, a), (0, b), (0, c), (0, d), (0, e), (0, 20)]) (S' := [(2, 192), (2, 192)]) r_100_102 rfl rfl rfl ?_
    refine gx_gf (x := (r : Int)) 0 r_100_103 rfl (tk_192 hT) ⟨by decide, rfl, by decide, by decide⟩ rfl (fun z => absurd z (by decide)) (show p1 192 5 = (r : Int) from by exact hr6) ?_
    refine gx_st (L' := [(2, 192), (0, a), (0, b), (0, c), (0, d), (0, e), (0, 20)]) (S' := [(0, 20), (0, (r : Int)), (2, 192)]) r_100_106 rfl rfl rfl ?_
    refine gx_ar (L' := [(2, 192), (0, a), (0, b), (0, c), (0, d), (0, e), (0, 20)]) (S' := [(2, 192)]) (t := 0) (e := w32 ((r : Int) + 20)) (z := (r : Int) + 20) r_100_108 rfl rfl rfl (w32_eq (by omega) (by omega) (by omega)) ?_
    obtain ⟨m6, e_m6⟩ : ∃ z, z = nu_up p1 192 5 ((r : Int) + 20) := ⟨_, rfl⟩
    have h_m6 : Gam m6 := by rw [e_m6]; exact gu_192_5 g1 (by omega) (by omega)
    have f_m6 : Fr [90005, 94999, 95999] m m6 := Fr_tr f3 (by rw [e_m6]; exact Fr_up rfl)
    refine gx_pf (x := (r : Int) + 20) 0 r_100_109 rfl (tk_192 hT) ⟨by decide, rfl, by decide, by decide⟩ rfl (fun z => absurd z (by decide)) (fun z => absurd z (by decide)) e_m6.symm ?_
    refine gx_st (L' := [(2, 192), (0, a), (0, b), (0, c), (0, d), (0, e), (0, 20)]) (S' := [(2, 192)]) r_100_112 rfl rfl rfl ?_
    refine gx_gf (x := (r : Int) + 20) 0 r_100_113 rfl (tk_192 hT) ⟨by decide, rfl, by decide, by decide⟩ rfl (fun z => absurd z (by decide)) (show m6 192 5 = (r : Int) + 20 from by rw [e_m6, nu_at]) ?_
    exact gx_rt r_100_116 rfl rfl ⟨_, rfl, fun z => by omega, fun z => ⟨by omega, by rw [e_m6, nu_at]; omega⟩, h_m6, f_m6⟩
  · refine gx_st (L' := [(2, 192), (0, a), (0, b), (0, c), (0, d), (0, e), (9, 0)]) (S' := [(0, (-1))]) r_100_13 rfl rfl rfl ?_
    exact gx_rt r_100_14 rfl rfl ⟨_, rfl, fun _ => ⟨rfl, rfl⟩, fun z => by omega, hm, Fr_rf⟩
