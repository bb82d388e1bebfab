/-! the tape: feed, end, isle of both sides -/
theorem r_1_0 : row 1 0 = some (.aload_n 0, 1, 0, 0, 0, 0) := rfl
theorem r_1_1 : row 1 1 = some (.getfield 10, 4, 9, 0, 2, 2158) := rfl
theorem r_1_4 : row 1 4 = some (.getfield 93, 7, 8, 1, 10, 1036) := rfl
theorem r_1_7 : row 1 7 = some (.sipush 780, 10, 780, 0, 0, 0) := rfl
theorem r_1_10 : row 1 10 = some (.if_icmp .le 5, 13, 15, 0, 0, 0) := rfl
theorem r_1_13 : row 1 13 = some (.iconst (-1), 14, (-1), 0, 0, 0) := rfl
theorem r_1_14 : row 1 14 = some (.ireturn, 15, 0, 0, 0, 0) := rfl
theorem r_1_15 : row 1 15 = some (.aload_n 0, 16, 0, 0, 0, 0) := rfl
theorem r_1_16 : row 1 16 = some (.getfield 10, 19, 9, 0, 2, 2158) := rfl
theorem r_1_19 : row 1 19 = some (.iload_n 1, 20, 0, 0, 0, 0) := rfl
theorem r_1_20 : row 1 20 = some (.invokevirtual 96, 23, 298, 1, 10, 2211) := rfl
theorem r_1_23 : row 1 23 = some (.aload_n 0, 24, 0, 0, 0, 0) := rfl
theorem r_1_24 : row 1 24 = some (.getfield 10, 27, 9, 0, 2, 2158) := rfl
theorem r_1_27 : row 1 27 = some (.iload_n 2, 28, 0, 0, 0, 0) := rfl
theorem r_1_28 : row 1 28 = some (.invokevirtual 96, 31, 298, 1, 10, 2211) := rfl
theorem r_1_31 : row 1 31 = some (.aload_n 0, 32, 0, 0, 0, 0) := rfl
theorem r_1_32 : row 1 32 = some (.getfield 10, 35, 9, 0, 2, 2158) := rfl
theorem r_1_35 : row 1 35 = some (.iload_n 3, 36, 0, 0, 0, 0) := rfl
theorem r_1_36 : row 1 36 = some (.invokevirtual 96, 39, 298, 1, 10, 2211) := rfl
theorem r_1_39 : row 1 39 = some (.aload_n 0, 40, 0, 0, 0, 0) := rfl
theorem r_1_40 : row 1 40 = some (.getfield 10, 43, 9, 0, 2, 2158) := rfl
theorem r_1_43 : row 1 43 = some (.iload 4, 45, 0, 0, 0, 0) := rfl
theorem r_1_45 : row 1 45 = some (.invokevirtual 96, 48, 298, 1, 10, 2211) := rfl
theorem r_1_48 : row 1 48 = some (.aload_n 0, 49, 0, 0, 0, 0) := rfl
theorem r_1_49 : row 1 49 = some (.getfield 10, 52, 9, 0, 2, 2158) := rfl
theorem r_1_52 : row 1 52 = some (.iload 5, 54, 0, 0, 0, 0) := rfl
theorem r_1_54 : row 1 54 = some (.invokevirtual 96, 57, 298, 1, 10, 2211) := rfl
theorem r_1_57 : row 1 57 = some (.aload_n 0, 58, 0, 0, 0, 0) := rfl
theorem r_1_58 : row 1 58 = some (.getfield 10, 61, 9, 0, 2, 2158) := rfl
theorem r_1_61 : row 1 61 = some (.getfield 93, 64, 8, 1, 10, 1036) := rfl
theorem r_1_64 : row 1 64 = some (.ireturn, 65, 0, 0, 0, 0) := rfl
theorem r_2_0 : row 2 0 = some (.iload_n 1, 1, 0, 0, 0, 0) := rfl
theorem r_2_1 : row 2 1 = some (.ifCond .lt 14, 4, 15, 0, 0, 0) := rfl
theorem r_2_4 : row 2 4 = some (.iload_n 1, 5, 0, 0, 0, 0) := rfl
theorem r_2_5 : row 2 5 = some (.aload_n 0, 6, 0, 0, 0, 0) := rfl
theorem r_2_6 : row 2 6 = some (.getfield 10, 9, 9, 0, 2, 2158) := rfl
theorem r_2_9 : row 2 9 = some (.getfield 93, 12, 8, 1, 10, 1036) := rfl
theorem r_2_12 : row 2 12 = some (.if_icmp .le 5, 15, 17, 0, 0, 0) := rfl
theorem r_2_15 : row 2 15 = some (.iconst (-1), 16, (-1), 0, 0, 0) := rfl
theorem r_2_16 : row 2 16 = some (.ireturn, 17, 0, 0, 0, 0) := rfl
theorem r_2_17 : row 2 17 = some (.aload_n 0, 18, 0, 0, 0, 0) := rfl
theorem r_2_18 : row 2 18 = some (.getfield 10, 21, 9, 0, 2, 2158) := rfl
theorem r_2_21 : row 2 21 = some (.iload_n 1, 22, 0, 0, 0, 0) := rfl
theorem r_2_22 : row 2 22 = some (.putfield 93, 25, 8, 1, 10, 1036) := rfl
theorem r_2_25 : row 2 25 = some (.iload_n 1, 26, 0, 0, 0, 0) := rfl
theorem r_2_26 : row 2 26 = some (.ireturn, 27, 0, 0, 0, 0) := rfl
theorem r_3_0 : row 3 0 = some (.aload_n 0, 1, 0, 0, 0, 0) := rfl
theorem r_3_1 : row 3 1 = some (.getfield 10, 4, 9, 0, 2, 2158) := rfl
theorem r_3_4 : row 3 4 = some (.aload_n 0, 5, 0, 0, 0, 0) := rfl
theorem r_3_5 : row 3 5 = some (.getfield 23, 8, 9, 2, 2, 2160) := rfl
theorem r_3_8 : row 3 8 = some (.invokevirtual 100, 11, 299, 1, 10, 2226) := rfl
theorem r_3_11 : row 3 11 = some (.istore_n 1, 12, 0, 0, 0, 0) := rfl
theorem r_3_12 : row 3 12 = some (.aload_n 0, 13, 0, 0, 0, 0) := rfl
theorem r_3_13 : row 3 13 = some (.getfield 10, 16, 9, 0, 2, 2158) := rfl
theorem r_3_16 : row 3 16 = some (.iconst 0, 17, 0, 0, 0, 0) := rfl
theorem r_3_17 : row 3 17 = some (.putfield 93, 20, 8, 1, 10, 1036) := rfl
theorem r_3_20 : row 3 20 = some (.iload_n 1, 21, 0, 0, 0, 0) := rfl
theorem r_3_21 : row 3 21 = some (.ifCond .ne 6, 24, 27, 0, 0, 0) := rfl
theorem r_3_24 : row 3 24 = some (.bipush (-4), 26, (-4), 0, 0, 0) := rfl
theorem r_3_26 : row 3 26 = some (.ireturn, 27, 0, 0, 0, 0) := rfl
theorem r_3_27 : row 3 27 = some (.aload_n 0, 28, 0, 0, 0, 0) := rfl
theorem r_3_28 : row 3 28 = some (.getfield 19, 31, 9, 1, 2, 2159) := rfl
theorem r_3_31 : row 3 31 = some (.aload_n 0, 32, 0, 0, 0, 0) := rfl
theorem r_3_32 : row 3 32 = some (.getfield 23, 35, 9, 2, 2, 2160) := rfl
theorem r_3_35 : row 3 35 = some (.invokevirtual 104, 38, 254, 1, 10, 3146) := rfl
theorem r_3_38 : row 3 38 = some (.aload_n 0, 39, 0, 0, 0, 0) := rfl
theorem r_3_39 : row 3 39 = some (.getfield 29, 42, 9, 3, 2, 2161) := rfl
theorem r_3_42 : row 3 42 = some (.invokevirtual 108, 45, 235, 0, 10, 3157) := rfl
theorem r_3_45 : row 3 45 = some (.aload_n 0, 46, 0, 0, 0, 0) := rfl
theorem r_3_46 : row 3 46 = some (.invokevirtual 111, 49, 75, 0, 0, 3162) := rfl
theorem r_3_49 : row 3 49 = some (.aload_n 0, 50, 0, 0, 0, 0) := rfl
theorem r_3_50 : row 3 50 = some (.getfield 19, 53, 9, 1, 2, 2159) := rfl
theorem r_3_53 : row 3 53 = some (.getfield 114, 56, 3, 0, 10, 1068) := rfl
theorem r_3_56 : row 3 56 = some (.ireturn, 57, 0, 0, 0, 0) := rfl
theorem r_101_0 : row 101 0 = some (.iload_n 1, 1, 0, 0, 0, 0) := rfl
theorem r_101_1 : row 101 1 = some (.i2l, 2, 0, 0, 0, 0) := rfl
theorem r_101_2 : row 101 2 = some (.lconst 0, 3, 0, 0, 0, 0) := rfl
theorem r_101_3 : row 101 3 = some (.aload_n 0, 4, 0, 0, 0, 0) := rfl
theorem r_101_4 : row 101 4 = some (.getfield 90, 7, 10, 5, 0, 6006) := rfl
theorem r_101_7 : row 101 7 = some (.i2l, 8, 0, 0, 0, 0) := rfl
theorem r_101_8 : row 101 8 = some (.invokestatic 82, 11, 86, 3, 0, 6131) := rfl
theorem r_101_11 : row 101 11 = some (.ifCond .ne 5, 14, 16, 0, 0, 0) := rfl
theorem r_101_14 : row 101 14 = some (.iconst (-1), 15, (-1), 0, 0, 0) := rfl
theorem r_101_15 : row 101 15 = some (.ireturn, 16, 0, 0, 0, 0) := rfl
theorem r_101_16 : row 101 16 = some (.aload_n 0, 17, 0, 0, 0, 0) := rfl
theorem r_101_17 : row 101 17 = some (.iload_n 1, 18, 0, 0, 0, 0) := rfl
theorem r_101_18 : row 101 18 = some (.putfield 90, 21, 10, 5, 0, 6006) := rfl
theorem r_101_21 : row 101 21 = some (.iload_n 1, 22, 0, 0, 0, 0) := rfl
theorem r_101_22 : row 101 22 = some (.ireturn, 23, 0, 0, 0, 0) := rfl
theorem r_238_0 : row 238 0 = some (.iload_n 1, 1, 0, 0, 0, 0) := rfl
theorem r_238_1 : row 238 1 = some (.ifCond .lt 13, 4, 14, 0, 0, 0) := rfl
theorem r_238_4 : row 238 4 = some (.iload_n 1, 5, 0, 0, 0, 0) := rfl
theorem r_238_5 : row 238 5 = some (.aload_n 0, 6, 0, 0, 0, 0) := rfl
theorem r_238_6 : row 238 6 = some (.arraylength, 7, 0, 0, 0, 0) := rfl
theorem r_238_7 : row 238 7 = some (.if_icmp .ge 7, 10, 14, 0, 0, 0) := rfl
theorem r_238_10 : row 238 10 = some (.aload_n 0, 11, 0, 0, 0, 0) := rfl
theorem r_238_11 : row 238 11 = some (.iload_n 1, 12, 0, 0, 0, 0) := rfl
theorem r_238_12 : row 238 12 = some (.iload_n 2, 13, 0, 0, 0, 0) := rfl
theorem r_238_13 : row 238 13 = some (.iastore, 14, 0, 0, 0, 0) := rfl
theorem r_238_14 : row 238 14 = some (.return_, 15, 0, 0, 0, 0) := rfl
theorem r_298_0 : row 298 0 = some (.bipush 24, 2, 24, 0, 0, 0) := rfl
theorem r_298_2 : row 298 2 = some (.istore_n 2, 3, 0, 0, 0, 0) := rfl
theorem r_298_3 : row 298 3 = some (.iload_n 2, 4, 0, 0, 0, 0) := rfl
theorem r_298_4 : row 298 4 = some (.ifCond .lt 37, 7, 41, 0, 0, 0) := rfl
theorem r_298_7 : row 298 7 = some (.aload_n 0, 8, 0, 0, 0, 0) := rfl
theorem r_298_8 : row 298 8 = some (.getfield 9, 11, 8, 0, 2, 1034) := rfl
theorem r_298_11 : row 298 11 = some (.aload_n 0, 12, 0, 0, 0, 0) := rfl
theorem r_298_12 : row 298 12 = some (.getfield 15, 15, 8, 1, 0, 1035) := rfl
theorem r_298_15 : row 298 15 = some (.iload_n 1, 16, 0, 0, 0, 0) := rfl
theorem r_298_16 : row 298 16 = some (.iload_n 2, 17, 0, 0, 0, 0) := rfl
theorem r_298_17 : row 298 17 = some (.ishr, 18, 0, 0, 0, 0) := rfl
theorem r_298_18 : row 298 18 = some (.sipush 255, 21, 255, 0, 0, 0) := rfl
theorem r_298_21 : row 298 21 = some (.iand, 22, 0, 0, 0, 0) := rfl
theorem r_298_22 : row 298 22 = some (.invokestatic 34, 25, 238, 3, 10, 2215) := rfl
theorem r_298_25 : row 298 25 = some (.aload_n 0, 26, 0, 0, 0, 0) := rfl
theorem r_298_26 : row 298 26 = some (.dup, 27, 0, 0, 0, 0) := rfl
theorem r_298_27 : row 298 27 = some (.getfield 15, 30, 8, 1, 0, 1035) := rfl
theorem r_298_30 : row 298 30 = some (.iconst 1, 31, 1, 0, 0, 0) := rfl
theorem r_298_31 : row 298 31 = some (.iadd, 32, 0, 0, 0, 0) := rfl
theorem r_298_32 : row 298 32 = some (.putfield 15, 35, 8, 1, 0, 1035) := rfl
theorem r_298_35 : row 298 35 = some (.iinc 2 (-8), 38, 0, 0, 0, 0) := rfl
theorem r_298_38 : row 298 38 = some (.goto (-35), 41, 3, 0, 0, 0) := rfl
theorem r_298_41 : row 298 41 = some (.return_, 42, 0, 0, 0, 0) := rfl
section TAPES
variable {T : List Kd} {m : Mm}
theorem tk_4 (hT : TT T) : T[4]? = some (3, 18) := hT 4 (by decide) (by decide)
theorem tk_22 (hT : TT T) : T[22]? = some (0, 3) := hT 22 (by decide) (by decide)
theorem gb_4_0 (hm : Gam m) : -2147483648 ≤ m 4 0 ∧ m 4 0 ≤ 2147483647 := (gc_0 rfl).mp (hm 4 (by decide) (by decide) 0 (by decide))
set_option maxRecDepth 100000 in
theorem x_238 (hT : TT T) (hm : Gam m) (i v : Int) (hv : -2147483648 ≤ v ∧ v ≤ 2147483647) : GX T 0 238 0 [(2, 3), (0, i), (0, v)] [] m (RV (fun m1 => Gam m1 ∧ Fr [3999] m m1)) := by
  refine gx_st (L' := [(2, 3), (0, i), (0, v)]) (S' := [(0, i)]) r_238_0 rfl rfl rfl ?_
  refine gx_i0 (P := i < 0) r_238_1 (rfl) (fun h1 => ?_) (fun h1 => ?_)
  · exact gx_rt r_238_14 rfl rfl ⟨rfl, hm, Fr_rf⟩
  · refine gx_st (L' := [(2, 3), (0, i), (0, v)]) (S' := [(0, i)]) r_238_4 rfl rfl rfl ?_
    refine gx_st (L' := [(2, 3), (0, i), (0, v)]) (S' := [(2, 3), (0, i)]) r_238_5 rfl rfl rfl ?_
    refine gx_al r_238_6 rfl (tk_3 hT) ⟨by decide, by decide, by decide⟩ ?_
    show GX T 0 238 7 [(2, 3), (0, i), (0, v)] [(0, 800), (0, i)] m (RV (fun m1 => Gam m1 ∧ Fr [3999] m m1))
    refine gx_ic (P := 800 ≤ i) r_238_7 (rfl) (fun h7 => ?_) (fun h7 => ?_)
    · exact gx_rt r_238_14 rfl rfl ⟨rfl, hm, Fr_rf⟩
    · refine gx_st (L' := [(2, 3), (0, i), (0, v)]) (S' := [(2, 3)]) r_238_10 rfl rfl rfl ?_
      refine gx_st (L' := [(2, 3), (0, i), (0, v)]) (S' := [(0, i), (2, 3)]) r_238_11 rfl rfl rfl ?_
      refine gx_st (L' := [(2, 3), (0, i), (0, v)]) (S' := [(0, v), (0, i), (2, 3)]) r_238_12 rfl rfl rfl ?_
      obtain ⟨m1, e_m1⟩ : ∃ z, z = nu_up m 3 ((i).toNat) v := ⟨_, rfl⟩
      have h_m1 : Gam m1 := by rw [e_m1]; exact gu_3 hm (i := (i).toNat) (by omega) (by omega)
      have f_m1 : Fr [3999] m m1 := Fr_tr Fr_rf (by rw [e_m1]; exact Fr_ua rfl rfl)
      refine gx_is (n := (i).toNat) (x := v) r_238_13 rfl (by decide) (tk_3 hT) (by omega) ⟨rfl, by omega⟩ e_m1.symm ?_
      exact gx_rt r_238_14 rfl rfl ⟨rfl, h_m1, f_m1⟩
set_option maxRecDepth 100000 in
theorem x_298 (hT : TT T) (hm : Gam m) {c : Nat} (hc : m 2 1 = (c : Int)) (hc8 : c ≤ 796) (x : Int) : GX T 1 298 0 [(2, 2), (0, x), (9, 0)] [] m (RV (fun m1 => Gam m1 ∧ Fr [2001, 3999] m m1 ∧ m1 2 1 = (c : Int) + 4)) := by
  have hc0 : m 2 1 = (c : Int) + 0 := by rw [Int.add_zero]; exact hc
  refine gx_st (L' := [(2, 2), (0, x), (9, 0)]) (S' := [(0, 24)]) r_298_0 rfl rfl rfl ?_
  refine gx_st (L' := [(2, 2), (0, x), (0, 24)]) (S' := []) r_298_2 rfl rfl rfl ?_
  refine gx_st (L' := [(2, 2), (0, x), (0, 24)]) (S' := [(0, 24)]) r_298_3 rfl rfl rfl ?_
  refine gx_i0 (P := 24 < 0) r_298_4 (rfl) (fun h4 => ?_) (fun h4 => ?_)
  · omega
  · refine gx_st (L' := [(2, 2), (0, x), (0, 24)]) (S' := [(2, 2)]) r_298_7 rfl rfl rfl ?_
    refine gx_gf (x := 3) 2 r_298_8 rfl (tk_2 hT) ⟨by decide, rfl, by decide, by decide⟩ rfl (fun _ => by decide) (pr_2_0 hm) ?_
    refine gx_st (L' := [(2, 2), (0, x), (0, 24)]) (S' := [(2, 2), (2, 3)]) r_298_11 rfl rfl rfl ?_
    refine gx_gf (x := (c : Int)) 0 r_298_12 rfl (tk_2 hT) ⟨by decide, rfl, by decide, by decide⟩ rfl (fun z => absurd z (by decide)) (hc0) ?_
    refine gx_st (L' := [(2, 2), (0, x), (0, 24)]) (S' := [(0, x), (0, (c : Int)), (2, 3)]) r_298_15 rfl rfl rfl ?_
    refine gx_st (L' := [(2, 2), (0, x), (0, 24)]) (S' := [(0, 24), (0, x), (0, (c : Int)), (2, 3)]) r_298_16 rfl rfl rfl ?_
    refine gx_st (L' := [(2, 2), (0, x), (0, 24)]) (S' := [(0, (ishr x 24)), (0, (c : Int)), (2, 3)]) r_298_17 rfl rfl rfl ?_
    have b18 : -2147483648 ≤ (ishr x 24) ∧ (ishr x 24) ≤ 2147483647 := i32_in _
    refine gx_st (L' := [(2, 2), (0, x), (0, 24)]) (S' := [(0, 255), (0, (ishr x 24)), (0, (c : Int)), (2, 3)]) r_298_18 rfl rfl rfl ?_
    refine gx_st (L' := [(2, 2), (0, x), (0, 24)]) (S' := [(0, (iand (ishr x 24) 255)), (0, (c : Int)), (2, 3)]) r_298_21 rfl rfl rfl ?_
    have b22 : -2147483648 ≤ (iand (ishr x 24) 255) ∧ (iand (ishr x 24) 255) ≤ 2147483647 := i32_in _
    refine gx_cv (nx := 25) (S2 := []) (x_238 hT hm (c : Int) ((iand (ishr x 24) 255)) (by omega)) r_298_22 rfl rfl rfl rfl rfl rfl rfl (by decide) rfl (fun n22 q22 => ?_)
    have f_n22 : Fr [2001, 3999] m n22 := Fr_tr Fr_rf (Fr_sub q22.2 (by decide))
    have z_n22 : n22 2 1 = (c : Int) + 0 := (q22.2 2 1 rfl).trans hc0
    refine gx_st (L' := [(2, 2), (0, x), (0, 24)]) (S' := [(2, 2)]) r_298_25 rfl rfl rfl ?_
    refine gx_st (L' := [(2, 2), (0, x), (0, 24)]) (S' := [(2, 2), (2, 2)]) r_298_26 rfl rfl rfl ?_
    refine gx_gf (x := (c : Int)) 0 r_298_27 rfl (tk_2 hT) ⟨by decide, rfl, by decide, by decide⟩ rfl (fun z => absurd z (by decide)) (z_n22) ?_
    refine gx_st (L' := [(2, 2), (0, x), (0, 24)]) (S' := [(0, 1), (0, (c : Int)), (2, 2)]) r_298_30 rfl rfl rfl ?_
    refine gx_ar (L' := [(2, 2), (0, x), (0, 24)]) (S' := [(2, 2)]) (t := 0) (e := w32 ((c : Int) + 1)) (z := (c : Int) + 1) r_298_31 rfl rfl rfl (w32_eq (by omega) (by omega) (by omega)) ?_
    obtain ⟨m1, e_m1⟩ : ∃ z, z = nu_up n22 2 1 ((c : Int) + 1) := ⟨_, rfl⟩
    have h_m1 : Gam m1 := by rw [e_m1]; exact gu_2_1 q22.1 (by omega) (by omega)
    have f_m1 : Fr [2001, 3999] m m1 := Fr_tr f_n22 (by rw [e_m1]; exact Fr_up rfl)
    refine gx_pf (x := (c : Int) + 1) 0 r_298_32 rfl (tk_2 hT) ⟨by decide, rfl, by decide, by decide⟩ rfl (fun z => absurd z (by decide)) (fun z => absurd z (by decide)) e_m1.symm ?_
    have z_m1 : m1 2 1 = (c : Int) + 1 := by rw [e_m1, nu_at]
    refine gx_li (z := 16) (L' := [(2, 2), (0, x), (0, 16)]) r_298_35 rfl (w32_eq (by omega) (by omega) (by omega)) rfl ?_
    refine gx_st (L' := [(2, 2), (0, x), (0, 16)]) (S' := []) r_298_38 rfl rfl rfl ?_
    refine gx_st (L' := [(2, 2), (0, x), (0, 16)]) (S' := [(0, 16)]) r_298_3 rfl rfl rfl ?_
    refine gx_i0 (P := 16 < 0) r_298_4 (rfl) (fun h4 => ?_) (fun h4 => ?_)
    · omega
    · refine gx_st (L' := [(2, 2), (0, x), (0, 16)]) (S' := [(2, 2)]) r_298_7 rfl rfl rfl ?_
      refine gx_gf (x := 3) 2 r_298_8 rfl (tk_2 hT) ⟨by decide, rfl, by decide, by decide⟩ rfl (fun _ => by decide) (pr_2_0 h_m1) ?_
      refine gx_st (L' := [(2, 2), (0, x), (0, 16)]) (S' := [(2, 2), (2, 3)]) r_298_11 rfl rfl rfl ?_
      refine gx_gf (x := (c : Int) + 1) 0 r_298_12 rfl (tk_2 hT) ⟨by decide, rfl, by decide, by decide⟩ rfl (fun z => absurd z (by decide)) (z_m1) ?_
      refine gx_st (L' := [(2, 2), (0, x), (0, 16)]) (S' := [(0, x), (0, (c : Int) + 1), (2, 3)]) r_298_15 rfl rfl rfl ?_
      refine gx_st (L' := [(2, 2), (0, x), (0, 16)]) (S' := [(0, 16), (0, x), (0, (c : Int) + 1), (2, 3)]) r_298_16 rfl rfl rfl ?_
      refine gx_st (L' := [(2, 2), (0, x), (0, 16)]) (S' := [(0, (ishr x 16)), (0, (c : Int) + 1), (2, 3)]) r_298_17 rfl rfl rfl ?_
      have b18 : -2147483648 ≤ (ishr x 16) ∧ (ishr x 16) ≤ 2147483647 := i32_in _
      refine gx_st (L' := [(2, 2), (0, x), (0, 16)]) (S' := [(0, 255), (0, (ishr x 16)), (0, (c : Int) + 1), (2, 3)]) r_298_18 rfl rfl rfl ?_
      refine gx_st (L' := [(2, 2), (0, x), (0, 16)]) (S' := [(0, (iand (ishr x 16) 255)), (0, (c : Int) + 1), (2, 3)]) r_298_21 rfl rfl rfl ?_
      have b22 : -2147483648 ≤ (iand (ishr x 16) 255) ∧ (iand (ishr x 16) 255) ≤ 2147483647 := i32_in _
      refine gx_cv (nx := 25) (S2 := []) (x_238 hT h_m1 ((c : Int) + 1) ((iand (ishr x 16) 255)) (by omega)) r_298_22 rfl rfl rfl rfl rfl rfl rfl (by decide) rfl (fun n22 q22 => ?_)
      have f_n22 : Fr [2001, 3999] m n22 := Fr_tr f_m1 (Fr_sub q22.2 (by decide))
      have z_n22 : n22 2 1 = (c : Int) + 1 := (q22.2 2 1 rfl).trans z_m1
      refine gx_st (L' := [(2, 2), (0, x), (0, 16)]) (S' := [(2, 2)]) r_298_25 rfl rfl rfl ?_
      refine gx_st (L' := [(2, 2), (0, x), (0, 16)]) (S' := [(2, 2), (2, 2)]) r_298_26 rfl rfl rfl ?_
      refine gx_gf (x := (c : Int) + 1) 0 r_298_27 rfl (tk_2 hT) ⟨by decide, rfl, by decide, by decide⟩ rfl (fun z => absurd z (by decide)) (z_n22) ?_
      refine gx_st (L' := [(2, 2), (0, x), (0, 16)]) (S' := [(0, 1), (0, (c : Int) + 1), (2, 2)]) r_298_30 rfl rfl rfl ?_
      refine gx_ar (L' := [(2, 2), (0, x), (0, 16)]) (S' := [(2, 2)]) (t := 0) (e := w32 (((c : Int) + 1) + 1)) (z := (c : Int) + 2) r_298_31 rfl rfl rfl (w32_eq (by omega) (by omega) (by omega)) ?_
      obtain ⟨m2, e_m2⟩ : ∃ z, z = nu_up n22 2 1 ((c : Int) + 2) := ⟨_, rfl⟩
      have h_m2 : Gam m2 := by rw [e_m2]; exact gu_2_1 q22.1 (by omega) (by omega)
      have f_m2 : Fr [2001, 3999] m m2 := Fr_tr f_n22 (by rw [e_m2]; exact Fr_up rfl)
      refine gx_pf (x := (c : Int) + 2) 0 r_298_32 rfl (tk_2 hT) ⟨by decide, rfl, by decide, by decide⟩ rfl (fun z => absurd z (by decide)) (fun z => absurd z (by decide)) e_m2.symm ?_
      have z_m2 : m2 2 1 = (c : Int) + 2 := by rw [e_m2, nu_at]
      refine gx_li (z := 8) (L' := [(2, 2), (0, x), (0, 8)]) r_298_35 rfl (w32_eq (by omega) (by omega) (by omega)) rfl ?_
      refine gx_st (L' := [(2, 2), (0, x), (0, 8)]) (S' := []) r_298_38 rfl rfl rfl ?_
      refine gx_st (L' := [(2, 2), (0, x), (0, 8)]) (S' := [(0, 8)]) r_298_3 rfl rfl rfl ?_
      refine gx_i0 (P := 8 < 0) r_298_4 (rfl) (fun h4 => ?_) (fun h4 => ?_)
      · omega
      · refine gx_st (L' := [(2, 2), (0, x), (0, 8)]) (S' := [(2, 2)]) r_298_7 rfl rfl rfl ?_
        refine gx_gf (x := 3) 2 r_298_8 rfl (tk_2 hT) ⟨by decide, rfl, by decide, by decide⟩ rfl (fun _ => by decide) (pr_2_0 h_m2) ?_
        refine gx_st (L' := [(2, 2), (0, x), (0, 8)]) (S' := [(2, 2), (2, 3)]) r_298_11 rfl rfl rfl ?_
        refine gx_gf (x := (c : Int) + 2) 0 r_298_12 rfl (tk_2 hT) ⟨by decide, rfl, by decide, by decide⟩ rfl (fun z => absurd z (by decide)) (z_m2) ?_
        refine gx_st (L' := [(2, 2), (0, x), (0, 8)]) (S' := [(0, x), (0, (c : Int) + 2), (2, 3)]) r_298_15 rfl rfl rfl ?_
        refine gx_st (L' := [(2, 2), (0, x), (0, 8)]) (S' := [(0, 8), (0, x), (0, (c : Int) + 2), (2, 3)]) r_298_16 rfl rfl rfl ?_
        refine gx_st (L' := [(2, 2), (0, x), (0, 8)]) (S' := [(0, (ishr x 8)), (0, (c : Int) + 2), (2, 3)]) r_298_17 rfl rfl rfl ?_
        have b18 : -2147483648 ≤ (ishr x 8) ∧ (ishr x 8) ≤ 2147483647 := i32_in _
        refine gx_st (L' := [(2, 2), (0, x), (0, 8)]) (S' := [(0, 255), (0, (ishr x 8)), (0, (c : Int) + 2), (2, 3)]) r_298_18 rfl rfl rfl ?_
        refine gx_st (L' := [(2, 2), (0, x), (0, 8)]) (S' := [(0, (iand (ishr x 8) 255)), (0, (c : Int) + 2), (2, 3)]) r_298_21 rfl rfl rfl ?_
        have b22 : -2147483648 ≤ (iand (ishr x 8) 255) ∧ (iand (ishr x 8) 255) ≤ 2147483647 := i32_in _
        refine gx_cv (nx := 25) (S2 := []) (x_238 hT h_m2 ((c : Int) + 2) ((iand (ishr x 8) 255)) (by omega)) r_298_22 rfl rfl rfl rfl rfl rfl rfl (by decide) rfl (fun n22 q22 => ?_)
        have f_n22 : Fr [2001, 3999] m n22 := Fr_tr f_m2 (Fr_sub q22.2 (by decide))
        have z_n22 : n22 2 1 = (c : Int) + 2 := (q22.2 2 1 rfl).trans z_m2
        refine gx_st (L' := [(2, 2), (0, x), (0, 8)]) (S' := [(2, 2)]) r_298_25 rfl rfl rfl ?_
        refine gx_st (L' := [(2, 2), (0, x), (0, 8)]) (S' := [(2, 2), (2, 2)]) r_298_26 rfl rfl rfl ?_
        refine gx_gf (x := (c : Int) + 2) 0 r_298_27 rfl (tk_2 hT) ⟨by decide, rfl, by decide, by decide⟩ rfl (fun z => absurd z (by decide)) (z_n22) ?_
        refine gx_st (L' := [(2, 2), (0, x), (0, 8)]) (S' := [(0, 1), (0, (c : Int) + 2), (2, 2)]) r_298_30 rfl rfl rfl ?_
        refine gx_ar (L' := [(2, 2), (0, x), (0, 8)]) (S' := [(2, 2)]) (t := 0) (e := w32 (((c : Int) + 2) + 1)) (z := (c : Int) + 3) r_298_31 rfl rfl rfl (w32_eq (by omega) (by omega) (by omega)) ?_
        obtain ⟨m3, e_m3⟩ : ∃ z, z = nu_up n22 2 1 ((c : Int) + 3) := ⟨_, rfl⟩
        have h_m3 : Gam m3 := by rw [e_m3]; exact gu_2_1 q22.1 (by omega) (by omega)
        have f_m3 : Fr [2001, 3999] m m3 := Fr_tr f_n22 (by rw [e_m3]; exact Fr_up rfl)
        refine gx_pf (x := (c : Int) + 3) 0 r_298_32 rfl (tk_2 hT) ⟨by decide, rfl, by decide, by decide⟩ rfl (fun z => absurd z (by decide)) (fun z => absurd z (by decide)) e_m3.symm ?_
        have z_m3 : m3 2 1 = (c : Int) + 3 := by rw [e_m3, nu_at]
        refine gx_li (z := 0) (L' := [(2, 2), (0, x), (0, 0)]) r_298_35 rfl (w32_eq (by omega) (by omega) (by omega)) rfl ?_
        refine gx_st (L' := [(2, 2), (0, x), (0, 0)]) (S' := []) r_298_38 rfl rfl rfl ?_
        refine gx_st (L' := [(2, 2), (0, x), (0, 0)]) (S' := [(0, 0)]) r_298_3 rfl rfl rfl ?_
        refine gx_i0 (P := 0 < 0) r_298_4 (rfl) (fun h4 => ?_) (fun h4 => ?_)
        · omega
        · refine gx_st (L' := [(2, 2), (0, x), (0, 0)]) (S' := [(2, 2)]) r_298_7 rfl rfl rfl ?_
          refine gx_gf (x := 3) 2 r_298_8 rfl (tk_2 hT) ⟨by decide, rfl, by decide, by decide⟩ rfl (fun _ => by decide) (pr_2_0 h_m3) ?_
          refine gx_st (L' := [(2, 2), (0, x), (0, 0)]) (S' := [(2, 2), (2, 3)]) r_298_11 rfl rfl rfl ?_
          refine gx_gf (x := (c : Int) + 3) 0 r_298_12 rfl (tk_2 hT) ⟨by decide, rfl, by decide, by decide⟩ rfl (fun z => absurd z (by decide)) (z_m3) ?_
          refine gx_st (L' := [(2, 2), (0, x), (0, 0)]) (S' := [(0, x), (0, (c : Int) + 3), (2, 3)]) r_298_15 rfl rfl rfl ?_
          refine gx_st (L' := [(2, 2), (0, x), (0, 0)]) (S' := [(0, 0), (0, x), (0, (c : Int) + 3), (2, 3)]) r_298_16 rfl rfl rfl ?_
          refine gx_st (L' := [(2, 2), (0, x), (0, 0)]) (S' := [(0, (ishr x 0)), (0, (c : Int) + 3), (2, 3)]) r_298_17 rfl rfl rfl ?_
          have b18 : -2147483648 ≤ (ishr x 0) ∧ (ishr x 0) ≤ 2147483647 := i32_in _
          refine gx_st (L' := [(2, 2), (0, x), (0, 0)]) (S' := [(0, 255), (0, (ishr x 0)), (0, (c : Int) + 3), (2, 3)]) r_298_18 rfl rfl rfl ?_
          refine gx_st (L' := [(2, 2), (0, x), (0, 0)]) (S' := [(0, (iand (ishr x 0) 255)), (0, (c : Int) + 3), (2, 3)]) r_298_21 rfl rfl rfl ?_
          have b22 : -2147483648 ≤ (iand (ishr x 0) 255) ∧ (iand (ishr x 0) 255) ≤ 2147483647 := i32_in _
          refine gx_cv (nx := 25) (S2 := []) (x_238 hT h_m3 ((c : Int) + 3) ((iand (ishr x 0) 255)) (by omega)) r_298_22 rfl rfl rfl rfl rfl rfl rfl (by decide) rfl (fun n22 q22 => ?_)
          have f_n22 : Fr [2001, 3999] m n22 := Fr_tr f_m3 (Fr_sub q22.2 (by decide))
          have z_n22 : n22 2 1 = (c : Int) + 3 := (q22.2 2 1 rfl).trans z_m3
          refine gx_st (L' := [(2, 2), (0, x), (0, 0)]) (S' := [(2, 2)]) r_298_25 rfl rfl rfl ?_
          refine gx_st (L' := [(2, 2), (0, x), (0, 0)]) (S' := [(2, 2), (2, 2)]) r_298_26 rfl rfl rfl ?_
          refine gx_gf (x := (c : Int) + 3) 0 r_298_27 rfl (tk_2 hT) ⟨by decide, rfl, by decide, by decide⟩ rfl (fun z => absurd z (by decide)) (z_n22) ?_
          refine gx_st (L' := [(2, 2), (0, x), (0, 0)]) (S' := [(0, 1), (0, (c : Int) + 3), (2, 2)]) r_298_30 rfl rfl rfl ?_
          refine gx_ar (L' := [(2, 2), (0, x), (0, 0)]) (S' := [(2, 2)]) (t := 0) (e := w32 (((c : Int) + 3) + 1)) (z := (c : Int) + 4) r_298_31 rfl rfl rfl (w32_eq (by omega) (by omega) (by omega)) ?_
          obtain ⟨m4, e_m4⟩ : ∃ z, z = nu_up n22 2 1 ((c : Int) + 4) := ⟨_, rfl⟩
          have h_m4 : Gam m4 := by rw [e_m4]; exact gu_2_1 q22.1 (by omega) (by omega)
          have f_m4 : Fr [2001, 3999] m m4 := Fr_tr f_n22 (by rw [e_m4]; exact Fr_up rfl)
          refine gx_pf (x := (c : Int) + 4) 0 r_298_32 rfl (tk_2 hT) ⟨by decide, rfl, by decide, by decide⟩ rfl (fun z => absurd z (by decide)) (fun z => absurd z (by decide)) e_m4.symm ?_
          have z_m4 : m4 2 1 = (c : Int) + 4 := by rw [e_m4, nu_at]
          refine gx_li (z := (-8)) (L' := [(2, 2), (0, x), (0, (-8))]) r_298_35 rfl (w32_eq (by omega) (by omega) (by omega)) rfl ?_
          refine gx_st (L' := [(2, 2), (0, x), (0, (-8))]) (S' := []) r_298_38 rfl rfl rfl ?_
          refine gx_st (L' := [(2, 2), (0, x), (0, (-8))]) (S' := [(0, (-8))]) r_298_3 rfl rfl rfl ?_
          refine gx_i0 (P := (-8) < 0) r_298_4 (rfl) (fun h4 => ?_) (fun h4 => ?_)
          · exact gx_rt r_298_41 rfl rfl ⟨rfl, h_m4, f_m4, z_m4⟩
          · omega
set_option maxRecDepth 100000 in
theorem x_1 (hT : TT T) (hm : Gam m) {c : Nat} (hc : m 2 1 = (c : Int)) (hc8 : c ≤ 800) (a b x d e : Int) : GX T 2 1 0 [(2, 1), (0, a), (0, b), (0, x), (0, d), (0, e)] [] m (RI (fun v m1 => (780 < (c : Int) → v = -1 ∧ m1 = m) ∧ ((c : Int) ≤ 780 → v = (c : Int) + 20 ∧ m1 2 1 = (c : Int) + 20) ∧ Gam m1 ∧ Fr [2001, 3999] m m1)) := by
  refine gx_st (L' := [(2, 1), (0, a), (0, b), (0, x), (0, d), (0, e)]) (S' := [(2, 1)]) r_1_0 rfl rfl rfl ?_
  refine gx_gf (x := 2) 2 r_1_1 rfl (tk_1 hT) ⟨by decide, rfl, by decide, by decide⟩ rfl (fun _ => by decide) (pr_1_0 hm) ?_
  refine gx_gf (x := (c : Int)) 0 r_1_4 rfl (tk_2 hT) ⟨by decide, rfl, by decide, by decide⟩ rfl (fun z => absurd z (by decide)) (hc) ?_
  refine gx_st (L' := [(2, 1), (0, a), (0, b), (0, x), (0, d), (0, e)]) (S' := [(0, 780), (0, (c : Int))]) r_1_7 rfl rfl rfl ?_
  refine gx_ic (P := (c : Int) ≤ 780) r_1_10 (rfl) (fun h10 => ?_) (fun h10 => ?_)
  · refine gx_st (L' := [(2, 1), (0, a), (0, b), (0, x), (0, d), (0, e)]) (S' := [(2, 1)]) r_1_15 rfl rfl rfl ?_
    refine gx_gf (x := 2) 2 r_1_16 rfl (tk_1 hT) ⟨by decide, rfl, by decide, by decide⟩ rfl (fun _ => by decide) (pr_1_0 hm) ?_
    refine gx_st (L' := [(2, 1), (0, a), (0, b), (0, x), (0, d), (0, e)]) (S' := [(0, a), (2, 2)]) r_1_19 rfl rfl rfl ?_
    refine gx_cv (nx := 23) (S2 := []) (x_298 hT hm (c := c) hc (by omega) a) r_1_20 rfl rfl rfl rfl rfl (rcv_v rfl (tk_2 hT) (by decide) rfl (by decide)) rfl (by decide) rfl (fun n20 q20 => ?_)
    have f_n20 : Fr [2001, 3999] m n20 := Fr_tr Fr_rf q20.2.1
    have z_n20 : n20 2 1 = (c : Int) + 4 := by have z := q20.2.2; omega
    refine gx_st (L' := [(2, 1), (0, a), (0, b), (0, x), (0, d), (0, e)]) (S' := [(2, 1)]) r_1_23 rfl rfl rfl ?_
    refine gx_gf (x := 2) 2 r_1_24 rfl (tk_1 hT) ⟨by decide, rfl, by decide, by decide⟩ rfl (fun _ => by decide) (pr_1_0 q20.1) ?_
    refine gx_st (L' := [(2, 1), (0, a), (0, b), (0, x), (0, d), (0, e)]) (S' := [(0, b), (2, 2)]) r_1_27 rfl rfl rfl ?_
    refine gx_cv (nx := 31) (S2 := []) (x_298 hT q20.1 (c := (c + 4)) (by rw [z_n20]; rfl) (by omega) b) r_1_28 rfl rfl rfl rfl rfl (rcv_v rfl (tk_2 hT) (by decide) rfl (by decide)) rfl (by decide) rfl (fun n28 q28 => ?_)
    have f_n28 : Fr [2001, 3999] m n28 := Fr_tr f_n20 q28.2.1
    have z_n28 : n28 2 1 = (c : Int) + 8 := by have z := q28.2.2; omega
    refine gx_st (L' := [(2, 1), (0, a), (0, b), (0, x), (0, d), (0, e)]) (S' := [(2, 1)]) r_1_31 rfl rfl rfl ?_
    refine gx_gf (x := 2) 2 r_1_32 rfl (tk_1 hT) ⟨by decide, rfl, by decide, by decide⟩ rfl (fun _ => by decide) (pr_1_0 q28.1) ?_
    refine gx_st (L' := [(2, 1), (0, a), (0, b), (0, x), (0, d), (0, e)]) (S' := [(0, x), (2, 2)]) r_1_35 rfl rfl rfl ?_
    refine gx_cv (nx := 39) (S2 := []) (x_298 hT q28.1 (c := (c + 8)) (by rw [z_n28]; rfl) (by omega) x) r_1_36 rfl rfl rfl rfl rfl (rcv_v rfl (tk_2 hT) (by decide) rfl (by decide)) rfl (by decide) rfl (fun n36 q36 => ?_)
    have f_n36 : Fr [2001, 3999] m n36 := Fr_tr f_n28 q36.2.1
    have z_n36 : n36 2 1 = (c : Int) + 12 := by have z := q36.2.2; omega
    refine gx_st (L' := [(2, 1), (0, a), (0, b), (0, x), (0, d), (0, e)]) (S' := [(2, 1)]) r_1_39 rfl rfl rfl ?_
    refine gx_gf (x := 2) 2 r_1_40 rfl (tk_1 hT) ⟨by decide, rfl, by decide, by decide⟩ rfl (fun _ => by decide) (pr_1_0 q36.1) ?_
    refine gx_st (L' := [(2, 1), (0, a), (0, b), (0, x), (0, d), (0, e)]) (S' := [(0, d), (2, 2)]) r_1_43 rfl rfl rfl ?_
    refine gx_cv (nx := 48) (S2 := []) (x_298 hT q36.1 (c := (c + 12)) (by rw [z_n36]; rfl) (by omega) d) r_1_45 rfl rfl rfl rfl rfl (rcv_v rfl (tk_2 hT) (by decide) rfl (by decide)) rfl (by decide) rfl (fun n45 q45 => ?_)
    have f_n45 : Fr [2001, 3999] m n45 := Fr_tr f_n36 q45.2.1
    have z_n45 : n45 2 1 = (c : Int) + 16 := by have z := q45.2.2; omega
    refine gx_st (L' := [(2, 1), (0, a), (0, b), (0, x), (0, d), (0, e)]) (S' := [(2, 1)]) r_1_48 rfl rfl rfl ?_
    refine gx_gf (x := 2) 2 r_1_49 rfl (tk_1 hT) ⟨by decide, rfl, by decide, by decide⟩ rfl (fun _ => by decide) (pr_1_0 q45.1) ?_
    refine gx_st (L' := [(2, 1), (0, a), (0, b), (0, x), (0, d), (0, e)]) (S' := [(0, e), (2, 2)]) r_1_52 rfl rfl rfl ?_
    refine gx_cv (nx := 57) (S2 := []) (x_298 hT q45.1 (c := (c + 16)) (by rw [z_n45]; rfl) (by omega) e) r_1_54 rfl rfl rfl rfl rfl (rcv_v rfl (tk_2 hT) (by decide) rfl (by decide)) rfl (by decide) rfl (fun n54 q54 => ?_)
    have f_n54 : Fr [2001, 3999] m n54 := Fr_tr f_n45 q54.2.1
    have z_n54 : n54 2 1 = (c : Int) + 20 := by have z := q54.2.2; omega
    refine gx_st (L' := [(2, 1), (0, a), (0, b), (0, x), (0, d), (0, e)]) (S' := [(2, 1)]) r_1_57 rfl rfl rfl ?_
    refine gx_gf (x := 2) 2 r_1_58 rfl (tk_1 hT) ⟨by decide, rfl, by decide, by decide⟩ rfl (fun _ => by decide) (pr_1_0 q54.1) ?_
    refine gx_gf (x := (c : Int) + 20) 0 r_1_61 rfl (tk_2 hT) ⟨by decide, rfl, by decide, by decide⟩ rfl (fun z => absurd z (by decide)) (z_n54) ?_
    exact gx_rt r_1_64 rfl rfl ⟨_, rfl, fun z => by omega, fun _ => ⟨rfl, z_n54⟩, q54.1, f_n54⟩
  · refine gx_st (L' := [(2, 1), (0, a), (0, b), (0, x), (0, d), (0, e)]) (S' := [(0, (-1))]) r_1_13 rfl rfl rfl ?_
    exact gx_rt r_1_14 rfl rfl ⟨_, rfl, fun _ => ⟨rfl, rfl⟩, fun z => by omega, hm, Fr_rf⟩
theorem x_2 (hT : TT T) (hm : Gam m) {c : Nat} (hc : m 2 1 = (c : Int)) (hc8 : c ≤ 800) (n : Int) : GX T 0 2 0 [(2, 1), (0, n)] [] m (RI (fun v m1 => (0 ≤ n ∧ n ≤ (c : Int) → v = n ∧ m1 2 1 = n) ∧ (¬ (0 ≤ n ∧ n ≤ (c : Int)) → v = -1 ∧ m1 = m) ∧ Gam m1 ∧ Fr [2001] m m1)) := by
  refine gx_st (L' := [(2, 1), (0, n)]) (S' := [(0, n)]) r_2_0 rfl rfl rfl ?_
  refine gx_i0 (P := n < 0) r_2_1 (rfl) (fun h1 => ?_) (fun h1 => ?_)
  · refine gx_st (L' := [(2, 1), (0, n)]) (S' := [(0, (-1))]) r_2_15 rfl rfl rfl ?_
    exact gx_rt r_2_16 rfl rfl ⟨_, rfl, fun z => by omega, fun _ => ⟨rfl, rfl⟩, hm, Fr_rf⟩
  · refine gx_st (L' := [(2, 1), (0, n)]) (S' := [(0, n)]) r_2_4 rfl rfl rfl ?_
    refine gx_st (L' := [(2, 1), (0, n)]) (S' := [(2, 1), (0, n)]) r_2_5 rfl rfl rfl ?_
    refine gx_gf (x := 2) 2 r_2_6 rfl (tk_1 hT) ⟨by decide, rfl, by decide, by decide⟩ rfl (fun _ => by decide) (pr_1_0 hm) ?_
    refine gx_gf (x := (c : Int)) 0 r_2_9 rfl (tk_2 hT) ⟨by decide, rfl, by decide, by decide⟩ rfl (fun z => absurd z (by decide)) (hc) ?_
    refine gx_ic (P := n ≤ (c : Int)) r_2_12 (rfl) (fun h12 => ?_) (fun h12 => ?_)
    · refine gx_st (L' := [(2, 1), (0, n)]) (S' := [(2, 1)]) r_2_17 rfl rfl rfl ?_
      refine gx_gf (x := 2) 2 r_2_18 rfl (tk_1 hT) ⟨by decide, rfl, by decide, by decide⟩ rfl (fun _ => by decide) (pr_1_0 hm) ?_
      refine gx_st (L' := [(2, 1), (0, n)]) (S' := [(0, n), (2, 2)]) r_2_21 rfl rfl rfl ?_
      obtain ⟨m1, e_m1⟩ : ∃ z, z = nu_up m 2 1 n := ⟨_, rfl⟩
      have h_m1 : Gam m1 := by rw [e_m1]; exact gu_2_1 hm (by omega) (by omega)
      have f_m1 : Fr [2001] m m1 := Fr_tr Fr_rf (by rw [e_m1]; exact Fr_up rfl)
      refine gx_pf (x := n) 0 r_2_22 rfl (tk_2 hT) ⟨by decide, rfl, by decide, by decide⟩ rfl (fun z => absurd z (by decide)) (fun z => absurd z (by decide)) e_m1.symm ?_
      refine gx_st (L' := [(2, 1), (0, n)]) (S' := [(0, n)]) r_2_25 rfl rfl rfl ?_
      exact gx_rt r_2_26 rfl rfl ⟨_, rfl, fun _ => ⟨rfl, by rw [e_m1, nu_at]⟩, fun z => by omega, h_m1, f_m1⟩
    · refine gx_st (L' := [(2, 1), (0, n)]) (S' := [(0, (-1))]) r_2_15 rfl rfl rfl ?_
      exact gx_rt r_2_16 rfl rfl ⟨_, rfl, fun z => by omega, fun _ => ⟨rfl, rfl⟩, hm, Fr_rf⟩
theorem x_101 (hT : TT T) (hm : Gam m) {c : Nat} (hc : m 192 5 = (c : Int)) (hc8 : c ≤ 800) (n : Int) : GX T 1 101 0 [(2, 192), (0, n)] [] m (RI (fun v m1 => (0 ≤ n ∧ n ≤ (c : Int) → v = n ∧ m1 192 5 = n) ∧ (¬ (0 ≤ n ∧ n ≤ (c : Int)) → v = -1 ∧ m1 = m) ∧ Gam m1 ∧ Fr [90005] m m1)) := by
  refine gx_st (L' := [(2, 192), (0, n)]) (S' := [(0, n)]) r_101_0 rfl rfl rfl ?_
  refine gx_st (L' := [(2, 192), (0, n)]) (S' := [(1, n)]) r_101_1 rfl rfl rfl ?_
  refine gx_st (L' := [(2, 192), (0, n)]) (S' := [(1, 0), (1, n)]) r_101_2 rfl rfl rfl ?_
  refine gx_st (L' := [(2, 192), (0, n)]) (S' := [(2, 192), (1, 0), (1, n)]) r_101_3 rfl rfl rfl ?_
  refine gx_gf (x := (c : Int)) 0 r_101_4 rfl (tk_192 hT) ⟨by decide, rfl, by decide, by decide⟩ rfl (fun z => absurd z (by decide)) (hc) ?_
  refine gx_st (L' := [(2, 192), (0, n)]) (S' := [(1, (c : Int)), (1, 0), (1, n)]) r_101_7 rfl rfl rfl ?_
  refine gx_ci (nx := 11) (S2 := []) (x_86 n 0 (c : Int)) r_101_8 rfl rfl rfl rfl rfl rfl rfl (by decide) rfl (fun x8 n8 q8 => ?_)
  obtain rfl := q8.1.symm
  obtain rfl := q8.2.symm
  show GX T 1 101 11 [(2, 192), (0, n)] [(0, (if 0 ≤ n ∧ n ≤ (c : Int) then 1 else 0))] m (RI (fun v m1 => (0 ≤ n ∧ n ≤ (c : Int) → v = n ∧ m1 192 5 = n) ∧ (¬ (0 ≤ n ∧ n ≤ (c : Int)) → v = -1 ∧ m1 = m) ∧ Gam m1 ∧ Fr [90005] m m1))
  refine gx_i0 (P := 0 ≤ n ∧ n ≤ (c : Int)) r_101_11 (b01_ne) (fun h11 => ?_) (fun h11 => ?_)
  · refine gx_st (L' := [(2, 192), (0, n)]) (S' := [(2, 192)]) r_101_16 rfl rfl rfl ?_
    refine gx_st (L' := [(2, 192), (0, n)]) (S' := [(0, n), (2, 192)]) r_101_17 rfl rfl rfl ?_
    obtain ⟨m1, e_m1⟩ : ∃ z, z = nu_up m 192 5 n := ⟨_, rfl⟩
    have h_m1 : Gam m1 := by rw [e_m1]; exact gu_192_5 hm (by omega) (by omega)
    have f_m1 : Fr [90005] m m1 := Fr_tr Fr_rf (by rw [e_m1]; exact Fr_up rfl)
    refine gx_pf (x := n) 0 r_101_18 rfl (tk_192 hT) ⟨by decide, rfl, by decide, by decide⟩ rfl (fun z => absurd z (by decide)) (fun z => absurd z (by decide)) e_m1.symm ?_
    refine gx_st (L' := [(2, 192), (0, n)]) (S' := [(0, n)]) r_101_21 rfl rfl rfl ?_
    exact gx_rt r_101_22 rfl rfl ⟨_, rfl, fun _ => ⟨rfl, by rw [e_m1, nu_at]⟩, fun z => by omega, h_m1, f_m1⟩
  · refine gx_st (L' := [(2, 192), (0, n)]) (S' := [(0, (-1))]) r_101_14 rfl rfl rfl ?_
    exact gx_rt r_101_15 rfl rfl ⟨_, rfl, fun z => by omega, fun _ => ⟨rfl, rfl⟩, hm, Fr_rf⟩
set_option maxRecDepth 100000 in
theorem cz_223 : conL[223]? = some (299, [(2, 2, 0), (2, 13, 0)], (0, 0, 1), [2002, 2003, 2004, 2005, 2006, 13000, 13001, 13002, 13003, 13004, 13005, 13006, 13007, 13008, 13009, 14999, 15999, 16999, 17999, 18999, 19999, 20999, 21999], 7) := rfl
theorem pz_223 (hT : TT T) : ConH T (299, [(2, 2, 0), (2, 13, 0)], (0, 0, 1), [2002, 2003, 2004, 2005, 2006, 13000, 13001, 13002, 13003, 13004, 13005, 13006, 13007, 13008, 13009, 14999, 15999, 16999, 17999, 18999, 19999, 20999, 21999], 7) := fun args m => ((all_con hT 223).1 (by decide)) _ cz_223 args m
set_option maxRecDepth 100000 in
theorem cz_232 : conL[232]? = some (254, [(2, 4, 0), (2, 13, 0)], (9, 0, 0), [4000, 4001, 4002, 4003, 4004, 4005, 4006, 4007, 4008, 4009, 5999, 6999, 7999, 8999, 9999, 10999, 11999, 12999], 1) := rfl
theorem pz_232 (hT : TT T) : ConH T (254, [(2, 4, 0), (2, 13, 0)], (9, 0, 0), [4000, 4001, 4002, 4003, 4004, 4005, 4006, 4007, 4008, 4009, 5999, 6999, 7999, 8999, 9999, 10999, 11999, 12999], 1) := fun args m => ((all_con hT 232).1 (by decide)) _ cz_232 args m
set_option maxRecDepth 100000 in
theorem cz_234 : conL[234]? = some (235, [(2, 22, 0)], (9, 0, 0), [22002, 23999], 1) := rfl
theorem pz_234 (hT : TT T) : ConH T (235, [(2, 22, 0)], (9, 0, 0), [22002, 23999], 1) := fun args m => ((all_con hT 234).1 (by decide)) _ cz_234 args m
set_option maxRecDepth 100000 in
theorem cz_277 : conL[277]? = some (75, [(2, 1, 0)], (9, 0, 0), [1015, 28010, 28011, 28012, 28013, 29000, 29001, 29002, 29003, 29004, 29005, 29006, 29007, 30999, 31999, 32999, 33999, 34999, 35999, 36999, 37999, 38999, 39999, 40999], 5) := rfl
theorem pz_277 (hT : TT T) : ConH T (75, [(2, 1, 0)], (9, 0, 0), [1015, 28010, 28011, 28012, 28013, 29000, 29001, 29002, 29003, 29004, 29005, 29006, 29007, 30999, 31999, 32999, 33999, 34999, 35999, 36999, 37999, 38999, 39999, 40999], 5) := fun args m => ((all_con hT 277).1 (by decide)) _ cz_277 args m
theorem gq_ob {o : Nat} {t : Int} (h1 : 0 < o) (h2 : o < 213) (h3 : (tyO o : Int) = t) : gq0 (2, t, 0) (2, (o : Int)) := (gq_2 rfl).mpr ⟨rfl, by show (0 : Int) < (o : Int); omega, by show (o : Int) < 213; omega, h3⟩
theorem x_3 (hT : TT T) (hm : Gam m) : GX T 8 3 0 [(2, 1), (9, 0)] [] m (RI (fun v m1 => -2147483648 ≤ v ∧ v ≤ 2147483647 ∧ Gam m1 ∧ Fr [1015, 2001, 2002, 2003, 2004, 2005, 2006, 4000, 4001, 4002, 4003, 4004, 4005, 4006, 4007, 4008, 4009, 5999, 6999, 7999, 8999, 9999, 10999, 11999, 12999, 13000, 13001, 13002, 13003, 13004, 13005, 13006, 13007, 13008, 13009, 14999, 15999, 16999, 17999, 18999, 19999, 20999, 21999, 22002, 23999, 28010, 28011, 28012, 28013, 29000, 29001, 29002, 29003, 29004, 29005, 29006, 29007, 30999, 31999, 32999, 33999, 34999, 35999, 36999, 37999, 38999, 39999, 40999] m m1 ∧ m1 2 1 = 0)) := by
  refine gx_st (L' := [(2, 1), (9, 0)]) (S' := [(2, 1)]) r_3_0 rfl rfl rfl ?_
  refine gx_gf (x := 2) 2 r_3_1 rfl (tk_1 hT) ⟨by decide, rfl, by decide, by decide⟩ rfl (fun _ => by decide) (pr_1_0 hm) ?_
  refine gx_st (L' := [(2, 1), (9, 0)]) (S' := [(2, 1), (2, 2)]) r_3_4 rfl rfl rfl ?_
  refine gx_gf (x := 13) 2 r_3_5 rfl (tk_1 hT) ⟨by decide, rfl, by decide, by decide⟩ rfl (fun _ => by decide) (pr_1_2 hm) ?_
  refine gx_ci (nx := 11) (S2 := []) (gx_hi (args := [(2, 2), (2, 13)]) (pz_223 hT) ⟨gq_ob (o := 2) (by decide) (by decide) rfl, gq_ob (o := 13) (by decide) (by decide) rfl, trivial⟩ hm rfl) r_3_8 rfl rfl rfl rfl rfl (rcv_v rfl (tk_2 hT) (by decide) rfl (by decide)) rfl (by decide) rfl (fun x8 n8 q8 => ?_)
  have b_x8 := And.intro q8.1 q8.2.1
  show GX T 8 3 11 [(2, 1), (9, 0)] [(0, x8)] n8 (RI (fun v m1 => -2147483648 ≤ v ∧ v ≤ 2147483647 ∧ Gam m1 ∧ Fr [1015, 2001, 2002, 2003, 2004, 2005, 2006, 4000, 4001, 4002, 4003, 4004, 4005, 4006, 4007, 4008, 4009, 5999, 6999, 7999, 8999, 9999, 10999, 11999, 12999, 13000, 13001, 13002, 13003, 13004, 13005, 13006, 13007, 13008, 13009, 14999, 15999, 16999, 17999, 18999, 19999, 20999, 21999, 22002, 23999, 28010, 28011, 28012, 28013, 29000, 29001, 29002, 29003, 29004, 29005, 29006, 29007, 30999, 31999, 32999, 33999, 34999, 35999, 36999, 37999, 38999, 39999, 40999] m m1 ∧ m1 2 1 = 0))
  have f_n8 : Fr [1015, 2001, 2002, 2003, 2004, 2005, 2006, 4000, 4001, 4002, 4003, 4004, 4005, 4006, 4007, 4008, 4009, 5999, 6999, 7999, 8999, 9999, 10999, 11999, 12999, 13000, 13001, 13002, 13003, 13004, 13005, 13006, 13007, 13008, 13009, 14999, 15999, 16999, 17999, 18999, 19999, 20999, 21999, 22002, 23999, 28010, 28011, 28012, 28013, 29000, 29001, 29002, 29003, 29004, 29005, 29006, 29007, 30999, 31999, 32999, 33999, 34999, 35999, 36999, 37999, 38999, 39999, 40999] m n8 := Fr_tr Fr_rf (Fr_sub q8.2.2.2 (by decide))
  refine gx_st (L' := [(2, 1), (0, x8)]) (S' := []) r_3_11 rfl rfl rfl ?_
  refine gx_st (L' := [(2, 1), (0, x8)]) (S' := [(2, 1)]) r_3_12 rfl rfl rfl ?_
  refine gx_gf (x := 2) 2 r_3_13 rfl (tk_1 hT) ⟨by decide, rfl, by decide, by decide⟩ rfl (fun _ => by decide) (pr_1_0 q8.2.2.1) ?_
  refine gx_st (L' := [(2, 1), (0, x8)]) (S' := [(0, 0), (2, 2)]) r_3_16 rfl rfl rfl ?_
  obtain ⟨m1, e_m1⟩ : ∃ z, z = nu_up n8 2 1 0 := ⟨_, rfl⟩
  have h_m1 : Gam m1 := by rw [e_m1]; exact gu_2_1 q8.2.2.1 (by omega) (by omega)
  have f_m1 : Fr [1015, 2001, 2002, 2003, 2004, 2005, 2006, 4000, 4001, 4002, 4003, 4004, 4005, 4006, 4007, 4008, 4009, 5999, 6999, 7999, 8999, 9999, 10999, 11999, 12999, 13000, 13001, 13002, 13003, 13004, 13005, 13006, 13007, 13008, 13009, 14999, 15999, 16999, 17999, 18999, 19999, 20999, 21999, 22002, 23999, 28010, 28011, 28012, 28013, 29000, 29001, 29002, 29003, 29004, 29005, 29006, 29007, 30999, 31999, 32999, 33999, 34999, 35999, 36999, 37999, 38999, 39999, 40999] m m1 := Fr_tr f_n8 (by rw [e_m1]; exact Fr_up rfl)
  refine gx_pf (x := 0) 0 r_3_17 rfl (tk_2 hT) ⟨by decide, rfl, by decide, by decide⟩ rfl (fun z => absurd z (by decide)) (fun z => absurd z (by decide)) e_m1.symm ?_
  have z_m1 : m1 2 1 = 0 := by rw [e_m1, nu_at]
  refine gx_st (L' := [(2, 1), (0, x8)]) (S' := [(0, x8)]) r_3_20 rfl rfl rfl ?_
  refine gx_i0 (P := ¬ x8 = 0) r_3_21 (rfl) (fun h21 => ?_) (fun h21 => ?_)
  · refine gx_st (L' := [(2, 1), (0, x8)]) (S' := [(2, 1)]) r_3_27 rfl rfl rfl ?_
    refine gx_gf (x := 4) 2 r_3_28 rfl (tk_1 hT) ⟨by decide, rfl, by decide, by decide⟩ rfl (fun _ => by decide) (pr_1_1 h_m1) ?_
    refine gx_st (L' := [(2, 1), (0, x8)]) (S' := [(2, 1), (2, 4)]) r_3_31 rfl rfl rfl ?_
    refine gx_gf (x := 13) 2 r_3_32 rfl (tk_1 hT) ⟨by decide, rfl, by decide, by decide⟩ rfl (fun _ => by decide) (pr_1_2 h_m1) ?_
    refine gx_cv (nx := 38) (S2 := []) (gx_hv (args := [(2, 4), (2, 13)]) (pz_232 hT) ⟨gq_ob (o := 4) (by decide) (by decide) rfl, gq_ob (o := 13) (by decide) (by decide) rfl, trivial⟩ h_m1 rfl) r_3_35 rfl rfl rfl rfl rfl (rcv_v rfl (tk_4 hT) (by decide) rfl (by decide)) rfl (by decide) rfl (fun n35 q35 => ?_)
    have f_n35 : Fr [1015, 2001, 2002, 2003, 2004, 2005, 2006, 4000, 4001, 4002, 4003, 4004, 4005, 4006, 4007, 4008, 4009, 5999, 6999, 7999, 8999, 9999, 10999, 11999, 12999, 13000, 13001, 13002, 13003, 13004, 13005, 13006, 13007, 13008, 13009, 14999, 15999, 16999, 17999, 18999, 19999, 20999, 21999, 22002, 23999, 28010, 28011, 28012, 28013, 29000, 29001, 29002, 29003, 29004, 29005, 29006, 29007, 30999, 31999, 32999, 33999, 34999, 35999, 36999, 37999, 38999, 39999, 40999] m n35 := Fr_tr f_m1 (Fr_sub q35.2 (by decide))
    have z_n35 : n35 2 1 = 0 := (q35.2 2 1 rfl).trans z_m1
    refine gx_st (L' := [(2, 1), (0, x8)]) (S' := [(2, 1)]) r_3_38 rfl rfl rfl ?_
    refine gx_gf (x := 22) 2 r_3_39 rfl (tk_1 hT) ⟨by decide, rfl, by decide, by decide⟩ rfl (fun _ => by decide) (pr_1_3 q35.1) ?_
    refine gx_cv (nx := 45) (S2 := []) (gx_hv (args := [(2, 22)]) (pz_234 hT) ⟨gq_ob (o := 22) (by decide) (by decide) rfl, trivial⟩ q35.1 rfl) r_3_42 rfl rfl rfl rfl rfl (rcv_v rfl (tk_22 hT) (by decide) rfl (by decide)) rfl (by decide) rfl (fun n42 q42 => ?_)
    have f_n42 : Fr [1015, 2001, 2002, 2003, 2004, 2005, 2006, 4000, 4001, 4002, 4003, 4004, 4005, 4006, 4007, 4008, 4009, 5999, 6999, 7999, 8999, 9999, 10999, 11999, 12999, 13000, 13001, 13002, 13003, 13004, 13005, 13006, 13007, 13008, 13009, 14999, 15999, 16999, 17999, 18999, 19999, 20999, 21999, 22002, 23999, 28010, 28011, 28012, 28013, 29000, 29001, 29002, 29003, 29004, 29005, 29006, 29007, 30999, 31999, 32999, 33999, 34999, 35999, 36999, 37999, 38999, 39999, 40999] m n42 := Fr_tr f_n35 (Fr_sub q42.2 (by decide))
    have z_n42 : n42 2 1 = 0 := (q42.2 2 1 rfl).trans z_n35
    refine gx_st (L' := [(2, 1), (0, x8)]) (S' := [(2, 1)]) r_3_45 rfl rfl rfl ?_
    refine gx_cv (nx := 49) (S2 := []) (gx_hv (args := [(2, 1)]) (pz_277 hT) ⟨gq_ob (o := 1) (by decide) (by decide) rfl, trivial⟩ q42.1 rfl) r_3_46 rfl rfl rfl rfl rfl (rcv_v rfl (tk_1 hT) (by decide) rfl (by decide)) rfl (by decide) rfl (fun n46 q46 => ?_)
    have f_n46 : Fr [1015, 2001, 2002, 2003, 2004, 2005, 2006, 4000, 4001, 4002, 4003, 4004, 4005, 4006, 4007, 4008, 4009, 5999, 6999, 7999, 8999, 9999, 10999, 11999, 12999, 13000, 13001, 13002, 13003, 13004, 13005, 13006, 13007, 13008, 13009, 14999, 15999, 16999, 17999, 18999, 19999, 20999, 21999, 22002, 23999, 28010, 28011, 28012, 28013, 29000, 29001, 29002, 29003, 29004, 29005, 29006, 29007, 30999, 31999, 32999, 33999, 34999, 35999, 36999, 37999, 38999, 39999, 40999] m n46 := Fr_tr f_n42 (Fr_sub q46.2 (by decide))
    have z_n46 : n46 2 1 = 0 := (q46.2 2 1 rfl).trans z_n42
    refine gx_st (L' := [(2, 1), (0, x8)]) (S' := [(2, 1)]) r_3_49 rfl rfl rfl ?_
    refine gx_gf (x := 4) 2 r_3_50 rfl (tk_1 hT) ⟨by decide, rfl, by decide, by decide⟩ rfl (fun _ => by decide) (pr_1_1 q46.1) ?_
    obtain ⟨x53, e_x53⟩ : ∃ z, z = n46 4 0 := ⟨_, rfl⟩
    have b_x53 := gb_4_0 q46.1
    rw [← e_x53] at b_x53
    refine gx_gf (x := x53) 0 r_3_53 rfl (tk_4 hT) ⟨by decide, rfl, by decide, by decide⟩ rfl (fun z => absurd z (by decide)) (e_x53.symm) ?_
    exact gx_rt r_3_56 rfl rfl ⟨_, rfl, by omega, by omega, q46.1, f_n46, z_n46⟩
  · have h21 := Decidable.not_not.mp h21
    refine gx_st (L' := [(2, 1), (0, x8)]) (S' := [(0, (-4))]) r_3_24 rfl rfl rfl ?_
    exact gx_rt r_3_26 rfl rfl ⟨_, rfl, by omega, by omega, h_m1, f_m1, z_m1⟩
end TAPES
