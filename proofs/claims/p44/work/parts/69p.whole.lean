/-! the parser of the class exactly: the line -/
theorem r_300_0 : row 300 0 = some (.aload_n 1, 1, 0, 0, 0, 0) := rfl
theorem r_300_1 : row 300 1 = some (.getfield 52, 4, 3, 0, 10, 1067) := rfl
theorem r_300_4 : row 300 4 = some (.ifCond .ne 11, 7, 15, 0, 0, 0) := rfl
theorem r_300_7 : row 300 7 = some (.aload_n 0, 8, 0, 0, 0, 0) := rfl
theorem r_300_8 : row 300 8 = some (.aload_n 1, 9, 0, 0, 0, 0) := rfl
theorem r_300_9 : row 300 9 = some (.invokevirtual 58, 12, 301, 1, 0, 3012) := rfl
theorem r_300_12 : row 300 12 = some (.goto 108, 15, 120, 0, 0, 0) := rfl
theorem r_300_15 : row 300 15 = some (.aload_n 0, 16, 0, 0, 0, 0) := rfl
theorem r_300_16 : row 300 16 = some (.ldc 61, 18, 1000000, 1, 0, 3093) := rfl
theorem r_300_18 : row 300 18 = some (.invokevirtual 63, 21, 314, 1, 0, 3021) := rfl
theorem r_300_21 : row 300 21 = some (.ifCond .eq 11, 24, 32, 0, 0, 0) := rfl
theorem r_300_24 : row 300 24 = some (.aload_n 0, 25, 0, 0, 0, 0) := rfl
theorem r_300_25 : row 300 25 = some (.aload_n 1, 26, 0, 0, 0, 0) := rfl
theorem r_300_26 : row 300 26 = some (.invokevirtual 67, 29, 302, 1, 0, 3094) := rfl
theorem r_300_29 : row 300 29 = some (.goto 91, 32, 120, 0, 0, 0) := rfl
theorem r_300_32 : row 300 32 = some (.aload_n 0, 33, 0, 0, 0, 0) := rfl
theorem r_300_33 : row 300 33 = some (.ldc 70, 35, 1000001, 1, 0, 3111) := rfl
theorem r_300_35 : row 300 35 = some (.invokevirtual 63, 38, 314, 1, 0, 3021) := rfl
theorem r_300_38 : row 300 38 = some (.ifCond .eq 11, 41, 49, 0, 0, 0) := rfl
theorem r_300_41 : row 300 41 = some (.aload_n 0, 42, 0, 0, 0, 0) := rfl
theorem r_300_42 : row 300 42 = some (.aload_n 1, 43, 0, 0, 0, 0) := rfl
theorem r_300_43 : row 300 43 = some (.invokevirtual 72, 46, 303, 1, 0, 3112) := rfl
theorem r_300_46 : row 300 46 = some (.goto 74, 49, 120, 0, 0, 0) := rfl
theorem r_300_49 : row 300 49 = some (.aload_n 0, 50, 0, 0, 0, 0) := rfl
theorem r_300_50 : row 300 50 = some (.ldc 75, 52, 1000002, 1, 0, 3122) := rfl
theorem r_300_52 : row 300 52 = some (.invokevirtual 63, 55, 314, 1, 0, 3021) := rfl
theorem r_300_55 : row 300 55 = some (.ifCond .eq 11, 58, 66, 0, 0, 0) := rfl
theorem r_300_58 : row 300 58 = some (.aload_n 0, 59, 0, 0, 0, 0) := rfl
theorem r_300_59 : row 300 59 = some (.aload_n 1, 60, 0, 0, 0, 0) := rfl
theorem r_300_60 : row 300 60 = some (.invokevirtual 77, 63, 304, 1, 0, 3123) := rfl
theorem r_300_63 : row 300 63 = some (.goto 57, 66, 120, 0, 0, 0) := rfl
theorem r_300_66 : row 300 66 = some (.aload_n 0, 67, 0, 0, 0, 0) := rfl
theorem r_300_67 : row 300 67 = some (.ldc 80, 69, 1000003, 1, 0, 3128) := rfl
theorem r_300_69 : row 300 69 = some (.invokevirtual 63, 72, 314, 1, 0, 3021) := rfl
theorem r_300_72 : row 300 72 = some (.ifCond .eq 26, 75, 98, 0, 0, 0) := rfl
theorem r_300_75 : row 300 75 = some (.aload_n 0, 76, 0, 0, 0, 0) := rfl
theorem r_300_76 : row 300 76 = some (.invokevirtual 45, 79, 312, 0, 0, 2237) := rfl
theorem r_300_79 : row 300 79 = some (.aload_n 1, 80, 0, 0, 0, 0) := rfl
theorem r_300_80 : row 300 80 = some (.dup, 81, 0, 0, 0, 0) := rfl
theorem r_300_81 : row 300 81 = some (.getfield 82, 84, 3, 9, 10, 1105) := rfl
theorem r_300_84 : row 300 84 = some (.iconst 1, 85, 1, 0, 0, 0) := rfl
theorem r_300_85 : row 300 85 = some (.aload_n 0, 86, 0, 0, 0, 0) := rfl
theorem r_300_86 : row 300 86 = some (.aload_n 1, 87, 0, 0, 0, 0) := rfl
theorem r_300_87 : row 300 87 = some (.invokevirtual 85, 90, 308, 1, 0, 3116) := rfl
theorem r_300_90 : row 300 90 = some (.ishl, 91, 0, 0, 0, 0) := rfl
theorem r_300_91 : row 300 91 = some (.ior, 92, 0, 0, 0, 0) := rfl
theorem r_300_92 : row 300 92 = some (.putfield 82, 95, 3, 9, 10, 1105) := rfl
theorem r_300_95 : row 300 95 = some (.goto 25, 98, 120, 0, 0, 0) := rfl
theorem r_300_98 : row 300 98 = some (.aload_n 0, 99, 0, 0, 0, 0) := rfl
theorem r_300_99 : row 300 99 = some (.ldc 89, 101, 1000004, 1, 0, 3129) := rfl
theorem r_300_101 : row 300 101 = some (.invokevirtual 63, 104, 314, 1, 0, 3021) := rfl
theorem r_300_104 : row 300 104 = some (.ifCond .eq 11, 107, 115, 0, 0, 0) := rfl
theorem r_300_107 : row 300 107 = some (.aload_n 0, 108, 0, 0, 0, 0) := rfl
theorem r_300_108 : row 300 108 = some (.aload_n 1, 109, 0, 0, 0, 0) := rfl
theorem r_300_109 : row 300 109 = some (.invokevirtual 91, 112, 305, 1, 0, 3130) := rfl
theorem r_300_112 : row 300 112 = some (.goto 8, 115, 120, 0, 0, 0) := rfl
theorem r_300_115 : row 300 115 = some (.aload_n 0, 116, 0, 0, 0, 0) := rfl
theorem r_300_116 : row 300 116 = some (.iconst 1, 117, 1, 0, 0, 0) := rfl
theorem r_300_117 : row 300 117 = some (.invokevirtual 94, 120, 307, 1, 0, 3073) := rfl
theorem r_300_120 : row 300 120 = some (.aload_n 0, 121, 0, 0, 0, 0) := rfl
theorem r_300_121 : row 300 121 = some (.getfield 25, 124, 8, 4, 0, 1041) := rfl
theorem r_300_124 : row 300 124 = some (.iconst 3, 125, 3, 0, 0, 0) := rfl
theorem r_300_125 : row 300 125 = some (.if_icmp .ne 10, 128, 135, 0, 0, 0) := rfl
theorem r_300_128 : row 300 128 = some (.aload_n 0, 129, 0, 0, 0, 0) := rfl
theorem r_300_129 : row 300 129 = some (.invokevirtual 45, 132, 312, 0, 0, 2237) := rfl
theorem r_300_132 : row 300 132 = some (.goto 8, 135, 140, 0, 0, 0) := rfl
theorem r_300_135 : row 300 135 = some (.aload_n 0, 136, 0, 0, 0, 0) := rfl
theorem r_300_136 : row 300 136 = some (.iconst 1, 137, 1, 0, 0, 0) := rfl
theorem r_300_137 : row 300 137 = some (.invokevirtual 94, 140, 307, 1, 0, 3073) := rfl
theorem r_300_140 : row 300 140 = some (.return_, 141, 0, 0, 0, 0) := rfl
section WHOLEC
variable {T : List Kd} {X : Nat → Int} {m : Mm}
theorem CD_t {r : PR} (h : CR X m r) : CD (fun _ _ => True) X m r := ⟨h, fun _ _ => trivial⟩
theorem d_303b (hT : TT T) (hx : XOK X) {p : Nat} {w : Wd} (h : CD (fun m w => IsD m 13 w ∧ WB w) X m (.ok (p, w))) (hc : w 5 = 5) : GX T 5 303 0 [(2, 2), (2, 13)] [] m (RV (fun m1 => CD (fun m w => IsD m 13 w ∧ WB w) X m1 (.error (3, (nS X p : Int))) ∧ Fr [2002, 2003, 2004, 2005, 2006, 13001, 13002, 13003, 13004, 13005, 13006, 13007, 13008, 13009, 14999, 15999, 16999, 17999, 18999, 19999, 20999, 21999] m m1)) := by
  have hpw := h.2 (p, w) rfl
  have c6 : m 13 6 = 5 := (hpw.1.2.2.2.2.2.2.1).trans hc
  obtain ⟨n0, e0⟩ : ∃ n0, w 0 = n0 := ⟨_, rfl⟩
  have c1 : m 13 1 = n0 := hpw.1.2.1.trans e0
  have bn0 : 0 ≤ w 0 ∧ w 0 ≤ 7 := hpw.2.1
  rw [e0] at bn0
  refine gx_st (L' := [(2, 2), (2, 13)]) (S' := [(2, 2)]) r_303_0 rfl rfl rfl ?_
  refine gx_st (L' := [(2, 2), (2, 13)]) (S' := [(2, 13), (2, 2)]) r_303_1 rfl rfl rfl ?_
  refine gx_gf (x := 5) 0 r_303_2 (rfl) (ty_13 hT) ⟨by decide, rfl, by decide, by decide⟩ rfl (fun z => absurd z (by decide)) (c6) ?_
  refine gx_st (L' := [(2, 2), (2, 13)]) (S' := [(0, 5), (0, 5), (2, 2)]) r_303_5 rfl rfl rfl ?_
  refine gx_cv (nx := 9) (S2 := []) (k_306b hT h.1 (by omega)) r_303_6 rfl rfl rfl rfl rfl (rcv_v rfl (ty_2 hT) (by decide) rfl (by decide)) rfl (by decide) rfl (fun n6 q6 => ?_)
  have f_n6 : Fr [2002, 2003, 2004, 2005, 2006, 13001, 13002, 13003, 13004, 13005, 13006, 13007, 13008, 13009, 14999, 15999, 16999, 17999, 18999, 19999, 20999, 21999] m n6 := Fr_tr Fr_rf (Fr_sub q6.2 (by decide))
  have k6_n6 : n6 13 6 = 5 := (q6.2 13 6 rfl).trans c6
  have k1_n6 : n6 13 1 = n0 := (q6.2 13 1 rfl).trans c1
  have cd_n6 := CD_t q6.1
  refine gx_st (L' := [(2, 2), (2, 13)]) (S' := [(2, 2)]) r_303_9 rfl rfl rfl ?_
  refine gx_cv (nx := 13) (S2 := []) (d_312 (P := (fun _ _ => True)) (fun _ _ _ _ _ => trivial) hT hx cd_n6) r_303_10 rfl rfl rfl rfl rfl (rcv_v rfl (ty_2 hT) (by decide) rfl (by decide)) rfl (by decide) rfl (fun n10 q10 => ?_)
  have f_n10 : Fr [2002, 2003, 2004, 2005, 2006, 13001, 13002, 13003, 13004, 13005, 13006, 13007, 13008, 13009, 14999, 15999, 16999, 17999, 18999, 19999, 20999, 21999] m n10 := Fr_tr f_n6 (Fr_sub q10.2 (by decide))
  have k6_n10 : n10 13 6 = 5 := (q10.2 13 6 rfl).trans k6_n6
  have k1_n10 : n10 13 1 = n0 := (q10.2 13 1 rfl).trans k1_n6
  refine gx_st (L' := [(2, 2), (2, 13)]) (S' := [(2, 13)]) r_303_13 rfl rfl rfl ?_
  refine gx_gf (x := 14) 2 r_303_14 (rfl) (ty_13 hT) ⟨by decide, rfl, by decide, by decide⟩ rfl (fun _ => by omega) (pin_at q10.1.1.1.2.1 (t := 14) rfl (by decide)) ?_
  refine gx_st (L' := [(2, 2), (2, 13)]) (S' := [(2, 13), (2, 14)]) r_303_17 rfl rfl rfl ?_
  refine gx_gf (x := 5) 0 r_303_18 (rfl) (ty_13 hT) ⟨by decide, rfl, by decide, by decide⟩ rfl (fun z => absurd z (by decide)) (k6_n10) ?_
  refine gx_st (L' := [(2, 2), (2, 13)]) (S' := [(2, 2), (0, 5), (2, 14)]) r_303_21 rfl rfl rfl ?_
  refine gx_st (L' := [(2, 2), (2, 13)]) (S' := [(2, 13), (2, 2), (0, 5), (2, 14)]) r_303_22 rfl rfl rfl ?_
  refine gx_ci (nx := 26) (S2 := [(0, 5), (2, 14)]) (d_308 (P := (fun _ _ => True)) (fun _ _ _ _ _ => trivial) hT hx q10.1 (n0 := n0) k1_n10 (by omega) (by omega)) r_303_23 rfl rfl rfl rfl rfl (rcv_v rfl (ty_2 hT) (by decide) rfl (by decide)) rfl (by decide) rfl (fun x23 n23 q23 => ?_)
  show GX T 5 303 26 [(2, 2), (2, 13)] [(0, x23), (0, 5), (2, 14)] n23 (RV (fun m1 => CD (fun m w => IsD m 13 w ∧ WB w) X m1 (.error (3, (nS X p : Int))) ∧ Fr [2002, 2003, 2004, 2005, 2006, 13001, 13002, 13003, 13004, 13005, 13006, 13007, 13008, 13009, 14999, 15999, 16999, 17999, 18999, 19999, 20999, 21999] m m1))
  have b_x23 := q23.1.2
  have cc_n23 := CV_cc q23.1.1
  have cd_n23 : CD (fun _ _ => True) X n23 (.error (3, (nS X p : Int))) := CD_t q23.1.1.1.2
  have f_n23 : Fr [2002, 2003, 2004, 2005, 2006, 13001, 13002, 13003, 13004, 13005, 13006, 13007, 13008, 13009, 14999, 15999, 16999, 17999, 18999, 19999, 20999, 21999] m n23 := Fr_tr f_n10 (Fr_sub q23.2 (by decide))
  have k6_n23 : n23 13 6 = 5 := (q23.2 13 6 rfl).trans k6_n10
  have k1_n23 : n23 13 1 = n0 := (q23.2 13 1 rfl).trans k1_n10
  refine gx_cv (nx := 29) (S2 := []) (gx_av (c_238o (r := 14) (n := 5) (ty_14 hT) (by decide) (by decide) (i := 5) (Or.inr (by omega)) x23) (gx_hv (args := [(2, 14), (0, 5), (0, x23)]) (pu_196 hT) ⟨gq_ar (t := 14) (by decide) (by decide) rfl, gq_any (by omega) (by omega), gq_any (by omega) (by omega), trivial⟩ cd_n23.1.1.1 rfl)) r_303_26 rfl rfl rfl rfl rfl rfl rfl (by decide) rfl (fun n26 q26 => ?_)
  obtain rfl := q26.1.symm
  refine gx_st (L' := [(2, 2), (2, 13)]) (S' := [(2, 2)]) r_303_29 rfl rfl rfl ?_
  refine gx_st (L' := [(2, 2), (2, 13)]) (S' := [(2, 1000011), (2, 2)]) r_303_30 rfl rfl rfl ?_
  refine gx_cv (nx := 35) (S2 := []) (d_309 (P := (fun _ _ => True)) (fun _ _ _ _ _ => trivial) hT hx cd_n23 (q := 11) (by decide) rfl sl_11) r_303_32 rfl rfl rfl rfl rfl (rcv_v rfl (ty_2 hT) (by decide) rfl (by decide)) rfl (by decide) rfl (fun n32 q32 => ?_)
  have f_n32 : Fr [2002, 2003, 2004, 2005, 2006, 13001, 13002, 13003, 13004, 13005, 13006, 13007, 13008, 13009, 14999, 15999, 16999, 17999, 18999, 19999, 20999, 21999] m n32 := Fr_tr f_n23 (Fr_sub q32.2 (by decide))
  have k6_n32 : n32 13 6 = 5 := (q32.2 13 6 rfl).trans k6_n23
  have k1_n32 : n32 13 1 = n0 := (q32.2 13 1 rfl).trans k1_n23
  refine gx_st (L' := [(2, 2), (2, 13)]) (S' := [(2, 13)]) r_303_35 rfl rfl rfl ?_
  refine gx_gf (x := 15) 2 r_303_36 (rfl) (ty_13 hT) ⟨by decide, rfl, by decide, by decide⟩ rfl (fun _ => by omega) (pin_at q32.1.1.1.2.1 (t := 15) rfl (by decide)) ?_
  refine gx_st (L' := [(2, 2), (2, 13)]) (S' := [(2, 13), (2, 15)]) r_303_39 rfl rfl rfl ?_
  refine gx_gf (x := 5) 0 r_303_40 (rfl) (ty_13 hT) ⟨by decide, rfl, by decide, by decide⟩ rfl (fun z => absurd z (by decide)) (k6_n32) ?_
  refine gx_st (L' := [(2, 2), (2, 13)]) (S' := [(2, 2), (0, 5), (2, 15)]) r_303_43 rfl rfl rfl ?_
  refine gx_st (L' := [(2, 2), (2, 13)]) (S' := [(0, 0), (2, 2), (0, 5), (2, 15)]) r_303_44 rfl rfl rfl ?_
  refine gx_st (L' := [(2, 2), (2, 13)]) (S' := [(0, 9), (0, 0), (2, 2), (0, 5), (2, 15)]) r_303_45 rfl rfl rfl ?_
  refine gx_st (L' := [(2, 2), (2, 13)]) (S' := [(0, (-1)), (0, 9), (0, 0), (2, 2), (0, 5), (2, 15)]) r_303_47 rfl rfl rfl ?_
  refine gx_ci (nx := 51) (S2 := [(0, 5), (2, 15)]) (d_310 (P := (fun _ _ => True)) (fun _ _ _ _ _ => trivial) hT hx q32.1.1 (lo := 0) (hi := 9) (u := (-1)) (by omega) (by omega) q32.1.2) r_303_48 rfl rfl rfl rfl rfl (rcv_v rfl (ty_2 hT) (by decide) rfl (by decide)) rfl (by decide) rfl (fun x48 n48 q48 => ?_)
  show GX T 5 303 51 [(2, 2), (2, 13)] [(0, x48), (0, 5), (2, 15)] n48 (RV (fun m1 => CD (fun m w => IsD m 13 w ∧ WB w) X m1 (.error (3, (nS X p : Int))) ∧ Fr [2002, 2003, 2004, 2005, 2006, 13001, 13002, 13003, 13004, 13005, 13006, 13007, 13008, 13009, 14999, 15999, 16999, 17999, 18999, 19999, 20999, 21999] m m1))
  have b_x48 := q48.1.2
  have cc_n48 := CV_cc q48.1.1
  have cd_n48 : CD (fun _ _ => True) X n48 (.error (3, (nS X p : Int))) := CD_t q48.1.1.1.2
  have f_n48 : Fr [2002, 2003, 2004, 2005, 2006, 13001, 13002, 13003, 13004, 13005, 13006, 13007, 13008, 13009, 14999, 15999, 16999, 17999, 18999, 19999, 20999, 21999] m n48 := Fr_tr f_n32 (Fr_sub q48.2 (by decide))
  have k6_n48 : n48 13 6 = 5 := (q48.2 13 6 rfl).trans k6_n32
  have k1_n48 : n48 13 1 = n0 := (q48.2 13 1 rfl).trans k1_n32
  refine gx_cv (nx := 54) (S2 := []) (gx_av (c_238o (r := 15) (n := 5) (ty_15 hT) (by decide) (by decide) (i := 5) (Or.inr (by omega)) x48) (gx_hv (args := [(2, 15), (0, 5), (0, x48)]) (pu_200 hT) ⟨gq_ar (t := 15) (by decide) (by decide) rfl, gq_any (by omega) (by omega), gq_any (by omega) (by omega), trivial⟩ cd_n48.1.1.1 rfl)) r_303_51 rfl rfl rfl rfl rfl rfl rfl (by decide) rfl (fun n51 q51 => ?_)
  obtain rfl := q51.1.symm
  refine gx_st (L' := [(2, 2), (2, 13)]) (S' := [(2, 13)]) r_303_54 rfl rfl rfl ?_
  refine gx_st (L' := [(2, 2), (2, 13)]) (S' := [(2, 13), (2, 13)]) r_303_55 rfl rfl rfl ?_
  refine gx_gf (x := 5) 0 r_303_56 (rfl) (ty_13 hT) ⟨by decide, rfl, by decide, by decide⟩ rfl (fun z => absurd z (by decide)) (k6_n48) ?_
  refine gx_st (L' := [(2, 2), (2, 13)]) (S' := [(0, 1), (0, 5), (2, 13)]) r_303_59 rfl rfl rfl ?_
  refine gx_ar (L' := [(2, 2), (2, 13)]) (S' := [(2, 13)]) (t := 0) (e := w32 (5 + 1)) (z := 6) r_303_60 rfl rfl rfl (w32_eq (by omega) (by omega) (by omega)) ?_
  obtain ⟨m1, e_m1⟩ : ∃ z, z = nu_up n48 13 6 6 := ⟨_, rfl⟩
  refine gx_pf (x := 6) 0 r_303_61 (rfl) (ty_13 hT) ⟨by decide, rfl, by decide, by decide⟩ rfl (fun z => absurd z (by decide)) (fun z => absurd z (by decide)) e_m1.symm ?_
  have hgm : Gam m1 := by rw [e_m1]; exact gam_f cd_n48.1.1.1 rfl (by omega) (by omega)
  have ccm : CC X m1 := by rw [e_m1]; exact CC_up cd_n48.1.1 (by decide) rfl (by rw [← e_m1]; exact hgm)
  have cdm := CD_up (P := (fun _ _ => True)) (P' := (fun _ _ => True)) (i := 0) (x := 0) cd_n48 ccm (fun i => by rw [e_m1]; exact nu_2o (by decide)) (fun w h => trivial)
  exact gx_rt r_303_64 rfl rfl ⟨rfl, ⟨cdm.1, fun g hg => by cases hg⟩, Fr_tr f_n48 (by rw [e_m1]; exact Fr_up rfl)⟩
theorem d_304b (hT : TT T) (hx : XOK X) {p : Nat} {w : Wd} (h : CD (fun m w => IsD m 13 w ∧ WB w) X m (.ok (p, w))) (hc : w 6 = 3) : GX T 5 304 0 [(2, 2), (2, 13)] [] m (RV (fun m1 => CD (fun m w => IsD m 13 w ∧ WB w) X m1 (.error (3, (nS X p : Int))) ∧ Fr [2002, 2003, 2004, 2005, 2006, 13001, 13002, 13003, 13004, 13005, 13006, 13007, 13008, 13009, 14999, 15999, 16999, 17999, 18999, 19999, 20999, 21999] m m1)) := by
  have hpw := h.2 (p, w) rfl
  have c6 : m 13 7 = 3 := (hpw.1.2.2.2.2.2.2.2.1).trans hc
  obtain ⟨n0, e0⟩ : ∃ n0, w 0 = n0 := ⟨_, rfl⟩
  have c1 : m 13 1 = n0 := hpw.1.2.1.trans e0
  have bn0 : 0 ≤ w 0 ∧ w 0 ≤ 7 := hpw.2.1
  rw [e0] at bn0
  refine gx_st (L' := [(2, 2), (2, 13)]) (S' := [(2, 2)]) r_304_0 rfl rfl rfl ?_
  refine gx_st (L' := [(2, 2), (2, 13)]) (S' := [(2, 13), (2, 2)]) r_304_1 rfl rfl rfl ?_
  refine gx_gf (x := 3) 0 r_304_2 (rfl) (ty_13 hT) ⟨by decide, rfl, by decide, by decide⟩ rfl (fun z => absurd z (by decide)) (c6) ?_
  refine gx_st (L' := [(2, 2), (2, 13)]) (S' := [(0, 3), (0, 3), (2, 2)]) r_304_5 rfl rfl rfl ?_
  refine gx_cv (nx := 9) (S2 := []) (k_306b hT h.1 (by omega)) r_304_6 rfl rfl rfl rfl rfl (rcv_v rfl (ty_2 hT) (by decide) rfl (by decide)) rfl (by decide) rfl (fun n6 q6 => ?_)
  have f_n6 : Fr [2002, 2003, 2004, 2005, 2006, 13001, 13002, 13003, 13004, 13005, 13006, 13007, 13008, 13009, 14999, 15999, 16999, 17999, 18999, 19999, 20999, 21999] m n6 := Fr_tr Fr_rf (Fr_sub q6.2 (by decide))
  have k7_n6 : n6 13 7 = 3 := (q6.2 13 7 rfl).trans c6
  have k1_n6 : n6 13 1 = n0 := (q6.2 13 1 rfl).trans c1
  have cd_n6 := CD_t q6.1
  refine gx_st (L' := [(2, 2), (2, 13)]) (S' := [(2, 2)]) r_304_9 rfl rfl rfl ?_
  refine gx_cv (nx := 13) (S2 := []) (d_312 (P := (fun _ _ => True)) (fun _ _ _ _ _ => trivial) hT hx cd_n6) r_304_10 rfl rfl rfl rfl rfl (rcv_v rfl (ty_2 hT) (by decide) rfl (by decide)) rfl (by decide) rfl (fun n10 q10 => ?_)
  have f_n10 : Fr [2002, 2003, 2004, 2005, 2006, 13001, 13002, 13003, 13004, 13005, 13006, 13007, 13008, 13009, 14999, 15999, 16999, 17999, 18999, 19999, 20999, 21999] m n10 := Fr_tr f_n6 (Fr_sub q10.2 (by decide))
  have k7_n10 : n10 13 7 = 3 := (q10.2 13 7 rfl).trans k7_n6
  have k1_n10 : n10 13 1 = n0 := (q10.2 13 1 rfl).trans k1_n6
  refine gx_st (L' := [(2, 2), (2, 13)]) (S' := [(2, 13)]) r_304_13 rfl rfl rfl ?_
  refine gx_gf (x := 16) 2 r_304_14 (rfl) (ty_13 hT) ⟨by decide, rfl, by decide, by decide⟩ rfl (fun _ => by omega) (pin_at q10.1.1.1.2.1 (t := 16) rfl (by decide)) ?_
  refine gx_st (L' := [(2, 2), (2, 13)]) (S' := [(2, 13), (2, 16)]) r_304_17 rfl rfl rfl ?_
  refine gx_gf (x := 3) 0 r_304_18 (rfl) (ty_13 hT) ⟨by decide, rfl, by decide, by decide⟩ rfl (fun z => absurd z (by decide)) (k7_n10) ?_
  refine gx_st (L' := [(2, 2), (2, 13)]) (S' := [(2, 2), (0, 3), (2, 16)]) r_304_21 rfl rfl rfl ?_
  refine gx_st (L' := [(2, 2), (2, 13)]) (S' := [(2, 13), (2, 2), (0, 3), (2, 16)]) r_304_22 rfl rfl rfl ?_
  refine gx_ci (nx := 26) (S2 := [(0, 3), (2, 16)]) (d_308 (P := (fun _ _ => True)) (fun _ _ _ _ _ => trivial) hT hx q10.1 (n0 := n0) k1_n10 (by omega) (by omega)) r_304_23 rfl rfl rfl rfl rfl (rcv_v rfl (ty_2 hT) (by decide) rfl (by decide)) rfl (by decide) rfl (fun x23 n23 q23 => ?_)
  show GX T 5 304 26 [(2, 2), (2, 13)] [(0, x23), (0, 3), (2, 16)] n23 (RV (fun m1 => CD (fun m w => IsD m 13 w ∧ WB w) X m1 (.error (3, (nS X p : Int))) ∧ Fr [2002, 2003, 2004, 2005, 2006, 13001, 13002, 13003, 13004, 13005, 13006, 13007, 13008, 13009, 14999, 15999, 16999, 17999, 18999, 19999, 20999, 21999] m m1))
  have b_x23 := q23.1.2
  have cc_n23 := CV_cc q23.1.1
  have cd_n23 : CD (fun _ _ => True) X n23 (.error (3, (nS X p : Int))) := CD_t q23.1.1.1.2
  have f_n23 : Fr [2002, 2003, 2004, 2005, 2006, 13001, 13002, 13003, 13004, 13005, 13006, 13007, 13008, 13009, 14999, 15999, 16999, 17999, 18999, 19999, 20999, 21999] m n23 := Fr_tr f_n10 (Fr_sub q23.2 (by decide))
  have k7_n23 : n23 13 7 = 3 := (q23.2 13 7 rfl).trans k7_n10
  have k1_n23 : n23 13 1 = n0 := (q23.2 13 1 rfl).trans k1_n10
  refine gx_cv (nx := 29) (S2 := []) (gx_av (c_238o (r := 16) (n := 3) (ty_16 hT) (by decide) (by decide) (i := 3) (Or.inr (by omega)) x23) (gx_hv (args := [(2, 16), (0, 3), (0, x23)]) (pu_203 hT) ⟨gq_ar (t := 16) (by decide) (by decide) rfl, gq_any (by omega) (by omega), gq_any (by omega) (by omega), trivial⟩ cd_n23.1.1.1 rfl)) r_304_26 rfl rfl rfl rfl rfl rfl rfl (by decide) rfl (fun n26 q26 => ?_)
  obtain rfl := q26.1.symm
  refine gx_st (L' := [(2, 2), (2, 13)]) (S' := [(2, 2)]) r_304_29 rfl rfl rfl ?_
  refine gx_st (L' := [(2, 2), (2, 13)]) (S' := [(2, 1000012), (2, 2)]) r_304_30 rfl rfl rfl ?_
  refine gx_cv (nx := 35) (S2 := []) (d_309 (P := (fun _ _ => True)) (fun _ _ _ _ _ => trivial) hT hx cd_n23 (q := 12) (by decide) rfl sl_12) r_304_32 rfl rfl rfl rfl rfl (rcv_v rfl (ty_2 hT) (by decide) rfl (by decide)) rfl (by decide) rfl (fun n32 q32 => ?_)
  have f_n32 : Fr [2002, 2003, 2004, 2005, 2006, 13001, 13002, 13003, 13004, 13005, 13006, 13007, 13008, 13009, 14999, 15999, 16999, 17999, 18999, 19999, 20999, 21999] m n32 := Fr_tr f_n23 (Fr_sub q32.2 (by decide))
  have k7_n32 : n32 13 7 = 3 := (q32.2 13 7 rfl).trans k7_n23
  have k1_n32 : n32 13 1 = n0 := (q32.2 13 1 rfl).trans k1_n23
  refine gx_st (L' := [(2, 2), (2, 13)]) (S' := [(2, 13)]) r_304_35 rfl rfl rfl ?_
  refine gx_gf (x := 17) 2 r_304_36 (rfl) (ty_13 hT) ⟨by decide, rfl, by decide, by decide⟩ rfl (fun _ => by omega) (pin_at q32.1.1.1.2.1 (t := 17) rfl (by decide)) ?_
  refine gx_st (L' := [(2, 2), (2, 13)]) (S' := [(2, 13), (2, 17)]) r_304_39 rfl rfl rfl ?_
  refine gx_gf (x := 3) 0 r_304_40 (rfl) (ty_13 hT) ⟨by decide, rfl, by decide, by decide⟩ rfl (fun z => absurd z (by decide)) (k7_n32) ?_
  refine gx_st (L' := [(2, 2), (2, 13)]) (S' := [(2, 2), (0, 3), (2, 17)]) r_304_43 rfl rfl rfl ?_
  refine gx_st (L' := [(2, 2), (2, 13)]) (S' := [(0, 0), (2, 2), (0, 3), (2, 17)]) r_304_44 rfl rfl rfl ?_
  refine gx_st (L' := [(2, 2), (2, 13)]) (S' := [(0, 12), (0, 0), (2, 2), (0, 3), (2, 17)]) r_304_45 rfl rfl rfl ?_
  refine gx_st (L' := [(2, 2), (2, 13)]) (S' := [(0, (-1)), (0, 12), (0, 0), (2, 2), (0, 3), (2, 17)]) r_304_47 rfl rfl rfl ?_
  refine gx_ci (nx := 51) (S2 := [(0, 3), (2, 17)]) (d_310 (P := (fun _ _ => True)) (fun _ _ _ _ _ => trivial) hT hx q32.1.1 (lo := 0) (hi := 12) (u := (-1)) (by omega) (by omega) q32.1.2) r_304_48 rfl rfl rfl rfl rfl (rcv_v rfl (ty_2 hT) (by decide) rfl (by decide)) rfl (by decide) rfl (fun x48 n48 q48 => ?_)
  show GX T 5 304 51 [(2, 2), (2, 13)] [(0, x48), (0, 3), (2, 17)] n48 (RV (fun m1 => CD (fun m w => IsD m 13 w ∧ WB w) X m1 (.error (3, (nS X p : Int))) ∧ Fr [2002, 2003, 2004, 2005, 2006, 13001, 13002, 13003, 13004, 13005, 13006, 13007, 13008, 13009, 14999, 15999, 16999, 17999, 18999, 19999, 20999, 21999] m m1))
  have b_x48 := q48.1.2
  have cc_n48 := CV_cc q48.1.1
  have cd_n48 : CD (fun _ _ => True) X n48 (.error (3, (nS X p : Int))) := CD_t q48.1.1.1.2
  have f_n48 : Fr [2002, 2003, 2004, 2005, 2006, 13001, 13002, 13003, 13004, 13005, 13006, 13007, 13008, 13009, 14999, 15999, 16999, 17999, 18999, 19999, 20999, 21999] m n48 := Fr_tr f_n32 (Fr_sub q48.2 (by decide))
  have k7_n48 : n48 13 7 = 3 := (q48.2 13 7 rfl).trans k7_n32
  have k1_n48 : n48 13 1 = n0 := (q48.2 13 1 rfl).trans k1_n32
  refine gx_cv (nx := 54) (S2 := []) (gx_av (c_238o (r := 17) (n := 3) (ty_17 hT) (by decide) (by decide) (i := 3) (Or.inr (by omega)) x48) (gx_hv (args := [(2, 17), (0, 3), (0, x48)]) (pu_207 hT) ⟨gq_ar (t := 17) (by decide) (by decide) rfl, gq_any (by omega) (by omega), gq_any (by omega) (by omega), trivial⟩ cd_n48.1.1.1 rfl)) r_304_51 rfl rfl rfl rfl rfl rfl rfl (by decide) rfl (fun n51 q51 => ?_)
  obtain rfl := q51.1.symm
  refine gx_st (L' := [(2, 2), (2, 13)]) (S' := [(2, 13)]) r_304_54 rfl rfl rfl ?_
  refine gx_st (L' := [(2, 2), (2, 13)]) (S' := [(2, 13), (2, 13)]) r_304_55 rfl rfl rfl ?_
  refine gx_gf (x := 3) 0 r_304_56 (rfl) (ty_13 hT) ⟨by decide, rfl, by decide, by decide⟩ rfl (fun z => absurd z (by decide)) (k7_n48) ?_
  refine gx_st (L' := [(2, 2), (2, 13)]) (S' := [(0, 1), (0, 3), (2, 13)]) r_304_59 rfl rfl rfl ?_
  refine gx_ar (L' := [(2, 2), (2, 13)]) (S' := [(2, 13)]) (t := 0) (e := w32 (3 + 1)) (z := 4) r_304_60 rfl rfl rfl (w32_eq (by omega) (by omega) (by omega)) ?_
  obtain ⟨m1, e_m1⟩ : ∃ z, z = nu_up n48 13 7 4 := ⟨_, rfl⟩
  refine gx_pf (x := 4) 0 r_304_61 (rfl) (ty_13 hT) ⟨by decide, rfl, by decide, by decide⟩ rfl (fun z => absurd z (by decide)) (fun z => absurd z (by decide)) e_m1.symm ?_
  have hgm : Gam m1 := by rw [e_m1]; exact gam_f cd_n48.1.1.1 rfl (by omega) (by omega)
  have ccm : CC X m1 := by rw [e_m1]; exact CC_up cd_n48.1.1 (by decide) rfl (by rw [← e_m1]; exact hgm)
  have cdm := CD_up (P := (fun _ _ => True)) (P' := (fun _ _ => True)) (i := 0) (x := 0) cd_n48 ccm (fun i => by rw [e_m1]; exact nu_2o (by decide)) (fun w h => trivial)
  exact gx_rt r_304_64 rfl rfl ⟨rfl, ⟨cdm.1, fun g hg => by cases hg⟩, Fr_tr f_n48 (by rw [e_m1]; exact Fr_up rfl)⟩
theorem d_305b (hT : TT T) (hx : XOK X) {p : Nat} {w : Wd} (h : CD (fun m w => IsD m 13 w ∧ WB w) X m (.ok (p, w))) (hc : w 7 = 5) : GX T 5 305 0 [(2, 2), (2, 13)] [] m (RV (fun m1 => CD (fun m w => IsD m 13 w ∧ WB w) X m1 (.error (3, (nS X p : Int))) ∧ Fr [2002, 2003, 2004, 2005, 2006, 13001, 13002, 13003, 13004, 13005, 13006, 13007, 13008, 13009, 14999, 15999, 16999, 17999, 18999, 19999, 20999, 21999] m m1)) := by
  have hpw := h.2 (p, w) rfl
  have c6 : m 13 8 = 5 := (hpw.1.2.2.2.2.2.2.2.2.1).trans hc
  obtain ⟨n0, e0⟩ : ∃ n0, w 0 = n0 := ⟨_, rfl⟩
  have c1 : m 13 1 = n0 := hpw.1.2.1.trans e0
  have bn0 : 0 ≤ w 0 ∧ w 0 ≤ 7 := hpw.2.1
  rw [e0] at bn0
  refine gx_st (L' := [(2, 2), (2, 13)]) (S' := [(2, 2)]) r_305_0 rfl rfl rfl ?_
  refine gx_st (L' := [(2, 2), (2, 13)]) (S' := [(2, 13), (2, 2)]) r_305_1 rfl rfl rfl ?_
  refine gx_gf (x := 5) 0 r_305_2 (rfl) (ty_13 hT) ⟨by decide, rfl, by decide, by decide⟩ rfl (fun z => absurd z (by decide)) (c6) ?_
  refine gx_st (L' := [(2, 2), (2, 13)]) (S' := [(0, 5), (0, 5), (2, 2)]) r_305_5 rfl rfl rfl ?_
  refine gx_cv (nx := 9) (S2 := []) (k_306b hT h.1 (by omega)) r_305_6 rfl rfl rfl rfl rfl (rcv_v rfl (ty_2 hT) (by decide) rfl (by decide)) rfl (by decide) rfl (fun n6 q6 => ?_)
  have f_n6 : Fr [2002, 2003, 2004, 2005, 2006, 13001, 13002, 13003, 13004, 13005, 13006, 13007, 13008, 13009, 14999, 15999, 16999, 17999, 18999, 19999, 20999, 21999] m n6 := Fr_tr Fr_rf (Fr_sub q6.2 (by decide))
  have k8_n6 : n6 13 8 = 5 := (q6.2 13 8 rfl).trans c6
  have k1_n6 : n6 13 1 = n0 := (q6.2 13 1 rfl).trans c1
  have cd_n6 := CD_t q6.1
  refine gx_st (L' := [(2, 2), (2, 13)]) (S' := [(2, 2)]) r_305_9 rfl rfl rfl ?_
  refine gx_cv (nx := 13) (S2 := []) (d_312 (P := (fun _ _ => True)) (fun _ _ _ _ _ => trivial) hT hx cd_n6) r_305_10 rfl rfl rfl rfl rfl (rcv_v rfl (ty_2 hT) (by decide) rfl (by decide)) rfl (by decide) rfl (fun n10 q10 => ?_)
  have f_n10 : Fr [2002, 2003, 2004, 2005, 2006, 13001, 13002, 13003, 13004, 13005, 13006, 13007, 13008, 13009, 14999, 15999, 16999, 17999, 18999, 19999, 20999, 21999] m n10 := Fr_tr f_n6 (Fr_sub q10.2 (by decide))
  have k8_n10 : n10 13 8 = 5 := (q10.2 13 8 rfl).trans k8_n6
  have k1_n10 : n10 13 1 = n0 := (q10.2 13 1 rfl).trans k1_n6
  refine gx_st (L' := [(2, 2), (2, 13)]) (S' := [(2, 13)]) r_305_13 rfl rfl rfl ?_
  refine gx_gf (x := 18) 2 r_305_14 (rfl) (ty_13 hT) ⟨by decide, rfl, by decide, by decide⟩ rfl (fun _ => by omega) (pin_at q10.1.1.1.2.1 (t := 18) rfl (by decide)) ?_
  refine gx_st (L' := [(2, 2), (2, 13)]) (S' := [(2, 13), (2, 18)]) r_305_17 rfl rfl rfl ?_
  refine gx_gf (x := 5) 0 r_305_18 (rfl) (ty_13 hT) ⟨by decide, rfl, by decide, by decide⟩ rfl (fun z => absurd z (by decide)) (k8_n10) ?_
  refine gx_st (L' := [(2, 2), (2, 13)]) (S' := [(2, 2), (0, 5), (2, 18)]) r_305_21 rfl rfl rfl ?_
  refine gx_st (L' := [(2, 2), (2, 13)]) (S' := [(2, 13), (2, 2), (0, 5), (2, 18)]) r_305_22 rfl rfl rfl ?_
  refine gx_ci (nx := 26) (S2 := [(0, 5), (2, 18)]) (d_308 (P := (fun _ _ => True)) (fun _ _ _ _ _ => trivial) hT hx q10.1 (n0 := n0) k1_n10 (by omega) (by omega)) r_305_23 rfl rfl rfl rfl rfl (rcv_v rfl (ty_2 hT) (by decide) rfl (by decide)) rfl (by decide) rfl (fun x23 n23 q23 => ?_)
  show GX T 5 305 26 [(2, 2), (2, 13)] [(0, x23), (0, 5), (2, 18)] n23 (RV (fun m1 => CD (fun m w => IsD m 13 w ∧ WB w) X m1 (.error (3, (nS X p : Int))) ∧ Fr [2002, 2003, 2004, 2005, 2006, 13001, 13002, 13003, 13004, 13005, 13006, 13007, 13008, 13009, 14999, 15999, 16999, 17999, 18999, 19999, 20999, 21999] m m1))
  have b_x23 := q23.1.2
  have cc_n23 := CV_cc q23.1.1
  have cd_n23 : CD (fun _ _ => True) X n23 (.error (3, (nS X p : Int))) := CD_t q23.1.1.1.2
  have f_n23 : Fr [2002, 2003, 2004, 2005, 2006, 13001, 13002, 13003, 13004, 13005, 13006, 13007, 13008, 13009, 14999, 15999, 16999, 17999, 18999, 19999, 20999, 21999] m n23 := Fr_tr f_n10 (Fr_sub q23.2 (by decide))
  have k8_n23 : n23 13 8 = 5 := (q23.2 13 8 rfl).trans k8_n10
  have k1_n23 : n23 13 1 = n0 := (q23.2 13 1 rfl).trans k1_n10
  refine gx_cv (nx := 29) (S2 := []) (gx_av (c_238o (r := 18) (n := 5) (ty_18 hT) (by decide) (by decide) (i := 5) (Or.inr (by omega)) x23) (gx_hv (args := [(2, 18), (0, 5), (0, x23)]) (pu_211 hT) ⟨gq_ar (t := 18) (by decide) (by decide) rfl, gq_any (by omega) (by omega), gq_any (by omega) (by omega), trivial⟩ cd_n23.1.1.1 rfl)) r_305_26 rfl rfl rfl rfl rfl rfl rfl (by decide) rfl (fun n26 q26 => ?_)
  obtain rfl := q26.1.symm
  refine gx_st (L' := [(2, 2), (2, 13)]) (S' := [(2, 2)]) r_305_29 rfl rfl rfl ?_
  refine gx_st (L' := [(2, 2), (2, 13)]) (S' := [(2, 1000013), (2, 2)]) r_305_30 rfl rfl rfl ?_
  refine gx_cv (nx := 35) (S2 := []) (d_309 (P := (fun _ _ => True)) (fun _ _ _ _ _ => trivial) hT hx cd_n23 (q := 13) (by decide) rfl sl_13) r_305_32 rfl rfl rfl rfl rfl (rcv_v rfl (ty_2 hT) (by decide) rfl (by decide)) rfl (by decide) rfl (fun n32 q32 => ?_)
  have f_n32 : Fr [2002, 2003, 2004, 2005, 2006, 13001, 13002, 13003, 13004, 13005, 13006, 13007, 13008, 13009, 14999, 15999, 16999, 17999, 18999, 19999, 20999, 21999] m n32 := Fr_tr f_n23 (Fr_sub q32.2 (by decide))
  have k8_n32 : n32 13 8 = 5 := (q32.2 13 8 rfl).trans k8_n23
  have k1_n32 : n32 13 1 = n0 := (q32.2 13 1 rfl).trans k1_n23
  refine gx_st (L' := [(2, 2), (2, 13)]) (S' := [(2, 13)]) r_305_35 rfl rfl rfl ?_
  refine gx_gf (x := 19) 2 r_305_36 (rfl) (ty_13 hT) ⟨by decide, rfl, by decide, by decide⟩ rfl (fun _ => by omega) (pin_at q32.1.1.1.2.1 (t := 19) rfl (by decide)) ?_
  refine gx_st (L' := [(2, 2), (2, 13)]) (S' := [(2, 13), (2, 19)]) r_305_39 rfl rfl rfl ?_
  refine gx_gf (x := 5) 0 r_305_40 (rfl) (ty_13 hT) ⟨by decide, rfl, by decide, by decide⟩ rfl (fun z => absurd z (by decide)) (k8_n32) ?_
  refine gx_st (L' := [(2, 2), (2, 13)]) (S' := [(2, 2), (0, 5), (2, 19)]) r_305_43 rfl rfl rfl ?_
  refine gx_st (L' := [(2, 2), (2, 13)]) (S' := [(0, 1), (2, 2), (0, 5), (2, 19)]) r_305_44 rfl rfl rfl ?_
  refine gx_st (L' := [(2, 2), (2, 13)]) (S' := [(0, 99), (0, 1), (2, 2), (0, 5), (2, 19)]) r_305_45 rfl rfl rfl ?_
  refine gx_st (L' := [(2, 2), (2, 13)]) (S' := [(0, (-1)), (0, 99), (0, 1), (2, 2), (0, 5), (2, 19)]) r_305_47 rfl rfl rfl ?_
  refine gx_ci (nx := 51) (S2 := [(0, 5), (2, 19)]) (d_310 (P := (fun _ _ => True)) (fun _ _ _ _ _ => trivial) hT hx q32.1.1 (lo := 1) (hi := 99) (u := (-1)) (by omega) (by omega) q32.1.2) r_305_48 rfl rfl rfl rfl rfl (rcv_v rfl (ty_2 hT) (by decide) rfl (by decide)) rfl (by decide) rfl (fun x48 n48 q48 => ?_)
  show GX T 5 305 51 [(2, 2), (2, 13)] [(0, x48), (0, 5), (2, 19)] n48 (RV (fun m1 => CD (fun m w => IsD m 13 w ∧ WB w) X m1 (.error (3, (nS X p : Int))) ∧ Fr [2002, 2003, 2004, 2005, 2006, 13001, 13002, 13003, 13004, 13005, 13006, 13007, 13008, 13009, 14999, 15999, 16999, 17999, 18999, 19999, 20999, 21999] m m1))
  have b_x48 := q48.1.2
  have cc_n48 := CV_cc q48.1.1
  have cd_n48 : CD (fun _ _ => True) X n48 (.error (3, (nS X p : Int))) := CD_t q48.1.1.1.2
  have f_n48 : Fr [2002, 2003, 2004, 2005, 2006, 13001, 13002, 13003, 13004, 13005, 13006, 13007, 13008, 13009, 14999, 15999, 16999, 17999, 18999, 19999, 20999, 21999] m n48 := Fr_tr f_n32 (Fr_sub q48.2 (by decide))
  have k8_n48 : n48 13 8 = 5 := (q48.2 13 8 rfl).trans k8_n32
  have k1_n48 : n48 13 1 = n0 := (q48.2 13 1 rfl).trans k1_n32
  refine gx_cv (nx := 54) (S2 := []) (gx_av (c_238o (r := 19) (n := 5) (ty_19 hT) (by decide) (by decide) (i := 5) (Or.inr (by omega)) x48) (gx_hv (args := [(2, 19), (0, 5), (0, x48)]) (pu_215 hT) ⟨gq_ar (t := 19) (by decide) (by decide) rfl, gq_any (by omega) (by omega), gq_any (by omega) (by omega), trivial⟩ cd_n48.1.1.1 rfl)) r_305_51 rfl rfl rfl rfl rfl rfl rfl (by decide) rfl (fun n51 q51 => ?_)
  obtain rfl := q51.1.symm
  refine gx_st (L' := [(2, 2), (2, 13)]) (S' := [(2, 13)]) r_305_54 rfl rfl rfl ?_
  refine gx_st (L' := [(2, 2), (2, 13)]) (S' := [(2, 13), (2, 13)]) r_305_55 rfl rfl rfl ?_
  refine gx_gf (x := 5) 0 r_305_56 (rfl) (ty_13 hT) ⟨by decide, rfl, by decide, by decide⟩ rfl (fun z => absurd z (by decide)) (k8_n48) ?_
  refine gx_st (L' := [(2, 2), (2, 13)]) (S' := [(0, 1), (0, 5), (2, 13)]) r_305_59 rfl rfl rfl ?_
  refine gx_ar (L' := [(2, 2), (2, 13)]) (S' := [(2, 13)]) (t := 0) (e := w32 (5 + 1)) (z := 6) r_305_60 rfl rfl rfl (w32_eq (by omega) (by omega) (by omega)) ?_
  obtain ⟨m1, e_m1⟩ : ∃ z, z = nu_up n48 13 8 6 := ⟨_, rfl⟩
  refine gx_pf (x := 6) 0 r_305_61 (rfl) (ty_13 hT) ⟨by decide, rfl, by decide, by decide⟩ rfl (fun z => absurd z (by decide)) (fun z => absurd z (by decide)) e_m1.symm ?_
  have hgm : Gam m1 := by rw [e_m1]; exact gam_f cd_n48.1.1.1 rfl (by omega) (by omega)
  have ccm : CC X m1 := by rw [e_m1]; exact CC_up cd_n48.1.1 (by decide) rfl (by rw [← e_m1]; exact hgm)
  have cdm := CD_up (P := (fun _ _ => True)) (P' := (fun _ _ => True)) (i := 0) (x := 0) cd_n48 ccm (fun i => by rw [e_m1]; exact nu_2o (by decide)) (fun w h => trivial)
  exact gx_rt r_305_64 rfl rfl ⟨rfl, ⟨cdm.1, fun g hg => by cases hg⟩, Fr_tr f_n48 (by rw [e_m1]; exact Fr_up rfl)⟩
theorem d_302b (hT : TT T) (hx : XOK X) {p : Nat} {w : Wd} (h : CD (fun m w => IsD m 13 w ∧ WB w) X m (.ok (p, w))) (hc : w 4 = 10) : GX T 5 302 0 [(2, 2), (2, 13), (9, 0), (9, 0)] [] m (RV (fun m1 => CD (fun m w => IsD m 13 w ∧ WB w) X m1 (.error (3, (nS X p : Int))) ∧ Fr [2002, 2003, 2004, 2005, 2006, 13001, 13002, 13003, 13004, 13005, 13006, 13007, 13008, 13009, 14999, 15999, 16999, 17999, 18999, 19999, 20999, 21999] m m1)) := by
  have hpw := h.2 (p, w) rfl
  have c6 : m 13 5 = 10 := hpw.1.2.2.2.2.2.1.trans hc
  obtain ⟨n0, e0⟩ : ∃ n0, w 0 = n0 := ⟨_, rfl⟩
  have c1 : m 13 1 = n0 := hpw.1.2.1.trans e0
  have bn0 : 0 ≤ w 0 ∧ w 0 ≤ 7 := hpw.2.1
  rw [e0] at bn0
  refine gx_st (L' := [(2, 2), (2, 13), (9, 0), (9, 0)]) (S' := [(2, 2)]) r_302_0 rfl rfl rfl ?_
  refine gx_st (L' := [(2, 2), (2, 13), (9, 0), (9, 0)]) (S' := [(2, 13), (2, 2)]) r_302_1 rfl rfl rfl ?_
  refine gx_gf (x := 10) 0 r_302_2 (rfl) (ty_13 hT) ⟨by decide, rfl, by decide, by decide⟩ rfl (fun z => absurd z (by decide)) (c6) ?_
  refine gx_st (L' := [(2, 2), (2, 13), (9, 0), (9, 0)]) (S' := [(0, 10), (0, 10), (2, 2)]) r_302_5 rfl rfl rfl ?_
  refine gx_cv (nx := 10) (S2 := []) (k_306b hT h.1 (by omega)) r_302_7 rfl rfl rfl rfl rfl (rcv_v rfl (ty_2 hT) (by decide) rfl (by decide)) rfl (by decide) rfl (fun n7 q7 => ?_)
  have f_n7 : Fr [2002, 2003, 2004, 2005, 2006, 13001, 13002, 13003, 13004, 13005, 13006, 13007, 13008, 13009, 14999, 15999, 16999, 17999, 18999, 19999, 20999, 21999] m n7 := Fr_tr Fr_rf (Fr_sub q7.2 (by decide))
  have k5_n7 : n7 13 5 = 10 := (q7.2 13 5 rfl).trans c6
  have k1_n7 : n7 13 1 = n0 := (q7.2 13 1 rfl).trans c1
  have cd_n7 := CD_t q7.1
  refine gx_st (L' := [(2, 2), (2, 13), (9, 0), (9, 0)]) (S' := [(2, 2)]) r_302_10 rfl rfl rfl ?_
  refine gx_cv (nx := 14) (S2 := []) (d_312 (P := (fun _ _ => True)) (fun _ _ _ _ _ => trivial) hT hx cd_n7) r_302_11 rfl rfl rfl rfl rfl (rcv_v rfl (ty_2 hT) (by decide) rfl (by decide)) rfl (by decide) rfl (fun n11 q11 => ?_)
  have f_n11 : Fr [2002, 2003, 2004, 2005, 2006, 13001, 13002, 13003, 13004, 13005, 13006, 13007, 13008, 13009, 14999, 15999, 16999, 17999, 18999, 19999, 20999, 21999] m n11 := Fr_tr f_n7 (Fr_sub q11.2 (by decide))
  have k5_n11 : n11 13 5 = 10 := (q11.2 13 5 rfl).trans k5_n7
  have k1_n11 : n11 13 1 = n0 := (q11.2 13 1 rfl).trans k1_n7
  refine gx_st (L' := [(2, 2), (2, 13), (9, 0), (9, 0)]) (S' := [(2, 2)]) r_302_14 rfl rfl rfl ?_
  refine gx_st (L' := [(2, 2), (2, 13), (9, 0), (9, 0)]) (S' := [(0, 0), (2, 2)]) r_302_15 rfl rfl rfl ?_
  refine gx_st (L' := [(2, 2), (2, 13), (9, 0), (9, 0)]) (S' := [(2, 13), (0, 0), (2, 2)]) r_302_16 rfl rfl rfl ?_
  refine gx_gf (x := n0) 0 r_302_17 (rfl) (ty_13 hT) ⟨by decide, rfl, by decide, by decide⟩ rfl (fun z => absurd z (by decide)) (k1_n11) ?_
  refine gx_st (L' := [(2, 2), (2, 13), (9, 0), (9, 0)]) (S' := [(0, 1), (0, n0), (0, 0), (2, 2)]) r_302_20 rfl rfl rfl ?_
  refine gx_ar (L' := [(2, 2), (2, 13), (9, 0), (9, 0)]) (S' := [(0, 0), (2, 2)]) (t := 0) (e := w32 (n0 - 1)) (z := n0 - 1) r_302_21 rfl rfl rfl (w32_eq (by omega) (by omega) (by omega)) ?_
  refine gx_st (L' := [(2, 2), (2, 13), (9, 0), (9, 0)]) (S' := [(0, (-1)), (0, n0 - 1), (0, 0), (2, 2)]) r_302_22 rfl rfl rfl ?_
  refine gx_ci (nx := 26) (S2 := []) (d_310 (P := (fun _ _ => True)) (fun _ _ _ _ _ => trivial) hT hx q11.1.1 (lo := 0) (hi := n0 - 1) (u := (-1)) (by omega) (by omega) q11.1.2) r_302_23 rfl rfl rfl rfl rfl (rcv_v rfl (ty_2 hT) (by decide) rfl (by decide)) rfl (by decide) rfl (fun x23 n23 q23 => ?_)
  show GX T 5 302 26 [(2, 2), (2, 13), (9, 0), (9, 0)] [(0, x23)] n23 (RV (fun m1 => CD (fun m w => IsD m 13 w ∧ WB w) X m1 (.error (3, (nS X p : Int))) ∧ Fr [2002, 2003, 2004, 2005, 2006, 13001, 13002, 13003, 13004, 13005, 13006, 13007, 13008, 13009, 14999, 15999, 16999, 17999, 18999, 19999, 20999, 21999] m m1))
  have b_x23 := q23.1.2
  have cc_n23 := CV_cc q23.1.1
  have cd_n23 : CD (fun _ _ => True) X n23 (.error (3, (nS X p : Int))) := CD_t q23.1.1.1.2
  have f_n23 : Fr [2002, 2003, 2004, 2005, 2006, 13001, 13002, 13003, 13004, 13005, 13006, 13007, 13008, 13009, 14999, 15999, 16999, 17999, 18999, 19999, 20999, 21999] m n23 := Fr_tr f_n11 (Fr_sub q23.2 (by decide))
  have k5_n23 : n23 13 5 = 10 := (q23.2 13 5 rfl).trans k5_n11
  have k1_n23 : n23 13 1 = n0 := (q23.2 13 1 rfl).trans k1_n11
  refine gx_st (L' := [(2, 2), (2, 13), (0, x23), (9, 0)]) (S' := []) r_302_26 rfl rfl rfl ?_
  refine gx_st (L' := [(2, 2), (2, 13), (0, x23), (9, 0)]) (S' := [(2, 2)]) r_302_27 rfl rfl rfl ?_
  refine gx_st (L' := [(2, 2), (2, 13), (0, x23), (9, 0)]) (S' := [(2, 1000010), (2, 2)]) r_302_28 rfl rfl rfl ?_
  refine gx_cv (nx := 33) (S2 := []) (d_309 (P := (fun _ _ => True)) (fun _ _ _ _ _ => trivial) hT hx cd_n23 (q := 10) (by decide) rfl sl_10) r_302_30 rfl rfl rfl rfl rfl (rcv_v rfl (ty_2 hT) (by decide) rfl (by decide)) rfl (by decide) rfl (fun n30 q30 => ?_)
  have f_n30 : Fr [2002, 2003, 2004, 2005, 2006, 13001, 13002, 13003, 13004, 13005, 13006, 13007, 13008, 13009, 14999, 15999, 16999, 17999, 18999, 19999, 20999, 21999] m n30 := Fr_tr f_n23 (Fr_sub q30.2 (by decide))
  have k5_n30 : n30 13 5 = 10 := (q30.2 13 5 rfl).trans k5_n23
  have k1_n30 : n30 13 1 = n0 := (q30.2 13 1 rfl).trans k1_n23
  refine gx_st (L' := [(2, 2), (2, 13), (0, x23), (9, 0)]) (S' := [(2, 2)]) r_302_33 rfl rfl rfl ?_
  refine gx_st (L' := [(2, 2), (2, 13), (0, x23), (9, 0)]) (S' := [(0, 0), (2, 2)]) r_302_34 rfl rfl rfl ?_
  refine gx_st (L' := [(2, 2), (2, 13), (0, x23), (9, 0)]) (S' := [(2, 13), (0, 0), (2, 2)]) r_302_35 rfl rfl rfl ?_
  refine gx_gf (x := n0) 0 r_302_36 (rfl) (ty_13 hT) ⟨by decide, rfl, by decide, by decide⟩ rfl (fun z => absurd z (by decide)) (k1_n30) ?_
  refine gx_st (L' := [(2, 2), (2, 13), (0, x23), (9, 0)]) (S' := [(0, 1), (0, n0), (0, 0), (2, 2)]) r_302_39 rfl rfl rfl ?_
  refine gx_ar (L' := [(2, 2), (2, 13), (0, x23), (9, 0)]) (S' := [(0, 0), (2, 2)]) (t := 0) (e := w32 (n0 - 1)) (z := n0 - 1) r_302_40 rfl rfl rfl (w32_eq (by omega) (by omega) (by omega)) ?_
  refine gx_st (L' := [(2, 2), (2, 13), (0, x23), (9, 0)]) (S' := [(0, x23), (0, n0 - 1), (0, 0), (2, 2)]) r_302_41 rfl rfl rfl ?_
  refine gx_ci (nx := 45) (S2 := []) (d_310 (P := (fun _ _ => True)) (fun _ _ _ _ _ => trivial) hT hx q30.1.1 (lo := 0) (hi := n0 - 1) (u := x23) (by omega) (by omega) q30.1.2) r_302_42 rfl rfl rfl rfl rfl (rcv_v rfl (ty_2 hT) (by decide) rfl (by decide)) rfl (by decide) rfl (fun x42 n42 q42 => ?_)
  show GX T 5 302 45 [(2, 2), (2, 13), (0, x23), (9, 0)] [(0, x42)] n42 (RV (fun m1 => CD (fun m w => IsD m 13 w ∧ WB w) X m1 (.error (3, (nS X p : Int))) ∧ Fr [2002, 2003, 2004, 2005, 2006, 13001, 13002, 13003, 13004, 13005, 13006, 13007, 13008, 13009, 14999, 15999, 16999, 17999, 18999, 19999, 20999, 21999] m m1))
  have b_x42 := q42.1.2
  have cc_n42 := CV_cc q42.1.1
  have cd_n42 : CD (fun _ _ => True) X n42 (.error (3, (nS X p : Int))) := CD_t q42.1.1.1.2
  have f_n42 : Fr [2002, 2003, 2004, 2005, 2006, 13001, 13002, 13003, 13004, 13005, 13006, 13007, 13008, 13009, 14999, 15999, 16999, 17999, 18999, 19999, 20999, 21999] m n42 := Fr_tr f_n30 (Fr_sub q42.2 (by decide))
  have k5_n42 : n42 13 5 = 10 := (q42.2 13 5 rfl).trans k5_n30
  have k1_n42 : n42 13 1 = n0 := (q42.2 13 1 rfl).trans k1_n30
  refine gx_st (L' := [(2, 2), (2, 13), (0, x23), (0, x42)]) (S' := []) r_302_45 rfl rfl rfl ?_
  refine gx_st (L' := [(2, 2), (2, 13), (0, x23), (0, x42)]) (S' := [(2, 2)]) r_302_46 rfl rfl rfl ?_
  refine gx_gf (x := 3) 0 r_302_47 (rfl) (ty_2 hT) ⟨by decide, rfl, by decide, by decide⟩ rfl (fun z => absurd z (by decide)) (cd_n42.1.2.1) ?_
  refine gx_i0 (P := ¬ 3 = 0) r_302_50 (rfl) (fun h50 => ?_) (fun h50 => ?_)
  · exact gx_rt r_302_59 rfl rfl ⟨rfl, ⟨cd_n42.1, fun g hg => by cases hg⟩, f_n42⟩
  · have h50 := Decidable.not_not.mp h50
    omega
def pSm (X : Nat → Int) (r : PR) : PR := r.bind fun g => if nK X g.1 = 3 then .ok (nE X g.1, g.2) else .error (1, (nS X g.1 : Int))
theorem sm_t {r : PR} {p : Nat} (hp : ∀ g, r = .ok g → g.1 = p) (h : nK X p = 3) : pSm X r = pAdv X r := by
  cases r with
  | ok g => have := hp g rfl; subst this; exact if_pos h
  | error e => rfl
theorem sm_f {r : PR} {p : Nat} (hp : ∀ g, r = .ok g → g.1 = p) (h : ¬ nK X p = 3) : pSm X r = pErr X 1 r := by
  cases r with
  | ok g => have := hp g rfl; subst this; exact if_neg h
  | error e => rfl
theorem ln_semi (hT : TT T) (hx : XOK X) {r : PR} (h : CD (fun m w => IsD m 13 w ∧ WB w) X m r) : GX T 6 300 120 [(2, 2), (2, 13)] [] m (RV (fun m1 => CD (fun m w => IsD m 13 w ∧ WB w) X m1 (pSm X r) ∧ Fr [2002, 2003, 2004, 2005, 2006, 13001, 13002, 13003, 13004, 13005, 13006, 13007, 13008, 13009, 14999, 15999, 16999, 17999, 18999, 19999, 20999, 21999] m m1)) := by
  obtain ⟨p, hp8, ht, hp⟩ := CR_p h.1
  refine gx_st (L' := [(2, 2), (2, 13)]) (S' := [(2, 2)]) r_300_120 rfl rfl rfl ?_
  refine gx_gf (x := (nK X p)) 0 r_300_121 (rfl) (ty_2 hT) ⟨by decide, rfl, by decide, by decide⟩ rfl (fun z => absurd z (by decide)) (ht.1) ?_
  refine gx_st (L' := [(2, 2), (2, 13)]) (S' := [(0, 3), (0, (nK X p))]) r_300_124 rfl rfl rfl ?_
  refine gx_ic (P := ¬ (nK X p) = 3) r_300_125 (rfl) (fun h125 => ?_) (fun h125 => ?_)
  · refine gx_st (L' := [(2, 2), (2, 13)]) (S' := [(2, 2)]) r_300_135 rfl rfl rfl ?_
    refine gx_st (L' := [(2, 2), (2, 13)]) (S' := [(0, 1), (2, 2)]) r_300_136 rfl rfl rfl ?_
    refine gx_cv (nx := 140) (S2 := []) (d_307 (P := (fun m w => IsD m 13 w ∧ WB w)) hT h (k := 1) (by decide) (by decide)) r_300_137 rfl rfl rfl rfl rfl (rcv_v rfl (ty_2 hT) (by decide) rfl (by decide)) rfl (by decide) rfl (fun n137 q137 => ?_)
    exact gx_rt r_300_140 rfl rfl ⟨rfl, by rw [sm_f hp h125]; exact q137.1, Fr_sub q137.2 (by decide)⟩
  · have h125 := Decidable.not_not.mp h125
    refine gx_st (L' := [(2, 2), (2, 13)]) (S' := [(2, 2)]) r_300_128 rfl rfl rfl ?_
    refine gx_cv (nx := 132) (S2 := []) (d_312 (P := (fun m w => IsD m 13 w ∧ WB w)) (fun m m2 w e h => ⟨IsD_eq h.1 (fun p i _ _ hi => e p i (by omega) (by omega) hi), h.2⟩) hT hx h) r_300_129 rfl rfl rfl rfl rfl (rcv_v rfl (ty_2 hT) (by decide) rfl (by decide)) rfl (by decide) rfl (fun n129 q129 => ?_)
    refine gx_st (L' := [(2, 2), (2, 13)]) (S' := []) r_300_132 rfl rfl rfl ?_
    exact gx_rt r_300_140 rfl rfl ⟨rfl, by rw [sm_t hp h125]; exact q129.1, Fr_sub q129.2 (by decide)⟩
theorem CD_brook {P P' : Mm → Wd → Prop} {v : Int} {r : PV} (h : CV P X m v r) {m1 : Mm} (hc : CC X m1) (h2 : ∀ i, m1 2 i = m 2 i) (hP : ∀ w, P m w → P' m1 (upw w 10 (ior (w 10) (ishl 1 v)))) : CD P' X m1 (r.bind fun g => .ok (g.2.1, upw g.2.2 10 (ior (g.2.2 10) (ishl 1 g.1)))) := by
  obtain ⟨a, b⟩ := h
  cases r with
  | error e =>
    refine ⟨⟨hc, ?_⟩, fun g hg => by cases hg⟩
    obtain ⟨p, c1, c2⟩ := a.2.2.2.2.2
    exact ⟨(h2 2).trans a.2.2.1, (h2 3).trans a.2.2.2.1, a.2.2.2.2.1, p, c1, by unfold CT at *; rw [h2 4, h2 5, h2 6]; exact c2⟩
  | ok g =>
    have a1 : v = g.1 := a.1
    refine ⟨⟨hc, (h2 2).trans a.2.2.1, (h2 3).trans a.2.2.2.1, a.2.2.2.2.1, by have c2 := a.2.2.2.2.2; unfold CT at *; rw [h2 4, h2 5, h2 6]; exact c2⟩, fun g2 hg => ?_⟩
    cases hg
    have := hP g.2.2 (b g rfl)
    rw [a1] at this
    exact this
theorem d_300f (hT : TT T) (hx : XOK X) {p : Nat} {w : Wd} (h : CD (fun m w => IsD m 13 w ∧ WB w) X m (.ok (p, w))) (h9 : w 9 = 0) (h40 : w 4 = 0) : GX T 6 300 0 [(2, 2), (2, 13)] [] m (RV (fun m1 => CD (fun m w => IsD m 13 w ∧ WB w) X m1 (pSm X (if w 9 = 0 then pFirst X (.ok (p, w)) else pNext X p w)) ∧ Fr [2002, 2003, 2004, 2005, 2006, 13001, 13002, 13003, 13004, 13005, 13006, 13007, 13008, 13009, 14999, 15999, 16999, 17999, 18999, 19999, 20999, 21999] m m1)) := by
  have hpw := h.2 (p, w) rfl
  have c0 : m 13 0 = w 9 := hpw.1.1
  have hp8 := h.1.2.2.2.1
  have ht := h.1.2.2.2.2
  refine gx_st (L' := [(2, 2), (2, 13)]) (S' := [(2, 13)]) r_300_0 rfl rfl rfl ?_
  refine gx_gf (x := (w 9)) 0 r_300_1 (rfl) (ty_13 hT) ⟨by decide, rfl, by decide, by decide⟩ rfl (fun z => absurd z (by decide)) (c0) ?_
  refine gx_i0 (P := ¬ (w 9) = 0) r_300_4 (rfl) (fun h4 => ?_) (fun h4 => ?_)
  · exact absurd h9 h4
  · have h4 := Decidable.not_not.mp h4
    refine gx_st (L' := [(2, 2), (2, 13)]) (S' := [(2, 2)]) r_300_7 rfl rfl rfl ?_
    refine gx_st (L' := [(2, 2), (2, 13)]) (S' := [(2, 13), (2, 2)]) r_300_8 rfl rfl rfl ?_
    refine gx_cv (nx := 12) (S2 := []) (d_301 hT hx (r := .ok (p, w)) ⟨h.1, fun g hg => by cases hg; exact ⟨hpw, h40⟩⟩) r_300_9 rfl rfl rfl rfl rfl (rcv_v rfl (ty_2 hT) (by decide) rfl (by decide)) rfl (by decide) rfl (fun n9 q9 => ?_)
    refine gx_st (L' := [(2, 2), (2, 13)]) (S' := []) r_300_12 rfl rfl rfl ?_
    refine gx_imp (ln_semi hT hx (m := n9) (r := (if w 9 = 0 then pFirst X (.ok (p, w)) else pNext X p w)) (by rw [if_pos h9]; exact q9.1)) (fun v m2 ⟨e, a, b⟩ => ⟨e, a, Fr_tr q9.2 b⟩)
theorem d_300_0 (hT : TT T) (hx : XOK X) {p : Nat} {w : Wd} (h : CD (fun m w => IsD m 13 w ∧ WB w) X m (.ok (p, w))) (h9 : ¬ w 9 = 0) (w0 : isWd X p 0 = true) (w1 : ¬ isWd X p 1 = true) (w2 : ¬ isWd X p 2 = true) (w3 : ¬ isWd X p 3 = true) (w4 : ¬ isWd X p 4 = true) : GX T 6 300 0 [(2, 2), (2, 13)] [] m (RV (fun m1 => CD (fun m w => IsD m 13 w ∧ WB w) X m1 (pSm X (if w 9 = 0 then pFirst X (.ok (p, w)) else pNext X p w)) ∧ Fr [2002, 2003, 2004, 2005, 2006, 13001, 13002, 13003, 13004, 13005, 13006, 13007, 13008, 13009, 14999, 15999, 16999, 17999, 18999, 19999, 20999, 21999] m m1)) := by
  have hpw := h.2 (p, w) rfl
  have c0 : m 13 0 = w 9 := hpw.1.1
  have hp8 := h.1.2.2.2.1
  have ht := h.1.2.2.2.2
  obtain ⟨-, b4, b5, b6, b7, -⟩ := (show WB w from hpw.2)
  refine gx_st (L' := [(2, 2), (2, 13)]) (S' := [(2, 13)]) r_300_0 rfl rfl rfl ?_
  refine gx_gf (x := (w 9)) 0 r_300_1 (rfl) (ty_13 hT) ⟨by decide, rfl, by decide, by decide⟩ rfl (fun z => absurd z (by decide)) (c0) ?_
  refine gx_i0 (P := ¬ (w 9) = 0) r_300_4 (rfl) (fun h4 => ?_) (fun h4 => ?_)
  · refine gx_st (L' := [(2, 2), (2, 13)]) (S' := [(2, 2)]) r_300_15 rfl rfl rfl ?_
    refine gx_st (L' := [(2, 2), (2, 13)]) (S' := [(2, 1000000), (2, 2)]) r_300_16 rfl rfl rfl ?_
    refine gx_ci (nx := 21) (S2 := []) (z_314 hT h.1.1.2.1 h.1.1.2.2 ht (nE_hi hx hp8) (q := 0) (by decide) rfl sl_0) r_300_18 rfl rfl rfl rfl rfl (rcv_v rfl (ty_2 hT) (by decide) rfl (by decide)) rfl (by decide) rfl (fun x18 n18 q18 => ?_)
    obtain rfl := q18.1.symm
    obtain rfl := q18.2.symm
    show GX T 6 300 21 [(2, 2), (2, 13)] [(0, (if isWd X p 0 = true then 1 else 0))] m (RV (fun m1 => CD (fun m w => IsD m 13 w ∧ WB w) X m1 (pSm X (if w 9 = 0 then pFirst X (.ok (p, w)) else pNext X p w)) ∧ Fr [2002, 2003, 2004, 2005, 2006, 13001, 13002, 13003, 13004, 13005, 13006, 13007, 13008, 13009, 14999, 15999, 16999, 17999, 18999, 19999, 20999, 21999] m m1))
    refine gx_i0 (P := ¬ (isWd X p 0 = true)) r_300_21 (b01_eq) (fun h21 => ?_) (fun h21 => ?_)
    · exact absurd w0 h21
    · have h21 := Decidable.not_not.mp h21
      refine gx_st (L' := [(2, 2), (2, 13)]) (S' := [(2, 2)]) r_300_24 rfl rfl rfl ?_
      refine gx_st (L' := [(2, 2), (2, 13)]) (S' := [(2, 13), (2, 2)]) r_300_25 rfl rfl rfl ?_
      by_cases hmx : w 4 = 10
      · refine gx_cv (nx := 29) (S2 := []) (d_302b hT hx h hmx) r_300_26 rfl rfl rfl rfl rfl (rcv_v rfl (ty_2 hT) (by decide) rfl (by decide)) rfl (by decide) rfl (fun n26 q26 => ?_)
        refine gx_st (L' := [(2, 2), (2, 13)]) (S' := []) r_300_29 rfl rfl rfl ?_
        refine gx_imp (ln_semi hT hx (m := n26) (r := (if w 9 = 0 then pFirst X (.ok (p, w)) else pNext X p w)) (by rw [if_neg h9]; unfold pNext; rw [if_pos w0, if_pos hmx]; exact q26.1)) (fun v m2 ⟨e, a, b⟩ => ⟨e, a, Fr_tr q26.2 b⟩)
      · refine gx_cv (nx := 29) (S2 := []) (d_302 hT hx h (c := (w 4).toNat) (by omega) (by omega)) r_300_26 rfl rfl rfl rfl rfl (rcv_v rfl (ty_2 hT) (by decide) rfl (by decide)) rfl (by decide) rfl (fun n26 q26 => ?_)
        refine gx_st (L' := [(2, 2), (2, 13)]) (S' := []) r_300_29 rfl rfl rfl ?_
        refine gx_imp (ln_semi hT hx (m := n26) (r := (if w 9 = 0 then pFirst X (.ok (p, w)) else pNext X p w)) (by rw [if_neg h9]; unfold pNext; rw [if_pos w0, if_neg hmx]; exact q26.1)) (fun v m2 ⟨e, a, b⟩ => ⟨e, a, Fr_tr q26.2 b⟩)
  · have h4 := Decidable.not_not.mp h4
    exact absurd h4 h9
theorem d_300_1 (hT : TT T) (hx : XOK X) {p : Nat} {w : Wd} (h : CD (fun m w => IsD m 13 w ∧ WB w) X m (.ok (p, w))) (h9 : ¬ w 9 = 0) (w0 : ¬ isWd X p 0 = true) (w1 : isWd X p 1 = true) (w2 : ¬ isWd X p 2 = true) (w3 : ¬ isWd X p 3 = true) (w4 : ¬ isWd X p 4 = true) : GX T 6 300 0 [(2, 2), (2, 13)] [] m (RV (fun m1 => CD (fun m w => IsD m 13 w ∧ WB w) X m1 (pSm X (if w 9 = 0 then pFirst X (.ok (p, w)) else pNext X p w)) ∧ Fr [2002, 2003, 2004, 2005, 2006, 13001, 13002, 13003, 13004, 13005, 13006, 13007, 13008, 13009, 14999, 15999, 16999, 17999, 18999, 19999, 20999, 21999] m m1)) := by
  have hpw := h.2 (p, w) rfl
  have c0 : m 13 0 = w 9 := hpw.1.1
  have hp8 := h.1.2.2.2.1
  have ht := h.1.2.2.2.2
  obtain ⟨-, b4, b5, b6, b7, -⟩ := (show WB w from hpw.2)
  refine gx_st (L' := [(2, 2), (2, 13)]) (S' := [(2, 13)]) r_300_0 rfl rfl rfl ?_
  refine gx_gf (x := (w 9)) 0 r_300_1 (rfl) (ty_13 hT) ⟨by decide, rfl, by decide, by decide⟩ rfl (fun z => absurd z (by decide)) (c0) ?_
  refine gx_i0 (P := ¬ (w 9) = 0) r_300_4 (rfl) (fun h4 => ?_) (fun h4 => ?_)
  · refine gx_st (L' := [(2, 2), (2, 13)]) (S' := [(2, 2)]) r_300_15 rfl rfl rfl ?_
    refine gx_st (L' := [(2, 2), (2, 13)]) (S' := [(2, 1000000), (2, 2)]) r_300_16 rfl rfl rfl ?_
    refine gx_ci (nx := 21) (S2 := []) (z_314 hT h.1.1.2.1 h.1.1.2.2 ht (nE_hi hx hp8) (q := 0) (by decide) rfl sl_0) r_300_18 rfl rfl rfl rfl rfl (rcv_v rfl (ty_2 hT) (by decide) rfl (by decide)) rfl (by decide) rfl (fun x18 n18 q18 => ?_)
    obtain rfl := q18.1.symm
    obtain rfl := q18.2.symm
    show GX T 6 300 21 [(2, 2), (2, 13)] [(0, (if isWd X p 0 = true then 1 else 0))] m (RV (fun m1 => CD (fun m w => IsD m 13 w ∧ WB w) X m1 (pSm X (if w 9 = 0 then pFirst X (.ok (p, w)) else pNext X p w)) ∧ Fr [2002, 2003, 2004, 2005, 2006, 13001, 13002, 13003, 13004, 13005, 13006, 13007, 13008, 13009, 14999, 15999, 16999, 17999, 18999, 19999, 20999, 21999] m m1))
    refine gx_i0 (P := ¬ (isWd X p 0 = true)) r_300_21 (b01_eq) (fun h21 => ?_) (fun h21 => ?_)
    · refine gx_st (L' := [(2, 2), (2, 13)]) (S' := [(2, 2)]) r_300_32 rfl rfl rfl ?_
      refine gx_st (L' := [(2, 2), (2, 13)]) (S' := [(2, 1000001), (2, 2)]) r_300_33 rfl rfl rfl ?_
      refine gx_ci (nx := 38) (S2 := []) (z_314 hT h.1.1.2.1 h.1.1.2.2 ht (nE_hi hx hp8) (q := 1) (by decide) rfl sl_1) r_300_35 rfl rfl rfl rfl rfl (rcv_v rfl (ty_2 hT) (by decide) rfl (by decide)) rfl (by decide) rfl (fun x35 n35 q35 => ?_)
      obtain rfl := q35.1.symm
      obtain rfl := q35.2.symm
      show GX T 6 300 38 [(2, 2), (2, 13)] [(0, (if isWd X p 1 = true then 1 else 0))] m (RV (fun m1 => CD (fun m w => IsD m 13 w ∧ WB w) X m1 (pSm X (if w 9 = 0 then pFirst X (.ok (p, w)) else pNext X p w)) ∧ Fr [2002, 2003, 2004, 2005, 2006, 13001, 13002, 13003, 13004, 13005, 13006, 13007, 13008, 13009, 14999, 15999, 16999, 17999, 18999, 19999, 20999, 21999] m m1))
      refine gx_i0 (P := ¬ (isWd X p 1 = true)) r_300_38 (b01_eq) (fun h38 => ?_) (fun h38 => ?_)
      · exact absurd w1 h38
      · have h38 := Decidable.not_not.mp h38
        refine gx_st (L' := [(2, 2), (2, 13)]) (S' := [(2, 2)]) r_300_41 rfl rfl rfl ?_
        refine gx_st (L' := [(2, 2), (2, 13)]) (S' := [(2, 13), (2, 2)]) r_300_42 rfl rfl rfl ?_
        by_cases hmx : w 5 = 5
        · refine gx_cv (nx := 46) (S2 := []) (d_303b hT hx h hmx) r_300_43 rfl rfl rfl rfl rfl (rcv_v rfl (ty_2 hT) (by decide) rfl (by decide)) rfl (by decide) rfl (fun n43 q43 => ?_)
          refine gx_st (L' := [(2, 2), (2, 13)]) (S' := []) r_300_46 rfl rfl rfl ?_
          refine gx_imp (ln_semi hT hx (m := n43) (r := (if w 9 = 0 then pFirst X (.ok (p, w)) else pNext X p w)) (by rw [if_neg h9]; unfold pNext; rw [if_neg w0, if_pos w1, if_pos hmx]; exact q43.1)) (fun v m2 ⟨e, a, b⟩ => ⟨e, a, Fr_tr q43.2 b⟩)
        · refine gx_cv (nx := 46) (S2 := []) (d_303 hT hx h (c := (w 5).toNat) (by omega) (by omega)) r_300_43 rfl rfl rfl rfl rfl (rcv_v rfl (ty_2 hT) (by decide) rfl (by decide)) rfl (by decide) rfl (fun n43 q43 => ?_)
          refine gx_st (L' := [(2, 2), (2, 13)]) (S' := []) r_300_46 rfl rfl rfl ?_
          refine gx_imp (ln_semi hT hx (m := n43) (r := (if w 9 = 0 then pFirst X (.ok (p, w)) else pNext X p w)) (by rw [if_neg h9]; unfold pNext; rw [if_neg w0, if_pos w1, if_neg hmx]; exact q43.1)) (fun v m2 ⟨e, a, b⟩ => ⟨e, a, Fr_tr q43.2 b⟩)
    · have h21 := Decidable.not_not.mp h21
      exact absurd h21 w0
  · have h4 := Decidable.not_not.mp h4
    exact absurd h4 h9
theorem d_300_2 (hT : TT T) (hx : XOK X) {p : Nat} {w : Wd} (h : CD (fun m w => IsD m 13 w ∧ WB w) X m (.ok (p, w))) (h9 : ¬ w 9 = 0) (w0 : ¬ isWd X p 0 = true) (w1 : ¬ isWd X p 1 = true) (w2 : isWd X p 2 = true) (w3 : ¬ isWd X p 3 = true) (w4 : ¬ isWd X p 4 = true) : GX T 6 300 0 [(2, 2), (2, 13)] [] m (RV (fun m1 => CD (fun m w => IsD m 13 w ∧ WB w) X m1 (pSm X (if w 9 = 0 then pFirst X (.ok (p, w)) else pNext X p w)) ∧ Fr [2002, 2003, 2004, 2005, 2006, 13001, 13002, 13003, 13004, 13005, 13006, 13007, 13008, 13009, 14999, 15999, 16999, 17999, 18999, 19999, 20999, 21999] m m1)) := by
  have hpw := h.2 (p, w) rfl
  have c0 : m 13 0 = w 9 := hpw.1.1
  have hp8 := h.1.2.2.2.1
  have ht := h.1.2.2.2.2
  obtain ⟨-, b4, b5, b6, b7, -⟩ := (show WB w from hpw.2)
  refine gx_st (L' := [(2, 2), (2, 13)]) (S' := [(2, 13)]) r_300_0 rfl rfl rfl ?_
  refine gx_gf (x := (w 9)) 0 r_300_1 (rfl) (ty_13 hT) ⟨by decide, rfl, by decide, by decide⟩ rfl (fun z => absurd z (by decide)) (c0) ?_
  refine gx_i0 (P := ¬ (w 9) = 0) r_300_4 (rfl) (fun h4 => ?_) (fun h4 => ?_)
  · refine gx_st (L' := [(2, 2), (2, 13)]) (S' := [(2, 2)]) r_300_15 rfl rfl rfl ?_
    refine gx_st (L' := [(2, 2), (2, 13)]) (S' := [(2, 1000000), (2, 2)]) r_300_16 rfl rfl rfl ?_
    refine gx_ci (nx := 21) (S2 := []) (z_314 hT h.1.1.2.1 h.1.1.2.2 ht (nE_hi hx hp8) (q := 0) (by decide) rfl sl_0) r_300_18 rfl rfl rfl rfl rfl (rcv_v rfl (ty_2 hT) (by decide) rfl (by decide)) rfl (by decide) rfl (fun x18 n18 q18 => ?_)
    obtain rfl := q18.1.symm
    obtain rfl := q18.2.symm
    show GX T 6 300 21 [(2, 2), (2, 13)] [(0, (if isWd X p 0 = true then 1 else 0))] m (RV (fun m1 => CD (fun m w => IsD m 13 w ∧ WB w) X m1 (pSm X (if w 9 = 0 then pFirst X (.ok (p, w)) else pNext X p w)) ∧ Fr [2002, 2003, 2004, 2005, 2006, 13001, 13002, 13003, 13004, 13005, 13006, 13007, 13008, 13009, 14999, 15999, 16999, 17999, 18999, 19999, 20999, 21999] m m1))
    refine gx_i0 (P := ¬ (isWd X p 0 = true)) r_300_21 (b01_eq) (fun h21 => ?_) (fun h21 => ?_)
    · refine gx_st (L' := [(2, 2), (2, 13)]) (S' := [(2, 2)]) r_300_32 rfl rfl rfl ?_
      refine gx_st (L' := [(2, 2), (2, 13)]) (S' := [(2, 1000001), (2, 2)]) r_300_33 rfl rfl rfl ?_
      refine gx_ci (nx := 38) (S2 := []) (z_314 hT h.1.1.2.1 h.1.1.2.2 ht (nE_hi hx hp8) (q := 1) (by decide) rfl sl_1) r_300_35 rfl rfl rfl rfl rfl (rcv_v rfl (ty_2 hT) (by decide) rfl (by decide)) rfl (by decide) rfl (fun x35 n35 q35 => ?_)
      obtain rfl := q35.1.symm
      obtain rfl := q35.2.symm
      show GX T 6 300 38 [(2, 2), (2, 13)] [(0, (if isWd X p 1 = true then 1 else 0))] m (RV (fun m1 => CD (fun m w => IsD m 13 w ∧ WB w) X m1 (pSm X (if w 9 = 0 then pFirst X (.ok (p, w)) else pNext X p w)) ∧ Fr [2002, 2003, 2004, 2005, 2006, 13001, 13002, 13003, 13004, 13005, 13006, 13007, 13008, 13009, 14999, 15999, 16999, 17999, 18999, 19999, 20999, 21999] m m1))
      refine gx_i0 (P := ¬ (isWd X p 1 = true)) r_300_38 (b01_eq) (fun h38 => ?_) (fun h38 => ?_)
      · refine gx_st (L' := [(2, 2), (2, 13)]) (S' := [(2, 2)]) r_300_49 rfl rfl rfl ?_
        refine gx_st (L' := [(2, 2), (2, 13)]) (S' := [(2, 1000002), (2, 2)]) r_300_50 rfl rfl rfl ?_
        refine gx_ci (nx := 55) (S2 := []) (z_314 hT h.1.1.2.1 h.1.1.2.2 ht (nE_hi hx hp8) (q := 2) (by decide) rfl sl_2) r_300_52 rfl rfl rfl rfl rfl (rcv_v rfl (ty_2 hT) (by decide) rfl (by decide)) rfl (by decide) rfl (fun x52 n52 q52 => ?_)
        obtain rfl := q52.1.symm
        obtain rfl := q52.2.symm
        show GX T 6 300 55 [(2, 2), (2, 13)] [(0, (if isWd X p 2 = true then 1 else 0))] m (RV (fun m1 => CD (fun m w => IsD m 13 w ∧ WB w) X m1 (pSm X (if w 9 = 0 then pFirst X (.ok (p, w)) else pNext X p w)) ∧ Fr [2002, 2003, 2004, 2005, 2006, 13001, 13002, 13003, 13004, 13005, 13006, 13007, 13008, 13009, 14999, 15999, 16999, 17999, 18999, 19999, 20999, 21999] m m1))
        refine gx_i0 (P := ¬ (isWd X p 2 = true)) r_300_55 (b01_eq) (fun h55 => ?_) (fun h55 => ?_)
        · exact absurd w2 h55
        · have h55 := Decidable.not_not.mp h55
          refine gx_st (L' := [(2, 2), (2, 13)]) (S' := [(2, 2)]) r_300_58 rfl rfl rfl ?_
          refine gx_st (L' := [(2, 2), (2, 13)]) (S' := [(2, 13), (2, 2)]) r_300_59 rfl rfl rfl ?_
          by_cases hmx : w 6 = 3
          · refine gx_cv (nx := 63) (S2 := []) (d_304b hT hx h hmx) r_300_60 rfl rfl rfl rfl rfl (rcv_v rfl (ty_2 hT) (by decide) rfl (by decide)) rfl (by decide) rfl (fun n60 q60 => ?_)
            refine gx_st (L' := [(2, 2), (2, 13)]) (S' := []) r_300_63 rfl rfl rfl ?_
            refine gx_imp (ln_semi hT hx (m := n60) (r := (if w 9 = 0 then pFirst X (.ok (p, w)) else pNext X p w)) (by rw [if_neg h9]; unfold pNext; rw [if_neg w0, if_neg w1, if_pos w2, if_pos hmx]; exact q60.1)) (fun v m2 ⟨e, a, b⟩ => ⟨e, a, Fr_tr q60.2 b⟩)
          · refine gx_cv (nx := 63) (S2 := []) (d_304 hT hx h (c := (w 6).toNat) (by omega) (by omega)) r_300_60 rfl rfl rfl rfl rfl (rcv_v rfl (ty_2 hT) (by decide) rfl (by decide)) rfl (by decide) rfl (fun n60 q60 => ?_)
            refine gx_st (L' := [(2, 2), (2, 13)]) (S' := []) r_300_63 rfl rfl rfl ?_
            refine gx_imp (ln_semi hT hx (m := n60) (r := (if w 9 = 0 then pFirst X (.ok (p, w)) else pNext X p w)) (by rw [if_neg h9]; unfold pNext; rw [if_neg w0, if_neg w1, if_pos w2, if_neg hmx]; exact q60.1)) (fun v m2 ⟨e, a, b⟩ => ⟨e, a, Fr_tr q60.2 b⟩)
      · have h38 := Decidable.not_not.mp h38
        exact absurd h38 w1
    · have h21 := Decidable.not_not.mp h21
      exact absurd h21 w0
  · have h4 := Decidable.not_not.mp h4
    exact absurd h4 h9
theorem d_300_3 (hT : TT T) (hx : XOK X) {p : Nat} {w : Wd} (h : CD (fun m w => IsD m 13 w ∧ WB w) X m (.ok (p, w))) (h9 : ¬ w 9 = 0) (w0 : ¬ isWd X p 0 = true) (w1 : ¬ isWd X p 1 = true) (w2 : ¬ isWd X p 2 = true) (w3 : isWd X p 3 = true) (w4 : ¬ isWd X p 4 = true) : GX T 6 300 0 [(2, 2), (2, 13)] [] m (RV (fun m1 => CD (fun m w => IsD m 13 w ∧ WB w) X m1 (pSm X (if w 9 = 0 then pFirst X (.ok (p, w)) else pNext X p w)) ∧ Fr [2002, 2003, 2004, 2005, 2006, 13001, 13002, 13003, 13004, 13005, 13006, 13007, 13008, 13009, 14999, 15999, 16999, 17999, 18999, 19999, 20999, 21999] m m1)) := by
  have hpw := h.2 (p, w) rfl
  have c0 : m 13 0 = w 9 := hpw.1.1
  have hp8 := h.1.2.2.2.1
  have ht := h.1.2.2.2.2
  obtain ⟨-, b4, b5, b6, b7, -⟩ := (show WB w from hpw.2)
  obtain ⟨b0, eb0⟩ : ∃ b0, w 10 = b0 := ⟨_, rfl⟩
  obtain ⟨n0, e0⟩ : ∃ n0, w 0 = n0 := ⟨_, rfl⟩
  have c9 : m 13 9 = b0 := hpw.1.2.2.2.2.2.2.2.2.2.1.trans eb0
  have c1 : m 13 1 = n0 := hpw.1.2.1.trans e0
  have bn0 : 0 ≤ w 0 ∧ w 0 ≤ 7 := hpw.2.1
  rw [e0] at bn0
  have hB : CD (fun m w => ((IsD m 13 w ∧ WB w) ∧ w 10 = b0) ∧ w 0 = n0) X m (.ok (p, w)) := ⟨h.1, fun g hg => by cases hg; exact ⟨⟨hpw, eb0⟩, e0⟩⟩
  refine gx_st (L' := [(2, 2), (2, 13)]) (S' := [(2, 13)]) r_300_0 rfl rfl rfl ?_
  refine gx_gf (x := (w 9)) 0 r_300_1 (rfl) (ty_13 hT) ⟨by decide, rfl, by decide, by decide⟩ rfl (fun z => absurd z (by decide)) (c0) ?_
  refine gx_i0 (P := ¬ (w 9) = 0) r_300_4 (rfl) (fun h4 => ?_) (fun h4 => ?_)
  · refine gx_st (L' := [(2, 2), (2, 13)]) (S' := [(2, 2)]) r_300_15 rfl rfl rfl ?_
    refine gx_st (L' := [(2, 2), (2, 13)]) (S' := [(2, 1000000), (2, 2)]) r_300_16 rfl rfl rfl ?_
    refine gx_ci (nx := 21) (S2 := []) (z_314 hT h.1.1.2.1 h.1.1.2.2 ht (nE_hi hx hp8) (q := 0) (by decide) rfl sl_0) r_300_18 rfl rfl rfl rfl rfl (rcv_v rfl (ty_2 hT) (by decide) rfl (by decide)) rfl (by decide) rfl (fun x18 n18 q18 => ?_)
    obtain rfl := q18.1.symm
    obtain rfl := q18.2.symm
    show GX T 6 300 21 [(2, 2), (2, 13)] [(0, (if isWd X p 0 = true then 1 else 0))] m (RV (fun m1 => CD (fun m w => IsD m 13 w ∧ WB w) X m1 (pSm X (if w 9 = 0 then pFirst X (.ok (p, w)) else pNext X p w)) ∧ Fr [2002, 2003, 2004, 2005, 2006, 13001, 13002, 13003, 13004, 13005, 13006, 13007, 13008, 13009, 14999, 15999, 16999, 17999, 18999, 19999, 20999, 21999] m m1))
    refine gx_i0 (P := ¬ (isWd X p 0 = true)) r_300_21 (b01_eq) (fun h21 => ?_) (fun h21 => ?_)
    · refine gx_st (L' := [(2, 2), (2, 13)]) (S' := [(2, 2)]) r_300_32 rfl rfl rfl ?_
      refine gx_st (L' := [(2, 2), (2, 13)]) (S' := [(2, 1000001), (2, 2)]) r_300_33 rfl rfl rfl ?_
      refine gx_ci (nx := 38) (S2 := []) (z_314 hT h.1.1.2.1 h.1.1.2.2 ht (nE_hi hx hp8) (q := 1) (by decide) rfl sl_1) r_300_35 rfl rfl rfl rfl rfl (rcv_v rfl (ty_2 hT) (by decide) rfl (by decide)) rfl (by decide) rfl (fun x35 n35 q35 => ?_)
      obtain rfl := q35.1.symm
      obtain rfl := q35.2.symm
      show GX T 6 300 38 [(2, 2), (2, 13)] [(0, (if isWd X p 1 = true then 1 else 0))] m (RV (fun m1 => CD (fun m w => IsD m 13 w ∧ WB w) X m1 (pSm X (if w 9 = 0 then pFirst X (.ok (p, w)) else pNext X p w)) ∧ Fr [2002, 2003, 2004, 2005, 2006, 13001, 13002, 13003, 13004, 13005, 13006, 13007, 13008, 13009, 14999, 15999, 16999, 17999, 18999, 19999, 20999, 21999] m m1))
      refine gx_i0 (P := ¬ (isWd X p 1 = true)) r_300_38 (b01_eq) (fun h38 => ?_) (fun h38 => ?_)
      · refine gx_st (L' := [(2, 2), (2, 13)]) (S' := [(2, 2)]) r_300_49 rfl rfl rfl ?_
        refine gx_st (L' := [(2, 2), (2, 13)]) (S' := [(2, 1000002), (2, 2)]) r_300_50 rfl rfl rfl ?_
        refine gx_ci (nx := 55) (S2 := []) (z_314 hT h.1.1.2.1 h.1.1.2.2 ht (nE_hi hx hp8) (q := 2) (by decide) rfl sl_2) r_300_52 rfl rfl rfl rfl rfl (rcv_v rfl (ty_2 hT) (by decide) rfl (by decide)) rfl (by decide) rfl (fun x52 n52 q52 => ?_)
        obtain rfl := q52.1.symm
        obtain rfl := q52.2.symm
        show GX T 6 300 55 [(2, 2), (2, 13)] [(0, (if isWd X p 2 = true then 1 else 0))] m (RV (fun m1 => CD (fun m w => IsD m 13 w ∧ WB w) X m1 (pSm X (if w 9 = 0 then pFirst X (.ok (p, w)) else pNext X p w)) ∧ Fr [2002, 2003, 2004, 2005, 2006, 13001, 13002, 13003, 13004, 13005, 13006, 13007, 13008, 13009, 14999, 15999, 16999, 17999, 18999, 19999, 20999, 21999] m m1))
        refine gx_i0 (P := ¬ (isWd X p 2 = true)) r_300_55 (b01_eq) (fun h55 => ?_) (fun h55 => ?_)
        · refine gx_st (L' := [(2, 2), (2, 13)]) (S' := [(2, 2)]) r_300_66 rfl rfl rfl ?_
          refine gx_st (L' := [(2, 2), (2, 13)]) (S' := [(2, 1000003), (2, 2)]) r_300_67 rfl rfl rfl ?_
          refine gx_ci (nx := 72) (S2 := []) (z_314 hT h.1.1.2.1 h.1.1.2.2 ht (nE_hi hx hp8) (q := 3) (by decide) rfl sl_3) r_300_69 rfl rfl rfl rfl rfl (rcv_v rfl (ty_2 hT) (by decide) rfl (by decide)) rfl (by decide) rfl (fun x69 n69 q69 => ?_)
          obtain rfl := q69.1.symm
          obtain rfl := q69.2.symm
          show GX T 6 300 72 [(2, 2), (2, 13)] [(0, (if isWd X p 3 = true then 1 else 0))] m (RV (fun m1 => CD (fun m w => IsD m 13 w ∧ WB w) X m1 (pSm X (if w 9 = 0 then pFirst X (.ok (p, w)) else pNext X p w)) ∧ Fr [2002, 2003, 2004, 2005, 2006, 13001, 13002, 13003, 13004, 13005, 13006, 13007, 13008, 13009, 14999, 15999, 16999, 17999, 18999, 19999, 20999, 21999] m m1))
          refine gx_i0 (P := ¬ (isWd X p 3 = true)) r_300_72 (b01_eq) (fun h72 => ?_) (fun h72 => ?_)
          · exact absurd w3 h72
          · have h72 := Decidable.not_not.mp h72
            refine gx_st (L' := [(2, 2), (2, 13)]) (S' := [(2, 2)]) r_300_75 rfl rfl rfl ?_
            refine gx_cv (nx := 79) (S2 := []) (d_312 (P := (fun m w => ((IsD m 13 w ∧ WB w) ∧ w 10 = b0) ∧ w 0 = n0)) (fun m m2 w e h => ⟨⟨⟨IsD_eq h.1.1.1 (fun p i _ _ hi => e p i (by omega) (by omega) hi), h.1.1.2⟩, h.1.2⟩, h.2⟩) hT hx hB) r_300_76 rfl rfl rfl rfl rfl (rcv_v rfl (ty_2 hT) (by decide) rfl (by decide)) rfl (by decide) rfl (fun n76 q76 => ?_)
            have f_n76 : Fr [2002, 2003, 2004, 2005, 2006, 13001, 13002, 13003, 13004, 13005, 13006, 13007, 13008, 13009, 14999, 15999, 16999, 17999, 18999, 19999, 20999, 21999] m n76 := Fr_sub q76.2 (by decide)
            have c9_n76 : n76 13 9 = b0 := (q76.2 13 9 rfl).trans c9
            have c1_n76 : n76 13 1 = n0 := (q76.2 13 1 rfl).trans c1
            refine gx_st (L' := [(2, 2), (2, 13)]) (S' := [(2, 13)]) r_300_79 rfl rfl rfl ?_
            refine gx_st (L' := [(2, 2), (2, 13)]) (S' := [(2, 13), (2, 13)]) r_300_80 rfl rfl rfl ?_
            refine gx_gf (x := b0) 0 r_300_81 (rfl) (ty_13 hT) ⟨by decide, rfl, by decide, by decide⟩ rfl (fun z => absurd z (by decide)) (c9_n76) ?_
            refine gx_st (L' := [(2, 2), (2, 13)]) (S' := [(0, 1), (0, b0), (2, 13)]) r_300_84 rfl rfl rfl ?_
            refine gx_st (L' := [(2, 2), (2, 13)]) (S' := [(2, 2), (0, 1), (0, b0), (2, 13)]) r_300_85 rfl rfl rfl ?_
            refine gx_st (L' := [(2, 2), (2, 13)]) (S' := [(2, 13), (2, 2), (0, 1), (0, b0), (2, 13)]) r_300_86 rfl rfl rfl ?_
            refine gx_ci (nx := 90) (S2 := [(0, 1), (0, b0), (2, 13)]) (d_308 (P := (fun m w => ((IsD m 13 w ∧ WB w) ∧ w 10 = b0) ∧ w 0 = n0)) (fun m m2 w e h => ⟨⟨⟨IsD_eq h.1.1.1 (fun p i _ _ hi => e p i (by omega) (by omega) hi), h.1.1.2⟩, h.1.2⟩, h.2⟩) hT hx q76.1 (n0 := n0) c1_n76 (by omega) (by omega)) r_300_87 rfl rfl rfl rfl rfl (rcv_v rfl (ty_2 hT) (by decide) rfl (by decide)) rfl (by decide) rfl (fun x87 n87 q87 => ?_)
            show GX T 6 300 90 [(2, 2), (2, 13)] [(0, x87), (0, 1), (0, b0), (2, 13)] n87 (RV (fun m1 => CD (fun m w => IsD m 13 w ∧ WB w) X m1 (pSm X (if w 9 = 0 then pFirst X (.ok (p, w)) else pNext X p w)) ∧ Fr [2002, 2003, 2004, 2005, 2006, 13001, 13002, 13003, 13004, 13005, 13006, 13007, 13008, 13009, 14999, 15999, 16999, 17999, 18999, 19999, 20999, 21999] m m1))
            have v_n87 := q87.1.2
            have cc_n87 := CV_cc q87.1.1
            have f_n87 : Fr [2002, 2003, 2004, 2005, 2006, 13001, 13002, 13003, 13004, 13005, 13006, 13007, 13008, 13009, 14999, 15999, 16999, 17999, 18999, 19999, 20999, 21999] m n87 := Fr_tr f_n76 (Fr_sub q87.2 (by decide))
            refine gx_st (L' := [(2, 2), (2, 13)]) (S' := [(0, (ishl 1 x87)), (0, b0), (2, 13)]) r_300_90 rfl rfl rfl ?_
            refine gx_st (L' := [(2, 2), (2, 13)]) (S' := [(0, (ior b0 (ishl 1 x87))), (2, 13)]) r_300_91 rfl rfl rfl ?_
            obtain ⟨m1, e_m1⟩ : ∃ z, z = nu_up n87 13 9 ((ior b0 (ishl 1 x87))) := ⟨_, rfl⟩
            refine gx_pf (x := (ior b0 (ishl 1 x87))) 0 r_300_92 (rfl) (ty_13 hT) ⟨by decide, rfl, by decide, by decide⟩ rfl (fun z => absurd z (by decide)) (fun z => absurd z (by decide)) e_m1.symm ?_
            have g_m1 : Gam m1 := by rw [e_m1]; exact gam_f cc_n87.1 rfl (i32_in _).1 (i32_in _).2
            have cc_m1 : CC X m1 := by rw [e_m1]; exact CC_up cc_n87 (by decide) rfl (by rw [← e_m1]; exact g_m1)
            have cd_m1 := CD_brook (P := (fun m w => ((IsD m 13 w ∧ WB w) ∧ w 10 = b0) ∧ w 0 = n0)) (P' := (fun m w => IsD m 13 w ∧ WB w)) q87.1.1 cc_m1 (fun i => by rw [e_m1]; exact nu_2o (by decide)) (fun w h => by
              rw [e_m1, h.1.2]
              exact ⟨isd_f9 (o := 13) h.1.1.1 _, WB_eq h.1.1.2 (fun i hi => upw_ne (by omega))⟩)
            have fz : Fr [2002, 2003, 2004, 2005, 2006, 13001, 13002, 13003, 13004, 13005, 13006, 13007, 13008, 13009, 14999, 15999, 16999, 17999, 18999, 19999, 20999, 21999] m m1 := Fr_tr f_n87 (by rw [e_m1]; exact Fr_up rfl)
            have cdz : CD (fun m w => IsD m 13 w ∧ WB w) X m1 (pBrook X (.ok (nE X p, w))) := by
              unfold pBrook
              rw [pl_eq (n0 := n0) (fun g hg => by
                obtain ⟨g0, b1, b2⟩ := need_w hg
                cases b1
                rw [← b2]; exact e0), ← numU_eq (by decide)]
              exact cd_m1
            refine gx_st (L' := [(2, 2), (2, 13)]) (S' := []) r_300_95 rfl rfl rfl ?_
            refine gx_imp (ln_semi hT hx (m := m1) (r := (if w 9 = 0 then pFirst X (.ok (p, w)) else pNext X p w)) (by rw [if_neg h9]; unfold pNext; rw [if_neg w0, if_neg w1, if_neg w2, if_neg w4, if_pos w3]; exact cdz)) (fun v m2 ⟨e, a, b⟩ => ⟨e, a, Fr_tr fz b⟩)
        · have h55 := Decidable.not_not.mp h55
          exact absurd h55 w2
      · have h38 := Decidable.not_not.mp h38
        exact absurd h38 w1
    · have h21 := Decidable.not_not.mp h21
      exact absurd h21 w0
  · have h4 := Decidable.not_not.mp h4
    exact absurd h4 h9
theorem d_300_4 (hT : TT T) (hx : XOK X) {p : Nat} {w : Wd} (h : CD (fun m w => IsD m 13 w ∧ WB w) X m (.ok (p, w))) (h9 : ¬ w 9 = 0) (w0 : ¬ isWd X p 0 = true) (w1 : ¬ isWd X p 1 = true) (w2 : ¬ isWd X p 2 = true) (w3 : ¬ isWd X p 3 = true) (w4 : isWd X p 4 = true) : GX T 6 300 0 [(2, 2), (2, 13)] [] m (RV (fun m1 => CD (fun m w => IsD m 13 w ∧ WB w) X m1 (pSm X (if w 9 = 0 then pFirst X (.ok (p, w)) else pNext X p w)) ∧ Fr [2002, 2003, 2004, 2005, 2006, 13001, 13002, 13003, 13004, 13005, 13006, 13007, 13008, 13009, 14999, 15999, 16999, 17999, 18999, 19999, 20999, 21999] m m1)) := by
  have hpw := h.2 (p, w) rfl
  have c0 : m 13 0 = w 9 := hpw.1.1
  have hp8 := h.1.2.2.2.1
  have ht := h.1.2.2.2.2
  obtain ⟨-, b4, b5, b6, b7, -⟩ := (show WB w from hpw.2)
  refine gx_st (L' := [(2, 2), (2, 13)]) (S' := [(2, 13)]) r_300_0 rfl rfl rfl ?_
  refine gx_gf (x := (w 9)) 0 r_300_1 (rfl) (ty_13 hT) ⟨by decide, rfl, by decide, by decide⟩ rfl (fun z => absurd z (by decide)) (c0) ?_
  refine gx_i0 (P := ¬ (w 9) = 0) r_300_4 (rfl) (fun h4 => ?_) (fun h4 => ?_)
  · refine gx_st (L' := [(2, 2), (2, 13)]) (S' := [(2, 2)]) r_300_15 rfl rfl rfl ?_
    refine gx_st (L' := [(2, 2), (2, 13)]) (S' := [(2, 1000000), (2, 2)]) r_300_16 rfl rfl rfl ?_
    refine gx_ci (nx := 21) (S2 := []) (z_314 hT h.1.1.2.1 h.1.1.2.2 ht (nE_hi hx hp8) (q := 0) (by decide) rfl sl_0) r_300_18 rfl rfl rfl rfl rfl (rcv_v rfl (ty_2 hT) (by decide) rfl (by decide)) rfl (by decide) rfl (fun x18 n18 q18 => ?_)
    obtain rfl := q18.1.symm
    obtain rfl := q18.2.symm
    show GX T 6 300 21 [(2, 2), (2, 13)] [(0, (if isWd X p 0 = true then 1 else 0))] m (RV (fun m1 => CD (fun m w => IsD m 13 w ∧ WB w) X m1 (pSm X (if w 9 = 0 then pFirst X (.ok (p, w)) else pNext X p w)) ∧ Fr [2002, 2003, 2004, 2005, 2006, 13001, 13002, 13003, 13004, 13005, 13006, 13007, 13008, 13009, 14999, 15999, 16999, 17999, 18999, 19999, 20999, 21999] m m1))
    refine gx_i0 (P := ¬ (isWd X p 0 = true)) r_300_21 (b01_eq) (fun h21 => ?_) (fun h21 => ?_)
    · refine gx_st (L' := [(2, 2), (2, 13)]) (S' := [(2, 2)]) r_300_32 rfl rfl rfl ?_
      refine gx_st (L' := [(2, 2), (2, 13)]) (S' := [(2, 1000001), (2, 2)]) r_300_33 rfl rfl rfl ?_
      refine gx_ci (nx := 38) (S2 := []) (z_314 hT h.1.1.2.1 h.1.1.2.2 ht (nE_hi hx hp8) (q := 1) (by decide) rfl sl_1) r_300_35 rfl rfl rfl rfl rfl (rcv_v rfl (ty_2 hT) (by decide) rfl (by decide)) rfl (by decide) rfl (fun x35 n35 q35 => ?_)
      obtain rfl := q35.1.symm
      obtain rfl := q35.2.symm
      show GX T 6 300 38 [(2, 2), (2, 13)] [(0, (if isWd X p 1 = true then 1 else 0))] m (RV (fun m1 => CD (fun m w => IsD m 13 w ∧ WB w) X m1 (pSm X (if w 9 = 0 then pFirst X (.ok (p, w)) else pNext X p w)) ∧ Fr [2002, 2003, 2004, 2005, 2006, 13001, 13002, 13003, 13004, 13005, 13006, 13007, 13008, 13009, 14999, 15999, 16999, 17999, 18999, 19999, 20999, 21999] m m1))
      refine gx_i0 (P := ¬ (isWd X p 1 = true)) r_300_38 (b01_eq) (fun h38 => ?_) (fun h38 => ?_)
      · refine gx_st (L' := [(2, 2), (2, 13)]) (S' := [(2, 2)]) r_300_49 rfl rfl rfl ?_
        refine gx_st (L' := [(2, 2), (2, 13)]) (S' := [(2, 1000002), (2, 2)]) r_300_50 rfl rfl rfl ?_
        refine gx_ci (nx := 55) (S2 := []) (z_314 hT h.1.1.2.1 h.1.1.2.2 ht (nE_hi hx hp8) (q := 2) (by decide) rfl sl_2) r_300_52 rfl rfl rfl rfl rfl (rcv_v rfl (ty_2 hT) (by decide) rfl (by decide)) rfl (by decide) rfl (fun x52 n52 q52 => ?_)
        obtain rfl := q52.1.symm
        obtain rfl := q52.2.symm
        show GX T 6 300 55 [(2, 2), (2, 13)] [(0, (if isWd X p 2 = true then 1 else 0))] m (RV (fun m1 => CD (fun m w => IsD m 13 w ∧ WB w) X m1 (pSm X (if w 9 = 0 then pFirst X (.ok (p, w)) else pNext X p w)) ∧ Fr [2002, 2003, 2004, 2005, 2006, 13001, 13002, 13003, 13004, 13005, 13006, 13007, 13008, 13009, 14999, 15999, 16999, 17999, 18999, 19999, 20999, 21999] m m1))
        refine gx_i0 (P := ¬ (isWd X p 2 = true)) r_300_55 (b01_eq) (fun h55 => ?_) (fun h55 => ?_)
        · refine gx_st (L' := [(2, 2), (2, 13)]) (S' := [(2, 2)]) r_300_66 rfl rfl rfl ?_
          refine gx_st (L' := [(2, 2), (2, 13)]) (S' := [(2, 1000003), (2, 2)]) r_300_67 rfl rfl rfl ?_
          refine gx_ci (nx := 72) (S2 := []) (z_314 hT h.1.1.2.1 h.1.1.2.2 ht (nE_hi hx hp8) (q := 3) (by decide) rfl sl_3) r_300_69 rfl rfl rfl rfl rfl (rcv_v rfl (ty_2 hT) (by decide) rfl (by decide)) rfl (by decide) rfl (fun x69 n69 q69 => ?_)
          obtain rfl := q69.1.symm
          obtain rfl := q69.2.symm
          show GX T 6 300 72 [(2, 2), (2, 13)] [(0, (if isWd X p 3 = true then 1 else 0))] m (RV (fun m1 => CD (fun m w => IsD m 13 w ∧ WB w) X m1 (pSm X (if w 9 = 0 then pFirst X (.ok (p, w)) else pNext X p w)) ∧ Fr [2002, 2003, 2004, 2005, 2006, 13001, 13002, 13003, 13004, 13005, 13006, 13007, 13008, 13009, 14999, 15999, 16999, 17999, 18999, 19999, 20999, 21999] m m1))
          refine gx_i0 (P := ¬ (isWd X p 3 = true)) r_300_72 (b01_eq) (fun h72 => ?_) (fun h72 => ?_)
          · refine gx_st (L' := [(2, 2), (2, 13)]) (S' := [(2, 2)]) r_300_98 rfl rfl rfl ?_
            refine gx_st (L' := [(2, 2), (2, 13)]) (S' := [(2, 1000004), (2, 2)]) r_300_99 rfl rfl rfl ?_
            refine gx_ci (nx := 104) (S2 := []) (z_314 hT h.1.1.2.1 h.1.1.2.2 ht (nE_hi hx hp8) (q := 4) (by decide) rfl sl_4) r_300_101 rfl rfl rfl rfl rfl (rcv_v rfl (ty_2 hT) (by decide) rfl (by decide)) rfl (by decide) rfl (fun x101 n101 q101 => ?_)
            obtain rfl := q101.1.symm
            obtain rfl := q101.2.symm
            show GX T 6 300 104 [(2, 2), (2, 13)] [(0, (if isWd X p 4 = true then 1 else 0))] m (RV (fun m1 => CD (fun m w => IsD m 13 w ∧ WB w) X m1 (pSm X (if w 9 = 0 then pFirst X (.ok (p, w)) else pNext X p w)) ∧ Fr [2002, 2003, 2004, 2005, 2006, 13001, 13002, 13003, 13004, 13005, 13006, 13007, 13008, 13009, 14999, 15999, 16999, 17999, 18999, 19999, 20999, 21999] m m1))
            refine gx_i0 (P := ¬ (isWd X p 4 = true)) r_300_104 (b01_eq) (fun h104 => ?_) (fun h104 => ?_)
            · exact absurd w4 h104
            · have h104 := Decidable.not_not.mp h104
              refine gx_st (L' := [(2, 2), (2, 13)]) (S' := [(2, 2)]) r_300_107 rfl rfl rfl ?_
              refine gx_st (L' := [(2, 2), (2, 13)]) (S' := [(2, 13), (2, 2)]) r_300_108 rfl rfl rfl ?_
              by_cases hmx : w 7 = 5
              · refine gx_cv (nx := 112) (S2 := []) (d_305b hT hx h hmx) r_300_109 rfl rfl rfl rfl rfl (rcv_v rfl (ty_2 hT) (by decide) rfl (by decide)) rfl (by decide) rfl (fun n109 q109 => ?_)
                refine gx_st (L' := [(2, 2), (2, 13)]) (S' := []) r_300_112 rfl rfl rfl ?_
                refine gx_imp (ln_semi hT hx (m := n109) (r := (if w 9 = 0 then pFirst X (.ok (p, w)) else pNext X p w)) (by rw [if_neg h9]; unfold pNext; rw [if_neg w0, if_neg w1, if_neg w2, if_pos w4, if_pos hmx]; exact q109.1)) (fun v m2 ⟨e, a, b⟩ => ⟨e, a, Fr_tr q109.2 b⟩)
              · refine gx_cv (nx := 112) (S2 := []) (d_305 hT hx h (c := (w 7).toNat) (by omega) (by omega)) r_300_109 rfl rfl rfl rfl rfl (rcv_v rfl (ty_2 hT) (by decide) rfl (by decide)) rfl (by decide) rfl (fun n109 q109 => ?_)
                refine gx_st (L' := [(2, 2), (2, 13)]) (S' := []) r_300_112 rfl rfl rfl ?_
                refine gx_imp (ln_semi hT hx (m := n109) (r := (if w 9 = 0 then pFirst X (.ok (p, w)) else pNext X p w)) (by rw [if_neg h9]; unfold pNext; rw [if_neg w0, if_neg w1, if_neg w2, if_pos w4, if_neg hmx]; exact q109.1)) (fun v m2 ⟨e, a, b⟩ => ⟨e, a, Fr_tr q109.2 b⟩)
          · have h72 := Decidable.not_not.mp h72
            exact absurd h72 w3
        · have h55 := Decidable.not_not.mp h55
          exact absurd h55 w2
      · have h38 := Decidable.not_not.mp h38
        exact absurd h38 w1
    · have h21 := Decidable.not_not.mp h21
      exact absurd h21 w0
  · have h4 := Decidable.not_not.mp h4
    exact absurd h4 h9
theorem d_300_n (hT : TT T) (hx : XOK X) {p : Nat} {w : Wd} (h : CD (fun m w => IsD m 13 w ∧ WB w) X m (.ok (p, w))) (h9 : ¬ w 9 = 0) (w0 : ¬ isWd X p 0 = true) (w1 : ¬ isWd X p 1 = true) (w2 : ¬ isWd X p 2 = true) (w3 : ¬ isWd X p 3 = true) (w4 : ¬ isWd X p 4 = true) : GX T 6 300 0 [(2, 2), (2, 13)] [] m (RV (fun m1 => CD (fun m w => IsD m 13 w ∧ WB w) X m1 (pSm X (if w 9 = 0 then pFirst X (.ok (p, w)) else pNext X p w)) ∧ Fr [2002, 2003, 2004, 2005, 2006, 13001, 13002, 13003, 13004, 13005, 13006, 13007, 13008, 13009, 14999, 15999, 16999, 17999, 18999, 19999, 20999, 21999] m m1)) := by
  have hpw := h.2 (p, w) rfl
  have c0 : m 13 0 = w 9 := hpw.1.1
  have hp8 := h.1.2.2.2.1
  have ht := h.1.2.2.2.2
  obtain ⟨-, b4, b5, b6, b7, -⟩ := (show WB w from hpw.2)
  refine gx_st (L' := [(2, 2), (2, 13)]) (S' := [(2, 13)]) r_300_0 rfl rfl rfl ?_
  refine gx_gf (x := (w 9)) 0 r_300_1 (rfl) (ty_13 hT) ⟨by decide, rfl, by decide, by decide⟩ rfl (fun z => absurd z (by decide)) (c0) ?_
  refine gx_i0 (P := ¬ (w 9) = 0) r_300_4 (rfl) (fun h4 => ?_) (fun h4 => ?_)
  · refine gx_st (L' := [(2, 2), (2, 13)]) (S' := [(2, 2)]) r_300_15 rfl rfl rfl ?_
    refine gx_st (L' := [(2, 2), (2, 13)]) (S' := [(2, 1000000), (2, 2)]) r_300_16 rfl rfl rfl ?_
    refine gx_ci (nx := 21) (S2 := []) (z_314 hT h.1.1.2.1 h.1.1.2.2 ht (nE_hi hx hp8) (q := 0) (by decide) rfl sl_0) r_300_18 rfl rfl rfl rfl rfl (rcv_v rfl (ty_2 hT) (by decide) rfl (by decide)) rfl (by decide) rfl (fun x18 n18 q18 => ?_)
    obtain rfl := q18.1.symm
    obtain rfl := q18.2.symm
    show GX T 6 300 21 [(2, 2), (2, 13)] [(0, (if isWd X p 0 = true then 1 else 0))] m (RV (fun m1 => CD (fun m w => IsD m 13 w ∧ WB w) X m1 (pSm X (if w 9 = 0 then pFirst X (.ok (p, w)) else pNext X p w)) ∧ Fr [2002, 2003, 2004, 2005, 2006, 13001, 13002, 13003, 13004, 13005, 13006, 13007, 13008, 13009, 14999, 15999, 16999, 17999, 18999, 19999, 20999, 21999] m m1))
    refine gx_i0 (P := ¬ (isWd X p 0 = true)) r_300_21 (b01_eq) (fun h21 => ?_) (fun h21 => ?_)
    · refine gx_st (L' := [(2, 2), (2, 13)]) (S' := [(2, 2)]) r_300_32 rfl rfl rfl ?_
      refine gx_st (L' := [(2, 2), (2, 13)]) (S' := [(2, 1000001), (2, 2)]) r_300_33 rfl rfl rfl ?_
      refine gx_ci (nx := 38) (S2 := []) (z_314 hT h.1.1.2.1 h.1.1.2.2 ht (nE_hi hx hp8) (q := 1) (by decide) rfl sl_1) r_300_35 rfl rfl rfl rfl rfl (rcv_v rfl (ty_2 hT) (by decide) rfl (by decide)) rfl (by decide) rfl (fun x35 n35 q35 => ?_)
      obtain rfl := q35.1.symm
      obtain rfl := q35.2.symm
      show GX T 6 300 38 [(2, 2), (2, 13)] [(0, (if isWd X p 1 = true then 1 else 0))] m (RV (fun m1 => CD (fun m w => IsD m 13 w ∧ WB w) X m1 (pSm X (if w 9 = 0 then pFirst X (.ok (p, w)) else pNext X p w)) ∧ Fr [2002, 2003, 2004, 2005, 2006, 13001, 13002, 13003, 13004, 13005, 13006, 13007, 13008, 13009, 14999, 15999, 16999, 17999, 18999, 19999, 20999, 21999] m m1))
      refine gx_i0 (P := ¬ (isWd X p 1 = true)) r_300_38 (b01_eq) (fun h38 => ?_) (fun h38 => ?_)
      · refine gx_st (L' := [(2, 2), (2, 13)]) (S' := [(2, 2)]) r_300_49 rfl rfl rfl ?_
        refine gx_st (L' := [(2, 2), (2, 13)]) (S' := [(2, 1000002), (2, 2)]) r_300_50 rfl rfl rfl ?_
        refine gx_ci (nx := 55) (S2 := []) (z_314 hT h.1.1.2.1 h.1.1.2.2 ht (nE_hi hx hp8) (q := 2) (by decide) rfl sl_2) r_300_52 rfl rfl rfl rfl rfl (rcv_v rfl (ty_2 hT) (by decide) rfl (by decide)) rfl (by decide) rfl (fun x52 n52 q52 => ?_)
        obtain rfl := q52.1.symm
        obtain rfl := q52.2.symm
        show GX T 6 300 55 [(2, 2), (2, 13)] [(0, (if isWd X p 2 = true then 1 else 0))] m (RV (fun m1 => CD (fun m w => IsD m 13 w ∧ WB w) X m1 (pSm X (if w 9 = 0 then pFirst X (.ok (p, w)) else pNext X p w)) ∧ Fr [2002, 2003, 2004, 2005, 2006, 13001, 13002, 13003, 13004, 13005, 13006, 13007, 13008, 13009, 14999, 15999, 16999, 17999, 18999, 19999, 20999, 21999] m m1))
        refine gx_i0 (P := ¬ (isWd X p 2 = true)) r_300_55 (b01_eq) (fun h55 => ?_) (fun h55 => ?_)
        · refine gx_st (L' := [(2, 2), (2, 13)]) (S' := [(2, 2)]) r_300_66 rfl rfl rfl ?_
          refine gx_st (L' := [(2, 2), (2, 13)]) (S' := [(2, 1000003), (2, 2)]) r_300_67 rfl rfl rfl ?_
          refine gx_ci (nx := 72) (S2 := []) (z_314 hT h.1.1.2.1 h.1.1.2.2 ht (nE_hi hx hp8) (q := 3) (by decide) rfl sl_3) r_300_69 rfl rfl rfl rfl rfl (rcv_v rfl (ty_2 hT) (by decide) rfl (by decide)) rfl (by decide) rfl (fun x69 n69 q69 => ?_)
          obtain rfl := q69.1.symm
          obtain rfl := q69.2.symm
          show GX T 6 300 72 [(2, 2), (2, 13)] [(0, (if isWd X p 3 = true then 1 else 0))] m (RV (fun m1 => CD (fun m w => IsD m 13 w ∧ WB w) X m1 (pSm X (if w 9 = 0 then pFirst X (.ok (p, w)) else pNext X p w)) ∧ Fr [2002, 2003, 2004, 2005, 2006, 13001, 13002, 13003, 13004, 13005, 13006, 13007, 13008, 13009, 14999, 15999, 16999, 17999, 18999, 19999, 20999, 21999] m m1))
          refine gx_i0 (P := ¬ (isWd X p 3 = true)) r_300_72 (b01_eq) (fun h72 => ?_) (fun h72 => ?_)
          · refine gx_st (L' := [(2, 2), (2, 13)]) (S' := [(2, 2)]) r_300_98 rfl rfl rfl ?_
            refine gx_st (L' := [(2, 2), (2, 13)]) (S' := [(2, 1000004), (2, 2)]) r_300_99 rfl rfl rfl ?_
            refine gx_ci (nx := 104) (S2 := []) (z_314 hT h.1.1.2.1 h.1.1.2.2 ht (nE_hi hx hp8) (q := 4) (by decide) rfl sl_4) r_300_101 rfl rfl rfl rfl rfl (rcv_v rfl (ty_2 hT) (by decide) rfl (by decide)) rfl (by decide) rfl (fun x101 n101 q101 => ?_)
            obtain rfl := q101.1.symm
            obtain rfl := q101.2.symm
            show GX T 6 300 104 [(2, 2), (2, 13)] [(0, (if isWd X p 4 = true then 1 else 0))] m (RV (fun m1 => CD (fun m w => IsD m 13 w ∧ WB w) X m1 (pSm X (if w 9 = 0 then pFirst X (.ok (p, w)) else pNext X p w)) ∧ Fr [2002, 2003, 2004, 2005, 2006, 13001, 13002, 13003, 13004, 13005, 13006, 13007, 13008, 13009, 14999, 15999, 16999, 17999, 18999, 19999, 20999, 21999] m m1))
            refine gx_i0 (P := ¬ (isWd X p 4 = true)) r_300_104 (b01_eq) (fun h104 => ?_) (fun h104 => ?_)
            · refine gx_st (L' := [(2, 2), (2, 13)]) (S' := [(2, 2)]) r_300_115 rfl rfl rfl ?_
              refine gx_st (L' := [(2, 2), (2, 13)]) (S' := [(0, 1), (2, 2)]) r_300_116 rfl rfl rfl ?_
              refine gx_cv (nx := 120) (S2 := []) (d_307 (P := (fun m w => IsD m 13 w ∧ WB w)) hT h (k := 1) (by decide) (by decide)) r_300_117 rfl rfl rfl rfl rfl (rcv_v rfl (ty_2 hT) (by decide) rfl (by decide)) rfl (by decide) rfl (fun n117 q117 => ?_)
              refine gx_imp (ln_semi hT hx (m := n117) (r := (if w 9 = 0 then pFirst X (.ok (p, w)) else pNext X p w)) (by rw [if_neg h9]; unfold pNext; rw [if_neg w0, if_neg w1, if_neg w2, if_neg w4, if_neg w3]; exact q117.1)) (fun v m2 ⟨e, a, b⟩ => ⟨e, a, Fr_tr (Fr_sub q117.2 (by decide)) b⟩)
            · have h104 := Decidable.not_not.mp h104
              exact absurd h104 w4
          · have h72 := Decidable.not_not.mp h72
            exact absurd h72 w3
        · have h55 := Decidable.not_not.mp h55
          exact absurd h55 w2
      · have h38 := Decidable.not_not.mp h38
        exact absurd h38 w1
    · have h21 := Decidable.not_not.mp h21
      exact absurd h21 w0
  · have h4 := Decidable.not_not.mp h4
    exact absurd h4 h9
theorem d_300 (hT : TT T) (hx : XOK X) {p : Nat} {w : Wd} (h : CD (fun m w => IsD m 13 w ∧ WB w) X m (.ok (p, w))) (h94 : w 9 = 0 → w 4 = 0) : GX T 6 300 0 [(2, 2), (2, 13)] [] m (RV (fun m1 => CD (fun m w => IsD m 13 w ∧ WB w) X m1 (pSm X (if w 9 = 0 then pFirst X (.ok (p, w)) else pNext X p w)) ∧ Fr [2002, 2003, 2004, 2005, 2006, 13001, 13002, 13003, 13004, 13005, 13006, 13007, 13008, 13009, 14999, 15999, 16999, 17999, 18999, 19999, 20999, 21999] m m1)) := by
  by_cases h9 : w 9 = 0
  · exact d_300f hT hx h h9 (h94 h9)
  have nw : ∀ a b, a < 5 → b < 5 → ¬ a = b → isWd X p a = true → ¬ isWd X p b = true := fun a b ha hb hab h => by rw [wd_ne ha hb hab h]; decide
  by_cases w0 : isWd X p 0 = true
  · exact d_300_0 hT hx h h9 w0 (nw 0 1 (by decide) (by decide) (by decide) w0) (nw 0 2 (by decide) (by decide) (by decide) w0) (nw 0 3 (by decide) (by decide) (by decide) w0) (nw 0 4 (by decide) (by decide) (by decide) w0)
  by_cases w1 : isWd X p 1 = true
  · exact d_300_1 hT hx h h9 (nw 1 0 (by decide) (by decide) (by decide) w1) w1 (nw 1 2 (by decide) (by decide) (by decide) w1) (nw 1 3 (by decide) (by decide) (by decide) w1) (nw 1 4 (by decide) (by decide) (by decide) w1)
  by_cases w2 : isWd X p 2 = true
  · exact d_300_2 hT hx h h9 (nw 2 0 (by decide) (by decide) (by decide) w2) (nw 2 1 (by decide) (by decide) (by decide) w2) w2 (nw 2 3 (by decide) (by decide) (by decide) w2) (nw 2 4 (by decide) (by decide) (by decide) w2)
  by_cases w3 : isWd X p 3 = true
  · exact d_300_3 hT hx h h9 (nw 3 0 (by decide) (by decide) (by decide) w3) (nw 3 1 (by decide) (by decide) (by decide) w3) (nw 3 2 (by decide) (by decide) (by decide) w3) w3 (nw 3 4 (by decide) (by decide) (by decide) w3)
  by_cases w4 : isWd X p 4 = true
  · exact d_300_4 hT hx h h9 (nw 4 0 (by decide) (by decide) (by decide) w4) (nw 4 1 (by decide) (by decide) (by decide) w4) (nw 4 2 (by decide) (by decide) (by decide) w4) (nw 4 3 (by decide) (by decide) (by decide) w4) w4
  exact d_300_n hT hx h h9 w0 w1 w2 w3 w4
end WHOLEC
