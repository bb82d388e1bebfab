/-! the parser of the class exactly: first line, paths -/
theorem r_255_0 : row 255 0 = some (.aload_n 0, 1, 0, 0, 0, 0) := rfl
theorem r_255_1 : row 255 1 = some (.getfield 61, 4, 3, 16, 2, 1130) := rfl
theorem r_255_4 : row 255 4 = some (.iload_n 1, 5, 0, 0, 0, 0) := rfl
theorem r_255_5 : row 255 5 = some (.aload_n 0, 6, 0, 0, 0, 0) := rfl
theorem r_255_6 : row 255 6 = some (.getfield 61, 9, 3, 16, 2, 1130) := rfl
theorem r_255_9 : row 255 9 = some (.iload_n 1, 10, 0, 0, 0, 0) := rfl
theorem r_255_10 : row 255 10 = some (.invokestatic 77, 13, 237, 2, 10, 3107) := rfl
theorem r_255_13 : row 255 13 = some (.iconst 1, 14, 1, 0, 0, 0) := rfl
theorem r_255_14 : row 255 14 = some (.iload_n 2, 15, 0, 0, 0, 0) := rfl
theorem r_255_15 : row 255 15 = some (.ishl, 16, 0, 0, 0, 0) := rfl
theorem r_255_16 : row 255 16 = some (.ior, 17, 0, 0, 0, 0) := rfl
theorem r_255_17 : row 255 17 = some (.invokestatic 81, 20, 238, 3, 10, 3110) := rfl
theorem r_255_20 : row 255 20 = some (.aload_n 0, 21, 0, 0, 0, 0) := rfl
theorem r_255_21 : row 255 21 = some (.getfield 61, 24, 3, 16, 2, 1130) := rfl
theorem r_255_24 : row 255 24 = some (.iload_n 2, 25, 0, 0, 0, 0) := rfl
theorem r_255_25 : row 255 25 = some (.aload_n 0, 26, 0, 0, 0, 0) := rfl
theorem r_255_26 : row 255 26 = some (.getfield 61, 29, 3, 16, 2, 1130) := rfl
theorem r_255_29 : row 255 29 = some (.iload_n 2, 30, 0, 0, 0, 0) := rfl
theorem r_255_30 : row 255 30 = some (.invokestatic 77, 33, 237, 2, 10, 3107) := rfl
theorem r_255_33 : row 255 33 = some (.iconst 1, 34, 1, 0, 0, 0) := rfl
theorem r_255_34 : row 255 34 = some (.iload_n 1, 35, 0, 0, 0, 0) := rfl
theorem r_255_35 : row 255 35 = some (.ishl, 36, 0, 0, 0, 0) := rfl
theorem r_255_36 : row 255 36 = some (.ior, 37, 0, 0, 0, 0) := rfl
theorem r_255_37 : row 255 37 = some (.invokestatic 81, 40, 238, 3, 10, 3110) := rfl
theorem r_255_40 : row 255 40 = some (.aload_n 0, 41, 0, 0, 0, 0) := rfl
theorem r_255_41 : row 255 41 = some (.dup, 42, 0, 0, 0, 0) := rfl
theorem r_255_42 : row 255 42 = some (.getfield 27, 45, 3, 5, 0, 1088) := rfl
theorem r_255_45 : row 255 45 = some (.iconst 1, 46, 1, 0, 0, 0) := rfl
theorem r_255_46 : row 255 46 = some (.iadd, 47, 0, 0, 0, 0) := rfl
theorem r_255_47 : row 255 47 = some (.putfield 27, 50, 3, 5, 0, 1088) := rfl
theorem r_255_50 : row 255 50 = some (.return_, 51, 0, 0, 0, 0) := rfl
theorem r_301_0 : row 301 0 = some (.aload_n 0, 1, 0, 0, 0, 0) := rfl
theorem r_301_1 : row 301 1 = some (.ldc 98, 3, 1000005, 1, 0, 3016) := rfl
theorem r_301_3 : row 301 3 = some (.invokevirtual 100, 6, 309, 1, 0, 3017) := rfl
theorem r_301_6 : row 301 6 = some (.aload_n 0, 7, 0, 0, 0, 0) := rfl
theorem r_301_7 : row 301 7 = some (.ldc 104, 9, 1000006, 1, 0, 3077) := rfl
theorem r_301_9 : row 301 9 = some (.invokevirtual 100, 12, 309, 1, 0, 3017) := rfl
theorem r_301_12 : row 301 12 = some (.aload_n 1, 13, 0, 0, 0, 0) := rfl
theorem r_301_13 : row 301 13 = some (.aload_n 0, 14, 0, 0, 0, 0) := rfl
theorem r_301_14 : row 301 14 = some (.iconst 2, 15, 2, 0, 0, 0) := rfl
theorem r_301_15 : row 301 15 = some (.bipush 7, 17, 7, 0, 0, 0) := rfl
theorem r_301_17 : row 301 17 = some (.iconst (-1), 18, (-1), 0, 0, 0) := rfl
theorem r_301_18 : row 301 18 = some (.invokevirtual 106, 21, 310, 3, 0, 3078) := rfl
theorem r_301_21 : row 301 21 = some (.putfield 110, 24, 3, 1, 10, 1071) := rfl
theorem r_301_24 : row 301 24 = some (.aload_n 0, 25, 0, 0, 0, 0) := rfl
theorem r_301_25 : row 301 25 = some (.ldc 112, 27, 1000007, 1, 0, 3090) := rfl
theorem r_301_27 : row 301 27 = some (.invokevirtual 100, 30, 309, 1, 0, 3017) := rfl
theorem r_301_30 : row 301 30 = some (.aload_n 1, 31, 0, 0, 0, 0) := rfl
theorem r_301_31 : row 301 31 = some (.aload_n 0, 32, 0, 0, 0, 0) := rfl
theorem r_301_32 : row 301 32 = some (.iconst 1, 33, 1, 0, 0, 0) := rfl
theorem r_301_33 : row 301 33 = some (.bipush 12, 35, 12, 0, 0, 0) := rfl
theorem r_301_35 : row 301 35 = some (.iconst (-1), 36, (-1), 0, 0, 0) := rfl
theorem r_301_36 : row 301 36 = some (.invokevirtual 106, 39, 310, 3, 0, 3078) := rfl
theorem r_301_39 : row 301 39 = some (.putfield 114, 42, 3, 2, 10, 1078) := rfl
theorem r_301_42 : row 301 42 = some (.aload_n 0, 43, 0, 0, 0, 0) := rfl
theorem r_301_43 : row 301 43 = some (.ldc 116, 45, 1000008, 1, 0, 3091) := rfl
theorem r_301_45 : row 301 45 = some (.invokevirtual 100, 48, 309, 1, 0, 3017) := rfl
theorem r_301_48 : row 301 48 = some (.aload_n 1, 49, 0, 0, 0, 0) := rfl
theorem r_301_49 : row 301 49 = some (.aload_n 0, 50, 0, 0, 0, 0) := rfl
theorem r_301_50 : row 301 50 = some (.iconst 1, 51, 1, 0, 0, 0) := rfl
theorem r_301_51 : row 301 51 = some (.bipush 20, 53, 20, 0, 0, 0) := rfl
theorem r_301_53 : row 301 53 = some (.iconst (-1), 54, (-1), 0, 0, 0) := rfl
theorem r_301_54 : row 301 54 = some (.invokevirtual 106, 57, 310, 3, 0, 3078) := rfl
theorem r_301_57 : row 301 57 = some (.putfield 118, 60, 3, 3, 10, 1082) := rfl
theorem r_301_60 : row 301 60 = some (.aload_n 0, 61, 0, 0, 0, 0) := rfl
theorem r_301_61 : row 301 61 = some (.ldc 120, 63, 1000009, 1, 0, 3092) := rfl
theorem r_301_63 : row 301 63 = some (.invokevirtual 100, 66, 309, 1, 0, 3017) := rfl
theorem r_301_66 : row 301 66 = some (.aload_n 1, 67, 0, 0, 0, 0) := rfl
theorem r_301_67 : row 301 67 = some (.aload_n 0, 68, 0, 0, 0, 0) := rfl
theorem r_301_68 : row 301 68 = some (.iconst 0, 69, 0, 0, 0, 0) := rfl
theorem r_301_69 : row 301 69 = some (.bipush 10, 71, 10, 0, 0, 0) := rfl
theorem r_301_71 : row 301 71 = some (.iconst (-1), 72, (-1), 0, 0, 0) := rfl
theorem r_301_72 : row 301 72 = some (.invokevirtual 106, 75, 310, 3, 0, 3078) := rfl
theorem r_301_75 : row 301 75 = some (.putfield 122, 78, 3, 4, 10, 1086) := rfl
theorem r_301_78 : row 301 78 = some (.return_, 79, 0, 0, 0, 0) := rfl
theorem r_302_0 : row 302 0 = some (.aload_n 0, 1, 0, 0, 0, 0) := rfl
theorem r_302_1 : row 302 1 = some (.aload_n 1, 2, 0, 0, 0, 0) := rfl
theorem r_302_2 : row 302 2 = some (.getfield 124, 5, 3, 5, 10, 1089) := rfl
theorem r_302_5 : row 302 5 = some (.bipush 10, 7, 10, 0, 0, 0) := rfl
theorem r_302_7 : row 302 7 = some (.invokevirtual 127, 10, 306, 2, 0, 3098) := rfl
theorem r_302_10 : row 302 10 = some (.aload_n 0, 11, 0, 0, 0, 0) := rfl
theorem r_302_11 : row 302 11 = some (.invokevirtual 45, 14, 312, 0, 0, 2237) := rfl
theorem r_302_14 : row 302 14 = some (.aload_n 0, 15, 0, 0, 0, 0) := rfl
theorem r_302_15 : row 302 15 = some (.iconst 0, 16, 0, 0, 0, 0) := rfl
theorem r_302_16 : row 302 16 = some (.aload_n 1, 17, 0, 0, 0, 0) := rfl
theorem r_302_17 : row 302 17 = some (.getfield 110, 20, 3, 1, 10, 1071) := rfl
theorem r_302_20 : row 302 20 = some (.iconst 1, 21, 1, 0, 0, 0) := rfl
theorem r_302_21 : row 302 21 = some (.isub, 22, 0, 0, 0, 0) := rfl
theorem r_302_22 : row 302 22 = some (.iconst (-1), 23, (-1), 0, 0, 0) := rfl
theorem r_302_23 : row 302 23 = some (.invokevirtual 106, 26, 310, 3, 0, 3078) := rfl
theorem r_302_26 : row 302 26 = some (.istore_n 2, 27, 0, 0, 0, 0) := rfl
theorem r_302_27 : row 302 27 = some (.aload_n 0, 28, 0, 0, 0, 0) := rfl
theorem r_302_28 : row 302 28 = some (.ldc 131, 30, 1000010, 1, 0, 3102) := rfl
theorem r_302_30 : row 302 30 = some (.invokevirtual 100, 33, 309, 1, 0, 3017) := rfl
theorem r_302_33 : row 302 33 = some (.aload_n 0, 34, 0, 0, 0, 0) := rfl
theorem r_302_34 : row 302 34 = some (.iconst 0, 35, 0, 0, 0, 0) := rfl
theorem r_302_35 : row 302 35 = some (.aload_n 1, 36, 0, 0, 0, 0) := rfl
theorem r_302_36 : row 302 36 = some (.getfield 110, 39, 3, 1, 10, 1071) := rfl
theorem r_302_39 : row 302 39 = some (.iconst 1, 40, 1, 0, 0, 0) := rfl
theorem r_302_40 : row 302 40 = some (.isub, 41, 0, 0, 0, 0) := rfl
theorem r_302_41 : row 302 41 = some (.iload_n 2, 42, 0, 0, 0, 0) := rfl
theorem r_302_42 : row 302 42 = some (.invokevirtual 106, 45, 310, 3, 0, 3078) := rfl
theorem r_302_45 : row 302 45 = some (.istore_n 3, 46, 0, 0, 0, 0) := rfl
theorem r_302_46 : row 302 46 = some (.aload_n 0, 47, 0, 0, 0, 0) := rfl
theorem r_302_47 : row 302 47 = some (.getfield 19, 50, 8, 2, 0, 1037) := rfl
theorem r_302_50 : row 302 50 = some (.ifCond .ne 9, 53, 59, 0, 0, 0) := rfl
theorem r_302_53 : row 302 53 = some (.aload_n 1, 54, 0, 0, 0, 0) := rfl
theorem r_302_54 : row 302 54 = some (.iload_n 2, 55, 0, 0, 0, 0) := rfl
theorem r_302_55 : row 302 55 = some (.iload_n 3, 56, 0, 0, 0, 0) := rfl
theorem r_302_56 : row 302 56 = some (.invokevirtual 133, 59, 255, 2, 10, 3103) := rfl
theorem r_302_59 : row 302 59 = some (.return_, 60, 0, 0, 0, 0) := rfl
section TEXTC
variable {T : List Kd} {X : Nat → Int} {m : Mm}
theorem CV_cc {P : Mm → Wd → Prop} {v : Int} {r : PV} (h : CV P X m v r) : CC X m := by
  have z := h.1
  cases r with
  | error e => exact z.2.1
  | ok g => exact z.2.1
theorem CV_num {P : Mm → Wd → Prop} {v lo hi : Int} {r : PR} (hl : 0 ≤ lo) (h : CV P X m v (pNumU X lo hi (-1) r)) : CV P X m v (pNum X lo hi r) := by rw [numU_eq hl] at h; exact h
theorem CV_rng {P : Mm → Wd → Prop} {v lo hi u : Int} {r : PR} (h : CV P X m v (pNumU X lo hi u r)) : CV (fun m w => P m w ∧ lo ≤ v ∧ v ≤ hi ∧ ¬ v = u) X m v (pNumU X lo hi u r) := ⟨h.1, fun g hg => by
  have a := h.1
  rw [hg] at a
  have a1 : v = g.1 := a.1
  rw [a1]
  exact ⟨h.2 g hg, (numU_w hg).2⟩⟩
theorem wb_f {w : Wd} (h : WB w) (h4 : w 4 = 0) {v : Int} (h0 : 0 ≤ v ∧ v ≤ 7) : WB (upw w 0 v) := by
  obtain ⟨b0, b4, b5, b6, b7, bp⟩ := h
  refine ⟨?_, ?_, ?_, ?_, ?_, fun k k1 k2 => ?_⟩
  · rw [upw_at]; exact h0
  · rw [upw_ne (by decide)]; exact b4
  · rw [upw_ne (by decide)]; exact b5
  · rw [upw_ne (by decide)]; exact b6
  · rw [upw_ne (by decide)]; exact b7
  · rw [upw_ne (by decide), h4] at k2; omega
theorem d_301 (hT : TT T) (hx : XOK X) {r : PR} (h : CD (fun m w => (IsD m 13 w ∧ WB w) ∧ w 4 = 0) X m r) : GX T 5 301 0 [(2, 2), (2, 13)] [] m (RV (fun m1 => CD (fun m w => IsD m 13 w ∧ WB w) X m1 (pFirst X r) ∧ Fr [2002, 2003, 2004, 2005, 2006, 13001, 13002, 13003, 13004, 13005, 13006, 13007, 13008, 13009, 14999, 15999, 16999, 17999, 18999, 19999, 20999, 21999] m m1)) := by
  refine gx_st (L' := [(2, 2), (2, 13)]) (S' := [(2, 2)]) r_301_0 rfl rfl rfl ?_
  refine gx_st (L' := [(2, 2), (2, 13)]) (S' := [(2, 1000005), (2, 2)]) r_301_1 rfl rfl rfl ?_
  refine gx_cv (nx := 6) (S2 := []) (d_309 (P := (fun m w => (IsD m 13 w ∧ WB w) ∧ w 4 = 0)) (fun m m2 w e h => ⟨⟨IsD_eq h.1.1 (fun p i _ _ hi => e p i (by omega) (by omega) hi), h.1.2⟩, h.2⟩) hT hx h (q := 5) (by decide) rfl sl_5) r_301_3 rfl rfl rfl rfl rfl (rcv_v rfl (ty_2 hT) (by decide) rfl (by decide)) rfl (by decide) rfl (fun n3 q3 => ?_)
  have f_n3 : Fr [2002, 2003, 2004, 2005, 2006, 13001, 13002, 13003, 13004, 13005, 13006, 13007, 13008, 13009, 14999, 15999, 16999, 17999, 18999, 19999, 20999, 21999] m n3 := Fr_tr Fr_rf (Fr_sub q3.2 (by decide))
  refine gx_st (L' := [(2, 2), (2, 13)]) (S' := [(2, 2)]) r_301_6 rfl rfl rfl ?_
  refine gx_st (L' := [(2, 2), (2, 13)]) (S' := [(2, 1000006), (2, 2)]) r_301_7 rfl rfl rfl ?_
  refine gx_cv (nx := 12) (S2 := []) (d_309 (P := (fun m w => (IsD m 13 w ∧ WB w) ∧ w 4 = 0)) (fun m m2 w e h => ⟨⟨IsD_eq h.1.1 (fun p i _ _ hi => e p i (by omega) (by omega) hi), h.1.2⟩, h.2⟩) hT hx q3.1 (q := 6) (by decide) rfl sl_6) r_301_9 rfl rfl rfl rfl rfl (rcv_v rfl (ty_2 hT) (by decide) rfl (by decide)) rfl (by decide) rfl (fun n9 q9 => ?_)
  have f_n9 : Fr [2002, 2003, 2004, 2005, 2006, 13001, 13002, 13003, 13004, 13005, 13006, 13007, 13008, 13009, 14999, 15999, 16999, 17999, 18999, 19999, 20999, 21999] m n9 := Fr_tr f_n3 (Fr_sub q9.2 (by decide))
  refine gx_st (L' := [(2, 2), (2, 13)]) (S' := [(2, 13)]) r_301_12 rfl rfl rfl ?_
  refine gx_st (L' := [(2, 2), (2, 13)]) (S' := [(2, 2), (2, 13)]) r_301_13 rfl rfl rfl ?_
  refine gx_st (L' := [(2, 2), (2, 13)]) (S' := [(0, 2), (2, 2), (2, 13)]) r_301_14 rfl rfl rfl ?_
  refine gx_st (L' := [(2, 2), (2, 13)]) (S' := [(0, 7), (0, 2), (2, 2), (2, 13)]) r_301_15 rfl rfl rfl ?_
  refine gx_st (L' := [(2, 2), (2, 13)]) (S' := [(0, (-1)), (0, 7), (0, 2), (2, 2), (2, 13)]) r_301_17 rfl rfl rfl ?_
  refine gx_ci (nx := 21) (S2 := [(2, 13)]) (d_310 (P := (fun m w => (IsD m 13 w ∧ WB w) ∧ w 4 = 0)) (fun m m2 w e h => ⟨⟨IsD_eq h.1.1 (fun p i _ _ hi => e p i (by omega) (by omega) hi), h.1.2⟩, h.2⟩) hT hx q9.1.1 (lo := 2) (hi := 7) (u := -1) (by decide) (by decide) q9.1.2) r_301_18 rfl rfl rfl rfl rfl (rcv_v rfl (ty_2 hT) (by decide) rfl (by decide)) rfl (by decide) rfl (fun x18 n18 q18 => ?_)
  show GX T 5 301 21 [(2, 2), (2, 13)] [(0, x18), (2, 13)] n18 (RV (fun m1 => CD (fun m w => IsD m 13 w ∧ WB w) X m1 (pFirst X r) ∧ Fr [2002, 2003, 2004, 2005, 2006, 13001, 13002, 13003, 13004, 13005, 13006, 13007, 13008, 13009, 14999, 15999, 16999, 17999, 18999, 19999, 20999, 21999] m m1))
  have v_n18 := q18.1.2
  have cv_n18 := CV_num (by decide) q18.1.1
  have cc_n18 := CV_cc cv_n18
  have f_n18 : Fr [2002, 2003, 2004, 2005, 2006, 13001, 13002, 13003, 13004, 13005, 13006, 13007, 13008, 13009, 14999, 15999, 16999, 17999, 18999, 19999, 20999, 21999] m n18 := Fr_tr f_n9 (Fr_sub q18.2 (by decide))
  obtain ⟨m1, e_m1⟩ : ∃ z, z = nu_up n18 13 1 x18 := ⟨_, rfl⟩
  refine gx_pf (x := x18) 0 r_301_21 (rfl) (ty_13 hT) ⟨by decide, rfl, by decide, by decide⟩ rfl (fun z => absurd z (by decide)) (fun z => absurd z (by decide)) e_m1.symm ?_
  have g_m1 : Gam m1 := by rw [e_m1]; exact gam_f cc_n18.1 rfl (by omega) (by omega)
  have cc_m1 : CC X m1 := by rw [e_m1]; exact CC_up cc_n18 (by decide) rfl (by rw [← e_m1]; exact g_m1)
  have cd_m1 := CD_put (P := (fun m w => (IsD m 13 w ∧ WB w) ∧ w 4 = 0)) (P' := (fun m w => (IsD m 13 w ∧ WB w) ∧ w 4 = 0)) (i := 0) cv_n18 cc_m1 (fun i => by rw [e_m1]; exact nu_2o (by decide)) (fun w h => by
    rw [e_m1]
    exact ⟨⟨isd_f1 (o := 13) h.1.1 _, wb_f h.1.2 h.2 (by omega)⟩, (upw_ne (by decide)).trans h.2⟩)
  have f_m1 : Fr [2002, 2003, 2004, 2005, 2006, 13001, 13002, 13003, 13004, 13005, 13006, 13007, 13008, 13009, 14999, 15999, 16999, 17999, 18999, 19999, 20999, 21999] m m1 := Fr_tr f_n18 (by rw [e_m1]; exact Fr_up rfl)
  refine gx_st (L' := [(2, 2), (2, 13)]) (S' := [(2, 2)]) r_301_24 rfl rfl rfl ?_
  refine gx_st (L' := [(2, 2), (2, 13)]) (S' := [(2, 1000007), (2, 2)]) r_301_25 rfl rfl rfl ?_
  refine gx_cv (nx := 30) (S2 := []) (d_309 (P := (fun m w => (IsD m 13 w ∧ WB w) ∧ w 4 = 0)) (fun m m2 w e h => ⟨⟨IsD_eq h.1.1 (fun p i _ _ hi => e p i (by omega) (by omega) hi), h.1.2⟩, h.2⟩) hT hx cd_m1 (q := 7) (by decide) rfl sl_7) r_301_27 rfl rfl rfl rfl rfl (rcv_v rfl (ty_2 hT) (by decide) rfl (by decide)) rfl (by decide) rfl (fun n27 q27 => ?_)
  have f_n27 : Fr [2002, 2003, 2004, 2005, 2006, 13001, 13002, 13003, 13004, 13005, 13006, 13007, 13008, 13009, 14999, 15999, 16999, 17999, 18999, 19999, 20999, 21999] m n27 := Fr_tr f_m1 (Fr_sub q27.2 (by decide))
  refine gx_st (L' := [(2, 2), (2, 13)]) (S' := [(2, 13)]) r_301_30 rfl rfl rfl ?_
  refine gx_st (L' := [(2, 2), (2, 13)]) (S' := [(2, 2), (2, 13)]) r_301_31 rfl rfl rfl ?_
  refine gx_st (L' := [(2, 2), (2, 13)]) (S' := [(0, 1), (2, 2), (2, 13)]) r_301_32 rfl rfl rfl ?_
  refine gx_st (L' := [(2, 2), (2, 13)]) (S' := [(0, 12), (0, 1), (2, 2), (2, 13)]) r_301_33 rfl rfl rfl ?_
  refine gx_st (L' := [(2, 2), (2, 13)]) (S' := [(0, (-1)), (0, 12), (0, 1), (2, 2), (2, 13)]) r_301_35 rfl rfl rfl ?_
  refine gx_ci (nx := 39) (S2 := [(2, 13)]) (d_310 (P := (fun m w => (IsD m 13 w ∧ WB w) ∧ w 4 = 0)) (fun m m2 w e h => ⟨⟨IsD_eq h.1.1 (fun p i _ _ hi => e p i (by omega) (by omega) hi), h.1.2⟩, h.2⟩) hT hx q27.1.1 (lo := 1) (hi := 12) (u := -1) (by decide) (by decide) q27.1.2) r_301_36 rfl rfl rfl rfl rfl (rcv_v rfl (ty_2 hT) (by decide) rfl (by decide)) rfl (by decide) rfl (fun x36 n36 q36 => ?_)
  show GX T 5 301 39 [(2, 2), (2, 13)] [(0, x36), (2, 13)] n36 (RV (fun m1 => CD (fun m w => IsD m 13 w ∧ WB w) X m1 (pFirst X r) ∧ Fr [2002, 2003, 2004, 2005, 2006, 13001, 13002, 13003, 13004, 13005, 13006, 13007, 13008, 13009, 14999, 15999, 16999, 17999, 18999, 19999, 20999, 21999] m m1))
  have v_n36 := q36.1.2
  have cv_n36 := CV_num (by decide) q36.1.1
  have cc_n36 := CV_cc cv_n36
  have f_n36 : Fr [2002, 2003, 2004, 2005, 2006, 13001, 13002, 13003, 13004, 13005, 13006, 13007, 13008, 13009, 14999, 15999, 16999, 17999, 18999, 19999, 20999, 21999] m n36 := Fr_tr f_n27 (Fr_sub q36.2 (by decide))
  obtain ⟨m2, e_m2⟩ : ∃ z, z = nu_up n36 13 2 x36 := ⟨_, rfl⟩
  refine gx_pf (x := x36) 0 r_301_39 (rfl) (ty_13 hT) ⟨by decide, rfl, by decide, by decide⟩ rfl (fun z => absurd z (by decide)) (fun z => absurd z (by decide)) e_m2.symm ?_
  have g_m2 : Gam m2 := by rw [e_m2]; exact gam_f cc_n36.1 rfl (by omega) (by omega)
  have cc_m2 : CC X m2 := by rw [e_m2]; exact CC_up cc_n36 (by decide) rfl (by rw [← e_m2]; exact g_m2)
  have cd_m2 := CD_put (P := (fun m w => (IsD m 13 w ∧ WB w) ∧ w 4 = 0)) (P' := (fun m w => (IsD m 13 w ∧ WB w) ∧ w 4 = 0)) (i := 1) cv_n36 cc_m2 (fun i => by rw [e_m2]; exact nu_2o (by decide)) (fun w h => by
    rw [e_m2]
    exact ⟨⟨isd_f2 (o := 13) h.1.1 _, WB_eq h.1.2 (fun i hi => upw_ne (by omega))⟩, (upw_ne (by decide)).trans h.2⟩)
  have f_m2 : Fr [2002, 2003, 2004, 2005, 2006, 13001, 13002, 13003, 13004, 13005, 13006, 13007, 13008, 13009, 14999, 15999, 16999, 17999, 18999, 19999, 20999, 21999] m m2 := Fr_tr f_n36 (by rw [e_m2]; exact Fr_up rfl)
  refine gx_st (L' := [(2, 2), (2, 13)]) (S' := [(2, 2)]) r_301_42 rfl rfl rfl ?_
  refine gx_st (L' := [(2, 2), (2, 13)]) (S' := [(2, 1000008), (2, 2)]) r_301_43 rfl rfl rfl ?_
  refine gx_cv (nx := 48) (S2 := []) (d_309 (P := (fun m w => (IsD m 13 w ∧ WB w) ∧ w 4 = 0)) (fun m m2 w e h => ⟨⟨IsD_eq h.1.1 (fun p i _ _ hi => e p i (by omega) (by omega) hi), h.1.2⟩, h.2⟩) hT hx cd_m2 (q := 8) (by decide) rfl sl_8) r_301_45 rfl rfl rfl rfl rfl (rcv_v rfl (ty_2 hT) (by decide) rfl (by decide)) rfl (by decide) rfl (fun n45 q45 => ?_)
  have f_n45 : Fr [2002, 2003, 2004, 2005, 2006, 13001, 13002, 13003, 13004, 13005, 13006, 13007, 13008, 13009, 14999, 15999, 16999, 17999, 18999, 19999, 20999, 21999] m n45 := Fr_tr f_m2 (Fr_sub q45.2 (by decide))
  refine gx_st (L' := [(2, 2), (2, 13)]) (S' := [(2, 13)]) r_301_48 rfl rfl rfl ?_
  refine gx_st (L' := [(2, 2), (2, 13)]) (S' := [(2, 2), (2, 13)]) r_301_49 rfl rfl rfl ?_
  refine gx_st (L' := [(2, 2), (2, 13)]) (S' := [(0, 1), (2, 2), (2, 13)]) r_301_50 rfl rfl rfl ?_
  refine gx_st (L' := [(2, 2), (2, 13)]) (S' := [(0, 20), (0, 1), (2, 2), (2, 13)]) r_301_51 rfl rfl rfl ?_
  refine gx_st (L' := [(2, 2), (2, 13)]) (S' := [(0, (-1)), (0, 20), (0, 1), (2, 2), (2, 13)]) r_301_53 rfl rfl rfl ?_
  refine gx_ci (nx := 57) (S2 := [(2, 13)]) (d_310 (P := (fun m w => (IsD m 13 w ∧ WB w) ∧ w 4 = 0)) (fun m m2 w e h => ⟨⟨IsD_eq h.1.1 (fun p i _ _ hi => e p i (by omega) (by omega) hi), h.1.2⟩, h.2⟩) hT hx q45.1.1 (lo := 1) (hi := 20) (u := -1) (by decide) (by decide) q45.1.2) r_301_54 rfl rfl rfl rfl rfl (rcv_v rfl (ty_2 hT) (by decide) rfl (by decide)) rfl (by decide) rfl (fun x54 n54 q54 => ?_)
  show GX T 5 301 57 [(2, 2), (2, 13)] [(0, x54), (2, 13)] n54 (RV (fun m1 => CD (fun m w => IsD m 13 w ∧ WB w) X m1 (pFirst X r) ∧ Fr [2002, 2003, 2004, 2005, 2006, 13001, 13002, 13003, 13004, 13005, 13006, 13007, 13008, 13009, 14999, 15999, 16999, 17999, 18999, 19999, 20999, 21999] m m1))
  have v_n54 := q54.1.2
  have cv_n54 := CV_num (by decide) q54.1.1
  have cc_n54 := CV_cc cv_n54
  have f_n54 : Fr [2002, 2003, 2004, 2005, 2006, 13001, 13002, 13003, 13004, 13005, 13006, 13007, 13008, 13009, 14999, 15999, 16999, 17999, 18999, 19999, 20999, 21999] m n54 := Fr_tr f_n45 (Fr_sub q54.2 (by decide))
  obtain ⟨m3, e_m3⟩ : ∃ z, z = nu_up n54 13 3 x54 := ⟨_, rfl⟩
  refine gx_pf (x := x54) 0 r_301_57 (rfl) (ty_13 hT) ⟨by decide, rfl, by decide, by decide⟩ rfl (fun z => absurd z (by decide)) (fun z => absurd z (by decide)) e_m3.symm ?_
  have g_m3 : Gam m3 := by rw [e_m3]; exact gam_f cc_n54.1 rfl (by omega) (by omega)
  have cc_m3 : CC X m3 := by rw [e_m3]; exact CC_up cc_n54 (by decide) rfl (by rw [← e_m3]; exact g_m3)
  have cd_m3 := CD_put (P := (fun m w => (IsD m 13 w ∧ WB w) ∧ w 4 = 0)) (P' := (fun m w => (IsD m 13 w ∧ WB w) ∧ w 4 = 0)) (i := 2) cv_n54 cc_m3 (fun i => by rw [e_m3]; exact nu_2o (by decide)) (fun w h => by
    rw [e_m3]
    exact ⟨⟨isd_f3 (o := 13) h.1.1 _, WB_eq h.1.2 (fun i hi => upw_ne (by omega))⟩, (upw_ne (by decide)).trans h.2⟩)
  have f_m3 : Fr [2002, 2003, 2004, 2005, 2006, 13001, 13002, 13003, 13004, 13005, 13006, 13007, 13008, 13009, 14999, 15999, 16999, 17999, 18999, 19999, 20999, 21999] m m3 := Fr_tr f_n54 (by rw [e_m3]; exact Fr_up rfl)
  refine gx_st (L' := [(2, 2), (2, 13)]) (S' := [(2, 2)]) r_301_60 rfl rfl rfl ?_
  refine gx_st (L' := [(2, 2), (2, 13)]) (S' := [(2, 1000009), (2, 2)]) r_301_61 rfl rfl rfl ?_
  refine gx_cv (nx := 66) (S2 := []) (d_309 (P := (fun m w => (IsD m 13 w ∧ WB w) ∧ w 4 = 0)) (fun m m2 w e h => ⟨⟨IsD_eq h.1.1 (fun p i _ _ hi => e p i (by omega) (by omega) hi), h.1.2⟩, h.2⟩) hT hx cd_m3 (q := 9) (by decide) rfl sl_9) r_301_63 rfl rfl rfl rfl rfl (rcv_v rfl (ty_2 hT) (by decide) rfl (by decide)) rfl (by decide) rfl (fun n63 q63 => ?_)
  have f_n63 : Fr [2002, 2003, 2004, 2005, 2006, 13001, 13002, 13003, 13004, 13005, 13006, 13007, 13008, 13009, 14999, 15999, 16999, 17999, 18999, 19999, 20999, 21999] m n63 := Fr_tr f_m3 (Fr_sub q63.2 (by decide))
  refine gx_st (L' := [(2, 2), (2, 13)]) (S' := [(2, 13)]) r_301_66 rfl rfl rfl ?_
  refine gx_st (L' := [(2, 2), (2, 13)]) (S' := [(2, 2), (2, 13)]) r_301_67 rfl rfl rfl ?_
  refine gx_st (L' := [(2, 2), (2, 13)]) (S' := [(0, 0), (2, 2), (2, 13)]) r_301_68 rfl rfl rfl ?_
  refine gx_st (L' := [(2, 2), (2, 13)]) (S' := [(0, 10), (0, 0), (2, 2), (2, 13)]) r_301_69 rfl rfl rfl ?_
  refine gx_st (L' := [(2, 2), (2, 13)]) (S' := [(0, (-1)), (0, 10), (0, 0), (2, 2), (2, 13)]) r_301_71 rfl rfl rfl ?_
  refine gx_ci (nx := 75) (S2 := [(2, 13)]) (d_310 (P := (fun m w => (IsD m 13 w ∧ WB w) ∧ w 4 = 0)) (fun m m2 w e h => ⟨⟨IsD_eq h.1.1 (fun p i _ _ hi => e p i (by omega) (by omega) hi), h.1.2⟩, h.2⟩) hT hx q63.1.1 (lo := 0) (hi := 10) (u := -1) (by decide) (by decide) q63.1.2) r_301_72 rfl rfl rfl rfl rfl (rcv_v rfl (ty_2 hT) (by decide) rfl (by decide)) rfl (by decide) rfl (fun x72 n72 q72 => ?_)
  show GX T 5 301 75 [(2, 2), (2, 13)] [(0, x72), (2, 13)] n72 (RV (fun m1 => CD (fun m w => IsD m 13 w ∧ WB w) X m1 (pFirst X r) ∧ Fr [2002, 2003, 2004, 2005, 2006, 13001, 13002, 13003, 13004, 13005, 13006, 13007, 13008, 13009, 14999, 15999, 16999, 17999, 18999, 19999, 20999, 21999] m m1))
  have v_n72 := q72.1.2
  have cv_n72 := CV_num (by decide) q72.1.1
  have cc_n72 := CV_cc cv_n72
  have f_n72 : Fr [2002, 2003, 2004, 2005, 2006, 13001, 13002, 13003, 13004, 13005, 13006, 13007, 13008, 13009, 14999, 15999, 16999, 17999, 18999, 19999, 20999, 21999] m n72 := Fr_tr f_n63 (Fr_sub q72.2 (by decide))
  obtain ⟨m4, e_m4⟩ : ∃ z, z = nu_up n72 13 4 x72 := ⟨_, rfl⟩
  refine gx_pf (x := x72) 0 r_301_75 (rfl) (ty_13 hT) ⟨by decide, rfl, by decide, by decide⟩ rfl (fun z => absurd z (by decide)) (fun z => absurd z (by decide)) e_m4.symm ?_
  have g_m4 : Gam m4 := by rw [e_m4]; exact gam_f cc_n72.1 rfl (by omega) (by omega)
  have cc_m4 : CC X m4 := by rw [e_m4]; exact CC_up cc_n72 (by decide) rfl (by rw [← e_m4]; exact g_m4)
  have cd_m4 := CD_put (P := (fun m w => (IsD m 13 w ∧ WB w) ∧ w 4 = 0)) (P' := (fun m w => (IsD m 13 w ∧ WB w) ∧ w 4 = 0)) (i := 3) cv_n72 cc_m4 (fun i => by rw [e_m4]; exact nu_2o (by decide)) (fun w h => by
    rw [e_m4]
    exact ⟨⟨isd_f4 (o := 13) h.1.1 _, WB_eq h.1.2 (fun i hi => upw_ne (by omega))⟩, (upw_ne (by decide)).trans h.2⟩)
  have f_m4 : Fr [2002, 2003, 2004, 2005, 2006, 13001, 13002, 13003, 13004, 13005, 13006, 13007, 13008, 13009, 14999, 15999, 16999, 17999, 18999, 19999, 20999, 21999] m m4 := Fr_tr f_n72 (by rw [e_m4]; exact Fr_up rfl)
  exact gx_rt r_301_78 rfl rfl ⟨rfl, CD_mono cd_m4 (fun w z => z.1), f_m4⟩
theorem z_255 (hT : TT T) (hp : PinR m) {a b c : Nat} (ha : a < 7) (hb : b < 7) (hab : ¬ a = b) (hc : m 13 5 = (c : Int)) (hc9 : c < 10) : GX T 2 255 0 [(2, 13), (0, (a : Int)), (0, (b : Int))] [] m (RV (fun m1 => m1 20 a = ior (m 20 a) (ishl 1 (b : Int)) ∧ m1 20 b = ior (m 20 b) (ishl 1 (a : Int)) ∧ m1 13 5 = (c : Int) + 1 ∧ (∀ p : Nat, ¬ p = a → ¬ p = b → m1 20 p = m 20 p) ∧ ∀ o i : Nat, ¬ o = 20 → ¬ (o = 13 ∧ i = 5) → m1 o i = m o i)) := by
  refine gx_st (L' := [(2, 13), (0, (a : Int)), (0, (b : Int))]) (S' := [(2, 13)]) r_255_0 rfl rfl rfl ?_
  refine gx_gf (x := 20) 2 r_255_1 (rfl) (ty_13 hT) ⟨by decide, rfl, by decide, by decide⟩ rfl (fun _ => by omega) (pin_at hp (t := 20) rfl (by decide)) ?_
  refine gx_st (L' := [(2, 13), (0, (a : Int)), (0, (b : Int))]) (S' := [(0, (a : Int)), (2, 20)]) r_255_4 rfl rfl rfl ?_
  refine gx_st (L' := [(2, 13), (0, (a : Int)), (0, (b : Int))]) (S' := [(2, 13), (0, (a : Int)), (2, 20)]) r_255_5 rfl rfl rfl ?_
  refine gx_gf (x := 20) 2 r_255_6 (rfl) (ty_13 hT) ⟨by decide, rfl, by decide, by decide⟩ rfl (fun _ => by omega) (pin_at hp (t := 20) rfl (by decide)) ?_
  refine gx_st (L' := [(2, 13), (0, (a : Int)), (0, (b : Int))]) (S' := [(0, (a : Int)), (2, 20), (0, (a : Int)), (2, 20)]) r_255_9 rfl rfl rfl ?_
  refine gx_ci (nx := 13) (S2 := [(0, (a : Int)), (2, 20)]) (c_237 (r := 20) (n := 7) (ty_20 hT) (by decide) (by decide) (k := a) (by omega)) r_255_10 rfl rfl rfl rfl rfl rfl rfl (by decide) rfl (fun x10 n10 q10 => ?_)
  have e_x10 := q10.1
  obtain rfl := e_x10.symm
  obtain rfl := q10.2.symm
  show GX T 2 255 13 [(2, 13), (0, (a : Int)), (0, (b : Int))] [(0, (m 20 a)), (0, (a : Int)), (2, 20)] m (RV (fun m1 => m1 20 a = ior (m 20 a) (ishl 1 (b : Int)) ∧ m1 20 b = ior (m 20 b) (ishl 1 (a : Int)) ∧ m1 13 5 = (c : Int) + 1 ∧ (∀ p : Nat, ¬ p = a → ¬ p = b → m1 20 p = m 20 p) ∧ ∀ o i : Nat, ¬ o = 20 → ¬ (o = 13 ∧ i = 5) → m1 o i = m o i))
  refine gx_st (L' := [(2, 13), (0, (a : Int)), (0, (b : Int))]) (S' := [(0, 1), (0, (m 20 a)), (0, (a : Int)), (2, 20)]) r_255_13 rfl rfl rfl ?_
  refine gx_st (L' := [(2, 13), (0, (a : Int)), (0, (b : Int))]) (S' := [(0, (b : Int)), (0, 1), (0, (m 20 a)), (0, (a : Int)), (2, 20)]) r_255_14 rfl rfl rfl ?_
  refine gx_st (L' := [(2, 13), (0, (a : Int)), (0, (b : Int))]) (S' := [(0, (ishl 1 (b : Int))), (0, (m 20 a)), (0, (a : Int)), (2, 20)]) r_255_15 rfl rfl rfl ?_
  refine gx_st (L' := [(2, 13), (0, (a : Int)), (0, (b : Int))]) (S' := [(0, (ior (m 20 a) ((ishl 1 (b : Int))))), (0, (a : Int)), (2, 20)]) r_255_16 rfl rfl rfl ?_
  refine gx_cv (nx := 20) (S2 := []) (c_238 (r := 20) (n := 7) (ty_20 hT) (by decide) (by decide) (k := a) (by omega) ((ior (m 20 a) ((ishl 1 (b : Int)))))) r_255_17 rfl rfl rfl rfl rfl rfl rfl (by decide) rfl (fun n17 q17 => ?_)
  have p_n17 : PinR n17 := by rw [q17]; exact PinR_up hp rfl
  refine gx_st (L' := [(2, 13), (0, (a : Int)), (0, (b : Int))]) (S' := [(2, 13)]) r_255_20 rfl rfl rfl ?_
  refine gx_gf (x := 20) 2 r_255_21 (rfl) (ty_13 hT) ⟨by decide, rfl, by decide, by decide⟩ rfl (fun _ => by omega) (pin_at p_n17 (t := 20) rfl (by decide)) ?_
  refine gx_st (L' := [(2, 13), (0, (a : Int)), (0, (b : Int))]) (S' := [(0, (b : Int)), (2, 20)]) r_255_24 rfl rfl rfl ?_
  refine gx_st (L' := [(2, 13), (0, (a : Int)), (0, (b : Int))]) (S' := [(2, 13), (0, (b : Int)), (2, 20)]) r_255_25 rfl rfl rfl ?_
  refine gx_gf (x := 20) 2 r_255_26 (rfl) (ty_13 hT) ⟨by decide, rfl, by decide, by decide⟩ rfl (fun _ => by omega) (pin_at p_n17 (t := 20) rfl (by decide)) ?_
  refine gx_st (L' := [(2, 13), (0, (a : Int)), (0, (b : Int))]) (S' := [(0, (b : Int)), (2, 20), (0, (b : Int)), (2, 20)]) r_255_29 rfl rfl rfl ?_
  refine gx_ci (nx := 33) (S2 := [(0, (b : Int)), (2, 20)]) (c_237 (r := 20) (n := 7) (ty_20 hT) (by decide) (by decide) (k := b) (by omega)) r_255_30 rfl rfl rfl rfl rfl rfl rfl (by decide) rfl (fun x30 n30 q30 => ?_)
  have e_x30 := q30.1.trans (by rw [q17, nu_ne (fun z => hab z.symm)])
  obtain rfl := e_x30.symm
  obtain rfl := q30.2.symm
  show GX T 2 255 33 [(2, 13), (0, (a : Int)), (0, (b : Int))] [(0, (m 20 b)), (0, (b : Int)), (2, 20)] n17 (RV (fun m1 => m1 20 a = ior (m 20 a) (ishl 1 (b : Int)) ∧ m1 20 b = ior (m 20 b) (ishl 1 (a : Int)) ∧ m1 13 5 = (c : Int) + 1 ∧ (∀ p : Nat, ¬ p = a → ¬ p = b → m1 20 p = m 20 p) ∧ ∀ o i : Nat, ¬ o = 20 → ¬ (o = 13 ∧ i = 5) → m1 o i = m o i))
  refine gx_st (L' := [(2, 13), (0, (a : Int)), (0, (b : Int))]) (S' := [(0, 1), (0, (m 20 b)), (0, (b : Int)), (2, 20)]) r_255_33 rfl rfl rfl ?_
  refine gx_st (L' := [(2, 13), (0, (a : Int)), (0, (b : Int))]) (S' := [(0, (a : Int)), (0, 1), (0, (m 20 b)), (0, (b : Int)), (2, 20)]) r_255_34 rfl rfl rfl ?_
  refine gx_st (L' := [(2, 13), (0, (a : Int)), (0, (b : Int))]) (S' := [(0, (ishl 1 (a : Int))), (0, (m 20 b)), (0, (b : Int)), (2, 20)]) r_255_35 rfl rfl rfl ?_
  refine gx_st (L' := [(2, 13), (0, (a : Int)), (0, (b : Int))]) (S' := [(0, (ior (m 20 b) ((ishl 1 (a : Int))))), (0, (b : Int)), (2, 20)]) r_255_36 rfl rfl rfl ?_
  refine gx_cv (nx := 40) (S2 := []) (c_238 (r := 20) (n := 7) (ty_20 hT) (by decide) (by decide) (k := b) (by omega) ((ior (m 20 b) ((ishl 1 (a : Int)))))) r_255_37 rfl rfl rfl rfl rfl rfl rfl (by decide) rfl (fun n37 q37 => ?_)
  have p_n37 : PinR n37 := by rw [q37]; exact PinR_up p_n17 rfl
  refine gx_st (L' := [(2, 13), (0, (a : Int)), (0, (b : Int))]) (S' := [(2, 13)]) r_255_40 rfl rfl rfl ?_
  refine gx_st (L' := [(2, 13), (0, (a : Int)), (0, (b : Int))]) (S' := [(2, 13), (2, 13)]) r_255_41 rfl rfl rfl ?_
  refine gx_gf (x := (c : Int)) 0 r_255_42 (rfl) (ty_13 hT) ⟨by decide, rfl, by decide, by decide⟩ rfl (fun z => absurd z (by decide)) ((by rw [q37, nu_no (by decide), q17, nu_no (by decide)]; exact hc)) ?_
  refine gx_st (L' := [(2, 13), (0, (a : Int)), (0, (b : Int))]) (S' := [(0, 1), (0, (c : Int)), (2, 13)]) r_255_45 rfl rfl rfl ?_
  refine gx_ar (L' := [(2, 13), (0, (a : Int)), (0, (b : Int))]) (S' := [(2, 13)]) (t := 0) (e := w32 ((c : Int) + 1)) (z := (c : Int) + 1) r_255_46 rfl rfl rfl (w32_eq (by omega) (by omega) (by omega)) ?_
  obtain ⟨m1, e_m1⟩ : ∃ z, z = nu_up n37 13 5 ((c : Int) + 1) := ⟨_, rfl⟩
  refine gx_pf (x := (c : Int) + 1) 0 r_255_47 (rfl) (ty_13 hT) ⟨by decide, rfl, by decide, by decide⟩ rfl (fun z => absurd z (by decide)) (fun z => absurd z (by decide)) e_m1.symm ?_
  refine gx_rt r_255_50 rfl rfl ⟨rfl, ?_, ?_, ?_, fun p h1 h2 => ?_, fun o i h1 h2 => ?_⟩
  · rw [e_m1, nu_no (by decide), q37, nu_ne hab, q17, nu_at]
  · rw [e_m1, nu_no (by decide), q37, nu_at]
  · rw [e_m1, nu_at]
  · rw [e_m1, nu_no (by decide), q37, nu_ne h2, q17, nu_ne h1]
  · rw [e_m1]
    by_cases e : o = 13
    · subst e; rw [nu_ne (fun z => h2 ⟨rfl, z⟩), q37, nu_no h1, q17, nu_no h1]
    · rw [nu_no e, q37, nu_no h1, q17, nu_no h1]
set_option maxRecDepth 100000 in
theorem cu_190 : conL[190]? = some (255, [(2, 13, 0), (0, (-2147483648), 2147483647), (0, (-2147483648), 2147483647)], (9, 0, 0), [13005, 20999], 1) := rfl
theorem pu_190 (hT : TT T) : ConH T (255, [(2, 13, 0), (0, (-2147483648), 2147483647), (0, (-2147483648), 2147483647)], (9, 0, 0), [13005, 20999], 1) := fun args m => ((all_con hT 190).1 (by decide)) _ cu_190 args m
theorem path_eq {c : Nat} {n0 v1 : Int} {r : PR} (hv : v1 ≤ 99998) (h : ∀ g, r = .ok g → g.2 0 = n0 ∧ g.2 (11 + 2 * c) = v1) : pNumU X 0 (n0 - 1) v1 r = pPl X (r.bind fun g => if nK X g.1 = 2 ∧ nV X g.1 = g.2 (11 + 2 * c) then .error (2, (nS X g.1 : Int)) else .ok g) := by
  cases r with
  | error e => rfl
  | ok g =>
    obtain ⟨h1, h2⟩ := h g rfl
    show (if ¬ nK X g.1 = 2 then (.error (1, (nS X g.1 : Int)) : PV) else if 0 ≤ nV X g.1 ∧ nV X g.1 ≤ n0 - 1 ∧ ¬ nV X g.1 = v1 then .ok (nV X g.1, nE X g.1, g.2) else .error (2, (nS X g.1 : Int))) = pPl X (if nK X g.1 = 2 ∧ nV X g.1 = g.2 (11 + 2 * c) then .error (2, (nS X g.1 : Int)) else .ok g)
    rw [h2]
    by_cases hk : nK X g.1 = 2
    · rw [if_neg (not_not_intro hk)]
      by_cases e : nV X g.1 = v1
      · rw [if_neg (show ¬ (0 ≤ nV X g.1 ∧ nV X g.1 ≤ n0 - 1 ∧ ¬ nV X g.1 = v1) from fun z => z.2.2 e), if_pos (show nK X g.1 = 2 ∧ nV X g.1 = v1 from ⟨hk, e⟩)]; rfl
      · rw [if_neg (show ¬ (nK X g.1 = 2 ∧ nV X g.1 = v1) from fun z => e z.2)]
        show _ = (if ¬ nK X g.1 = 2 then (.error (1, (nS X g.1 : Int)) : PV) else if 0 ≤ nV X g.1 ∧ nV X g.1 ≤ g.2 0 - 1 then .ok (nV X g.1, nE X g.1, g.2) else .error (2, (nS X g.1 : Int)))
        rw [if_neg (not_not_intro hk), h1]
        by_cases y : 0 ≤ nV X g.1 ∧ nV X g.1 ≤ n0 - 1
        · rw [if_pos (show (0 ≤ nV X g.1 ∧ nV X g.1 ≤ n0 - 1 ∧ ¬ nV X g.1 = v1) from ⟨y.1, y.2, e⟩), if_pos y]
        · rw [if_neg (show ¬ (0 ≤ nV X g.1 ∧ nV X g.1 ≤ n0 - 1 ∧ ¬ nV X g.1 = v1) from fun z => y ⟨z.1, z.2.1⟩), if_neg y]
    · rw [if_pos hk, if_neg (show ¬ (nK X g.1 = 2 ∧ nV X g.1 = v1) from fun z => hk z.1)]
      show _ = (if ¬ nK X g.1 = 2 then (.error (1, (nS X g.1 : Int)) : PV) else if 0 ≤ nV X g.1 ∧ nV X g.1 ≤ g.2 0 - 1 then .ok (nV X g.1, nE X g.1, g.2) else .error (2, (nS X g.1 : Int)))
      rw [if_pos hk]
theorem pl_eq {n0 : Int} {r : PR} (h : ∀ g, r = .ok g → g.2 0 = n0) : pPl X r = pNum X 0 (n0 - 1) r := by
  cases r with
  | error e => rfl
  | ok g => show pNum X 0 (g.2 0 - 1) (.ok g) = _; rw [h g rfl]
theorem wb_p {w : Wd} (h : WB w) {c j : Nat} (hc : w 4 = (c : Int)) (hm : c < 10) (hj : j = 11 + 2 * c ∨ j = 12 + 2 * c) (v : Int) : WB (upw w j v) := by
  obtain ⟨b0, b4, b5, b6, b7, bp⟩ := h
  refine ⟨?_, ?_, ?_, ?_, ?_, fun k k1 k2 => ?_⟩
  · rw [upw_ne (by omega)]; exact b0
  · rw [upw_ne (by omega)]; exact b4
  · rw [upw_ne (by omega)]; exact b5
  · rw [upw_ne (by omega)]; exact b6
  · rw [upw_ne (by omega)]; exact b7
  · rw [upw_ne (by omega), hc] at k2
    rw [upw_ne (by omega), upw_ne (by omega), upw_ne (by omega)]
    exact bp k k1 (by omega)
theorem BS_of {o : Nat} {w : Wd} (h : IsD m o w) : BS (m (o + 7)) w := h.2.2.2.2.2.2.2.2.2.2.2.2.2
theorem isd_pc {m1 : Mm} {w : Wd} (h : IsD m 13 w) {c : Nat} (hc : w 4 = (c : Int)) (hm : c < 10) (h5 : m1 13 5 = (c : Int) + 1) (hf : ∀ o i : Nat, ¬ o = 20 → ¬ (o = 13 ∧ i = 5) → m1 o i = m o i) (hb : BS (m1 20) (upw w 4 ((c : Int) + 1))) : IsD m1 13 (upw w 4 ((c : Int) + 1)) := by
  refine ⟨((hf 13 0 (by decide) (by decide)).trans h.1).trans (upw_ne (by decide)).symm, ((hf 13 1 (by decide) (by decide)).trans h.2.1).trans (upw_ne (by decide)).symm, ((hf 13 2 (by decide) (by decide)).trans h.2.2.1).trans (upw_ne (by decide)).symm, ((hf 13 3 (by decide) (by decide)).trans h.2.2.2.1).trans (upw_ne (by decide)).symm, ((hf 13 4 (by decide) (by decide)).trans h.2.2.2.2.1).trans (upw_ne (by decide)).symm, h5.trans upw_at.symm, ((hf 13 6 (by decide) (by decide)).trans h.2.2.2.2.2.2.1).trans (upw_ne (by decide)).symm, ((hf 13 7 (by decide) (by decide)).trans h.2.2.2.2.2.2.2.1).trans (upw_ne (by decide)).symm, ((hf 13 8 (by decide) (by decide)).trans h.2.2.2.2.2.2.2.2.1).trans (upw_ne (by decide)).symm, ((hf 13 9 (by decide) (by decide)).trans h.2.2.2.2.2.2.2.2.2.1).trans (upw_ne (by decide)).symm, fun t h1 h2 => by
    have h3 : (t : Int) < w 5 := by rw [upw_ne (by decide)] at h2; exact h2
    exact ⟨((hf _ t (by decide) (by omega)).trans (h.2.2.2.2.2.2.2.2.2.2.1 t h1 h3).1).trans (upw_ne (by omega)).symm, ((hf _ t (by decide) (by omega)).trans (h.2.2.2.2.2.2.2.2.2.2.1 t h1 h3).2).trans (upw_ne (by omega)).symm⟩, fun t h1 h2 => by
    have h3 : (t : Int) < w 6 := by rw [upw_ne (by decide)] at h2; exact h2
    exact ⟨((hf _ t (by decide) (by omega)).trans (h.2.2.2.2.2.2.2.2.2.2.2.1 t h1 h3).1).trans (upw_ne (by omega)).symm, ((hf _ t (by decide) (by omega)).trans (h.2.2.2.2.2.2.2.2.2.2.2.1 t h1 h3).2).trans (upw_ne (by omega)).symm⟩, fun t h1 h2 => by
    have h3 : (t : Int) < w 7 := by rw [upw_ne (by decide)] at h2; exact h2
    exact ⟨((hf _ t (by decide) (by omega)).trans (h.2.2.2.2.2.2.2.2.2.2.2.2.1 t h1 h3).1).trans (upw_ne (by omega)).symm, ((hf _ t (by decide) (by omega)).trans (h.2.2.2.2.2.2.2.2.2.2.2.2.1 t h1 h3).2).trans (upw_ne (by omega)).symm⟩, hb⟩
theorem d_302 (hT : TT T) (hx : XOK X) {p : Nat} {w : Wd} (h : CD (fun m w => IsD m 13 w ∧ WB w) X m (.ok (p, w))) {c : Nat} (hc : w 4 = (c : Int)) (hcm : c < 10) : GX T 5 302 0 [(2, 2), (2, 13), (9, 0), (9, 0)] [] m (RV (fun m1 => CD (fun m w => IsD m 13 w ∧ WB w) X m1 (pPath X c (.ok (nE X p, w))) ∧ Fr [2002, 2003, 2004, 2005, 2006, 13001, 13002, 13003, 13004, 13005, 13006, 13007, 13008, 13009, 14999, 15999, 16999, 17999, 18999, 19999, 20999, 21999] m m1)) := by
  have hpw := h.2 (p, w) rfl
  have c5 : m 13 5 = (c : Int) := hpw.1.2.2.2.2.2.1.trans hc
  obtain ⟨n0, e0⟩ : ∃ n0, w 0 = n0 := ⟨_, rfl⟩
  have c1 : m 13 1 = n0 := hpw.1.2.1.trans e0
  have bn0 : 0 ≤ w 0 ∧ w 0 ≤ 7 := hpw.2.1
  rw [e0] at bn0
  have h0 := h
  have h : CD (fun m w => (IsD m 13 w ∧ WB w ∧ w 4 = (c : Int)) ∧ w 0 = n0) X m (.ok (p, w)) := ⟨h0.1, fun g hg => by cases hg; exact ⟨⟨hpw.1, hpw.2, hc⟩, e0⟩⟩
  refine gx_st (L' := [(2, 2), (2, 13), (9, 0), (9, 0)]) (S' := [(2, 2)]) r_302_0 rfl rfl rfl ?_
  refine gx_st (L' := [(2, 2), (2, 13), (9, 0), (9, 0)]) (S' := [(2, 13), (2, 2)]) r_302_1 rfl rfl rfl ?_
  refine gx_gf (x := (c : Int)) 0 r_302_2 (rfl) (ty_13 hT) ⟨by decide, rfl, by decide, by decide⟩ rfl (fun z => absurd z (by decide)) (c5) ?_
  refine gx_st (L' := [(2, 2), (2, 13), (9, 0), (9, 0)]) (S' := [(0, 10), (0, (c : Int)), (2, 2)]) r_302_5 rfl rfl rfl ?_
  refine gx_cv (nx := 10) (S2 := []) (k_306n hT (by omega)) r_302_7 rfl rfl rfl rfl rfl (rcv_v rfl (ty_2 hT) (by decide) rfl (by decide)) rfl (by decide) rfl (fun n7 q7 => ?_)
  obtain rfl := q7.symm
  refine gx_st (L' := [(2, 2), (2, 13), (9, 0), (9, 0)]) (S' := [(2, 2)]) r_302_10 rfl rfl rfl ?_
  refine gx_cv (nx := 14) (S2 := []) (d_312 (P := (fun m w => (IsD m 13 w ∧ WB w ∧ w 4 = (c : Int)) ∧ w 0 = n0)) (fun m m2 w e h => ⟨⟨IsD_eq h.1.1 (fun p i _ _ hi => e p i (by omega) (by omega) hi), h.1.2⟩, h.2⟩) hT hx h) r_302_11 rfl rfl rfl rfl rfl (rcv_v rfl (ty_2 hT) (by decide) rfl (by decide)) rfl (by decide) rfl (fun n11 q11 => ?_)
  have f_n11 : Fr [2002, 2003, 2004, 2005, 2006, 13001, 13002, 13003, 13004, 13005, 13006, 13007, 13008, 13009, 14999, 15999, 16999, 17999, 18999, 19999, 20999, 21999] m n11 := Fr_tr Fr_rf (Fr_sub q11.2 (by decide))
  have c5_n11 : n11 13 5 = (c : Int) := (q11.2 13 5 rfl).trans c5
  have c1_n11 : n11 13 1 = n0 := (q11.2 13 1 rfl).trans c1
  refine gx_st (L' := [(2, 2), (2, 13), (9, 0), (9, 0)]) (S' := [(2, 2)]) r_302_14 rfl rfl rfl ?_
  refine gx_st (L' := [(2, 2), (2, 13), (9, 0), (9, 0)]) (S' := [(0, 0), (2, 2)]) r_302_15 rfl rfl rfl ?_
  refine gx_st (L' := [(2, 2), (2, 13), (9, 0), (9, 0)]) (S' := [(2, 13), (0, 0), (2, 2)]) r_302_16 rfl rfl rfl ?_
  refine gx_gf (x := n0) 0 r_302_17 (rfl) (ty_13 hT) ⟨by decide, rfl, by decide, by decide⟩ rfl (fun z => absurd z (by decide)) (c1_n11) ?_
  refine gx_st (L' := [(2, 2), (2, 13), (9, 0), (9, 0)]) (S' := [(0, 1), (0, n0), (0, 0), (2, 2)]) r_302_20 rfl rfl rfl ?_
  refine gx_ar (L' := [(2, 2), (2, 13), (9, 0), (9, 0)]) (S' := [(0, 0), (2, 2)]) (t := 0) (e := w32 (n0 - 1)) (z := n0 - 1) r_302_21 rfl rfl rfl (w32_eq (by omega) (by omega) (by omega)) ?_
  refine gx_st (L' := [(2, 2), (2, 13), (9, 0), (9, 0)]) (S' := [(0, (-1)), (0, n0 - 1), (0, 0), (2, 2)]) r_302_22 rfl rfl rfl ?_
  refine gx_ci (nx := 26) (S2 := []) (d_310 (P := (fun m w => (IsD m 13 w ∧ WB w ∧ w 4 = (c : Int)) ∧ w 0 = n0)) (fun m m2 w e h => ⟨⟨IsD_eq h.1.1 (fun p i _ _ hi => e p i (by omega) (by omega) hi), h.1.2⟩, h.2⟩) hT hx q11.1.1 (lo := 0) (hi := n0 - 1) (u := -1) (by omega) (by decide) q11.1.2) r_302_23 rfl rfl rfl rfl rfl (rcv_v rfl (ty_2 hT) (by decide) rfl (by decide)) rfl (by decide) rfl (fun x23 n23 q23 => ?_)
  show GX T 5 302 26 [(2, 2), (2, 13), (9, 0), (9, 0)] [(0, x23)] n23 (RV (fun m1 => CD (fun m w => IsD m 13 w ∧ WB w) X m1 (pPath X c (.ok (nE X p, w))) ∧ Fr [2002, 2003, 2004, 2005, 2006, 13001, 13002, 13003, 13004, 13005, 13006, 13007, 13008, 13009, 14999, 15999, 16999, 17999, 18999, 19999, 20999, 21999] m m1))
  have v_n23 := q23.1.2
  have cv_n23 := CV_rng q23.1.1
  have cc_n23 := CV_cc cv_n23
  have cd_n23 := CD_put (P' := (fun m w => ((IsD m 13 w ∧ WB w ∧ w 4 = (c : Int)) ∧ w 0 = n0) ∧ w (11 + 2 * c) = x23 ∧ 0 ≤ x23 ∧ x23 ≤ n0 - 1)) (i := 11 + 2 * c) cv_n23 cc_n23 (fun i => rfl) (fun w h => ⟨⟨⟨isd_p h.1.1.1 h.1.1.2.2 (by omega) (Or.inl rfl) _, wb_p h.1.1.2.1 h.1.1.2.2 (by omega) (Or.inl rfl) _, (upw_ne (by omega)).trans h.1.1.2.2⟩, (upw_ne (by omega)).trans h.1.2⟩, upw_at, h.2.1, h.2.2.1⟩)
  have f_n23 : Fr [2002, 2003, 2004, 2005, 2006, 13001, 13002, 13003, 13004, 13005, 13006, 13007, 13008, 13009, 14999, 15999, 16999, 17999, 18999, 19999, 20999, 21999] m n23 := Fr_tr f_n11 (Fr_sub q23.2 (by decide))
  have c5_n23 : n23 13 5 = (c : Int) := (q23.2 13 5 rfl).trans c5_n11
  have c1_n23 : n23 13 1 = n0 := (q23.2 13 1 rfl).trans c1_n11
  refine gx_st (L' := [(2, 2), (2, 13), (0, x23), (9, 0)]) (S' := []) r_302_26 rfl rfl rfl ?_
  refine gx_st (L' := [(2, 2), (2, 13), (0, x23), (9, 0)]) (S' := [(2, 2)]) r_302_27 rfl rfl rfl ?_
  refine gx_st (L' := [(2, 2), (2, 13), (0, x23), (9, 0)]) (S' := [(2, 1000010), (2, 2)]) r_302_28 rfl rfl rfl ?_
  refine gx_cv (nx := 33) (S2 := []) (d_309 (P := (fun m w => ((IsD m 13 w ∧ WB w ∧ w 4 = (c : Int)) ∧ w 0 = n0) ∧ w (11 + 2 * c) = x23 ∧ 0 ≤ x23 ∧ x23 ≤ n0 - 1)) (fun m m2 w e h => ⟨⟨⟨IsD_eq h.1.1.1 (fun p i _ _ hi => e p i (by omega) (by omega) hi), h.1.1.2⟩, h.1.2⟩, h.2⟩) hT hx cd_n23 (q := 10) (by decide) rfl sl_10) r_302_30 rfl rfl rfl rfl rfl (rcv_v rfl (ty_2 hT) (by decide) rfl (by decide)) rfl (by decide) rfl (fun n30 q30 => ?_)
  have f_n30 : Fr [2002, 2003, 2004, 2005, 2006, 13001, 13002, 13003, 13004, 13005, 13006, 13007, 13008, 13009, 14999, 15999, 16999, 17999, 18999, 19999, 20999, 21999] m n30 := Fr_tr f_n23 (Fr_sub q30.2 (by decide))
  have c5_n30 : n30 13 5 = (c : Int) := (q30.2 13 5 rfl).trans c5_n23
  have c1_n30 : n30 13 1 = n0 := (q30.2 13 1 rfl).trans c1_n23
  refine gx_st (L' := [(2, 2), (2, 13), (0, x23), (9, 0)]) (S' := [(2, 2)]) r_302_33 rfl rfl rfl ?_
  refine gx_st (L' := [(2, 2), (2, 13), (0, x23), (9, 0)]) (S' := [(0, 0), (2, 2)]) r_302_34 rfl rfl rfl ?_
  refine gx_st (L' := [(2, 2), (2, 13), (0, x23), (9, 0)]) (S' := [(2, 13), (0, 0), (2, 2)]) r_302_35 rfl rfl rfl ?_
  refine gx_gf (x := n0) 0 r_302_36 (rfl) (ty_13 hT) ⟨by decide, rfl, by decide, by decide⟩ rfl (fun z => absurd z (by decide)) (c1_n30) ?_
  refine gx_st (L' := [(2, 2), (2, 13), (0, x23), (9, 0)]) (S' := [(0, 1), (0, n0), (0, 0), (2, 2)]) r_302_39 rfl rfl rfl ?_
  refine gx_ar (L' := [(2, 2), (2, 13), (0, x23), (9, 0)]) (S' := [(0, 0), (2, 2)]) (t := 0) (e := w32 (n0 - 1)) (z := n0 - 1) r_302_40 rfl rfl rfl (w32_eq (by omega) (by omega) (by omega)) ?_
  refine gx_st (L' := [(2, 2), (2, 13), (0, x23), (9, 0)]) (S' := [(0, x23), (0, n0 - 1), (0, 0), (2, 2)]) r_302_41 rfl rfl rfl ?_
  have pe := path_eq (X := X) (c := c) (n0 := n0) (v1 := x23) (by omega) (fun g hg => ⟨(q30.1.2 g hg).1.2, (q30.1.2 g hg).2.1⟩)
  refine gx_ci (nx := 45) (S2 := []) (d_310 (P := (fun m w => ((IsD m 13 w ∧ WB w ∧ w 4 = (c : Int)) ∧ w 0 = n0) ∧ w (11 + 2 * c) = x23 ∧ 0 ≤ x23 ∧ x23 ≤ n0 - 1)) (fun m m2 w e h => ⟨⟨⟨IsD_eq h.1.1.1 (fun p i _ _ hi => e p i (by omega) (by omega) hi), h.1.1.2⟩, h.1.2⟩, h.2⟩) hT hx q30.1.1 (lo := 0) (hi := n0 - 1) (u := x23) (by omega) (by omega) q30.1.2) r_302_42 rfl rfl rfl rfl rfl (rcv_v rfl (ty_2 hT) (by decide) rfl (by decide)) rfl (by decide) rfl (fun x42 n42 q42 => ?_)
  show GX T 5 302 45 [(2, 2), (2, 13), (0, x23), (9, 0)] [(0, x42)] n42 (RV (fun m1 => CD (fun m w => IsD m 13 w ∧ WB w) X m1 (pPath X c (.ok (nE X p, w))) ∧ Fr [2002, 2003, 2004, 2005, 2006, 13001, 13002, 13003, 13004, 13005, 13006, 13007, 13008, 13009, 14999, 15999, 16999, 17999, 18999, 19999, 20999, 21999] m m1))
  have v_n42 := q42.1.2
  have cv_n42 := CV_rng q42.1.1
  have cc_n42 := CV_cc cv_n42
  have cd_n42 := CD_put (P' := (fun m w => (((IsD m 13 w ∧ WB w ∧ w 4 = (c : Int)) ∧ w 0 = n0) ∧ w (11 + 2 * c) = x23 ∧ 0 ≤ x23 ∧ x23 ≤ n0 - 1) ∧ w (12 + 2 * c) = x42 ∧ 0 ≤ x42 ∧ x42 ≤ n0 - 1 ∧ ¬ x42 = x23)) (i := 12 + 2 * c) cv_n42 cc_n42 (fun i => rfl) (fun w h => ⟨⟨⟨⟨isd_p h.1.1.1.1 h.1.1.1.2.2 (by omega) (Or.inr rfl) _, wb_p h.1.1.1.2.1 h.1.1.1.2.2 (by omega) (Or.inr rfl) _, (upw_ne (by omega)).trans h.1.1.1.2.2⟩, (upw_ne (by omega)).trans h.1.1.2⟩, (upw_ne (by omega)).trans h.1.2.1, h.1.2.2⟩, upw_at, h.2⟩)
  rw [pe] at cd_n42
  have f_n42 : Fr [2002, 2003, 2004, 2005, 2006, 13001, 13002, 13003, 13004, 13005, 13006, 13007, 13008, 13009, 14999, 15999, 16999, 17999, 18999, 19999, 20999, 21999] m n42 := Fr_tr f_n30 (Fr_sub q42.2 (by decide))
  have c5_n42 : n42 13 5 = (c : Int) := (q42.2 13 5 rfl).trans c5_n30
  have c1_n42 : n42 13 1 = n0 := (q42.2 13 1 rfl).trans c1_n30
  refine gx_st (L' := [(2, 2), (2, 13), (0, x23), (0, x42)]) (S' := []) r_302_45 rfl rfl rfl ?_
  have ppath : (pSet (12 + 2 * c) (pPl X ((pNeed X 10 (pSet (11 + 2 * c) (pNumU X 0 (n0 - 1) (-1) (pAdv X (.ok (p, w)))))).bind fun g => if nK X g.1 = 2 ∧ nV X g.1 = g.2 (11 + 2 * c) then .error (2, (nS X g.1 : Int)) else .ok g))).bind (fun g => .ok (g.1, upw g.2 4 ((c : Int) + 1))) = pPath X c (.ok (nE X p, w)) := by
    unfold pPath
    rw [numU_eq (by decide), pl_eq (n0 := n0) (r := .ok (nE X p, w)) (fun g hg => by cases hg; exact e0)]
    rfl
  rw [← ppath]
  have cdz := cd_n42
  revert cdz
  generalize pSet (12 + 2 * c) (pPl X ((pNeed X 10 (pSet (11 + 2 * c) (pNumU X 0 (n0 - 1) (-1) (pAdv X (.ok (p, w)))))).bind fun g => if nK X g.1 = 2 ∧ nV X g.1 = g.2 (11 + 2 * c) then .error (2, (nS X g.1 : Int)) else .ok g)) = r9
  intro cdz
  cases r9 with
  | error e =>
    refine gx_st (L' := [(2, 2), (2, 13), (0, x23), (0, x42)]) (S' := [(2, 2)]) r_302_46 rfl rfl rfl ?_
    refine gx_gf (x := e.1) 0 r_302_47 (rfl) (ty_2 hT) ⟨by decide, rfl, by decide, by decide⟩ rfl (fun z => absurd z (by decide)) (cdz.1.2.1) ?_
    refine gx_i0 (P := ¬ e.1 = 0) r_302_50 (rfl) (fun h50 => ?_) (fun h50 => ?_)
    · exact gx_rt r_302_59 rfl rfl ⟨rfl, ⟨cdz.1, fun g hg => by cases hg⟩, f_n42⟩
    · have h50 := Decidable.not_not.mp h50
      exact absurd h50 cdz.1.2.2.2.1
  | ok g =>
    refine gx_st (L' := [(2, 2), (2, 13), (0, x23), (0, x42)]) (S' := [(2, 2)]) r_302_46 rfl rfl rfl ?_
    refine gx_gf (x := 0) 0 r_302_47 (rfl) (ty_2 hT) ⟨by decide, rfl, by decide, by decide⟩ rfl (fun z => absurd z (by decide)) (cdz.1.2.1) ?_
    refine gx_i0 (P := ¬ 0 = 0) r_302_50 (rfl) (fun h50 => ?_) (fun h50 => ?_)
    · omega
    · have h50 := Decidable.not_not.mp h50
      refine gx_st (L' := [(2, 2), (2, 13), (0, x23), (0, x42)]) (S' := [(2, 13)]) r_302_53 rfl rfl rfl ?_
      refine gx_st (L' := [(2, 2), (2, 13), (0, x23), (0, x42)]) (S' := [(0, x23), (2, 13)]) r_302_54 rfl rfl rfl ?_
      refine gx_st (L' := [(2, 2), (2, 13), (0, x23), (0, x42)]) (S' := [(0, x42), (0, x23), (2, 13)]) r_302_55 rfl rfl rfl ?_
      have hz := cdz.2 g rfl
      obtain ⟨a, ha⟩ : ∃ a : Nat, x23 = (a : Int) := ⟨x23.toNat, by omega⟩
      obtain ⟨b, hb⟩ : ∃ b : Nat, x42 = (b : Int) := ⟨x42.toNat, by omega⟩
      rw [ha, hb]
      refine gx_cv (nx := 59) (S2 := []) (gx_av (z_255 hT cdz.1.1.2.1 (a := a) (b := b) (c := c) (by omega) (by omega) (by omega) c5_n42 hcm) (gx_hv (args := [(2, 13), (0, (a : Int)), (0, (b : Int))]) (pu_190 hT) ⟨gq_o13c, gq_any (by omega) (by omega), gq_any (by omega) (by omega), trivial⟩ cdz.1.1.1 rfl)) r_302_56 rfl rfl rfl rfl rfl (rcv_v rfl (ty_13 hT) (by decide) rfl (by decide)) rfl (by decide) rfl (fun n56 q56 => ?_)
      obtain ⟨⟨z1, z2, z3, z4, z5⟩, zg, zf⟩ := q56
      have ccn : CC X n56 := CC_fr cdz.1.1 zf zg (by decide) (by decide) (by decide)
      have hb7 := hz.1.1.1.2.1.2.1
      have cdn := CD_up (P := (fun m w => (((IsD m 13 w ∧ WB w ∧ w 4 = (c : Int)) ∧ w 0 = n0) ∧ w (11 + 2 * c) = x23 ∧ 0 ≤ x23 ∧ x23 ≤ n0 - 1) ∧ w (12 + 2 * c) = x42 ∧ 0 ≤ x42 ∧ x42 ≤ n0 - 1 ∧ ¬ x42 = x23)) (P' := (fun m w => IsD m 13 w ∧ WB w)) (r := .ok g) (i := 4) (x := (c : Int) + 1) cdz ccn (fun i => z5 2 i (by decide) (by omega)) (fun w h => ?_)
      · exact gx_rt r_302_59 rfl rfl ⟨rfl, cdn, Fr_tr f_n42 (Fr_sub zf (by decide))⟩
      · have hc4 := h.1.1.1.2.2
        have hi := h.1.1.1.1
        have hbb := h.1.1.1.2.1
        have e1 : w (11 + 2 * c) = (a : Int) := h.1.2.1.trans ha
        have e2 : w (12 + 2 * c) = (b : Int) := h.2.1.trans hb
        have hbs := BS_path (f' := n56 20) (BS_of hi) hc4 hcm (by omega) (by omega) (by omega) e1 e2 z1 z2 z4
        refine ⟨isd_pc hi hc4 hcm z3 z5 hbs, ?_⟩
        obtain ⟨b0, b4, b5, b6, b7, bp⟩ := hbb
        refine ⟨?_, ?_, ?_, ?_, ?_, fun k k1 k2 => ?_⟩
        · rw [upw_ne (by decide)]; exact b0
        · rw [upw_at]; omega
        · rw [upw_ne (by decide)]; exact b5
        · rw [upw_ne (by decide)]; exact b6
        · rw [upw_ne (by decide)]; exact b7
        · rw [upw_at] at k2
          rw [upw_ne (by omega), upw_ne (by omega), upw_ne (by omega)]
          by_cases e : k = c
          · rw [e, e1, e2, h.1.1.2]
            omega
          · exact bp k k1 (by omega)
end TEXTC
