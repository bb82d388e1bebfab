/-! the text read by the class -/
theorem r_253_0 : row 253 0 = some (.aload_n 0, 1, 0, 0, 0, 0) := rfl
theorem r_253_1 : row 253 1 = some (.iconst 0, 2, 0, 0, 0, 0) := rfl
theorem r_253_2 : row 253 2 = some (.putfield 9, 5, 3, 0, 0, 1066) := rfl
theorem r_253_5 : row 253 5 = some (.aload_n 0, 6, 0, 0, 0, 0) := rfl
theorem r_253_6 : row 253 6 = some (.iconst 0, 7, 0, 0, 0, 0) := rfl
theorem r_253_7 : row 253 7 = some (.putfield 15, 10, 3, 1, 0, 1069) := rfl
theorem r_253_10 : row 253 10 = some (.aload_n 0, 11, 0, 0, 0, 0) := rfl
theorem r_253_11 : row 253 11 = some (.iconst 0, 12, 0, 0, 0, 0) := rfl
theorem r_253_12 : row 253 12 = some (.putfield 18, 15, 3, 2, 0, 1073) := rfl
theorem r_253_15 : row 253 15 = some (.aload_n 0, 16, 0, 0, 0, 0) := rfl
theorem r_253_16 : row 253 16 = some (.iconst 0, 17, 0, 0, 0, 0) := rfl
theorem r_253_17 : row 253 17 = some (.putfield 21, 20, 3, 3, 0, 1080) := rfl
theorem r_253_20 : row 253 20 = some (.aload_n 0, 21, 0, 0, 0, 0) := rfl
theorem r_253_21 : row 253 21 = some (.iconst 0, 22, 0, 0, 0, 0) := rfl
theorem r_253_22 : row 253 22 = some (.putfield 24, 25, 3, 4, 0, 1084) := rfl
theorem r_253_25 : row 253 25 = some (.aload_n 0, 26, 0, 0, 0, 0) := rfl
theorem r_253_26 : row 253 26 = some (.iconst 0, 27, 0, 0, 0, 0) := rfl
theorem r_253_27 : row 253 27 = some (.putfield 27, 30, 3, 5, 0, 1088) := rfl
theorem r_253_30 : row 253 30 = some (.aload_n 0, 31, 0, 0, 0, 0) := rfl
theorem r_253_31 : row 253 31 = some (.iconst 0, 32, 0, 0, 0, 0) := rfl
theorem r_253_32 : row 253 32 = some (.putfield 30, 35, 3, 6, 0, 1091) := rfl
theorem r_253_35 : row 253 35 = some (.aload_n 0, 36, 0, 0, 0, 0) := rfl
theorem r_253_36 : row 253 36 = some (.iconst 0, 37, 0, 0, 0, 0) := rfl
theorem r_253_37 : row 253 37 = some (.putfield 33, 40, 3, 7, 0, 1095) := rfl
theorem r_253_40 : row 253 40 = some (.aload_n 0, 41, 0, 0, 0, 0) := rfl
theorem r_253_41 : row 253 41 = some (.iconst 0, 42, 0, 0, 0, 0) := rfl
theorem r_253_42 : row 253 42 = some (.putfield 36, 45, 3, 8, 0, 1099) := rfl
theorem r_253_45 : row 253 45 = some (.aload_n 0, 46, 0, 0, 0, 0) := rfl
theorem r_253_46 : row 253 46 = some (.iconst 0, 47, 0, 0, 0, 0) := rfl
theorem r_253_47 : row 253 47 = some (.putfield 39, 50, 3, 9, 0, 1103) := rfl
theorem r_253_50 : row 253 50 = some (.aload_n 0, 51, 0, 0, 0, 0) := rfl
theorem r_253_51 : row 253 51 = some (.getfield 61, 54, 3, 16, 2, 1130) := rfl
theorem r_253_54 : row 253 54 = some (.iconst 0, 55, 0, 0, 0, 0) := rfl
theorem r_253_55 : row 253 55 = some (.invokestatic 67, 58, 240, 2, 10, 2234) := rfl
theorem r_253_58 : row 253 58 = some (.return_, 59, 0, 0, 0, 0) := rfl
theorem r_299_0 : row 299 0 = some (.aload_n 0, 1, 0, 0, 0, 0) := rfl
theorem r_299_1 : row 299 1 = some (.iconst 0, 2, 0, 0, 0, 0) := rfl
theorem r_299_2 : row 299 2 = some (.putfield 19, 5, 8, 2, 0, 1037) := rfl
theorem r_299_5 : row 299 5 = some (.aload_n 0, 6, 0, 0, 0, 0) := rfl
theorem r_299_6 : row 299 6 = some (.iconst (-1), 7, (-1), 0, 0, 0) := rfl
theorem r_299_7 : row 299 7 = some (.putfield 22, 10, 8, 3, 0, 1039) := rfl
theorem r_299_10 : row 299 10 = some (.aload_n 0, 11, 0, 0, 0, 0) := rfl
theorem r_299_11 : row 299 11 = some (.iconst 0, 12, 0, 0, 0, 0) := rfl
theorem r_299_12 : row 299 12 = some (.putfield 31, 15, 8, 6, 0, 1043) := rfl
theorem r_299_15 : row 299 15 = some (.aload_n 1, 16, 0, 0, 0, 0) := rfl
theorem r_299_16 : row 299 16 = some (.invokevirtual 40, 19, 253, 0, 10, 2230) := rfl
theorem r_299_19 : row 299 19 = some (.aload_n 0, 20, 0, 0, 0, 0) := rfl
theorem r_299_20 : row 299 20 = some (.invokevirtual 45, 23, 312, 0, 0, 2237) := rfl
theorem r_299_23 : row 299 23 = some (.iconst 0, 24, 0, 0, 0, 0) := rfl
theorem r_299_24 : row 299 24 = some (.istore_n 2, 25, 0, 0, 0, 0) := rfl
theorem r_299_25 : row 299 25 = some (.iload_n 2, 26, 0, 0, 0, 0) := rfl
theorem r_299_26 : row 299 26 = some (.sipush 800, 29, 800, 0, 0, 0) := rfl
theorem r_299_29 : row 299 29 = some (.if_icmp .gt 38, 32, 67, 0, 0, 0) := rfl
theorem r_299_32 : row 299 32 = some (.aload_n 0, 33, 0, 0, 0, 0) := rfl
theorem r_299_33 : row 299 33 = some (.getfield 25, 36, 8, 4, 0, 1041) := rfl
theorem r_299_36 : row 299 36 = some (.ifCond .eq 31, 39, 67, 0, 0, 0) := rfl
theorem r_299_39 : row 299 39 = some (.aload_n 0, 40, 0, 0, 0, 0) := rfl
theorem r_299_40 : row 299 40 = some (.getfield 19, 43, 8, 2, 0, 1037) := rfl
theorem r_299_43 : row 299 43 = some (.ifCond .ne 24, 46, 67, 0, 0, 0) := rfl
theorem r_299_46 : row 299 46 = some (.aload_n 0, 47, 0, 0, 0, 0) := rfl
theorem r_299_47 : row 299 47 = some (.aload_n 1, 48, 0, 0, 0, 0) := rfl
theorem r_299_48 : row 299 48 = some (.invokevirtual 48, 51, 300, 1, 0, 3008) := rfl
theorem r_299_51 : row 299 51 = some (.aload_n 1, 52, 0, 0, 0, 0) := rfl
theorem r_299_52 : row 299 52 = some (.dup, 53, 0, 0, 0, 0) := rfl
theorem r_299_53 : row 299 53 = some (.getfield 52, 56, 3, 0, 10, 1067) := rfl
theorem r_299_56 : row 299 56 = some (.iconst 1, 57, 1, 0, 0, 0) := rfl
theorem r_299_57 : row 299 57 = some (.iadd, 58, 0, 0, 0, 0) := rfl
theorem r_299_58 : row 299 58 = some (.putfield 52, 61, 3, 0, 10, 1067) := rfl
theorem r_299_61 : row 299 61 = some (.iinc 2 1, 64, 0, 0, 0, 0) := rfl
theorem r_299_64 : row 299 64 = some (.goto (-39), 67, 25, 0, 0, 0) := rfl
theorem r_299_67 : row 299 67 = some (.aload_n 0, 68, 0, 0, 0, 0) := rfl
theorem r_299_68 : row 299 68 = some (.getfield 19, 71, 8, 2, 0, 1037) := rfl
theorem r_299_71 : row 299 71 = some (.ifCond .ne 7, 74, 78, 0, 0, 0) := rfl
theorem r_299_74 : row 299 74 = some (.aload_n 1, 75, 0, 0, 0, 0) := rfl
theorem r_299_75 : row 299 75 = some (.invokevirtual 55, 78, 256, 0, 10, 3135) := rfl
theorem r_299_78 : row 299 78 = some (.aload_n 0, 79, 0, 0, 0, 0) := rfl
theorem r_299_79 : row 299 79 = some (.getfield 19, 82, 8, 2, 0, 1037) := rfl
theorem r_299_82 : row 299 82 = some (.ifCond .ne 7, 85, 89, 0, 0, 0) := rfl
theorem r_299_85 : row 299 85 = some (.iconst 1, 86, 1, 0, 0, 0) := rfl
theorem r_299_86 : row 299 86 = some (.goto 4, 89, 90, 0, 0, 0) := rfl
theorem r_299_89 : row 299 89 = some (.iconst 0, 90, 0, 0, 0, 0) := rfl
theorem r_299_90 : row 299 90 = some (.ireturn, 91, 0, 0, 0, 0) := rfl
section INTO
variable {T : List Kd} {X : Nat → Int} {m : Mm}
theorem nc_13 {m : Mm} {o i b : Nat} {x : Int} (hb : b < 10) (h : ¬ (o = 13 ∧ i < 10)) : nu_up m 13 b x o i = m o i := by
  by_cases e : o = 13
  · subst e; exact nu_ne (fun z => h ⟨rfl, by omega⟩)
  · exact nu_no e
theorem z_253 (hT : TT T) (hp : PinR m) : GX T 1 253 0 [(2, 13)] [] m (RV (fun m1 => (∀ i : Nat, i < 10 → m1 13 i = 0) ∧ (∀ i : Nat, i < 7 → m1 20 i = 0) ∧ ∀ o i : Nat, ¬ (o = 13 ∧ i < 10) → ¬ o = 20 → m1 o i = m o i)) := by
  refine gx_st (L' := [(2, 13)]) (S' := [(2, 13)]) r_253_0 rfl rfl rfl ?_
  refine gx_st (L' := [(2, 13)]) (S' := [(0, 0), (2, 13)]) r_253_1 rfl rfl rfl ?_
  obtain ⟨m1, e_m1⟩ : ∃ z, z = nu_up m 13 0 0 := ⟨_, rfl⟩
  refine gx_pf (x := 0) 0 r_253_2 (rfl) (ty_13 hT) ⟨by decide, rfl, by decide, by decide⟩ rfl (fun z => absurd z (by decide)) (fun z => absurd z (by decide)) e_m1.symm ?_
  refine gx_st (L' := [(2, 13)]) (S' := [(2, 13)]) r_253_5 rfl rfl rfl ?_
  refine gx_st (L' := [(2, 13)]) (S' := [(0, 0), (2, 13)]) r_253_6 rfl rfl rfl ?_
  obtain ⟨m2, e_m2⟩ : ∃ z, z = nu_up m1 13 1 0 := ⟨_, rfl⟩
  refine gx_pf (x := 0) 0 r_253_7 (rfl) (ty_13 hT) ⟨by decide, rfl, by decide, by decide⟩ rfl (fun z => absurd z (by decide)) (fun z => absurd z (by decide)) e_m2.symm ?_
  refine gx_st (L' := [(2, 13)]) (S' := [(2, 13)]) r_253_10 rfl rfl rfl ?_
  refine gx_st (L' := [(2, 13)]) (S' := [(0, 0), (2, 13)]) r_253_11 rfl rfl rfl ?_
  obtain ⟨m3, e_m3⟩ : ∃ z, z = nu_up m2 13 2 0 := ⟨_, rfl⟩
  refine gx_pf (x := 0) 0 r_253_12 (rfl) (ty_13 hT) ⟨by decide, rfl, by decide, by decide⟩ rfl (fun z => absurd z (by decide)) (fun z => absurd z (by decide)) e_m3.symm ?_
  refine gx_st (L' := [(2, 13)]) (S' := [(2, 13)]) r_253_15 rfl rfl rfl ?_
  refine gx_st (L' := [(2, 13)]) (S' := [(0, 0), (2, 13)]) r_253_16 rfl rfl rfl ?_
  obtain ⟨m4, e_m4⟩ : ∃ z, z = nu_up m3 13 3 0 := ⟨_, rfl⟩
  refine gx_pf (x := 0) 0 r_253_17 (rfl) (ty_13 hT) ⟨by decide, rfl, by decide, by decide⟩ rfl (fun z => absurd z (by decide)) (fun z => absurd z (by decide)) e_m4.symm ?_
  refine gx_st (L' := [(2, 13)]) (S' := [(2, 13)]) r_253_20 rfl rfl rfl ?_
  refine gx_st (L' := [(2, 13)]) (S' := [(0, 0), (2, 13)]) r_253_21 rfl rfl rfl ?_
  obtain ⟨m5, e_m5⟩ : ∃ z, z = nu_up m4 13 4 0 := ⟨_, rfl⟩
  refine gx_pf (x := 0) 0 r_253_22 (rfl) (ty_13 hT) ⟨by decide, rfl, by decide, by decide⟩ rfl (fun z => absurd z (by decide)) (fun z => absurd z (by decide)) e_m5.symm ?_
  refine gx_st (L' := [(2, 13)]) (S' := [(2, 13)]) r_253_25 rfl rfl rfl ?_
  refine gx_st (L' := [(2, 13)]) (S' := [(0, 0), (2, 13)]) r_253_26 rfl rfl rfl ?_
  obtain ⟨m6, e_m6⟩ : ∃ z, z = nu_up m5 13 5 0 := ⟨_, rfl⟩
  refine gx_pf (x := 0) 0 r_253_27 (rfl) (ty_13 hT) ⟨by decide, rfl, by decide, by decide⟩ rfl (fun z => absurd z (by decide)) (fun z => absurd z (by decide)) e_m6.symm ?_
  refine gx_st (L' := [(2, 13)]) (S' := [(2, 13)]) r_253_30 rfl rfl rfl ?_
  refine gx_st (L' := [(2, 13)]) (S' := [(0, 0), (2, 13)]) r_253_31 rfl rfl rfl ?_
  obtain ⟨m7, e_m7⟩ : ∃ z, z = nu_up m6 13 6 0 := ⟨_, rfl⟩
  refine gx_pf (x := 0) 0 r_253_32 (rfl) (ty_13 hT) ⟨by decide, rfl, by decide, by decide⟩ rfl (fun z => absurd z (by decide)) (fun z => absurd z (by decide)) e_m7.symm ?_
  refine gx_st (L' := [(2, 13)]) (S' := [(2, 13)]) r_253_35 rfl rfl rfl ?_
  refine gx_st (L' := [(2, 13)]) (S' := [(0, 0), (2, 13)]) r_253_36 rfl rfl rfl ?_
  obtain ⟨m8, e_m8⟩ : ∃ z, z = nu_up m7 13 7 0 := ⟨_, rfl⟩
  refine gx_pf (x := 0) 0 r_253_37 (rfl) (ty_13 hT) ⟨by decide, rfl, by decide, by decide⟩ rfl (fun z => absurd z (by decide)) (fun z => absurd z (by decide)) e_m8.symm ?_
  refine gx_st (L' := [(2, 13)]) (S' := [(2, 13)]) r_253_40 rfl rfl rfl ?_
  refine gx_st (L' := [(2, 13)]) (S' := [(0, 0), (2, 13)]) r_253_41 rfl rfl rfl ?_
  obtain ⟨m9, e_m9⟩ : ∃ z, z = nu_up m8 13 8 0 := ⟨_, rfl⟩
  refine gx_pf (x := 0) 0 r_253_42 (rfl) (ty_13 hT) ⟨by decide, rfl, by decide, by decide⟩ rfl (fun z => absurd z (by decide)) (fun z => absurd z (by decide)) e_m9.symm ?_
  refine gx_st (L' := [(2, 13)]) (S' := [(2, 13)]) r_253_45 rfl rfl rfl ?_
  refine gx_st (L' := [(2, 13)]) (S' := [(0, 0), (2, 13)]) r_253_46 rfl rfl rfl ?_
  obtain ⟨m10, e_m10⟩ : ∃ z, z = nu_up m9 13 9 0 := ⟨_, rfl⟩
  refine gx_pf (x := 0) 0 r_253_47 (rfl) (ty_13 hT) ⟨by decide, rfl, by decide, by decide⟩ rfl (fun z => absurd z (by decide)) (fun z => absurd z (by decide)) e_m10.symm ?_
  refine gx_st (L' := [(2, 13)]) (S' := [(2, 13)]) r_253_50 rfl rfl rfl ?_
  refine gx_gf (x := 20) 2 r_253_51 (rfl) (ty_13 hT) ⟨by decide, rfl, by decide, by decide⟩ rfl (fun _ => by omega) (by show m10 13 16 = _; rw [e_m10, nu_ne (by decide), e_m9, nu_ne (by decide), e_m8, nu_ne (by decide), e_m7, nu_ne (by decide), e_m6, nu_ne (by decide), e_m5, nu_ne (by decide), e_m4, nu_ne (by decide), e_m3, nu_ne (by decide), e_m2, nu_ne (by decide), e_m1, nu_ne (by decide)]; exact pin_at hp (t := 20) rfl (by decide)) ?_
  refine gx_st (L' := [(2, 13)]) (S' := [(0, 0), (2, 20)]) r_253_54 rfl rfl rfl ?_
  refine gx_cv (nx := 58) (S2 := []) (c_240 (r := 20) (n := 7) (ty_20 hT) (by decide) (by decide) 0) r_253_55 rfl rfl rfl rfl rfl rfl rfl (by decide) rfl (fun n55 q55 => ?_)
  refine gx_rt r_253_58 rfl rfl ⟨rfl, fun i hi => ?_, q55.1, fun o i h1 h2 => ?_⟩
  · rw [q55.2 13 i (by decide)]
    rcases (show i = 0 ∨ i = 1 ∨ i = 2 ∨ i = 3 ∨ i = 4 ∨ i = 5 ∨ i = 6 ∨ i = 7 ∨ i = 8 ∨ i = 9 by omega) with rfl | rfl | rfl | rfl | rfl | rfl | rfl | rfl | rfl | rfl
    · rw [e_m10, nu_ne (by decide), e_m9, nu_ne (by decide), e_m8, nu_ne (by decide), e_m7, nu_ne (by decide), e_m6, nu_ne (by decide), e_m5, nu_ne (by decide), e_m4, nu_ne (by decide), e_m3, nu_ne (by decide), e_m2, nu_ne (by decide), e_m1, nu_at]
    · rw [e_m10, nu_ne (by decide), e_m9, nu_ne (by decide), e_m8, nu_ne (by decide), e_m7, nu_ne (by decide), e_m6, nu_ne (by decide), e_m5, nu_ne (by decide), e_m4, nu_ne (by decide), e_m3, nu_ne (by decide), e_m2, nu_at]
    · rw [e_m10, nu_ne (by decide), e_m9, nu_ne (by decide), e_m8, nu_ne (by decide), e_m7, nu_ne (by decide), e_m6, nu_ne (by decide), e_m5, nu_ne (by decide), e_m4, nu_ne (by decide), e_m3, nu_at]
    · rw [e_m10, nu_ne (by decide), e_m9, nu_ne (by decide), e_m8, nu_ne (by decide), e_m7, nu_ne (by decide), e_m6, nu_ne (by decide), e_m5, nu_ne (by decide), e_m4, nu_at]
    · rw [e_m10, nu_ne (by decide), e_m9, nu_ne (by decide), e_m8, nu_ne (by decide), e_m7, nu_ne (by decide), e_m6, nu_ne (by decide), e_m5, nu_at]
    · rw [e_m10, nu_ne (by decide), e_m9, nu_ne (by decide), e_m8, nu_ne (by decide), e_m7, nu_ne (by decide), e_m6, nu_at]
    · rw [e_m10, nu_ne (by decide), e_m9, nu_ne (by decide), e_m8, nu_ne (by decide), e_m7, nu_at]
    · rw [e_m10, nu_ne (by decide), e_m9, nu_ne (by decide), e_m8, nu_at]
    · rw [e_m10, nu_ne (by decide), e_m9, nu_at]
    · rw [e_m10, nu_at]
  · rw [q55.2 o i h2, e_m10, nc_13 (by decide) h1, e_m9, nc_13 (by decide) h1, e_m8, nc_13 (by decide) h1, e_m7, nc_13 (by decide) h1, e_m6, nc_13 (by decide) h1, e_m5, nc_13 (by decide) h1, e_m4, nc_13 (by decide) h1, e_m3, nc_13 (by decide) h1, e_m2, nc_13 (by decide) h1, e_m1, nc_13 (by decide) h1]
set_option maxRecDepth 100000 in
theorem cu_222 : conL[222]? = some (256, [(2, 13, 0)], (9, 0, 0), [21999], 2) := rfl
theorem pu_222 (hT : TT T) : ConH T (256, [(2, 13, 0)], (9, 0, 0), [21999], 2) := fun args m => ((all_con hT 222).1 (by decide)) _ cu_222 args m
theorem bs_ba {w : Wd} (h : BS (m 20) w) : BA m (adjW w) := fun c hc => h c hc
theorem m_256 (hT : TT T) (hg : Gam m) (hp : PinR m) {w : Wd} (hi : IsD m 13 w) (hb : WB w) : GX T 2 256 0 [(2, 13), (9, 0)] [] m (RV (fun m1 => IsWy m1 13 w ∧ Gam m1 ∧ Fr [21999] m m1)) := by
  have hz := gx_hv (args := [(2, 13)]) (pu_222 hT) ⟨gq_o13c, trivial⟩ hg rfl
  have e0 : ((w 0).toNat : Int) = w 0 := by have := hb.1; omega
  by_cases hd : ∃ d : Nat → Nat → Int, Wy (w 0) (adjW w) d
  · obtain ⟨d, hd⟩ := hd
    have hA := adj_ok hb
    have hd2 : Wy ((w 0).toNat : Int) (adjW w) d := by rw [e0]; exact hd
    refine gx_imp (gx_av hz (y_256 hT hp (bs_ba hi.2.2.2.2.2.2.2.2.2.2.2.2.2) (hi.2.1.trans e0.symm) hA hd2)) (fun v m' ⟨e, ⟨a1, a2⟩, b1, b2⟩ => ⟨e, fun d2 h2 a b ha hb2 => ?_, a1, a2⟩)
    have h22 : Wy ((w 0).toNat : Int) (adjW w) d2 := by rw [e0]; exact h2
    have ha' : a < (w 0).toNat := by omega
    have hb' : b < (w 0).toNat := by omega
    show m' 21 (7 * a + b) = _
    rw [b2 a b ha' hb']
    by_cases y : d a b < FAR
    · rw [if_pos y, wy_eq hA hd2 h22 ha' hb' y, if_pos y]
    · rw [if_neg y, if_neg (wy_far hA hd2 h22 ha' hb' y)]
  · exact gx_imp hz (fun v m' ⟨e, a1, a2⟩ => ⟨e, fun d2 h2 => absurd ⟨d2, h2⟩ hd, a1, a2⟩)
def RZc (X : Nat → Int) (m : Mm) (R : Except (Int × Int) Wd) : Prop := match R with
  | .error e => CR X m (.error e)
  | .ok w => (∃ p, CR X m (.ok (p, w))) ∧ IsD m 13 w ∧ WB w
theorem semi_eq {k : Int} {r : PR} (h : ∀ g, pSm X r = .ok g → g.2 9 = k) : (pSm X r).bind (fun g => .ok (g.1, upw g.2 9 (k + 1))) = pSemi X r := by
  cases r with
  | error e => rfl
  | ok g =>
    have h : ∀ g', (if nK X g.1 = 3 then (.ok (nE X g.1, g.2) : PR) else .error (1, (nS X g.1 : Int))) = .ok g' → g'.2 9 = k := h
    show (if nK X g.1 = 3 then (.ok (nE X g.1, g.2) : PR) else .error (1, (nS X g.1 : Int))).bind (fun g => .ok (g.1, upw g.2 9 (k + 1))) = (if nK X g.1 = 3 then (.ok (nE X g.1, upw g.2 9 (g.2 9 + 1)) : PR) else .error (1, (nS X g.1 : Int)))
    by_cases y : nK X g.1 = 3
    · rw [if_pos y] at h ⊢
      rw [if_pos y, h _ rfl]
      rfl
    · rw [if_neg y, if_neg y]; rfl
theorem rd_e {Q : AV → Mm → Prop} (hT : TT T) {e : Int × Int} (h : CR X m (.error e)) {k : Int} (hout : GX T 8 299 67 [(2, 2), (2, 13), (0, k)] [] m Q) : GX T 8 299 25 [(2, 2), (2, 13), (0, k)] [] m Q := by
  refine gx_st (L' := [(2, 2), (2, 13), (0, k)]) (S' := [(0, k)]) r_299_25 rfl rfl rfl ?_
  refine gx_st (L' := [(2, 2), (2, 13), (0, k)]) (S' := [(0, 800), (0, k)]) r_299_26 rfl rfl rfl ?_
  refine gx_ic (P := 800 < k) r_299_29 (rfl) (fun h29 => ?_) (fun h29 => ?_)
  · exact hout
  · refine gx_st (L' := [(2, 2), (2, 13), (0, k)]) (S' := [(2, 2)]) r_299_32 rfl rfl rfl ?_
    refine gx_gf (x := (m 2 4)) 0 r_299_33 (rfl) (ty_2 hT) ⟨by decide, rfl, by decide, by decide⟩ rfl (fun z => absurd z (by decide)) (rfl) ?_
    refine gx_i0 (P := (m 2 4) = 0) r_299_36 (rfl) (fun h36 => ?_) (fun h36 => ?_)
    · exact hout
    · refine gx_st (L' := [(2, 2), (2, 13), (0, k)]) (S' := [(2, 2)]) r_299_39 rfl rfl rfl ?_
      refine gx_gf (x := e.1) 0 r_299_40 (rfl) (ty_2 hT) ⟨by decide, rfl, by decide, by decide⟩ rfl (fun z => absurd z (by decide)) (h.2.1) ?_
      refine gx_i0 (P := ¬ e.1 = 0) r_299_43 (rfl) (fun h43 => ?_) (fun h43 => ?_)
      · exact hout
      · have h43 := Decidable.not_not.mp h43
        exact absurd h43 h.2.2.2.1
theorem rd_l {m0 : Mm} {Q : AV → Mm → Prop} {R : Except (Int × Int) Wd} (hT : TT T) (hx : XOK X) (hout : ∀ (k : Int) (m : Mm), RZc X m R → Fr [2002, 2003, 2004, 2005, 2006, 13000, 13001, 13002, 13003, 13004, 13005, 13006, 13007, 13008, 13009, 14999, 15999, 16999, 17999, 18999, 19999, 20999, 21999] m0 m → GX T 8 299 67 [(2, 2), (2, 13), (0, k)] [] m Q) : ∀ (N k p : Nat) (w : Wd) (m : Mm), 801 - nS X p < N → CD (fun m w => IsD m 13 w ∧ WB w) X m (.ok (p, w)) → Fr [2002, 2003, 2004, 2005, 2006, 13000, 13001, 13002, 13003, 13004, 13005, 13006, 13007, 13008, 13009, 14999, 15999, 16999, 17999, 18999, 19999, 20999, 21999] m0 m → w 9 = (k : Int) → k ≤ nS X p → (w 9 = 0 → w 4 = 0) → pAll X N p w = R → GX T 8 299 25 [(2, 2), (2, 13), (0, (k : Int))] [] m Q := by
  intro N
  induction N with
  | zero => intro k p w m hN; exact absurd hN (Nat.not_lt_zero _)
  | succ N ih =>
    intro k p w m hN hd hf h9 hk h94 hR
    have hp8 : p ≤ 800 := hd.1.2.2.2.1
    have hs8 : nS X p ≤ 800 := nS_hi hx hp8
    have ht := hd.1.2.2.2.2
    have hpw := hd.2 (p, w) rfl
    refine gx_st (L' := [(2, 2), (2, 13), (0, (k : Int))]) (S' := [(0, (k : Int))]) r_299_25 rfl rfl rfl ?_
    refine gx_st (L' := [(2, 2), (2, 13), (0, (k : Int))]) (S' := [(0, 800), (0, (k : Int))]) r_299_26 rfl rfl rfl ?_
    refine gx_ic (P := 800 < (k : Int)) r_299_29 (rfl) (fun h29 => ?_) (fun h29 => ?_)
    · omega
    · refine gx_st (L' := [(2, 2), (2, 13), (0, (k : Int))]) (S' := [(2, 2)]) r_299_32 rfl rfl rfl ?_
      refine gx_gf (x := (nK X p)) 0 r_299_33 (rfl) (ty_2 hT) ⟨by decide, rfl, by decide, by decide⟩ rfl (fun z => absurd z (by decide)) (ht.1) ?_
      refine gx_i0 (P := (nK X p) = 0) r_299_36 (rfl) (fun h36 => ?_) (fun h36 => ?_)
      · refine hout _ m ?_ hf
        rw [← show (.ok w : Except (Int × Int) Wd) = R from (if_pos h36).symm.trans hR]
        exact ⟨⟨p, hd.1⟩, hpw⟩
      · refine gx_st (L' := [(2, 2), (2, 13), (0, (k : Int))]) (S' := [(2, 2)]) r_299_39 rfl rfl rfl ?_
        refine gx_gf (x := 0) 0 r_299_40 (rfl) (ty_2 hT) ⟨by decide, rfl, by decide, by decide⟩ rfl (fun z => absurd z (by decide)) (hd.1.2.1) ?_
        refine gx_i0 (P := ¬ 0 = 0) r_299_43 (rfl) (fun h43 => ?_) (fun h43 => ?_)
        · omega
        · have h43 := Decidable.not_not.mp h43
          refine gx_st (L' := [(2, 2), (2, 13), (0, (k : Int))]) (S' := [(2, 2)]) r_299_46 rfl rfl rfl ?_
          refine gx_st (L' := [(2, 2), (2, 13), (0, (k : Int))]) (S' := [(2, 13), (2, 2)]) r_299_47 rfl rfl rfl ?_
          refine gx_cv (nx := 51) (S2 := []) (d_300 hT hx hd h94) r_299_48 rfl rfl rfl rfl rfl (rcv_v rfl (ty_2 hT) (by decide) rfl (by decide)) rfl (by decide) rfl (fun n48 q48 => ?_)
          have k0_n48 : n48 13 0 = (k : Int) := (q48.2 13 0 rfl).trans (hpw.1.1.trans h9)
          refine gx_st (L' := [(2, 2), (2, 13), (0, (k : Int))]) (S' := [(2, 13)]) r_299_51 rfl rfl rfl ?_
          refine gx_st (L' := [(2, 2), (2, 13), (0, (k : Int))]) (S' := [(2, 13), (2, 13)]) r_299_52 rfl rfl rfl ?_
          refine gx_gf (x := (k : Int)) 0 r_299_53 (rfl) (ty_13 hT) ⟨by decide, rfl, by decide, by decide⟩ rfl (fun z => absurd z (by decide)) (k0_n48) ?_
          refine gx_st (L' := [(2, 2), (2, 13), (0, (k : Int))]) (S' := [(0, 1), (0, (k : Int)), (2, 13)]) r_299_56 rfl rfl rfl ?_
          refine gx_ar (L' := [(2, 2), (2, 13), (0, (k : Int))]) (S' := [(2, 13)]) (t := 0) (e := w32 ((k : Int) + 1)) (z := (k : Int) + 1) r_299_57 rfl rfl rfl (w32_eq (by omega) (by omega) (by omega)) ?_
          obtain ⟨m1, e_m1⟩ : ∃ z, z = nu_up n48 13 0 ((k : Int) + 1) := ⟨_, rfl⟩
          refine gx_pf (x := (k : Int) + 1) 0 r_299_58 (rfl) (ty_13 hT) ⟨by decide, rfl, by decide, by decide⟩ rfl (fun z => absurd z (by decide)) (fun z => absurd z (by decide)) e_m1.symm ?_
          refine gx_li (z := (k : Int) + 1) (L' := [(2, 2), (2, 13), (0, (k : Int) + 1)]) r_299_61 rfl (w32_eq (by omega) (by omega) (by omega)) rfl ?_
          refine gx_st (L' := [(2, 2), (2, 13), (0, (k : Int) + 1)]) (S' := []) r_299_64 rfl rfl rfl ?_
          have hgm : Gam m1 := by rw [e_m1]; exact gam_f q48.1.1.1.1 rfl (by omega) (by omega)
          have ccm : CC X m1 := by rw [e_m1]; exact CC_up q48.1.1.1 (by decide) rfl (by rw [← e_m1]; exact hgm)
          have cdm := CD_up (P := (fun m w => IsD m 13 w ∧ WB w)) (P' := (fun m w => IsD m 13 w ∧ WB w)) (i := 9) (x := (k : Int) + 1) q48.1 ccm (fun i => by rw [e_m1]; exact nu_2o (by decide)) (fun w h => by
            rw [e_m1]
            exact ⟨isd_f0 (o := 13) h.1 _, WB_eq h.2 (fun i hi => upw_ne (by omega))⟩)
          rw [semi_eq (k := (k : Int)) (fun g hg => ((q48.1.2 g hg).1.1.symm.trans k0_n48))] at cdm
          have cdm : CD (fun m w => IsD m 13 w ∧ WB w) X m1 (pLine X p w) := cdm
          have fm : Fr [2002, 2003, 2004, 2005, 2006, 13000, 13001, 13002, 13003, 13004, 13005, 13006, 13007, 13008, 13009, 14999, 15999, 16999, 17999, 18999, 19999, 20999, 21999] m0 m1 := Fr_tr hf (Fr_tr (Fr_sub q48.2 (by decide)) (by rw [e_m1]; exact Fr_up rfl))
          have hR : (match pLine X p w with | .error e => (.error e : Except (Int × Int) Wd) | .ok g => pAll X N g.1 g.2) = R := (if_neg h36).symm.trans hR
          cases e : pLine X p w with
          | error v =>
            rw [e] at cdm hR
            exact rd_e hT cdm.1 (hout _ m1 (by rw [← hR]; exact cdm.1) fm)
          | ok g =>
            rw [e] at cdm hR
            have lt := line_lt hx e
            have g9 : g.2 9 = ((k + 1 : Nat) : Int) := by
              have z := (cdm.2 g rfl).1.1
              rw [e_m1, nu_at] at z
              exact z.symm
            rw [show (k : Int) + 1 = ((k + 1 : Nat) : Int) from rfl]
            exact ih (k + 1) g.1 g.2 m1 (by omega) cdm fm g9 (by omega) (fun z => by omega) hR
set_option maxRecDepth 100000 in
theorem cu_165 : conL[165]? = some (253, [(2, 13, 0)], (9, 0, 0), [13000, 13001, 13002, 13003, 13004, 13005, 13006, 13007, 13008, 13009, 20999], 1) := rfl
theorem pu_165 (hT : TT T) : ConH T (253, [(2, 13, 0)], (9, 0, 0), [13000, 13001, 13002, 13003, 13004, 13005, 13006, 13007, 13008, 13009, 20999], 1) := fun args m => ((all_con hT 165).1 (by decide)) _ cu_165 args m
theorem t21 : ∀ o : Nat, o < 213 → tyO o = 21 → o = 21 := by decide +kernel
theorem fc_21 {o i : Nat} (h1 : ¬ o = 21) (h2 : o < 213) (h3 : i < 900) : ([21999] : List Nat).contains (tyO o * 1000 + (if (tyK (tyO o)).1 < 100 then i else 999)) = false := by
  cases e : ([21999] : List Nat).contains (tyO o * 1000 + (if (tyK (tyO o)).1 < 100 then i else 999)) with
  | false => rfl
  | true =>
    exfalso
    have h := List.contains_iff_mem.mp e
    simp only [List.mem_cons, List.not_mem_nil, or_false] at h
    have h4 : tyO o = 21 := by
      by_cases c : (tyK (tyO o)).1 < 100
      · rw [if_pos c] at h; omega
      · rw [if_neg c] at h; omega
    exact h1 (t21 o h2 h4)
theorem isd_21 {m1 : Mm} {w : Wd} (h : IsD m 13 w) (f : ∀ o i : Nat, ¬ o = 21 → o < 213 → i < 900 → m1 o i = m o i) : IsD m1 13 w := by
  have e : ∀ p i : Nat, 13 ≤ p → p ≤ 20 → i < 900 → m1 p i = m p i := fun p i h1 h2 h3 => f p i (by omega) (by omega) h3
  exact ⟨(e 13 0 (by decide) (by decide) (by decide)).trans h.1, (e 13 1 (by decide) (by decide) (by decide)).trans h.2.1, (e 13 2 (by decide) (by decide) (by decide)).trans h.2.2.1, (e 13 3 (by decide) (by decide) (by decide)).trans h.2.2.2.1, (e 13 4 (by decide) (by decide) (by decide)).trans h.2.2.2.2.1, (e 13 5 (by decide) (by decide) (by decide)).trans h.2.2.2.2.2.1, (e 13 6 (by decide) (by decide) (by decide)).trans h.2.2.2.2.2.2.1, (e 13 7 (by decide) (by decide) (by decide)).trans h.2.2.2.2.2.2.2.1, (e 13 8 (by decide) (by decide) (by decide)).trans h.2.2.2.2.2.2.2.2.1, (e 13 9 (by decide) (by decide) (by decide)).trans h.2.2.2.2.2.2.2.2.2.1, fun t h1 h2 => ⟨(e _ _ (by omega) (by omega) (by omega)).trans (h.2.2.2.2.2.2.2.2.2.2.1 t h1 h2).1, (e _ _ (by omega) (by omega) (by omega)).trans (h.2.2.2.2.2.2.2.2.2.2.1 t h1 h2).2⟩, fun t h1 h2 => ⟨(e _ _ (by omega) (by omega) (by omega)).trans (h.2.2.2.2.2.2.2.2.2.2.2.1 t h1 h2).1, (e _ _ (by omega) (by omega) (by omega)).trans (h.2.2.2.2.2.2.2.2.2.2.2.1 t h1 h2).2⟩, fun t h1 h2 => ⟨(e _ _ (by omega) (by omega) (by omega)).trans (h.2.2.2.2.2.2.2.2.2.2.2.2.1 t h1 h2).1, (e _ _ (by omega) (by omega) (by omega)).trans (h.2.2.2.2.2.2.2.2.2.2.2.2.1 t h1 h2).2⟩, BS_eq h.2.2.2.2.2.2.2.2.2.2.2.2.2 (fun p hp => e _ _ (by omega) (by omega) (by omega)) (fun _ _ => rfl)⟩
theorem y_299 (hT : TT T) (hg : Gam m) (hp : PinR m) (hcx : CXt X m) (hx : XOK X) : GX T 8 299 0 [(2, 2), (2, 13), (9, 0)] [] m (RI (fun v m1 => Gam m1 ∧ PinR m1 ∧ (match pAll X 802 0 (fun _ => 0) with
    | .error e => v = 0 ∧ m1 2 2 = e.1 ∧ m1 2 3 = e.2
    | .ok w => v = 1 ∧ m1 2 2 = 0 ∧ m1 2 3 = -1 ∧ IsD m1 13 w ∧ WB w ∧ IsWy m1 13 w))) := by
  refine gx_st (L' := [(2, 2), (2, 13), (9, 0)]) (S' := [(2, 2)]) r_299_0 rfl rfl rfl ?_
  refine gx_st (L' := [(2, 2), (2, 13), (9, 0)]) (S' := [(0, 0), (2, 2)]) r_299_1 rfl rfl rfl ?_
  obtain ⟨m1, e_m1⟩ : ∃ z, z = nu_up m 2 2 0 := ⟨_, rfl⟩
  refine gx_pf (x := 0) 0 r_299_2 (rfl) (ty_2 hT) ⟨by decide, rfl, by decide, by decide⟩ rfl (fun z => absurd z (by decide)) (fun z => absurd z (by decide)) e_m1.symm ?_
  refine gx_st (L' := [(2, 2), (2, 13), (9, 0)]) (S' := [(2, 2)]) r_299_5 rfl rfl rfl ?_
  refine gx_st (L' := [(2, 2), (2, 13), (9, 0)]) (S' := [(0, (-1)), (2, 2)]) r_299_6 rfl rfl rfl ?_
  obtain ⟨m2, e_m2⟩ : ∃ z, z = nu_up m1 2 3 (-1) := ⟨_, rfl⟩
  refine gx_pf (x := (-1)) 0 r_299_7 (rfl) (ty_2 hT) ⟨by decide, rfl, by decide, by decide⟩ rfl (fun z => absurd z (by decide)) (fun z => absurd z (by decide)) e_m2.symm ?_
  refine gx_st (L' := [(2, 2), (2, 13), (9, 0)]) (S' := [(2, 2)]) r_299_10 rfl rfl rfl ?_
  refine gx_st (L' := [(2, 2), (2, 13), (9, 0)]) (S' := [(0, 0), (2, 2)]) r_299_11 rfl rfl rfl ?_
  obtain ⟨m3, e_m3⟩ : ∃ z, z = nu_up m2 2 6 0 := ⟨_, rfl⟩
  refine gx_pf (x := 0) 0 r_299_12 (rfl) (ty_2 hT) ⟨by decide, rfl, by decide, by decide⟩ rfl (fun z => absurd z (by decide)) (fun z => absurd z (by decide)) e_m3.symm ?_
  refine gx_st (L' := [(2, 2), (2, 13), (9, 0)]) (S' := [(2, 13)]) r_299_15 rfl rfl rfl ?_
  have g3 : Gam m3 := by rw [e_m3, e_m2, e_m1]; exact gam_f (gam_f (gam_f hg rfl (by decide) (by decide)) rfl (by decide) (by decide)) rfl (by decide) (by decide)
  have p3 : PinR m3 := by rw [e_m3, e_m2, e_m1]; exact PinR_up (PinR_up (PinR_up hp rfl) rfl) rfl
  refine gx_cv (nx := 19) (S2 := []) (gx_av (z_253 hT p3) (gx_hv (args := [(2, 13)]) (pu_165 hT) ⟨gq_o13c, trivial⟩ g3 rfl)) r_299_16 rfl rfl rfl rfl rfl (rcv_v rfl (ty_13 hT) (by decide) rfl (by decide)) rfl (by decide) rfl (fun n16 q16 => ?_)
  obtain ⟨⟨z1, z2, z3⟩, zg, zf⟩ := q16
  have pn : PinR n16 := PinR_fr zf (by decide) p3
  have z22 : n16 2 2 = 0 := by rw [z3 2 2 (by omega) (by decide), e_m3, nu_ne (by decide), e_m2, nu_ne (by decide), e_m1, nu_at]
  have z23 : n16 2 3 = -1 := by rw [z3 2 3 (by omega) (by decide), e_m3, nu_ne (by decide), e_m2, nu_at]
  have z26 : n16 2 6 = ((0 : Nat) : Int) := by rw [z3 2 6 (by omega) (by decide), e_m3, nu_at]; rfl
  have zcx : CXt X n16 := by
    obtain ⟨n, a1, a2, a3, a4⟩ := hcx
    refine ⟨n, a1, ?_, fun k => ?_, a4⟩
    · rw [z3 2 1 (by omega) (by decide), e_m3, nu_ne (by decide), e_m2, nu_ne (by decide), e_m1, nu_ne (by decide)]; exact a2
    · rw [z3 3 k (by omega) (by decide), e_m3, nu_no (by decide), e_m2, nu_no (by decide), e_m1, nu_no (by decide)]; exact a3 k
  refine gx_st (L' := [(2, 2), (2, 13), (9, 0)]) (S' := [(2, 2)]) r_299_19 rfl rfl rfl ?_
  refine gx_cv (nx := 23) (S2 := []) (gx_av (z_312 hT pn zcx hx z22 z26 (by decide)) (gx_hv (args := [(2, 2)]) (pu_166 hT) ⟨gq_o2c, trivial⟩ zg rfl)) r_299_20 rfl rfl rfl rfl rfl (rcv_v rfl (ty_2 hT) (by decide) rfl (by decide)) rfl (by decide) rfl (fun n20 q20 => ?_)
  obtain ⟨yt, yg, yf⟩ := q20
  have hcr : CR X n20 (.ok (0, fun _ => 0)) := ⟨⟨yg, PinR_fr yf (by decide) pn, CXt_fr zcx yf (by decide) (by decide)⟩, (yf 2 2 rfl).trans z22, (yf 2 3 rfl).trans z23, by decide, yt⟩
  have hz13 : ∀ i : Nat, i < 10 → n20 13 i = 0 := fun i hi => (fr_c2 yf (by decide) 13 i (by decide) (by decide) (by omega)).trans (z1 i hi)
  have hcd : CD (fun m w => IsD m 13 w ∧ WB w) X n20 (.ok (0, fun _ => 0)) := ⟨hcr, fun g hg => by
    cases hg
    refine ⟨⟨hz13 0 (by decide), hz13 1 (by decide), hz13 2 (by decide), hz13 3 (by decide), hz13 4 (by decide), hz13 5 (by decide), hz13 6 (by decide), hz13 7 (by decide), hz13 8 (by decide), hz13 9 (by decide), fun t h1 h2 => absurd h2 (by show ¬ ((t : Int) < 0); omega), fun t h1 h2 => absurd h2 (by show ¬ ((t : Int) < 0); omega), fun t h1 h2 => absurd h2 (by show ¬ ((t : Int) < 0); omega), fun p hp => ⟨0, by decide, (yf 20 p rfl).trans (z2 p hp), fun q hq => ?_⟩⟩, ?_⟩
    · constructor
      · intro z; rw [Nat.zero_div] at z; exact absurd z (by decide)
      · rintro ⟨k, k1, k2, -⟩; exact absurd k2 (by show ¬ ((k : Int) < 0); omega)
    · exact ⟨⟨by decide, by decide⟩, ⟨by decide, by decide⟩, ⟨by decide, by decide⟩, ⟨by decide, by decide⟩, ⟨by decide, by decide⟩, fun k k1 k2 => absurd k2 (by show ¬ ((k : Int) < 0); omega)⟩⟩
  refine gx_st (L' := [(2, 2), (2, 13), (9, 0)]) (S' := [(0, 0)]) r_299_23 rfl rfl rfl ?_
  refine gx_st (L' := [(2, 2), (2, 13), (0, 0)]) (S' := []) r_299_24 rfl rfl rfl ?_
  refine rd_l hT hx (m0 := n20) (R := pAll X 802 0 (fun _ => 0)) (fun k m2 z f2 => ?_) 802 0 0 (fun _ => 0) n20 (by omega) hcd Fr_rf rfl (Nat.zero_le _) (fun _ => rfl) rfl
  revert z
  generalize pAll X 802 0 (fun _ => 0) = R
  intro z
  cases R with
  | error e =>
    have z : CR X m2 (.error e) := z
    refine gx_st (L' := [(2, 2), (2, 13), (0, k)]) (S' := [(2, 2)]) r_299_67 rfl rfl rfl ?_
    refine gx_gf (x := e.1) 0 r_299_68 (rfl) (ty_2 hT) ⟨by decide, rfl, by decide, by decide⟩ rfl (fun z => absurd z (by decide)) (z.2.1) ?_
    refine gx_i0 (P := ¬ e.1 = 0) r_299_71 (rfl) (fun h71 => ?_) (fun h71 => ?_)
    · refine gx_st (L' := [(2, 2), (2, 13), (0, k)]) (S' := [(2, 2)]) r_299_78 rfl rfl rfl ?_
      refine gx_gf (x := e.1) 0 r_299_79 (rfl) (ty_2 hT) ⟨by decide, rfl, by decide, by decide⟩ rfl (fun z => absurd z (by decide)) (z.2.1) ?_
      refine gx_i0 (P := ¬ e.1 = 0) r_299_82 (rfl) (fun h82 => ?_) (fun h82 => ?_)
      · refine gx_st (L' := [(2, 2), (2, 13), (0, k)]) (S' := [(0, 0)]) r_299_89 rfl rfl rfl ?_
        exact gx_rt r_299_90 rfl rfl ⟨_, rfl, z.1.1, z.1.2.1, rfl, z.2.1, z.2.2.1⟩
      · have h82 := Decidable.not_not.mp h82
        exact absurd h82 z.2.2.2.1
    · have h71 := Decidable.not_not.mp h71
      exact absurd h71 z.2.2.2.1
  | ok w =>
    obtain ⟨⟨p, z1⟩, z2, z3⟩ : (∃ p, CR X m2 (.ok (p, w))) ∧ IsD m2 13 w ∧ WB w := z
    refine gx_st (L' := [(2, 2), (2, 13), (0, k)]) (S' := [(2, 2)]) r_299_67 rfl rfl rfl ?_
    refine gx_gf (x := 0) 0 r_299_68 (rfl) (ty_2 hT) ⟨by decide, rfl, by decide, by decide⟩ rfl (fun z => absurd z (by decide)) (z1.2.1) ?_
    refine gx_i0 (P := ¬ 0 = 0) r_299_71 (rfl) (fun h71 => ?_) (fun h71 => ?_)
    · omega
    · have h71 := Decidable.not_not.mp h71
      refine gx_st (L' := [(2, 2), (2, 13), (0, k)]) (S' := [(2, 13)]) r_299_74 rfl rfl rfl ?_
      refine gx_cv (nx := 78) (S2 := []) (m_256 hT z1.1.1 z1.1.2.1 z2 z3) r_299_75 rfl rfl rfl rfl rfl (rcv_v rfl (ty_13 hT) (by decide) rfl (by decide)) rfl (by decide) rfl (fun n75 q75 => ?_)
      obtain ⟨x1, x2, x3⟩ := q75
      have p75 : PinR n75 := PinR_fr x3 (by decide) z1.1.2.1
      refine gx_st (L' := [(2, 2), (2, 13), (0, k)]) (S' := [(2, 2)]) r_299_78 rfl rfl rfl ?_
      refine gx_gf (x := 0) 0 r_299_79 (rfl) (ty_2 hT) ⟨by decide, rfl, by decide, by decide⟩ rfl (fun z => absurd z (by decide)) (((x3 2 2 rfl).trans z1.2.1)) ?_
      refine gx_i0 (P := ¬ 0 = 0) r_299_82 (rfl) (fun h82 => ?_) (fun h82 => ?_)
      · omega
      · have h82 := Decidable.not_not.mp h82
        refine gx_st (L' := [(2, 2), (2, 13), (0, k)]) (S' := [(0, 1)]) r_299_85 rfl rfl rfl ?_
        refine gx_st (L' := [(2, 2), (2, 13), (0, k)]) (S' := [(0, 1)]) r_299_86 rfl rfl rfl ?_
        refine gx_rt r_299_90 rfl rfl ⟨_, rfl, x2, p75, rfl, (x3 2 2 rfl).trans z1.2.1, (x3 2 3 rfl).trans z1.2.2.1, ?_, z3, x1⟩
        exact isd_21 z2 (fun o i h1 h2 h3 => x3 o i (fc_21 h1 h2 h3))
end INTO
