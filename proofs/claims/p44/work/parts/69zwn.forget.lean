/-! the plans known stay those of the isle -/
section FORGET
variable {T : List Kd} {m : Mm}
theorem h_75 (hT : TT T) (hm : Gam m) (hp : PinR m) : GX T 13 75 0 [(2, 1)] [] m (RV (fun m1 => PlanX m1)) := by
  refine gx_st (L' := [(2, 1)]) (S' := [(2, 1)]) r_75_0 rfl rfl rfl ?_
  refine gx_st (L' := [(2, 1)]) (S' := [(0, 0), (2, 1)]) r_75_1 rfl rfl rfl ?_
  obtain ⟨m1, e_m1⟩ : ∃ z, z = nu_up m 1 15 0 := ⟨_, rfl⟩
  refine gx_pf (x := 0) 0 r_75_2 (rfl) (ty_1 hT) ⟨by decide, rfl, by decide, by decide⟩ rfl (fun _ => by omega) (fun z => absurd z (by decide)) e_m1.symm ?_
  have g_m1 : Gam m1 := by rw [e_m1]; exact gu_1_15 hm (by decide) (by decide)
  have p_m1 : PinR m1 := by rw [e_m1]; exact PinR_up hp rfl
  refine gx_st (L' := [(2, 1)]) (S' := [(2, 1)]) r_75_5 rfl rfl rfl ?_
  refine gx_gf (x := 28) 2 r_75_6 (rfl) (ty_1 hT) ⟨by decide, rfl, by decide, by decide⟩ rfl (fun _ => by omega) (pin_at p_m1 (t := 28) rfl (by decide)) ?_
  refine gx_st (L' := [(2, 1)]) (S' := [(2, 1), (2, 28)]) r_75_9 rfl rfl rfl ?_
  refine gx_gf (x := 4) 2 r_75_10 (rfl) (ty_1 hT) ⟨by decide, rfl, by decide, by decide⟩ rfl (fun _ => by omega) (pin_at p_m1 (t := 4) rfl (by decide)) ?_
  refine gx_st (L' := [(2, 1)]) (S' := [(2, 1), (2, 4), (2, 28)]) r_75_13 rfl rfl rfl ?_
  refine gx_gf (x := 22) 2 r_75_14 (rfl) (ty_1 hT) ⟨by decide, rfl, by decide, by decide⟩ rfl (fun _ => by omega) (pin_at p_m1 (t := 22) rfl (by decide)) ?_
  refine gx_st (L' := [(2, 1)]) (S' := [(0, 0), (2, 22), (2, 4), (2, 28)]) r_75_17 rfl rfl rfl ?_
  refine gx_st (L' := [(2, 1)]) (S' := [(2, 1), (0, 0), (2, 22), (2, 4), (2, 28)]) r_75_18 rfl rfl rfl ?_
  refine gx_gf (x := 4) 2 r_75_19 (rfl) (ty_1 hT) ⟨by decide, rfl, by decide, by decide⟩ rfl (fun _ => by omega) (pin_at p_m1 (t := 4) rfl (by decide)) ?_
  refine gx_st (L' := [(2, 1)]) (S' := [(0, 0), (2, 4), (0, 0), (2, 22), (2, 4), (2, 28)]) r_75_22 rfl rfl rfl ?_
  refine gx_ci (nx := 26) (S2 := [(0, 0), (2, 22), (2, 4), (2, 28)]) (z_258 hT p_m1 (k := 0) (by decide)) r_75_23 rfl rfl rfl rfl rfl (rcv_v rfl (ty_4 hT) (by decide) rfl (by decide)) rfl (by decide) rfl (fun x23 n23 q23 => ?_)
  obtain ⟨e_x23, z_x23⟩ := q23
  have y_x23 := z_x23.symm
  subst y_x23
  rw [e_x23]
  show GX T 13 75 26 [(2, 1)] [(0, (m1 9 0)), (0, 0), (2, 22), (2, 4), (2, 28)] m1 (RV (fun m1 => PlanX m1))
  refine gx_cv (nx := 29) (S2 := []) (tell_x hT g_m1 p_m1) r_75_26 rfl rfl rfl rfl rfl (rcv_v rfl (ty_28 hT) (by decide) rfl (by decide)) rfl (by decide) rfl (fun n26 q26 => ?_)
  have pn_n26 : PinR n26 := PinR_fr q26.1.2 (by decide) p_m1
  have sx : StoryX n26 := q26.2
  have px : PlanX n26 := planx_0 ((q26.1.2 1 15 rfl).trans (by rw [e_m1, nu_at]))
  show GX T 13 75 29 [(2, 1)] [] n26 (RV (fun m1 => PlanX m1))
  exact gx_rt r_75_29 rfl rfl ⟨rfl, px⟩
theorem hu_75 (hT : TT T) (hm : Gam m) (hp : PinR m) : GX T 13 75 0 [(2, 1)] [] m (RV (fun m1 => PlanX m1 ∧ Gam m1 ∧ Fr [1015, 28010, 28011, 28012, 28013, 29000, 29001, 29002, 29003, 29004, 29005, 29006, 29007, 30999, 31999, 32999, 33999, 34999, 35999, 36999, 37999, 38999, 39999, 40999] m m1)) := gx_av (h_75 hT hm hp) (gx_hv (args := [(2, 1)]) (pu_277 hT) ⟨gq_o1y2, trivial⟩ hm rfl)
theorem h_64 (hT : TT T) (hm : Gam m) (hp : PinR m) (a b : Int) (h46 : m 4 6 ≤ 5) : GX T 14 64 0 [(2, 1), (0, a), (0, b), (9, 0)] [] m (RI (fun _ m1 => PlanX m → PlanX m1)) := by
  refine gx_st (L' := [(2, 1), (0, a), (0, b), (9, 0)]) (S' := [(0, a)]) r_64_0 rfl rfl rfl ?_
  refine gx_st (L' := [(2, 1), (0, a), (0, b), (9, 0)]) (S' := [(2, 1), (0, a)]) r_64_1 rfl rfl rfl ?_
  refine gx_gf (x := 4) 2 r_64_2 (rfl) (ty_1 hT) ⟨by decide, rfl, by decide, by decide⟩ rfl (fun _ => by omega) (pin_at hp (t := 4) rfl (by decide)) ?_
  refine gx_gf (x := (m 4 6)) 0 r_64_5 (rfl) (ty_4 hT) ⟨by decide, rfl, by decide, by decide⟩ rfl (fun z => absurd z (by decide)) (rfl) ?_
  refine gx_ci (nx := 11) (S2 := []) (x_71 a (m 4 6)) r_64_8 rfl rfl rfl rfl rfl rfl rfl (by decide) rfl (fun x8 n8 q8 => ?_)
  obtain rfl := q8.1.symm
  obtain rfl := q8.2.symm
  show GX T 14 64 11 [(2, 1), (0, a), (0, b), (9, 0)] [(0, (if 0 ≤ a ∧ a < (m 4 6) then 1 else 0))] m (RI (fun _ m1 => PlanX m → PlanX m1))
  refine gx_i0 (P := ¬ (0 ≤ a ∧ a < (m 4 6))) r_64_11 (b01_eq) (fun h11 => ?_) (fun h11 => ?_)
  · refine gx_st (L' := [(2, 1), (0, a), (0, b), (9, 0)]) (S' := [(0, (-2))]) r_64_23 rfl rfl rfl ?_
    exact gx_rt r_64_25 rfl rfl ⟨_, rfl, fun z => z⟩
  · have h11 := Decidable.not_not.mp h11
    refine gx_st (L' := [(2, 1), (0, a), (0, b), (9, 0)]) (S' := [(0, b)]) r_64_14 rfl rfl rfl ?_
    refine gx_st (L' := [(2, 1), (0, a), (0, b), (9, 0)]) (S' := [(0, 10), (0, b)]) r_64_15 rfl rfl rfl ?_
    refine gx_ci (nx := 20) (S2 := []) (x_71 b 10) r_64_17 rfl rfl rfl rfl rfl rfl rfl (by decide) rfl (fun x17 n17 q17 => ?_)
    obtain rfl := q17.1.symm
    obtain rfl := q17.2.symm
    show GX T 14 64 20 [(2, 1), (0, a), (0, b), (9, 0)] [(0, (if 0 ≤ b ∧ b < 10 then 1 else 0))] m (RI (fun _ m1 => PlanX m → PlanX m1))
    refine gx_i0 (P := 0 ≤ b ∧ b < 10) r_64_20 (b01_ne) (fun h20 => ?_) (fun h20 => ?_)
    · refine gx_st (L' := [(2, 1), (0, a), (0, b), (9, 0)]) (S' := [(2, 1)]) r_64_26 rfl rfl rfl ?_
      refine gx_gf (x := 22) 2 r_64_27 (rfl) (ty_1 hT) ⟨by decide, rfl, by decide, by decide⟩ rfl (fun _ => by omega) (pin_at hp (t := 22) rfl (by decide)) ?_
      refine gx_gf (x := (m 22 2)) 0 r_64_30 (rfl) (ty_22 hT) ⟨by decide, rfl, by decide, by decide⟩ rfl (fun z => absurd z (by decide)) (rfl) ?_
      refine gx_i0 (P := (m 22 2) ≤ 0) r_64_33 (rfl) (fun h33 => ?_) (fun h33 => ?_)
      · refine gx_st (L' := [(2, 1), (0, a), (0, b), (9, 0)]) (S' := [(2, 1)]) r_64_39 rfl rfl rfl ?_
        obtain ⟨ii, hia⟩ : ∃ i : Nat, a = (i : Int) := ⟨a.toNat, by omega⟩
        rw [hia]
        refine gx_gf (x := 4) 2 r_64_40 (rfl) (ty_1 hT) ⟨by decide, rfl, by decide, by decide⟩ rfl (fun _ => by omega) (pin_at hp (t := 4) rfl (by decide)) ?_
        refine gx_gf (x := 6) 2 r_64_43 (rfl) (ty_4 hT) ⟨by decide, rfl, by decide, by decide⟩ rfl (fun _ => by omega) (pin_at hp (t := 6) rfl (by decide)) ?_
        refine gx_st (L' := [(2, 1), (0, (ii : Int)), (0, b), (9, 0)]) (S' := [(0, (ii : Int)), (2, 6)]) r_64_46 rfl rfl rfl ?_
        refine gx_ci (nx := 50) (S2 := []) (c_237 (r := 6) (n := 5) (ty_6 hT) (by decide) (by decide) (k := ii) (by omega)) r_64_47 rfl rfl rfl rfl rfl rfl rfl (by decide) rfl (fun x47 n47 q47 => ?_)
        obtain rfl := q47.1.symm
        obtain rfl := q47.2.symm
        show GX T 14 64 50 [(2, 1), (0, (ii : Int)), (0, b), (9, 0)] [(0, (m 6 ii))] m (RI (fun _ m1 => PlanX m → PlanX m1))
        refine gx_st (L' := [(2, 1), (0, (ii : Int)), (0, b), (0, (m 6 ii))]) (S' := []) r_64_50 rfl rfl rfl ?_
        refine gx_st (L' := [(2, 1), (0, (ii : Int)), (0, b), (0, (m 6 ii))]) (S' := [(2, 1)]) r_64_51 rfl rfl rfl ?_
        refine gx_gf (x := 4) 2 r_64_52 (rfl) (ty_1 hT) ⟨by decide, rfl, by decide, by decide⟩ rfl (fun _ => by omega) (pin_at hp (t := 4) rfl (by decide)) ?_
        refine gx_gf (x := 6) 2 r_64_55 (rfl) (ty_4 hT) ⟨by decide, rfl, by decide, by decide⟩ rfl (fun _ => by omega) (pin_at hp (t := 6) rfl (by decide)) ?_
        refine gx_st (L' := [(2, 1), (0, (ii : Int)), (0, b), (0, (m 6 ii))]) (S' := [(0, (ii : Int)), (2, 6)]) r_64_58 rfl rfl rfl ?_
        refine gx_st (L' := [(2, 1), (0, (ii : Int)), (0, b), (0, (m 6 ii))]) (S' := [(0, b), (0, (ii : Int)), (2, 6)]) r_64_59 rfl rfl rfl ?_
        refine gx_cv (nx := 63) (S2 := []) (gx_hv (args := [(2, 6), (0, (ii : Int)), (0, b)]) (pu_556 hT) ⟨gq_o6y2, gq_any (by omega) (by omega), gq_any (by omega) (by omega), trivial⟩ hm rfl) r_64_60 rfl rfl rfl rfl rfl rfl rfl (by decide) rfl (fun n60 q60 => ?_)
        have pn_n60 : PinR n60 := PinR_fr q60.2 (by decide) hp
        refine gx_st (L' := [(2, 1), (0, (ii : Int)), (0, b), (0, (m 6 ii))]) (S' := [(2, 1)]) r_64_63 rfl rfl rfl ?_
        refine gx_cv (nx := 67) (S2 := []) (hu_75 hT q60.1 pn_n60) r_64_64 rfl rfl rfl rfl rfl (rcv_v rfl (ty_1 hT) (by decide) rfl (by decide)) rfl (by decide) rfl (fun n64 q64 => ?_)
        have sx : PlanX n64 := q64.1
        have pin_sx : PinR n64 := PinR_fr q64.2.2 (by decide) pn_n60
        show GX T 14 64 67 [(2, 1), (0, (ii : Int)), (0, b), (0, (m 6 ii))] [] n64 (RI (fun _ m1 => PlanX m → PlanX m1))
        refine gx_st (L' := [(2, 1), (0, (ii : Int)), (0, b), (0, (m 6 ii))]) (S' := [(0, (m 6 ii))]) r_64_67 rfl rfl rfl ?_
        exact gx_rt r_64_68 rfl rfl ⟨_, rfl, fun _ => sx⟩
      · refine gx_st (L' := [(2, 1), (0, a), (0, b), (9, 0)]) (S' := [(0, (-5))]) r_64_36 rfl rfl rfl ?_
        exact gx_rt r_64_38 rfl rfl ⟨_, rfl, fun z => z⟩
    · refine gx_st (L' := [(2, 1), (0, a), (0, b), (9, 0)]) (S' := [(0, (-2))]) r_64_23 rfl rfl rfl ?_
      exact gx_rt r_64_25 rfl rfl ⟨_, rfl, fun z => z⟩
theorem h_67 (hT : TT T) (hm : Gam m) (hp : PinR m) (a : Int) : GX T 14 67 0 [(2, 1), (0, a)] [] m (RI (fun _ m1 => PlanX m → PlanX m1)) := by
  refine gx_st (L' := [(2, 1), (0, a)]) (S' := [(0, a)]) r_67_0 rfl rfl rfl ?_
  refine gx_st (L' := [(2, 1), (0, a)]) (S' := [(2, 1), (0, a)]) r_67_1 rfl rfl rfl ?_
  refine gx_gf (x := 154) 2 r_67_2 (rfl) (ty_1 hT) ⟨by decide, rfl, by decide, by decide⟩ rfl (fun _ => by omega) (pin_at hp (t := 154) rfl (by decide)) ?_
  refine gx_al r_67_5 (rfl) (ty_154 hT) ⟨by decide, by decide, by decide⟩ ?_
  show GX T 14 67 6 [(2, 1), (0, a)] [(0, 3), (0, a)] m (RI (fun _ m1 => PlanX m → PlanX m1))
  refine gx_ci (nx := 9) (S2 := []) (x_71 a 3) r_67_6 rfl rfl rfl rfl rfl rfl rfl (by decide) rfl (fun x6 n6 q6 => ?_)
  obtain rfl := q6.1.symm
  obtain rfl := q6.2.symm
  show GX T 14 67 9 [(2, 1), (0, a)] [(0, (if 0 ≤ a ∧ a < 3 then 1 else 0))] m (RI (fun _ m1 => PlanX m → PlanX m1))
  refine gx_i0 (P := ¬ (0 ≤ a ∧ a < 3)) r_67_9 (b01_eq) (fun h9 => ?_) (fun h9 => ?_)
  · refine gx_st (L' := [(2, 1), (0, a)]) (S' := [(0, (-2))]) r_67_24 rfl rfl rfl ?_
    exact gx_rt r_67_26 rfl rfl ⟨_, rfl, fun z => z⟩
  · have h9 := Decidable.not_not.mp h9
    refine gx_st (L' := [(2, 1), (0, a)]) (S' := [(0, a)]) r_67_12 rfl rfl rfl ?_
    refine gx_st (L' := [(2, 1), (0, a)]) (S' := [(2, 1), (0, a)]) r_67_13 rfl rfl rfl ?_
    refine gx_gf (x := 155) 2 r_67_14 (rfl) (ty_1 hT) ⟨by decide, rfl, by decide, by decide⟩ rfl (fun _ => by omega) (pin_at hp (t := 155) rfl (by decide)) ?_
    refine gx_al r_67_17 (rfl) (ty_155 hT) ⟨by decide, by decide, by decide⟩ ?_
    show GX T 14 67 18 [(2, 1), (0, a)] [(0, 3), (0, a)] m (RI (fun _ m1 => PlanX m → PlanX m1))
    refine gx_ci (nx := 21) (S2 := []) (x_71 a 3) r_67_18 rfl rfl rfl rfl rfl rfl rfl (by decide) rfl (fun x18 n18 q18 => ?_)
    obtain rfl := q18.1.symm
    obtain rfl := q18.2.symm
    show GX T 14 67 21 [(2, 1), (0, a)] [(0, (if 0 ≤ a ∧ a < 3 then 1 else 0))] m (RI (fun _ m1 => PlanX m → PlanX m1))
    refine gx_i0 (P := 0 ≤ a ∧ a < 3) r_67_21 (b01_ne) (fun h21 => ?_) (fun h21 => ?_)
    · refine gx_st (L' := [(2, 1), (0, a)]) (S' := [(2, 1)]) r_67_27 rfl rfl rfl ?_
      refine gx_gf (x := (m 1 14)) 0 r_67_28 (rfl) (ty_1 hT) ⟨by decide, rfl, by decide, by decide⟩ rfl (fun z => absurd z (by decide)) (rfl) ?_
      refine gx_st (L' := [(2, 1), (0, a)]) (S' := [(0, a), (0, (m 1 14))]) r_67_31 rfl rfl rfl ?_
      refine gx_ci (nx := 35) (S2 := []) (x_242 (m 1 14) a) r_67_32 rfl rfl rfl rfl rfl rfl rfl (by decide) rfl (fun x32 n32 q32 => ?_)
      obtain rfl := q32.1.symm
      obtain rfl := q32.2.symm
      show GX T 14 67 35 [(2, 1), (0, a)] [(0, (if 0 ≤ a ∧ a < 32 ∧ iand (ishr (m 1 14) a) 1 = 1 then 1 else 0))] m (RI (fun _ m1 => PlanX m → PlanX m1))
      refine gx_i0 (P := 0 ≤ a ∧ a < 32 ∧ iand (ishr (m 1 14) a) 1 = 1) r_67_35 (b01_ne) (fun h35 => ?_) (fun h35 => ?_)
      · obtain ⟨ii, hia⟩ : ∃ i : Nat, a = (i : Int) := ⟨a.toNat, by omega⟩
        have hi : ii < 3 := by omega
        obtain ⟨o, h_o⟩ : ∃ o : Nat, o = 156 + 12 * ii := ⟨_, rfl⟩
        obtain ⟨p, h_p⟩ : ∃ o : Nat, o = 165 + 12 * ii := ⟨_, rfl⟩
        have ho : IsleT T o := IsleT_of hT (by rw [h_o]; exact (isl_i2 ii hi).1)
        have hq : ActsT T p := ActsT_of hT (by rw [h_p]; exact (isl_i2 ii hi).2)
        have hor : IsleR m o := IsleR_of hp (by rw [h_o]; exact (isl_i2 ii hi).1)
        have hqr : ActsR m p := ActsR_of hp (by rw [h_p]; exact (isl_i2 ii hi).2)
        have ho0 := ho.1
        have hq0 := hq.1
        rw [hia]
        refine gx_st (L' := [(2, 1), (0, (ii : Int))]) (S' := [(2, 1)]) r_67_41 rfl rfl rfl ?_
        refine gx_gf (x := 4) 2 r_67_42 (rfl) (ty_1 hT) ⟨by decide, rfl, by decide, by decide⟩ rfl (fun _ => by omega) (pin_at hp (t := 4) rfl (by decide)) ?_
        refine gx_st (L' := [(2, 1), (0, (ii : Int))]) (S' := [(2, 1), (2, 4)]) r_67_45 rfl rfl rfl ?_
        refine gx_gf (x := 154) 2 r_67_46 (rfl) (ty_1 hT) ⟨by decide, rfl, by decide, by decide⟩ rfl (fun _ => by omega) (pin_at hp (t := 154) rfl (by decide)) ?_
        refine gx_st (L' := [(2, 1), (0, (ii : Int))]) (S' := [(0, (ii : Int)), (2, 154), (2, 4)]) r_67_49 rfl rfl rfl ?_
        refine gx_aa (n := ii) (x := (o : Int)) r_67_50 (rfl) (by omega) (ty_154 hT) (by omega) ⟨by decide, by decide, by omega⟩ ((by rw [h_o]; exact pin_at hp (ke_i2 ii hi).1 (by omega))) (by omega) ?_
        refine gx_cv (nx := 54) (S2 := []) (gx_av (z_254 (o := 4) (s := o) (IsleT_of hT rfl) ho (IsleR_of hp rfl) hor (Or.inl (by omega))) (gx_hv (args := [(2, 4), (2, (o : Int))]) (pu_588 hT) ⟨gq_o4y2, gq_kx hi h_o, trivial⟩ hm rfl)) r_67_51 rfl rfl rfl rfl rfl (rcv_v rfl (ty_4 hT) (by decide) rfl (by decide)) rfl (by decide) rfl (fun n51 q51 => ?_)
        obtain ⟨⟨i1, i2, i3⟩, ig, iF⟩ := q51
        have pI : PinR n51 := PinR_fr iF (by decide) hp
        have aR : ActsR n51 22 := ActsR_of pI rfl
        have bR : ActsR n51 p := ActsR_of pI (by rw [h_p]; exact (isl_i2 ii hi).2)
        refine gx_st (L' := [(2, 1), (0, (ii : Int))]) (S' := [(2, 1)]) r_67_54 rfl rfl rfl ?_
        refine gx_gf (x := 22) 2 r_67_55 (rfl) (ty_1 hT) ⟨by decide, rfl, by decide, by decide⟩ rfl (fun _ => by omega) (pin_at pI (t := 22) rfl (by decide)) ?_
        refine gx_st (L' := [(2, 1), (0, (ii : Int))]) (S' := [(2, 1), (2, 22)]) r_67_58 rfl rfl rfl ?_
        refine gx_gf (x := 155) 2 r_67_59 (rfl) (ty_1 hT) ⟨by decide, rfl, by decide, by decide⟩ rfl (fun _ => by omega) (pin_at pI (t := 155) rfl (by decide)) ?_
        refine gx_st (L' := [(2, 1), (0, (ii : Int))]) (S' := [(0, (ii : Int)), (2, 155), (2, 22)]) r_67_62 rfl rfl rfl ?_
        refine gx_aa (n := ii) (x := (p : Int)) r_67_63 (rfl) (by omega) (ty_155 hT) (by omega) ⟨by decide, by decide, by omega⟩ ((by rw [h_p]; exact pin_at pI (ke_i2 ii hi).2 (by omega))) (by omega) ?_
        refine gx_cv (nx := 67) (S2 := []) (gx_av (z_236 (o := 22) (s := p) (ActsT_of hT rfl) hq aR bR (Or.inl (by omega))) (gx_hv (args := [(2, 22), (2, (p : Int))]) (pu_591 hT) ⟨gq_o22y2, gq_kz hi h_p, trivial⟩ ig rfl)) r_67_64 rfl rfl rfl rfl rfl (rcv_v rfl (ty_22 hT) (by decide) rfl (by decide)) rfl (by decide) rfl (fun n64 q64 => ?_)
        obtain ⟨⟨a1, a2, a3, a4⟩, ag, aF⟩ := q64
        have pA : PinR n64 := PinR_fr aF (by decide) pI
        refine gx_st (L' := [(2, 1), (0, (ii : Int))]) (S' := [(2, 1)]) r_67_67 rfl rfl rfl ?_
        refine gx_cv (nx := 71) (S2 := []) (hu_75 hT ag pA) r_67_68 rfl rfl rfl rfl rfl (rcv_v rfl (ty_1 hT) (by decide) rfl (by decide)) rfl (by decide) rfl (fun n68 q68 => ?_)
        have sx : PlanX n68 := q68.1
        have pin_sx : PinR n68 := PinR_fr q68.2.2 (by decide) pA
        show GX T 14 67 71 [(2, 1), (0, (ii : Int))] [] n68 (RI (fun _ m1 => PlanX m → PlanX m1))
        refine gx_st (L' := [(2, 1), (0, (ii : Int))]) (S' := [(0, 0)]) r_67_71 rfl rfl rfl ?_
        exact gx_rt r_67_72 rfl rfl ⟨_, rfl, fun _ => sx⟩
      · refine gx_st (L' := [(2, 1), (0, a)]) (S' := [(0, (-6))]) r_67_38 rfl rfl rfl ?_
        exact gx_rt r_67_40 rfl rfl ⟨_, rfl, fun z => z⟩
    · refine gx_st (L' := [(2, 1), (0, a)]) (S' := [(0, (-2))]) r_67_24 rfl rfl rfl ?_
      exact gx_rt r_67_26 rfl rfl ⟨_, rfl, fun z => z⟩
theorem h_3 (hT : TT T) (hm : Gam m) (hp : PinR m) : GX T 14 3 0 [(2, 1), (9, 0)] [] m (RI (fun _ m1 => PlanX m → PlanX m1)) := by
  refine gx_st (L' := [(2, 1), (9, 0)]) (S' := [(2, 1)]) r_3_0 rfl rfl rfl ?_
  refine gx_gf (x := 2) 2 r_3_1 (rfl) (ty_1 hT) ⟨by decide, rfl, by decide, by decide⟩ rfl (fun _ => by omega) (pin_at hp (t := 2) rfl (by decide)) ?_
  refine gx_st (L' := [(2, 1), (9, 0)]) (S' := [(2, 1), (2, 2)]) r_3_4 rfl rfl rfl ?_
  refine gx_gf (x := 13) 2 r_3_5 (rfl) (ty_1 hT) ⟨by decide, rfl, by decide, by decide⟩ rfl (fun _ => by omega) (pin_at hp (t := 13) rfl (by decide)) ?_
  refine gx_ci (nx := 11) (S2 := []) (gx_hi (args := [(2, 2), (2, 13)]) (pu_223 hT) ⟨gq_o2z, gq_o13z, trivial⟩ hm rfl) r_3_8 rfl rfl rfl rfl rfl (rcv_v rfl (ty_2 hT) (by decide) rfl (by decide)) rfl (by decide) rfl (fun x8 n8 q8 => ?_)
  show GX T 14 3 11 [(2, 1), (9, 0)] [(0, x8)] n8 (RI (fun _ m1 => PlanX m → PlanX m1))
  have pn_n8 : PinR n8 := PinR_fr q8.2.2.2 (by decide) hp
  refine gx_st (L' := [(2, 1), (0, x8)]) (S' := []) r_3_11 rfl rfl rfl ?_
  refine gx_st (L' := [(2, 1), (0, x8)]) (S' := [(2, 1)]) r_3_12 rfl rfl rfl ?_
  refine gx_gf (x := 2) 2 r_3_13 (rfl) (ty_1 hT) ⟨by decide, rfl, by decide, by decide⟩ rfl (fun _ => by omega) (pin_at pn_n8 (t := 2) rfl (by decide)) ?_
  refine gx_st (L' := [(2, 1), (0, x8)]) (S' := [(0, 0), (2, 2)]) r_3_16 rfl rfl rfl ?_
  obtain ⟨m1, e_m1⟩ : ∃ z, z = nu_up n8 2 1 0 := ⟨_, rfl⟩
  have g_m1 : Gam m1 := by rw [e_m1]; exact gu_2_1 q8.2.2.1 (by decide) (by decide)
  have p_m1 : PinR m1 := by rw [e_m1]; exact PinR_up pn_n8 rfl
  refine gx_pf (x := 0) 0 r_3_17 (rfl) (ty_2 hT) ⟨by decide, rfl, by decide, by decide⟩ rfl (fun z => absurd z (by decide)) (fun z => absurd z (by decide)) e_m1.symm ?_
  refine gx_st (L' := [(2, 1), (0, x8)]) (S' := [(0, x8)]) r_3_20 rfl rfl rfl ?_
  refine gx_i0 (P := ¬ x8 = 0) r_3_21 (rfl) (fun h21 => ?_) (fun h21 => ?_)
  · refine gx_st (L' := [(2, 1), (0, x8)]) (S' := [(2, 1)]) r_3_27 rfl rfl rfl ?_
    refine gx_gf (x := 4) 2 r_3_28 (rfl) (ty_1 hT) ⟨by decide, rfl, by decide, by decide⟩ rfl (fun _ => by omega) (pin_at p_m1 (t := 4) rfl (by decide)) ?_
    refine gx_st (L' := [(2, 1), (0, x8)]) (S' := [(2, 1), (2, 4)]) r_3_31 rfl rfl rfl ?_
    refine gx_gf (x := 13) 2 r_3_32 (rfl) (ty_1 hT) ⟨by decide, rfl, by decide, by decide⟩ rfl (fun _ => by omega) (pin_at p_m1 (t := 13) rfl (by decide)) ?_
    refine gx_cv (nx := 38) (S2 := []) (gx_hv (args := [(2, 4), (2, 13)]) (pu_232 hT) ⟨gq_o4y2, gq_o13z, trivial⟩ g_m1 rfl) r_3_35 rfl rfl rfl rfl rfl (rcv_v rfl (ty_4 hT) (by decide) rfl (by decide)) rfl (by decide) rfl (fun n35 q35 => ?_)
    have pn_n35 : PinR n35 := PinR_fr q35.2 (by decide) p_m1
    refine gx_st (L' := [(2, 1), (0, x8)]) (S' := [(2, 1)]) r_3_38 rfl rfl rfl ?_
    refine gx_gf (x := 22) 2 r_3_39 (rfl) (ty_1 hT) ⟨by decide, rfl, by decide, by decide⟩ rfl (fun _ => by omega) (pin_at pn_n35 (t := 22) rfl (by decide)) ?_
    refine gx_cv (nx := 45) (S2 := []) (gx_hv (args := [(2, 22)]) (pu_234 hT) ⟨gq_o22y2, trivial⟩ q35.1 rfl) r_3_42 rfl rfl rfl rfl rfl (rcv_v rfl (ty_22 hT) (by decide) rfl (by decide)) rfl (by decide) rfl (fun n42 q42 => ?_)
    have pn_n42 : PinR n42 := PinR_fr q42.2 (by decide) pn_n35
    refine gx_st (L' := [(2, 1), (0, x8)]) (S' := [(2, 1)]) r_3_45 rfl rfl rfl ?_
    refine gx_cv (nx := 49) (S2 := []) (hu_75 hT q42.1 pn_n42) r_3_46 rfl rfl rfl rfl rfl (rcv_v rfl (ty_1 hT) (by decide) rfl (by decide)) rfl (by decide) rfl (fun n46 q46 => ?_)
    have sx : PlanX n46 := q46.1
    have pin_sx : PinR n46 := PinR_fr q46.2.2 (by decide) pn_n42
    show GX T 14 3 49 [(2, 1), (0, x8)] [] n46 (RI (fun _ m1 => PlanX m → PlanX m1))
    refine gx_st (L' := [(2, 1), (0, x8)]) (S' := [(2, 1)]) r_3_49 rfl rfl rfl ?_
    refine gx_gf (x := 4) 2 r_3_50 (rfl) (ty_1 hT) ⟨by decide, rfl, by decide, by decide⟩ rfl (fun _ => by omega) (pin_at pin_sx (t := 4) rfl (by decide)) ?_
    refine gx_gf (x := (n46 4 0)) 0 r_3_53 (rfl) (ty_4 hT) ⟨by decide, rfl, by decide, by decide⟩ rfl (fun z => absurd z (by decide)) (rfl) ?_
    exact gx_rt r_3_56 rfl rfl ⟨_, rfl, fun _ => sx⟩
  · have h21 := Decidable.not_not.mp h21
    refine gx_st (L' := [(2, 1), (0, x8)]) (S' := [(0, (-4))]) r_3_24 rfl rfl rfl ?_
    exact gx_rt r_3_26 rfl rfl ⟨_, rfl, fun z => planx_fr (W := [2001]) (by rw [e_m1]; exact Fr_up rfl) (by decide) (planx_fr q8.2.2.2 (by decide) z)⟩
end FORGET
