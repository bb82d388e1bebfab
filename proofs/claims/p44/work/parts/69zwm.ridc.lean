/-! the class's answers of the hunt -/
theorem r_38_0 : row 38 0 = some (.aload_n 0, 1, 0, 0, 0, 0) := rfl
theorem r_38_1 : row 38 1 = some (.getfield 19, 4, 9, 1, 2, 2159) := rfl
theorem r_38_4 : row 38 4 = some (.invokevirtual 162, 7, 252, 0, 10, 4036) := rfl
theorem r_38_7 : row 38 7 = some (.ifCond .eq 13, 10, 20, 0, 0, 0) := rfl
theorem r_38_10 : row 38 10 = some (.aload_n 0, 11, 0, 0, 0, 0) := rfl
theorem r_38_11 : row 38 11 = some (.invokevirtual 262, 14, 79, 0, 0, 4199) := rfl
theorem r_38_14 : row 38 14 = some (.getfield 266, 17, 2, 4, 10, 2074) := rfl
theorem r_38_17 : row 38 17 = some (.goto 5, 20, 22, 0, 0, 0) := rfl
theorem r_38_20 : row 38 20 = some (.bipush (-2), 22, (-2), 0, 0, 0) := rfl
theorem r_38_22 : row 38 22 = some (.ireturn, 23, 0, 0, 0, 0) := rfl
theorem r_39_0 : row 39 0 = some (.aload_n 0, 1, 0, 0, 0, 0) := rfl
theorem r_39_1 : row 39 1 = some (.getfield 19, 4, 9, 1, 2, 2159) := rfl
theorem r_39_4 : row 39 4 = some (.invokevirtual 162, 7, 252, 0, 10, 4036) := rfl
theorem r_39_7 : row 39 7 = some (.ifCond .eq 13, 10, 20, 0, 0, 0) := rfl
theorem r_39_10 : row 39 10 = some (.aload_n 0, 11, 0, 0, 0, 0) := rfl
theorem r_39_11 : row 39 11 = some (.invokevirtual 262, 14, 79, 0, 0, 4199) := rfl
theorem r_39_14 : row 39 14 = some (.getfield 269, 17, 2, 5, 10, 2076) := rfl
theorem r_39_17 : row 39 17 = some (.goto 5, 20, 22, 0, 0, 0) := rfl
theorem r_39_20 : row 39 20 = some (.bipush (-2), 22, (-2), 0, 0, 0) := rfl
theorem r_39_22 : row 39 22 = some (.ireturn, 23, 0, 0, 0, 0) := rfl
theorem r_40_0 : row 40 0 = some (.aload_n 0, 1, 0, 0, 0, 0) := rfl
theorem r_40_1 : row 40 1 = some (.iload_n 1, 2, 0, 0, 0, 0) := rfl
theorem r_40_2 : row 40 2 = some (.invokevirtual 207, 5, 73, 1, 0, 4107) := rfl
theorem r_40_5 : row 40 5 = some (.ifCond .ne 6, 8, 11, 0, 0, 0) := rfl
theorem r_40_8 : row 40 8 = some (.bipush (-2), 10, (-2), 0, 0, 0) := rfl
theorem r_40_10 : row 40 10 = some (.ireturn, 11, 0, 0, 0, 0) := rfl
theorem r_40_11 : row 40 11 = some (.aload_n 0, 12, 0, 0, 0, 0) := rfl
theorem r_40_12 : row 40 12 = some (.invokevirtual 262, 15, 79, 0, 0, 4199) := rfl
theorem r_40_15 : row 40 15 = some (.astore_n 2, 16, 0, 0, 0, 0) := rfl
theorem r_40_16 : row 40 16 = some (.aload_n 2, 17, 0, 0, 0, 0) := rfl
theorem r_40_17 : row 40 17 = some (.getfield 266, 20, 2, 4, 10, 2074) := rfl
theorem r_40_20 : row 40 20 = some (.iconst (-1), 21, (-1), 0, 0, 0) := rfl
theorem r_40_21 : row 40 21 = some (.if_icmp .ne 7, 24, 28, 0, 0, 0) := rfl
theorem r_40_24 : row 40 24 = some (.iconst (-1), 25, (-1), 0, 0, 0) := rfl
theorem r_40_25 : row 40 25 = some (.goto 11, 28, 36, 0, 0, 0) := rfl
theorem r_40_28 : row 40 28 = some (.aload_n 2, 29, 0, 0, 0, 0) := rfl
theorem r_40_29 : row 40 29 = some (.getfield 272, 32, 2, 2, 12, 2071) := rfl
theorem r_40_32 : row 40 32 = some (.iload_n 1, 33, 0, 0, 0, 0) := rfl
theorem r_40_33 : row 40 33 = some (.invokestatic 134, 36, 237, 2, 10, 4023) := rfl
theorem r_40_36 : row 40 36 = some (.ireturn, 37, 0, 0, 0, 0) := rfl
theorem r_79_0 : row 79 0 = some (.aload_n 0, 1, 0, 0, 0, 0) := rfl
theorem r_79_1 : row 79 1 = some (.getfield 89, 4, 9, 15, 3, 2173) := rfl
theorem r_79_4 : row 79 4 = some (.ifCond .ne 19, 7, 23, 0, 0, 0) := rfl
theorem r_79_7 : row 79 7 = some (.aload_n 0, 8, 0, 0, 0, 0) := rfl
theorem r_79_8 : row 79 8 = some (.getfield 49, 11, 9, 7, 2, 2165) := rfl
theorem r_79_11 : row 79 11 = some (.aload_n 0, 12, 0, 0, 0, 0) := rfl
theorem r_79_12 : row 79 12 = some (.getfield 19, 15, 9, 1, 2, 2159) := rfl
theorem r_79_15 : row 79 15 = some (.invokevirtual 387, 18, 246, 1, 10, 4203) := rfl
theorem r_79_18 : row 79 18 = some (.aload_n 0, 19, 0, 0, 0, 0) := rfl
theorem r_79_19 : row 79 19 = some (.iconst 1, 20, 1, 0, 0, 0) := rfl
theorem r_79_20 : row 79 20 = some (.putfield 89, 23, 9, 15, 3, 2173) := rfl
theorem r_79_23 : row 79 23 = some (.aload_n 0, 24, 0, 0, 0, 0) := rfl
theorem r_79_24 : row 79 24 = some (.getfield 49, 27, 9, 7, 2, 2165) := rfl
theorem r_79_27 : row 79 27 = some (.areturn, 28, 0, 0, 0, 0) := rfl
/-- the plans that are known are those of the isle -/
def PlanX (m : Mm) : Prop := m 1 15 = 1 → ∀ (w : Wd) (D : Nat → Nat → Int), WD m 4 w → WBf w → WR w → WyD w D → HuntS m 54 (w 1 - 1) (rowsW w D)
section RIDC
variable {T : List Kd} {m : Mm}
theorem huntT_54 (hT : TT T) : HuntT T 54 := by
  refine ⟨by decide, ty_54 hT, ty_55 hT, ty_56 hT, ty_57 hT, ty_58 hT, fun i hi => ?_⟩
  have hi2 : i = 0 ∨ i = 1 ∨ i = 2 ∨ i = 3 ∨ i = 4 ∨ i = 5 ∨ i = 6 ∨ i = 7 ∨ i = 8 ∨ i = 9 ∨ i = 10 ∨ i = 11 ∨ i = 12 := by omega
  rcases hi2 with rfl | rfl | rfl | rfl | rfl | rfl | rfl | rfl | rfl | rfl | rfl | rfl | rfl <;> exact RideT_of hT rfl
theorem huntR_54 (hp : PinR m) : HuntR m 54 := by
  refine ⟨pin_at hp (t := 55) rfl (by decide), pin_at hp (t := 56) rfl (by decide), pin_at hp (t := 57) rfl (by decide), pin_at hp (t := 58) rfl (by decide), fun i hi => ?_⟩
  have hi2 : i = 0 ∨ i = 1 ∨ i = 2 ∨ i = 3 ∨ i = 4 ∨ i = 5 ∨ i = 6 ∨ i = 7 ∨ i = 8 ∨ i = 9 ∨ i = 10 ∨ i = 11 ∨ i = 12 := by omega
  rcases hi2 with rfl | rfl | rfl | rfl | rfl | rfl | rfl | rfl | rfl | rfl | rfl | rfl | rfl
  · exact ⟨pin_at hp (t := 59) rfl (by decide), RideR_of hp rfl⟩
  · exact ⟨pin_at hp (t := 62) rfl (by decide), RideR_of hp rfl⟩
  · exact ⟨pin_at hp (t := 65) rfl (by decide), RideR_of hp rfl⟩
  · exact ⟨pin_at hp (t := 68) rfl (by decide), RideR_of hp rfl⟩
  · exact ⟨pin_at hp (t := 71) rfl (by decide), RideR_of hp rfl⟩
  · exact ⟨pin_at hp (t := 74) rfl (by decide), RideR_of hp rfl⟩
  · exact ⟨pin_at hp (t := 77) rfl (by decide), RideR_of hp rfl⟩
  · exact ⟨pin_at hp (t := 80) rfl (by decide), RideR_of hp rfl⟩
  · exact ⟨pin_at hp (t := 83) rfl (by decide), RideR_of hp rfl⟩
  · exact ⟨pin_at hp (t := 86) rfl (by decide), RideR_of hp rfl⟩
  · exact ⟨pin_at hp (t := 89) rfl (by decide), RideR_of hp rfl⟩
  · exact ⟨pin_at hp (t := 92) rfl (by decide), RideR_of hp rfl⟩
  · exact ⟨pin_at hp (t := 95) rfl (by decide), RideR_of hp rfl⟩
theorem huntT_98 (hT : TT T) : HuntT T 98 := by
  refine ⟨by decide, ty_98 hT, ty_99 hT, ty_100 hT, ty_101 hT, ty_102 hT, fun i hi => ?_⟩
  have hi2 : i = 0 ∨ i = 1 ∨ i = 2 ∨ i = 3 ∨ i = 4 ∨ i = 5 ∨ i = 6 ∨ i = 7 ∨ i = 8 ∨ i = 9 ∨ i = 10 ∨ i = 11 ∨ i = 12 := by omega
  rcases hi2 with rfl | rfl | rfl | rfl | rfl | rfl | rfl | rfl | rfl | rfl | rfl | rfl | rfl <;> exact RideT_of hT rfl
theorem huntR_98 (hp : PinR m) : HuntR m 98 := by
  refine ⟨pin_at hp (t := 99) rfl (by decide), pin_at hp (t := 100) rfl (by decide), pin_at hp (t := 101) rfl (by decide), pin_at hp (t := 102) rfl (by decide), fun i hi => ?_⟩
  have hi2 : i = 0 ∨ i = 1 ∨ i = 2 ∨ i = 3 ∨ i = 4 ∨ i = 5 ∨ i = 6 ∨ i = 7 ∨ i = 8 ∨ i = 9 ∨ i = 10 ∨ i = 11 ∨ i = 12 := by omega
  rcases hi2 with rfl | rfl | rfl | rfl | rfl | rfl | rfl | rfl | rfl | rfl | rfl | rfl | rfl
  · exact ⟨pin_at hp (t := 103) rfl (by decide), RideR_of hp rfl⟩
  · exact ⟨pin_at hp (t := 106) rfl (by decide), RideR_of hp rfl⟩
  · exact ⟨pin_at hp (t := 109) rfl (by decide), RideR_of hp rfl⟩
  · exact ⟨pin_at hp (t := 112) rfl (by decide), RideR_of hp rfl⟩
  · exact ⟨pin_at hp (t := 115) rfl (by decide), RideR_of hp rfl⟩
  · exact ⟨pin_at hp (t := 118) rfl (by decide), RideR_of hp rfl⟩
  · exact ⟨pin_at hp (t := 121) rfl (by decide), RideR_of hp rfl⟩
  · exact ⟨pin_at hp (t := 124) rfl (by decide), RideR_of hp rfl⟩
  · exact ⟨pin_at hp (t := 127) rfl (by decide), RideR_of hp rfl⟩
  · exact ⟨pin_at hp (t := 130) rfl (by decide), RideR_of hp rfl⟩
  · exact ⟨pin_at hp (t := 133) rfl (by decide), RideR_of hp rfl⟩
  · exact ⟨pin_at hp (t := 136) rfl (by decide), RideR_of hp rfl⟩
  · exact ⟨pin_at hp (t := 139) rfl (by decide), RideR_of hp rfl⟩
set_option maxRecDepth 100000 in
theorem cu_246a : conL[434]? = some (246, [(2, 54, 0), (2, 4, 0)], (9, 0, 0), [54004, 54005, 54006, 56999, 57999, 58999, 59000, 59001, 59002, 59003, 59004, 59005, 59006, 59007, 60999, 61999], 16) := rfl
set_option maxRecDepth 100000 in
theorem pu_246a (hT : TT T) : ConH T (246, [(2, 54, 0), (2, 4, 0)], (9, 0, 0), [54004, 54005, 54006, 56999, 57999, 58999, 59000, 59001, 59002, 59003, 59004, 59005, 59006, 59007, 60999, 61999], 16) := fun args m => ((all_con hT 434).1 (by decide)) _ cu_246a args m
set_option maxRecDepth 100000 in
theorem cu_246b : conL[479]? = some (246, [(2, 62, 0), (2, 13, 0)], (9, 0, 0), [62004, 62005, 62006, 64999, 65999, 66999, 67000, 67001, 67002, 67003, 67004, 67005, 67006, 67007, 68999, 69999], 16) := rfl
set_option maxRecDepth 100000 in
theorem pu_246b (hT : TT T) : ConH T (246, [(2, 62, 0), (2, 13, 0)], (9, 0, 0), [62004, 62005, 62006, 64999, 65999, 66999, 67000, 67001, 67002, 67003, 67004, 67005, 67006, 67007, 68999, 69999], 16) := fun args m => ((all_con hT 479).1 (by decide)) _ cu_246b args m
theorem gq_54 : gq0 (2, 54, 0) (2, 54) := (gq_2 rfl).mpr ⟨rfl, by decide, by decide, by decide⟩
theorem s_54 (hT : TT T) (hp : PinR m) (hm : Gam m) (r : WX m) : GX T 18 246 0 [(2, 54), (2, 4), (9, 0)] [] m (fun v m1 => RV (fun m1 => Gam m1 ∧ Fr [54004, 54005, 54006, 56999, 57999, 58999, 59000, 59001, 59002, 59003, 59004, 59005, 59006, 59007, 60999, 61999] m m1) v m1 ∧ ∀ p : {p : Wd × (Nat → Nat → Int) // WD m 4 p.1 ∧ WBf p.1 ∧ WR p.1 ∧ WyD p.1 p.2}, RV (fun m1 => HuntS m1 54 (p.1.1 1 - 1) (rowsW p.1.1 p.1.2)) v m1) := by
  have b1 := gb_193_1 hm
  have e42 : m 4 2 = m 193 1 := r.1.1.2.2.1
  have c := gx_hv (args := [(2, 54), (2, 4)]) (pu_246a hT) ⟨gq_54, gq_o4, trivial⟩ hm rfl
  refine gx_all (d2 := 18) (gx_d c (by decide)) (fun p => ?_)
  obtain ⟨⟨w, D⟩, h1, h2, h3, h4⟩ := p
  have w4 : WD m 4 w := h1
  have q1 : m 4 2 = w 1 := w4.1.2.2.1
  have q0 : 0 ≤ w 0 ∧ w 0 ≤ 7 := w4.2.1.1
  have z := z_246 (w := w) (D := D) hT (IsleT_of hT rfl) h3 h2 h4 (np := (w 0).toNat) (by omega) (n := (w 1).toNat) (by omega) (by omega) (huntT_54 hT) (Or.inr (by decide)) (huntR_54 hp) (IsleR_of hp rfl) w4
  rw [show (((w 1).toNat : Nat) : Int) = w 1 by omega] at z
  exact gx_imp z (fun v m1 ⟨y, a, _⟩ => ⟨y, a⟩)
theorem z_79 (hT : TT T) (hp : PinR m) (hm : Gam m) (r : WX m) (px : PlanX m) {n : Nat} (hn : m 193 1 = (n : Int)) : GX T 19 79 0 [(2, 1)] [] m (fun v m1 => v = (2, 54) ∧ PinR m1 ∧ m1 193 = m 193 ∧ (∀ p i : Nat, 4 ≤ p → p ≤ 12 → i < 900 → m1 p i = m p i) ∧ m1 1 15 = 1 ∧ ∀ (w : Wd) (D : Nat → Nat → Int), WD m 4 w → WBf w → WR w → WyD w D → HuntS m1 54 (w 1 - 1) (rowsW w D)) := by
  have bf15 := gb_1_15 hm
  refine gx_st (L' := [(2, 1)]) (S' := [(2, 1)]) r_79_0 rfl rfl rfl ?_
  refine gx_gf (x := (m 1 15)) 0 r_79_1 (rfl) (ty_1 hT) ⟨by decide, rfl, by decide, by decide⟩ rfl (fun z => absurd z (by decide)) (rfl) ?_
  refine gx_i0 (P := ¬ (m 1 15) = 0) r_79_4 (rfl) (fun h4 => ?_) (fun h4 => ?_)
  · refine gx_st (L' := [(2, 1)]) (S' := [(2, 1)]) r_79_23 rfl rfl rfl ?_
    refine gx_gf (x := 54) 2 r_79_24 (rfl) (ty_1 hT) ⟨by decide, rfl, by decide, by decide⟩ rfl (fun _ => by omega) (pin_at hp (t := 54) rfl (by decide)) ?_
    exact gx_rt r_79_27 rfl rfl ⟨rfl, hp, rfl, fun _ _ _ _ _ => rfl, by first | omega | (have := bf15; omega), px (by first | omega | (have := bf15; omega))⟩
  · have h4 := Decidable.not_not.mp h4
    refine gx_st (L' := [(2, 1)]) (S' := [(2, 1)]) r_79_7 rfl rfl rfl ?_
    refine gx_gf (x := 54) 2 r_79_8 (rfl) (ty_1 hT) ⟨by decide, rfl, by decide, by decide⟩ rfl (fun _ => by omega) (pin_at hp (t := 54) rfl (by decide)) ?_
    refine gx_st (L' := [(2, 1)]) (S' := [(2, 1), (2, 54)]) r_79_11 rfl rfl rfl ?_
    refine gx_gf (x := 4) 2 r_79_12 (rfl) (ty_1 hT) ⟨by decide, rfl, by decide, by decide⟩ rfl (fun _ => by omega) (pin_at hp (t := 4) rfl (by decide)) ?_
    refine gx_cq (nx := 18) (S2 := []) r_79_15 rfl rfl rfl rfl rfl (rcv_v rfl (ty_54 hT) (by decide) rfl (by decide)) rfl (s_54 hT hp hm r) (by decide) rfl (fun v15 n15 q15 => ?_)
    obtain ⟨⟨h9, gm1, f1⟩, hD⟩ := q15
    have e193 : n15 193 = m 193 := funext (Fr_cell (o := 193) f1 (by decide) (by decide))
    have e4 : ∀ p i : Nat, 4 ≤ p → p ≤ 12 → i < 900 → n15 p i = m p i := fun p i p1 p2 hi => fr_4 f1 (by decide) p i p1 p2 hi
    have hp1 : PinR n15 := PinR_fr f1 (by decide) hp
    unfold pushv
    rw [if_pos h9]
    show GX T 19 79 18 [(2, 1)] [] n15 (fun v m1 => v = (2, 54) ∧ PinR m1 ∧ m1 193 = m 193 ∧ (∀ p i : Nat, 4 ≤ p → p ≤ 12 → i < 900 → m1 p i = m p i) ∧ m1 1 15 = 1 ∧ ∀ (w : Wd) (D : Nat → Nat → Int), WD m 4 w → WBf w → WR w → WyD w D → HuntS m1 54 (w 1 - 1) (rowsW w D))
    refine gx_st (L' := [(2, 1)]) (S' := [(2, 1)]) r_79_18 rfl rfl rfl ?_
    refine gx_st (L' := [(2, 1)]) (S' := [(0, 1), (2, 1)]) r_79_19 rfl rfl rfl ?_
    obtain ⟨m1, e_m1⟩ : ∃ z, z = nu_up n15 1 15 1 := ⟨_, rfl⟩
    refine gx_pf (x := 1) 0 r_79_20 (rfl) (ty_1 hT) ⟨by decide, rfl, by decide, by decide⟩ rfl (fun _ => by omega) (fun z => absurd z (by decide)) e_m1.symm ?_
    refine gx_st (L' := [(2, 1)]) (S' := [(2, 1)]) r_79_23 rfl rfl rfl ?_
    refine gx_gf (x := 54) 2 r_79_24 (rfl) (ty_1 hT) ⟨by decide, rfl, by decide, by decide⟩ rfl (fun _ => by omega) (by show m1 1 7 = _; rw [e_m1, nu_ne (by decide)]; exact pin_at hp1 (t := 54) rfl (by decide)) ?_
    exact gx_rt r_79_27 rfl rfl ⟨rfl, by rw [e_m1]; exact PinR_up hp1 rfl, by rw [e_m1]; exact (funext fun i => nu_no (by decide)).trans e193, fun p i p1 p2 hi => by rw [e_m1, nu_no (by omega)]; exact e4 p i p1 p2 hi, by rw [e_m1, nu_at], fun w D h1 h2 h3 h4 => hunts_m (hD ⟨(w, D), h1, h2, h3, h4⟩).2 (by rw [e_m1, nu_no (by decide)]) (by rw [e_m1, nu_no (by decide)]) (by rw [e_m1, nu_no (by decide)]) (fun i _ => by rw [e_m1, nu_no (by decide)])⟩
theorem z_38 (hT : TT T) (hp : PinR m) (hm : Gam m) (r : WX m) (px : PlanX m) {n : Nat} (hn : m 193 1 = (n : Int)) : GX T 20 38 0 [(2, 1)] [] m (RI (fun v m1 => (¬ 0 < m 4 0 → v = -2) ∧ (0 < m 4 0 → ∀ D : Nat → Nat → Int, WyD (pw (m 193)) D → RidF n (rowsW (pw (m 193)) D) v) ∧ PlanX m1)) := by
  refine gx_st (L' := [(2, 1)]) (S' := [(2, 1)]) r_38_0 rfl rfl rfl ?_
  refine gx_gf (x := 4) 2 r_38_1 (rfl) (ty_1 hT) ⟨by decide, rfl, by decide, by decide⟩ rfl (fun _ => by omega) (pin_at hp (t := 4) rfl (by decide)) ?_
  refine gx_ci (nx := 7) (S2 := []) (x_252 hT) r_38_4 rfl rfl rfl rfl rfl (rcv_v rfl (ty_4 hT) (by decide) rfl (by decide)) rfl (by decide) rfl (fun x4 n4 q4 => ?_)
  obtain rfl := q4.1.symm
  obtain rfl := q4.2.symm
  show GX T 20 38 7 [(2, 1)] [(0, (if 0 < m 4 0 then 1 else 0))] m (RI (fun v m1 => (¬ 0 < m 4 0 → v = -2) ∧ (0 < m 4 0 → ∀ D : Nat → Nat → Int, WyD (pw (m 193)) D → RidF n (rowsW (pw (m 193)) D) v) ∧ PlanX m1))
  refine gx_i0 (P := ¬ (0 < m 4 0)) r_38_7 (b01_eq) (fun h7 => ?_) (fun h7 => ?_)
  · refine gx_st (L' := [(2, 1)]) (S' := [(0, (-2))]) r_38_20 rfl rfl rfl ?_
    exact gx_rt r_38_22 rfl rfl ⟨_, rfl, fun _ => rfl, fun z => absurd z h7, px⟩
  · have h7 := Decidable.not_not.mp h7
    refine gx_st (L' := [(2, 1)]) (S' := [(2, 1)]) r_38_10 rfl rfl rfl ?_
    refine gx_cq (nx := 14) (S2 := []) r_38_11 rfl rfl rfl rfl rfl (rcv_v rfl (ty_1 hT) (by decide) rfl (by decide)) rfl (z_79 hT hp hm r px hn) (by decide) rfl (fun v11 n11 q11 => ?_)
    obtain ⟨ev11, hp1, e193, e4, e15, hD⟩ := q11
    subst ev11
    have px1 : PlanX n11 := fun _ w D h1 h2 h3 h4 => hD w D (WD_eq h1 (fun p i p1 p2 hi => (e4 p i p1 p2 hi).symm)) h2 h3 h4
    have hE : ∀ D : Nat → Nat → Int, WyD (pw (m 193)) D → HuntS n11 54 ((n : Int) - 1) (rowsW (pw (m 193)) D) := fun D h => by
      have z := hD (pw (m 193)) D (WD_w r.1 (pw_ag (m 193))) (wbf_pw hm) (wr_pw hm) h
      rw [pw_at (by decide) (by decide), hn] at z
      exact z
    show GX T 20 38 14 [(2, 1)] [(2, 54)] n11 (RI (fun v m1 => (¬ 0 < m 4 0 → v = -2) ∧ (0 < m 4 0 → ∀ D : Nat → Nat → Int, WyD (pw (m 193)) D → RidF n (rowsW (pw (m 193)) D) v) ∧ PlanX m1))
    refine gx_gf (x := (n11 54 4)) 0 r_38_14 (rfl) (ty_54 hT) ⟨by decide, rfl, by decide, by decide⟩ rfl (fun z => absurd z (by decide)) (rfl) ?_
    refine gx_st (L' := [(2, 1)]) (S' := [(0, (n11 54 4))]) r_38_17 rfl rfl rfl ?_
    exact gx_rt r_38_22 rfl rfl ⟨_, rfl, fun z => absurd h7 z, fun _ D h => hunts_rid (hE D h), px1⟩
theorem z_39 (hT : TT T) (hp : PinR m) (hm : Gam m) (r : WX m) (px : PlanX m) {n : Nat} (hn : m 193 1 = (n : Int)) : GX T 20 39 0 [(2, 1)] [] m (RI (fun v m1 => (¬ 0 < m 4 0 → v = -2) ∧ (0 < m 4 0 → ∀ D : Nat → Nat → Int, WyD (pw (m 193)) D → WaysV n (rowsW (pw (m 193)) D) v) ∧ PlanX m1)) := by
  have rb : ∀ (D : Nat → Nat → Int), WyD (pw (m 193)) D → ∀ L : Nat, L < n → (rowsW (pw (m 193)) D L).length < 2147483647 := fun D h L hL => by
    have w4 := WD_w r.1 (pw_ag (m 193))
    have b1 := gb_193_1 hm
    have b0 := w4.2.1.1
    by_cases h7 : 0 < pw (m 193) 7
    · have pl := w4.2.2.2.2.2 0 (by decide) h7
      exact rows_b w4.2.1 w4.2.2.2 h (by omega) (by omega) (by omega) (sb_begin (wbf_pw hm).1 (wbf_pw hm).2 (by decide) (fun _ => ⟨pl.1, pl.2.1⟩)) v8_begin rfl
    · unfold rowsW
      rw [rows_n0 h7]; decide
  refine gx_st (L' := [(2, 1)]) (S' := [(2, 1)]) r_39_0 rfl rfl rfl ?_
  refine gx_gf (x := 4) 2 r_39_1 (rfl) (ty_1 hT) ⟨by decide, rfl, by decide, by decide⟩ rfl (fun _ => by omega) (pin_at hp (t := 4) rfl (by decide)) ?_
  refine gx_ci (nx := 7) (S2 := []) (x_252 hT) r_39_4 rfl rfl rfl rfl rfl (rcv_v rfl (ty_4 hT) (by decide) rfl (by decide)) rfl (by decide) rfl (fun x4 n4 q4 => ?_)
  obtain rfl := q4.1.symm
  obtain rfl := q4.2.symm
  show GX T 20 39 7 [(2, 1)] [(0, (if 0 < m 4 0 then 1 else 0))] m (RI (fun v m1 => (¬ 0 < m 4 0 → v = -2) ∧ (0 < m 4 0 → ∀ D : Nat → Nat → Int, WyD (pw (m 193)) D → WaysV n (rowsW (pw (m 193)) D) v) ∧ PlanX m1))
  refine gx_i0 (P := ¬ (0 < m 4 0)) r_39_7 (b01_eq) (fun h7 => ?_) (fun h7 => ?_)
  · refine gx_st (L' := [(2, 1)]) (S' := [(0, (-2))]) r_39_20 rfl rfl rfl ?_
    exact gx_rt r_39_22 rfl rfl ⟨_, rfl, fun _ => rfl, fun z => absurd z h7, px⟩
  · have h7 := Decidable.not_not.mp h7
    refine gx_st (L' := [(2, 1)]) (S' := [(2, 1)]) r_39_10 rfl rfl rfl ?_
    refine gx_cq (nx := 14) (S2 := []) r_39_11 rfl rfl rfl rfl rfl (rcv_v rfl (ty_1 hT) (by decide) rfl (by decide)) rfl (z_79 hT hp hm r px hn) (by decide) rfl (fun v11 n11 q11 => ?_)
    obtain ⟨ev11, hp1, e193, e4, e15, hD⟩ := q11
    subst ev11
    have px1 : PlanX n11 := fun _ w D h1 h2 h3 h4 => hD w D (WD_eq h1 (fun p i p1 p2 hi => (e4 p i p1 p2 hi).symm)) h2 h3 h4
    have hE : ∀ D : Nat → Nat → Int, WyD (pw (m 193)) D → HuntS n11 54 ((n : Int) - 1) (rowsW (pw (m 193)) D) := fun D h => by
      have z := hD (pw (m 193)) D (WD_w r.1 (pw_ag (m 193))) (wbf_pw hm) (wr_pw hm) h
      rw [pw_at (by decide) (by decide), hn] at z
      exact z
    show GX T 20 39 14 [(2, 1)] [(2, 54)] n11 (RI (fun v m1 => (¬ 0 < m 4 0 → v = -2) ∧ (0 < m 4 0 → ∀ D : Nat → Nat → Int, WyD (pw (m 193)) D → WaysV n (rowsW (pw (m 193)) D) v) ∧ PlanX m1))
    refine gx_gf (x := (n11 54 5)) 0 r_39_14 (rfl) (ty_54 hT) ⟨by decide, rfl, by decide, by decide⟩ rfl (fun z => absurd z (by decide)) (rfl) ?_
    refine gx_st (L' := [(2, 1)]) (S' := [(0, (n11 54 5))]) r_39_17 rfl rfl rfl ?_
    exact gx_rt r_39_22 rfl rfl ⟨_, rfl, fun z => absurd h7 z, fun _ D h => hunts_ways (hE D h) (rb D h), px1⟩
theorem z_40 (hT : TT T) (hp : PinR m) (hm : Gam m) (r : WX m) (px : PlanX m) {n : Nat} (hn : m 193 1 = (n : Int)) (a : Int) : GX T 20 40 0 [(2, 1), (0, a), (9, 0)] [] m (RI (fun v m1 => (¬ (0 ≤ a ∧ a < m 4 2) → v = -2) ∧ (∀ q : Nat, a = (q : Int) → (0 ≤ a ∧ a < m 4 2) → ∀ D : Nat → Nat → Int, WyD (pw (m 193)) D → PlanV n (rowsW (pw (m 193)) D) q v) ∧ PlanX m1)) := by
  have b1 := gb_193_1 hm
  have e42 : m 4 2 = m 193 1 := r.1.1.2.2.1
  refine gx_st (L' := [(2, 1), (0, a), (9, 0)]) (S' := [(2, 1)]) r_40_0 rfl rfl rfl ?_
  refine gx_st (L' := [(2, 1), (0, a), (9, 0)]) (S' := [(0, a), (2, 1)]) r_40_1 rfl rfl rfl ?_
  refine gx_ci (nx := 5) (S2 := []) (x_73 hT hp a) r_40_2 rfl rfl rfl rfl rfl (rcv_v rfl (ty_1 hT) (by decide) rfl (by decide)) rfl (by decide) rfl (fun x2 n2 q2 => ?_)
  obtain rfl := q2.1.symm
  obtain rfl := q2.2.symm
  show GX T 20 40 5 [(2, 1), (0, a), (9, 0)] [(0, (if 0 ≤ a ∧ a < m 4 2 then 1 else 0))] m (RI (fun v m1 => (¬ (0 ≤ a ∧ a < m 4 2) → v = -2) ∧ (∀ q : Nat, a = (q : Int) → (0 ≤ a ∧ a < m 4 2) → ∀ D : Nat → Nat → Int, WyD (pw (m 193)) D → PlanV n (rowsW (pw (m 193)) D) q v) ∧ PlanX m1))
  refine gx_i0 (P := 0 ≤ a ∧ a < m 4 2) r_40_5 (b01_ne) (fun h5 => ?_) (fun h5 => ?_)
  · obtain ⟨k, h_k⟩ : ∃ i : Nat, a = (i : Int) := ⟨a.toNat, by omega⟩
    rw [h_k]
    refine gx_st (L' := [(2, 1), (0, (k : Int)), (9, 0)]) (S' := [(2, 1)]) r_40_11 rfl rfl rfl ?_
    refine gx_cq (nx := 15) (S2 := []) r_40_12 rfl rfl rfl rfl rfl (rcv_v rfl (ty_1 hT) (by decide) rfl (by decide)) rfl (z_79 hT hp hm r px hn) (by decide) rfl (fun v12 n12 q12 => ?_)
    obtain ⟨ev12, hp1, e193, e4, e15, hD⟩ := q12
    subst ev12
    have px1 : PlanX n12 := fun _ w D h1 h2 h3 h4 => hD w D (WD_eq h1 (fun p i p1 p2 hi => (e4 p i p1 p2 hi).symm)) h2 h3 h4
    have hE : ∀ D : Nat → Nat → Int, WyD (pw (m 193)) D → HuntS n12 54 ((n : Int) - 1) (rowsW (pw (m 193)) D) := fun D h => by
      have z := hD (pw (m 193)) D (WD_w r.1 (pw_ag (m 193))) (wbf_pw hm) (wr_pw hm) h
      rw [pw_at (by decide) (by decide), hn] at z
      exact z
    show GX T 20 40 15 [(2, 1), (0, (k : Int)), (9, 0)] [(2, 54)] n12 (RI (fun v m1 => (¬ (0 ≤ (k : Int) ∧ (k : Int) < m 4 2) → v = -2) ∧ (∀ q : Nat, (k : Int) = (q : Int) → (0 ≤ (k : Int) ∧ (k : Int) < m 4 2) → ∀ D : Nat → Nat → Int, WyD (pw (m 193)) D → PlanV n (rowsW (pw (m 193)) D) q v) ∧ PlanX m1))
    refine gx_st (L' := [(2, 1), (0, (k : Int)), (2, 54)]) (S' := []) r_40_15 rfl rfl rfl ?_
    refine gx_st (L' := [(2, 1), (0, (k : Int)), (2, 54)]) (S' := [(2, 54)]) r_40_16 rfl rfl rfl ?_
    refine gx_gf (x := (n12 54 4)) 0 r_40_17 (rfl) (ty_54 hT) ⟨by decide, rfl, by decide, by decide⟩ rfl (fun z => absurd z (by decide)) (rfl) ?_
    refine gx_st (L' := [(2, 1), (0, (k : Int)), (2, 54)]) (S' := [(0, (-1)), (0, (n12 54 4))]) r_40_20 rfl rfl rfl ?_
    refine gx_ic (P := ¬ (n12 54 4) = (-1)) r_40_21 (rfl) (fun h21 => ?_) (fun h21 => ?_)
    · refine gx_st (L' := [(2, 1), (0, (k : Int)), (2, 54)]) (S' := [(2, 54)]) r_40_28 rfl rfl rfl ?_
      refine gx_gf (x := 57) 2 r_40_29 (rfl) (ty_54 hT) ⟨by decide, rfl, by decide, by decide⟩ rfl (fun _ => by omega) (pin_at hp1 (t := 57) rfl (by decide)) ?_
      refine gx_st (L' := [(2, 1), (0, (k : Int)), (2, 54)]) (S' := [(0, (k : Int)), (2, 57)]) r_40_32 rfl rfl rfl ?_
      refine gx_ci (nx := 36) (S2 := []) (c_237 (r := 57) (n := 12) (ty_57 hT) (by decide) (by decide) (k := k) (by omega)) r_40_33 rfl rfl rfl rfl rfl rfl rfl (by decide) rfl (fun x33 n33 q33 => ?_)
      obtain ⟨e_x33, z_x33⟩ := q33
      obtain rfl := z_x33.symm
      obtain rfl := e_x33
      show GX T 20 40 36 [(2, 1), (0, (k : Int)), (2, 54)] [(0, (n12 57 k))] n12 (RI (fun v m1 => (¬ (0 ≤ (k : Int) ∧ (k : Int) < m 4 2) → v = -2) ∧ (∀ q : Nat, (k : Int) = (q : Int) → (0 ≤ (k : Int) ∧ (k : Int) < m 4 2) → ∀ D : Nat → Nat → Int, WyD (pw (m 193)) D → PlanV n (rowsW (pw (m 193)) D) q v) ∧ PlanX m1))
      exact gx_rt r_40_36 rfl rfl ⟨_, rfl, fun z => absurd ⟨by omega, by omega⟩ z, fun q e _ D h => by
        have e2 : q = k := by omega
        subst e2
        have z := hunts_plan (h := q) (hE D h) (by omega)
        rw [if_neg (by assumption)] at z
        exact z, px1⟩
    · have h21 := Decidable.not_not.mp h21
      refine gx_st (L' := [(2, 1), (0, (k : Int)), (2, 54)]) (S' := [(0, (-1))]) r_40_24 rfl rfl rfl ?_
      refine gx_st (L' := [(2, 1), (0, (k : Int)), (2, 54)]) (S' := [(0, (-1))]) r_40_25 rfl rfl rfl ?_
      exact gx_rt r_40_36 rfl rfl ⟨_, rfl, fun z => absurd ⟨by omega, by omega⟩ z, fun q e _ D h => by
        have e2 : q = k := by omega
        subst e2
        have z := hunts_plan (h := q) (hE D h) (by omega)
        rw [if_pos (by assumption)] at z
        exact z, px1⟩
  · refine gx_st (L' := [(2, 1), (0, a), (9, 0)]) (S' := [(0, (-2))]) r_40_8 rfl rfl rfl ?_
    exact gx_rt r_40_10 rfl rfl ⟨_, rfl, fun _ => rfl, fun q e z => absurd z (by omega), px⟩
theorem planx_0 (h : m 1 15 = 0) : PlanX m := fun z => absurd z (by omega)
theorem planx_e {m1 : Mm} (h : PlanX m) (e1 : ∀ p i : Nat, 4 ≤ p → p ≤ 12 → i < 900 → m1 p i = m p i) (e2 : m1 1 15 = m 1 15) (e3 : ∀ i : Nat, 4 ≤ i → i ≤ 6 → m1 54 i = m 54 i) (e4 : ∀ i : Nat, m1 57 i = m 57 i) : PlanX m1 := fun z w D h1 h2 h3 h4 => hunts_m (h (e2.symm.trans z) w D (WD_eq h1 (fun p i p1 p2 hi => (e1 p i p1 p2 hi).symm)) h2 h3 h4) (e3 4 (by decide) (by decide)) (e3 5 (by decide) (by decide)) (e3 6 (by decide) (by decide)) (fun i _ => e4 i)
/-- a frame that leaves isle and plans -/
def nP_ (W : List Nat) : Bool := W.all (fun c => decide (c < 1000 * 4 ∨ 1000 * 13 ≤ c)) && !W.contains 1015 && !W.contains 54004 && !W.contains 54005 && !W.contains 54006 && !W.contains 57999
theorem planx_fr {W : List Nat} {m m1 : Mm} (f : Fr W m m1) (hW : nP_ W = true) (h : PlanX m) : PlanX m1 := by
  unfold nP_ at hW
  rw [Bool.and_eq_true, Bool.and_eq_true, Bool.and_eq_true, Bool.and_eq_true, Bool.and_eq_true] at hW
  obtain ⟨⟨⟨⟨⟨h1, h2⟩, h3⟩, h4⟩, h5⟩, h6⟩ := hW
  refine planx_e h (fr_4 f h1) (f 1 15 (ct_f h2)) (fun i i1 i2 => ?_) (fun i => f 57 i (ct_f h6))
  have hi : i = 4 ∨ i = 5 ∨ i = 6 := by omega
  rcases hi with rfl | rfl | rfl
  · exact f 54 4 (ct_f h3)
  · exact f 54 5 (ct_f h4)
  · exact f 54 6 (ct_f h5)
/-- both sides' answers are the same -/
theorem q_38 {p q : Mm} {v1 v2 : Int} {n : Nat} (r : WX p) (a : (¬ 0 < p 4 0 → v1 = -2) ∧ (0 < p 4 0 → ∀ D : Nat → Nat → Int, WyD (pw (p 193)) D → RidF n (rowsW (pw (p 193)) D) v1) ∧ PlanX q) (e : q 193 = p 193) (b : (¬ 0 < q 193 9 → v2 = -2) ∧ (0 < q 193 9 → ∃ D : Nat → Nat → Int, WyD (pw (q 193)) D ∧ RidF n (rowsW (pw (q 193)) D) v2)) : v1 = v2 := by
  have e0 : p 4 0 = p 193 9 := r.1.1.1
  rw [e] at b
  by_cases c : 0 < p 4 0
  · obtain ⟨D, h1, h2⟩ := b.2 (by omega)
    exact ridF_u (a.2.1 c D h1) h2
  · rw [a.1 c, b.1 (by omega)]
theorem q_39 {p q : Mm} {v1 v2 : Int} {n : Nat} (r : WX p) (a : (¬ 0 < p 4 0 → v1 = -2) ∧ (0 < p 4 0 → ∀ D : Nat → Nat → Int, WyD (pw (p 193)) D → WaysV n (rowsW (pw (p 193)) D) v1) ∧ PlanX q) (e : q 193 = p 193) (b : (¬ 0 < q 193 9 → v2 = -2) ∧ (0 < q 193 9 → ∃ D : Nat → Nat → Int, WyD (pw (q 193)) D ∧ WaysV n (rowsW (pw (q 193)) D) v2)) : v1 = v2 := by
  have e0 : p 4 0 = p 193 9 := r.1.1.1
  rw [e] at b
  by_cases c : 0 < p 4 0
  · obtain ⟨D, h1, h2⟩ := b.2 (by omega)
    exact waysV_u (a.2.1 c D h1) h2
  · rw [a.1 c, b.1 (by omega)]
end RIDC
