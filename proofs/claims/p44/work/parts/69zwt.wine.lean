/-! wine, bend, dams of the class from their beginning; questions -/
theorem r_41_0 : row 41 0 = some (.aload_n 0, 1, 0, 0, 0, 0) := rfl
theorem r_41_1 : row 41 1 = some (.getfield 19, 4, 9, 1, 2, 2159) := rfl
theorem r_41_4 : row 41 4 = some (.invokevirtual 162, 7, 252, 0, 10, 4036) := rfl
theorem r_41_7 : row 41 7 = some (.ifCond .ne 6, 10, 13, 0, 0, 0) := rfl
theorem r_41_10 : row 41 10 = some (.bipush (-2), 12, (-2), 0, 0, 0) := rfl
theorem r_41_12 : row 41 12 = some (.ireturn, 13, 0, 0, 0, 0) := rfl
theorem r_41_13 : row 41 13 = some (.iconst (-1), 14, (-1), 0, 0, 0) := rfl
theorem r_41_14 : row 41 14 = some (.istore_n 1, 15, 0, 0, 0, 0) := rfl
theorem r_41_15 : row 41 15 = some (.aload_n 0, 16, 0, 0, 0, 0) := rfl
theorem r_41_16 : row 41 16 = some (.invokevirtual 262, 19, 79, 0, 0, 4199) := rfl
theorem r_41_19 : row 41 19 = some (.getfield 266, 22, 2, 4, 10, 2074) := rfl
theorem r_41_22 : row 41 22 = some (.invokestatic 248, 25, 78, 1, 0, 4183) := rfl
theorem r_41_25 : row 41 25 = some (.istore_n 2, 26, 0, 0, 0, 0) := rfl
theorem r_41_26 : row 41 26 = some (.iconst 0, 27, 0, 0, 0, 0) := rfl
theorem r_41_27 : row 41 27 = some (.istore_n 3, 28, 0, 0, 0, 0) := rfl
theorem r_42_0 : row 42 0 = some (.aload_n 0, 1, 0, 0, 0, 0) := rfl
theorem r_42_1 : row 42 1 = some (.getfield 19, 4, 9, 1, 2, 2159) := rfl
theorem r_42_4 : row 42 4 = some (.invokevirtual 162, 7, 252, 0, 10, 4036) := rfl
theorem r_42_7 : row 42 7 = some (.ifCond .ne 6, 10, 13, 0, 0, 0) := rfl
theorem r_42_10 : row 42 10 = some (.bipush (-2), 12, (-2), 0, 0, 0) := rfl
theorem r_42_12 : row 42 12 = some (.ireturn, 13, 0, 0, 0, 0) := rfl
theorem r_42_13 : row 42 13 = some (.iconst (-1), 14, (-1), 0, 0, 0) := rfl
theorem r_42_14 : row 42 14 = some (.istore_n 1, 15, 0, 0, 0, 0) := rfl
theorem r_42_15 : row 42 15 = some (.aload_n 0, 16, 0, 0, 0, 0) := rfl
theorem r_42_16 : row 42 16 = some (.invokevirtual 262, 19, 79, 0, 0, 4199) := rfl
theorem r_42_19 : row 42 19 = some (.getfield 266, 22, 2, 4, 10, 2074) := rfl
theorem r_42_22 : row 42 22 = some (.invokestatic 248, 25, 78, 1, 0, 4183) := rfl
theorem r_42_25 : row 42 25 = some (.istore_n 2, 26, 0, 0, 0, 0) := rfl
theorem r_42_26 : row 42 26 = some (.iconst 0, 27, 0, 0, 0, 0) := rfl
theorem r_42_27 : row 42 27 = some (.istore_n 3, 28, 0, 0, 0, 0) := rfl
theorem r_45_0 : row 45 0 = some (.aload_n 0, 1, 0, 0, 0, 0) := rfl
theorem r_45_1 : row 45 1 = some (.getfield 19, 4, 9, 1, 2, 2159) := rfl
theorem r_45_4 : row 45 4 = some (.invokevirtual 162, 7, 252, 0, 10, 4036) := rfl
theorem r_45_7 : row 45 7 = some (.ifCond .ne 6, 10, 13, 0, 0, 0) := rfl
theorem r_45_10 : row 45 10 = some (.bipush (-2), 12, (-2), 0, 0, 0) := rfl
theorem r_45_12 : row 45 12 = some (.ireturn, 13, 0, 0, 0, 0) := rfl
theorem r_45_13 : row 45 13 = some (.iconst (-1), 14, (-1), 0, 0, 0) := rfl
theorem r_45_14 : row 45 14 = some (.istore_n 1, 15, 0, 0, 0, 0) := rfl
theorem r_45_15 : row 45 15 = some (.aload_n 0, 16, 0, 0, 0, 0) := rfl
theorem r_45_16 : row 45 16 = some (.invokevirtual 262, 19, 79, 0, 0, 4199) := rfl
theorem r_45_19 : row 45 19 = some (.getfield 266, 22, 2, 4, 10, 2074) := rfl
theorem r_45_22 : row 45 22 = some (.invokestatic 248, 25, 78, 1, 0, 4183) := rfl
theorem r_45_25 : row 45 25 = some (.istore_n 2, 26, 0, 0, 0, 0) := rfl
theorem r_45_26 : row 45 26 = some (.iconst 0, 27, 0, 0, 0, 0) := rfl
theorem r_45_27 : row 45 27 = some (.istore_n 3, 28, 0, 0, 0, 0) := rfl
section WINE
variable {T : List Kd} {m : Mm}
set_option maxRecDepth 100000 in
theorem cu_79 : conL[435]? = some (79, [(2, 1, 0)], (2, 54, 0), [1015, 54004, 54005, 54006, 56999, 57999, 58999, 59000, 59001, 59002, 59003, 59004, 59005, 59006, 59007, 60999, 61999], 17) := rfl
set_option maxRecDepth 100000 in
theorem pu_79 (hT : TT T) : ConH T (79, [(2, 1, 0)], (2, 54, 0), [1015, 54004, 54005, 54006, 56999, 57999, 58999, 59000, 59001, 59002, 59003, 59004, 59005, 59006, 59007, 60999, 61999], 17) := fun args m => ((all_con hT 435).1 (by decide)) _ cu_79 args m
theorem g_79 (hT : TT T) (hp : PinR m) (hm : Gam m) (r : WX m) (px : PlanX m) {n : Nat} (hn : m 193 1 = (n : Int)) : GX T 19 79 0 [(2, 1)] [] m (fun v m1 => (v = (2, 54) ∧ PinR m1 ∧ m1 193 = m 193 ∧ (∀ p i : Nat, 4 ≤ p → p ≤ 12 → i < 900 → m1 p i = m p i) ∧ m1 1 15 = 1 ∧ ∀ (w : Wd) (D : Nat → Nat → Int), WD m 4 w → WBf w → WR w → WyD w D → HuntS m1 54 (w 1 - 1) (rowsW w D)) ∧ Gam m1) := gx_imp (gx_and (z_79 hT hp hm r px hn) (gx_h (args := [(2, 1)]) (pu_79 hT) ⟨gq_o1z, trivial⟩ hm)) (fun v m1 h => ⟨h.1, h.2.2.1⟩)
theorem zz_41 (hT : TT T) (hp : PinR m) (hm : Gam m) (r : WX m) (px : PlanX m) {n : Nat} (hn : m 193 1 = (n : Int)) {D : Nat → Nat → Int} (hD : WyD (pw (m 193)) D) : GX T 20 41 0 [(2, 1), (9, 0), (9, 0), (9, 0), (9, 0)] [] m (RI (fun v m1 => (¬ 0 < m 4 0 → v = -2) ∧ (0 < m 4 0 → ScanV true n (pw (m 193) 6).toNat (rowsW (pw (m 193)) D) (fun k => rowsW (upw (pw (m 193)) (42 + 2 * k) 13) D) v) ∧ PlanX m1)) := by
  have w4 := WD_w r.1 (pw_ag (m 193))
  have hnw : pw (m 193) 1 = (n : Int) := by rw [pw_at (by decide) (by decide)]; exact hn
  have b1 := gb_193_1 hm
  have b5 := w4.2.1.2.2.1
  have b6 := w4.2.1.2.2.2.1
  have b0 := w4.2.1.1
  refine gx_st (L' := [(2, 1), (9, 0), (9, 0), (9, 0), (9, 0)]) (S' := [(2, 1)]) r_41_0 rfl rfl rfl ?_
  refine gx_gf (x := 4) 2 r_41_1 (rfl) (ty_1 hT) ⟨by decide, rfl, by decide, by decide⟩ rfl (fun _ => by omega) (pin_at hp (t := 4) rfl (by decide)) ?_
  refine gx_ci (nx := 7) (S2 := []) (x_252 hT) r_41_4 rfl rfl rfl rfl rfl (rcv_v rfl (ty_4 hT) (by decide) rfl (by decide)) rfl (by decide) rfl (fun x4 n4 q4 => ?_)
  obtain rfl := q4.1.symm
  obtain rfl := q4.2.symm
  show GX T 20 41 7 [(2, 1), (9, 0), (9, 0), (9, 0), (9, 0)] [(0, (if 0 < m 4 0 then 1 else 0))] m (RI (fun v m1 => (¬ 0 < m 4 0 → v = -2) ∧ (0 < m 4 0 → ScanV true n (pw (m 193) 6).toNat (rowsW (pw (m 193)) D) (fun k => rowsW (upw (pw (m 193)) (42 + 2 * k) 13) D) v) ∧ PlanX m1))
  refine gx_i0 (P := 0 < m 4 0) r_41_7 (b01_ne) (fun h7 => ?_) (fun h7 => ?_)
  · refine gx_st (L' := [(2, 1), (9, 0), (9, 0), (9, 0), (9, 0)]) (S' := [(0, (-1))]) r_41_13 rfl rfl rfl ?_
    refine gx_st (L' := [(2, 1), (0, (-1)), (9, 0), (9, 0), (9, 0)]) (S' := []) r_41_14 rfl rfl rfl ?_
    refine gx_st (L' := [(2, 1), (0, (-1)), (9, 0), (9, 0), (9, 0)]) (S' := [(2, 1)]) r_41_15 rfl rfl rfl ?_
    refine gx_cq (nx := 19) (S2 := []) r_41_16 rfl rfl rfl rfl rfl (rcv_v rfl (ty_1 hT) (by decide) rfl (by decide)) rfl (g_79 hT hp hm r px hn) (by decide) rfl (fun v16 n16 q16 => ?_)
    obtain ⟨⟨ev16, hp1, e193, e4, e15, hD79⟩, gm1⟩ := q16
    subst ev16
    have px1 : PlanX n16 := fun _ w D h1 h2 h3 h4 => hD79 w D (WD_eq h1 (fun p i p1 p2 hi => (e4 p i p1 p2 hi).symm)) h2 h3 h4
    have hE := hD79 (pw (m 193)) D w4 (wbf_pw hm) (wr_pw hm) hD
    rw [hnw] at hE
    have rx := hunts_rid hE
    have wp1 : WD n16 4 (pw (m 193)) := WD_eq w4 (fun p i p1 p2 hi => e4 p i p1 (by omega) hi)
    show GX T 20 41 19 [(2, 1), (0, (-1)), (9, 0), (9, 0), (9, 0)] [(2, 54)] n16 (RI (fun v m1 => (¬ 0 < m 4 0 → v = -2) ∧ (0 < m 4 0 → ScanV true n (pw (m 193) 6).toNat (rowsW (pw (m 193)) D) (fun k => rowsW (upw (pw (m 193)) (42 + 2 * k) 13) D) v) ∧ PlanX m1))
    refine gx_gf (x := (n16 54 4)) 0 r_41_19 (rfl) (ty_54 hT) ⟨by decide, rfl, by decide, by decide⟩ rfl (fun z => absurd z (by decide)) (rfl) ?_
    refine gx_ci (nx := 25) (S2 := []) (l_78 (n16 54 4)) r_41_22 rfl rfl rfl rfl rfl rfl rfl (by decide) rfl (fun x22 n22 q22 => ?_)
    obtain ⟨e_x22, z_x22⟩ := q22
    obtain rfl := z_x22.symm
    rw [e_x22]
    show GX T 20 41 25 [(2, 1), (0, (-1)), (9, 0), (9, 0), (9, 0)] [(0, (if n16 54 4 = -1 then 12 else n16 54 4))] n16 (RI (fun v m1 => (¬ 0 < m 4 0 → v = -2) ∧ (0 < m 4 0 → ScanV true n (pw (m 193) 6).toNat (rowsW (pw (m 193)) D) (fun k => rowsW (upw (pw (m 193)) (42 + 2 * k) 13) D) v) ∧ PlanX m1))
    refine gx_st (L' := [(2, 1), (0, (-1)), (0, (if n16 54 4 = -1 then 12 else n16 54 4)), (9, 0), (9, 0)]) (S' := []) r_41_25 rfl rfl rfl ?_
    refine gx_st (L' := [(2, 1), (0, (-1)), (0, (if n16 54 4 = -1 then 12 else n16 54 4)), (9, 0), (9, 0)]) (S' := [(0, 0)]) r_41_26 rfl rfl rfl ?_
    refine gx_st (L' := [(2, 1), (0, (-1)), (0, (if n16 54 4 = -1 then 12 else n16 54 4)), (0, 0), (9, 0)]) (S' := []) r_41_27 rfl rfl rfl ?_
    exact gx_imp (lc_41 hT (wbf_pw hm) (wr_pw hm) hD hnw (by omega) rx (c := (pw (m 193) 6).toNat) (by omega) (by omega) ((pw (m 193) 6).toNat + 1) 0 n16 (n16 54 4) (-1) (fun _ => 0) (9, 0) (by omega) (by omega) hp1 gm1 wp1 px1 (fun i hi => absurd hi (Nat.not_lt_zero _)) rfl rfl) (fun v m1 ⟨v2, e, ⟨E, hE, ev⟩, pz⟩ => ⟨v2, e, fun z => absurd h7 z, fun _ => ⟨n16 54 4, E, rx, hE, ev⟩, pz⟩)
  · refine gx_st (L' := [(2, 1), (9, 0), (9, 0), (9, 0), (9, 0)]) (S' := [(0, (-2))]) r_41_10 rfl rfl rfl ?_
    exact gx_rt r_41_12 rfl rfl ⟨_, rfl, fun _ => rfl, fun z => absurd z h7, px⟩
theorem z_41 (hT : TT T) (hp : PinR m) (hm : Gam m) (r : WX m) (px : PlanX m) {n : Nat} (hn : m 193 1 = (n : Int)) (hx : Ext m) : GX T 20 41 0 [(2, 1), (9, 0), (9, 0), (9, 0), (9, 0)] [] m (RI (fun v m1 => (¬ 0 < m 4 0 → v = -2) ∧ (0 < m 4 0 → ∀ D : Nat → Nat → Int, WyD (pw (m 193)) D → ScanV true n (pw (m 193) 6).toNat (rowsW (pw (m 193)) D) (fun k => rowsW (upw (pw (m 193)) (42 + 2 * k) 13) D) v) ∧ PlanX m1)) := by
  obtain ⟨D0, hD0⟩ := ex_D hT hm hx
  refine gx_imp (gx_alli (zz_41 hT hp hm r px hn (wyD_pw.mpr hD0)) (fun D : {D : Nat → Nat → Int // WyD (pw (m 193)) D} => zz_41 hT hp hm r px hn D.2)) (fun v m1 ⟨y, e, a, c⟩ => ⟨y, e, a.1, fun z D h => (c ⟨D, h⟩).2.1 z, a.2.2⟩)
theorem q_41 {p q : Mm} {v1 v2 : Int} {n : Nat} (r : WX p) (a : (¬ 0 < p 4 0 → v1 = -2) ∧ (0 < p 4 0 → ∀ D : Nat → Nat → Int, WyD (pw (p 193)) D → ScanV true n (pw (p 193) 6).toNat (rowsW (pw (p 193)) D) (fun k => rowsW (upw (pw (p 193)) (42 + 2 * k) 13) D) v1) ∧ PlanX q) (e : q 193 = p 193) (b : (¬ 0 < q 193 9 → v2 = -2) ∧ (0 < q 193 9 → ∃ D : Nat → Nat → Int, WyD (pw (q 193)) D ∧ ScanV true n (pw (q 193) 6).toNat (rowsW (pw (q 193)) D) (fun k => rowsW (upw (pw (q 193)) (42 + 2 * k) 13) D) v2)) : v1 = v2 := by
  have e0 : p 4 0 = p 193 9 := r.1.1.1
  rw [e] at b
  by_cases c : 0 < p 4 0
  · obtain ⟨D, h1, h2⟩ := b.2 (by omega)
    exact scanV_u (a.2.1 c D h1) h2
  · rw [a.1 c, b.1 (by omega)]
theorem zz_42 (hT : TT T) (hp : PinR m) (hm : Gam m) (r : WX m) (px : PlanX m) {n : Nat} (hn : m 193 1 = (n : Int)) {D : Nat → Nat → Int} (hD : WyD (pw (m 193)) D) : GX T 20 42 0 [(2, 1), (9, 0), (9, 0), (9, 0), (9, 0)] [] m (RI (fun v m1 => (¬ 0 < m 4 0 → v = -2) ∧ (0 < m 4 0 → ScanV false n (pw (m 193) 5).toNat (rowsW (pw (m 193)) D) (fun k => rowsW (upw (pw (m 193)) (32 + 2 * k) 0) D) v) ∧ PlanX m1)) := by
  have w4 := WD_w r.1 (pw_ag (m 193))
  have hnw : pw (m 193) 1 = (n : Int) := by rw [pw_at (by decide) (by decide)]; exact hn
  have b1 := gb_193_1 hm
  have b5 := w4.2.1.2.2.1
  have b6 := w4.2.1.2.2.2.1
  have b0 := w4.2.1.1
  refine gx_st (L' := [(2, 1), (9, 0), (9, 0), (9, 0), (9, 0)]) (S' := [(2, 1)]) r_42_0 rfl rfl rfl ?_
  refine gx_gf (x := 4) 2 r_42_1 (rfl) (ty_1 hT) ⟨by decide, rfl, by decide, by decide⟩ rfl (fun _ => by omega) (pin_at hp (t := 4) rfl (by decide)) ?_
  refine gx_ci (nx := 7) (S2 := []) (x_252 hT) r_42_4 rfl rfl rfl rfl rfl (rcv_v rfl (ty_4 hT) (by decide) rfl (by decide)) rfl (by decide) rfl (fun x4 n4 q4 => ?_)
  obtain rfl := q4.1.symm
  obtain rfl := q4.2.symm
  show GX T 20 42 7 [(2, 1), (9, 0), (9, 0), (9, 0), (9, 0)] [(0, (if 0 < m 4 0 then 1 else 0))] m (RI (fun v m1 => (¬ 0 < m 4 0 → v = -2) ∧ (0 < m 4 0 → ScanV false n (pw (m 193) 5).toNat (rowsW (pw (m 193)) D) (fun k => rowsW (upw (pw (m 193)) (32 + 2 * k) 0) D) v) ∧ PlanX m1))
  refine gx_i0 (P := 0 < m 4 0) r_42_7 (b01_ne) (fun h7 => ?_) (fun h7 => ?_)
  · refine gx_st (L' := [(2, 1), (9, 0), (9, 0), (9, 0), (9, 0)]) (S' := [(0, (-1))]) r_42_13 rfl rfl rfl ?_
    refine gx_st (L' := [(2, 1), (0, (-1)), (9, 0), (9, 0), (9, 0)]) (S' := []) r_42_14 rfl rfl rfl ?_
    refine gx_st (L' := [(2, 1), (0, (-1)), (9, 0), (9, 0), (9, 0)]) (S' := [(2, 1)]) r_42_15 rfl rfl rfl ?_
    refine gx_cq (nx := 19) (S2 := []) r_42_16 rfl rfl rfl rfl rfl (rcv_v rfl (ty_1 hT) (by decide) rfl (by decide)) rfl (g_79 hT hp hm r px hn) (by decide) rfl (fun v16 n16 q16 => ?_)
    obtain ⟨⟨ev16, hp1, e193, e4, e15, hD79⟩, gm1⟩ := q16
    subst ev16
    have px1 : PlanX n16 := fun _ w D h1 h2 h3 h4 => hD79 w D (WD_eq h1 (fun p i p1 p2 hi => (e4 p i p1 p2 hi).symm)) h2 h3 h4
    have hE := hD79 (pw (m 193)) D w4 (wbf_pw hm) (wr_pw hm) hD
    rw [hnw] at hE
    have rx := hunts_rid hE
    have wp1 : WD n16 4 (pw (m 193)) := WD_eq w4 (fun p i p1 p2 hi => e4 p i p1 (by omega) hi)
    show GX T 20 42 19 [(2, 1), (0, (-1)), (9, 0), (9, 0), (9, 0)] [(2, 54)] n16 (RI (fun v m1 => (¬ 0 < m 4 0 → v = -2) ∧ (0 < m 4 0 → ScanV false n (pw (m 193) 5).toNat (rowsW (pw (m 193)) D) (fun k => rowsW (upw (pw (m 193)) (32 + 2 * k) 0) D) v) ∧ PlanX m1))
    refine gx_gf (x := (n16 54 4)) 0 r_42_19 (rfl) (ty_54 hT) ⟨by decide, rfl, by decide, by decide⟩ rfl (fun z => absurd z (by decide)) (rfl) ?_
    refine gx_ci (nx := 25) (S2 := []) (l_78 (n16 54 4)) r_42_22 rfl rfl rfl rfl rfl rfl rfl (by decide) rfl (fun x22 n22 q22 => ?_)
    obtain ⟨e_x22, z_x22⟩ := q22
    obtain rfl := z_x22.symm
    rw [e_x22]
    show GX T 20 42 25 [(2, 1), (0, (-1)), (9, 0), (9, 0), (9, 0)] [(0, (if n16 54 4 = -1 then 12 else n16 54 4))] n16 (RI (fun v m1 => (¬ 0 < m 4 0 → v = -2) ∧ (0 < m 4 0 → ScanV false n (pw (m 193) 5).toNat (rowsW (pw (m 193)) D) (fun k => rowsW (upw (pw (m 193)) (32 + 2 * k) 0) D) v) ∧ PlanX m1))
    refine gx_st (L' := [(2, 1), (0, (-1)), (0, (if n16 54 4 = -1 then 12 else n16 54 4)), (9, 0), (9, 0)]) (S' := []) r_42_25 rfl rfl rfl ?_
    refine gx_st (L' := [(2, 1), (0, (-1)), (0, (if n16 54 4 = -1 then 12 else n16 54 4)), (9, 0), (9, 0)]) (S' := [(0, 0)]) r_42_26 rfl rfl rfl ?_
    refine gx_st (L' := [(2, 1), (0, (-1)), (0, (if n16 54 4 = -1 then 12 else n16 54 4)), (0, 0), (9, 0)]) (S' := []) r_42_27 rfl rfl rfl ?_
    exact gx_imp (lc_42 hT (wbf_pw hm) (wr_pw hm) hD hnw (by omega) rx (c := (pw (m 193) 5).toNat) (by omega) (by omega) ((pw (m 193) 5).toNat + 1) 0 n16 (n16 54 4) (-1) (fun _ => 0) (9, 0) (by omega) (by omega) hp1 gm1 wp1 px1 (fun i hi => absurd hi (Nat.not_lt_zero _)) rfl rfl) (fun v m1 ⟨v2, e, ⟨E, hE, ev⟩, pz⟩ => ⟨v2, e, fun z => absurd h7 z, fun _ => ⟨n16 54 4, E, rx, hE, ev⟩, pz⟩)
  · refine gx_st (L' := [(2, 1), (9, 0), (9, 0), (9, 0), (9, 0)]) (S' := [(0, (-2))]) r_42_10 rfl rfl rfl ?_
    exact gx_rt r_42_12 rfl rfl ⟨_, rfl, fun _ => rfl, fun z => absurd z h7, px⟩
theorem z_42 (hT : TT T) (hp : PinR m) (hm : Gam m) (r : WX m) (px : PlanX m) {n : Nat} (hn : m 193 1 = (n : Int)) (hx : Ext m) : GX T 20 42 0 [(2, 1), (9, 0), (9, 0), (9, 0), (9, 0)] [] m (RI (fun v m1 => (¬ 0 < m 4 0 → v = -2) ∧ (0 < m 4 0 → ∀ D : Nat → Nat → Int, WyD (pw (m 193)) D → ScanV false n (pw (m 193) 5).toNat (rowsW (pw (m 193)) D) (fun k => rowsW (upw (pw (m 193)) (32 + 2 * k) 0) D) v) ∧ PlanX m1)) := by
  obtain ⟨D0, hD0⟩ := ex_D hT hm hx
  refine gx_imp (gx_alli (zz_42 hT hp hm r px hn (wyD_pw.mpr hD0)) (fun D : {D : Nat → Nat → Int // WyD (pw (m 193)) D} => zz_42 hT hp hm r px hn D.2)) (fun v m1 ⟨y, e, a, c⟩ => ⟨y, e, a.1, fun z D h => (c ⟨D, h⟩).2.1 z, a.2.2⟩)
theorem q_42 {p q : Mm} {v1 v2 : Int} {n : Nat} (r : WX p) (a : (¬ 0 < p 4 0 → v1 = -2) ∧ (0 < p 4 0 → ∀ D : Nat → Nat → Int, WyD (pw (p 193)) D → ScanV false n (pw (p 193) 5).toNat (rowsW (pw (p 193)) D) (fun k => rowsW (upw (pw (p 193)) (32 + 2 * k) 0) D) v1) ∧ PlanX q) (e : q 193 = p 193) (b : (¬ 0 < q 193 9 → v2 = -2) ∧ (0 < q 193 9 → ∃ D : Nat → Nat → Int, WyD (pw (q 193)) D ∧ ScanV false n (pw (q 193) 5).toNat (rowsW (pw (q 193)) D) (fun k => rowsW (upw (pw (q 193)) (32 + 2 * k) 0) D) v2)) : v1 = v2 := by
  have e0 : p 4 0 = p 193 9 := r.1.1.1
  rw [e] at b
  by_cases c : 0 < p 4 0
  · obtain ⟨D, h1, h2⟩ := b.2 (by omega)
    exact scanV_u (a.2.1 c D h1) h2
  · rw [a.1 c, b.1 (by omega)]
theorem zz_45 (hT : TT T) (hp : PinR m) (hm : Gam m) (r : WX m) (px : PlanX m) {n : Nat} (hn : m 193 1 = (n : Int)) {D : Nat → Nat → Int} (hD : WyD (pw (m 193)) D) : GX T 20 45 0 [(2, 1), (9, 0), (9, 0), (9, 0), (9, 0)] [] m (RI (fun v m1 => (¬ 0 < m 4 0 → v = -2) ∧ (0 < m 4 0 → ScanV false n (pw (m 193) 0).toNat (rowsW (pw (m 193)) D) (fun k => rowsW (upw (pw (m 193)) 10 (ior (pw (m 193) 10) (ishl 1 (k : Int)))) D) v) ∧ PlanX m1)) := by
  have w4 := WD_w r.1 (pw_ag (m 193))
  have hnw : pw (m 193) 1 = (n : Int) := by rw [pw_at (by decide) (by decide)]; exact hn
  have b1 := gb_193_1 hm
  have b5 := w4.2.1.2.2.1
  have b6 := w4.2.1.2.2.2.1
  have b0 := w4.2.1.1
  refine gx_st (L' := [(2, 1), (9, 0), (9, 0), (9, 0), (9, 0)]) (S' := [(2, 1)]) r_45_0 rfl rfl rfl ?_
  refine gx_gf (x := 4) 2 r_45_1 (rfl) (ty_1 hT) ⟨by decide, rfl, by decide, by decide⟩ rfl (fun _ => by omega) (pin_at hp (t := 4) rfl (by decide)) ?_
  refine gx_ci (nx := 7) (S2 := []) (x_252 hT) r_45_4 rfl rfl rfl rfl rfl (rcv_v rfl (ty_4 hT) (by decide) rfl (by decide)) rfl (by decide) rfl (fun x4 n4 q4 => ?_)
  obtain rfl := q4.1.symm
  obtain rfl := q4.2.symm
  show GX T 20 45 7 [(2, 1), (9, 0), (9, 0), (9, 0), (9, 0)] [(0, (if 0 < m 4 0 then 1 else 0))] m (RI (fun v m1 => (¬ 0 < m 4 0 → v = -2) ∧ (0 < m 4 0 → ScanV false n (pw (m 193) 0).toNat (rowsW (pw (m 193)) D) (fun k => rowsW (upw (pw (m 193)) 10 (ior (pw (m 193) 10) (ishl 1 (k : Int)))) D) v) ∧ PlanX m1))
  refine gx_i0 (P := 0 < m 4 0) r_45_7 (b01_ne) (fun h7 => ?_) (fun h7 => ?_)
  · refine gx_st (L' := [(2, 1), (9, 0), (9, 0), (9, 0), (9, 0)]) (S' := [(0, (-1))]) r_45_13 rfl rfl rfl ?_
    refine gx_st (L' := [(2, 1), (0, (-1)), (9, 0), (9, 0), (9, 0)]) (S' := []) r_45_14 rfl rfl rfl ?_
    refine gx_st (L' := [(2, 1), (0, (-1)), (9, 0), (9, 0), (9, 0)]) (S' := [(2, 1)]) r_45_15 rfl rfl rfl ?_
    refine gx_cq (nx := 19) (S2 := []) r_45_16 rfl rfl rfl rfl rfl (rcv_v rfl (ty_1 hT) (by decide) rfl (by decide)) rfl (g_79 hT hp hm r px hn) (by decide) rfl (fun v16 n16 q16 => ?_)
    obtain ⟨⟨ev16, hp1, e193, e4, e15, hD79⟩, gm1⟩ := q16
    subst ev16
    have px1 : PlanX n16 := fun _ w D h1 h2 h3 h4 => hD79 w D (WD_eq h1 (fun p i p1 p2 hi => (e4 p i p1 p2 hi).symm)) h2 h3 h4
    have hE := hD79 (pw (m 193)) D w4 (wbf_pw hm) (wr_pw hm) hD
    rw [hnw] at hE
    have rx := hunts_rid hE
    have wp1 : WD n16 4 (pw (m 193)) := WD_eq w4 (fun p i p1 p2 hi => e4 p i p1 (by omega) hi)
    show GX T 20 45 19 [(2, 1), (0, (-1)), (9, 0), (9, 0), (9, 0)] [(2, 54)] n16 (RI (fun v m1 => (¬ 0 < m 4 0 → v = -2) ∧ (0 < m 4 0 → ScanV false n (pw (m 193) 0).toNat (rowsW (pw (m 193)) D) (fun k => rowsW (upw (pw (m 193)) 10 (ior (pw (m 193) 10) (ishl 1 (k : Int)))) D) v) ∧ PlanX m1))
    refine gx_gf (x := (n16 54 4)) 0 r_45_19 (rfl) (ty_54 hT) ⟨by decide, rfl, by decide, by decide⟩ rfl (fun z => absurd z (by decide)) (rfl) ?_
    refine gx_ci (nx := 25) (S2 := []) (l_78 (n16 54 4)) r_45_22 rfl rfl rfl rfl rfl rfl rfl (by decide) rfl (fun x22 n22 q22 => ?_)
    obtain ⟨e_x22, z_x22⟩ := q22
    obtain rfl := z_x22.symm
    rw [e_x22]
    show GX T 20 45 25 [(2, 1), (0, (-1)), (9, 0), (9, 0), (9, 0)] [(0, (if n16 54 4 = -1 then 12 else n16 54 4))] n16 (RI (fun v m1 => (¬ 0 < m 4 0 → v = -2) ∧ (0 < m 4 0 → ScanV false n (pw (m 193) 0).toNat (rowsW (pw (m 193)) D) (fun k => rowsW (upw (pw (m 193)) 10 (ior (pw (m 193) 10) (ishl 1 (k : Int)))) D) v) ∧ PlanX m1))
    refine gx_st (L' := [(2, 1), (0, (-1)), (0, (if n16 54 4 = -1 then 12 else n16 54 4)), (9, 0), (9, 0)]) (S' := []) r_45_25 rfl rfl rfl ?_
    refine gx_st (L' := [(2, 1), (0, (-1)), (0, (if n16 54 4 = -1 then 12 else n16 54 4)), (9, 0), (9, 0)]) (S' := [(0, 0)]) r_45_26 rfl rfl rfl ?_
    refine gx_st (L' := [(2, 1), (0, (-1)), (0, (if n16 54 4 = -1 then 12 else n16 54 4)), (0, 0), (9, 0)]) (S' := []) r_45_27 rfl rfl rfl ?_
    exact gx_imp (lc_45 hT (wbf_pw hm) (wr_pw hm) hD hnw (by omega) rx (c := (pw (m 193) 0).toNat) (by omega) (by omega) ((pw (m 193) 0).toNat + 1) 0 n16 (n16 54 4) (-1) (fun _ => 0) (9, 0) (by omega) (by omega) hp1 gm1 wp1 px1 (fun i hi => absurd hi (Nat.not_lt_zero _)) rfl rfl) (fun v m1 ⟨v2, e, ⟨E, hE, ev⟩, pz⟩ => ⟨v2, e, fun z => absurd h7 z, fun _ => ⟨n16 54 4, E, rx, hE, ev⟩, pz⟩)
  · refine gx_st (L' := [(2, 1), (9, 0), (9, 0), (9, 0), (9, 0)]) (S' := [(0, (-2))]) r_45_10 rfl rfl rfl ?_
    exact gx_rt r_45_12 rfl rfl ⟨_, rfl, fun _ => rfl, fun z => absurd z h7, px⟩
theorem z_45 (hT : TT T) (hp : PinR m) (hm : Gam m) (r : WX m) (px : PlanX m) {n : Nat} (hn : m 193 1 = (n : Int)) (hx : Ext m) : GX T 20 45 0 [(2, 1), (9, 0), (9, 0), (9, 0), (9, 0)] [] m (RI (fun v m1 => (¬ 0 < m 4 0 → v = -2) ∧ (0 < m 4 0 → ∀ D : Nat → Nat → Int, WyD (pw (m 193)) D → ScanV false n (pw (m 193) 0).toNat (rowsW (pw (m 193)) D) (fun k => rowsW (upw (pw (m 193)) 10 (ior (pw (m 193) 10) (ishl 1 (k : Int)))) D) v) ∧ PlanX m1)) := by
  obtain ⟨D0, hD0⟩ := ex_D hT hm hx
  refine gx_imp (gx_alli (zz_45 hT hp hm r px hn (wyD_pw.mpr hD0)) (fun D : {D : Nat → Nat → Int // WyD (pw (m 193)) D} => zz_45 hT hp hm r px hn D.2)) (fun v m1 ⟨y, e, a, c⟩ => ⟨y, e, a.1, fun z D h => (c ⟨D, h⟩).2.1 z, a.2.2⟩)
theorem q_45 {p q : Mm} {v1 v2 : Int} {n : Nat} (r : WX p) (a : (¬ 0 < p 4 0 → v1 = -2) ∧ (0 < p 4 0 → ∀ D : Nat → Nat → Int, WyD (pw (p 193)) D → ScanV false n (pw (p 193) 0).toNat (rowsW (pw (p 193)) D) (fun k => rowsW (upw (pw (p 193)) 10 (ior (pw (p 193) 10) (ishl 1 (k : Int)))) D) v1) ∧ PlanX q) (e : q 193 = p 193) (b : (¬ 0 < q 193 9 → v2 = -2) ∧ (0 < q 193 9 → ∃ D : Nat → Nat → Int, WyD (pw (q 193)) D ∧ ScanV false n (pw (q 193) 0).toNat (rowsW (pw (q 193)) D) (fun k => rowsW (upw (pw (q 193)) 10 (ior (pw (q 193) 10) (ishl 1 (k : Int)))) D) v2)) : v1 = v2 := by
  have e0 : p 4 0 = p 193 9 := r.1.1.1
  rw [e] at b
  by_cases c : 0 < p 4 0
  · obtain ⟨D, h1, h2⟩ := b.2 (by omega)
    exact scanV_u (a.2.1 c D h1) h2
  · rw [a.1 c, b.1 (by omega)]
theorem q_43 {p q : Mm} {v1 v2 a : Int} {n : Nat} (r : WX p) (a1 : (¬ (0 ≤ a ∧ a < p 4 6) → v1 = -2) ∧ ∀ k : Nat, a = (k : Int) → (0 ≤ a ∧ a < p 4 6) → ∀ D : Nat → Nat → Int, WyD (pw (p 193)) D → RidF n (rowsW (upw (pw (p 193)) (32 + 2 * k) 0) D) v1) (e : q 193 = p 193) (b : (¬ (0 < q 193 9 ∧ 0 ≤ a ∧ a < q 193 5) → v2 = -2) ∧ ∀ k : Nat, a = (k : Int) → ((0 < q 193 9 ∧ 0 ≤ a ∧ a < q 193 5) → ∃ D : Nat → Nat → Int, WyD (pw (q 193)) D ∧ RidF n (rowsW (upw (pw (q 193)) (32 + 2 * k) 0) D) v2)) (z9 : ¬ 0 < p 193 9 → p 193 5 = 0) : v1 = v2 := by
  have e2 : p 4 6 = p 193 5 := r.1.1.2.2.2.2.2.2.1
  rw [e] at b
  by_cases c : 0 < p 193 9 ∧ 0 ≤ a ∧ a < p 193 5
  · obtain ⟨k, hk⟩ : ∃ k : Nat, a = (k : Int) := ⟨a.toNat, by omega⟩
    obtain ⟨D, h1, h2⟩ := b.2 k hk c
    exact ridF_u (a1.2 k hk ⟨by omega, by omega⟩ D h1) h2
  · rw [b.1 c, a1.1 (fun z => c ⟨Classical.byContradiction (fun y => by have := z9 y; omega), z.1, by omega⟩)]
theorem q_44 {p q : Mm} {v1 v2 a : Int} {n : Nat} (r : WX p) (a1 : (¬ (0 ≤ a ∧ a < p 4 1) → v1 = -2) ∧ ∀ k : Nat, a = (k : Int) → (0 ≤ a ∧ a < p 4 1) → ∀ D : Nat → Nat → Int, WyD (pw (p 193)) D → RidF n (rowsW (upw (pw (p 193)) 10 (ior (pw (p 193) 10) (ishl 1 (k : Int)))) D) v1) (e : q 193 = p 193) (b : (¬ (0 < q 193 9 ∧ 0 ≤ a ∧ a < q 193 0) → v2 = -2) ∧ ∀ k : Nat, a = (k : Int) → ((0 < q 193 9 ∧ 0 ≤ a ∧ a < q 193 0) → ∃ D : Nat → Nat → Int, WyD (pw (q 193)) D ∧ RidF n (rowsW (upw (pw (q 193)) 10 (ior (pw (q 193) 10) (ishl 1 (k : Int)))) D) v2)) (z9 : ¬ 0 < p 193 9 → p 193 0 = 0) : v1 = v2 := by
  have e2 : p 4 1 = p 193 0 := r.1.1.2.1
  rw [e] at b
  by_cases c : 0 < p 193 9 ∧ 0 ≤ a ∧ a < p 193 0
  · obtain ⟨k, hk⟩ : ∃ k : Nat, a = (k : Int) := ⟨a.toNat, by omega⟩
    obtain ⟨D, h1, h2⟩ := b.2 k hk c
    exact ridF_u (a1.2 k hk ⟨by omega, by omega⟩ D h1) h2
  · rw [b.1 c, a1.1 (fun z => c ⟨Classical.byContradiction (fun y => by have := z9 y; omega), z.1, by omega⟩)]
end WINE
