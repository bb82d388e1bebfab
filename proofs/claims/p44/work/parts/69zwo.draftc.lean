/-! the class's hunts on changed isles -/
theorem r_80_0 : row 80 0 = some (.aload_n 0, 1, 0, 0, 0, 0) := rfl
theorem r_80_1 : row 80 1 = some (.getfield 23, 4, 9, 2, 2, 2160) := rfl
theorem r_80_4 : row 80 4 = some (.aload_n 0, 5, 0, 0, 0, 0) := rfl
theorem r_80_5 : row 80 5 = some (.getfield 19, 8, 9, 1, 2, 2159) := rfl
theorem r_80_8 : row 80 8 = some (.invokevirtual 104, 11, 254, 1, 10, 3146) := rfl
theorem r_80_11 : row 80 11 = some (.aload_n 0, 12, 0, 0, 0, 0) := rfl
theorem r_80_12 : row 80 12 = some (.getfield 23, 15, 9, 2, 2, 2160) := rfl
theorem r_80_15 : row 80 15 = some (.getfield 149, 18, 3, 13, 12, 1122) := rfl
theorem r_80_18 : row 80 18 = some (.iload_n 1, 19, 0, 0, 0, 0) := rfl
theorem r_80_19 : row 80 19 = some (.bipush 13, 21, 13, 0, 0, 0) := rfl
theorem r_80_21 : row 80 21 = some (.invokestatic 251, 24, 238, 3, 10, 4190) := rfl
theorem r_80_24 : row 80 24 = some (.aload_n 0, 25, 0, 0, 0, 0) := rfl
theorem r_80_25 : row 80 25 = some (.getfield 53, 28, 9, 8, 2, 2166) := rfl
theorem r_80_28 : row 80 28 = some (.aload_n 0, 29, 0, 0, 0, 0) := rfl
theorem r_80_29 : row 80 29 = some (.getfield 23, 32, 9, 2, 2, 2160) := rfl
theorem r_80_32 : row 80 32 = some (.invokevirtual 387, 35, 246, 1, 10, 4203) := rfl
theorem r_80_35 : row 80 35 = some (.aload_n 0, 36, 0, 0, 0, 0) := rfl
theorem r_80_36 : row 80 36 = some (.getfield 53, 39, 9, 8, 2, 2166) := rfl
theorem r_80_39 : row 80 39 = some (.getfield 266, 42, 2, 4, 10, 2074) := rfl
theorem r_80_42 : row 80 42 = some (.ireturn, 43, 0, 0, 0, 0) := rfl
theorem r_81_0 : row 81 0 = some (.aload_n 0, 1, 0, 0, 0, 0) := rfl
theorem r_81_1 : row 81 1 = some (.getfield 23, 4, 9, 2, 2, 2160) := rfl
theorem r_81_4 : row 81 4 = some (.aload_n 0, 5, 0, 0, 0, 0) := rfl
theorem r_81_5 : row 81 5 = some (.getfield 19, 8, 9, 1, 2, 2159) := rfl
theorem r_81_8 : row 81 8 = some (.invokevirtual 104, 11, 254, 1, 10, 3146) := rfl
theorem r_81_11 : row 81 11 = some (.aload_n 0, 12, 0, 0, 0, 0) := rfl
theorem r_81_12 : row 81 12 = some (.getfield 23, 15, 9, 2, 2, 2160) := rfl
theorem r_81_15 : row 81 15 = some (.getfield 140, 18, 3, 11, 12, 1114) := rfl
theorem r_81_18 : row 81 18 = some (.iload_n 1, 19, 0, 0, 0, 0) := rfl
theorem r_81_19 : row 81 19 = some (.iconst 0, 20, 0, 0, 0, 0) := rfl
theorem r_81_20 : row 81 20 = some (.invokestatic 251, 23, 238, 3, 10, 4190) := rfl
theorem r_81_23 : row 81 23 = some (.aload_n 0, 24, 0, 0, 0, 0) := rfl
theorem r_81_24 : row 81 24 = some (.getfield 53, 27, 9, 8, 2, 2166) := rfl
theorem r_81_27 : row 81 27 = some (.aload_n 0, 28, 0, 0, 0, 0) := rfl
theorem r_81_28 : row 81 28 = some (.getfield 23, 31, 9, 2, 2, 2160) := rfl
theorem r_81_31 : row 81 31 = some (.invokevirtual 387, 34, 246, 1, 10, 4203) := rfl
theorem r_81_34 : row 81 34 = some (.aload_n 0, 35, 0, 0, 0, 0) := rfl
theorem r_81_35 : row 81 35 = some (.getfield 53, 38, 9, 8, 2, 2166) := rfl
theorem r_81_38 : row 81 38 = some (.getfield 266, 41, 2, 4, 10, 2074) := rfl
theorem r_81_41 : row 81 41 = some (.ireturn, 42, 0, 0, 0, 0) := rfl
theorem r_82_0 : row 82 0 = some (.aload_n 0, 1, 0, 0, 0, 0) := rfl
theorem r_82_1 : row 82 1 = some (.getfield 23, 4, 9, 2, 2, 2160) := rfl
theorem r_82_4 : row 82 4 = some (.aload_n 0, 5, 0, 0, 0, 0) := rfl
theorem r_82_5 : row 82 5 = some (.getfield 19, 8, 9, 1, 2, 2159) := rfl
theorem r_82_8 : row 82 8 = some (.invokevirtual 104, 11, 254, 1, 10, 3146) := rfl
theorem r_82_11 : row 82 11 = some (.aload_n 0, 12, 0, 0, 0, 0) := rfl
theorem r_82_12 : row 82 12 = some (.getfield 23, 15, 9, 2, 2, 2160) := rfl
theorem r_82_15 : row 82 15 = some (.dup, 16, 0, 0, 0, 0) := rfl
theorem r_82_16 : row 82 16 = some (.getfield 166, 19, 3, 9, 10, 1107) := rfl
theorem r_82_19 : row 82 19 = some (.iconst 1, 20, 1, 0, 0, 0) := rfl
theorem r_82_20 : row 82 20 = some (.iload_n 1, 21, 0, 0, 0, 0) := rfl
theorem r_82_21 : row 82 21 = some (.ishl, 22, 0, 0, 0, 0) := rfl
theorem r_82_22 : row 82 22 = some (.ior, 23, 0, 0, 0, 0) := rfl
theorem r_82_23 : row 82 23 = some (.putfield 166, 26, 3, 9, 10, 1107) := rfl
theorem r_82_26 : row 82 26 = some (.aload_n 0, 27, 0, 0, 0, 0) := rfl
theorem r_82_27 : row 82 27 = some (.getfield 53, 30, 9, 8, 2, 2166) := rfl
theorem r_82_30 : row 82 30 = some (.aload_n 0, 31, 0, 0, 0, 0) := rfl
theorem r_82_31 : row 82 31 = some (.getfield 23, 34, 9, 2, 2, 2160) := rfl
theorem r_82_34 : row 82 34 = some (.invokevirtual 387, 37, 246, 1, 10, 4203) := rfl
theorem r_82_37 : row 82 37 = some (.aload_n 0, 38, 0, 0, 0, 0) := rfl
theorem r_82_38 : row 82 38 = some (.getfield 53, 41, 9, 8, 2, 2166) := rfl
theorem r_82_41 : row 82 41 = some (.getfield 266, 44, 2, 4, 10, 2074) := rfl
theorem r_82_44 : row 82 44 = some (.ireturn, 45, 0, 0, 0, 0) := rfl
section DRAFTC
variable {T : List Kd} {m : Mm}
theorem k_80 (hT : TT T) (hp : PinR m) (hm : Gam m) {w : Wd} (hw : WD m 4 w) (hF : WBf w) (hR : WR w) {D : Nat → Nat → Int} (hD : WyD w D) {n : Nat} (hn : w 1 = (n : Int)) (hn12 : n ≤ 12) {k : Nat} (hk : (k : Int) < w 6) : GX T 19 80 0 [(2, 1), (0, (k : Int))] [] m (RI (fun v m1 => RidF n (rowsW (upw w (42 + 2 * k) 13) D) v)) := by
  have b0 := hw.2.1.1
  have b5 := hw.2.1.2.2.1
  have b6 := hw.2.1.2.2.2.1
  refine gx_st (L' := [(2, 1), (0, (k : Int))]) (S' := [(2, 1)]) r_80_0 rfl rfl rfl ?_
  refine gx_gf (x := 13) 2 r_80_1 (rfl) (ty_1 hT) ⟨by decide, rfl, by decide, by decide⟩ rfl (fun _ => by omega) (pin_at hp (t := 13) rfl (by decide)) ?_
  refine gx_st (L' := [(2, 1), (0, (k : Int))]) (S' := [(2, 1), (2, 13)]) r_80_4 rfl rfl rfl ?_
  refine gx_gf (x := 4) 2 r_80_5 (rfl) (ty_1 hT) ⟨by decide, rfl, by decide, by decide⟩ rfl (fun _ => by omega) (pin_at hp (t := 4) rfl (by decide)) ?_
  refine gx_cv (nx := 11) (S2 := []) (z_254d hT hp hm hw) r_80_8 rfl rfl rfl rfl rfl (rcv_v rfl (ty_13 hT) (by decide) rfl (by decide)) rfl (by decide) rfl (fun n8 q8 => ?_)
  obtain ⟨wd_n8, hp_n8, gm_n8, _⟩ := q8
  show GX T 19 80 11 [(2, 1), (0, (k : Int))] [] n8 (RI (fun v m1 => RidF n (rowsW (upw w (42 + 2 * k) 13) D) v))
  refine gx_st (L' := [(2, 1), (0, (k : Int))]) (S' := [(2, 1)]) r_80_11 rfl rfl rfl ?_
  refine gx_gf (x := 13) 2 r_80_12 (rfl) (ty_1 hT) ⟨by decide, rfl, by decide, by decide⟩ rfl (fun _ => by omega) (pin_at hp_n8 (t := 13) rfl (by decide)) ?_
  refine gx_gf (x := 17) 2 r_80_15 (rfl) (ty_13 hT) ⟨by decide, rfl, by decide, by decide⟩ rfl (fun _ => by omega) (pin_at hp_n8 (t := 17) rfl (by decide)) ?_
  refine gx_st (L' := [(2, 1), (0, (k : Int))]) (S' := [(0, (k : Int)), (2, 17)]) r_80_18 rfl rfl rfl ?_
  refine gx_st (L' := [(2, 1), (0, (k : Int))]) (S' := [(0, 13), (0, (k : Int)), (2, 17)]) r_80_19 rfl rfl rfl ?_
  refine gx_cv (nx := 24) (S2 := []) (c_238 (r := 17) (n := 3) (ty_17 hT) (by decide) (by decide) (k := k) (by omega) 13) r_80_21 rfl rfl rfl rfl rfl rfl rfl (by decide) rfl (fun n21 q21 => ?_)
  have e_n21 : n21 = nu_up n8 17 k 13 := q21
  have hp_n21 : PinR n21 := by rw [e_n21]; exact PinR_up hp_n8 rfl
  have wd_n21 : WD n21 13 (upw w (42 + 2 * k) 13) := by
    have z := wd_modv (t := k) (y := 13) wd_n8 (by omega)
    rw [show 13 + 4 = 17 from rfl, ← e_n21] at z
    exact z
  show GX T 19 80 24 [(2, 1), (0, (k : Int))] [] n21 (RI (fun v m1 => RidF n (rowsW (upw w (42 + 2 * k) 13) D) v))
  refine gx_st (L' := [(2, 1), (0, (k : Int))]) (S' := [(2, 1)]) r_80_24 rfl rfl rfl ?_
  refine gx_gf (x := 98) 2 r_80_25 (rfl) (ty_1 hT) ⟨by decide, rfl, by decide, by decide⟩ rfl (fun _ => by omega) (pin_at hp_n21 (t := 98) rfl (by decide)) ?_
  refine gx_st (L' := [(2, 1), (0, (k : Int))]) (S' := [(2, 1), (2, 98)]) r_80_28 rfl rfl rfl ?_
  refine gx_gf (x := 13) 2 r_80_29 (rfl) (ty_1 hT) ⟨by decide, rfl, by decide, by decide⟩ rfl (fun _ => by omega) (pin_at hp_n21 (t := 13) rfl (by decide)) ?_
  refine gx_cv (nx := 35) (S2 := []) (z_246 hT (IsleT_of hT (o := 13) rfl) (wr_v hR (by omega)) (wbf_v hF (by omega)) ((modw_D (modw_v w (by omega) 13)).mpr hD) (np := ((upw w (42 + 2 * k) 13) 0).toNat) (by rw [upw_ne (by omega)]; omega) (n := n) (by rw [upw_ne (by omega)]; exact hn) hn12 (huntT_98 hT) (Or.inr (by decide)) (huntR_98 hp_n21) (IsleR_of hp_n21 rfl) wd_n21) r_80_32 rfl rfl rfl rfl rfl (rcv_v rfl (ty_98 hT) (by decide) rfl (by decide)) rfl (by decide) rfl (fun n32 q32 => ?_)
  obtain ⟨hs, fz⟩ := q32
  have pz : ∀ p i : Nat, p < 98 → n32 p i = n21 p i := fun p i z => fz p i (Or.inl z)
  show GX T 19 80 35 [(2, 1), (0, (k : Int))] [] n32 (RI (fun v m1 => RidF n (rowsW (upw w (42 + 2 * k) 13) D) v))
  refine gx_st (L' := [(2, 1), (0, (k : Int))]) (S' := [(2, 1)]) r_80_35 rfl rfl rfl ?_
  refine gx_gf (x := 98) 2 r_80_36 (rfl) (ty_1 hT) ⟨by decide, rfl, by decide, by decide⟩ rfl (fun _ => by omega) ((pz 1 8 (by decide)).trans (pin_at hp_n21 (t := 98) rfl (by decide))) ?_
  refine gx_gf (x := (n32 98 4)) 0 r_80_39 (rfl) (ty_98 hT) ⟨by decide, rfl, by decide, by decide⟩ rfl (fun z => absurd z (by decide)) (rfl) ?_
  exact gx_rt r_80_42 rfl rfl ⟨_, rfl, hunts_rid hs⟩
theorem k_81 (hT : TT T) (hp : PinR m) (hm : Gam m) {w : Wd} (hw : WD m 4 w) (hF : WBf w) (hR : WR w) {D : Nat → Nat → Int} (hD : WyD w D) {n : Nat} (hn : w 1 = (n : Int)) (hn12 : n ≤ 12) {k : Nat} (hk : (k : Int) < w 5) : GX T 19 81 0 [(2, 1), (0, (k : Int))] [] m (RI (fun v m1 => RidF n (rowsW (upw w (32 + 2 * k) 0) D) v)) := by
  have b0 := hw.2.1.1
  have b5 := hw.2.1.2.2.1
  have b6 := hw.2.1.2.2.2.1
  refine gx_st (L' := [(2, 1), (0, (k : Int))]) (S' := [(2, 1)]) r_81_0 rfl rfl rfl ?_
  refine gx_gf (x := 13) 2 r_81_1 (rfl) (ty_1 hT) ⟨by decide, rfl, by decide, by decide⟩ rfl (fun _ => by omega) (pin_at hp (t := 13) rfl (by decide)) ?_
  refine gx_st (L' := [(2, 1), (0, (k : Int))]) (S' := [(2, 1), (2, 13)]) r_81_4 rfl rfl rfl ?_
  refine gx_gf (x := 4) 2 r_81_5 (rfl) (ty_1 hT) ⟨by decide, rfl, by decide, by decide⟩ rfl (fun _ => by omega) (pin_at hp (t := 4) rfl (by decide)) ?_
  refine gx_cv (nx := 11) (S2 := []) (z_254d hT hp hm hw) r_81_8 rfl rfl rfl rfl rfl (rcv_v rfl (ty_13 hT) (by decide) rfl (by decide)) rfl (by decide) rfl (fun n8 q8 => ?_)
  obtain ⟨wd_n8, hp_n8, gm_n8, _⟩ := q8
  show GX T 19 81 11 [(2, 1), (0, (k : Int))] [] n8 (RI (fun v m1 => RidF n (rowsW (upw w (32 + 2 * k) 0) D) v))
  refine gx_st (L' := [(2, 1), (0, (k : Int))]) (S' := [(2, 1)]) r_81_11 rfl rfl rfl ?_
  refine gx_gf (x := 13) 2 r_81_12 (rfl) (ty_1 hT) ⟨by decide, rfl, by decide, by decide⟩ rfl (fun _ => by omega) (pin_at hp_n8 (t := 13) rfl (by decide)) ?_
  refine gx_gf (x := 15) 2 r_81_15 (rfl) (ty_13 hT) ⟨by decide, rfl, by decide, by decide⟩ rfl (fun _ => by omega) (pin_at hp_n8 (t := 15) rfl (by decide)) ?_
  refine gx_st (L' := [(2, 1), (0, (k : Int))]) (S' := [(0, (k : Int)), (2, 15)]) r_81_18 rfl rfl rfl ?_
  refine gx_st (L' := [(2, 1), (0, (k : Int))]) (S' := [(0, 0), (0, (k : Int)), (2, 15)]) r_81_19 rfl rfl rfl ?_
  refine gx_cv (nx := 23) (S2 := []) (c_238 (r := 15) (n := 5) (ty_15 hT) (by decide) (by decide) (k := k) (by omega) 0) r_81_20 rfl rfl rfl rfl rfl rfl rfl (by decide) rfl (fun n20 q20 => ?_)
  have e_n20 : n20 = nu_up n8 15 k 0 := q20
  have hp_n20 : PinR n20 := by rw [e_n20]; exact PinR_up hp_n8 rfl
  have wd_n20 : WD n20 13 (upw w (32 + 2 * k) 0) := by
    have z := wd_modt (t := k) (y := 0) wd_n8 (by omega)
    rw [show 13 + 2 = 15 from rfl, ← e_n20] at z
    exact z
  show GX T 19 81 23 [(2, 1), (0, (k : Int))] [] n20 (RI (fun v m1 => RidF n (rowsW (upw w (32 + 2 * k) 0) D) v))
  refine gx_st (L' := [(2, 1), (0, (k : Int))]) (S' := [(2, 1)]) r_81_23 rfl rfl rfl ?_
  refine gx_gf (x := 98) 2 r_81_24 (rfl) (ty_1 hT) ⟨by decide, rfl, by decide, by decide⟩ rfl (fun _ => by omega) (pin_at hp_n20 (t := 98) rfl (by decide)) ?_
  refine gx_st (L' := [(2, 1), (0, (k : Int))]) (S' := [(2, 1), (2, 98)]) r_81_27 rfl rfl rfl ?_
  refine gx_gf (x := 13) 2 r_81_28 (rfl) (ty_1 hT) ⟨by decide, rfl, by decide, by decide⟩ rfl (fun _ => by omega) (pin_at hp_n20 (t := 13) rfl (by decide)) ?_
  refine gx_cv (nx := 34) (S2 := []) (z_246 hT (IsleT_of hT (o := 13) rfl) (wr_t hR (by omega)) (wbf_t hF (by omega)) ((modw_D (modw_t w (by omega) 0)).mpr hD) (np := ((upw w (32 + 2 * k) 0) 0).toNat) (by rw [upw_ne (by omega)]; omega) (n := n) (by rw [upw_ne (by omega)]; exact hn) hn12 (huntT_98 hT) (Or.inr (by decide)) (huntR_98 hp_n20) (IsleR_of hp_n20 rfl) wd_n20) r_81_31 rfl rfl rfl rfl rfl (rcv_v rfl (ty_98 hT) (by decide) rfl (by decide)) rfl (by decide) rfl (fun n31 q31 => ?_)
  obtain ⟨hs, fz⟩ := q31
  have pz : ∀ p i : Nat, p < 98 → n31 p i = n20 p i := fun p i z => fz p i (Or.inl z)
  show GX T 19 81 34 [(2, 1), (0, (k : Int))] [] n31 (RI (fun v m1 => RidF n (rowsW (upw w (32 + 2 * k) 0) D) v))
  refine gx_st (L' := [(2, 1), (0, (k : Int))]) (S' := [(2, 1)]) r_81_34 rfl rfl rfl ?_
  refine gx_gf (x := 98) 2 r_81_35 (rfl) (ty_1 hT) ⟨by decide, rfl, by decide, by decide⟩ rfl (fun _ => by omega) ((pz 1 8 (by decide)).trans (pin_at hp_n20 (t := 98) rfl (by decide))) ?_
  refine gx_gf (x := (n31 98 4)) 0 r_81_38 (rfl) (ty_98 hT) ⟨by decide, rfl, by decide, by decide⟩ rfl (fun z => absurd z (by decide)) (rfl) ?_
  exact gx_rt r_81_41 rfl rfl ⟨_, rfl, hunts_rid hs⟩
theorem k_82 (hT : TT T) (hp : PinR m) (hm : Gam m) {w : Wd} (hw : WD m 4 w) (hF : WBf w) (hR : WR w) {D : Nat → Nat → Int} (hD : WyD w D) {n : Nat} (hn : w 1 = (n : Int)) (hn12 : n ≤ 12) {k : Nat} (hk : (k : Int) < w 0) : GX T 19 82 0 [(2, 1), (0, (k : Int))] [] m (RI (fun v m1 => RidF n (rowsW (upw w 10 (ior (w 10) (ishl 1 (k : Int)))) D) v)) := by
  have b0 := hw.2.1.1
  have b5 := hw.2.1.2.2.1
  have b6 := hw.2.1.2.2.2.1
  refine gx_st (L' := [(2, 1), (0, (k : Int))]) (S' := [(2, 1)]) r_82_0 rfl rfl rfl ?_
  refine gx_gf (x := 13) 2 r_82_1 (rfl) (ty_1 hT) ⟨by decide, rfl, by decide, by decide⟩ rfl (fun _ => by omega) (pin_at hp (t := 13) rfl (by decide)) ?_
  refine gx_st (L' := [(2, 1), (0, (k : Int))]) (S' := [(2, 1), (2, 13)]) r_82_4 rfl rfl rfl ?_
  refine gx_gf (x := 4) 2 r_82_5 (rfl) (ty_1 hT) ⟨by decide, rfl, by decide, by decide⟩ rfl (fun _ => by omega) (pin_at hp (t := 4) rfl (by decide)) ?_
  refine gx_cv (nx := 11) (S2 := []) (z_254d hT hp hm hw) r_82_8 rfl rfl rfl rfl rfl (rcv_v rfl (ty_13 hT) (by decide) rfl (by decide)) rfl (by decide) rfl (fun n8 q8 => ?_)
  obtain ⟨wd_n8, hp_n8, gm_n8, _⟩ := q8
  show GX T 19 82 11 [(2, 1), (0, (k : Int))] [] n8 (RI (fun v m1 => RidF n (rowsW (upw w 10 (ior (w 10) (ishl 1 (k : Int)))) D) v))
  refine gx_st (L' := [(2, 1), (0, (k : Int))]) (S' := [(2, 1)]) r_82_11 rfl rfl rfl ?_
  refine gx_gf (x := 13) 2 r_82_12 (rfl) (ty_1 hT) ⟨by decide, rfl, by decide, by decide⟩ rfl (fun _ => by omega) (pin_at hp_n8 (t := 13) rfl (by decide)) ?_
  refine gx_st (L' := [(2, 1), (0, (k : Int))]) (S' := [(2, 13), (2, 13)]) r_82_15 rfl rfl rfl ?_
  refine gx_gf (x := (w 10)) 0 r_82_16 (rfl) (ty_13 hT) ⟨by decide, rfl, by decide, by decide⟩ rfl (fun z => absurd z (by decide)) ((wd_brook wd_n8)) ?_
  refine gx_st (L' := [(2, 1), (0, (k : Int))]) (S' := [(0, 1), (0, (w 10)), (2, 13)]) r_82_19 rfl rfl rfl ?_
  refine gx_st (L' := [(2, 1), (0, (k : Int))]) (S' := [(0, (k : Int)), (0, 1), (0, (w 10)), (2, 13)]) r_82_20 rfl rfl rfl ?_
  refine gx_st (L' := [(2, 1), (0, (k : Int))]) (S' := [(0, (ishl 1 (k : Int))), (0, (w 10)), (2, 13)]) r_82_21 rfl rfl rfl ?_
  refine gx_st (L' := [(2, 1), (0, (k : Int))]) (S' := [(0, (ior (w 10) ((ishl 1 (k : Int))))), (2, 13)]) r_82_22 rfl rfl rfl ?_
  obtain ⟨m1, e_m1⟩ : ∃ z, z = nu_up n8 13 9 ((ior (w 10) ((ishl 1 (k : Int))))) := ⟨_, rfl⟩
  refine gx_pf (x := (ior (w 10) ((ishl 1 (k : Int))))) 0 r_82_23 (rfl) (ty_13 hT) ⟨by decide, rfl, by decide, by decide⟩ rfl (fun z => absurd z (by decide)) (fun z => absurd z (by decide)) e_m1.symm ?_
  refine gx_st (L' := [(2, 1), (0, (k : Int))]) (S' := [(2, 1)]) r_82_26 rfl rfl rfl ?_
  refine gx_gf (x := 98) 2 r_82_27 (rfl) (ty_1 hT) ⟨by decide, rfl, by decide, by decide⟩ rfl (fun _ => by omega) (by show m1 1 8 = _; rw [e_m1, nu_no (by decide)]; exact pin_at hp_n8 (t := 98) rfl (by decide)) ?_
  refine gx_st (L' := [(2, 1), (0, (k : Int))]) (S' := [(2, 1), (2, 98)]) r_82_30 rfl rfl rfl ?_
  refine gx_gf (x := 13) 2 r_82_31 (rfl) (ty_1 hT) ⟨by decide, rfl, by decide, by decide⟩ rfl (fun _ => by omega) (by show m1 1 2 = _; rw [e_m1, nu_no (by decide)]; exact pin_at hp_n8 (t := 13) rfl (by decide)) ?_
  have hp_m1 : PinR m1 := by rw [e_m1]; exact PinR_up hp_n8 rfl
  have wd_m1 : WD m1 13 (upw w 10 (ior (w 10) (ishl 1 (k : Int)))) := by rw [e_m1]; exact wd_modb wd_n8
  refine gx_cv (nx := 37) (S2 := []) (z_246 hT (IsleT_of hT (o := 13) rfl) (wr_b hR) (wbf_b hF) ((modw_D (modw_b w (ior (w 10) (ishl 1 (k : Int))))).mpr hD) (np := ((upw w 10 (ior (w 10) (ishl 1 (k : Int)))) 0).toNat) (by rw [upw_ne (by omega)]; omega) (n := n) (by rw [upw_ne (by omega)]; exact hn) hn12 (huntT_98 hT) (Or.inr (by decide)) (huntR_98 hp_m1) (IsleR_of hp_m1 rfl) wd_m1) r_82_34 rfl rfl rfl rfl rfl (rcv_v rfl (ty_98 hT) (by decide) rfl (by decide)) rfl (by decide) rfl (fun n34 q34 => ?_)
  obtain ⟨hs, fz⟩ := q34
  have pz : ∀ p i : Nat, p < 98 → n34 p i = m1 p i := fun p i z => fz p i (Or.inl z)
  show GX T 19 82 37 [(2, 1), (0, (k : Int))] [] n34 (RI (fun v m1 => RidF n (rowsW (upw w 10 (ior (w 10) (ishl 1 (k : Int)))) D) v))
  refine gx_st (L' := [(2, 1), (0, (k : Int))]) (S' := [(2, 1)]) r_82_37 rfl rfl rfl ?_
  refine gx_gf (x := 98) 2 r_82_38 (rfl) (ty_1 hT) ⟨by decide, rfl, by decide, by decide⟩ rfl (fun _ => by omega) ((pz 1 8 (by decide)).trans (pin_at hp_m1 (t := 98) rfl (by decide))) ?_
  refine gx_gf (x := (n34 98 4)) 0 r_82_41 (rfl) (ty_98 hT) ⟨by decide, rfl, by decide, by decide⟩ rfl (fun z => absurd z (by decide)) (rfl) ?_
  exact gx_rt r_82_44 rfl rfl ⟨_, rfl, hunts_rid hs⟩
end DRAFTC
