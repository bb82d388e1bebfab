/-! wine, bend, dams of the class -/
theorem r_41_28 : row 41 28 = some (.iload_n 3, 29, 0, 0, 0, 0) := rfl
theorem r_41_29 : row 41 29 = some (.aload_n 0, 30, 0, 0, 0, 0) := rfl
theorem r_41_30 : row 41 30 = some (.getfield 19, 33, 9, 1, 2, 2159) := rfl
theorem r_41_33 : row 41 33 = some (.getfield 143, 36, 3, 7, 10, 1097) := rfl
theorem r_41_36 : row 41 36 = some (.if_icmp .ge 30, 39, 66, 0, 0, 0) := rfl
theorem r_41_39 : row 41 39 = some (.aload_n 0, 40, 0, 0, 0, 0) := rfl
theorem r_41_40 : row 41 40 = some (.iload_n 3, 41, 0, 0, 0, 0) := rfl
theorem r_41_41 : row 41 41 = some (.invokevirtual 275, 44, 80, 1, 0, 5008) := rfl
theorem r_41_44 : row 41 44 = some (.invokestatic 248, 47, 78, 1, 0, 4183) := rfl
theorem r_41_47 : row 41 47 = some (.istore 4, 49, 0, 0, 0, 0) := rfl
theorem r_41_49 : row 41 49 = some (.iload 4, 51, 0, 0, 0, 0) := rfl
theorem r_41_51 : row 41 51 = some (.iload_n 2, 52, 0, 0, 0, 0) := rfl
theorem r_41_52 : row 41 52 = some (.if_icmp .le 8, 55, 60, 0, 0, 0) := rfl
theorem r_41_55 : row 41 55 = some (.iload 4, 57, 0, 0, 0, 0) := rfl
theorem r_41_57 : row 41 57 = some (.istore_n 2, 58, 0, 0, 0, 0) := rfl
theorem r_41_58 : row 41 58 = some (.iload_n 3, 59, 0, 0, 0, 0) := rfl
theorem r_41_59 : row 41 59 = some (.istore_n 1, 60, 0, 0, 0, 0) := rfl
theorem r_41_60 : row 41 60 = some (.iinc 3 1, 63, 0, 0, 0, 0) := rfl
theorem r_41_63 : row 41 63 = some (.goto (-35), 66, 28, 0, 0, 0) := rfl
theorem r_41_66 : row 41 66 = some (.iload_n 1, 67, 0, 0, 0, 0) := rfl
theorem r_41_67 : row 41 67 = some (.ireturn, 68, 0, 0, 0, 0) := rfl
theorem r_42_28 : row 42 28 = some (.iload_n 3, 29, 0, 0, 0, 0) := rfl
theorem r_42_29 : row 42 29 = some (.aload_n 0, 30, 0, 0, 0, 0) := rfl
theorem r_42_30 : row 42 30 = some (.getfield 19, 33, 9, 1, 2, 2159) := rfl
theorem r_42_33 : row 42 33 = some (.getfield 123, 36, 3, 6, 10, 1093) := rfl
theorem r_42_36 : row 42 36 = some (.if_icmp .ge 30, 39, 66, 0, 0, 0) := rfl
theorem r_42_39 : row 42 39 = some (.aload_n 0, 40, 0, 0, 0, 0) := rfl
theorem r_42_40 : row 42 40 = some (.iload_n 3, 41, 0, 0, 0, 0) := rfl
theorem r_42_41 : row 42 41 = some (.invokevirtual 278, 44, 81, 1, 0, 5016) := rfl
theorem r_42_44 : row 42 44 = some (.invokestatic 248, 47, 78, 1, 0, 4183) := rfl
theorem r_42_47 : row 42 47 = some (.istore 4, 49, 0, 0, 0, 0) := rfl
theorem r_42_49 : row 42 49 = some (.iload 4, 51, 0, 0, 0, 0) := rfl
theorem r_42_51 : row 42 51 = some (.iload_n 2, 52, 0, 0, 0, 0) := rfl
theorem r_42_52 : row 42 52 = some (.if_icmp .ge 8, 55, 60, 0, 0, 0) := rfl
theorem r_42_55 : row 42 55 = some (.iload 4, 57, 0, 0, 0, 0) := rfl
theorem r_42_57 : row 42 57 = some (.istore_n 2, 58, 0, 0, 0, 0) := rfl
theorem r_42_58 : row 42 58 = some (.iload_n 3, 59, 0, 0, 0, 0) := rfl
theorem r_42_59 : row 42 59 = some (.istore_n 1, 60, 0, 0, 0, 0) := rfl
theorem r_42_60 : row 42 60 = some (.iinc 3 1, 63, 0, 0, 0, 0) := rfl
theorem r_42_63 : row 42 63 = some (.goto (-35), 66, 28, 0, 0, 0) := rfl
theorem r_42_66 : row 42 66 = some (.iload_n 1, 67, 0, 0, 0, 0) := rfl
theorem r_42_67 : row 42 67 = some (.ireturn, 68, 0, 0, 0, 0) := rfl
theorem r_45_28 : row 45 28 = some (.iload_n 3, 29, 0, 0, 0, 0) := rfl
theorem r_45_29 : row 45 29 = some (.aload_n 0, 30, 0, 0, 0, 0) := rfl
theorem r_45_30 : row 45 30 = some (.getfield 19, 33, 9, 1, 2, 2159) := rfl
theorem r_45_33 : row 45 33 = some (.getfield 284, 36, 3, 1, 10, 1072) := rfl
theorem r_45_36 : row 45 36 = some (.if_icmp .ge 30, 39, 66, 0, 0, 0) := rfl
theorem r_45_39 : row 45 39 = some (.aload_n 0, 40, 0, 0, 0, 0) := rfl
theorem r_45_40 : row 45 40 = some (.iload_n 3, 41, 0, 0, 0, 0) := rfl
theorem r_45_41 : row 45 41 = some (.invokevirtual 281, 44, 82, 1, 0, 5028) := rfl
theorem r_45_44 : row 45 44 = some (.invokestatic 248, 47, 78, 1, 0, 4183) := rfl
theorem r_45_47 : row 45 47 = some (.istore 4, 49, 0, 0, 0, 0) := rfl
theorem r_45_49 : row 45 49 = some (.iload 4, 51, 0, 0, 0, 0) := rfl
theorem r_45_51 : row 45 51 = some (.iload_n 2, 52, 0, 0, 0, 0) := rfl
theorem r_45_52 : row 45 52 = some (.if_icmp .ge 8, 55, 60, 0, 0, 0) := rfl
theorem r_45_55 : row 45 55 = some (.iload 4, 57, 0, 0, 0, 0) := rfl
theorem r_45_57 : row 45 57 = some (.istore_n 2, 58, 0, 0, 0, 0) := rfl
theorem r_45_58 : row 45 58 = some (.iload_n 3, 59, 0, 0, 0, 0) := rfl
theorem r_45_59 : row 45 59 = some (.istore_n 1, 60, 0, 0, 0, 0) := rfl
theorem r_45_60 : row 45 60 = some (.iinc 3 1, 63, 0, 0, 0, 0) := rfl
theorem r_45_63 : row 45 63 = some (.goto (-35), 66, 28, 0, 0, 0) := rfl
theorem r_45_66 : row 45 66 = some (.iload_n 1, 67, 0, 0, 0, 0) := rfl
theorem r_45_67 : row 45 67 = some (.ireturn, 68, 0, 0, 0, 0) := rfl
section LOOPC
variable {T : List Kd} {m : Mm}
set_option maxRecDepth 100000 in
theorem cu_80 : conL[480]? = some (80, [(2, 1, 0), (0, (-2147483648), 2147483647)], (0, (-2147483648), 2147483647), [13000, 13001, 13002, 13003, 13004, 13005, 13006, 13007, 13008, 13009, 14999, 15999, 16999, 17999, 18999, 19999, 20999, 21999, 62004, 62005, 62006, 64999, 65999, 66999, 67000, 67001, 67002, 67003, 67004, 67005, 67006, 67007, 68999, 69999], 17) := rfl
set_option maxRecDepth 100000 in
theorem pu_80 (hT : TT T) : ConH T (80, [(2, 1, 0), (0, (-2147483648), 2147483647)], (0, (-2147483648), 2147483647), [13000, 13001, 13002, 13003, 13004, 13005, 13006, 13007, 13008, 13009, 14999, 15999, 16999, 17999, 18999, 19999, 20999, 21999, 62004, 62005, 62006, 64999, 65999, 66999, 67000, 67001, 67002, 67003, 67004, 67005, 67006, 67007, 68999, 69999], 17) := fun args m => ((all_con hT 480).1 (by decide)) _ cu_80 args m
theorem lc_41 (hT : TT T) {w : Wd} (hF : WBf w) (hR : WR w) {D : Nat → Nat → Int} (hD : WyD w D) {n : Nat} (hn : w 1 = (n : Int)) (hn12 : n ≤ 12) {x : Int} (rx : RidF n (rowsW w D) x) {c : Nat} (hc : w 6 = (c : Int)) (hc7 : c ≤ 7) : ∀ (N k : Nat) (p : Mm) (y f : Int) (E : Nat → Int) (x4 : AV), c - k < N → k ≤ c → PinR p → Gam p → WD p 4 w → PlanX p → (∀ j : Nat, j < k → RidF n (rowsW (upw w (42 + 2 * j) 13) D) (E j)) → f = (scY true E x k).1 → y = (scY true E x k).2 → GX T 20 41 28 [(2, 1), (0, f), (0, (if y = -1 then 12 else y)), (0, (k : Int)), x4] [] p (RI (fun v m1 => (∃ E : Nat → Int, (∀ j : Nat, j < c → RidF n (rowsW (upw w (42 + 2 * j) 13) D) (E j)) ∧ v = (scY true E x c).1) ∧ PlanX m1)) := by
  intro N
  induction N with
  | zero => intro k p y f E x4 hN; exact absurd hN (Nat.not_lt_zero _)
  | succ N ih =>
    intro k p y f E x4 hN hk pp gp wp px hE ef ey
    have ry := scY_r (up := true) (E := E) (x := x) (ridF_r hn12 rx) k (fun j hj => ridF_r hn12 (hE j hj))
    rw [← ey] at ry
    refine gx_st (L' := [(2, 1), (0, f), (0, (if y = -1 then 12 else y)), (0, (k : Int)), x4]) (S' := [(0, (k : Int))]) r_41_28 rfl rfl rfl ?_
    refine gx_st (L' := [(2, 1), (0, f), (0, (if y = -1 then 12 else y)), (0, (k : Int)), x4]) (S' := [(2, 1), (0, (k : Int))]) r_41_29 rfl rfl rfl ?_
    refine gx_gf (x := 4) 2 r_41_30 (rfl) (ty_1 hT) ⟨by decide, rfl, by decide, by decide⟩ rfl (fun _ => by omega) (pin_at pp (t := 4) rfl (by decide)) ?_
    refine gx_gf (x := (c : Int)) 0 r_41_33 (rfl) (ty_4 hT) ⟨by decide, rfl, by decide, by decide⟩ rfl (fun z => absurd z (by decide)) ((wp.1.2.2.2.2.2.2.2.1).trans hc) ?_
    refine gx_ic (P := (c : Int) ≤ (k : Int)) r_41_36 (rfl) (fun h36 => ?_) (fun h36 => ?_)
    · refine gx_st (L' := [(2, 1), (0, f), (0, (if y = -1 then 12 else y)), (0, (k : Int)), x4]) (S' := [(0, f)]) r_41_66 rfl rfl rfl ?_
      have hkc : k = c := by omega
      subst hkc
      exact gx_rt r_41_67 rfl rfl ⟨_, rfl, ⟨E, hE, ef⟩, px⟩
    · refine gx_st (L' := [(2, 1), (0, f), (0, (if y = -1 then 12 else y)), (0, (k : Int)), x4]) (S' := [(2, 1)]) r_41_39 rfl rfl rfl ?_
      refine gx_st (L' := [(2, 1), (0, f), (0, (if y = -1 then 12 else y)), (0, (k : Int)), x4]) (S' := [(0, (k : Int)), (2, 1)]) r_41_40 rfl rfl rfl ?_
      refine gx_ci (nx := 44) (S2 := []) (gx_ai (k_80 hT pp gp wp hF hR hD hn hn12 (k := k) (by omega)) (gx_hi (args := [(2, 1), (0, (k : Int))]) (pu_80 hT) ⟨gq_o1z, gq_any (by omega) (by omega), trivial⟩ gp rfl)) r_41_41 rfl rfl rfl rfl rfl (rcv_v rfl (ty_1 hT) (by decide) rfl (by decide)) rfl (by decide) rfl (fun x41 n41 q41 => ?_)
      obtain ⟨rz, _, _, gm1, f1⟩ := q41
      obtain ⟨z, ez⟩ : ∃ z, z = x41 := ⟨_, rfl⟩
      rw [← ez] at rz ⊢
      have zr := ridF_r hn12 rz
      have pp1 : PinR n41 := PinR_fr f1 (by decide) pp
      have wp1 : WD n41 4 w := WD_eq wp (fun q i q1 q2 hi => fr_4 f1 (by decide) q i q1 (by omega) hi)
      have px1 : PlanX n41 := planx_fr f1 (by decide) px
      show GX T 20 41 44 [(2, 1), (0, f), (0, (if y = -1 then 12 else y)), (0, (k : Int)), x4] [(0, z)] n41 (RI (fun v m1 => (∃ E : Nat → Int, (∀ j : Nat, j < c → RidF n (rowsW (upw w (42 + 2 * j) 13) D) (E j)) ∧ v = (scY true E x c).1) ∧ PlanX m1))
      show GX T 20 41 44 [(2, 1), (0, f), (0, (if y = -1 then 12 else y)), (0, (k : Int)), x4] [(0, z)] n41 (RI (fun v m1 => (∃ E : Nat → Int, (∀ j : Nat, j < c → RidF n (rowsW (upw w (42 + 2 * j) 13) D) (E j)) ∧ v = (scY true E x c).1) ∧ PlanX m1))
      refine gx_ci (nx := 47) (S2 := []) (l_78 z) r_41_44 rfl rfl rfl rfl rfl rfl rfl (by decide) rfl (fun x44 n44 q44 => ?_)
      obtain ⟨e_x44, z_x44⟩ := q44
      obtain rfl := z_x44.symm
      rw [e_x44]
      show GX T 20 41 47 [(2, 1), (0, f), (0, (if y = -1 then 12 else y)), (0, (k : Int)), x4] [(0, (if z = -1 then 12 else z))] n41 (RI (fun v m1 => (∃ E : Nat → Int, (∀ j : Nat, j < c → RidF n (rowsW (upw w (42 + 2 * j) 13) D) (E j)) ∧ v = (scY true E x c).1) ∧ PlanX m1))
      refine gx_st (L' := [(2, 1), (0, f), (0, (if y = -1 then 12 else y)), (0, (k : Int)), (0, (if z = -1 then 12 else z))]) (S' := []) r_41_47 rfl rfl rfl ?_
      refine gx_st (L' := [(2, 1), (0, f), (0, (if y = -1 then 12 else y)), (0, (k : Int)), (0, (if z = -1 then 12 else z))]) (S' := [(0, (if z = -1 then 12 else z))]) r_41_49 rfl rfl rfl ?_
      refine gx_st (L' := [(2, 1), (0, f), (0, (if y = -1 then 12 else y)), (0, (k : Int)), (0, (if z = -1 then 12 else z))]) (S' := [(0, (if y = -1 then 12 else y)), (0, (if z = -1 then 12 else z))]) r_41_51 rfl rfl rfl ?_
      refine gx_ic (P := (if z = -1 then 12 else z) ≤ (if y = -1 then 12 else y)) r_41_52 (rfl) (fun h52 => ?_) (fun h52 => ?_)
      · refine gx_li (z := (k : Int) + 1) (L' := [(2, 1), (0, f), (0, (if y = -1 then 12 else y)), (0, (k : Int) + 1), (0, (if z = -1 then 12 else z))]) r_41_60 rfl (w32_eq (by omega) (by omega) (by omega)) rfl ?_
        refine gx_st (L' := [(2, 1), (0, f), (0, (if y = -1 then 12 else y)), (0, (k : Int) + 1), (0, (if z = -1 then 12 else z))]) (S' := []) r_41_63 rfl rfl rfl ?_
        rw [show (k : Int) + 1 = ((k + 1 : Nat) : Int) from rfl]
        have ec := scY_c (up := true) (E := fun j => if j = k then z else E j) (F := E) (x := x) k (fun j hj => if_neg (by omega))
        have cc : ¬ ((true = true ∧ ltH (scY true (fun j => if j = k then z else E j) x k).2 ((fun j => if j = k then z else E j) k) = true) ∨ (true = false ∧ ltH ((fun j => if j = k then z else E j) k) (scY true (fun j => if j = k then z else E j) x k).2 = true)) := by
          rw [ec, ← ey, show (fun j => if j = k then z else E j) k = z from if_pos rfl]
          rintro (⟨q1, q2⟩ | ⟨q1, q2⟩)
          · have := (ltH_12 ry zr).mp q2; omega
          · exact absurd q1 (by decide)
        have es : scY true (fun j => if j = k then z else E j) x (k + 1) = scY true E x k := (if_neg cc).trans ec
        refine ih (k + 1) n41 _ _ (fun j => if j = k then z else E j) _ (by omega) (by omega) pp1 gm1 wp1 px1 (fun j hj => ?_) (by rw [es]; exact ef) (by rw [es]; exact ey)
        by_cases q : j = k
        · show RidF n _ (if j = k then z else E j)
          rw [if_pos q, q]; exact rz
        · show RidF n _ (if j = k then z else E j)
          rw [if_neg q]; exact hE j (by omega)
      · refine gx_st (L' := [(2, 1), (0, f), (0, (if y = -1 then 12 else y)), (0, (k : Int)), (0, (if z = -1 then 12 else z))]) (S' := [(0, (if z = -1 then 12 else z))]) r_41_55 rfl rfl rfl ?_
        refine gx_st (L' := [(2, 1), (0, f), (0, (if z = -1 then 12 else z)), (0, (k : Int)), (0, (if z = -1 then 12 else z))]) (S' := []) r_41_57 rfl rfl rfl ?_
        refine gx_st (L' := [(2, 1), (0, f), (0, (if z = -1 then 12 else z)), (0, (k : Int)), (0, (if z = -1 then 12 else z))]) (S' := [(0, (k : Int))]) r_41_58 rfl rfl rfl ?_
        refine gx_st (L' := [(2, 1), (0, (k : Int)), (0, (if z = -1 then 12 else z)), (0, (k : Int)), (0, (if z = -1 then 12 else z))]) (S' := []) r_41_59 rfl rfl rfl ?_
        refine gx_li (z := (k : Int) + 1) (L' := [(2, 1), (0, (k : Int)), (0, (if z = -1 then 12 else z)), (0, (k : Int) + 1), (0, (if z = -1 then 12 else z))]) r_41_60 rfl (w32_eq (by omega) (by omega) (by omega)) rfl ?_
        refine gx_st (L' := [(2, 1), (0, (k : Int)), (0, (if z = -1 then 12 else z)), (0, (k : Int) + 1), (0, (if z = -1 then 12 else z))]) (S' := []) r_41_63 rfl rfl rfl ?_
        rw [show (k : Int) + 1 = ((k + 1 : Nat) : Int) from rfl]
        have ec := scY_c (up := true) (E := fun j => if j = k then z else E j) (F := E) (x := x) k (fun j hj => if_neg (by omega))
        have cc : ((true = true ∧ ltH (scY true (fun j => if j = k then z else E j) x k).2 ((fun j => if j = k then z else E j) k) = true) ∨ (true = false ∧ ltH ((fun j => if j = k then z else E j) k) (scY true (fun j => if j = k then z else E j) x k).2 = true)) := by
          rw [ec, ← ey, show (fun j => if j = k then z else E j) k = z from if_pos rfl]
          exact Or.inl ⟨rfl, (ltH_12 ry zr).mpr (by omega)⟩
        have es : scY true (fun j => if j = k then z else E j) x (k + 1) = ((k : Int), z) := (if_pos cc).trans (by show ((k : Int), (if k = k then z else E k)) = _; rw [if_pos rfl])
        refine ih (k + 1) n41 _ _ (fun j => if j = k then z else E j) _ (by omega) (by omega) pp1 gm1 wp1 px1 (fun j hj => ?_) (by rw [es]) (by rw [es])
        by_cases q : j = k
        · show RidF n _ (if j = k then z else E j)
          rw [if_pos q, q]; exact rz
        · show RidF n _ (if j = k then z else E j)
          rw [if_neg q]; exact hE j (by omega)
set_option maxRecDepth 100000 in
theorem cu_81 : conL[482]? = some (81, [(2, 1, 0), (0, (-2147483648), 2147483647)], (0, (-2147483648), 2147483647), [13000, 13001, 13002, 13003, 13004, 13005, 13006, 13007, 13008, 13009, 14999, 15999, 16999, 17999, 18999, 19999, 20999, 21999, 62004, 62005, 62006, 64999, 65999, 66999, 67000, 67001, 67002, 67003, 67004, 67005, 67006, 67007, 68999, 69999], 17) := rfl
set_option maxRecDepth 100000 in
theorem pu_81 (hT : TT T) : ConH T (81, [(2, 1, 0), (0, (-2147483648), 2147483647)], (0, (-2147483648), 2147483647), [13000, 13001, 13002, 13003, 13004, 13005, 13006, 13007, 13008, 13009, 14999, 15999, 16999, 17999, 18999, 19999, 20999, 21999, 62004, 62005, 62006, 64999, 65999, 66999, 67000, 67001, 67002, 67003, 67004, 67005, 67006, 67007, 68999, 69999], 17) := fun args m => ((all_con hT 482).1 (by decide)) _ cu_81 args m
theorem lc_42 (hT : TT T) {w : Wd} (hF : WBf w) (hR : WR w) {D : Nat → Nat → Int} (hD : WyD w D) {n : Nat} (hn : w 1 = (n : Int)) (hn12 : n ≤ 12) {x : Int} (rx : RidF n (rowsW w D) x) {c : Nat} (hc : w 5 = (c : Int)) (hc7 : c ≤ 7) : ∀ (N k : Nat) (p : Mm) (y f : Int) (E : Nat → Int) (x4 : AV), c - k < N → k ≤ c → PinR p → Gam p → WD p 4 w → PlanX p → (∀ j : Nat, j < k → RidF n (rowsW (upw w (32 + 2 * j) 0) D) (E j)) → f = (scY false E x k).1 → y = (scY false E x k).2 → GX T 20 42 28 [(2, 1), (0, f), (0, (if y = -1 then 12 else y)), (0, (k : Int)), x4] [] p (RI (fun v m1 => (∃ E : Nat → Int, (∀ j : Nat, j < c → RidF n (rowsW (upw w (32 + 2 * j) 0) D) (E j)) ∧ v = (scY false E x c).1) ∧ PlanX m1)) := by
  intro N
  induction N with
  | zero => intro k p y f E x4 hN; exact absurd hN (Nat.not_lt_zero _)
  | succ N ih =>
    intro k p y f E x4 hN hk pp gp wp px hE ef ey
    have ry := scY_r (up := false) (E := E) (x := x) (ridF_r hn12 rx) k (fun j hj => ridF_r hn12 (hE j hj))
    rw [← ey] at ry
    refine gx_st (L' := [(2, 1), (0, f), (0, (if y = -1 then 12 else y)), (0, (k : Int)), x4]) (S' := [(0, (k : Int))]) r_42_28 rfl rfl rfl ?_
    refine gx_st (L' := [(2, 1), (0, f), (0, (if y = -1 then 12 else y)), (0, (k : Int)), x4]) (S' := [(2, 1), (0, (k : Int))]) r_42_29 rfl rfl rfl ?_
    refine gx_gf (x := 4) 2 r_42_30 (rfl) (ty_1 hT) ⟨by decide, rfl, by decide, by decide⟩ rfl (fun _ => by omega) (pin_at pp (t := 4) rfl (by decide)) ?_
    refine gx_gf (x := (c : Int)) 0 r_42_33 (rfl) (ty_4 hT) ⟨by decide, rfl, by decide, by decide⟩ rfl (fun z => absurd z (by decide)) ((wp.1.2.2.2.2.2.2.1).trans hc) ?_
    refine gx_ic (P := (c : Int) ≤ (k : Int)) r_42_36 (rfl) (fun h36 => ?_) (fun h36 => ?_)
    · refine gx_st (L' := [(2, 1), (0, f), (0, (if y = -1 then 12 else y)), (0, (k : Int)), x4]) (S' := [(0, f)]) r_42_66 rfl rfl rfl ?_
      have hkc : k = c := by omega
      subst hkc
      exact gx_rt r_42_67 rfl rfl ⟨_, rfl, ⟨E, hE, ef⟩, px⟩
    · refine gx_st (L' := [(2, 1), (0, f), (0, (if y = -1 then 12 else y)), (0, (k : Int)), x4]) (S' := [(2, 1)]) r_42_39 rfl rfl rfl ?_
      refine gx_st (L' := [(2, 1), (0, f), (0, (if y = -1 then 12 else y)), (0, (k : Int)), x4]) (S' := [(0, (k : Int)), (2, 1)]) r_42_40 rfl rfl rfl ?_
      refine gx_ci (nx := 44) (S2 := []) (gx_ai (k_81 hT pp gp wp hF hR hD hn hn12 (k := k) (by omega)) (gx_hi (args := [(2, 1), (0, (k : Int))]) (pu_81 hT) ⟨gq_o1z, gq_any (by omega) (by omega), trivial⟩ gp rfl)) r_42_41 rfl rfl rfl rfl rfl (rcv_v rfl (ty_1 hT) (by decide) rfl (by decide)) rfl (by decide) rfl (fun x41 n41 q41 => ?_)
      obtain ⟨rz, _, _, gm1, f1⟩ := q41
      obtain ⟨z, ez⟩ : ∃ z, z = x41 := ⟨_, rfl⟩
      rw [← ez] at rz ⊢
      have zr := ridF_r hn12 rz
      have pp1 : PinR n41 := PinR_fr f1 (by decide) pp
      have wp1 : WD n41 4 w := WD_eq wp (fun q i q1 q2 hi => fr_4 f1 (by decide) q i q1 (by omega) hi)
      have px1 : PlanX n41 := planx_fr f1 (by decide) px
      show GX T 20 42 44 [(2, 1), (0, f), (0, (if y = -1 then 12 else y)), (0, (k : Int)), x4] [(0, z)] n41 (RI (fun v m1 => (∃ E : Nat → Int, (∀ j : Nat, j < c → RidF n (rowsW (upw w (32 + 2 * j) 0) D) (E j)) ∧ v = (scY false E x c).1) ∧ PlanX m1))
      show GX T 20 42 44 [(2, 1), (0, f), (0, (if y = -1 then 12 else y)), (0, (k : Int)), x4] [(0, z)] n41 (RI (fun v m1 => (∃ E : Nat → Int, (∀ j : Nat, j < c → RidF n (rowsW (upw w (32 + 2 * j) 0) D) (E j)) ∧ v = (scY false E x c).1) ∧ PlanX m1))
      refine gx_ci (nx := 47) (S2 := []) (l_78 z) r_42_44 rfl rfl rfl rfl rfl rfl rfl (by decide) rfl (fun x44 n44 q44 => ?_)
      obtain ⟨e_x44, z_x44⟩ := q44
      obtain rfl := z_x44.symm
      rw [e_x44]
      show GX T 20 42 47 [(2, 1), (0, f), (0, (if y = -1 then 12 else y)), (0, (k : Int)), x4] [(0, (if z = -1 then 12 else z))] n41 (RI (fun v m1 => (∃ E : Nat → Int, (∀ j : Nat, j < c → RidF n (rowsW (upw w (32 + 2 * j) 0) D) (E j)) ∧ v = (scY false E x c).1) ∧ PlanX m1))
      refine gx_st (L' := [(2, 1), (0, f), (0, (if y = -1 then 12 else y)), (0, (k : Int)), (0, (if z = -1 then 12 else z))]) (S' := []) r_42_47 rfl rfl rfl ?_
      refine gx_st (L' := [(2, 1), (0, f), (0, (if y = -1 then 12 else y)), (0, (k : Int)), (0, (if z = -1 then 12 else z))]) (S' := [(0, (if z = -1 then 12 else z))]) r_42_49 rfl rfl rfl ?_
      refine gx_st (L' := [(2, 1), (0, f), (0, (if y = -1 then 12 else y)), (0, (k : Int)), (0, (if z = -1 then 12 else z))]) (S' := [(0, (if y = -1 then 12 else y)), (0, (if z = -1 then 12 else z))]) r_42_51 rfl rfl rfl ?_
      refine gx_ic (P := (if y = -1 then 12 else y) ≤ (if z = -1 then 12 else z)) r_42_52 (rfl) (fun h52 => ?_) (fun h52 => ?_)
      · refine gx_li (z := (k : Int) + 1) (L' := [(2, 1), (0, f), (0, (if y = -1 then 12 else y)), (0, (k : Int) + 1), (0, (if z = -1 then 12 else z))]) r_42_60 rfl (w32_eq (by omega) (by omega) (by omega)) rfl ?_
        refine gx_st (L' := [(2, 1), (0, f), (0, (if y = -1 then 12 else y)), (0, (k : Int) + 1), (0, (if z = -1 then 12 else z))]) (S' := []) r_42_63 rfl rfl rfl ?_
        rw [show (k : Int) + 1 = ((k + 1 : Nat) : Int) from rfl]
        have ec := scY_c (up := false) (E := fun j => if j = k then z else E j) (F := E) (x := x) k (fun j hj => if_neg (by omega))
        have cc : ¬ ((false = true ∧ ltH (scY false (fun j => if j = k then z else E j) x k).2 ((fun j => if j = k then z else E j) k) = true) ∨ (false = false ∧ ltH ((fun j => if j = k then z else E j) k) (scY false (fun j => if j = k then z else E j) x k).2 = true)) := by
          rw [ec, ← ey, show (fun j => if j = k then z else E j) k = z from if_pos rfl]
          rintro (⟨q1, q2⟩ | ⟨q1, q2⟩)
          · exact absurd q1 (by decide)
          · have := (ltH_12 zr ry).mp q2; omega
        have es : scY false (fun j => if j = k then z else E j) x (k + 1) = scY false E x k := (if_neg cc).trans ec
        refine ih (k + 1) n41 _ _ (fun j => if j = k then z else E j) _ (by omega) (by omega) pp1 gm1 wp1 px1 (fun j hj => ?_) (by rw [es]; exact ef) (by rw [es]; exact ey)
        by_cases q : j = k
        · show RidF n _ (if j = k then z else E j)
          rw [if_pos q, q]; exact rz
        · show RidF n _ (if j = k then z else E j)
          rw [if_neg q]; exact hE j (by omega)
      · refine gx_st (L' := [(2, 1), (0, f), (0, (if y = -1 then 12 else y)), (0, (k : Int)), (0, (if z = -1 then 12 else z))]) (S' := [(0, (if z = -1 then 12 else z))]) r_42_55 rfl rfl rfl ?_
        refine gx_st (L' := [(2, 1), (0, f), (0, (if z = -1 then 12 else z)), (0, (k : Int)), (0, (if z = -1 then 12 else z))]) (S' := []) r_42_57 rfl rfl rfl ?_
        refine gx_st (L' := [(2, 1), (0, f), (0, (if z = -1 then 12 else z)), (0, (k : Int)), (0, (if z = -1 then 12 else z))]) (S' := [(0, (k : Int))]) r_42_58 rfl rfl rfl ?_
        refine gx_st (L' := [(2, 1), (0, (k : Int)), (0, (if z = -1 then 12 else z)), (0, (k : Int)), (0, (if z = -1 then 12 else z))]) (S' := []) r_42_59 rfl rfl rfl ?_
        refine gx_li (z := (k : Int) + 1) (L' := [(2, 1), (0, (k : Int)), (0, (if z = -1 then 12 else z)), (0, (k : Int) + 1), (0, (if z = -1 then 12 else z))]) r_42_60 rfl (w32_eq (by omega) (by omega) (by omega)) rfl ?_
        refine gx_st (L' := [(2, 1), (0, (k : Int)), (0, (if z = -1 then 12 else z)), (0, (k : Int) + 1), (0, (if z = -1 then 12 else z))]) (S' := []) r_42_63 rfl rfl rfl ?_
        rw [show (k : Int) + 1 = ((k + 1 : Nat) : Int) from rfl]
        have ec := scY_c (up := false) (E := fun j => if j = k then z else E j) (F := E) (x := x) k (fun j hj => if_neg (by omega))
        have cc : ((false = true ∧ ltH (scY false (fun j => if j = k then z else E j) x k).2 ((fun j => if j = k then z else E j) k) = true) ∨ (false = false ∧ ltH ((fun j => if j = k then z else E j) k) (scY false (fun j => if j = k then z else E j) x k).2 = true)) := by
          rw [ec, ← ey, show (fun j => if j = k then z else E j) k = z from if_pos rfl]
          exact Or.inr ⟨rfl, (ltH_12 zr ry).mpr (by omega)⟩
        have es : scY false (fun j => if j = k then z else E j) x (k + 1) = ((k : Int), z) := (if_pos cc).trans (by show ((k : Int), (if k = k then z else E k)) = _; rw [if_pos rfl])
        refine ih (k + 1) n41 _ _ (fun j => if j = k then z else E j) _ (by omega) (by omega) pp1 gm1 wp1 px1 (fun j hj => ?_) (by rw [es]) (by rw [es])
        by_cases q : j = k
        · show RidF n _ (if j = k then z else E j)
          rw [if_pos q, q]; exact rz
        · show RidF n _ (if j = k then z else E j)
          rw [if_neg q]; exact hE j (by omega)
set_option maxRecDepth 100000 in
theorem cu_82 : conL[485]? = some (82, [(2, 1, 0), (0, (-2147483648), 2147483647)], (0, (-2147483648), 2147483647), [13000, 13001, 13002, 13003, 13004, 13005, 13006, 13007, 13008, 13009, 14999, 15999, 16999, 17999, 18999, 19999, 20999, 21999, 62004, 62005, 62006, 64999, 65999, 66999, 67000, 67001, 67002, 67003, 67004, 67005, 67006, 67007, 68999, 69999], 17) := rfl
set_option maxRecDepth 100000 in
theorem pu_82 (hT : TT T) : ConH T (82, [(2, 1, 0), (0, (-2147483648), 2147483647)], (0, (-2147483648), 2147483647), [13000, 13001, 13002, 13003, 13004, 13005, 13006, 13007, 13008, 13009, 14999, 15999, 16999, 17999, 18999, 19999, 20999, 21999, 62004, 62005, 62006, 64999, 65999, 66999, 67000, 67001, 67002, 67003, 67004, 67005, 67006, 67007, 68999, 69999], 17) := fun args m => ((all_con hT 485).1 (by decide)) _ cu_82 args m
theorem lc_45 (hT : TT T) {w : Wd} (hF : WBf w) (hR : WR w) {D : Nat → Nat → Int} (hD : WyD w D) {n : Nat} (hn : w 1 = (n : Int)) (hn12 : n ≤ 12) {x : Int} (rx : RidF n (rowsW w D) x) {c : Nat} (hc : w 0 = (c : Int)) (hc7 : c ≤ 7) : ∀ (N k : Nat) (p : Mm) (y f : Int) (E : Nat → Int) (x4 : AV), c - k < N → k ≤ c → PinR p → Gam p → WD p 4 w → PlanX p → (∀ j : Nat, j < k → RidF n (rowsW (upw w 10 (ior (w 10) (ishl 1 (j : Int)))) D) (E j)) → f = (scY false E x k).1 → y = (scY false E x k).2 → GX T 20 45 28 [(2, 1), (0, f), (0, (if y = -1 then 12 else y)), (0, (k : Int)), x4] [] p (RI (fun v m1 => (∃ E : Nat → Int, (∀ j : Nat, j < c → RidF n (rowsW (upw w 10 (ior (w 10) (ishl 1 (j : Int)))) D) (E j)) ∧ v = (scY false E x c).1) ∧ PlanX m1)) := by
  intro N
  induction N with
  | zero => intro k p y f E x4 hN; exact absurd hN (Nat.not_lt_zero _)
  | succ N ih =>
    intro k p y f E x4 hN hk pp gp wp px hE ef ey
    have ry := scY_r (up := false) (E := E) (x := x) (ridF_r hn12 rx) k (fun j hj => ridF_r hn12 (hE j hj))
    rw [← ey] at ry
    refine gx_st (L' := [(2, 1), (0, f), (0, (if y = -1 then 12 else y)), (0, (k : Int)), x4]) (S' := [(0, (k : Int))]) r_45_28 rfl rfl rfl ?_
    refine gx_st (L' := [(2, 1), (0, f), (0, (if y = -1 then 12 else y)), (0, (k : Int)), x4]) (S' := [(2, 1), (0, (k : Int))]) r_45_29 rfl rfl rfl ?_
    refine gx_gf (x := 4) 2 r_45_30 (rfl) (ty_1 hT) ⟨by decide, rfl, by decide, by decide⟩ rfl (fun _ => by omega) (pin_at pp (t := 4) rfl (by decide)) ?_
    refine gx_gf (x := (c : Int)) 0 r_45_33 (rfl) (ty_4 hT) ⟨by decide, rfl, by decide, by decide⟩ rfl (fun z => absurd z (by decide)) ((wp.1.2.1).trans hc) ?_
    refine gx_ic (P := (c : Int) ≤ (k : Int)) r_45_36 (rfl) (fun h36 => ?_) (fun h36 => ?_)
    · refine gx_st (L' := [(2, 1), (0, f), (0, (if y = -1 then 12 else y)), (0, (k : Int)), x4]) (S' := [(0, f)]) r_45_66 rfl rfl rfl ?_
      have hkc : k = c := by omega
      subst hkc
      exact gx_rt r_45_67 rfl rfl ⟨_, rfl, ⟨E, hE, ef⟩, px⟩
    · refine gx_st (L' := [(2, 1), (0, f), (0, (if y = -1 then 12 else y)), (0, (k : Int)), x4]) (S' := [(2, 1)]) r_45_39 rfl rfl rfl ?_
      refine gx_st (L' := [(2, 1), (0, f), (0, (if y = -1 then 12 else y)), (0, (k : Int)), x4]) (S' := [(0, (k : Int)), (2, 1)]) r_45_40 rfl rfl rfl ?_
      refine gx_ci (nx := 44) (S2 := []) (gx_ai (k_82 hT pp gp wp hF hR hD hn hn12 (k := k) (by omega)) (gx_hi (args := [(2, 1), (0, (k : Int))]) (pu_82 hT) ⟨gq_o1z, gq_any (by omega) (by omega), trivial⟩ gp rfl)) r_45_41 rfl rfl rfl rfl rfl (rcv_v rfl (ty_1 hT) (by decide) rfl (by decide)) rfl (by decide) rfl (fun x41 n41 q41 => ?_)
      obtain ⟨rz, _, _, gm1, f1⟩ := q41
      obtain ⟨z, ez⟩ : ∃ z, z = x41 := ⟨_, rfl⟩
      rw [← ez] at rz ⊢
      have zr := ridF_r hn12 rz
      have pp1 : PinR n41 := PinR_fr f1 (by decide) pp
      have wp1 : WD n41 4 w := WD_eq wp (fun q i q1 q2 hi => fr_4 f1 (by decide) q i q1 (by omega) hi)
      have px1 : PlanX n41 := planx_fr f1 (by decide) px
      show GX T 20 45 44 [(2, 1), (0, f), (0, (if y = -1 then 12 else y)), (0, (k : Int)), x4] [(0, z)] n41 (RI (fun v m1 => (∃ E : Nat → Int, (∀ j : Nat, j < c → RidF n (rowsW (upw w 10 (ior (w 10) (ishl 1 (j : Int)))) D) (E j)) ∧ v = (scY false E x c).1) ∧ PlanX m1))
      show GX T 20 45 44 [(2, 1), (0, f), (0, (if y = -1 then 12 else y)), (0, (k : Int)), x4] [(0, z)] n41 (RI (fun v m1 => (∃ E : Nat → Int, (∀ j : Nat, j < c → RidF n (rowsW (upw w 10 (ior (w 10) (ishl 1 (j : Int)))) D) (E j)) ∧ v = (scY false E x c).1) ∧ PlanX m1))
      refine gx_ci (nx := 47) (S2 := []) (l_78 z) r_45_44 rfl rfl rfl rfl rfl rfl rfl (by decide) rfl (fun x44 n44 q44 => ?_)
      obtain ⟨e_x44, z_x44⟩ := q44
      obtain rfl := z_x44.symm
      rw [e_x44]
      show GX T 20 45 47 [(2, 1), (0, f), (0, (if y = -1 then 12 else y)), (0, (k : Int)), x4] [(0, (if z = -1 then 12 else z))] n41 (RI (fun v m1 => (∃ E : Nat → Int, (∀ j : Nat, j < c → RidF n (rowsW (upw w 10 (ior (w 10) (ishl 1 (j : Int)))) D) (E j)) ∧ v = (scY false E x c).1) ∧ PlanX m1))
      refine gx_st (L' := [(2, 1), (0, f), (0, (if y = -1 then 12 else y)), (0, (k : Int)), (0, (if z = -1 then 12 else z))]) (S' := []) r_45_47 rfl rfl rfl ?_
      refine gx_st (L' := [(2, 1), (0, f), (0, (if y = -1 then 12 else y)), (0, (k : Int)), (0, (if z = -1 then 12 else z))]) (S' := [(0, (if z = -1 then 12 else z))]) r_45_49 rfl rfl rfl ?_
      refine gx_st (L' := [(2, 1), (0, f), (0, (if y = -1 then 12 else y)), (0, (k : Int)), (0, (if z = -1 then 12 else z))]) (S' := [(0, (if y = -1 then 12 else y)), (0, (if z = -1 then 12 else z))]) r_45_51 rfl rfl rfl ?_
      refine gx_ic (P := (if y = -1 then 12 else y) ≤ (if z = -1 then 12 else z)) r_45_52 (rfl) (fun h52 => ?_) (fun h52 => ?_)
      · refine gx_li (z := (k : Int) + 1) (L' := [(2, 1), (0, f), (0, (if y = -1 then 12 else y)), (0, (k : Int) + 1), (0, (if z = -1 then 12 else z))]) r_45_60 rfl (w32_eq (by omega) (by omega) (by omega)) rfl ?_
        refine gx_st (L' := [(2, 1), (0, f), (0, (if y = -1 then 12 else y)), (0, (k : Int) + 1), (0, (if z = -1 then 12 else z))]) (S' := []) r_45_63 rfl rfl rfl ?_
        rw [show (k : Int) + 1 = ((k + 1 : Nat) : Int) from rfl]
        have ec := scY_c (up := false) (E := fun j => if j = k then z else E j) (F := E) (x := x) k (fun j hj => if_neg (by omega))
        have cc : ¬ ((false = true ∧ ltH (scY false (fun j => if j = k then z else E j) x k).2 ((fun j => if j = k then z else E j) k) = true) ∨ (false = false ∧ ltH ((fun j => if j = k then z else E j) k) (scY false (fun j => if j = k then z else E j) x k).2 = true)) := by
          rw [ec, ← ey, show (fun j => if j = k then z else E j) k = z from if_pos rfl]
          rintro (⟨q1, q2⟩ | ⟨q1, q2⟩)
          · exact absurd q1 (by decide)
          · have := (ltH_12 zr ry).mp q2; omega
        have es : scY false (fun j => if j = k then z else E j) x (k + 1) = scY false E x k := (if_neg cc).trans ec
        refine ih (k + 1) n41 _ _ (fun j => if j = k then z else E j) _ (by omega) (by omega) pp1 gm1 wp1 px1 (fun j hj => ?_) (by rw [es]; exact ef) (by rw [es]; exact ey)
        by_cases q : j = k
        · show RidF n _ (if j = k then z else E j)
          rw [if_pos q, q]; exact rz
        · show RidF n _ (if j = k then z else E j)
          rw [if_neg q]; exact hE j (by omega)
      · refine gx_st (L' := [(2, 1), (0, f), (0, (if y = -1 then 12 else y)), (0, (k : Int)), (0, (if z = -1 then 12 else z))]) (S' := [(0, (if z = -1 then 12 else z))]) r_45_55 rfl rfl rfl ?_
        refine gx_st (L' := [(2, 1), (0, f), (0, (if z = -1 then 12 else z)), (0, (k : Int)), (0, (if z = -1 then 12 else z))]) (S' := []) r_45_57 rfl rfl rfl ?_
        refine gx_st (L' := [(2, 1), (0, f), (0, (if z = -1 then 12 else z)), (0, (k : Int)), (0, (if z = -1 then 12 else z))]) (S' := [(0, (k : Int))]) r_45_58 rfl rfl rfl ?_
        refine gx_st (L' := [(2, 1), (0, (k : Int)), (0, (if z = -1 then 12 else z)), (0, (k : Int)), (0, (if z = -1 then 12 else z))]) (S' := []) r_45_59 rfl rfl rfl ?_
        refine gx_li (z := (k : Int) + 1) (L' := [(2, 1), (0, (k : Int)), (0, (if z = -1 then 12 else z)), (0, (k : Int) + 1), (0, (if z = -1 then 12 else z))]) r_45_60 rfl (w32_eq (by omega) (by omega) (by omega)) rfl ?_
        refine gx_st (L' := [(2, 1), (0, (k : Int)), (0, (if z = -1 then 12 else z)), (0, (k : Int) + 1), (0, (if z = -1 then 12 else z))]) (S' := []) r_45_63 rfl rfl rfl ?_
        rw [show (k : Int) + 1 = ((k + 1 : Nat) : Int) from rfl]
        have ec := scY_c (up := false) (E := fun j => if j = k then z else E j) (F := E) (x := x) k (fun j hj => if_neg (by omega))
        have cc : ((false = true ∧ ltH (scY false (fun j => if j = k then z else E j) x k).2 ((fun j => if j = k then z else E j) k) = true) ∨ (false = false ∧ ltH ((fun j => if j = k then z else E j) k) (scY false (fun j => if j = k then z else E j) x k).2 = true)) := by
          rw [ec, ← ey, show (fun j => if j = k then z else E j) k = z from if_pos rfl]
          exact Or.inr ⟨rfl, (ltH_12 zr ry).mpr (by omega)⟩
        have es : scY false (fun j => if j = k then z else E j) x (k + 1) = ((k : Int), z) := (if_pos cc).trans (by show ((k : Int), (if k = k then z else E k)) = _; rw [if_pos rfl])
        refine ih (k + 1) n41 _ _ (fun j => if j = k then z else E j) _ (by omega) (by omega) pp1 gm1 wp1 px1 (fun j hj => ?_) (by rw [es]) (by rw [es])
        by_cases q : j = k
        · show RidF n _ (if j = k then z else E j)
          rw [if_pos q, q]; exact rz
        · show RidF n _ (if j = k then z else E j)
          rw [if_neg q]; exact hE j (by omega)
end LOOPC
