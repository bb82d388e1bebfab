/-! the tapes exactly -/
theorem r_1_0 : row 1 0 = some (.aload_n 0, 1, 0, 0, 0, 0) := rfl
theorem r_1_1 : row 1 1 = some (.getfield 10, 4, 9, 0, 2, 2158) := rfl
theorem r_1_4 : row 1 4 = some (.getfield 93, 7, 8, 1, 10, 1036) := rfl
theorem r_1_7 : row 1 7 = some (.sipush 780, 10, 780, 0, 0, 0) := rfl
theorem r_1_10 : row 1 10 = some (.if_icmp .le 5, 13, 15, 0, 0, 0) := rfl
theorem r_1_13 : row 1 13 = some (.iconst (-1), 14, (-1), 0, 0, 0) := rfl
theorem r_1_14 : row 1 14 = some (.ireturn, 15, 0, 0, 0, 0) := rfl
theorem r_1_15 : row 1 15 = some (.aload_n 0, 16, 0, 0, 0, 0) := rfl
theorem r_1_16 : row 1 16 = some (.getfield 10, 19, 9, 0, 2, 2158) := rfl
theorem r_1_19 : row 1 19 = some (.iload_n 1, 20, 0, 0, 0, 0) := rfl
theorem r_1_20 : row 1 20 = some (.invokevirtual 96, 23, 298, 1, 10, 2211) := rfl
theorem r_1_23 : row 1 23 = some (.aload_n 0, 24, 0, 0, 0, 0) := rfl
theorem r_1_24 : row 1 24 = some (.getfield 10, 27, 9, 0, 2, 2158) := rfl
theorem r_1_27 : row 1 27 = some (.iload_n 2, 28, 0, 0, 0, 0) := rfl
theorem r_1_28 : row 1 28 = some (.invokevirtual 96, 31, 298, 1, 10, 2211) := rfl
theorem r_1_31 : row 1 31 = some (.aload_n 0, 32, 0, 0, 0, 0) := rfl
theorem r_1_32 : row 1 32 = some (.getfield 10, 35, 9, 0, 2, 2158) := rfl
theorem r_1_35 : row 1 35 = some (.iload_n 3, 36, 0, 0, 0, 0) := rfl
theorem r_1_36 : row 1 36 = some (.invokevirtual 96, 39, 298, 1, 10, 2211) := rfl
theorem r_1_39 : row 1 39 = some (.aload_n 0, 40, 0, 0, 0, 0) := rfl
theorem r_1_40 : row 1 40 = some (.getfield 10, 43, 9, 0, 2, 2158) := rfl
theorem r_1_43 : row 1 43 = some (.iload 4, 45, 0, 0, 0, 0) := rfl
theorem r_1_45 : row 1 45 = some (.invokevirtual 96, 48, 298, 1, 10, 2211) := rfl
theorem r_1_48 : row 1 48 = some (.aload_n 0, 49, 0, 0, 0, 0) := rfl
theorem r_1_49 : row 1 49 = some (.getfield 10, 52, 9, 0, 2, 2158) := rfl
theorem r_1_52 : row 1 52 = some (.iload 5, 54, 0, 0, 0, 0) := rfl
theorem r_1_54 : row 1 54 = some (.invokevirtual 96, 57, 298, 1, 10, 2211) := rfl
theorem r_1_57 : row 1 57 = some (.aload_n 0, 58, 0, 0, 0, 0) := rfl
theorem r_1_58 : row 1 58 = some (.getfield 10, 61, 9, 0, 2, 2158) := rfl
theorem r_1_61 : row 1 61 = some (.getfield 93, 64, 8, 1, 10, 1036) := rfl
theorem r_1_64 : row 1 64 = some (.ireturn, 65, 0, 0, 0, 0) := rfl
theorem r_2_0 : row 2 0 = some (.iload_n 1, 1, 0, 0, 0, 0) := rfl
theorem r_2_1 : row 2 1 = some (.ifCond .lt 14, 4, 15, 0, 0, 0) := rfl
theorem r_2_4 : row 2 4 = some (.iload_n 1, 5, 0, 0, 0, 0) := rfl
theorem r_2_5 : row 2 5 = some (.aload_n 0, 6, 0, 0, 0, 0) := rfl
theorem r_2_6 : row 2 6 = some (.getfield 10, 9, 9, 0, 2, 2158) := rfl
theorem r_2_9 : row 2 9 = some (.getfield 93, 12, 8, 1, 10, 1036) := rfl
theorem r_2_12 : row 2 12 = some (.if_icmp .le 5, 15, 17, 0, 0, 0) := rfl
theorem r_2_15 : row 2 15 = some (.iconst (-1), 16, (-1), 0, 0, 0) := rfl
theorem r_2_16 : row 2 16 = some (.ireturn, 17, 0, 0, 0, 0) := rfl
theorem r_2_17 : row 2 17 = some (.aload_n 0, 18, 0, 0, 0, 0) := rfl
theorem r_2_18 : row 2 18 = some (.getfield 10, 21, 9, 0, 2, 2158) := rfl
theorem r_2_21 : row 2 21 = some (.iload_n 1, 22, 0, 0, 0, 0) := rfl
theorem r_2_22 : row 2 22 = some (.putfield 93, 25, 8, 1, 10, 1036) := rfl
theorem r_2_25 : row 2 25 = some (.iload_n 1, 26, 0, 0, 0, 0) := rfl
theorem r_2_26 : row 2 26 = some (.ireturn, 27, 0, 0, 0, 0) := rfl
theorem r_101_0 : row 101 0 = some (.iload_n 1, 1, 0, 0, 0, 0) := rfl
theorem r_101_1 : row 101 1 = some (.i2l, 2, 0, 0, 0, 0) := rfl
theorem r_101_2 : row 101 2 = some (.lconst 0, 3, 0, 0, 0, 0) := rfl
theorem r_101_3 : row 101 3 = some (.aload_n 0, 4, 0, 0, 0, 0) := rfl
theorem r_101_4 : row 101 4 = some (.getfield 90, 7, 10, 5, 0, 6006) := rfl
theorem r_101_7 : row 101 7 = some (.i2l, 8, 0, 0, 0, 0) := rfl
theorem r_101_8 : row 101 8 = some (.invokestatic 82, 11, 86, 3, 0, 6131) := rfl
theorem r_101_11 : row 101 11 = some (.ifCond .ne 5, 14, 16, 0, 0, 0) := rfl
theorem r_101_14 : row 101 14 = some (.iconst (-1), 15, (-1), 0, 0, 0) := rfl
theorem r_101_15 : row 101 15 = some (.ireturn, 16, 0, 0, 0, 0) := rfl
theorem r_101_16 : row 101 16 = some (.aload_n 0, 17, 0, 0, 0, 0) := rfl
theorem r_101_17 : row 101 17 = some (.iload_n 1, 18, 0, 0, 0, 0) := rfl
theorem r_101_18 : row 101 18 = some (.putfield 90, 21, 10, 5, 0, 6006) := rfl
theorem r_101_21 : row 101 21 = some (.iload_n 1, 22, 0, 0, 0, 0) := rfl
theorem r_101_22 : row 101 22 = some (.ireturn, 23, 0, 0, 0, 0) := rfl
theorem r_298_0 : row 298 0 = some (.bipush 24, 2, 24, 0, 0, 0) := rfl
theorem r_298_2 : row 298 2 = some (.istore_n 2, 3, 0, 0, 0, 0) := rfl
theorem r_298_3 : row 298 3 = some (.iload_n 2, 4, 0, 0, 0, 0) := rfl
theorem r_298_4 : row 298 4 = some (.ifCond .lt 37, 7, 41, 0, 0, 0) := rfl
theorem r_298_7 : row 298 7 = some (.aload_n 0, 8, 0, 0, 0, 0) := rfl
theorem r_298_8 : row 298 8 = some (.getfield 9, 11, 8, 0, 2, 1034) := rfl
theorem r_298_11 : row 298 11 = some (.aload_n 0, 12, 0, 0, 0, 0) := rfl
theorem r_298_12 : row 298 12 = some (.getfield 15, 15, 8, 1, 0, 1035) := rfl
theorem r_298_15 : row 298 15 = some (.iload_n 1, 16, 0, 0, 0, 0) := rfl
theorem r_298_16 : row 298 16 = some (.iload_n 2, 17, 0, 0, 0, 0) := rfl
theorem r_298_17 : row 298 17 = some (.ishr, 18, 0, 0, 0, 0) := rfl
theorem r_298_18 : row 298 18 = some (.sipush 255, 21, 255, 0, 0, 0) := rfl
theorem r_298_21 : row 298 21 = some (.iand, 22, 0, 0, 0, 0) := rfl
theorem r_298_22 : row 298 22 = some (.invokestatic 34, 25, 238, 3, 10, 2215) := rfl
theorem r_298_25 : row 298 25 = some (.aload_n 0, 26, 0, 0, 0, 0) := rfl
theorem r_298_26 : row 298 26 = some (.dup, 27, 0, 0, 0, 0) := rfl
theorem r_298_27 : row 298 27 = some (.getfield 15, 30, 8, 1, 0, 1035) := rfl
theorem r_298_30 : row 298 30 = some (.iconst 1, 31, 1, 0, 0, 0) := rfl
theorem r_298_31 : row 298 31 = some (.iadd, 32, 0, 0, 0, 0) := rfl
theorem r_298_32 : row 298 32 = some (.putfield 15, 35, 8, 1, 0, 1035) := rfl
theorem r_298_35 : row 298 35 = some (.iinc 2 (-8), 38, 0, 0, 0, 0) := rfl
theorem r_298_38 : row 298 38 = some (.goto (-35), 41, 3, 0, 0, 0) := rfl
theorem r_298_41 : row 298 41 = some (.return_, 42, 0, 0, 0, 0) := rfl
theorem b8_b8 (z : Int) : b8 (b8 z) = b8 z := by
  unfold b8
  first
    | exact Int.bmod_bmod
    | exact Int.bmod_bmod ..
    | (unfold Int.bmod; dsimp only; split <;> split <;> omega)
def by4 (x : Int) (k : Nat) : Int := ishr x (24 - 8 * (k : Int))
def fv5 (a b c d e : Int) (q : Nat) : Int := if q = 0 then a else if q = 1 then b else if q = 2 then c else if q = 3 then d else e
section TAPEQ
variable {T : List Kd} {m : Mm}
theorem nb_1 {m : Mm} {o i : Nat} {x : Int} (h : ¬ (o = 2 ∧ i = 1)) : nu_up m 2 1 x o i = m o i := by
  by_cases e : o = 2
  · subst e; exact nu_ne (fun z => h ⟨rfl, z⟩)
  · exact nu_no e
theorem nb_3 {m : Mm} {o i c k : Nat} {x : Int} (h : ¬ (o = 3 ∧ c ≤ i ∧ i < c + 4)) (hk : c ≤ k ∧ k < c + 4) : nu_up m 3 k x o i = m o i := by
  by_cases e : o = 3
  · subst e; exact nu_ne (fun z => h ⟨rfl, by omega⟩)
  · exact nu_no e
theorem y_298 (hT : TT T) (hp : PinR m) {c : Nat} (hc : m 2 1 = (c : Int)) (hc8 : c ≤ 796) (x : Int) : GX T 1 298 0 [(2, 2), (0, x), (9, 0)] [] m (RV (fun m1 => m1 2 1 = (c : Int) + 4 ∧ (∀ k : Nat, k < 4 → m1 3 (c + k) = iand (by4 x k) 255) ∧ ∀ o i : Nat, ¬ (o = 3 ∧ c ≤ i ∧ i < c + 4) → ¬ (o = 2 ∧ i = 1) → m1 o i = m o i)) := by
  have hc0 : m 2 1 = (c : Int) + 0 := by rw [Int.add_zero]; exact hc
  refine gx_st (L' := [(2, 2), (0, x), (9, 0)]) (S' := [(0, 24)]) r_298_0 rfl rfl rfl ?_
  refine gx_st (L' := [(2, 2), (0, x), (0, 24)]) (S' := []) r_298_2 rfl rfl rfl ?_
  refine gx_st (L' := [(2, 2), (0, x), (0, 24)]) (S' := [(0, 24)]) r_298_3 rfl rfl rfl ?_
  refine gx_i0 (P := 24 < 0) r_298_4 (rfl) (fun h4 => ?_) (fun h4 => ?_)
  · omega
  · refine gx_st (L' := [(2, 2), (0, x), (0, 24)]) (S' := [(2, 2)]) r_298_7 rfl rfl rfl ?_
    refine gx_gf (x := 3) 2 r_298_8 (rfl) (ty_2 hT) ⟨by decide, rfl, by decide, by decide⟩ rfl (fun _ => by omega) (pin_at hp (t := 3) rfl (by decide)) ?_
    refine gx_st (L' := [(2, 2), (0, x), (0, 24)]) (S' := [(2, 2), (2, 3)]) r_298_11 rfl rfl rfl ?_
    refine gx_gf (x := (c : Int)) 0 r_298_12 (rfl) (ty_2 hT) ⟨by decide, rfl, by decide, by decide⟩ rfl (fun z => absurd z (by decide)) (hc0) ?_
    refine gx_st (L' := [(2, 2), (0, x), (0, 24)]) (S' := [(0, x), (0, (c : Int)), (2, 3)]) r_298_15 rfl rfl rfl ?_
    refine gx_st (L' := [(2, 2), (0, x), (0, 24)]) (S' := [(0, 24), (0, x), (0, (c : Int)), (2, 3)]) r_298_16 rfl rfl rfl ?_
    refine gx_st (L' := [(2, 2), (0, x), (0, 24)]) (S' := [(0, (ishr x 24)), (0, (c : Int)), (2, 3)]) r_298_17 rfl rfl rfl ?_
    refine gx_st (L' := [(2, 2), (0, x), (0, 24)]) (S' := [(0, 255), (0, (ishr x 24)), (0, (c : Int)), (2, 3)]) r_298_18 rfl rfl rfl ?_
    refine gx_st (L' := [(2, 2), (0, x), (0, 24)]) (S' := [(0, (iand (ishr x 24) 255)), (0, (c : Int)), (2, 3)]) r_298_21 rfl rfl rfl ?_
    refine gx_cv (nx := 25) (S2 := []) (c_238 (r := 3) (n := 800) (ty_3 hT) (by decide) (by decide) (k := c) (by omega) ((iand (ishr x 24) 255))) r_298_22 rfl rfl rfl rfl rfl rfl rfl (by decide) rfl (fun n22_0 q22_0 => ?_)
    have p_n22_0 : PinR n22_0 := by rw [q22_0]; exact PinR_up hp rfl
    have z_n22_0 : n22_0 2 1 = (c : Int) + 0 := by rw [q22_0, nu_no (by decide)]; exact hc0
    refine gx_st (L' := [(2, 2), (0, x), (0, 24)]) (S' := [(2, 2)]) r_298_25 rfl rfl rfl ?_
    refine gx_st (L' := [(2, 2), (0, x), (0, 24)]) (S' := [(2, 2), (2, 2)]) r_298_26 rfl rfl rfl ?_
    refine gx_gf (x := (c : Int)) 0 r_298_27 (rfl) (ty_2 hT) ⟨by decide, rfl, by decide, by decide⟩ rfl (fun z => absurd z (by decide)) (z_n22_0) ?_
    refine gx_st (L' := [(2, 2), (0, x), (0, 24)]) (S' := [(0, 1), (0, (c : Int)), (2, 2)]) r_298_30 rfl rfl rfl ?_
    refine gx_ar (L' := [(2, 2), (0, x), (0, 24)]) (S' := [(2, 2)]) (t := 0) (e := w32 ((c : Int) + 1)) (z := (c : Int) + 1) r_298_31 rfl rfl rfl (w32_eq (by omega) (by omega) (by omega)) ?_
    obtain ⟨m1, e_m1⟩ : ∃ z, z = nu_up n22_0 2 1 ((c : Int) + 1) := ⟨_, rfl⟩
    refine gx_pf (x := (c : Int) + 1) 0 r_298_32 (rfl) (ty_2 hT) ⟨by decide, rfl, by decide, by decide⟩ rfl (fun z => absurd z (by decide)) (fun z => absurd z (by decide)) e_m1.symm ?_
    have p_m1 : PinR m1 := by rw [e_m1]; exact PinR_up p_n22_0 rfl
    have z_m1 : m1 2 1 = (c : Int) + 1 := by rw [e_m1, nu_at]
    refine gx_li (z := 16) (L' := [(2, 2), (0, x), (0, 16)]) r_298_35 rfl (w32_eq (by omega) (by omega) (by omega)) rfl ?_
    refine gx_st (L' := [(2, 2), (0, x), (0, 16)]) (S' := []) r_298_38 rfl rfl rfl ?_
    refine gx_st (L' := [(2, 2), (0, x), (0, 16)]) (S' := [(0, 16)]) r_298_3 rfl rfl rfl ?_
    refine gx_i0 (P := 16 < 0) r_298_4 (rfl) (fun h4 => ?_) (fun h4 => ?_)
    · omega
    · refine gx_st (L' := [(2, 2), (0, x), (0, 16)]) (S' := [(2, 2)]) r_298_7 rfl rfl rfl ?_
      refine gx_gf (x := 3) 2 r_298_8 (rfl) (ty_2 hT) ⟨by decide, rfl, by decide, by decide⟩ rfl (fun _ => by omega) (pin_at p_m1 (t := 3) rfl (by decide)) ?_
      refine gx_st (L' := [(2, 2), (0, x), (0, 16)]) (S' := [(2, 2), (2, 3)]) r_298_11 rfl rfl rfl ?_
      refine gx_gf (x := (c : Int) + 1) 0 r_298_12 (rfl) (ty_2 hT) ⟨by decide, rfl, by decide, by decide⟩ rfl (fun z => absurd z (by decide)) (z_m1) ?_
      refine gx_st (L' := [(2, 2), (0, x), (0, 16)]) (S' := [(0, x), (0, (c : Int) + 1), (2, 3)]) r_298_15 rfl rfl rfl ?_
      refine gx_st (L' := [(2, 2), (0, x), (0, 16)]) (S' := [(0, 16), (0, x), (0, (c : Int) + 1), (2, 3)]) r_298_16 rfl rfl rfl ?_
      refine gx_st (L' := [(2, 2), (0, x), (0, 16)]) (S' := [(0, (ishr x 16)), (0, (c : Int) + 1), (2, 3)]) r_298_17 rfl rfl rfl ?_
      refine gx_st (L' := [(2, 2), (0, x), (0, 16)]) (S' := [(0, 255), (0, (ishr x 16)), (0, (c : Int) + 1), (2, 3)]) r_298_18 rfl rfl rfl ?_
      refine gx_st (L' := [(2, 2), (0, x), (0, 16)]) (S' := [(0, (iand (ishr x 16) 255)), (0, (c : Int) + 1), (2, 3)]) r_298_21 rfl rfl rfl ?_
      refine gx_cv (nx := 25) (S2 := []) (c_238 (r := 3) (n := 800) (ty_3 hT) (by decide) (by decide) (k := c + 1) (by omega) ((iand (ishr x 16) 255))) r_298_22 rfl rfl rfl rfl rfl rfl rfl (by decide) rfl (fun n22_1 q22_1 => ?_)
      have p_n22_1 : PinR n22_1 := by rw [q22_1]; exact PinR_up p_m1 rfl
      have z_n22_1 : n22_1 2 1 = (c : Int) + 1 := by rw [q22_1, nu_no (by decide)]; exact z_m1
      refine gx_st (L' := [(2, 2), (0, x), (0, 16)]) (S' := [(2, 2)]) r_298_25 rfl rfl rfl ?_
      refine gx_st (L' := [(2, 2), (0, x), (0, 16)]) (S' := [(2, 2), (2, 2)]) r_298_26 rfl rfl rfl ?_
      refine gx_gf (x := (c : Int) + 1) 0 r_298_27 (rfl) (ty_2 hT) ⟨by decide, rfl, by decide, by decide⟩ rfl (fun z => absurd z (by decide)) (z_n22_1) ?_
      refine gx_st (L' := [(2, 2), (0, x), (0, 16)]) (S' := [(0, 1), (0, (c : Int) + 1), (2, 2)]) r_298_30 rfl rfl rfl ?_
      refine gx_ar (L' := [(2, 2), (0, x), (0, 16)]) (S' := [(2, 2)]) (t := 0) (e := w32 (((c : Int) + 1) + 1)) (z := (c : Int) + 2) r_298_31 rfl rfl rfl (w32_eq (by omega) (by omega) (by omega)) ?_
      obtain ⟨m2, e_m2⟩ : ∃ z, z = nu_up n22_1 2 1 ((c : Int) + 2) := ⟨_, rfl⟩
      refine gx_pf (x := (c : Int) + 2) 0 r_298_32 (rfl) (ty_2 hT) ⟨by decide, rfl, by decide, by decide⟩ rfl (fun z => absurd z (by decide)) (fun z => absurd z (by decide)) e_m2.symm ?_
      have p_m2 : PinR m2 := by rw [e_m2]; exact PinR_up p_n22_1 rfl
      have z_m2 : m2 2 1 = (c : Int) + 2 := by rw [e_m2, nu_at]
      refine gx_li (z := 8) (L' := [(2, 2), (0, x), (0, 8)]) r_298_35 rfl (w32_eq (by omega) (by omega) (by omega)) rfl ?_
      refine gx_st (L' := [(2, 2), (0, x), (0, 8)]) (S' := []) r_298_38 rfl rfl rfl ?_
      refine gx_st (L' := [(2, 2), (0, x), (0, 8)]) (S' := [(0, 8)]) r_298_3 rfl rfl rfl ?_
      refine gx_i0 (P := 8 < 0) r_298_4 (rfl) (fun h4 => ?_) (fun h4 => ?_)
      · omega
      · refine gx_st (L' := [(2, 2), (0, x), (0, 8)]) (S' := [(2, 2)]) r_298_7 rfl rfl rfl ?_
        refine gx_gf (x := 3) 2 r_298_8 (rfl) (ty_2 hT) ⟨by decide, rfl, by decide, by decide⟩ rfl (fun _ => by omega) (pin_at p_m2 (t := 3) rfl (by decide)) ?_
        refine gx_st (L' := [(2, 2), (0, x), (0, 8)]) (S' := [(2, 2), (2, 3)]) r_298_11 rfl rfl rfl ?_
        refine gx_gf (x := (c : Int) + 2) 0 r_298_12 (rfl) (ty_2 hT) ⟨by decide, rfl, by decide, by decide⟩ rfl (fun z => absurd z (by decide)) (z_m2) ?_
        refine gx_st (L' := [(2, 2), (0, x), (0, 8)]) (S' := [(0, x), (0, (c : Int) + 2), (2, 3)]) r_298_15 rfl rfl rfl ?_
        refine gx_st (L' := [(2, 2), (0, x), (0, 8)]) (S' := [(0, 8), (0, x), (0, (c : Int) + 2), (2, 3)]) r_298_16 rfl rfl rfl ?_
        refine gx_st (L' := [(2, 2), (0, x), (0, 8)]) (S' := [(0, (ishr x 8)), (0, (c : Int) + 2), (2, 3)]) r_298_17 rfl rfl rfl ?_
        refine gx_st (L' := [(2, 2), (0, x), (0, 8)]) (S' := [(0, 255), (0, (ishr x 8)), (0, (c : Int) + 2), (2, 3)]) r_298_18 rfl rfl rfl ?_
        refine gx_st (L' := [(2, 2), (0, x), (0, 8)]) (S' := [(0, (iand (ishr x 8) 255)), (0, (c : Int) + 2), (2, 3)]) r_298_21 rfl rfl rfl ?_
        refine gx_cv (nx := 25) (S2 := []) (c_238 (r := 3) (n := 800) (ty_3 hT) (by decide) (by decide) (k := c + 2) (by omega) ((iand (ishr x 8) 255))) r_298_22 rfl rfl rfl rfl rfl rfl rfl (by decide) rfl (fun n22_2 q22_2 => ?_)
        have p_n22_2 : PinR n22_2 := by rw [q22_2]; exact PinR_up p_m2 rfl
        have z_n22_2 : n22_2 2 1 = (c : Int) + 2 := by rw [q22_2, nu_no (by decide)]; exact z_m2
        refine gx_st (L' := [(2, 2), (0, x), (0, 8)]) (S' := [(2, 2)]) r_298_25 rfl rfl rfl ?_
        refine gx_st (L' := [(2, 2), (0, x), (0, 8)]) (S' := [(2, 2), (2, 2)]) r_298_26 rfl rfl rfl ?_
        refine gx_gf (x := (c : Int) + 2) 0 r_298_27 (rfl) (ty_2 hT) ⟨by decide, rfl, by decide, by decide⟩ rfl (fun z => absurd z (by decide)) (z_n22_2) ?_
        refine gx_st (L' := [(2, 2), (0, x), (0, 8)]) (S' := [(0, 1), (0, (c : Int) + 2), (2, 2)]) r_298_30 rfl rfl rfl ?_
        refine gx_ar (L' := [(2, 2), (0, x), (0, 8)]) (S' := [(2, 2)]) (t := 0) (e := w32 (((c : Int) + 2) + 1)) (z := (c : Int) + 3) r_298_31 rfl rfl rfl (w32_eq (by omega) (by omega) (by omega)) ?_
        obtain ⟨m3, e_m3⟩ : ∃ z, z = nu_up n22_2 2 1 ((c : Int) + 3) := ⟨_, rfl⟩
        refine gx_pf (x := (c : Int) + 3) 0 r_298_32 (rfl) (ty_2 hT) ⟨by decide, rfl, by decide, by decide⟩ rfl (fun z => absurd z (by decide)) (fun z => absurd z (by decide)) e_m3.symm ?_
        have p_m3 : PinR m3 := by rw [e_m3]; exact PinR_up p_n22_2 rfl
        have z_m3 : m3 2 1 = (c : Int) + 3 := by rw [e_m3, nu_at]
        refine gx_li (z := 0) (L' := [(2, 2), (0, x), (0, 0)]) r_298_35 rfl (w32_eq (by omega) (by omega) (by omega)) rfl ?_
        refine gx_st (L' := [(2, 2), (0, x), (0, 0)]) (S' := []) r_298_38 rfl rfl rfl ?_
        refine gx_st (L' := [(2, 2), (0, x), (0, 0)]) (S' := [(0, 0)]) r_298_3 rfl rfl rfl ?_
        refine gx_i0 (P := 0 < 0) r_298_4 (rfl) (fun h4 => ?_) (fun h4 => ?_)
        · omega
        · refine gx_st (L' := [(2, 2), (0, x), (0, 0)]) (S' := [(2, 2)]) r_298_7 rfl rfl rfl ?_
          refine gx_gf (x := 3) 2 r_298_8 (rfl) (ty_2 hT) ⟨by decide, rfl, by decide, by decide⟩ rfl (fun _ => by omega) (pin_at p_m3 (t := 3) rfl (by decide)) ?_
          refine gx_st (L' := [(2, 2), (0, x), (0, 0)]) (S' := [(2, 2), (2, 3)]) r_298_11 rfl rfl rfl ?_
          refine gx_gf (x := (c : Int) + 3) 0 r_298_12 (rfl) (ty_2 hT) ⟨by decide, rfl, by decide, by decide⟩ rfl (fun z => absurd z (by decide)) (z_m3) ?_
          refine gx_st (L' := [(2, 2), (0, x), (0, 0)]) (S' := [(0, x), (0, (c : Int) + 3), (2, 3)]) r_298_15 rfl rfl rfl ?_
          refine gx_st (L' := [(2, 2), (0, x), (0, 0)]) (S' := [(0, 0), (0, x), (0, (c : Int) + 3), (2, 3)]) r_298_16 rfl rfl rfl ?_
          refine gx_st (L' := [(2, 2), (0, x), (0, 0)]) (S' := [(0, (ishr x 0)), (0, (c : Int) + 3), (2, 3)]) r_298_17 rfl rfl rfl ?_
          refine gx_st (L' := [(2, 2), (0, x), (0, 0)]) (S' := [(0, 255), (0, (ishr x 0)), (0, (c : Int) + 3), (2, 3)]) r_298_18 rfl rfl rfl ?_
          refine gx_st (L' := [(2, 2), (0, x), (0, 0)]) (S' := [(0, (iand (ishr x 0) 255)), (0, (c : Int) + 3), (2, 3)]) r_298_21 rfl rfl rfl ?_
          refine gx_cv (nx := 25) (S2 := []) (c_238 (r := 3) (n := 800) (ty_3 hT) (by decide) (by decide) (k := c + 3) (by omega) ((iand (ishr x 0) 255))) r_298_22 rfl rfl rfl rfl rfl rfl rfl (by decide) rfl (fun n22_3 q22_3 => ?_)
          have p_n22_3 : PinR n22_3 := by rw [q22_3]; exact PinR_up p_m3 rfl
          have z_n22_3 : n22_3 2 1 = (c : Int) + 3 := by rw [q22_3, nu_no (by decide)]; exact z_m3
          refine gx_st (L' := [(2, 2), (0, x), (0, 0)]) (S' := [(2, 2)]) r_298_25 rfl rfl rfl ?_
          refine gx_st (L' := [(2, 2), (0, x), (0, 0)]) (S' := [(2, 2), (2, 2)]) r_298_26 rfl rfl rfl ?_
          refine gx_gf (x := (c : Int) + 3) 0 r_298_27 (rfl) (ty_2 hT) ⟨by decide, rfl, by decide, by decide⟩ rfl (fun z => absurd z (by decide)) (z_n22_3) ?_
          refine gx_st (L' := [(2, 2), (0, x), (0, 0)]) (S' := [(0, 1), (0, (c : Int) + 3), (2, 2)]) r_298_30 rfl rfl rfl ?_
          refine gx_ar (L' := [(2, 2), (0, x), (0, 0)]) (S' := [(2, 2)]) (t := 0) (e := w32 (((c : Int) + 3) + 1)) (z := (c : Int) + 4) r_298_31 rfl rfl rfl (w32_eq (by omega) (by omega) (by omega)) ?_
          obtain ⟨m4, e_m4⟩ : ∃ z, z = nu_up n22_3 2 1 ((c : Int) + 4) := ⟨_, rfl⟩
          refine gx_pf (x := (c : Int) + 4) 0 r_298_32 (rfl) (ty_2 hT) ⟨by decide, rfl, by decide, by decide⟩ rfl (fun z => absurd z (by decide)) (fun z => absurd z (by decide)) e_m4.symm ?_
          have p_m4 : PinR m4 := by rw [e_m4]; exact PinR_up p_n22_3 rfl
          have z_m4 : m4 2 1 = (c : Int) + 4 := by rw [e_m4, nu_at]
          refine gx_li (z := (-8)) (L' := [(2, 2), (0, x), (0, (-8))]) r_298_35 rfl (w32_eq (by omega) (by omega) (by omega)) rfl ?_
          refine gx_st (L' := [(2, 2), (0, x), (0, (-8))]) (S' := []) r_298_38 rfl rfl rfl ?_
          refine gx_st (L' := [(2, 2), (0, x), (0, (-8))]) (S' := [(0, (-8))]) r_298_3 rfl rfl rfl ?_
          refine gx_i0 (P := (-8) < 0) r_298_4 (rfl) (fun h4 => ?_) (fun h4 => ?_)
          · refine gx_rt r_298_41 rfl rfl ⟨rfl, z_m4, fun k hk => ?_, fun o i h1 h2 => ?_⟩
            · rcases (show k = 0 ∨ k = 1 ∨ k = 2 ∨ k = 3 by omega) with rfl | rfl | rfl | rfl
              · show m4 3 c = _
                rw [e_m4, nu_no (by decide), q22_3, nu_ne (by omega), e_m3, nu_no (by decide), q22_2, nu_ne (by omega), e_m2, nu_no (by decide), q22_1, nu_ne (by omega), e_m1, nu_no (by decide), q22_0, nu_at]; rfl
              · rw [e_m4, nu_no (by decide), q22_3, nu_ne (by omega), e_m3, nu_no (by decide), q22_2, nu_ne (by omega), e_m2, nu_no (by decide), q22_1, nu_at]; rfl
              · rw [e_m4, nu_no (by decide), q22_3, nu_ne (by omega), e_m3, nu_no (by decide), q22_2, nu_at]; rfl
              · rw [e_m4, nu_no (by decide), q22_3, nu_at]; rfl
            · rw [e_m4, nb_1 h2, q22_3, nb_3 h1 (by omega), e_m3, nb_1 h2, q22_2, nb_3 h1 (by omega), e_m2, nb_1 h2, q22_1, nb_3 h1 (by omega), e_m1, nb_1 h2, q22_0, nb_3 h1 (by omega)]
          · omega
theorem y_1 (hT : TT T) (hp : PinR m) {c : Nat} (hc : m 2 1 = (c : Int)) (hc8 : c ≤ 800) (a b x d e : Int) : GX T 2 1 0 [(2, 1), (0, a), (0, b), (0, x), (0, d), (0, e)] [] m (RI (fun v m1 => (780 < (c : Int) → v = -1 ∧ m1 = m) ∧ ((c : Int) ≤ 780 → v = (c : Int) + 20 ∧ m1 2 1 = (c : Int) + 20 ∧ (∀ k : Nat, k < 20 → m1 3 (c + k) = iand (by4 (fv5 a b x d e (k / 4)) (k % 4)) 255) ∧ ∀ o i : Nat, ¬ (o = 3 ∧ c ≤ i ∧ i < c + 20) → ¬ (o = 2 ∧ i = 1) → m1 o i = m o i))) := by
  refine gx_st (L' := [(2, 1), (0, a), (0, b), (0, x), (0, d), (0, e)]) (S' := [(2, 1)]) r_1_0 rfl rfl rfl ?_
  refine gx_gf (x := 2) 2 r_1_1 (rfl) (ty_1 hT) ⟨by decide, rfl, by decide, by decide⟩ rfl (fun _ => by omega) (pin_at hp (t := 2) rfl (by decide)) ?_
  refine gx_gf (x := (c : Int)) 0 r_1_4 (rfl) (ty_2 hT) ⟨by decide, rfl, by decide, by decide⟩ rfl (fun z => absurd z (by decide)) (hc) ?_
  refine gx_st (L' := [(2, 1), (0, a), (0, b), (0, x), (0, d), (0, e)]) (S' := [(0, 780), (0, (c : Int))]) r_1_7 rfl rfl rfl ?_
  refine gx_ic (P := (c : Int) ≤ 780) r_1_10 (rfl) (fun h10 => ?_) (fun h10 => ?_)
  · refine gx_st (L' := [(2, 1), (0, a), (0, b), (0, x), (0, d), (0, e)]) (S' := [(2, 1)]) r_1_15 rfl rfl rfl ?_
    refine gx_gf (x := 2) 2 r_1_16 (rfl) (ty_1 hT) ⟨by decide, rfl, by decide, by decide⟩ rfl (fun _ => by omega) (pin_at hp (t := 2) rfl (by decide)) ?_
    refine gx_st (L' := [(2, 1), (0, a), (0, b), (0, x), (0, d), (0, e)]) (S' := [(0, a), (2, 2)]) r_1_19 rfl rfl rfl ?_
    refine gx_cv (nx := 23) (S2 := []) (y_298 hT hp (c := c) hc (by omega) a) r_1_20 rfl rfl rfl rfl rfl (rcv_v rfl (ty_2 hT) (by decide) rfl (by decide)) rfl (by decide) rfl (fun n20 q20 => ?_)
    have z_n20 : n20 2 1 = (c : Int) + 4 := by have z := q20.1; omega
    have p_n20 : PinR n20 := fun o i hq => (q20.2.2 o i (fun z => hq (by rw [z.1]; rfl)) (fun z => hq (by rw [z.1, z.2]; rfl))).trans (hp o i hq)
    refine gx_st (L' := [(2, 1), (0, a), (0, b), (0, x), (0, d), (0, e)]) (S' := [(2, 1)]) r_1_23 rfl rfl rfl ?_
    refine gx_gf (x := 2) 2 r_1_24 (rfl) (ty_1 hT) ⟨by decide, rfl, by decide, by decide⟩ rfl (fun _ => by omega) (pin_at p_n20 (t := 2) rfl (by decide)) ?_
    refine gx_st (L' := [(2, 1), (0, a), (0, b), (0, x), (0, d), (0, e)]) (S' := [(0, b), (2, 2)]) r_1_27 rfl rfl rfl ?_
    refine gx_cv (nx := 31) (S2 := []) (y_298 hT p_n20 (c := (c + 4)) (by rw [z_n20]; rfl) (by omega) b) r_1_28 rfl rfl rfl rfl rfl (rcv_v rfl (ty_2 hT) (by decide) rfl (by decide)) rfl (by decide) rfl (fun n28 q28 => ?_)
    have z_n28 : n28 2 1 = (c : Int) + 8 := by have z := q28.1; omega
    have p_n28 : PinR n28 := fun o i hq => (q28.2.2 o i (fun z => hq (by rw [z.1]; rfl)) (fun z => hq (by rw [z.1, z.2]; rfl))).trans (p_n20 o i hq)
    refine gx_st (L' := [(2, 1), (0, a), (0, b), (0, x), (0, d), (0, e)]) (S' := [(2, 1)]) r_1_31 rfl rfl rfl ?_
    refine gx_gf (x := 2) 2 r_1_32 (rfl) (ty_1 hT) ⟨by decide, rfl, by decide, by decide⟩ rfl (fun _ => by omega) (pin_at p_n28 (t := 2) rfl (by decide)) ?_
    refine gx_st (L' := [(2, 1), (0, a), (0, b), (0, x), (0, d), (0, e)]) (S' := [(0, x), (2, 2)]) r_1_35 rfl rfl rfl ?_
    refine gx_cv (nx := 39) (S2 := []) (y_298 hT p_n28 (c := (c + 8)) (by rw [z_n28]; rfl) (by omega) x) r_1_36 rfl rfl rfl rfl rfl (rcv_v rfl (ty_2 hT) (by decide) rfl (by decide)) rfl (by decide) rfl (fun n36 q36 => ?_)
    have z_n36 : n36 2 1 = (c : Int) + 12 := by have z := q36.1; omega
    have p_n36 : PinR n36 := fun o i hq => (q36.2.2 o i (fun z => hq (by rw [z.1]; rfl)) (fun z => hq (by rw [z.1, z.2]; rfl))).trans (p_n28 o i hq)
    refine gx_st (L' := [(2, 1), (0, a), (0, b), (0, x), (0, d), (0, e)]) (S' := [(2, 1)]) r_1_39 rfl rfl rfl ?_
    refine gx_gf (x := 2) 2 r_1_40 (rfl) (ty_1 hT) ⟨by decide, rfl, by decide, by decide⟩ rfl (fun _ => by omega) (pin_at p_n36 (t := 2) rfl (by decide)) ?_
    refine gx_st (L' := [(2, 1), (0, a), (0, b), (0, x), (0, d), (0, e)]) (S' := [(0, d), (2, 2)]) r_1_43 rfl rfl rfl ?_
    refine gx_cv (nx := 48) (S2 := []) (y_298 hT p_n36 (c := (c + 12)) (by rw [z_n36]; rfl) (by omega) d) r_1_45 rfl rfl rfl rfl rfl (rcv_v rfl (ty_2 hT) (by decide) rfl (by decide)) rfl (by decide) rfl (fun n45 q45 => ?_)
    have z_n45 : n45 2 1 = (c : Int) + 16 := by have z := q45.1; omega
    have p_n45 : PinR n45 := fun o i hq => (q45.2.2 o i (fun z => hq (by rw [z.1]; rfl)) (fun z => hq (by rw [z.1, z.2]; rfl))).trans (p_n36 o i hq)
    refine gx_st (L' := [(2, 1), (0, a), (0, b), (0, x), (0, d), (0, e)]) (S' := [(2, 1)]) r_1_48 rfl rfl rfl ?_
    refine gx_gf (x := 2) 2 r_1_49 (rfl) (ty_1 hT) ⟨by decide, rfl, by decide, by decide⟩ rfl (fun _ => by omega) (pin_at p_n45 (t := 2) rfl (by decide)) ?_
    refine gx_st (L' := [(2, 1), (0, a), (0, b), (0, x), (0, d), (0, e)]) (S' := [(0, e), (2, 2)]) r_1_52 rfl rfl rfl ?_
    refine gx_cv (nx := 57) (S2 := []) (y_298 hT p_n45 (c := (c + 16)) (by rw [z_n45]; rfl) (by omega) e) r_1_54 rfl rfl rfl rfl rfl (rcv_v rfl (ty_2 hT) (by decide) rfl (by decide)) rfl (by decide) rfl (fun n54 q54 => ?_)
    have z_n54 : n54 2 1 = (c : Int) + 20 := by have z := q54.1; omega
    have p_n54 : PinR n54 := fun o i hq => (q54.2.2 o i (fun z => hq (by rw [z.1]; rfl)) (fun z => hq (by rw [z.1, z.2]; rfl))).trans (p_n45 o i hq)
    refine gx_st (L' := [(2, 1), (0, a), (0, b), (0, x), (0, d), (0, e)]) (S' := [(2, 1)]) r_1_57 rfl rfl rfl ?_
    refine gx_gf (x := 2) 2 r_1_58 (rfl) (ty_1 hT) ⟨by decide, rfl, by decide, by decide⟩ rfl (fun _ => by omega) (pin_at p_n54 (t := 2) rfl (by decide)) ?_
    refine gx_gf (x := (c : Int) + 20) 0 r_1_61 (rfl) (ty_2 hT) ⟨by decide, rfl, by decide, by decide⟩ rfl (fun z => absurd z (by decide)) (z_n54) ?_
    refine gx_rt r_1_64 rfl rfl ⟨_, rfl, fun z => by omega, fun _ => ⟨rfl, z_n54, fun k hk => ?_, fun o i h1 h2 => ?_⟩⟩
    · rcases (show k < 4 ∨ (4 ≤ k ∧ k < 8) ∨ (8 ≤ k ∧ k < 12) ∨ (12 ≤ k ∧ k < 16) ∨ 16 ≤ k by omega) with hz | hz | hz | hz | hz
      · rw [q54.2.2 3 (c + k) (by omega) (by omega), q45.2.2 3 (c + k) (by omega) (by omega), q36.2.2 3 (c + k) (by omega) (by omega), q28.2.2 3 (c + k) (by omega) (by omega)]
        have g := q20.2.1 (k - 0) (by omega)
        rw [show c + (k - 0) = c + k by omega] at g
        rw [g, show k - 0 = k % 4 by omega]
        unfold fv5
        rw [if_pos (show k / 4 = 0 by omega)]
      · rw [q54.2.2 3 (c + k) (by omega) (by omega), q45.2.2 3 (c + k) (by omega) (by omega), q36.2.2 3 (c + k) (by omega) (by omega)]
        have g := q28.2.1 (k - 4) (by omega)
        rw [show (c + 4) + (k - 4) = c + k by omega] at g
        rw [g, show k - 4 = k % 4 by omega]
        unfold fv5
        rw [if_neg (show ¬ k / 4 = 0 by omega), if_pos (show k / 4 = 1 by omega)]
      · rw [q54.2.2 3 (c + k) (by omega) (by omega), q45.2.2 3 (c + k) (by omega) (by omega)]
        have g := q36.2.1 (k - 8) (by omega)
        rw [show (c + 8) + (k - 8) = c + k by omega] at g
        rw [g, show k - 8 = k % 4 by omega]
        unfold fv5
        rw [if_neg (show ¬ k / 4 = 0 by omega), if_neg (show ¬ k / 4 = 1 by omega), if_pos (show k / 4 = 2 by omega)]
      · rw [q54.2.2 3 (c + k) (by omega) (by omega)]
        have g := q45.2.1 (k - 12) (by omega)
        rw [show (c + 12) + (k - 12) = c + k by omega] at g
        rw [g, show k - 12 = k % 4 by omega]
        unfold fv5
        rw [if_neg (show ¬ k / 4 = 0 by omega), if_neg (show ¬ k / 4 = 1 by omega), if_neg (show ¬ k / 4 = 2 by omega), if_pos (show k / 4 = 3 by omega)]
      · have g := q54.2.1 (k - 16) (by omega)
        rw [show (c + 16) + (k - 16) = c + k by omega] at g
        rw [g, show k - 16 = k % 4 by omega]
        unfold fv5
        rw [if_neg (show ¬ k / 4 = 0 by omega), if_neg (show ¬ k / 4 = 1 by omega), if_neg (show ¬ k / 4 = 2 by omega), if_neg (show ¬ k / 4 = 3 by omega)]
    · rw [q54.2.2 o i (fun z => h1 ⟨z.1, by omega⟩) h2, q45.2.2 o i (fun z => h1 ⟨z.1, by omega⟩) h2, q36.2.2 o i (fun z => h1 ⟨z.1, by omega⟩) h2, q28.2.2 o i (fun z => h1 ⟨z.1, by omega⟩) h2, q20.2.2 o i (fun z => h1 ⟨z.1, by omega⟩) h2]
  · refine gx_st (L' := [(2, 1), (0, a), (0, b), (0, x), (0, d), (0, e)]) (S' := [(0, (-1))]) r_1_13 rfl rfl rfl ?_
    exact gx_rt r_1_14 rfl rfl ⟨_, rfl, fun _ => ⟨rfl, rfl⟩, fun z => by omega⟩
theorem fd_l {m0 : Mm} (hT : TT T) (hp0 : PinR m0) {c : Nat} (h5 : m0 192 5 = (c : Int)) (hc : c ≤ 780) {a b x d e : Int} (h7 : ∀ q : Nat, q < 5 → m0 197 q = fv5 a b x d e q) {Q : AV → Mm → Prop} (hout : ∀ m : Mm, (∀ o i : Nat, ¬ (o = 196 ∧ c ≤ i ∧ i < c + 20) → m o i = m0 o i) → (∀ j : Nat, j < 20 → m 196 (c + j) = b8 (by4 (fv5 a b x d e (j / 4)) (j % 4))) → GX T 0 100 101 [(2, 192), (0, a), (0, b), (0, x), (0, d), (0, e), (0, 20)] [] m Q) : ∀ (N k : Nat) (m : Mm), 20 - k < N → k ≤ 20 → (∀ o i : Nat, ¬ (o = 196 ∧ c ≤ i ∧ i < c + 20) → m o i = m0 o i) → (∀ j : Nat, j < k → m 196 (c + j) = b8 (by4 (fv5 a b x d e (j / 4)) (j % 4))) → GX T 0 100 55 [(2, 192), (0, a), (0, b), (0, x), (0, d), (0, e), (0, (k : Int))] [] m Q := by
  intro N
  induction N with
  | zero => intro k  m hN; exact absurd hN (Nat.not_lt_zero _)
  | succ N ih =>
    intro k  m hN hk i1 i2
    have hpm : PinR m := fun o i hq => (i1 o i (fun z => hq (by rw [z.1]; exact pin_no (by decide) i))).trans (hp0 o i hq)
    have h5m : m 192 5 = (c : Int) := (i1 192 5 (by omega)).trans h5
    have h7m : ∀ q : Nat, q < 5 → m 197 q = fv5 a b x d e q := fun q hq => (i1 197 q (by omega)).trans (h7 q hq)
    refine gx_st (L' := [(2, 192), (0, a), (0, b), (0, x), (0, d), (0, e), (0, (k : Int))]) (S' := [(0, (k : Int))]) r_100_55 rfl rfl rfl ?_
    refine gx_st (L' := [(2, 192), (0, a), (0, b), (0, x), (0, d), (0, e), (0, (k : Int))]) (S' := [(0, 20), (0, (k : Int))]) r_100_57 rfl rfl rfl ?_
    refine gx_ic (P := 20 ≤ (k : Int)) r_100_59 (rfl) (fun h59 => ?_) (fun h59 => ?_)
    · have hk2 : k = 20 := by omega
      rw [hk2] at i2 ⊢
      exact hout m i1 i2
    · refine gx_st (L' := [(2, 192), (0, a), (0, b), (0, x), (0, d), (0, e), (0, (k : Int))]) (S' := [(2, 192)]) r_100_62 rfl rfl rfl ?_
      refine gx_gf (x := 196) 2 r_100_63 (rfl) (ty_192 hT) ⟨by decide, rfl, by decide, by decide⟩ rfl (fun _ => by omega) (pin_at hpm (t := 196) rfl (by decide)) ?_
      refine gx_st (L' := [(2, 192), (0, a), (0, b), (0, x), (0, d), (0, e), (0, (k : Int))]) (S' := [(2, 192), (2, 196)]) r_100_66 rfl rfl rfl ?_
      refine gx_gf (x := (c : Int)) 0 r_100_67 (rfl) (ty_192 hT) ⟨by decide, rfl, by decide, by decide⟩ rfl (fun z => absurd z (by decide)) (h5m) ?_
      refine gx_st (L' := [(2, 192), (0, a), (0, b), (0, x), (0, d), (0, e), (0, (k : Int))]) (S' := [(0, (k : Int)), (0, (c : Int)), (2, 196)]) r_100_70 rfl rfl rfl ?_
      refine gx_ar (L' := [(2, 192), (0, a), (0, b), (0, x), (0, d), (0, e), (0, (k : Int))]) (S' := [(2, 196)]) (t := 0) (e := w32 ((c : Int) + (k : Int))) (z := (c : Int) + (k : Int)) r_100_72 rfl rfl rfl (w32_eq (by omega) (by omega) (by omega)) ?_
      refine gx_st (L' := [(2, 192), (0, a), (0, b), (0, x), (0, d), (0, e), (0, (k : Int))]) (S' := [(2, 192), (0, (c : Int) + (k : Int)), (2, 196)]) r_100_73 rfl rfl rfl ?_
      refine gx_gf (x := 197) 2 r_100_74 (rfl) (ty_192 hT) ⟨by decide, rfl, by decide, by decide⟩ rfl (fun _ => by omega) (pin_at hpm (t := 197) rfl (by decide)) ?_
      refine gx_st (L' := [(2, 192), (0, a), (0, b), (0, x), (0, d), (0, e), (0, (k : Int))]) (S' := [(0, (k : Int)), (2, 197), (0, (c : Int) + (k : Int)), (2, 196)]) r_100_77 rfl rfl rfl ?_
      refine gx_st (L' := [(2, 192), (0, a), (0, b), (0, x), (0, d), (0, e), (0, (k : Int))]) (S' := [(0, 4), (0, (k : Int)), (2, 197), (0, (c : Int) + (k : Int)), (2, 196)]) r_100_79 rfl rfl rfl ?_
      refine gx_dv (z := ((k : Int) / 4)) r_100_80 (by decide) (w32_td (by omega) rfl (by omega) (by omega)) ?_
      refine gx_ia (n := (((k : Int) / 4)).toNat) (x := (fv5 a b x d e (k / 4))) r_100_81 (rfl) (ty_197 hT) (by omega) ⟨rfl, by omega⟩ ((h7m (k / 4) (by omega))) ?_
      refine gx_st (L' := [(2, 192), (0, a), (0, b), (0, x), (0, d), (0, e), (0, (k : Int))]) (S' := [(0, 24), (0, (fv5 a b x d e (k / 4))), (0, (c : Int) + (k : Int)), (2, 196)]) r_100_82 rfl rfl rfl ?_
      refine gx_st (L' := [(2, 192), (0, a), (0, b), (0, x), (0, d), (0, e), (0, (k : Int))]) (S' := [(0, 8), (0, 24), (0, (fv5 a b x d e (k / 4))), (0, (c : Int) + (k : Int)), (2, 196)]) r_100_84 rfl rfl rfl ?_
      refine gx_st (L' := [(2, 192), (0, a), (0, b), (0, x), (0, d), (0, e), (0, (k : Int))]) (S' := [(0, (k : Int)), (0, 8), (0, 24), (0, (fv5 a b x d e (k / 4))), (0, (c : Int) + (k : Int)), (2, 196)]) r_100_86 rfl rfl rfl ?_
      refine gx_st (L' := [(2, 192), (0, a), (0, b), (0, x), (0, d), (0, e), (0, (k : Int))]) (S' := [(0, 4), (0, (k : Int)), (0, 8), (0, 24), (0, (fv5 a b x d e (k / 4))), (0, (c : Int) + (k : Int)), (2, 196)]) r_100_88 rfl rfl rfl ?_
      refine gx_rm (z := ((k : Int) % 4)) r_100_89 (by decide) (tm_eq (by omega) rfl) ?_
      refine gx_ar (L' := [(2, 192), (0, a), (0, b), (0, x), (0, d), (0, e), (0, (k : Int))]) (S' := [(0, 24), (0, (fv5 a b x d e (k / 4))), (0, (c : Int) + (k : Int)), (2, 196)]) (t := 0) (e := w32 (8 * (((k : Int) % 4)))) (z := 8 * ((k : Int) % 4)) r_100_90 rfl rfl rfl (w32_eq (by omega) (by omega) (by omega)) ?_
      refine gx_ar (L' := [(2, 192), (0, a), (0, b), (0, x), (0, d), (0, e), (0, (k : Int))]) (S' := [(0, (fv5 a b x d e (k / 4))), (0, (c : Int) + (k : Int)), (2, 196)]) (t := 0) (e := w32 (24 - (8 * ((k : Int) % 4)))) (z := (-8) * ((k : Int) % 4) + 24) r_100_91 rfl rfl rfl (w32_eq (by omega) (by omega) (by omega)) ?_
      refine gx_st (L' := [(2, 192), (0, a), (0, b), (0, x), (0, d), (0, e), (0, (k : Int))]) (S' := [(0, (ishr ((fv5 a b x d e (k / 4))) ((-8) * ((k : Int) % 4) + 24))), (0, (c : Int) + (k : Int)), (2, 196)]) r_100_92 rfl rfl rfl ?_
      refine gx_st (L' := [(2, 192), (0, a), (0, b), (0, x), (0, d), (0, e), (0, (k : Int))]) (S' := [(0, (b8 ((ishr ((fv5 a b x d e (k / 4))) ((-8) * ((k : Int) % 4) + 24))))), (0, (c : Int) + (k : Int)), (2, 196)]) r_100_93 rfl rfl rfl ?_
      obtain ⟨m1, e_m1⟩ : ∃ z, z = nu_up m 196 (c + k) ((b8 ((b8 ((ishr ((fv5 a b x d e (k / 4))) ((-8) * ((k : Int) % 4) + 24))))))) := ⟨_, rfl⟩
      refine gx_bs (n := c + k) (x := (b8 ((ishr ((fv5 a b x d e (k / 4))) ((-8) * ((k : Int) % 4) + 24))))) r_100_94 (rfl) (by omega) (ty_196 hT) (by omega) ⟨rfl, by omega⟩ e_m1.symm ?_
      refine gx_li (z := (k : Int) + 1) (L' := [(2, 192), (0, a), (0, b), (0, x), (0, d), (0, e), (0, (k : Int) + 1)]) r_100_95 rfl (w32_eq (by omega) (by omega) (by omega)) rfl ?_
      refine gx_st (L' := [(2, 192), (0, a), (0, b), (0, x), (0, d), (0, e), (0, (k : Int) + 1)]) (S' := []) r_100_98 rfl rfl rfl ?_
      rw [show (k : Int) + 1 = ((k + 1 : Nat) : Int) from rfl]
      refine ih (k + 1)  m1 (by omega) (by omega) ?_ ?_
      · intro o i h
        rw [e_m1]
        by_cases e2 : o = 196
        · subst e2; rw [nu_ne (by omega)]; exact i1 196 i h
        · rw [nu_no e2]; exact i1 o i h
      · intro j hj
        rw [e_m1]
        by_cases e2 : j = k
        · rw [e2, nu_at]
          unfold by4
          rw [show (24 : Int) - 8 * ((k % 4 : Nat) : Int) = 24 - 8 * ((k : Int) % 4) by omega, show -8 * ((k : Int) % 4) + 24 = 24 - 8 * ((k : Int) % 4) by omega]
          exact b8_b8 _
        · rw [nu_ne (by omega)]; exact i2 j (by omega)
set_option maxRecDepth 20000 in
theorem y_100 (hT : TT T) (hp : PinR m) {c : Nat} (hc : m 192 5 = (c : Int)) (hc8 : c ≤ 800) (a b x d e : Int) : GX T 0 100 0 [(2, 192), (0, a), (0, b), (0, x), (0, d), (0, e), (9, 0)] [] m (RI (fun v m1 => (780 < (c : Int) → v = -1 ∧ m1 = m) ∧ ((c : Int) ≤ 780 → v = (c : Int) + 20 ∧ m1 192 5 = (c : Int) + 20 ∧ (∀ k : Nat, k < 20 → m1 196 (c + k) = b8 (by4 (fv5 a b x d e (k / 4)) (k % 4))) ∧ ∀ o i : Nat, ¬ (o = 196 ∧ c ≤ i ∧ i < c + 20) → ¬ (o = 192 ∧ i = 5) → ¬ o = 197 → m1 o i = m o i))) := by
  refine gx_st (L' := [(2, 192), (0, a), (0, b), (0, x), (0, d), (0, e), (9, 0)]) (S' := [(2, 192)]) r_100_0 rfl rfl rfl ?_
  refine gx_gf (x := (c : Int)) 0 r_100_1 (rfl) (ty_192 hT) ⟨by decide, rfl, by decide, by decide⟩ rfl (fun z => absurd z (by decide)) (hc) ?_
  refine gx_st (L' := [(2, 192), (0, a), (0, b), (0, x), (0, d), (0, e), (9, 0)]) (S' := [(0, 20), (0, (c : Int))]) r_100_4 rfl rfl rfl ?_
  refine gx_ar (L' := [(2, 192), (0, a), (0, b), (0, x), (0, d), (0, e), (9, 0)]) (S' := []) (t := 0) (e := w32 ((c : Int) + 20)) (z := (c : Int) + 20) r_100_6 rfl rfl rfl (w32_eq (by omega) (by omega) (by omega)) ?_
  refine gx_st (L' := [(2, 192), (0, a), (0, b), (0, x), (0, d), (0, e), (9, 0)]) (S' := [(0, 800), (0, (c : Int) + 20)]) r_100_7 rfl rfl rfl ?_
  refine gx_ic (P := (c : Int) + 20 ≤ 800) r_100_10 (rfl) (fun h10 => ?_) (fun h10 => ?_)
  · refine gx_st (L' := [(2, 192), (0, a), (0, b), (0, x), (0, d), (0, e), (9, 0)]) (S' := [(2, 192)]) r_100_15 rfl rfl rfl ?_
    refine gx_gf (x := 197) 2 r_100_16 (rfl) (ty_192 hT) ⟨by decide, rfl, by decide, by decide⟩ rfl (fun _ => by omega) (pin_at hp (t := 197) rfl (by decide)) ?_
    refine gx_st (L' := [(2, 192), (0, a), (0, b), (0, x), (0, d), (0, e), (9, 0)]) (S' := [(0, 0), (2, 197)]) r_100_19 rfl rfl rfl ?_
    refine gx_st (L' := [(2, 192), (0, a), (0, b), (0, x), (0, d), (0, e), (9, 0)]) (S' := [(0, a), (0, 0), (2, 197)]) r_100_20 rfl rfl rfl ?_
    obtain ⟨m1, e_m1⟩ : ∃ z, z = nu_up m 197 0 a := ⟨_, rfl⟩
    refine gx_is (n := 0) (x := a) r_100_21 (rfl) (by omega) (ty_197 hT) (rfl) ⟨rfl, by decide⟩ e_m1.symm ?_
    refine gx_st (L' := [(2, 192), (0, a), (0, b), (0, x), (0, d), (0, e), (9, 0)]) (S' := [(2, 192)]) r_100_22 rfl rfl rfl ?_
    refine gx_gf (x := 197) 2 r_100_23 (rfl) (ty_192 hT) ⟨by decide, rfl, by decide, by decide⟩ rfl (fun _ => by omega) (by show m1 192 6 = _; rw [e_m1, nu_no (by decide)]; exact pin_at hp (t := 197) rfl (by decide)) ?_
    refine gx_st (L' := [(2, 192), (0, a), (0, b), (0, x), (0, d), (0, e), (9, 0)]) (S' := [(0, 1), (2, 197)]) r_100_26 rfl rfl rfl ?_
    refine gx_st (L' := [(2, 192), (0, a), (0, b), (0, x), (0, d), (0, e), (9, 0)]) (S' := [(0, b), (0, 1), (2, 197)]) r_100_27 rfl rfl rfl ?_
    obtain ⟨m2, e_m2⟩ : ∃ z, z = nu_up m1 197 1 b := ⟨_, rfl⟩
    refine gx_is (n := 1) (x := b) r_100_28 (rfl) (by omega) (ty_197 hT) (rfl) ⟨rfl, by decide⟩ e_m2.symm ?_
    refine gx_st (L' := [(2, 192), (0, a), (0, b), (0, x), (0, d), (0, e), (9, 0)]) (S' := [(2, 192)]) r_100_29 rfl rfl rfl ?_
    refine gx_gf (x := 197) 2 r_100_30 (rfl) (ty_192 hT) ⟨by decide, rfl, by decide, by decide⟩ rfl (fun _ => by omega) (by show m2 192 6 = _; rw [e_m2, nu_no (by decide), e_m1, nu_no (by decide)]; exact pin_at hp (t := 197) rfl (by decide)) ?_
    refine gx_st (L' := [(2, 192), (0, a), (0, b), (0, x), (0, d), (0, e), (9, 0)]) (S' := [(0, 2), (2, 197)]) r_100_33 rfl rfl rfl ?_
    refine gx_st (L' := [(2, 192), (0, a), (0, b), (0, x), (0, d), (0, e), (9, 0)]) (S' := [(0, x), (0, 2), (2, 197)]) r_100_34 rfl rfl rfl ?_
    obtain ⟨m3, e_m3⟩ : ∃ z, z = nu_up m2 197 2 x := ⟨_, rfl⟩
    refine gx_is (n := 2) (x := x) r_100_35 (rfl) (by omega) (ty_197 hT) (rfl) ⟨rfl, by decide⟩ e_m3.symm ?_
    refine gx_st (L' := [(2, 192), (0, a), (0, b), (0, x), (0, d), (0, e), (9, 0)]) (S' := [(2, 192)]) r_100_36 rfl rfl rfl ?_
    refine gx_gf (x := 197) 2 r_100_37 (rfl) (ty_192 hT) ⟨by decide, rfl, by decide, by decide⟩ rfl (fun _ => by omega) (by show m3 192 6 = _; rw [e_m3, nu_no (by decide), e_m2, nu_no (by decide), e_m1, nu_no (by decide)]; exact pin_at hp (t := 197) rfl (by decide)) ?_
    refine gx_st (L' := [(2, 192), (0, a), (0, b), (0, x), (0, d), (0, e), (9, 0)]) (S' := [(0, 3), (2, 197)]) r_100_40 rfl rfl rfl ?_
    refine gx_st (L' := [(2, 192), (0, a), (0, b), (0, x), (0, d), (0, e), (9, 0)]) (S' := [(0, d), (0, 3), (2, 197)]) r_100_41 rfl rfl rfl ?_
    obtain ⟨m4, e_m4⟩ : ∃ z, z = nu_up m3 197 3 d := ⟨_, rfl⟩
    refine gx_is (n := 3) (x := d) r_100_43 (rfl) (by omega) (ty_197 hT) (rfl) ⟨rfl, by decide⟩ e_m4.symm ?_
    refine gx_st (L' := [(2, 192), (0, a), (0, b), (0, x), (0, d), (0, e), (9, 0)]) (S' := [(2, 192)]) r_100_44 rfl rfl rfl ?_
    refine gx_gf (x := 197) 2 r_100_45 (rfl) (ty_192 hT) ⟨by decide, rfl, by decide, by decide⟩ rfl (fun _ => by omega) (by show m4 192 6 = _; rw [e_m4, nu_no (by decide), e_m3, nu_no (by decide), e_m2, nu_no (by decide), e_m1, nu_no (by decide)]; exact pin_at hp (t := 197) rfl (by decide)) ?_
    refine gx_st (L' := [(2, 192), (0, a), (0, b), (0, x), (0, d), (0, e), (9, 0)]) (S' := [(0, 4), (2, 197)]) r_100_48 rfl rfl rfl ?_
    refine gx_st (L' := [(2, 192), (0, a), (0, b), (0, x), (0, d), (0, e), (9, 0)]) (S' := [(0, e), (0, 4), (2, 197)]) r_100_49 rfl rfl rfl ?_
    obtain ⟨m5, e_m5⟩ : ∃ z, z = nu_up m4 197 4 e := ⟨_, rfl⟩
    refine gx_is (n := 4) (x := e) r_100_51 (rfl) (by omega) (ty_197 hT) (rfl) ⟨rfl, by decide⟩ e_m5.symm ?_
    refine gx_st (L' := [(2, 192), (0, a), (0, b), (0, x), (0, d), (0, e), (9, 0)]) (S' := [(0, 0)]) r_100_52 rfl rfl rfl ?_
    refine gx_st (L' := [(2, 192), (0, a), (0, b), (0, x), (0, d), (0, e), (0, 0)]) (S' := []) r_100_53 rfl rfl rfl ?_
    have hp5 : PinR m5 := by rw [e_m5, e_m4, e_m3, e_m2, e_m1]; exact PinR_up (PinR_up (PinR_up (PinR_up (PinR_up hp (pin_no (by decide) 0)) (pin_no (by decide) 1)) (pin_no (by decide) 2)) (pin_no (by decide) 3)) (pin_no (by decide) 4)
    have hfr : ∀ o i : Nat, ¬ o = 197 → m5 o i = m o i := fun o i h => by rw [e_m5, nu_no h, e_m4, nu_no h, e_m3, nu_no h, e_m2, nu_no h, e_m1, nu_no h]
    refine fd_l hT hp5 ((hfr 192 5 (by decide)).trans hc) (by omega) (a := a) (b := b) (x := x) (d := d) (e := e) (fun q hq => ?_) (fun m9 f9 c9 => ?_) 21 0 m5 (by omega) (by omega) (fun _ _ _ => rfl) (fun j hj => absurd hj (Nat.not_lt_zero _))
    · rcases (show q = 0 ∨ q = 1 ∨ q = 2 ∨ q = 3 ∨ q = 4 by omega) with rfl | rfl | rfl | rfl | rfl
      · rw [e_m5, nu_ne (by decide), e_m4, nu_ne (by decide), e_m3, nu_ne (by decide), e_m2, nu_ne (by decide), e_m1, nu_at]; rfl
      · rw [e_m5, nu_ne (by decide), e_m4, nu_ne (by decide), e_m3, nu_ne (by decide), e_m2, nu_at]; rfl
      · rw [e_m5, nu_ne (by decide), e_m4, nu_ne (by decide), e_m3, nu_at]; rfl
      · rw [e_m5, nu_ne (by decide), e_m4, nu_at]; rfl
      · rw [e_m5, nu_at]; rfl
    have c5 : m9 192 5 = (c : Int) := (f9 192 5 (by omega)).trans ((hfr 192 5 (by decide)).trans hc)
    refine gx_st (L' := [(2, 192), (0, a), (0, b), (0, x), (0, d), (0, e), (0, 20)]) (S' := [(2, 192)]) r_100_101 rfl rfl rfl ?_
    refine gx_st (L' := [(2, 192), (0, a), (0, b), (0, x), (0, d), (0, e), (0, 20)]) (S' := [(2, 192), (2, 192)]) r_100_102 rfl rfl rfl ?_
    refine gx_gf (x := (c : Int)) 0 r_100_103 (rfl) (ty_192 hT) ⟨by decide, rfl, by decide, by decide⟩ rfl (fun z => absurd z (by decide)) (c5) ?_
    refine gx_st (L' := [(2, 192), (0, a), (0, b), (0, x), (0, d), (0, e), (0, 20)]) (S' := [(0, 20), (0, (c : Int)), (2, 192)]) r_100_106 rfl rfl rfl ?_
    refine gx_ar (L' := [(2, 192), (0, a), (0, b), (0, x), (0, d), (0, e), (0, 20)]) (S' := [(2, 192)]) (t := 0) (e := w32 ((c : Int) + 20)) (z := (c : Int) + 20) r_100_108 rfl rfl rfl (w32_eq (by omega) (by omega) (by omega)) ?_
    obtain ⟨m6, e_m6⟩ : ∃ z, z = nu_up m9 192 5 ((c : Int) + 20) := ⟨_, rfl⟩
    refine gx_pf (x := (c : Int) + 20) 0 r_100_109 (rfl) (ty_192 hT) ⟨by decide, rfl, by decide, by decide⟩ rfl (fun z => absurd z (by decide)) (fun z => absurd z (by decide)) e_m6.symm ?_
    refine gx_st (L' := [(2, 192), (0, a), (0, b), (0, x), (0, d), (0, e), (0, 20)]) (S' := [(2, 192)]) r_100_112 rfl rfl rfl ?_
    refine gx_gf (x := (c : Int) + 20) 0 r_100_113 (rfl) (ty_192 hT) ⟨by decide, rfl, by decide, by decide⟩ rfl (fun z => absurd z (by decide)) (by show m6 192 5 = _; rw [e_m6, nu_at]) ?_
    refine gx_rt r_100_116 rfl rfl ⟨_, rfl, fun z => by omega, fun _ => ⟨rfl, by rw [e_m6, nu_at], fun k hk => ?_, fun o i h1 h2 h3 => ?_⟩⟩
    · rw [e_m6, nu_no (by decide)]; exact c9 k hk
    · rw [e_m6]
      by_cases e2 : o = 192
      · subst e2; rw [nu_ne (fun z => h2 ⟨rfl, z⟩), f9 192 i (by omega)]; exact hfr 192 i h3
      · rw [nu_no e2, f9 o i h1]; exact hfr o i h3
  · refine gx_st (L' := [(2, 192), (0, a), (0, b), (0, x), (0, d), (0, e), (9, 0)]) (S' := [(0, (-1))]) r_100_13 rfl rfl rfl ?_
    exact gx_rt r_100_14 rfl rfl ⟨_, rfl, fun _ => ⟨rfl, rfl⟩, fun z => by omega⟩
theorem y_2 (hT : TT T) (hp : PinR m) {c : Nat} (hc : m 2 1 = (c : Int)) (hc8 : c ≤ 800) (n : Int) : GX T 0 2 0 [(2, 1), (0, n)] [] m (RI (fun v m1 => (0 ≤ n ∧ n ≤ (c : Int) → v = n ∧ m1 = nu_up m 2 1 n) ∧ (¬ (0 ≤ n ∧ n ≤ (c : Int)) → v = -1 ∧ m1 = m))) := by
  refine gx_st (L' := [(2, 1), (0, n)]) (S' := [(0, n)]) r_2_0 rfl rfl rfl ?_
  refine gx_i0 (P := n < 0) r_2_1 (rfl) (fun h1 => ?_) (fun h1 => ?_)
  · refine gx_st (L' := [(2, 1), (0, n)]) (S' := [(0, (-1))]) r_2_15 rfl rfl rfl ?_
    exact gx_rt r_2_16 rfl rfl ⟨_, rfl, fun z => by omega, fun _ => ⟨rfl, rfl⟩⟩
  · refine gx_st (L' := [(2, 1), (0, n)]) (S' := [(0, n)]) r_2_4 rfl rfl rfl ?_
    refine gx_st (L' := [(2, 1), (0, n)]) (S' := [(2, 1), (0, n)]) r_2_5 rfl rfl rfl ?_
    refine gx_gf (x := 2) 2 r_2_6 (rfl) (ty_1 hT) ⟨by decide, rfl, by decide, by decide⟩ rfl (fun _ => by omega) (pin_at hp (t := 2) rfl (by decide)) ?_
    refine gx_gf (x := (c : Int)) 0 r_2_9 (rfl) (ty_2 hT) ⟨by decide, rfl, by decide, by decide⟩ rfl (fun z => absurd z (by decide)) (hc) ?_
    refine gx_ic (P := n ≤ (c : Int)) r_2_12 (rfl) (fun h12 => ?_) (fun h12 => ?_)
    · refine gx_st (L' := [(2, 1), (0, n)]) (S' := [(2, 1)]) r_2_17 rfl rfl rfl ?_
      refine gx_gf (x := 2) 2 r_2_18 (rfl) (ty_1 hT) ⟨by decide, rfl, by decide, by decide⟩ rfl (fun _ => by omega) (pin_at hp (t := 2) rfl (by decide)) ?_
      refine gx_st (L' := [(2, 1), (0, n)]) (S' := [(0, n), (2, 2)]) r_2_21 rfl rfl rfl ?_
      obtain ⟨m1, e_m1⟩ : ∃ z, z = nu_up m 2 1 n := ⟨_, rfl⟩
      refine gx_pf (x := n) 0 r_2_22 (rfl) (ty_2 hT) ⟨by decide, rfl, by decide, by decide⟩ rfl (fun z => absurd z (by decide)) (fun z => absurd z (by decide)) e_m1.symm ?_
      refine gx_st (L' := [(2, 1), (0, n)]) (S' := [(0, n)]) r_2_25 rfl rfl rfl ?_
      exact gx_rt r_2_26 rfl rfl ⟨_, rfl, fun _ => ⟨rfl, e_m1⟩, fun z => by omega⟩
    · refine gx_st (L' := [(2, 1), (0, n)]) (S' := [(0, (-1))]) r_2_15 rfl rfl rfl ?_
      exact gx_rt r_2_16 rfl rfl ⟨_, rfl, fun z => by omega, fun _ => ⟨rfl, rfl⟩⟩
theorem y_101 (hT : TT T) (hp : PinR m) {c : Nat} (hc : m 192 5 = (c : Int)) (hc8 : c ≤ 800) (n : Int) : GX T 1 101 0 [(2, 192), (0, n)] [] m (RI (fun v m1 => (0 ≤ n ∧ n ≤ (c : Int) → v = n ∧ m1 = nu_up m 192 5 n) ∧ (¬ (0 ≤ n ∧ n ≤ (c : Int)) → v = -1 ∧ m1 = m))) := by
  refine gx_st (L' := [(2, 192), (0, n)]) (S' := [(0, n)]) r_101_0 rfl rfl rfl ?_
  refine gx_st (L' := [(2, 192), (0, n)]) (S' := [(1, n)]) r_101_1 rfl rfl rfl ?_
  refine gx_st (L' := [(2, 192), (0, n)]) (S' := [(1, 0), (1, n)]) r_101_2 rfl rfl rfl ?_
  refine gx_st (L' := [(2, 192), (0, n)]) (S' := [(2, 192), (1, 0), (1, n)]) r_101_3 rfl rfl rfl ?_
  refine gx_gf (x := (c : Int)) 0 r_101_4 (rfl) (ty_192 hT) ⟨by decide, rfl, by decide, by decide⟩ rfl (fun z => absurd z (by decide)) (hc) ?_
  refine gx_st (L' := [(2, 192), (0, n)]) (S' := [(1, (c : Int)), (1, 0), (1, n)]) r_101_7 rfl rfl rfl ?_
  refine gx_ci (nx := 11) (S2 := []) (x_86 n 0 (c : Int)) r_101_8 rfl rfl rfl rfl rfl rfl rfl (by decide) rfl (fun x8 n8 q8 => ?_)
  obtain rfl := q8.1.symm
  obtain rfl := q8.2.symm
  show GX T 1 101 11 [(2, 192), (0, n)] [(0, (if 0 ≤ n ∧ n ≤ (c : Int) then 1 else 0))] m (RI (fun v m1 => (0 ≤ n ∧ n ≤ (c : Int) → v = n ∧ m1 = nu_up m 192 5 n) ∧ (¬ (0 ≤ n ∧ n ≤ (c : Int)) → v = -1 ∧ m1 = m)))
  refine gx_i0 (P := 0 ≤ n ∧ n ≤ (c : Int)) r_101_11 (b01_ne) (fun h11 => ?_) (fun h11 => ?_)
  · refine gx_st (L' := [(2, 192), (0, n)]) (S' := [(2, 192)]) r_101_16 rfl rfl rfl ?_
    refine gx_st (L' := [(2, 192), (0, n)]) (S' := [(0, n), (2, 192)]) r_101_17 rfl rfl rfl ?_
    obtain ⟨m1, e_m1⟩ : ∃ z, z = nu_up m 192 5 n := ⟨_, rfl⟩
    refine gx_pf (x := n) 0 r_101_18 (rfl) (ty_192 hT) ⟨by decide, rfl, by decide, by decide⟩ rfl (fun z => absurd z (by decide)) (fun z => absurd z (by decide)) e_m1.symm ?_
    refine gx_st (L' := [(2, 192), (0, n)]) (S' := [(0, n)]) r_101_21 rfl rfl rfl ?_
    exact gx_rt r_101_22 rfl rfl ⟨_, rfl, fun _ => ⟨rfl, e_m1⟩, fun z => by omega⟩
  · refine gx_st (L' := [(2, 192), (0, n)]) (S' := [(0, (-1))]) r_101_14 rfl rfl rfl ?_
    exact gx_rt r_101_15 rfl rfl ⟨_, rfl, fun z => by omega, fun _ => ⟨rfl, rfl⟩⟩
end TAPEQ
