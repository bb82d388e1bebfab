/-! fault exactly -/
theorem r_4_0 : row 4 0 = some (.iload_n 1, 1, 0, 0, 0, 0) := rfl
theorem r_4_1 : row 4 1 = some (.ifCond .ne 11, 4, 12, 0, 0, 0) := rfl
theorem r_4_4 : row 4 4 = some (.aload_n 0, 5, 0, 0, 0, 0) := rfl
theorem r_4_5 : row 4 5 = some (.getfield 10, 8, 9, 0, 2, 2158) := rfl
theorem r_4_8 : row 4 8 = some (.getfield 117, 11, 8, 2, 10, 1038) := rfl
theorem r_4_11 : row 4 11 = some (.ireturn, 12, 0, 0, 0, 0) := rfl
theorem r_4_12 : row 4 12 = some (.iload_n 1, 13, 0, 0, 0, 0) := rfl
theorem r_4_13 : row 4 13 = some (.iconst 1, 14, 1, 0, 0, 0) := rfl
theorem r_4_14 : row 4 14 = some (.if_icmp .ne 13, 17, 27, 0, 0, 0) := rfl
theorem r_4_17 : row 4 17 = some (.aload_n 0, 18, 0, 0, 0, 0) := rfl
theorem r_4_18 : row 4 18 = some (.getfield 10, 21, 9, 0, 2, 2158) := rfl
theorem r_4_21 : row 4 21 = some (.getfield 120, 24, 8, 3, 10, 1040) := rfl
theorem r_4_24 : row 4 24 = some (.goto 4, 27, 28, 0, 0, 0) := rfl
theorem r_4_27 : row 4 27 = some (.iconst (-1), 28, (-1), 0, 0, 0) := rfl
theorem r_4_28 : row 4 28 = some (.ireturn, 29, 0, 0, 0, 0) := rfl
theorem r_111_0 : row 111 0 = some (.iload_n 1, 1, 0, 0, 0, 0) := rfl
theorem r_111_1 : row 111 1 = some (.ifCond .ne 10, 4, 11, 0, 0, 0) := rfl
theorem r_111_4 : row 111 4 = some (.aload_n 0, 5, 0, 0, 0, 0) := rfl
theorem r_111_5 : row 111 5 = some (.getfield 127, 8, 10, 12, 0, 6013) := rfl
theorem r_111_8 : row 111 8 = some (.goto 16, 11, 24, 0, 0, 0) := rfl
theorem r_111_11 : row 111 11 = some (.iload_n 1, 12, 0, 0, 0, 0) := rfl
theorem r_111_12 : row 111 12 = some (.iconst 1, 13, 1, 0, 0, 0) := rfl
theorem r_111_13 : row 111 13 = some (.if_icmp .ne 10, 16, 23, 0, 0, 0) := rfl
theorem r_111_16 : row 111 16 = some (.aload_n 0, 17, 0, 0, 0, 0) := rfl
theorem r_111_17 : row 111 17 = some (.getfield 27, 20, 10, 13, 0, 6014) := rfl
theorem r_111_20 : row 111 20 = some (.goto 4, 23, 24, 0, 0, 0) := rfl
theorem r_111_23 : row 111 23 = some (.iconst (-1), 24, (-1), 0, 0, 0) := rfl
theorem r_111_24 : row 111 24 = some (.ireturn, 25, 0, 0, 0, 0) := rfl
section FAULT
variable {T : List Kd} {m : Mm}
theorem x_4 (hT : TT T) (hp : PinR m) {f0 f1 : Int} (e0 : m 2 2 = f0) (e1 : m 2 3 = f1) (a : Int) : GX T 0 4 0 [(2, 1), (0, a)] [] m (RI (fun v m1 => (a = 0 → v = f0) ∧ (¬ a = 0 → a = 1 → v = f1) ∧ (¬ a = 0 → ¬ a = 1 → v = -1) ∧ m1 = m)) := by
  refine gx_st (L' := [(2, 1), (0, a)]) (S' := [(0, a)]) r_4_0 rfl rfl rfl ?_
  refine gx_i0 (P := ¬ a = 0) r_4_1 (rfl) (fun h1 => ?_) (fun h1 => ?_)
  · refine gx_st (L' := [(2, 1), (0, a)]) (S' := [(0, a)]) r_4_12 rfl rfl rfl ?_
    refine gx_st (L' := [(2, 1), (0, a)]) (S' := [(0, 1), (0, a)]) r_4_13 rfl rfl rfl ?_
    refine gx_ic (P := ¬ a = 1) r_4_14 (rfl) (fun h14 => ?_) (fun h14 => ?_)
    · refine gx_st (L' := [(2, 1), (0, a)]) (S' := [(0, (-1))]) r_4_27 rfl rfl rfl ?_
      exact gx_rt r_4_28 rfl rfl ⟨_, rfl, fun z => by omega, fun z1 z2 => by omega, fun z1 z2 => rfl, rfl⟩
    · have h14 := Decidable.not_not.mp h14
      refine gx_st (L' := [(2, 1), (0, a)]) (S' := [(2, 1)]) r_4_17 rfl rfl rfl ?_
      refine gx_gf (x := 2) 2 r_4_18 (rfl) (ty_1 hT) ⟨by decide, rfl, by decide, by decide⟩ rfl (fun _ => by omega) (pin_at hp (t := 2) rfl (by decide)) ?_
      refine gx_gf (x := f1) 0 r_4_21 (rfl) (ty_2 hT) ⟨by decide, rfl, by decide, by decide⟩ rfl (fun z => absurd z (by decide)) (e1) ?_
      refine gx_st (L' := [(2, 1), (0, a)]) (S' := [(0, f1)]) r_4_24 rfl rfl rfl ?_
      exact gx_rt r_4_28 rfl rfl ⟨_, rfl, fun z => by omega, fun z1 z2 => rfl, fun z1 z2 => by omega, rfl⟩
  · have h1 := Decidable.not_not.mp h1
    refine gx_st (L' := [(2, 1), (0, a)]) (S' := [(2, 1)]) r_4_4 rfl rfl rfl ?_
    refine gx_gf (x := 2) 2 r_4_5 (rfl) (ty_1 hT) ⟨by decide, rfl, by decide, by decide⟩ rfl (fun _ => by omega) (pin_at hp (t := 2) rfl (by decide)) ?_
    refine gx_gf (x := f0) 0 r_4_8 (rfl) (ty_2 hT) ⟨by decide, rfl, by decide, by decide⟩ rfl (fun z => absurd z (by decide)) (e0) ?_
    exact gx_rt r_4_11 rfl rfl ⟨_, rfl, fun z => rfl, fun z1 z2 => by omega, fun z1 z2 => by omega, rfl⟩
theorem x_111 (hT : TT T) (hp : PinR m) {f0 f1 : Int} (e0 : m 192 12 = f0) (e1 : m 192 13 = f1) (a : Int) : GX T 0 111 0 [(2, 192), (0, a)] [] m (RI (fun v m1 => (a = 0 → v = f0) ∧ (¬ a = 0 → a = 1 → v = f1) ∧ (¬ a = 0 → ¬ a = 1 → v = -1) ∧ m1 = m)) := by
  refine gx_st (L' := [(2, 192), (0, a)]) (S' := [(0, a)]) r_111_0 rfl rfl rfl ?_
  refine gx_i0 (P := ¬ a = 0) r_111_1 (rfl) (fun h1 => ?_) (fun h1 => ?_)
  · refine gx_st (L' := [(2, 192), (0, a)]) (S' := [(0, a)]) r_111_11 rfl rfl rfl ?_
    refine gx_st (L' := [(2, 192), (0, a)]) (S' := [(0, 1), (0, a)]) r_111_12 rfl rfl rfl ?_
    refine gx_ic (P := ¬ a = 1) r_111_13 (rfl) (fun h13 => ?_) (fun h13 => ?_)
    · refine gx_st (L' := [(2, 192), (0, a)]) (S' := [(0, (-1))]) r_111_23 rfl rfl rfl ?_
      exact gx_rt r_111_24 rfl rfl ⟨_, rfl, fun z => by omega, fun z1 z2 => by omega, fun z1 z2 => rfl, rfl⟩
    · have h13 := Decidable.not_not.mp h13
      refine gx_st (L' := [(2, 192), (0, a)]) (S' := [(2, 192)]) r_111_16 rfl rfl rfl ?_
      refine gx_gf (x := f1) 0 r_111_17 (rfl) (ty_192 hT) ⟨by decide, rfl, by decide, by decide⟩ rfl (fun z => absurd z (by decide)) (e1) ?_
      refine gx_st (L' := [(2, 192), (0, a)]) (S' := [(0, f1)]) r_111_20 rfl rfl rfl ?_
      exact gx_rt r_111_24 rfl rfl ⟨_, rfl, fun z => by omega, fun z1 z2 => rfl, fun z1 z2 => by omega, rfl⟩
  · have h1 := Decidable.not_not.mp h1
    refine gx_st (L' := [(2, 192), (0, a)]) (S' := [(2, 192)]) r_111_4 rfl rfl rfl ?_
    refine gx_gf (x := f0) 0 r_111_5 (rfl) (ty_192 hT) ⟨by decide, rfl, by decide, by decide⟩ rfl (fun z => absurd z (by decide)) (e0) ?_
    refine gx_st (L' := [(2, 192), (0, a)]) (S' := [(0, f0)]) r_111_8 rfl rfl rfl ?_
    exact gx_rt r_111_24 rfl rfl ⟨_, rfl, fun z => rfl, fun z1 z2 => by omega, fun z1 z2 => by omega, rfl⟩
theorem fa_eq {a f0 f1 v1 v2 : Int} {P1 P2 : Prop} (h1 : (a = 0 → v1 = f0) ∧ (¬ a = 0 → a = 1 → v1 = f1) ∧ (¬ a = 0 → ¬ a = 1 → v1 = -1) ∧ P1) (h2 : (a = 0 → v2 = f0) ∧ (¬ a = 0 → a = 1 → v2 = f1) ∧ (¬ a = 0 → ¬ a = 1 → v2 = -1) ∧ P2) : v1 = v2 := by
  by_cases y : a = 0
  · rw [h1.1 y, h2.1 y]
  · by_cases z : a = 1
    · rw [h1.2.1 y z, h2.2.1 y z]
    · rw [h1.2.2.1 y z, h2.2.2.1 y z]
end FAULT
