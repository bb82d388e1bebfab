/-! count exactly -/
theorem r_65_0 : row 65 0 = some (.iload_n 1, 1, 0, 0, 0, 0) := rfl
theorem r_65_1 : row 65 1 = some (.tableswitch 156 0 11 #[63, 71, 79, 87, 95, 103, 111, 119, 127, 135, 143, 151], 64, 0, 0, 0, 0) := rfl
theorem r_65_64 : row 65 64 = some (.aload_n 0, 65, 0, 0, 0, 0) := rfl
theorem r_65_65 : row 65 65 = some (.getfield 19, 68, 9, 1, 2, 2159) := rfl
theorem r_65_68 : row 65 68 = some (.getfield 284, 71, 3, 1, 10, 1072) := rfl
theorem r_65_71 : row 65 71 = some (.ireturn, 72, 0, 0, 0, 0) := rfl
theorem r_65_72 : row 65 72 = some (.aload_n 0, 73, 0, 0, 0, 0) := rfl
theorem r_65_73 : row 65 73 = some (.getfield 19, 76, 9, 1, 2, 2159) := rfl
theorem r_65_76 : row 65 76 = some (.getfield 237, 79, 3, 2, 10, 1079) := rfl
theorem r_65_79 : row 65 79 = some (.ireturn, 80, 0, 0, 0, 0) := rfl
theorem r_65_80 : row 65 80 = some (.aload_n 0, 81, 0, 0, 0, 0) := rfl
theorem r_65_81 : row 65 81 = some (.getfield 19, 84, 9, 1, 2, 2159) := rfl
theorem r_65_84 : row 65 84 = some (.getfield 259, 87, 3, 3, 10, 1083) := rfl
theorem r_65_87 : row 65 87 = some (.ireturn, 88, 0, 0, 0, 0) := rfl
theorem r_65_88 : row 65 88 = some (.aload_n 0, 89, 0, 0, 0, 0) := rfl
theorem r_65_89 : row 65 89 = some (.getfield 19, 92, 9, 1, 2, 2159) := rfl
theorem r_65_92 : row 65 92 = some (.getfield 313, 95, 3, 4, 10, 1087) := rfl
theorem r_65_95 : row 65 95 = some (.ireturn, 96, 0, 0, 0, 0) := rfl
theorem r_65_96 : row 65 96 = some (.aload_n 0, 97, 0, 0, 0, 0) := rfl
theorem r_65_97 : row 65 97 = some (.getfield 19, 100, 9, 1, 2, 2159) := rfl
theorem r_65_100 : row 65 100 = some (.getfield 343, 103, 3, 5, 10, 1090) := rfl
theorem r_65_103 : row 65 103 = some (.ireturn, 104, 0, 0, 0, 0) := rfl
theorem r_65_104 : row 65 104 = some (.aload_n 0, 105, 0, 0, 0, 0) := rfl
theorem r_65_105 : row 65 105 = some (.getfield 19, 108, 9, 1, 2, 2159) := rfl
theorem r_65_108 : row 65 108 = some (.getfield 123, 111, 3, 6, 10, 1093) := rfl
theorem r_65_111 : row 65 111 = some (.ireturn, 112, 0, 0, 0, 0) := rfl
theorem r_65_112 : row 65 112 = some (.aload_n 0, 113, 0, 0, 0, 0) := rfl
theorem r_65_113 : row 65 113 = some (.getfield 19, 116, 9, 1, 2, 2159) := rfl
theorem r_65_116 : row 65 116 = some (.getfield 143, 119, 3, 7, 10, 1097) := rfl
theorem r_65_119 : row 65 119 = some (.ireturn, 120, 0, 0, 0, 0) := rfl
theorem r_65_120 : row 65 120 = some (.aload_n 0, 121, 0, 0, 0, 0) := rfl
theorem r_65_121 : row 65 121 = some (.getfield 19, 124, 9, 1, 2, 2159) := rfl
theorem r_65_124 : row 65 124 = some (.getfield 152, 127, 3, 8, 10, 1101) := rfl
theorem r_65_127 : row 65 127 = some (.ireturn, 128, 0, 0, 0, 0) := rfl
theorem r_65_128 : row 65 128 = some (.aload_n 0, 129, 0, 0, 0, 0) := rfl
theorem r_65_129 : row 65 129 = some (.getfield 29, 132, 9, 3, 2, 2161) := rfl
theorem r_65_132 : row 65 132 = some (.getfield 339, 135, 0, 2, 10, 1180) := rfl
theorem r_65_135 : row 65 135 = some (.ireturn, 136, 0, 0, 0, 0) := rfl
theorem r_65_136 : row 65 136 = some (.aload_n 0, 137, 0, 0, 0, 0) := rfl
theorem r_65_137 : row 65 137 = some (.getfield 19, 140, 9, 1, 2, 2159) := rfl
theorem r_65_140 : row 65 140 = some (.getfield 114, 143, 3, 0, 10, 1068) := rfl
theorem r_65_143 : row 65 143 = some (.ireturn, 144, 0, 0, 0, 0) := rfl
theorem r_65_144 : row 65 144 = some (.aload_n 0, 145, 0, 0, 0, 0) := rfl
theorem r_65_145 : row 65 145 = some (.getfield 10, 148, 9, 0, 2, 2158) := rfl
theorem r_65_148 : row 65 148 = some (.getfield 93, 151, 8, 1, 10, 1036) := rfl
theorem r_65_151 : row 65 151 = some (.ireturn, 152, 0, 0, 0, 0) := rfl
theorem r_65_152 : row 65 152 = some (.aload_n 0, 153, 0, 0, 0, 0) := rfl
theorem r_65_153 : row 65 153 = some (.invokevirtual 346, 156, 84, 0, 0, 5190) := rfl
theorem r_65_156 : row 65 156 = some (.ireturn, 157, 0, 0, 0, 0) := rfl
theorem r_65_157 : row 65 157 = some (.iconst (-1), 158, (-1), 0, 0, 0) := rfl
theorem r_65_158 : row 65 158 = some (.ireturn, 159, 0, 0, 0, 0) := rfl
theorem r_84_0 : row 84 0 = some (.iconst 0, 1, 0, 0, 0, 0) := rfl
theorem r_84_1 : row 84 1 = some (.istore_n 1, 2, 0, 0, 0, 0) := rfl
theorem r_84_2 : row 84 2 = some (.iconst 0, 3, 0, 0, 0, 0) := rfl
theorem r_84_3 : row 84 3 = some (.istore_n 2, 4, 0, 0, 0, 0) := rfl
theorem r_84_4 : row 84 4 = some (.iload_n 2, 5, 0, 0, 0, 0) := rfl
theorem r_84_5 : row 84 5 = some (.aload_n 0, 6, 0, 0, 0, 0) := rfl
theorem r_84_6 : row 84 6 = some (.getfield 72, 9, 9, 11, 2, 2169) := rfl
theorem r_84_9 : row 84 9 = some (.arraylength, 10, 0, 0, 0, 0) := rfl
theorem r_84_10 : row 84 10 = some (.if_icmp .ge 25, 13, 35, 0, 0, 0) := rfl
theorem r_84_13 : row 84 13 = some (.aload_n 0, 14, 0, 0, 0, 0) := rfl
theorem r_84_14 : row 84 14 = some (.getfield 72, 17, 9, 11, 2, 2169) := rfl
theorem r_84_17 : row 84 17 = some (.iload_n 2, 18, 0, 0, 0, 0) := rfl
theorem r_84_18 : row 84 18 = some (.aaload, 19, 0, 0, 0, 0) := rfl
theorem r_84_19 : row 84 19 = some (.getfield 357, 22, 6, 2, 10, 2147) := rfl
theorem r_84_22 : row 84 22 = some (.iconst (-1), 23, (-1), 0, 0, 0) := rfl
theorem r_84_23 : row 84 23 = some (.if_icmp .eq 6, 26, 29, 0, 0, 0) := rfl
theorem r_84_26 : row 84 26 = some (.iinc 1 1, 29, 0, 0, 0, 0) := rfl
theorem r_84_29 : row 84 29 = some (.iinc 2 1, 32, 0, 0, 0, 0) := rfl
theorem r_84_32 : row 84 32 = some (.goto (-28), 35, 4, 0, 0, 0) := rfl
theorem r_84_35 : row 84 35 = some (.iload_n 1, 36, 0, 0, 0, 0) := rfl
theorem r_84_36 : row 84 36 = some (.ireturn, 37, 0, 0, 0, 0) := rfl
theorem r_225_0 : row 225 0 = some (.iload_n 1, 1, 0, 0, 0, 0) := rfl
theorem r_225_1 : row 225 1 = some (.i2l, 2, 0, 0, 0, 0) := rfl
theorem r_225_2 : row 225 2 = some (.lconst 0, 3, 0, 0, 0, 0) := rfl
theorem r_225_3 : row 225 3 = some (.ldc2_w 393, 6, 9, 0, 0, 8115) := rfl
theorem r_225_6 : row 225 6 = some (.invokestatic 82, 9, 86, 3, 0, 6131) := rfl
theorem r_225_9 : row 225 9 = some (.ifCond .eq 10, 12, 19, 0, 0, 0) := rfl
theorem r_225_12 : row 225 12 = some (.aload_n 0, 13, 0, 0, 0, 0) := rfl
theorem r_225_13 : row 225 13 = some (.getfield 9, 16, 10, 1, 2, 6002) := rfl
theorem r_225_16 : row 225 16 = some (.iload_n 1, 17, 0, 0, 0, 0) := rfl
theorem r_225_17 : row 225 17 = some (.iaload, 18, 0, 0, 0, 0) := rfl
theorem r_225_18 : row 225 18 = some (.ireturn, 19, 0, 0, 0, 0) := rfl
theorem r_225_19 : row 225 19 = some (.iload_n 1, 20, 0, 0, 0, 0) := rfl
theorem r_225_20 : row 225 20 = some (.bipush 10, 22, 10, 0, 0, 0) := rfl
theorem r_225_22 : row 225 22 = some (.if_icmp .ne 8, 25, 30, 0, 0, 0) := rfl
theorem r_225_25 : row 225 25 = some (.aload_n 0, 26, 0, 0, 0, 0) := rfl
theorem r_225_26 : row 225 26 = some (.getfield 90, 29, 10, 5, 0, 6006) := rfl
theorem r_225_29 : row 225 29 = some (.ireturn, 30, 0, 0, 0, 0) := rfl
theorem r_225_30 : row 225 30 = some (.iload_n 1, 31, 0, 0, 0, 0) := rfl
theorem r_225_31 : row 225 31 = some (.bipush 11, 33, 11, 0, 0, 0) := rfl
theorem r_225_33 : row 225 33 = some (.if_icmp .eq 5, 36, 38, 0, 0, 0) := rfl
theorem r_225_36 : row 225 36 = some (.iconst (-1), 37, (-1), 0, 0, 0) := rfl
theorem r_225_37 : row 225 37 = some (.ireturn, 38, 0, 0, 0, 0) := rfl
theorem r_225_38 : row 225 38 = some (.iconst 0, 39, 0, 0, 0, 0) := rfl
theorem r_225_39 : row 225 39 = some (.istore_n 2, 40, 0, 0, 0, 0) := rfl
theorem r_225_40 : row 225 40 = some (.iconst 0, 41, 0, 0, 0, 0) := rfl
theorem r_225_41 : row 225 41 = some (.istore_n 3, 42, 0, 0, 0, 0) := rfl
theorem r_225_42 : row 225 42 = some (.iload_n 3, 43, 0, 0, 0, 0) := rfl
theorem r_225_43 : row 225 43 = some (.iconst 4, 44, 4, 0, 0, 0) := rfl
theorem r_225_44 : row 225 44 = some (.if_icmp .ge 27, 47, 71, 0, 0, 0) := rfl
theorem r_225_47 : row 225 47 = some (.iload_n 2, 48, 0, 0, 0, 0) := rfl
theorem r_225_48 : row 225 48 = some (.aload_n 0, 49, 0, 0, 0, 0) := rfl
theorem r_225_49 : row 225 49 = some (.getfield 64, 52, 10, 37, 2, 6038) := rfl
theorem r_225_52 : row 225 52 = some (.iload_n 3, 53, 0, 0, 0, 0) := rfl
theorem r_225_53 : row 225 53 = some (.iaload, 54, 0, 0, 0, 0) := rfl
theorem r_225_54 : row 225 54 = some (.iconst (-1), 55, (-1), 0, 0, 0) := rfl
theorem r_225_55 : row 225 55 = some (.if_icmp .ne 7, 58, 62, 0, 0, 0) := rfl
theorem r_225_58 : row 225 58 = some (.iconst 0, 59, 0, 0, 0, 0) := rfl
theorem r_225_59 : row 225 59 = some (.goto 4, 62, 63, 0, 0, 0) := rfl
theorem r_225_62 : row 225 62 = some (.iconst 1, 63, 1, 0, 0, 0) := rfl
theorem r_225_63 : row 225 63 = some (.iadd, 64, 0, 0, 0, 0) := rfl
theorem r_225_64 : row 225 64 = some (.istore_n 2, 65, 0, 0, 0, 0) := rfl
theorem r_225_65 : row 225 65 = some (.iinc 3 1, 68, 0, 0, 0, 0) := rfl
theorem r_225_68 : row 225 68 = some (.goto (-26), 71, 42, 0, 0, 0) := rfl
theorem r_225_71 : row 225 71 = some (.iload_n 2, 72, 0, 0, 0, 0) := rfl
theorem r_225_72 : row 225 72 = some (.ireturn, 73, 0, 0, 0, 0) := rfl
/-- how many of the first k are not -1 -/
def cntN (f : Nat → Int) : Nat → Int
  | 0 => 0
  | k + 1 => cntN f k + (if f k = -1 then 0 else 1)
theorem cntN_in (f : Nat → Int) : ∀ k : Nat, 0 ≤ cntN f k ∧ cntN f k ≤ (k : Int) := by
  intro k
  induction k with
  | zero => exact ⟨Int.le_refl 0, Int.le_refl 0⟩
  | succ k ih =>
    show 0 ≤ cntN f k + (if f k = -1 then 0 else 1) ∧ cntN f k + (if f k = -1 then 0 else 1) ≤ ((k + 1 : Nat) : Int)
    split <;> omega
theorem cntN_eq {f g : Nat → Int} : ∀ k : Nat, (∀ i : Nat, i < k → f i = g i) → cntN f k = cntN g k := by
  intro k
  induction k with
  | zero => intro _; rfl
  | succ k ih =>
    intro h
    show cntN f k + (if f k = -1 then 0 else 1) = cntN g k + (if g k = -1 then 0 else 1)
    rw [ih (fun i hi => h i (by omega)), h k (by omega)]
theorem cntN_s {f : Nat → Int} {k : Nat} : cntN f (k + 1) = cntN f k + (if f k = -1 then 0 else 1) := rfl
theorem sl_in4 : ∀ i : Nat, i < 4 → ([146, 148, 150, 152] : List Nat).contains (146 + 2 * i) = true ∧ pinF 145 i = 146 + 2 * i := by decide +kernel
section COUNT
variable {T : List Kd} {m : Mm}
theorem rh_l (hT : TT T) (hp : PinR m) : ∀ (N k : Nat), 4 - k < N → k ≤ 4 → GX T 1 84 4 [(2, 1), (0, (cntN (fun i => m (146 + 2 * i) 2) k)), (0, (k : Int))] [] m (RI (fun v m1 => v = cntN (fun i => m (146 + 2 * i) 2) 4 ∧ m1 = m)) := by
  intro N
  induction N with
  | zero => intro k hN; exact absurd hN (Nat.not_lt_zero _)
  | succ N ih =>
    intro k hN hk
    have bc := cntN_in (fun i => m (146 + 2 * i) 2) k
    have sc := cntN_s (f := (fun i => m (146 + 2 * i) 2)) (k := k)
    obtain ⟨c, h_c⟩ : ∃ c, c = cntN (fun i => m (146 + 2 * i) 2) k := ⟨_, rfl⟩
    rw [← h_c] at bc sc
    rw [← h_c]
    refine gx_st (L' := [(2, 1), (0, c), (0, (k : Int))]) (S' := [(0, (k : Int))]) r_84_4 rfl rfl rfl ?_
    refine gx_st (L' := [(2, 1), (0, c), (0, (k : Int))]) (S' := [(2, 1), (0, (k : Int))]) r_84_5 rfl rfl rfl ?_
    refine gx_gf (x := 145) 2 r_84_6 (rfl) (ty_1 hT) ⟨by decide, rfl, by decide, by decide⟩ rfl (fun _ => by omega) (pin_at hp (t := 145) rfl (by decide)) ?_
    refine gx_al r_84_9 (rfl) (ty_145 hT) ⟨by decide, by decide, by decide⟩ ?_
    show GX T 1 84 10 [(2, 1), (0, c), (0, (k : Int))] [(0, 4), (0, (k : Int))] m (RI (fun v m1 => v = cntN (fun i => m (146 + 2 * i) 2) 4 ∧ m1 = m))
    refine gx_ic (P := 4 ≤ (k : Int)) r_84_10 (rfl) (fun h10 => ?_) (fun h10 => ?_)
    · refine gx_st (L' := [(2, 1), (0, c), (0, (k : Int))]) (S' := [(0, c)]) r_84_35 rfl rfl rfl ?_
      have hk4 : k = 4 := by omega
      rw [h_c, hk4]
      exact gx_rt r_84_36 rfl rfl ⟨_, rfl, rfl, rfl⟩
    · refine gx_st (L' := [(2, 1), (0, c), (0, (k : Int))]) (S' := [(2, 1)]) r_84_13 rfl rfl rfl ?_
      refine gx_gf (x := 145) 2 r_84_14 (rfl) (ty_1 hT) ⟨by decide, rfl, by decide, by decide⟩ rfl (fun _ => by omega) (pin_at hp (t := 145) rfl (by decide)) ?_
      have hk4 : k < 4 := by omega
      obtain ⟨o, h_o⟩ : ∃ o : Nat, o = 146 + 2 * k := ⟨_, rfl⟩
      have ho : SlT T o := SlT_of hT (by rw [h_o]; exact (sl_in4 k hk4).1)
      have ho0 := ho.1
      refine gx_st (L' := [(2, 1), (0, c), (0, (k : Int))]) (S' := [(0, (k : Int)), (2, 145)]) r_84_17 rfl rfl rfl ?_
      refine gx_aa (n := k) (x := (o : Int)) r_84_18 (rfl) (by omega) (ty_145 hT) (by omega) ⟨by decide, by decide, by omega⟩ ((by rw [h_o]; exact pin_at hp (sl_in4 k hk4).2 (by omega))) (by omega) ?_
      refine gx_gf (x := (m o 2)) 0 r_84_19 (rfl) (tsl_0 ho) ⟨by omega, rfl, by decide, by decide⟩ rfl (fun z => absurd z (by decide)) (rfl) ?_
      refine gx_st (L' := [(2, 1), (0, c), (0, (k : Int))]) (S' := [(0, (-1)), (0, (m o 2))]) r_84_22 rfl rfl rfl ?_
      refine gx_ic (P := (m o 2) = (-1)) r_84_23 (rfl) (fun h23 => ?_) (fun h23 => ?_)
      · refine gx_li (z := (k : Int) + 1) (L' := [(2, 1), (0, c), (0, (k : Int) + 1)]) r_84_29 rfl (w32_eq (by omega) (by omega) (by omega)) rfl ?_
        refine gx_st (L' := [(2, 1), (0, c), (0, (k : Int) + 1)]) (S' := []) r_84_32 rfl rfl rfl ?_
        rw [← h_o] at sc
        rw [if_pos h23] at sc
        rw [show c = cntN (fun i => m (146 + 2 * i) 2) (k + 1) by omega, show (k : Int) + 1 = ((k + 1 : Nat) : Int) from rfl]
        exact ih (k + 1) (by omega) (by omega)
      · refine gx_li (z := c + 1) (L' := [(2, 1), (0, c + 1), (0, (k : Int))]) r_84_26 rfl (w32_eq (by omega) (by omega) (by omega)) rfl ?_
        refine gx_li (z := (k : Int) + 1) (L' := [(2, 1), (0, c + 1), (0, (k : Int) + 1)]) r_84_29 rfl (w32_eq (by omega) (by omega) (by omega)) rfl ?_
        refine gx_st (L' := [(2, 1), (0, c + 1), (0, (k : Int) + 1)]) (S' := []) r_84_32 rfl rfl rfl ?_
        rw [← h_o] at sc
        rw [if_neg h23] at sc
        rw [show c + 1 = cntN (fun i => m (146 + 2 * i) 2) (k + 1) by omega, show (k : Int) + 1 = ((k + 1 : Nat) : Int) from rfl]
        exact ih (k + 1) (by omega) (by omega)
theorem z_84 (hT : TT T) (hp : PinR m) : GX T 1 84 0 [(2, 1), (9, 0), (9, 0)] [] m (RI (fun v m1 => v = cntN (fun i => m (146 + 2 * i) 2) 4 ∧ m1 = m)) := by
  refine gx_st (L' := [(2, 1), (9, 0), (9, 0)]) (S' := [(0, 0)]) r_84_0 rfl rfl rfl ?_
  refine gx_st (L' := [(2, 1), (0, 0), (9, 0)]) (S' := []) r_84_1 rfl rfl rfl ?_
  refine gx_st (L' := [(2, 1), (0, 0), (9, 0)]) (S' := [(0, 0)]) r_84_2 rfl rfl rfl ?_
  refine gx_st (L' := [(2, 1), (0, 0), (0, 0)]) (S' := []) r_84_3 rfl rfl rfl ?_
  exact rh_l hT hp 5 0 (by omega) (by omega)
theorem ct_0 (hT : TT T) (hp : PinR m) (a : Int) : GX T 2 65 64 [(2, 1), (0, a)] [] m (RI (fun v m1 => v = m 4 1 ∧ m1 = m)) := by
  refine gx_st (L' := [(2, 1), (0, a)]) (S' := [(2, 1)]) r_65_64 rfl rfl rfl ?_
  refine gx_gf (x := 4) 2 r_65_65 (rfl) (ty_1 hT) ⟨by decide, rfl, by decide, by decide⟩ rfl (fun _ => by omega) (pin_at hp (t := 4) rfl (by decide)) ?_
  refine gx_gf (x := (m 4 1)) 0 r_65_68 (rfl) (ty_4 hT) ⟨by decide, rfl, by decide, by decide⟩ rfl (fun z => absurd z (by decide)) (rfl) ?_
  exact gx_rt r_65_71 rfl rfl ⟨_, rfl, ⟨rfl, rfl⟩⟩
theorem ct_1 (hT : TT T) (hp : PinR m) (a : Int) : GX T 2 65 72 [(2, 1), (0, a)] [] m (RI (fun v m1 => v = m 4 2 ∧ m1 = m)) := by
  refine gx_st (L' := [(2, 1), (0, a)]) (S' := [(2, 1)]) r_65_72 rfl rfl rfl ?_
  refine gx_gf (x := 4) 2 r_65_73 (rfl) (ty_1 hT) ⟨by decide, rfl, by decide, by decide⟩ rfl (fun _ => by omega) (pin_at hp (t := 4) rfl (by decide)) ?_
  refine gx_gf (x := (m 4 2)) 0 r_65_76 (rfl) (ty_4 hT) ⟨by decide, rfl, by decide, by decide⟩ rfl (fun z => absurd z (by decide)) (rfl) ?_
  exact gx_rt r_65_79 rfl rfl ⟨_, rfl, ⟨rfl, rfl⟩⟩
theorem ct_2 (hT : TT T) (hp : PinR m) (a : Int) : GX T 2 65 80 [(2, 1), (0, a)] [] m (RI (fun v m1 => v = m 4 3 ∧ m1 = m)) := by
  refine gx_st (L' := [(2, 1), (0, a)]) (S' := [(2, 1)]) r_65_80 rfl rfl rfl ?_
  refine gx_gf (x := 4) 2 r_65_81 (rfl) (ty_1 hT) ⟨by decide, rfl, by decide, by decide⟩ rfl (fun _ => by omega) (pin_at hp (t := 4) rfl (by decide)) ?_
  refine gx_gf (x := (m 4 3)) 0 r_65_84 (rfl) (ty_4 hT) ⟨by decide, rfl, by decide, by decide⟩ rfl (fun z => absurd z (by decide)) (rfl) ?_
  exact gx_rt r_65_87 rfl rfl ⟨_, rfl, ⟨rfl, rfl⟩⟩
theorem ct_3 (hT : TT T) (hp : PinR m) (a : Int) : GX T 2 65 88 [(2, 1), (0, a)] [] m (RI (fun v m1 => v = m 4 4 ∧ m1 = m)) := by
  refine gx_st (L' := [(2, 1), (0, a)]) (S' := [(2, 1)]) r_65_88 rfl rfl rfl ?_
  refine gx_gf (x := 4) 2 r_65_89 (rfl) (ty_1 hT) ⟨by decide, rfl, by decide, by decide⟩ rfl (fun _ => by omega) (pin_at hp (t := 4) rfl (by decide)) ?_
  refine gx_gf (x := (m 4 4)) 0 r_65_92 (rfl) (ty_4 hT) ⟨by decide, rfl, by decide, by decide⟩ rfl (fun z => absurd z (by decide)) (rfl) ?_
  exact gx_rt r_65_95 rfl rfl ⟨_, rfl, ⟨rfl, rfl⟩⟩
theorem ct_4 (hT : TT T) (hp : PinR m) (a : Int) : GX T 2 65 96 [(2, 1), (0, a)] [] m (RI (fun v m1 => v = m 4 5 ∧ m1 = m)) := by
  refine gx_st (L' := [(2, 1), (0, a)]) (S' := [(2, 1)]) r_65_96 rfl rfl rfl ?_
  refine gx_gf (x := 4) 2 r_65_97 (rfl) (ty_1 hT) ⟨by decide, rfl, by decide, by decide⟩ rfl (fun _ => by omega) (pin_at hp (t := 4) rfl (by decide)) ?_
  refine gx_gf (x := (m 4 5)) 0 r_65_100 (rfl) (ty_4 hT) ⟨by decide, rfl, by decide, by decide⟩ rfl (fun z => absurd z (by decide)) (rfl) ?_
  exact gx_rt r_65_103 rfl rfl ⟨_, rfl, ⟨rfl, rfl⟩⟩
theorem ct_5 (hT : TT T) (hp : PinR m) (a : Int) : GX T 2 65 104 [(2, 1), (0, a)] [] m (RI (fun v m1 => v = m 4 6 ∧ m1 = m)) := by
  refine gx_st (L' := [(2, 1), (0, a)]) (S' := [(2, 1)]) r_65_104 rfl rfl rfl ?_
  refine gx_gf (x := 4) 2 r_65_105 (rfl) (ty_1 hT) ⟨by decide, rfl, by decide, by decide⟩ rfl (fun _ => by omega) (pin_at hp (t := 4) rfl (by decide)) ?_
  refine gx_gf (x := (m 4 6)) 0 r_65_108 (rfl) (ty_4 hT) ⟨by decide, rfl, by decide, by decide⟩ rfl (fun z => absurd z (by decide)) (rfl) ?_
  exact gx_rt r_65_111 rfl rfl ⟨_, rfl, ⟨rfl, rfl⟩⟩
theorem ct_6 (hT : TT T) (hp : PinR m) (a : Int) : GX T 2 65 112 [(2, 1), (0, a)] [] m (RI (fun v m1 => v = m 4 7 ∧ m1 = m)) := by
  refine gx_st (L' := [(2, 1), (0, a)]) (S' := [(2, 1)]) r_65_112 rfl rfl rfl ?_
  refine gx_gf (x := 4) 2 r_65_113 (rfl) (ty_1 hT) ⟨by decide, rfl, by decide, by decide⟩ rfl (fun _ => by omega) (pin_at hp (t := 4) rfl (by decide)) ?_
  refine gx_gf (x := (m 4 7)) 0 r_65_116 (rfl) (ty_4 hT) ⟨by decide, rfl, by decide, by decide⟩ rfl (fun z => absurd z (by decide)) (rfl) ?_
  exact gx_rt r_65_119 rfl rfl ⟨_, rfl, ⟨rfl, rfl⟩⟩
theorem ct_7 (hT : TT T) (hp : PinR m) (a : Int) : GX T 2 65 120 [(2, 1), (0, a)] [] m (RI (fun v m1 => v = m 4 8 ∧ m1 = m)) := by
  refine gx_st (L' := [(2, 1), (0, a)]) (S' := [(2, 1)]) r_65_120 rfl rfl rfl ?_
  refine gx_gf (x := 4) 2 r_65_121 (rfl) (ty_1 hT) ⟨by decide, rfl, by decide, by decide⟩ rfl (fun _ => by omega) (pin_at hp (t := 4) rfl (by decide)) ?_
  refine gx_gf (x := (m 4 8)) 0 r_65_124 (rfl) (ty_4 hT) ⟨by decide, rfl, by decide, by decide⟩ rfl (fun z => absurd z (by decide)) (rfl) ?_
  exact gx_rt r_65_127 rfl rfl ⟨_, rfl, ⟨rfl, rfl⟩⟩
theorem ct_8 (hT : TT T) (hp : PinR m) (a : Int) : GX T 2 65 128 [(2, 1), (0, a)] [] m (RI (fun v m1 => v = m 22 2 ∧ m1 = m)) := by
  refine gx_st (L' := [(2, 1), (0, a)]) (S' := [(2, 1)]) r_65_128 rfl rfl rfl ?_
  refine gx_gf (x := 22) 2 r_65_129 (rfl) (ty_1 hT) ⟨by decide, rfl, by decide, by decide⟩ rfl (fun _ => by omega) (pin_at hp (t := 22) rfl (by decide)) ?_
  refine gx_gf (x := (m 22 2)) 0 r_65_132 (rfl) (ty_22 hT) ⟨by decide, rfl, by decide, by decide⟩ rfl (fun z => absurd z (by decide)) (rfl) ?_
  exact gx_rt r_65_135 rfl rfl ⟨_, rfl, ⟨rfl, rfl⟩⟩
theorem ct_9 (hT : TT T) (hp : PinR m) (a : Int) : GX T 2 65 136 [(2, 1), (0, a)] [] m (RI (fun v m1 => v = m 4 0 ∧ m1 = m)) := by
  refine gx_st (L' := [(2, 1), (0, a)]) (S' := [(2, 1)]) r_65_136 rfl rfl rfl ?_
  refine gx_gf (x := 4) 2 r_65_137 (rfl) (ty_1 hT) ⟨by decide, rfl, by decide, by decide⟩ rfl (fun _ => by omega) (pin_at hp (t := 4) rfl (by decide)) ?_
  refine gx_gf (x := (m 4 0)) 0 r_65_140 (rfl) (ty_4 hT) ⟨by decide, rfl, by decide, by decide⟩ rfl (fun z => absurd z (by decide)) (rfl) ?_
  exact gx_rt r_65_143 rfl rfl ⟨_, rfl, ⟨rfl, rfl⟩⟩
theorem ct_10 (hT : TT T) (hp : PinR m) (a : Int) : GX T 2 65 144 [(2, 1), (0, a)] [] m (RI (fun v m1 => v = m 2 1 ∧ m1 = m)) := by
  refine gx_st (L' := [(2, 1), (0, a)]) (S' := [(2, 1)]) r_65_144 rfl rfl rfl ?_
  refine gx_gf (x := 2) 2 r_65_145 (rfl) (ty_1 hT) ⟨by decide, rfl, by decide, by decide⟩ rfl (fun _ => by omega) (pin_at hp (t := 2) rfl (by decide)) ?_
  refine gx_gf (x := (m 2 1)) 0 r_65_148 (rfl) (ty_2 hT) ⟨by decide, rfl, by decide, by decide⟩ rfl (fun z => absurd z (by decide)) (rfl) ?_
  exact gx_rt r_65_151 rfl rfl ⟨_, rfl, ⟨rfl, rfl⟩⟩
theorem ct_11 (hT : TT T) (hp : PinR m) (a : Int) : GX T 2 65 152 [(2, 1), (0, a)] [] m (RI (fun v m1 => v = cntN (fun i => m (146 + 2 * i) 2) 4 ∧ m1 = m)) := by
  refine gx_st (L' := [(2, 1), (0, a)]) (S' := [(2, 1)]) r_65_152 rfl rfl rfl ?_
  refine gx_ci (nx := 156) (S2 := []) (z_84 hT hp) r_65_153 rfl rfl rfl rfl rfl (rcv_v rfl (ty_1 hT) (by decide) rfl (by decide)) rfl (by decide) rfl (fun x153 n153 q153 => ?_)
  obtain rfl := q153.1.symm
  obtain rfl := q153.2.symm
  show GX T 2 65 156 [(2, 1), (0, a)] [(0, (cntN (fun i => m (146 + 2 * i) 2) 4))] m (RI (fun v m1 => v = cntN (fun i => m (146 + 2 * i) 2) 4 ∧ m1 = m))
  exact gx_rt r_65_156 rfl rfl ⟨_, rfl, ⟨rfl, rfl⟩⟩
theorem ct_d (hT : TT T) (hp : PinR m) (a : Int) : GX T 2 65 157 [(2, 1), (0, a)] [] m (RI (fun v m1 => v = -1 ∧ m1 = m)) := by
  refine gx_st (L' := [(2, 1), (0, a)]) (S' := [(0, (-1))]) r_65_157 rfl rfl rfl ?_
  exact gx_rt r_65_158 rfl rfl ⟨_, rfl, ⟨rfl, rfl⟩⟩
/-- what count tells of the class -/
def CtV (m : Mm) (a v : Int) : Prop := (¬ (0 ≤ a ∧ a ≤ 11) → v = -1) ∧ (a = 0 → v = m 4 1) ∧ (a = 1 → v = m 4 2) ∧ (a = 2 → v = m 4 3) ∧ (a = 3 → v = m 4 4) ∧ (a = 4 → v = m 4 5) ∧ (a = 5 → v = m 4 6) ∧ (a = 6 → v = m 4 7) ∧ (a = 7 → v = m 4 8) ∧ (a = 8 → v = m 22 2) ∧ (a = 9 → v = m 4 0) ∧ (a = 10 → v = m 2 1) ∧ (a = 11 → v = cntN (fun i => m (146 + 2 * i) 2) 4)
theorem gx_tdf {d j pc nx b c w : Nat} {L S : List AV} {Q : AV → Mm → Prop} {df lo hi a x : Int} {offs : Array Int} (hx : row j pc = some (.tableswitch df lo hi offs, nx, a, b, c, w)) (hd : x < lo ∨ hi < x) (h0 : 0 ≤ (pc : Int) + df) (h : GX T d j ((pc : Int) + df).toNat L S m Q) : GX T d j pc L ((0, x) :: S) m Q := by
  refine gx_st hx rfl rfl ?_ h
  show (if x < lo ∨ hi < x then (if 0 ≤ (pc : Int) + df then some (((pc : Int) + df).toNat, L, S, T, m) else none) else _) = _
  rw [if_pos hd, if_pos h0]
theorem z_65 (hT : TT T) (hp : PinR m) (a : Int) : GX T 2 65 0 [(2, 1), (0, a)] [] m (RI (fun v m1 => CtV m a v ∧ m1 = m)) := by
  refine gx_st (L' := [(2, 1), (0, a)]) (S' := [(0, a)]) r_65_0 rfl rfl rfl ?_
  by_cases hd : a < 0 ∨ 11 < a
  · refine gx_tdf r_65_1 hd (by decide) ?_
    exact gx_imp (ct_d hT hp a) (fun v m1 ⟨x, e, p, q⟩ => ⟨x, e, ⟨fun _ => p, fun z => (by exfalso; omega), fun z => (by exfalso; omega), fun z => (by exfalso; omega), fun z => (by exfalso; omega), fun z => (by exfalso; omega), fun z => (by exfalso; omega), fun z => (by exfalso; omega), fun z => (by exfalso; omega), fun z => (by exfalso; omega), fun z => (by exfalso; omega), fun z => (by exfalso; omega), fun z => (by exfalso; omega)⟩, q⟩)
  · rcases (show a = 0 ∨ a = 1 ∨ a = 2 ∨ a = 3 ∨ a = 4 ∨ a = 5 ∨ a = 6 ∨ a = 7 ∨ a = 8 ∨ a = 9 ∨ a = 10 ∨ a = 11 by omega) with rfl | rfl | rfl | rfl | rfl | rfl | rfl | rfl | rfl | rfl | rfl | rfl
    · refine gx_st (nx := 64) (L' := [(2, 1), (0, 0)]) (S' := []) r_65_1 rfl rfl rfl ?_
      exact gx_imp (ct_0 hT hp 0) (fun v m1 ⟨x, e, p, q⟩ => ⟨x, e, ⟨fun z => absurd ⟨by decide, by decide⟩ z, fun _ => p, fun z => absurd z (by decide), fun z => absurd z (by decide), fun z => absurd z (by decide), fun z => absurd z (by decide), fun z => absurd z (by decide), fun z => absurd z (by decide), fun z => absurd z (by decide), fun z => absurd z (by decide), fun z => absurd z (by decide), fun z => absurd z (by decide), fun z => absurd z (by decide)⟩, q⟩)
    · refine gx_st (nx := 72) (L' := [(2, 1), (0, 1)]) (S' := []) r_65_1 rfl rfl rfl ?_
      exact gx_imp (ct_1 hT hp 1) (fun v m1 ⟨x, e, p, q⟩ => ⟨x, e, ⟨fun z => absurd ⟨by decide, by decide⟩ z, fun z => absurd z (by decide), fun _ => p, fun z => absurd z (by decide), fun z => absurd z (by decide), fun z => absurd z (by decide), fun z => absurd z (by decide), fun z => absurd z (by decide), fun z => absurd z (by decide), fun z => absurd z (by decide), fun z => absurd z (by decide), fun z => absurd z (by decide), fun z => absurd z (by decide)⟩, q⟩)
    · refine gx_st (nx := 80) (L' := [(2, 1), (0, 2)]) (S' := []) r_65_1 rfl rfl rfl ?_
      exact gx_imp (ct_2 hT hp 2) (fun v m1 ⟨x, e, p, q⟩ => ⟨x, e, ⟨fun z => absurd ⟨by decide, by decide⟩ z, fun z => absurd z (by decide), fun z => absurd z (by decide), fun _ => p, fun z => absurd z (by decide), fun z => absurd z (by decide), fun z => absurd z (by decide), fun z => absurd z (by decide), fun z => absurd z (by decide), fun z => absurd z (by decide), fun z => absurd z (by decide), fun z => absurd z (by decide), fun z => absurd z (by decide)⟩, q⟩)
    · refine gx_st (nx := 88) (L' := [(2, 1), (0, 3)]) (S' := []) r_65_1 rfl rfl rfl ?_
      exact gx_imp (ct_3 hT hp 3) (fun v m1 ⟨x, e, p, q⟩ => ⟨x, e, ⟨fun z => absurd ⟨by decide, by decide⟩ z, fun z => absurd z (by decide), fun z => absurd z (by decide), fun z => absurd z (by decide), fun _ => p, fun z => absurd z (by decide), fun z => absurd z (by decide), fun z => absurd z (by decide), fun z => absurd z (by decide), fun z => absurd z (by decide), fun z => absurd z (by decide), fun z => absurd z (by decide), fun z => absurd z (by decide)⟩, q⟩)
    · refine gx_st (nx := 96) (L' := [(2, 1), (0, 4)]) (S' := []) r_65_1 rfl rfl rfl ?_
      exact gx_imp (ct_4 hT hp 4) (fun v m1 ⟨x, e, p, q⟩ => ⟨x, e, ⟨fun z => absurd ⟨by decide, by decide⟩ z, fun z => absurd z (by decide), fun z => absurd z (by decide), fun z => absurd z (by decide), fun z => absurd z (by decide), fun _ => p, fun z => absurd z (by decide), fun z => absurd z (by decide), fun z => absurd z (by decide), fun z => absurd z (by decide), fun z => absurd z (by decide), fun z => absurd z (by decide), fun z => absurd z (by decide)⟩, q⟩)
    · refine gx_st (nx := 104) (L' := [(2, 1), (0, 5)]) (S' := []) r_65_1 rfl rfl rfl ?_
      exact gx_imp (ct_5 hT hp 5) (fun v m1 ⟨x, e, p, q⟩ => ⟨x, e, ⟨fun z => absurd ⟨by decide, by decide⟩ z, fun z => absurd z (by decide), fun z => absurd z (by decide), fun z => absurd z (by decide), fun z => absurd z (by decide), fun z => absurd z (by decide), fun _ => p, fun z => absurd z (by decide), fun z => absurd z (by decide), fun z => absurd z (by decide), fun z => absurd z (by decide), fun z => absurd z (by decide), fun z => absurd z (by decide)⟩, q⟩)
    · refine gx_st (nx := 112) (L' := [(2, 1), (0, 6)]) (S' := []) r_65_1 rfl rfl rfl ?_
      exact gx_imp (ct_6 hT hp 6) (fun v m1 ⟨x, e, p, q⟩ => ⟨x, e, ⟨fun z => absurd ⟨by decide, by decide⟩ z, fun z => absurd z (by decide), fun z => absurd z (by decide), fun z => absurd z (by decide), fun z => absurd z (by decide), fun z => absurd z (by decide), fun z => absurd z (by decide), fun _ => p, fun z => absurd z (by decide), fun z => absurd z (by decide), fun z => absurd z (by decide), fun z => absurd z (by decide), fun z => absurd z (by decide)⟩, q⟩)
    · refine gx_st (nx := 120) (L' := [(2, 1), (0, 7)]) (S' := []) r_65_1 rfl rfl rfl ?_
      exact gx_imp (ct_7 hT hp 7) (fun v m1 ⟨x, e, p, q⟩ => ⟨x, e, ⟨fun z => absurd ⟨by decide, by decide⟩ z, fun z => absurd z (by decide), fun z => absurd z (by decide), fun z => absurd z (by decide), fun z => absurd z (by decide), fun z => absurd z (by decide), fun z => absurd z (by decide), fun z => absurd z (by decide), fun _ => p, fun z => absurd z (by decide), fun z => absurd z (by decide), fun z => absurd z (by decide), fun z => absurd z (by decide)⟩, q⟩)
    · refine gx_st (nx := 128) (L' := [(2, 1), (0, 8)]) (S' := []) r_65_1 rfl rfl rfl ?_
      exact gx_imp (ct_8 hT hp 8) (fun v m1 ⟨x, e, p, q⟩ => ⟨x, e, ⟨fun z => absurd ⟨by decide, by decide⟩ z, fun z => absurd z (by decide), fun z => absurd z (by decide), fun z => absurd z (by decide), fun z => absurd z (by decide), fun z => absurd z (by decide), fun z => absurd z (by decide), fun z => absurd z (by decide), fun z => absurd z (by decide), fun _ => p, fun z => absurd z (by decide), fun z => absurd z (by decide), fun z => absurd z (by decide)⟩, q⟩)
    · refine gx_st (nx := 136) (L' := [(2, 1), (0, 9)]) (S' := []) r_65_1 rfl rfl rfl ?_
      exact gx_imp (ct_9 hT hp 9) (fun v m1 ⟨x, e, p, q⟩ => ⟨x, e, ⟨fun z => absurd ⟨by decide, by decide⟩ z, fun z => absurd z (by decide), fun z => absurd z (by decide), fun z => absurd z (by decide), fun z => absurd z (by decide), fun z => absurd z (by decide), fun z => absurd z (by decide), fun z => absurd z (by decide), fun z => absurd z (by decide), fun z => absurd z (by decide), fun _ => p, fun z => absurd z (by decide), fun z => absurd z (by decide)⟩, q⟩)
    · refine gx_st (nx := 144) (L' := [(2, 1), (0, 10)]) (S' := []) r_65_1 rfl rfl rfl ?_
      exact gx_imp (ct_10 hT hp 10) (fun v m1 ⟨x, e, p, q⟩ => ⟨x, e, ⟨fun z => absurd ⟨by decide, by decide⟩ z, fun z => absurd z (by decide), fun z => absurd z (by decide), fun z => absurd z (by decide), fun z => absurd z (by decide), fun z => absurd z (by decide), fun z => absurd z (by decide), fun z => absurd z (by decide), fun z => absurd z (by decide), fun z => absurd z (by decide), fun z => absurd z (by decide), fun _ => p, fun z => absurd z (by decide)⟩, q⟩)
    · refine gx_st (nx := 152) (L' := [(2, 1), (0, 11)]) (S' := []) r_65_1 rfl rfl rfl ?_
      exact gx_imp (ct_11 hT hp 11) (fun v m1 ⟨x, e, p, q⟩ => ⟨x, e, ⟨fun z => absurd ⟨by decide, by decide⟩ z, fun z => absurd z (by decide), fun z => absurd z (by decide), fun z => absurd z (by decide), fun z => absurd z (by decide), fun z => absurd z (by decide), fun z => absurd z (by decide), fun z => absurd z (by decide), fun z => absurd z (by decide), fun z => absurd z (by decide), fun z => absurd z (by decide), fun z => absurd z (by decide), fun _ => p⟩, q⟩)
theorem rc_l (hT : TT T) (hp : PinR m) {a : Int} : ∀ (N k : Nat), 4 - k < N → k ≤ 4 → GX T 2 225 42 [(2, 192), (0, a), (0, (cntN (m 209) k)), (0, (k : Int))] [] m (RI (fun v m1 => v = cntN (m 209) 4 ∧ m1 = m)) := by
  intro N
  induction N with
  | zero => intro k hN; exact absurd hN (Nat.not_lt_zero _)
  | succ N ih =>
    intro k hN hk
    have bc := cntN_in (m 209) k
    have sc := cntN_s (f := m 209) (k := k)
    obtain ⟨c, h_c⟩ : ∃ c, c = cntN (m 209) k := ⟨_, rfl⟩
    rw [← h_c] at bc sc
    rw [← h_c]
    refine gx_st (L' := [(2, 192), (0, a), (0, c), (0, (k : Int))]) (S' := [(0, (k : Int))]) r_225_42 rfl rfl rfl ?_
    refine gx_st (L' := [(2, 192), (0, a), (0, c), (0, (k : Int))]) (S' := [(0, 4), (0, (k : Int))]) r_225_43 rfl rfl rfl ?_
    refine gx_ic (P := 4 ≤ (k : Int)) r_225_44 (rfl) (fun h44 => ?_) (fun h44 => ?_)
    · refine gx_st (L' := [(2, 192), (0, a), (0, c), (0, (k : Int))]) (S' := [(0, c)]) r_225_71 rfl rfl rfl ?_
      have hk4 : k = 4 := by omega
      rw [h_c, hk4]
      exact gx_rt r_225_72 rfl rfl ⟨_, rfl, rfl, rfl⟩
    · refine gx_st (L' := [(2, 192), (0, a), (0, c), (0, (k : Int))]) (S' := [(0, c)]) r_225_47 rfl rfl rfl ?_
      refine gx_st (L' := [(2, 192), (0, a), (0, c), (0, (k : Int))]) (S' := [(2, 192), (0, c)]) r_225_48 rfl rfl rfl ?_
      refine gx_gf (x := 209) 2 r_225_49 (rfl) (ty_192 hT) ⟨by decide, rfl, by decide, by decide⟩ rfl (fun _ => by omega) (pin_at hp (t := 209) rfl (by decide)) ?_
      refine gx_st (L' := [(2, 192), (0, a), (0, c), (0, (k : Int))]) (S' := [(0, (k : Int)), (2, 209), (0, c)]) r_225_52 rfl rfl rfl ?_
      refine gx_ia (n := k) (x := (m 209 k)) r_225_53 (rfl) (ty_209 hT) (by omega) ⟨rfl, by omega⟩ (rfl) ?_
      refine gx_st (L' := [(2, 192), (0, a), (0, c), (0, (k : Int))]) (S' := [(0, (-1)), (0, (m 209 k)), (0, c)]) r_225_54 rfl rfl rfl ?_
      refine gx_ic (P := ¬ (m 209 k) = (-1)) r_225_55 (rfl) (fun h55 => ?_) (fun h55 => ?_)
      · refine gx_st (L' := [(2, 192), (0, a), (0, c), (0, (k : Int))]) (S' := [(0, 1), (0, c)]) r_225_62 rfl rfl rfl ?_
        refine gx_ar (L' := [(2, 192), (0, a), (0, c), (0, (k : Int))]) (S' := []) (t := 0) (e := w32 (c + 1)) (z := c + 1) r_225_63 rfl rfl rfl (w32_eq (by omega) (by omega) (by omega)) ?_
        refine gx_st (L' := [(2, 192), (0, a), (0, c + 1), (0, (k : Int))]) (S' := []) r_225_64 rfl rfl rfl ?_
        refine gx_li (z := (k : Int) + 1) (L' := [(2, 192), (0, a), (0, c + 1), (0, (k : Int) + 1)]) r_225_65 rfl (w32_eq (by omega) (by omega) (by omega)) rfl ?_
        refine gx_st (L' := [(2, 192), (0, a), (0, c + 1), (0, (k : Int) + 1)]) (S' := []) r_225_68 rfl rfl rfl ?_
        rw [if_neg h55] at sc
        rw [show c + 1 = cntN (m 209) (k + 1) by omega, show (k : Int) + 1 = ((k + 1 : Nat) : Int) from rfl]
        exact ih (k + 1) (by omega) (by omega)
      · have h55 := Decidable.not_not.mp h55
        refine gx_st (L' := [(2, 192), (0, a), (0, c), (0, (k : Int))]) (S' := [(0, 0), (0, c)]) r_225_58 rfl rfl rfl ?_
        refine gx_st (L' := [(2, 192), (0, a), (0, c), (0, (k : Int))]) (S' := [(0, 0), (0, c)]) r_225_59 rfl rfl rfl ?_
        refine gx_ar (L' := [(2, 192), (0, a), (0, c), (0, (k : Int))]) (S' := []) (t := 0) (e := w32 (c + 0)) (z := c) r_225_63 rfl rfl rfl (w32_eq (by omega) (by omega) (by omega)) ?_
        refine gx_st (L' := [(2, 192), (0, a), (0, c), (0, (k : Int))]) (S' := []) r_225_64 rfl rfl rfl ?_
        refine gx_li (z := (k : Int) + 1) (L' := [(2, 192), (0, a), (0, c), (0, (k : Int) + 1)]) r_225_65 rfl (w32_eq (by omega) (by omega) (by omega)) rfl ?_
        refine gx_st (L' := [(2, 192), (0, a), (0, c), (0, (k : Int) + 1)]) (S' := []) r_225_68 rfl rfl rfl ?_
        rw [if_pos h55] at sc
        rw [show c = cntN (m 209) (k + 1) by omega, show (k : Int) + 1 = ((k + 1 : Nat) : Int) from rfl]
        exact ih (k + 1) (by omega) (by omega)
/-- what count tells of the reference -/
def CtR (m : Mm) (a v : Int) : Prop := (¬ (0 ≤ a ∧ a ≤ 11) → v = -1) ∧ (∀ i : Nat, i < 10 → a = (i : Int) → v = m 193 i) ∧ (a = 10 → v = m 192 5) ∧ (a = 11 → v = cntN (m 209) 4)
theorem y_225 (hT : TT T) (hp : PinR m) (a : Int) : GX T 2 225 0 [(2, 192), (0, a), (9, 0), (9, 0)] [] m (RI (fun v m1 => CtR m a v ∧ m1 = m)) := by
  refine gx_st (L' := [(2, 192), (0, a), (9, 0), (9, 0)]) (S' := [(0, a)]) r_225_0 rfl rfl rfl ?_
  refine gx_st (L' := [(2, 192), (0, a), (9, 0), (9, 0)]) (S' := [(1, a)]) r_225_1 rfl rfl rfl ?_
  refine gx_st (L' := [(2, 192), (0, a), (9, 0), (9, 0)]) (S' := [(1, 0), (1, a)]) r_225_2 rfl rfl rfl ?_
  refine gx_st (L' := [(2, 192), (0, a), (9, 0), (9, 0)]) (S' := [(1, 9), (1, 0), (1, a)]) r_225_3 rfl rfl rfl ?_
  refine gx_ci (nx := 9) (S2 := []) (x_86 a 0 9) r_225_6 rfl rfl rfl rfl rfl rfl rfl (by decide) rfl (fun x6 n6 q6 => ?_)
  obtain rfl := q6.1.symm
  obtain rfl := q6.2.symm
  show GX T 2 225 9 [(2, 192), (0, a), (9, 0), (9, 0)] [(0, (if 0 ≤ a ∧ a ≤ 9 then 1 else 0))] m (RI (fun v m1 => CtR m a v ∧ m1 = m))
  refine gx_i0 (P := ¬ (0 ≤ a ∧ a ≤ 9)) r_225_9 (b01_eq) (fun h9 => ?_) (fun h9 => ?_)
  · refine gx_st (L' := [(2, 192), (0, a), (9, 0), (9, 0)]) (S' := [(0, a)]) r_225_19 rfl rfl rfl ?_
    refine gx_st (L' := [(2, 192), (0, a), (9, 0), (9, 0)]) (S' := [(0, 10), (0, a)]) r_225_20 rfl rfl rfl ?_
    refine gx_ic (P := ¬ a = 10) r_225_22 (rfl) (fun h22 => ?_) (fun h22 => ?_)
    · refine gx_st (L' := [(2, 192), (0, a), (9, 0), (9, 0)]) (S' := [(0, a)]) r_225_30 rfl rfl rfl ?_
      refine gx_st (L' := [(2, 192), (0, a), (9, 0), (9, 0)]) (S' := [(0, 11), (0, a)]) r_225_31 rfl rfl rfl ?_
      refine gx_ic (P := a = 11) r_225_33 (rfl) (fun h33 => ?_) (fun h33 => ?_)
      · refine gx_st (L' := [(2, 192), (0, a), (9, 0), (9, 0)]) (S' := [(0, 0)]) r_225_38 rfl rfl rfl ?_
        refine gx_st (L' := [(2, 192), (0, a), (0, 0), (9, 0)]) (S' := []) r_225_39 rfl rfl rfl ?_
        refine gx_st (L' := [(2, 192), (0, a), (0, 0), (9, 0)]) (S' := [(0, 0)]) r_225_40 rfl rfl rfl ?_
        refine gx_st (L' := [(2, 192), (0, a), (0, 0), (0, 0)]) (S' := []) r_225_41 rfl rfl rfl ?_
        exact gx_imp (rc_l hT hp (a := a) 5 0 (by omega) (by omega)) (fun v m1 ⟨x, e, p, q⟩ => ⟨x, e, ⟨fun z => (by exfalso; omega), fun i hi e => (by exfalso; omega), fun z => (by exfalso; omega), fun _ => p⟩, q⟩)
      · refine gx_st (L' := [(2, 192), (0, a), (9, 0), (9, 0)]) (S' := [(0, (-1))]) r_225_36 rfl rfl rfl ?_
        exact gx_rt r_225_37 rfl rfl ⟨_, rfl, ⟨fun _ => rfl, fun i hi e => (by exfalso; omega), fun z => (by exfalso; omega), fun z => (by exfalso; omega)⟩, rfl⟩
    · have h22 := Decidable.not_not.mp h22
      refine gx_st (L' := [(2, 192), (0, a), (9, 0), (9, 0)]) (S' := [(2, 192)]) r_225_25 rfl rfl rfl ?_
      refine gx_gf (x := (m 192 5)) 0 r_225_26 (rfl) (ty_192 hT) ⟨by decide, rfl, by decide, by decide⟩ rfl (fun z => absurd z (by decide)) (rfl) ?_
      exact gx_rt r_225_29 rfl rfl ⟨_, rfl, ⟨fun z => (by exfalso; omega), fun i hi e => (by exfalso; omega), fun _ => rfl, fun z => (by exfalso; omega)⟩, rfl⟩
  · have h9 := Decidable.not_not.mp h9
    obtain ⟨ii, hia⟩ : ∃ i : Nat, a = (i : Int) := ⟨a.toNat, by omega⟩
    have hi9 : ii < 10 := by omega
    rw [hia]
    refine gx_st (L' := [(2, 192), (0, (ii : Int)), (9, 0), (9, 0)]) (S' := [(2, 192)]) r_225_12 rfl rfl rfl ?_
    refine gx_gf (x := 193) 2 r_225_13 (rfl) (ty_192 hT) ⟨by decide, rfl, by decide, by decide⟩ rfl (fun _ => by omega) (pin_at hp (t := 193) rfl (by decide)) ?_
    refine gx_st (L' := [(2, 192), (0, (ii : Int)), (9, 0), (9, 0)]) (S' := [(0, (ii : Int)), (2, 193)]) r_225_16 rfl rfl rfl ?_
    refine gx_ia (n := ii) (x := (m 193 ii)) r_225_17 (rfl) (ty_193 hT) (by omega) ⟨rfl, by omega⟩ (rfl) ?_
    exact gx_rt r_225_18 rfl rfl ⟨_, rfl, ⟨fun z => (by exfalso; omega), fun i hi e => by rw [show i = ii by omega], fun z => (by exfalso; omega), fun z => (by exfalso; omega)⟩, rfl⟩
theorem q_65 {m m1 : Mm} {a v1 v2 : Int} (r : WX m) (tb : TBr m) (sr : ∀ i : Nat, i < 4 → m 209 i = m (146 + 2 * i) 2) (e : ∀ i : Nat, m1 193 i = m 193 i) (e5 : m1 192 5 = m 192 5) (e9 : ∀ i : Nat, m1 209 i = m 209 i) (h1 : CtV m a v1) (h2 : CtR m1 a v2) : v1 = v2 := by
  obtain ⟨c, c1, c2, c3, c4⟩ := tb
  obtain ⟨a0, a1, a2, a3, a4, a5, a6, a7, a8, -⟩ := r.1.1
  have a9 := r.2.1.1
  by_cases z : 0 ≤ a ∧ a ≤ 11
  · obtain ⟨-, b0, b1, b2, b3, b4, b5, b6, b7, b8, b9, b10, b11⟩ := h1
    obtain ⟨-, d0, d1, d2⟩ := h2
    rcases (show a = 0 ∨ a = 1 ∨ a = 2 ∨ a = 3 ∨ a = 4 ∨ a = 5 ∨ a = 6 ∨ a = 7 ∨ a = 8 ∨ a = 9 ∨ a = 10 ∨ a = 11 by omega) with rfl | rfl | rfl | rfl | rfl | rfl | rfl | rfl | rfl | rfl | rfl | rfl
    · exact (b0 rfl).trans (a1.trans ((e 0).symm.trans (d0 0 (by decide) rfl).symm))
    · exact (b1 rfl).trans (a2.trans ((e 1).symm.trans (d0 1 (by decide) rfl).symm))
    · exact (b2 rfl).trans (a3.trans ((e 2).symm.trans (d0 2 (by decide) rfl).symm))
    · exact (b3 rfl).trans (a4.trans ((e 3).symm.trans (d0 3 (by decide) rfl).symm))
    · exact (b4 rfl).trans (a5.trans ((e 4).symm.trans (d0 4 (by decide) rfl).symm))
    · exact (b5 rfl).trans (a6.trans ((e 5).symm.trans (d0 5 (by decide) rfl).symm))
    · exact (b6 rfl).trans (a7.trans ((e 6).symm.trans (d0 6 (by decide) rfl).symm))
    · exact (b7 rfl).trans (a8.trans ((e 7).symm.trans (d0 7 (by decide) rfl).symm))
    · exact (b8 rfl).trans (a9.trans ((e 8).symm.trans (d0 8 (by decide) rfl).symm))
    · exact (b9 rfl).trans (a0.trans ((e 9).symm.trans (d0 9 (by decide) rfl).symm))
    · exact (b10 rfl).trans (c2.trans (c3.symm.trans (e5.symm.trans (d1 rfl).symm)))
    · refine (b11 rfl).trans (Eq.trans (cntN_eq 4 (fun i hi => ?_)) (d2 rfl).symm)
      exact (sr i hi).symm.trans (e9 i).symm
  · exact (h1.1 z).trans (h2.1 z).symm
end COUNT
