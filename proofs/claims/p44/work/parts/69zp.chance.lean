/-! chances -/
theorem r_55_0 : row 55 0 = some (.aload_n 0, 1, 0, 0, 0, 0) := rfl
theorem r_55_1 : row 55 1 = some (.getfield 19, 4, 9, 1, 2, 2159) := rfl
theorem r_55_4 : row 55 4 = some (.invokevirtual 162, 7, 252, 0, 10, 4036) := rfl
theorem r_55_7 : row 55 7 = some (.ifCond .eq 11, 10, 18, 0, 0, 0) := rfl
theorem r_55_10 : row 55 10 = some (.iload_n 1, 11, 0, 0, 0, 0) := rfl
theorem r_55_11 : row 55 11 = some (.iconst 2, 12, 2, 0, 0, 0) := rfl
theorem r_55_12 : row 55 12 = some (.invokestatic 126, 15, 71, 2, 0, 4020) := rfl
theorem r_55_15 : row 55 15 = some (.ifCond .ne 7, 18, 22, 0, 0, 0) := rfl
theorem r_55_18 : row 55 18 = some (.ldc2_w 311, 21, (-2), 0, 0, 5119) := rfl
theorem r_55_21 : row 55 21 = some (.lreturn, 22, 0, 0, 0, 0) := rfl
theorem r_55_22 : row 55 22 = some (.bipush 10, 24, 10, 0, 0, 0) := rfl
theorem r_55_24 : row 55 24 = some (.aload_n 0, 25, 0, 0, 0, 0) := rfl
theorem r_55_25 : row 55 25 = some (.getfield 19, 28, 9, 1, 2, 2159) := rfl
theorem r_55_28 : row 55 28 = some (.getfield 313, 31, 3, 4, 10, 1087) := rfl
theorem r_55_31 : row 55 31 = some (.isub, 32, 0, 0, 0, 0) := rfl
theorem r_55_32 : row 55 32 = some (.i2l, 33, 0, 0, 0, 0) := rfl
theorem r_55_33 : row 55 33 = some (.ldc2_w 316, 36, 10, 0, 0, 5120) := rfl
theorem r_55_36 : row 55 36 = some (.iload_n 1, 37, 0, 0, 0, 0) := rfl
theorem r_55_37 : row 55 37 = some (.invokestatic 231, 40, 293, 3, 10, 4143) := rfl
theorem r_55_40 : row 55 40 = some (.aload_n 0, 41, 0, 0, 0, 0) := rfl
theorem r_55_41 : row 55 41 = some (.getfield 39, 44, 9, 5, 2, 2163) := rfl
theorem r_55_44 : row 55 44 = some (.getfield 222, 47, 7, 10, 10, 2022) := rfl
theorem r_55_47 : row 55 47 = some (.invokestatic 318, 50, 294, 2, 10, 5121) := rfl
theorem r_55_50 : row 55 50 = some (.lreturn, 51, 0, 0, 0, 0) := rfl
theorem r_56_0 : row 56 0 = some (.aload_n 0, 1, 0, 0, 0, 0) := rfl
theorem r_56_1 : row 56 1 = some (.getfield 19, 4, 9, 1, 2, 2159) := rfl
theorem r_56_4 : row 56 4 = some (.invokevirtual 162, 7, 252, 0, 10, 4036) := rfl
theorem r_56_7 : row 56 7 = some (.ifCond .eq 12, 10, 19, 0, 0, 0) := rfl
theorem r_56_10 : row 56 10 = some (.iload_n 1, 11, 0, 0, 0, 0) := rfl
theorem r_56_11 : row 56 11 = some (.bipush 101, 13, 101, 0, 0, 0) := rfl
theorem r_56_13 : row 56 13 = some (.invokestatic 126, 16, 71, 2, 0, 4020) := rfl
theorem r_56_16 : row 56 16 = some (.ifCond .ne 6, 19, 22, 0, 0, 0) := rfl
theorem r_56_19 : row 56 19 = some (.bipush (-2), 21, (-2), 0, 0, 0) := rfl
theorem r_56_21 : row 56 21 = some (.ireturn, 22, 0, 0, 0, 0) := rfl
theorem r_56_22 : row 56 22 = some (.iconst 0, 23, 0, 0, 0, 0) := rfl
theorem r_56_23 : row 56 23 = some (.istore_n 2, 24, 0, 0, 0, 0) := rfl
theorem r_56_24 : row 56 24 = some (.iconst 0, 25, 0, 0, 0, 0) := rfl
theorem r_56_25 : row 56 25 = some (.istore_n 3, 26, 0, 0, 0, 0) := rfl
theorem r_56_26 : row 56 26 = some (.iconst 1, 27, 1, 0, 0, 0) := rfl
theorem r_56_27 : row 56 27 = some (.istore 4, 29, 0, 0, 0, 0) := rfl
theorem r_56_29 : row 56 29 = some (.iload 4, 31, 0, 0, 0, 0) := rfl
theorem r_56_31 : row 56 31 = some (.aload_n 0, 32, 0, 0, 0, 0) := rfl
theorem r_56_32 : row 56 32 = some (.getfield 19, 35, 9, 1, 2, 2159) := rfl
theorem r_56_35 : row 56 35 = some (.getfield 237, 38, 3, 2, 10, 1079) := rfl
theorem r_56_38 : row 56 38 = some (.if_icmp .gt 66, 41, 104, 0, 0, 0) := rfl
theorem r_56_41 : row 56 41 = some (.aload_n 0, 42, 0, 0, 0, 0) := rfl
theorem r_56_42 : row 56 42 = some (.getfield 39, 45, 9, 5, 2, 2163) := rfl
theorem r_56_45 : row 56 45 = some (.getfield 210, 48, 7, 6, 12, 2014) := rfl
theorem r_56_48 : row 56 48 = some (.iload 4, 50, 0, 0, 0, 0) := rfl
theorem r_56_50 : row 56 50 = some (.iconst 1, 51, 1, 0, 0, 0) := rfl
theorem r_56_51 : row 56 51 = some (.isub, 52, 0, 0, 0, 0) := rfl
theorem r_56_52 : row 56 52 = some (.invokestatic 134, 55, 237, 2, 10, 4023) := rfl
theorem r_56_55 : row 56 55 = some (.iconst 2, 56, 2, 0, 0, 0) := rfl
theorem r_56_56 : row 56 56 = some (.if_icmp .ne 6, 59, 62, 0, 0, 0) := rfl
theorem r_56_59 : row 56 59 = some (.iinc 3 1, 62, 0, 0, 0, 0) := rfl
theorem r_56_62 : row 56 62 = some (.ldc2_w 322, 65, 100, 0, 0, 5128) := rfl
theorem r_56_65 : row 56 65 = some (.bipush 10, 67, 10, 0, 0, 0) := rfl
theorem r_56_67 : row 56 67 = some (.aload_n 0, 68, 0, 0, 0, 0) := rfl
theorem r_56_68 : row 56 68 = some (.getfield 19, 71, 9, 1, 2, 2159) := rfl
theorem r_56_71 : row 56 71 = some (.getfield 313, 74, 3, 4, 10, 1087) := rfl
theorem r_56_74 : row 56 74 = some (.isub, 75, 0, 0, 0, 0) := rfl
theorem r_56_75 : row 56 75 = some (.i2l, 76, 0, 0, 0, 0) := rfl
theorem r_56_76 : row 56 76 = some (.iload_n 3, 77, 0, 0, 0, 0) := rfl
theorem r_56_77 : row 56 77 = some (.invokestatic 318, 80, 294, 2, 10, 5121) := rfl
theorem r_56_80 : row 56 80 = some (.lmul, 81, 0, 0, 0, 0) := rfl
theorem r_56_81 : row 56 81 = some (.iload_n 1, 82, 0, 0, 0, 0) := rfl
theorem r_56_82 : row 56 82 = some (.i2l, 83, 0, 0, 0, 0) := rfl
theorem r_56_83 : row 56 83 = some (.ldc2_w 316, 86, 10, 0, 0, 5120) := rfl
theorem r_56_86 : row 56 86 = some (.iload_n 3, 87, 0, 0, 0, 0) := rfl
theorem r_56_87 : row 56 87 = some (.invokestatic 318, 90, 294, 2, 10, 5121) := rfl
theorem r_56_90 : row 56 90 = some (.lmul, 91, 0, 0, 0, 0) := rfl
theorem r_56_91 : row 56 91 = some (.lcmp, 92, 0, 0, 0, 0) := rfl
theorem r_56_92 : row 56 92 = some (.ifCond .lt 6, 95, 98, 0, 0, 0) := rfl
theorem r_56_95 : row 56 95 = some (.iload 4, 97, 0, 0, 0, 0) := rfl
theorem r_56_97 : row 56 97 = some (.istore_n 2, 98, 0, 0, 0, 0) := rfl
theorem r_56_98 : row 56 98 = some (.iinc 4 1, 101, 0, 0, 0, 0) := rfl
theorem r_56_101 : row 56 101 = some (.goto (-72), 104, 29, 0, 0, 0) := rfl
theorem r_56_104 : row 56 104 = some (.iload_n 2, 105, 0, 0, 0, 0) := rfl
theorem r_56_105 : row 56 105 = some (.ireturn, 106, 0, 0, 0, 0) := rfl
theorem r_294_0 : row 294 0 = some (.lconst 1, 1, 1, 0, 0, 0) := rfl
theorem r_294_1 : row 294 1 = some (.lstore_n 3, 2, 0, 0, 0, 0) := rfl
theorem r_294_2 : row 294 2 = some (.iconst 0, 3, 0, 0, 0, 0) := rfl
theorem r_294_3 : row 294 3 = some (.istore 5, 5, 0, 0, 0, 0) := rfl
theorem r_294_5 : row 294 5 = some (.iload 5, 7, 0, 0, 0, 0) := rfl
theorem r_294_7 : row 294 7 = some (.iload_n 2, 8, 0, 0, 0, 0) := rfl
theorem r_294_8 : row 294 8 = some (.if_icmp .ge 13, 11, 21, 0, 0, 0) := rfl
theorem r_294_11 : row 294 11 = some (.lload_n 3, 12, 0, 0, 0, 0) := rfl
theorem r_294_12 : row 294 12 = some (.lload_n 0, 13, 0, 0, 0, 0) := rfl
theorem r_294_13 : row 294 13 = some (.lmul, 14, 0, 0, 0, 0) := rfl
theorem r_294_14 : row 294 14 = some (.lstore_n 3, 15, 0, 0, 0, 0) := rfl
theorem r_294_15 : row 294 15 = some (.iinc 5 1, 18, 0, 0, 0, 0) := rfl
theorem r_294_18 : row 294 18 = some (.goto (-13), 21, 5, 0, 0, 0) := rfl
theorem r_294_21 : row 294 21 = some (.lload_n 3, 22, 0, 0, 0, 0) := rfl
theorem r_294_22 : row 294 22 = some (.lreturn, 23, 0, 0, 0, 0) := rfl
theorem l_293 {T : List Kd} {m : Mm} (X Y : Nat) (w : Int) (hY : 0 < Y) (hb : Y < 2 ^ 40) : GX T 0 293 0 [(1, (X : Int)), (9, 0), (1, (Y : Int)), (9, 0), (0, w), (9, 0), (9, 0), (9, 0), (9, 0), (9, 0), (9, 0), (9, 0)] [] m (RL (fun v m1 => v = lowV X Y w ∧ m1 = m)) := ⟨_, _, c_293 X Y w hY hb, _, rfl, rfl, rfl⟩
theorem l_164 {T : List Kd} {m : Mm} (X Y : Nat) (w : Int) (hY : 0 < Y) : GX T 1 164 0 [(1, (X : Int)), (9, 0), (1, (Y : Int)), (9, 0), (0, w)] [] m (RL (fun v m1 => v = lowV X Y w ∧ m1 = m)) := ⟨_, _, c_164 (d := 0) X Y w hY, _, rfl, rfl, rfl⟩
/-- one side of a tenth's fraction in lowest terms -/
def lowB (b : Nat) (w : Int) : Nat := (if w = 0 then b else 10) / Nat.gcd b 10
theorem lowB_ok (b : Nat) (w : Int) (hb : b ≤ 10) : lowV b 10 w = ((lowB b w : Nat) : Int) ∧ lowB b w ≤ 10 := by
  have h : ∀ b : Nat, b < 11 → (lowV b 10 0 = ((lowB b 0 : Nat) : Int) ∧ lowB b 0 ≤ 10) ∧ (lowV b 10 1 = ((lowB b 1 : Nat) : Int) ∧ lowB b 1 ≤ 10) := by decide +kernel
  by_cases c : w = 0
  · rw [c]; exact (h b (by omega)).1
  · have e1 : lowV b 10 w = lowV b 10 1 := by unfold lowV; rw [if_neg c, if_neg (by decide)]
    have e2 : lowB b w = lowB b 1 := by unfold lowB; rw [if_neg c, if_neg (by decide)]
    rw [e1, e2]; exact (h b (by omega)).2
theorem low_pow (b e : Nat) (w : Int) (hb : b ≤ 10) (he : e ≤ 12) : lowV (b ^ e) (10 ^ e) w = ((lowB b w ^ e : Nat) : Int) := by
  have h : ∀ b : Nat, b < 11 → ∀ e : Nat, e < 13 → lowV (b ^ e) (10 ^ e) 0 = ((lowB b 0 ^ e : Nat) : Int) ∧ lowV (b ^ e) (10 ^ e) 1 = ((lowB b 1 ^ e : Nat) : Int) := by decide +kernel
  by_cases c : w = 0
  · rw [c]; exact (h b (by omega) e (by omega)).1
  · have e1 : lowV (b ^ e) (10 ^ e) w = lowV (b ^ e) (10 ^ e) 1 := by unfold lowV; rw [if_neg c, if_neg (by decide)]
    have e2 : lowB b w = lowB b 1 := by unfold lowB; rw [if_neg c, if_neg (by decide)]
    rw [e1, e2]; exact (h b (by omega) e (by omega)).2
/-- the last hour up to k at which it is still p in a hundred: e tells the meals -/
def lastS (p : Int) (b : Nat) (e : Nat → Nat) : Nat → Nat
  | 0 => 0
  | k + 1 => if p * ((10 ^ e (k + 1) : Nat) : Int) ≤ 100 * ((b ^ e (k + 1) : Nat) : Int) then k + 1 else lastS p b e k
theorem lastS_y {p : Int} {b : Nat} {e : Nat → Nat} {k : Nat} (h : p * ((10 ^ e (k + 1) : Nat) : Int) ≤ 100 * ((b ^ e (k + 1) : Nat) : Int)) : lastS p b e (k + 1) = k + 1 := if_pos h
theorem lastS_n {p : Int} {b : Nat} {e : Nat → Nat} {k : Nat} (h : ¬ p * ((10 ^ e (k + 1) : Nat) : Int) ≤ 100 * ((b ^ e (k + 1) : Nat) : Int)) : lastS p b e (k + 1) = lastS p b e k := if_neg h
theorem lastS_le {p : Int} {b : Nat} {e : Nat → Nat} : ∀ k : Nat, lastS p b e k ≤ k := by
  intro k
  induction k with
  | zero => exact Nat.le_refl _
  | succ k ih =>
    show (if p * ((10 ^ e (k + 1) : Nat) : Int) ≤ 100 * ((b ^ e (k + 1) : Nat) : Int) then k + 1 else lastS p b e k) ≤ k + 1
    split <;> omega
theorem lastS_c {p : Int} {b : Nat} {e g : Nat → Nat} : ∀ k : Nat, (∀ i : Nat, i ≤ k → e i = g i) → lastS p b e k = lastS p b g k := by
  intro k
  induction k with
  | zero => intro _; rfl
  | succ k ih =>
    intro h
    show (if p * ((10 ^ e (k + 1) : Nat) : Int) ≤ 100 * ((b ^ e (k + 1) : Nat) : Int) then k + 1 else lastS p b e k) = (if p * ((10 ^ g (k + 1) : Nat) : Int) ≤ 100 * ((b ^ g (k + 1) : Nat) : Int) then k + 1 else lastS p b g k)
    rw [h (k + 1) (Nat.le_refl _), ih (fun i hi => h i (by omega))]
section CHANCE
variable {T : List Kd} {m : Mm}
/-- there are lengths of ways -/
theorem ex_D (hT : TT T) (hm : Gam m) (hx : Ext m) : ∃ D : Nat → Nat → Int, WyD (m 193) D := by
  obtain ⟨v, m1, -, -, -, -, f, s⟩ := x_124 hT hm hx
  refine ⟨fun a b => m1 199 (7 * a + b), ?_⟩
  have e : m1 193 = m 193 := funext (Fr_cell (o := 193) f (by decide) (by decide))
  unfold FS at s
  rw [e] at s
  exact s
/-- what the class's story tells, within its bounds -/
theorem st_told (hT : TT T) (hm : Gam m) (hx : Ext m) (r : WX m) (sx : StoryX m) (h0 : 0 < m 4 0) : ∃ (D : Nat → Nat → Int) (n : Nat), n ≤ 12 ∧ m 4 2 = (n : Int) ∧ StoryD m 28 (pw (m 193)) D (m 23) (beginF (pw (m 193)) 0 (pw (m 193) 47)) n ∧ ∀ k : Nat, k ≤ 12 → SB (pw (m 193)) (runF (pw (m 193)) D (m 23) (beginF (pw (m 193)) 0 (pw (m 193) 47)) k) k := by
  obtain ⟨D, d1⟩ := ex_D hT hm hx
  have b1 := gb_193_1 hm
  have b2 := gb_193_2 hm
  have e42 : m 4 2 = m 193 1 := r.1.1.2.2.1
  have hA : ∀ h : Nat, h < 12 → 0 ≤ m 23 h ∧ m 23 h ≤ 16 := fun h hh => by
    by_cases c : HasA (m 193) (h : Int)
    · obtain ⟨i, i1, i2, i3⟩ := c
      rw [r.2.1.2.2.1 i i1 i2 h hh i3]
      have := hx.1.2.1 i i1 i2
      omega
    · rw [r.2.1.2.2.2 h hh c]; decide
  have z := WD_w r.1 (pw_ag (m 193))
  have hb : WBf (pw (m 193)) := ⟨by rw [pw_at (by decide) (by decide)]; exact b2, fun t ht _ => by rw [pw_at (by omega) (by omega)]; exact gb_193_tf hm ht⟩
  have s := sx h0 (pw (m 193)) D z hb (wyD_pw.mpr d1) hA
  rw [show pw (m 193) 1 = m 193 1 from pw_at (by decide) (by decide)] at s
  exact ⟨D, (m 193 1).toNat, by omega, by omega, s, fun k hk => sb_run z.2.1 z.2.2.2 (wyD_pw.mpr d1) hA (sb_ask hm z.2.2.2) k hk⟩
theorem pow2_l {Q : AV → Mm → Prop} {b e : Nat} (hb : b ≤ 10) (he : e ≤ 12) (hQ : Q (1, ((b ^ e : Nat) : Int)) m) : ∀ (N k : Nat) (v : Int), e - k < N → k ≤ e → v = ((b ^ k : Nat) : Int) → GX T 0 294 5 [(1, (b : Int)), (9, 0), (0, (e : Int)), (1, v), (9, 0), (0, (k : Int))] [] m Q := by
  intro N
  induction N with
  | zero => intro k v hN; exact absurd hN (Nat.not_lt_zero _)
  | succ N ih =>
    intro k v hN hk hv
    refine gx_st (L' := [(1, (b : Int)), (9, 0), (0, (e : Int)), (1, v), (9, 0), (0, (k : Int))]) (S' := [(0, (k : Int))]) r_294_5 rfl rfl rfl ?_
    refine gx_st (L' := [(1, (b : Int)), (9, 0), (0, (e : Int)), (1, v), (9, 0), (0, (k : Int))]) (S' := [(0, (e : Int)), (0, (k : Int))]) r_294_7 rfl rfl rfl ?_
    refine gx_ic (P := (e : Int) ≤ (k : Int)) r_294_8 (rfl) (fun h8 => ?_) (fun h8 => ?_)
    · refine gx_st (L' := [(1, (b : Int)), (9, 0), (0, (e : Int)), (1, v), (9, 0), (0, (k : Int))]) (S' := [(1, v)]) r_294_21 rfl rfl rfl ?_
      have hke : k = e := by omega
      rw [hke] at hv
      rw [hv]
      exact gx_rt r_294_22 rfl rfl hQ
    · have hvb : v * (b : Int) = ((b ^ (k + 1) : Nat) : Int) := by rw [hv, Nat.pow_succ]; exact (Int.natCast_mul _ _).symm
      have hp := pw_le hb (show k + 1 ≤ 12 by omega)
      refine gx_st (L' := [(1, (b : Int)), (9, 0), (0, (e : Int)), (1, v), (9, 0), (0, (k : Int))]) (S' := [(1, v)]) r_294_11 rfl rfl rfl ?_
      refine gx_st (L' := [(1, (b : Int)), (9, 0), (0, (e : Int)), (1, v), (9, 0), (0, (k : Int))]) (S' := [(1, (b : Int)), (1, v)]) r_294_12 rfl rfl rfl ?_
      refine gx_ar (L' := [(1, (b : Int)), (9, 0), (0, (e : Int)), (1, v), (9, 0), (0, (k : Int))]) (S' := []) (t := 1) (e := w64 (v * (b : Int))) (z := (v * (b : Int))) r_294_13 rfl rfl rfl (w64_eq rfl (by rw [hvb]; omega) (by rw [hvb]; omega)) ?_
      refine gx_st (L' := [(1, (b : Int)), (9, 0), (0, (e : Int)), (1, (v * (b : Int))), (9, 0), (0, (k : Int))]) (S' := []) r_294_14 rfl rfl rfl ?_
      refine gx_li (z := (k : Int) + 1) (L' := [(1, (b : Int)), (9, 0), (0, (e : Int)), (1, (v * (b : Int))), (9, 0), (0, (k : Int) + 1)]) r_294_15 rfl (w32_eq (by omega) (by omega) (by omega)) rfl ?_
      refine gx_st (L' := [(1, (b : Int)), (9, 0), (0, (e : Int)), (1, (v * (b : Int))), (9, 0), (0, (k : Int) + 1)]) (S' := []) r_294_18 rfl rfl rfl ?_
      rw [show (k : Int) + 1 = ((k + 1 : Nat) : Int) from rfl]
      exact ih (k + 1) _ (by omega) (by omega) hvb
theorem x_294 {b e : Nat} (hb : b ≤ 10) (he : e ≤ 12) : GX T 0 294 0 [(1, (b : Int)), (9, 0), (0, (e : Int)), (9, 0), (9, 0), (9, 0)] [] m (RL (fun v m1 => v = ((b ^ e : Nat) : Int) ∧ m1 = m)) := by
  refine gx_st (L' := [(1, (b : Int)), (9, 0), (0, (e : Int)), (9, 0), (9, 0), (9, 0)]) (S' := [(1, 1)]) r_294_0 rfl rfl rfl ?_
  refine gx_st (L' := [(1, (b : Int)), (9, 0), (0, (e : Int)), (1, 1), (9, 0), (9, 0)]) (S' := []) r_294_1 rfl rfl rfl ?_
  refine gx_st (L' := [(1, (b : Int)), (9, 0), (0, (e : Int)), (1, 1), (9, 0), (9, 0)]) (S' := [(0, 0)]) r_294_2 rfl rfl rfl ?_
  refine gx_st (L' := [(1, (b : Int)), (9, 0), (0, (e : Int)), (1, 1), (9, 0), (0, 0)]) (S' := []) r_294_3 rfl rfl rfl ?_
  exact pow2_l hb he ⟨_, rfl, rfl, rfl⟩ (e + 1) 0 1 (by omega) (by omega) (by rw [Nat.pow_zero]; rfl)
theorem z_55 (hT : TT T) (hp : PinR m) (a : Int) (hod : 0 ≤ m 4 4 ∧ m 4 4 ≤ 10) (hea : 0 < m 4 0 → 0 ≤ m 28 10 ∧ m 28 10 ≤ 12) : GX T 1 55 0 [(2, 1), (0, a)] [] m (RL (fun v m1 => (¬ (0 < m 4 0 ∧ 0 ≤ a ∧ a < 2) → v = -2) ∧ ∀ b e : Nat, 10 - m 4 4 = (b : Int) → m 28 10 = (e : Int) → (0 < m 4 0 ∧ 0 ≤ a ∧ a < 2) → v = ((lowB b a ^ e : Nat) : Int))) := by
  refine gx_st (L' := [(2, 1), (0, a)]) (S' := [(2, 1)]) r_55_0 rfl rfl rfl ?_
  refine gx_gf (x := 4) 2 r_55_1 (rfl) (ty_1 hT) ⟨by decide, rfl, by decide, by decide⟩ rfl (fun _ => by omega) (pin_at hp (t := 4) rfl (by decide)) ?_
  refine gx_ci (nx := 7) (S2 := []) (x_252 hT) r_55_4 rfl rfl rfl rfl rfl (rcv_v rfl (ty_4 hT) (by decide) rfl (by decide)) rfl (by decide) rfl (fun x4 n4 q4 => ?_)
  obtain rfl := q4.1.symm
  obtain rfl := q4.2.symm
  show GX T 1 55 7 [(2, 1), (0, a)] [(0, (if 0 < m 4 0 then 1 else 0))] m (RL (fun v m1 => (¬ (0 < m 4 0 ∧ 0 ≤ a ∧ a < 2) → v = -2) ∧ ∀ b e : Nat, 10 - m 4 4 = (b : Int) → m 28 10 = (e : Int) → (0 < m 4 0 ∧ 0 ≤ a ∧ a < 2) → v = ((lowB b a ^ e : Nat) : Int)))
  refine gx_i0 (P := ¬ (0 < m 4 0)) r_55_7 (b01_eq) (fun h7 => ?_) (fun h7 => ?_)
  · refine gx_st (L' := [(2, 1), (0, a)]) (S' := [(1, (-2))]) r_55_18 rfl rfl rfl ?_
    exact gx_rt r_55_21 rfl rfl ⟨_, rfl, fun _ => rfl, fun b e e1 e2 z => (by exfalso; omega)⟩
  · have h7 := Decidable.not_not.mp h7
    refine gx_st (L' := [(2, 1), (0, a)]) (S' := [(0, a)]) r_55_10 rfl rfl rfl ?_
    refine gx_st (L' := [(2, 1), (0, a)]) (S' := [(0, 2), (0, a)]) r_55_11 rfl rfl rfl ?_
    refine gx_ci (nx := 15) (S2 := []) (x_71 a 2) r_55_12 rfl rfl rfl rfl rfl rfl rfl (by decide) rfl (fun x12 n12 q12 => ?_)
    obtain rfl := q12.1.symm
    obtain rfl := q12.2.symm
    show GX T 1 55 15 [(2, 1), (0, a)] [(0, (if 0 ≤ a ∧ a < 2 then 1 else 0))] m (RL (fun v m1 => (¬ (0 < m 4 0 ∧ 0 ≤ a ∧ a < 2) → v = -2) ∧ ∀ b e : Nat, 10 - m 4 4 = (b : Int) → m 28 10 = (e : Int) → (0 < m 4 0 ∧ 0 ≤ a ∧ a < 2) → v = ((lowB b a ^ e : Nat) : Int)))
    refine gx_i0 (P := 0 ≤ a ∧ a < 2) r_55_15 (b01_ne) (fun h15 => ?_) (fun h15 => ?_)
    · obtain ⟨bo1, bo2⟩ := hod
      obtain ⟨be1, be2⟩ := hea (by omega)
      obtain ⟨e, he⟩ : ∃ e : Nat, m 28 10 = (e : Int) := ⟨(m 28 10).toNat, by omega⟩
      obtain ⟨b, hb⟩ : ∃ b : Nat, 10 - m 4 4 = (b : Int) := ⟨(10 - m 4 4).toNat, by omega⟩
      refine gx_st (L' := [(2, 1), (0, a)]) (S' := [(0, 10)]) r_55_22 rfl rfl rfl ?_
      refine gx_st (L' := [(2, 1), (0, a)]) (S' := [(2, 1), (0, 10)]) r_55_24 rfl rfl rfl ?_
      refine gx_gf (x := 4) 2 r_55_25 (rfl) (ty_1 hT) ⟨by decide, rfl, by decide, by decide⟩ rfl (fun _ => by omega) (pin_at hp (t := 4) rfl (by decide)) ?_
      refine gx_gf (x := (m 4 4)) 0 r_55_28 (rfl) (ty_4 hT) ⟨by decide, rfl, by decide, by decide⟩ rfl (fun z => absurd z (by decide)) (rfl) ?_
      refine gx_ar (L' := [(2, 1), (0, a)]) (S' := []) (t := 0) (e := w32 (10 - (m 4 4))) (z := (b : Int)) r_55_31 rfl rfl rfl (w32_eq (by omega) (by omega) (by omega)) ?_
      refine gx_st (L' := [(2, 1), (0, a)]) (S' := [(1, (b : Int))]) r_55_32 rfl rfl rfl ?_
      refine gx_st (L' := [(2, 1), (0, a)]) (S' := [(1, 10), (1, (b : Int))]) r_55_33 rfl rfl rfl ?_
      refine gx_st (L' := [(2, 1), (0, a)]) (S' := [(0, a), (1, 10), (1, (b : Int))]) r_55_36 rfl rfl rfl ?_
      refine gx_cl (nx := 40) (S2 := []) (l_293 b 10 a (by decide) (by decide)) r_55_37 rfl rfl rfl rfl rfl rfl rfl (by decide) rfl (fun x37 n37 q37 => ?_)
      obtain ⟨e_x37, z_x37⟩ := q37
      obtain rfl := z_x37.symm
      rw [e_x37, (lowB_ok b a (by omega)).1]
      have hq := (lowB_ok b a (by omega)).2
      obtain ⟨q, h_q⟩ : ∃ q : Nat, q = lowB b a := ⟨_, rfl⟩
      rw [← h_q] at hq ⊢
      show GX T 1 55 40 [(2, 1), (0, a)] [(1, (q : Int))] m (RL (fun v m1 => (¬ (0 < m 4 0 ∧ 0 ≤ a ∧ a < 2) → v = -2) ∧ ∀ b e : Nat, 10 - m 4 4 = (b : Int) → m 28 10 = (e : Int) → (0 < m 4 0 ∧ 0 ≤ a ∧ a < 2) → v = ((lowB b a ^ e : Nat) : Int)))
      refine gx_st (L' := [(2, 1), (0, a)]) (S' := [(2, 1), (1, (q : Int))]) r_55_40 rfl rfl rfl ?_
      refine gx_gf (x := 28) 2 r_55_41 (rfl) (ty_1 hT) ⟨by decide, rfl, by decide, by decide⟩ rfl (fun _ => by omega) (pin_at hp (t := 28) rfl (by decide)) ?_
      refine gx_gf (x := (e : Int)) 0 r_55_44 (rfl) (ty_28 hT) ⟨by decide, rfl, by decide, by decide⟩ rfl (fun z => absurd z (by decide)) (he) ?_
      refine gx_cl (nx := 50) (S2 := []) (x_294 (b := q) (e := e) (by omega) (by omega)) r_55_47 rfl rfl rfl rfl rfl rfl rfl (by decide) rfl (fun x47 n47 q47 => ?_)
      obtain ⟨e_x47, z_x47⟩ := q47
      obtain rfl := z_x47.symm
      rw [e_x47]
      show GX T 1 55 50 [(2, 1), (0, a)] [(1, ((q ^ e : Nat) : Int))] m (RL (fun v m1 => (¬ (0 < m 4 0 ∧ 0 ≤ a ∧ a < 2) → v = -2) ∧ ∀ b e : Nat, 10 - m 4 4 = (b : Int) → m 28 10 = (e : Int) → (0 < m 4 0 ∧ 0 ≤ a ∧ a < 2) → v = ((lowB b a ^ e : Nat) : Int)))
      exact gx_rt r_55_50 rfl rfl ⟨_, rfl, fun z => absurd z (by omega), fun b2 e2 z1 z2 z => by rw [h_q, show b2 = b by omega, show e2 = e by omega]⟩
    · refine gx_st (L' := [(2, 1), (0, a)]) (S' := [(1, (-2))]) r_55_18 rfl rfl rfl ?_
      exact gx_rt r_55_21 rfl rfl ⟨_, rfl, fun _ => rfl, fun b e e1 e2 z => (by exfalso; omega)⟩
theorem y_211 (hT : TT T) (h136 : ConH T cn_136) (hp : PinR m) (hm : Gam m) (hx : Ext m) (wb : WB (pw (m 193))) (wp : WP (pw (m 193))) (a : Int) : GX T 11 211 0 [(2, 192), (0, a), (9, 0)] [] m (RL (fun v m1 => AskR m m1 ∧ (¬ (0 < m 193 9 ∧ 0 ≤ a ∧ a < 2) → v = -2) ∧ ∀ b n : Nat, 10 - m 193 3 = (b : Int) → m 193 1 = (n : Int) → (0 < m 193 9 ∧ 0 ≤ a ∧ a < 2) → v = lowV (b ^ eatN (fun h => m1 201 h) n) (10 ^ eatN (fun h => m1 201 h) n) a)) := by
  refine gx_st (L' := [(2, 192), (0, a), (9, 0)]) (S' := [(2, 192)]) r_211_0 rfl rfl rfl ?_
  refine gx_ci (nx := 4) (S2 := []) (y_146 hT h136 hp hm hx wb wp) r_211_1 rfl rfl rfl rfl rfl (rcv_v rfl (ty_192 hT) (by decide) rfl (by decide)) rfl (by decide) rfl (fun x1 n1 q1 => ?_)
  obtain ⟨e_x1, ak, hp1, gm1, gx1, f1, fs1⟩ := q1
  have e193 : n1 193 = m 193 := funext (Fr_cell (o := 193) f1 (by decide) (by decide))
  rw [e_x1]
  show GX T 11 211 4 [(2, 192), (0, a), (9, 0)] [(0, (if 0 < m 193 9 then 1 else 0))] n1 (RL (fun v m1 => AskR m m1 ∧ (¬ (0 < m 193 9 ∧ 0 ≤ a ∧ a < 2) → v = -2) ∧ ∀ b n : Nat, 10 - m 193 3 = (b : Int) → m 193 1 = (n : Int) → (0 < m 193 9 ∧ 0 ≤ a ∧ a < 2) → v = lowV (b ^ eatN (fun h => m1 201 h) n) (10 ^ eatN (fun h => m1 201 h) n) a))
  show GX T 11 211 4 [(2, 192), (0, a), (9, 0)] [(0, (if 0 < m 193 9 then 1 else 0))] n1 (RL (fun v m1 => AskR m m1 ∧ (¬ (0 < m 193 9 ∧ 0 ≤ a ∧ a < 2) → v = -2) ∧ ∀ b n : Nat, 10 - m 193 3 = (b : Int) → m 193 1 = (n : Int) → (0 < m 193 9 ∧ 0 ≤ a ∧ a < 2) → v = lowV (b ^ eatN (fun h => m1 201 h) n) (10 ^ eatN (fun h => m1 201 h) n) a))
  refine gx_i0 (P := ¬ (0 < m 193 9)) r_211_4 (b01_eq) (fun h4 => ?_) (fun h4 => ?_)
  · refine gx_st (L' := [(2, 192), (0, a), (9, 0)]) (S' := [(1, (-2))]) r_211_17 rfl rfl rfl ?_
    exact gx_rt r_211_20 rfl rfl ⟨_, rfl, ak, fun _ => rfl, fun b n e1 e2 z => (by exfalso; omega)⟩
  · have h4 := Decidable.not_not.mp h4
    refine gx_st (L' := [(2, 192), (0, a), (9, 0)]) (S' := [(0, a)]) r_211_7 rfl rfl rfl ?_
    refine gx_st (L' := [(2, 192), (0, a), (9, 0)]) (S' := [(1, a)]) r_211_8 rfl rfl rfl ?_
    refine gx_st (L' := [(2, 192), (0, a), (9, 0)]) (S' := [(1, 0), (1, a)]) r_211_9 rfl rfl rfl ?_
    refine gx_st (L' := [(2, 192), (0, a), (9, 0)]) (S' := [(1, 1), (1, 0), (1, a)]) r_211_10 rfl rfl rfl ?_
    refine gx_ci (nx := 14) (S2 := []) (x_86 a 0 1) r_211_11 rfl rfl rfl rfl rfl rfl rfl (by decide) rfl (fun x11 n11 q11 => ?_)
    obtain rfl := q11.1.symm
    obtain rfl := q11.2.symm
    show GX T 11 211 14 [(2, 192), (0, a), (9, 0)] [(0, (if 0 ≤ a ∧ a ≤ 1 then 1 else 0))] n1 (RL (fun v m1 => AskR m m1 ∧ (¬ (0 < m 193 9 ∧ 0 ≤ a ∧ a < 2) → v = -2) ∧ ∀ b n : Nat, 10 - m 193 3 = (b : Int) → m 193 1 = (n : Int) → (0 < m 193 9 ∧ 0 ≤ a ∧ a < 2) → v = lowV (b ^ eatN (fun h => m1 201 h) n) (10 ^ eatN (fun h => m1 201 h) n) a))
    refine gx_i0 (P := 0 ≤ a ∧ a ≤ 1) r_211_14 (b01_ne) (fun h14 => ?_) (fun h14 => ?_)
    · have b1 := gb_193_1 hm
      have b3 := gb_193_3 hm
      obtain ⟨n, hn⟩ : ∃ n : Nat, m 193 1 = (n : Int) := ⟨(m 193 1).toNat, by omega⟩
      obtain ⟨b, hb⟩ : ∃ b : Nat, 10 - m 193 3 = (b : Int) := ⟨(10 - m 193 3).toNat, by omega⟩
      have hen := eatN_le (fun h => n1 201 h) n
      refine gx_st (L' := [(2, 192), (0, a), (9, 0)]) (S' := [(2, 192)]) r_211_21 rfl rfl rfl ?_
      refine gx_st (L' := [(2, 192), (0, a), (9, 0)]) (S' := [(2, 192), (2, 192)]) r_211_22 rfl rfl rfl ?_
      refine gx_gf (x := 193) 2 r_211_23 (rfl) (ty_192 hT) ⟨by decide, rfl, by decide, by decide⟩ rfl (fun _ => by omega) (pin_at hp1 (t := 193) rfl (by decide)) ?_
      refine gx_st (L' := [(2, 192), (0, a), (9, 0)]) (S' := [(0, 1), (2, 193), (2, 192)]) r_211_26 rfl rfl rfl ?_
      refine gx_ia (n := 1) (x := (n : Int)) r_211_27 (rfl) (ty_193 hT) (rfl) ⟨rfl, by decide⟩ (((congrFun e193 1).trans hn)) ?_
      refine gx_ci (nx := 31) (S2 := []) (y_158 hT hp1 (n := n) (by omega)) r_211_28 rfl rfl rfl rfl rfl (rcv_v rfl (ty_192 hT) (by decide) rfl (by decide)) rfl (by decide) rfl (fun x28 n28 q28 => ?_)
      obtain ⟨e_x28, z_x28⟩ := q28
      obtain rfl := z_x28.symm
      rw [e_x28]
      obtain ⟨e, h_e⟩ : ∃ e : Nat, e = eatN (fun h => n1 201 h) n := ⟨_, rfl⟩
      rw [← h_e] at hen ⊢
      show GX T 11 211 31 [(2, 192), (0, a), (9, 0)] [(0, (e : Int))] n1 (RL (fun v m1 => AskR m m1 ∧ (¬ (0 < m 193 9 ∧ 0 ≤ a ∧ a < 2) → v = -2) ∧ ∀ b n : Nat, 10 - m 193 3 = (b : Int) → m 193 1 = (n : Int) → (0 < m 193 9 ∧ 0 ≤ a ∧ a < 2) → v = lowV (b ^ eatN (fun h => m1 201 h) n) (10 ^ eatN (fun h => m1 201 h) n) a))
      refine gx_st (L' := [(2, 192), (0, a), (0, (e : Int))]) (S' := []) r_211_31 rfl rfl rfl ?_
      refine gx_st (L' := [(2, 192), (0, a), (0, (e : Int))]) (S' := [(0, 10)]) r_211_32 rfl rfl rfl ?_
      refine gx_st (L' := [(2, 192), (0, a), (0, (e : Int))]) (S' := [(2, 192), (0, 10)]) r_211_34 rfl rfl rfl ?_
      refine gx_gf (x := 193) 2 r_211_35 (rfl) (ty_192 hT) ⟨by decide, rfl, by decide, by decide⟩ rfl (fun _ => by omega) (pin_at hp1 (t := 193) rfl (by decide)) ?_
      refine gx_st (L' := [(2, 192), (0, a), (0, (e : Int))]) (S' := [(0, 3), (2, 193), (0, 10)]) r_211_38 rfl rfl rfl ?_
      refine gx_ia (n := 3) (x := (m 193 3)) r_211_39 (rfl) (ty_193 hT) (rfl) ⟨rfl, by decide⟩ ((congrFun e193 3)) ?_
      refine gx_ar (L' := [(2, 192), (0, a), (0, (e : Int))]) (S' := []) (t := 0) (e := w32 (10 - (m 193 3))) (z := (b : Int)) r_211_40 rfl rfl rfl (w32_eq (by omega) (by omega) (by omega)) ?_
      refine gx_st (L' := [(2, 192), (0, a), (0, (e : Int))]) (S' := [(1, (b : Int))]) r_211_41 rfl rfl rfl ?_
      refine gx_st (L' := [(2, 192), (0, a), (0, (e : Int))]) (S' := [(0, (e : Int)), (1, (b : Int))]) r_211_42 rfl rfl rfl ?_
      refine gx_cl (nx := 46) (S2 := []) (x_210 (b := b) (e := e) (by omega) (by omega)) r_211_43 rfl rfl rfl rfl rfl rfl rfl (by decide) rfl (fun x43 n43 q43 => ?_)
      obtain ⟨e_x43, z_x43⟩ := q43
      obtain rfl := z_x43.symm
      rw [e_x43]
      show GX T 11 211 46 [(2, 192), (0, a), (0, (e : Int))] [(1, ((b ^ e : Nat) : Int))] n1 (RL (fun v m1 => AskR m m1 ∧ (¬ (0 < m 193 9 ∧ 0 ≤ a ∧ a < 2) → v = -2) ∧ ∀ b n : Nat, 10 - m 193 3 = (b : Int) → m 193 1 = (n : Int) → (0 < m 193 9 ∧ 0 ≤ a ∧ a < 2) → v = lowV (b ^ eatN (fun h => m1 201 h) n) (10 ^ eatN (fun h => m1 201 h) n) a))
      refine gx_st (L' := [(2, 192), (0, a), (0, (e : Int))]) (S' := [(1, 10), (1, ((b ^ e : Nat) : Int))]) r_211_46 rfl rfl rfl ?_
      refine gx_st (L' := [(2, 192), (0, a), (0, (e : Int))]) (S' := [(0, (e : Int)), (1, 10), (1, ((b ^ e : Nat) : Int))]) r_211_49 rfl rfl rfl ?_
      refine gx_cl (nx := 53) (S2 := [(1, ((b ^ e : Nat) : Int))]) (x_210 (b := 10) (e := e) (by omega) (by omega)) r_211_50 rfl rfl rfl rfl rfl rfl rfl (by decide) rfl (fun x50 n50 q50 => ?_)
      obtain ⟨e_x50, z_x50⟩ := q50
      obtain rfl := z_x50.symm
      rw [e_x50]
      show GX T 11 211 53 [(2, 192), (0, a), (0, (e : Int))] [(1, ((10 ^ e : Nat) : Int)), (1, ((b ^ e : Nat) : Int))] n1 (RL (fun v m1 => AskR m m1 ∧ (¬ (0 < m 193 9 ∧ 0 ≤ a ∧ a < 2) → v = -2) ∧ ∀ b n : Nat, 10 - m 193 3 = (b : Int) → m 193 1 = (n : Int) → (0 < m 193 9 ∧ 0 ≤ a ∧ a < 2) → v = lowV (b ^ eatN (fun h => m1 201 h) n) (10 ^ eatN (fun h => m1 201 h) n) a))
      refine gx_st (L' := [(2, 192), (0, a), (0, (e : Int))]) (S' := [(0, a), (1, ((10 ^ e : Nat) : Int)), (1, ((b ^ e : Nat) : Int))]) r_211_53 rfl rfl rfl ?_
      refine gx_cl (nx := 57) (S2 := []) (l_164 (b ^ e) (10 ^ e) a (Nat.pow_pos (by decide))) r_211_54 rfl rfl rfl rfl rfl rfl rfl (by decide) rfl (fun x54 n54 q54 => ?_)
      obtain ⟨e_x54, z_x54⟩ := q54
      obtain rfl := z_x54.symm
      rw [e_x54]
      show GX T 11 211 57 [(2, 192), (0, a), (0, (e : Int))] [(1, (lowV (b ^ e) (10 ^ e) a))] n1 (RL (fun v m1 => AskR m m1 ∧ (¬ (0 < m 193 9 ∧ 0 ≤ a ∧ a < 2) → v = -2) ∧ ∀ b n : Nat, 10 - m 193 3 = (b : Int) → m 193 1 = (n : Int) → (0 < m 193 9 ∧ 0 ≤ a ∧ a < 2) → v = lowV (b ^ eatN (fun h => m1 201 h) n) (10 ^ eatN (fun h => m1 201 h) n) a))
      exact gx_rt r_211_57 rfl rfl ⟨_, rfl, ak, fun z => absurd z (by omega), fun b2 n2 z1 z2 z => by rw [show b2 = b by omega, show n2 = n by omega, ← h_e]⟩
    · refine gx_st (L' := [(2, 192), (0, a), (9, 0)]) (S' := [(1, (-2))]) r_211_17 rfl rfl rfl ?_
      exact gx_rt r_211_20 rfl rfl ⟨_, rfl, ak, fun _ => rfl, fun b n e1 e2 z => (by exfalso; omega)⟩
theorem su_l (hT : TT T) (hp : PinR m) {n b : Nat} {p : Int} (hn : m 4 2 = (n : Int)) (hn12 : n ≤ 12) (hb : 10 - m 4 4 = (b : Int)) (hb10 : b ≤ 10) (h44 : 0 ≤ m 4 4 ∧ m 4 4 ≤ 10) (hp1 : 0 ≤ p) (hp2 : p ≤ 100) : ∀ (N k : Nat), n - k < N → k ≤ n → GX T 3 56 29 [(2, 1), (0, p), (0, (((lastS p b (fun k => eatN (fun h => m 37 h) k) k : Nat) : Int))), (0, (((eatN (fun h => m 37 h) k : Nat) : Int))), (0, (k : Int) + 1)] [] m (RI (fun v m1 => v = ((lastS p b (fun k => eatN (fun h => m 37 h) k) n : Nat) : Int) ∧ m1 = m)) := by
  intro N
  induction N with
  | zero => intro k hN; exact absurd hN (Nat.not_lt_zero _)
  | succ N ih =>
    intro k hN hk
    refine gx_st (L' := [(2, 1), (0, p), (0, (((lastS p b (fun k => eatN (fun h => m 37 h) k) k : Nat) : Int))), (0, (((eatN (fun h => m 37 h) k : Nat) : Int))), (0, (k : Int) + 1)]) (S' := [(0, (k : Int) + 1)]) r_56_29 rfl rfl rfl ?_
    refine gx_st (L' := [(2, 1), (0, p), (0, (((lastS p b (fun k => eatN (fun h => m 37 h) k) k : Nat) : Int))), (0, (((eatN (fun h => m 37 h) k : Nat) : Int))), (0, (k : Int) + 1)]) (S' := [(2, 1), (0, (k : Int) + 1)]) r_56_31 rfl rfl rfl ?_
    refine gx_gf (x := 4) 2 r_56_32 (rfl) (ty_1 hT) ⟨by decide, rfl, by decide, by decide⟩ rfl (fun _ => by omega) (pin_at hp (t := 4) rfl (by decide)) ?_
    refine gx_gf (x := (n : Int)) 0 r_56_35 (rfl) (ty_4 hT) ⟨by decide, rfl, by decide, by decide⟩ rfl (fun z => absurd z (by decide)) (hn) ?_
    refine gx_ic (P := (n : Int) < (k : Int) + 1) r_56_38 (rfl) (fun h38 => ?_) (fun h38 => ?_)
    · refine gx_st (L' := [(2, 1), (0, p), (0, (((lastS p b (fun k => eatN (fun h => m 37 h) k) k : Nat) : Int))), (0, (((eatN (fun h => m 37 h) k : Nat) : Int))), (0, (k : Int) + 1)]) (S' := [(0, (((lastS p b (fun k => eatN (fun h => m 37 h) k) k : Nat) : Int)))]) r_56_104 rfl rfl rfl ?_
      have hkn : k = n := by omega
      subst hkn
      exact gx_rt r_56_105 rfl rfl ⟨_, rfl, rfl, rfl⟩
    · have hen := eatN_le (fun h => m 37 h) k
      refine gx_st (L' := [(2, 1), (0, p), (0, (((lastS p b (fun k => eatN (fun h => m 37 h) k) k : Nat) : Int))), (0, (((eatN (fun h => m 37 h) k : Nat) : Int))), (0, (k : Int) + 1)]) (S' := [(2, 1)]) r_56_41 rfl rfl rfl ?_
      refine gx_gf (x := 28) 2 r_56_42 (rfl) (ty_1 hT) ⟨by decide, rfl, by decide, by decide⟩ rfl (fun _ => by omega) (pin_at hp (t := 28) rfl (by decide)) ?_
      refine gx_gf (x := 37) 2 r_56_45 (rfl) (ty_28 hT) ⟨by decide, rfl, by decide, by decide⟩ rfl (fun _ => by omega) (pin_at hp (t := 37) rfl (by decide)) ?_
      refine gx_st (L' := [(2, 1), (0, p), (0, (((lastS p b (fun k => eatN (fun h => m 37 h) k) k : Nat) : Int))), (0, (((eatN (fun h => m 37 h) k : Nat) : Int))), (0, (k : Int) + 1)]) (S' := [(0, (k : Int) + 1), (2, 37)]) r_56_48 rfl rfl rfl ?_
      refine gx_st (L' := [(2, 1), (0, p), (0, (((lastS p b (fun k => eatN (fun h => m 37 h) k) k : Nat) : Int))), (0, (((eatN (fun h => m 37 h) k : Nat) : Int))), (0, (k : Int) + 1)]) (S' := [(0, 1), (0, (k : Int) + 1), (2, 37)]) r_56_50 rfl rfl rfl ?_
      refine gx_ar (L' := [(2, 1), (0, p), (0, (((lastS p b (fun k => eatN (fun h => m 37 h) k) k : Nat) : Int))), (0, (((eatN (fun h => m 37 h) k : Nat) : Int))), (0, (k : Int) + 1)]) (S' := [(2, 37)]) (t := 0) (e := w32 (((k : Int) + 1) - 1)) (z := (k : Int)) r_56_51 rfl rfl rfl (w32_eq (by omega) (by omega) (by omega)) ?_
      refine gx_ci (nx := 55) (S2 := []) (c_237 (r := 37) (n := 12) (ty_37 hT) (by decide) (by decide) (k := k) (by omega)) r_56_52 rfl rfl rfl rfl rfl rfl rfl (by decide) rfl (fun x52 n52 q52 => ?_)
      obtain rfl := q52.1.symm
      obtain rfl := q52.2.symm
      show GX T 3 56 55 [(2, 1), (0, p), (0, (((lastS p b (fun k => eatN (fun h => m 37 h) k) k : Nat) : Int))), (0, (((eatN (fun h => m 37 h) k : Nat) : Int))), (0, (k : Int) + 1)] [(0, (m 37 k))] m (RI (fun v m1 => v = ((lastS p b (fun k => eatN (fun h => m 37 h) k) n : Nat) : Int) ∧ m1 = m))
      refine gx_st (L' := [(2, 1), (0, p), (0, (((lastS p b (fun k => eatN (fun h => m 37 h) k) k : Nat) : Int))), (0, (((eatN (fun h => m 37 h) k : Nat) : Int))), (0, (k : Int) + 1)]) (S' := [(0, 2), (0, (m 37 k))]) r_56_55 rfl rfl rfl ?_
      refine gx_ic (P := ¬ (m 37 k) = 2) r_56_56 (rfl) (fun h56 => ?_) (fun h56 => ?_)
      · obtain ⟨e, h_e⟩ : ∃ e : Nat, e = eatN (fun h => m 37 h) k := ⟨_, rfl⟩
        have h_e2 : eatN (fun h => m 37 h) (k + 1) = e := by
          rw [h_e]
          exact if_neg (by omega)
        have he12 := eatN_le (fun h => m 37 h) (k + 1)
        rw [h_e2] at he12
        rw [show (((eatN (fun h => m 37 h) k : Nat) : Int)) = (e : Int) by omega]
        refine gx_st (L' := [(2, 1), (0, p), (0, (((lastS p b (fun k => eatN (fun h => m 37 h) k) k : Nat) : Int))), (0, (e : Int)), (0, (k : Int) + 1)]) (S' := [(1, 100)]) r_56_62 rfl rfl rfl ?_
        refine gx_st (L' := [(2, 1), (0, p), (0, (((lastS p b (fun k => eatN (fun h => m 37 h) k) k : Nat) : Int))), (0, (e : Int)), (0, (k : Int) + 1)]) (S' := [(0, 10), (1, 100)]) r_56_65 rfl rfl rfl ?_
        refine gx_st (L' := [(2, 1), (0, p), (0, (((lastS p b (fun k => eatN (fun h => m 37 h) k) k : Nat) : Int))), (0, (e : Int)), (0, (k : Int) + 1)]) (S' := [(2, 1), (0, 10), (1, 100)]) r_56_67 rfl rfl rfl ?_
        refine gx_gf (x := 4) 2 r_56_68 (rfl) (ty_1 hT) ⟨by decide, rfl, by decide, by decide⟩ rfl (fun _ => by omega) (pin_at hp (t := 4) rfl (by decide)) ?_
        refine gx_gf (x := (m 4 4)) 0 r_56_71 (rfl) (ty_4 hT) ⟨by decide, rfl, by decide, by decide⟩ rfl (fun z => absurd z (by decide)) (rfl) ?_
        refine gx_ar (L' := [(2, 1), (0, p), (0, (((lastS p b (fun k => eatN (fun h => m 37 h) k) k : Nat) : Int))), (0, (e : Int)), (0, (k : Int) + 1)]) (S' := [(1, 100)]) (t := 0) (e := w32 (10 - (m 4 4))) (z := (b : Int)) r_56_74 rfl rfl rfl (w32_eq (by omega) (by omega) (by omega)) ?_
        refine gx_st (L' := [(2, 1), (0, p), (0, (((lastS p b (fun k => eatN (fun h => m 37 h) k) k : Nat) : Int))), (0, (e : Int)), (0, (k : Int) + 1)]) (S' := [(1, (b : Int)), (1, 100)]) r_56_75 rfl rfl rfl ?_
        refine gx_st (L' := [(2, 1), (0, p), (0, (((lastS p b (fun k => eatN (fun h => m 37 h) k) k : Nat) : Int))), (0, (e : Int)), (0, (k : Int) + 1)]) (S' := [(0, (e : Int)), (1, (b : Int)), (1, 100)]) r_56_76 rfl rfl rfl ?_
        refine gx_cl (nx := 80) (S2 := [(1, 100)]) (x_294 (b := b) (e := e) (by omega) (by omega)) r_56_77 rfl rfl rfl rfl rfl rfl rfl (by decide) rfl (fun x77 n77 q77 => ?_)
        obtain ⟨e_x77, z_x77⟩ := q77
        obtain rfl := z_x77.symm
        rw [e_x77]
        have w_X := pw_le (b := b) (k := e) (by omega) (by omega)
        show GX T 3 56 80 [(2, 1), (0, p), (0, (((lastS p b (fun k => eatN (fun h => m 37 h) k) k : Nat) : Int))), (0, (e : Int)), (0, (k : Int) + 1)] [(1, ((b ^ e : Nat) : Int)), (1, 100)] m (RI (fun v m1 => v = ((lastS p b (fun k => eatN (fun h => m 37 h) k) n : Nat) : Int) ∧ m1 = m))
        refine gx_ar (L' := [(2, 1), (0, p), (0, (((lastS p b (fun k => eatN (fun h => m 37 h) k) k : Nat) : Int))), (0, (e : Int)), (0, (k : Int) + 1)]) (S' := []) (t := 1) (e := w64 (100 * (((b ^ e : Nat) : Int)))) (z := 100 * ((b ^ e : Nat) : Int)) r_56_80 rfl rfl rfl (w64_eq (by omega) (by omega) (by omega)) ?_
        refine gx_st (L' := [(2, 1), (0, p), (0, (((lastS p b (fun k => eatN (fun h => m 37 h) k) k : Nat) : Int))), (0, (e : Int)), (0, (k : Int) + 1)]) (S' := [(0, p), (1, 100 * ((b ^ e : Nat) : Int))]) r_56_81 rfl rfl rfl ?_
        refine gx_st (L' := [(2, 1), (0, p), (0, (((lastS p b (fun k => eatN (fun h => m 37 h) k) k : Nat) : Int))), (0, (e : Int)), (0, (k : Int) + 1)]) (S' := [(1, p), (1, 100 * ((b ^ e : Nat) : Int))]) r_56_82 rfl rfl rfl ?_
        refine gx_st (L' := [(2, 1), (0, p), (0, (((lastS p b (fun k => eatN (fun h => m 37 h) k) k : Nat) : Int))), (0, (e : Int)), (0, (k : Int) + 1)]) (S' := [(1, 10), (1, p), (1, 100 * ((b ^ e : Nat) : Int))]) r_56_83 rfl rfl rfl ?_
        refine gx_st (L' := [(2, 1), (0, p), (0, (((lastS p b (fun k => eatN (fun h => m 37 h) k) k : Nat) : Int))), (0, (e : Int)), (0, (k : Int) + 1)]) (S' := [(0, (e : Int)), (1, 10), (1, p), (1, 100 * ((b ^ e : Nat) : Int))]) r_56_86 rfl rfl rfl ?_
        refine gx_cl (nx := 90) (S2 := [(1, p), (1, 100 * ((b ^ e : Nat) : Int))]) (x_294 (b := 10) (e := e) (by omega) (by omega)) r_56_87 rfl rfl rfl rfl rfl rfl rfl (by decide) rfl (fun x87 n87 q87 => ?_)
        obtain ⟨e_x87, z_x87⟩ := q87
        obtain rfl := z_x87.symm
        rw [e_x87]
        have w_Y := pw_le (b := 10) (k := e) (by omega) (by omega)
        obtain ⟨Y, h_Y⟩ : ∃ Y : Nat, Y = 10 ^ e := ⟨_, rfl⟩
        rw [← h_Y] at w_Y ⊢
        show GX T 3 56 90 [(2, 1), (0, p), (0, (((lastS p b (fun k => eatN (fun h => m 37 h) k) k : Nat) : Int))), (0, (e : Int)), (0, (k : Int) + 1)] [(1, (Y : Int)), (1, p), (1, 100 * ((b ^ e : Nat) : Int))] m (RI (fun v m1 => v = ((lastS p b (fun k => eatN (fun h => m 37 h) k) n : Nat) : Int) ∧ m1 = m))
        have m1_ : 0 ≤ p * (Y : Int) := Int.mul_nonneg (by omega) (by omega)
        have m2_ : p * (Y : Int) ≤ 100 * (Y : Int) := Int.mul_le_mul_of_nonneg_right (by omega) (by omega)
        refine gx_ar (L' := [(2, 1), (0, p), (0, (((lastS p b (fun k => eatN (fun h => m 37 h) k) k : Nat) : Int))), (0, (e : Int)), (0, (k : Int) + 1)]) (S' := [(1, 100 * ((b ^ e : Nat) : Int))]) (t := 1) (e := w64 (p * (Y : Int))) (z := (p * (Y : Int))) r_56_90 rfl rfl rfl (w64_eq rfl (by omega) (by omega)) ?_
        refine gx_st (L' := [(2, 1), (0, p), (0, (((lastS p b (fun k => eatN (fun h => m 37 h) k) k : Nat) : Int))), (0, (e : Int)), (0, (k : Int) + 1)]) (S' := [(0, (if (100 * ((b ^ e : Nat) : Int)) < ((p * (Y : Int))) then -1 else if (100 * ((b ^ e : Nat) : Int)) = ((p * (Y : Int))) then 0 else 1))]) r_56_91 rfl rfl rfl ?_
        refine gx_i0 (P := (100 * ((b ^ e : Nat) : Int)) < ((p * (Y : Int)))) r_56_92 (lc_lt) (fun h92 => ?_) (fun h92 => ?_)
        · refine gx_li (z := (k : Int) + 2) (L' := [(2, 1), (0, p), (0, (((lastS p b (fun k => eatN (fun h => m 37 h) k) k : Nat) : Int))), (0, (e : Int)), (0, (k : Int) + 2)]) r_56_98 rfl (w32_eq (by omega) (by omega) (by omega)) rfl ?_
          refine gx_st (L' := [(2, 1), (0, p), (0, (((lastS p b (fun k => eatN (fun h => m 37 h) k) k : Nat) : Int))), (0, (e : Int)), (0, (k : Int) + 2)]) (S' := []) r_56_101 rfl rfl rfl ?_
          have z := ih (k + 1) (by omega) (by omega)
          rw [lastS_n (show ¬ p * ((10 ^ eatN (fun h => m 37 h) (k + 1) : Nat) : Int) ≤ 100 * ((b ^ eatN (fun h => m 37 h) (k + 1) : Nat) : Int) by rw [h_e2, ← h_Y]; omega)] at z
          rw [h_e2] at z
          exact z
        · refine gx_st (L' := [(2, 1), (0, p), (0, (((lastS p b (fun k => eatN (fun h => m 37 h) k) k : Nat) : Int))), (0, (e : Int)), (0, (k : Int) + 1)]) (S' := [(0, (k : Int) + 1)]) r_56_95 rfl rfl rfl ?_
          refine gx_st (L' := [(2, 1), (0, p), (0, (k : Int) + 1), (0, (e : Int)), (0, (k : Int) + 1)]) (S' := []) r_56_97 rfl rfl rfl ?_
          refine gx_li (z := (k : Int) + 2) (L' := [(2, 1), (0, p), (0, (k : Int) + 1), (0, (e : Int)), (0, (k : Int) + 2)]) r_56_98 rfl (w32_eq (by omega) (by omega) (by omega)) rfl ?_
          refine gx_st (L' := [(2, 1), (0, p), (0, (k : Int) + 1), (0, (e : Int)), (0, (k : Int) + 2)]) (S' := []) r_56_101 rfl rfl rfl ?_
          have z := ih (k + 1) (by omega) (by omega)
          rw [lastS_y (show p * ((10 ^ eatN (fun h => m 37 h) (k + 1) : Nat) : Int) ≤ 100 * ((b ^ eatN (fun h => m 37 h) (k + 1) : Nat) : Int) by rw [h_e2, ← h_Y]; omega)] at z
          rw [h_e2] at z
          exact z
      · have h56 := Decidable.not_not.mp h56
        refine gx_li (z := (((eatN (fun h => m 37 h) k : Nat) : Int)) + 1) (L' := [(2, 1), (0, p), (0, (((lastS p b (fun k => eatN (fun h => m 37 h) k) k : Nat) : Int))), (0, (((eatN (fun h => m 37 h) k : Nat) : Int)) + 1), (0, (k : Int) + 1)]) r_56_59 rfl (w32_eq (by omega) (by omega) (by omega)) rfl ?_
        obtain ⟨e, h_e⟩ : ∃ e : Nat, e = eatN (fun h => m 37 h) k + 1 := ⟨_, rfl⟩
        have h_e2 : eatN (fun h => m 37 h) (k + 1) = e := by
          rw [h_e]
          exact if_pos (by omega)
        have he12 := eatN_le (fun h => m 37 h) (k + 1)
        rw [h_e2] at he12
        rw [show (((eatN (fun h => m 37 h) k : Nat) : Int)) + 1 = (e : Int) by omega]
        refine gx_st (L' := [(2, 1), (0, p), (0, (((lastS p b (fun k => eatN (fun h => m 37 h) k) k : Nat) : Int))), (0, (e : Int)), (0, (k : Int) + 1)]) (S' := [(1, 100)]) r_56_62 rfl rfl rfl ?_
        refine gx_st (L' := [(2, 1), (0, p), (0, (((lastS p b (fun k => eatN (fun h => m 37 h) k) k : Nat) : Int))), (0, (e : Int)), (0, (k : Int) + 1)]) (S' := [(0, 10), (1, 100)]) r_56_65 rfl rfl rfl ?_
        refine gx_st (L' := [(2, 1), (0, p), (0, (((lastS p b (fun k => eatN (fun h => m 37 h) k) k : Nat) : Int))), (0, (e : Int)), (0, (k : Int) + 1)]) (S' := [(2, 1), (0, 10), (1, 100)]) r_56_67 rfl rfl rfl ?_
        refine gx_gf (x := 4) 2 r_56_68 (rfl) (ty_1 hT) ⟨by decide, rfl, by decide, by decide⟩ rfl (fun _ => by omega) (pin_at hp (t := 4) rfl (by decide)) ?_
        refine gx_gf (x := (m 4 4)) 0 r_56_71 (rfl) (ty_4 hT) ⟨by decide, rfl, by decide, by decide⟩ rfl (fun z => absurd z (by decide)) (rfl) ?_
        refine gx_ar (L' := [(2, 1), (0, p), (0, (((lastS p b (fun k => eatN (fun h => m 37 h) k) k : Nat) : Int))), (0, (e : Int)), (0, (k : Int) + 1)]) (S' := [(1, 100)]) (t := 0) (e := w32 (10 - (m 4 4))) (z := (b : Int)) r_56_74 rfl rfl rfl (w32_eq (by omega) (by omega) (by omega)) ?_
        refine gx_st (L' := [(2, 1), (0, p), (0, (((lastS p b (fun k => eatN (fun h => m 37 h) k) k : Nat) : Int))), (0, (e : Int)), (0, (k : Int) + 1)]) (S' := [(1, (b : Int)), (1, 100)]) r_56_75 rfl rfl rfl ?_
        refine gx_st (L' := [(2, 1), (0, p), (0, (((lastS p b (fun k => eatN (fun h => m 37 h) k) k : Nat) : Int))), (0, (e : Int)), (0, (k : Int) + 1)]) (S' := [(0, (e : Int)), (1, (b : Int)), (1, 100)]) r_56_76 rfl rfl rfl ?_
        refine gx_cl (nx := 80) (S2 := [(1, 100)]) (x_294 (b := b) (e := e) (by omega) (by omega)) r_56_77 rfl rfl rfl rfl rfl rfl rfl (by decide) rfl (fun x77 n77 q77 => ?_)
        obtain ⟨e_x77, z_x77⟩ := q77
        obtain rfl := z_x77.symm
        rw [e_x77]
        have w_X := pw_le (b := b) (k := e) (by omega) (by omega)
        show GX T 3 56 80 [(2, 1), (0, p), (0, (((lastS p b (fun k => eatN (fun h => m 37 h) k) k : Nat) : Int))), (0, (e : Int)), (0, (k : Int) + 1)] [(1, ((b ^ e : Nat) : Int)), (1, 100)] m (RI (fun v m1 => v = ((lastS p b (fun k => eatN (fun h => m 37 h) k) n : Nat) : Int) ∧ m1 = m))
        refine gx_ar (L' := [(2, 1), (0, p), (0, (((lastS p b (fun k => eatN (fun h => m 37 h) k) k : Nat) : Int))), (0, (e : Int)), (0, (k : Int) + 1)]) (S' := []) (t := 1) (e := w64 (100 * (((b ^ e : Nat) : Int)))) (z := 100 * ((b ^ e : Nat) : Int)) r_56_80 rfl rfl rfl (w64_eq (by omega) (by omega) (by omega)) ?_
        refine gx_st (L' := [(2, 1), (0, p), (0, (((lastS p b (fun k => eatN (fun h => m 37 h) k) k : Nat) : Int))), (0, (e : Int)), (0, (k : Int) + 1)]) (S' := [(0, p), (1, 100 * ((b ^ e : Nat) : Int))]) r_56_81 rfl rfl rfl ?_
        refine gx_st (L' := [(2, 1), (0, p), (0, (((lastS p b (fun k => eatN (fun h => m 37 h) k) k : Nat) : Int))), (0, (e : Int)), (0, (k : Int) + 1)]) (S' := [(1, p), (1, 100 * ((b ^ e : Nat) : Int))]) r_56_82 rfl rfl rfl ?_
        refine gx_st (L' := [(2, 1), (0, p), (0, (((lastS p b (fun k => eatN (fun h => m 37 h) k) k : Nat) : Int))), (0, (e : Int)), (0, (k : Int) + 1)]) (S' := [(1, 10), (1, p), (1, 100 * ((b ^ e : Nat) : Int))]) r_56_83 rfl rfl rfl ?_
        refine gx_st (L' := [(2, 1), (0, p), (0, (((lastS p b (fun k => eatN (fun h => m 37 h) k) k : Nat) : Int))), (0, (e : Int)), (0, (k : Int) + 1)]) (S' := [(0, (e : Int)), (1, 10), (1, p), (1, 100 * ((b ^ e : Nat) : Int))]) r_56_86 rfl rfl rfl ?_
        refine gx_cl (nx := 90) (S2 := [(1, p), (1, 100 * ((b ^ e : Nat) : Int))]) (x_294 (b := 10) (e := e) (by omega) (by omega)) r_56_87 rfl rfl rfl rfl rfl rfl rfl (by decide) rfl (fun x87 n87 q87 => ?_)
        obtain ⟨e_x87, z_x87⟩ := q87
        obtain rfl := z_x87.symm
        rw [e_x87]
        have w_Y := pw_le (b := 10) (k := e) (by omega) (by omega)
        obtain ⟨Y, h_Y⟩ : ∃ Y : Nat, Y = 10 ^ e := ⟨_, rfl⟩
        rw [← h_Y] at w_Y ⊢
        show GX T 3 56 90 [(2, 1), (0, p), (0, (((lastS p b (fun k => eatN (fun h => m 37 h) k) k : Nat) : Int))), (0, (e : Int)), (0, (k : Int) + 1)] [(1, (Y : Int)), (1, p), (1, 100 * ((b ^ e : Nat) : Int))] m (RI (fun v m1 => v = ((lastS p b (fun k => eatN (fun h => m 37 h) k) n : Nat) : Int) ∧ m1 = m))
        have m1_ : 0 ≤ p * (Y : Int) := Int.mul_nonneg (by omega) (by omega)
        have m2_ : p * (Y : Int) ≤ 100 * (Y : Int) := Int.mul_le_mul_of_nonneg_right (by omega) (by omega)
        refine gx_ar (L' := [(2, 1), (0, p), (0, (((lastS p b (fun k => eatN (fun h => m 37 h) k) k : Nat) : Int))), (0, (e : Int)), (0, (k : Int) + 1)]) (S' := [(1, 100 * ((b ^ e : Nat) : Int))]) (t := 1) (e := w64 (p * (Y : Int))) (z := (p * (Y : Int))) r_56_90 rfl rfl rfl (w64_eq rfl (by omega) (by omega)) ?_
        refine gx_st (L' := [(2, 1), (0, p), (0, (((lastS p b (fun k => eatN (fun h => m 37 h) k) k : Nat) : Int))), (0, (e : Int)), (0, (k : Int) + 1)]) (S' := [(0, (if (100 * ((b ^ e : Nat) : Int)) < ((p * (Y : Int))) then -1 else if (100 * ((b ^ e : Nat) : Int)) = ((p * (Y : Int))) then 0 else 1))]) r_56_91 rfl rfl rfl ?_
        refine gx_i0 (P := (100 * ((b ^ e : Nat) : Int)) < ((p * (Y : Int)))) r_56_92 (lc_lt) (fun h92 => ?_) (fun h92 => ?_)
        · refine gx_li (z := (k : Int) + 2) (L' := [(2, 1), (0, p), (0, (((lastS p b (fun k => eatN (fun h => m 37 h) k) k : Nat) : Int))), (0, (e : Int)), (0, (k : Int) + 2)]) r_56_98 rfl (w32_eq (by omega) (by omega) (by omega)) rfl ?_
          refine gx_st (L' := [(2, 1), (0, p), (0, (((lastS p b (fun k => eatN (fun h => m 37 h) k) k : Nat) : Int))), (0, (e : Int)), (0, (k : Int) + 2)]) (S' := []) r_56_101 rfl rfl rfl ?_
          have z := ih (k + 1) (by omega) (by omega)
          rw [lastS_n (show ¬ p * ((10 ^ eatN (fun h => m 37 h) (k + 1) : Nat) : Int) ≤ 100 * ((b ^ eatN (fun h => m 37 h) (k + 1) : Nat) : Int) by rw [h_e2, ← h_Y]; omega)] at z
          rw [h_e2] at z
          exact z
        · refine gx_st (L' := [(2, 1), (0, p), (0, (((lastS p b (fun k => eatN (fun h => m 37 h) k) k : Nat) : Int))), (0, (e : Int)), (0, (k : Int) + 1)]) (S' := [(0, (k : Int) + 1)]) r_56_95 rfl rfl rfl ?_
          refine gx_st (L' := [(2, 1), (0, p), (0, (k : Int) + 1), (0, (e : Int)), (0, (k : Int) + 1)]) (S' := []) r_56_97 rfl rfl rfl ?_
          refine gx_li (z := (k : Int) + 2) (L' := [(2, 1), (0, p), (0, (k : Int) + 1), (0, (e : Int)), (0, (k : Int) + 2)]) r_56_98 rfl (w32_eq (by omega) (by omega) (by omega)) rfl ?_
          refine gx_st (L' := [(2, 1), (0, p), (0, (k : Int) + 1), (0, (e : Int)), (0, (k : Int) + 2)]) (S' := []) r_56_101 rfl rfl rfl ?_
          have z := ih (k + 1) (by omega) (by omega)
          rw [lastS_y (show p * ((10 ^ eatN (fun h => m 37 h) (k + 1) : Nat) : Int) ≤ 100 * ((b ^ eatN (fun h => m 37 h) (k + 1) : Nat) : Int) by rw [h_e2, ← h_Y]; omega)] at z
          rw [h_e2] at z
          exact z
theorem z_56 (hT : TT T) (hp : PinR m) (p : Int) (h12 : 0 ≤ m 4 2 ∧ m 4 2 ≤ 12) (h44 : 0 ≤ m 4 4 ∧ m 4 4 ≤ 10) : GX T 4 56 0 [(2, 1), (0, p), (9, 0), (9, 0), (9, 0)] [] m (RI (fun v m1 => (¬ (0 < m 4 0 ∧ 0 ≤ p ∧ p < 101) → v = -2) ∧ ∀ b n : Nat, 10 - m 4 4 = (b : Int) → m 4 2 = (n : Int) → (0 < m 4 0 ∧ 0 ≤ p ∧ p < 101) → v = ((lastS p b (fun k => eatN (fun h => m 37 h) k) n : Nat) : Int))) := by
  refine gx_st (L' := [(2, 1), (0, p), (9, 0), (9, 0), (9, 0)]) (S' := [(2, 1)]) r_56_0 rfl rfl rfl ?_
  refine gx_gf (x := 4) 2 r_56_1 (rfl) (ty_1 hT) ⟨by decide, rfl, by decide, by decide⟩ rfl (fun _ => by omega) (pin_at hp (t := 4) rfl (by decide)) ?_
  refine gx_ci (nx := 7) (S2 := []) (x_252 hT) r_56_4 rfl rfl rfl rfl rfl (rcv_v rfl (ty_4 hT) (by decide) rfl (by decide)) rfl (by decide) rfl (fun x4 n4 q4 => ?_)
  obtain rfl := q4.1.symm
  obtain rfl := q4.2.symm
  show GX T 4 56 7 [(2, 1), (0, p), (9, 0), (9, 0), (9, 0)] [(0, (if 0 < m 4 0 then 1 else 0))] m (RI (fun v m1 => (¬ (0 < m 4 0 ∧ 0 ≤ p ∧ p < 101) → v = -2) ∧ ∀ b n : Nat, 10 - m 4 4 = (b : Int) → m 4 2 = (n : Int) → (0 < m 4 0 ∧ 0 ≤ p ∧ p < 101) → v = ((lastS p b (fun k => eatN (fun h => m 37 h) k) n : Nat) : Int)))
  refine gx_i0 (P := ¬ (0 < m 4 0)) r_56_7 (b01_eq) (fun h7 => ?_) (fun h7 => ?_)
  · refine gx_st (L' := [(2, 1), (0, p), (9, 0), (9, 0), (9, 0)]) (S' := [(0, (-2))]) r_56_19 rfl rfl rfl ?_
    exact gx_rt r_56_21 rfl rfl ⟨_, rfl, fun _ => rfl, fun b n e1 e2 z => (by exfalso; omega)⟩
  · have h7 := Decidable.not_not.mp h7
    refine gx_st (L' := [(2, 1), (0, p), (9, 0), (9, 0), (9, 0)]) (S' := [(0, p)]) r_56_10 rfl rfl rfl ?_
    refine gx_st (L' := [(2, 1), (0, p), (9, 0), (9, 0), (9, 0)]) (S' := [(0, 101), (0, p)]) r_56_11 rfl rfl rfl ?_
    refine gx_ci (nx := 16) (S2 := []) (x_71 p 101) r_56_13 rfl rfl rfl rfl rfl rfl rfl (by decide) rfl (fun x13 n13 q13 => ?_)
    obtain rfl := q13.1.symm
    obtain rfl := q13.2.symm
    show GX T 4 56 16 [(2, 1), (0, p), (9, 0), (9, 0), (9, 0)] [(0, (if 0 ≤ p ∧ p < 101 then 1 else 0))] m (RI (fun v m1 => (¬ (0 < m 4 0 ∧ 0 ≤ p ∧ p < 101) → v = -2) ∧ ∀ b n : Nat, 10 - m 4 4 = (b : Int) → m 4 2 = (n : Int) → (0 < m 4 0 ∧ 0 ≤ p ∧ p < 101) → v = ((lastS p b (fun k => eatN (fun h => m 37 h) k) n : Nat) : Int)))
    refine gx_i0 (P := 0 ≤ p ∧ p < 101) r_56_16 (b01_ne) (fun h16 => ?_) (fun h16 => ?_)
    · refine gx_st (L' := [(2, 1), (0, p), (9, 0), (9, 0), (9, 0)]) (S' := [(0, 0)]) r_56_22 rfl rfl rfl ?_
      refine gx_st (L' := [(2, 1), (0, p), (0, 0), (9, 0), (9, 0)]) (S' := []) r_56_23 rfl rfl rfl ?_
      refine gx_st (L' := [(2, 1), (0, p), (0, 0), (9, 0), (9, 0)]) (S' := [(0, 0)]) r_56_24 rfl rfl rfl ?_
      refine gx_st (L' := [(2, 1), (0, p), (0, 0), (0, 0), (9, 0)]) (S' := []) r_56_25 rfl rfl rfl ?_
      refine gx_st (L' := [(2, 1), (0, p), (0, 0), (0, 0), (9, 0)]) (S' := [(0, 1)]) r_56_26 rfl rfl rfl ?_
      refine gx_st (L' := [(2, 1), (0, p), (0, 0), (0, 0), (0, 1)]) (S' := []) r_56_27 rfl rfl rfl ?_
      exact gx_imp (gx_d (su_l hT hp (n := (m 4 2).toNat) (b := (10 - m 4 4).toNat) (p := p) (by omega) (by omega) (by omega) (by omega) h44 (by omega) (by omega) ((m 4 2).toNat + 1) 0 (by omega) (by omega)) (by decide)) (fun v m1 ⟨x, e, q, _⟩ => ⟨x, e, fun z => absurd z (by omega), fun b n e1 e2 z => by rw [q, show b = (10 - m 4 4).toNat by omega, show n = (m 4 2).toNat by omega]⟩)
    · refine gx_st (L' := [(2, 1), (0, p), (9, 0), (9, 0), (9, 0)]) (S' := [(0, (-2))]) r_56_19 rfl rfl rfl ?_
      exact gx_rt r_56_21 rfl rfl ⟨_, rfl, fun _ => rfl, fun b n e1 e2 z => (by exfalso; omega)⟩
theorem sr2_l (hT : TT T) (hp : PinR m) {b : Nat} {p : Int} (hb : 10 - m 193 3 = (b : Int)) (hb10 : b ≤ 10) (h3 : 0 ≤ m 193 3 ∧ m 193 3 ≤ 10) (hp1 : 0 ≤ p) (hp2 : p ≤ 100) : ∀ k : Nat, k ≤ 12 → GX T 1 212 29 [(2, 192), (0, p), (0, (k : Int))] [] m (RI (fun v m1 => v = ((lastS p b (fun k => eatN (fun h => m 201 h) k) k : Nat) : Int) ∧ m1 = m)) := by
  intro k
  induction k with
  | zero =>
    intro hk
    have hen := eatN_le (fun h => m 201 h) 0
    obtain ⟨e, h_e⟩ : ∃ e : Nat, e = eatN (fun h => m 201 h) 0 := ⟨_, rfl⟩
    rw [← h_e] at hen
    show GX T 1 212 29 [(2, 192), (0, p), (0, 0)] [] m (RI (fun v m1 => v = ((lastS p b (fun k => eatN (fun h => m 201 h) k) 0 : Nat) : Int) ∧ m1 = m))
    refine gx_st (L' := [(2, 192), (0, p), (0, 0)]) (S' := [(1, 100)]) r_212_29 rfl rfl rfl ?_
    refine gx_st (L' := [(2, 192), (0, p), (0, 0)]) (S' := [(0, 10), (1, 100)]) r_212_32 rfl rfl rfl ?_
    refine gx_st (L' := [(2, 192), (0, p), (0, 0)]) (S' := [(2, 192), (0, 10), (1, 100)]) r_212_34 rfl rfl rfl ?_
    refine gx_gf (x := 193) 2 r_212_35 (rfl) (ty_192 hT) ⟨by decide, rfl, by decide, by decide⟩ rfl (fun _ => by omega) (pin_at hp (t := 193) rfl (by decide)) ?_
    refine gx_st (L' := [(2, 192), (0, p), (0, 0)]) (S' := [(0, 3), (2, 193), (0, 10), (1, 100)]) r_212_38 rfl rfl rfl ?_
    refine gx_ia (n := 3) (x := (m 193 3)) r_212_39 (rfl) (ty_193 hT) (rfl) ⟨rfl, by decide⟩ (rfl) ?_
    refine gx_ar (L' := [(2, 192), (0, p), (0, 0)]) (S' := [(1, 100)]) (t := 0) (e := w32 (10 - (m 193 3))) (z := (b : Int)) r_212_40 rfl rfl rfl (w32_eq (by omega) (by omega) (by omega)) ?_
    refine gx_st (L' := [(2, 192), (0, p), (0, 0)]) (S' := [(1, (b : Int)), (1, 100)]) r_212_41 rfl rfl rfl ?_
    refine gx_st (L' := [(2, 192), (0, p), (0, 0)]) (S' := [(2, 192), (1, (b : Int)), (1, 100)]) r_212_42 rfl rfl rfl ?_
    refine gx_st (L' := [(2, 192), (0, p), (0, 0)]) (S' := [(0, 0), (2, 192), (1, (b : Int)), (1, 100)]) r_212_43 rfl rfl rfl ?_
    refine gx_ci (nx := 47) (S2 := [(1, (b : Int)), (1, 100)]) (y_158 hT hp (n := 0) (by omega)) r_212_44 rfl rfl rfl rfl rfl (rcv_v rfl (ty_192 hT) (by decide) rfl (by decide)) rfl (by decide) rfl (fun x44 n44 q44 => ?_)
    obtain ⟨e_x44, z_x44⟩ := q44
    obtain rfl := z_x44.symm
    rw [e_x44]
    rw [← h_e]
    show GX T 1 212 47 [(2, 192), (0, p), (0, 0)] [(0, (e : Int)), (1, (b : Int)), (1, 100)] m (RI (fun v m1 => v = ((lastS p b (fun k => eatN (fun h => m 201 h) k) 0 : Nat) : Int) ∧ m1 = m))
    refine gx_cl (nx := 50) (S2 := [(1, 100)]) (x_210 (b := b) (e := e) (by omega) (by omega)) r_212_47 rfl rfl rfl rfl rfl rfl rfl (by decide) rfl (fun x47 n47 q47 => ?_)
    obtain ⟨e_x47, z_x47⟩ := q47
    obtain rfl := z_x47.symm
    rw [e_x47]
    have w_X := pw_le (b := b) (k := e) (by omega) (by omega)
    show GX T 1 212 50 [(2, 192), (0, p), (0, 0)] [(1, ((b ^ e : Nat) : Int)), (1, 100)] m (RI (fun v m1 => v = ((lastS p b (fun k => eatN (fun h => m 201 h) k) 0 : Nat) : Int) ∧ m1 = m))
    refine gx_ar (L' := [(2, 192), (0, p), (0, 0)]) (S' := []) (t := 1) (e := w64 (100 * (((b ^ e : Nat) : Int)))) (z := 100 * ((b ^ e : Nat) : Int)) r_212_50 rfl rfl rfl (w64_eq (by omega) (by omega) (by omega)) ?_
    refine gx_st (L' := [(2, 192), (0, p), (0, 0)]) (S' := [(0, p), (1, 100 * ((b ^ e : Nat) : Int))]) r_212_51 rfl rfl rfl ?_
    refine gx_st (L' := [(2, 192), (0, p), (0, 0)]) (S' := [(1, p), (1, 100 * ((b ^ e : Nat) : Int))]) r_212_52 rfl rfl rfl ?_
    refine gx_st (L' := [(2, 192), (0, p), (0, 0)]) (S' := [(1, 10), (1, p), (1, 100 * ((b ^ e : Nat) : Int))]) r_212_53 rfl rfl rfl ?_
    refine gx_st (L' := [(2, 192), (0, p), (0, 0)]) (S' := [(2, 192), (1, 10), (1, p), (1, 100 * ((b ^ e : Nat) : Int))]) r_212_56 rfl rfl rfl ?_
    refine gx_st (L' := [(2, 192), (0, p), (0, 0)]) (S' := [(0, 0), (2, 192), (1, 10), (1, p), (1, 100 * ((b ^ e : Nat) : Int))]) r_212_57 rfl rfl rfl ?_
    refine gx_ci (nx := 61) (S2 := [(1, 10), (1, p), (1, 100 * ((b ^ e : Nat) : Int))]) (y_158 hT hp (n := 0) (by omega)) r_212_58 rfl rfl rfl rfl rfl (rcv_v rfl (ty_192 hT) (by decide) rfl (by decide)) rfl (by decide) rfl (fun x58 n58 q58 => ?_)
    obtain ⟨e_x58, z_x58⟩ := q58
    obtain rfl := z_x58.symm
    rw [e_x58]
    rw [← h_e]
    show GX T 1 212 61 [(2, 192), (0, p), (0, 0)] [(0, (e : Int)), (1, 10), (1, p), (1, 100 * ((b ^ e : Nat) : Int))] m (RI (fun v m1 => v = ((lastS p b (fun k => eatN (fun h => m 201 h) k) 0 : Nat) : Int) ∧ m1 = m))
    refine gx_cl (nx := 64) (S2 := [(1, p), (1, 100 * ((b ^ e : Nat) : Int))]) (x_210 (b := 10) (e := e) (by omega) (by omega)) r_212_61 rfl rfl rfl rfl rfl rfl rfl (by decide) rfl (fun x61 n61 q61 => ?_)
    obtain ⟨e_x61, z_x61⟩ := q61
    obtain rfl := z_x61.symm
    rw [e_x61]
    have w_Y := pw_le (b := 10) (k := e) (by omega) (by omega)
    obtain ⟨Y, h_Y⟩ : ∃ Y : Nat, Y = 10 ^ e := ⟨_, rfl⟩
    rw [← h_Y] at w_Y ⊢
    show GX T 1 212 64 [(2, 192), (0, p), (0, 0)] [(1, (Y : Int)), (1, p), (1, 100 * ((b ^ e : Nat) : Int))] m (RI (fun v m1 => v = ((lastS p b (fun k => eatN (fun h => m 201 h) k) 0 : Nat) : Int) ∧ m1 = m))
    have m1_ : 0 ≤ p * (Y : Int) := Int.mul_nonneg (by omega) (by omega)
    have m2_ : p * (Y : Int) ≤ 100 * (Y : Int) := Int.mul_le_mul_of_nonneg_right (by omega) (by omega)
    refine gx_ar (L' := [(2, 192), (0, p), (0, 0)]) (S' := [(1, 100 * ((b ^ e : Nat) : Int))]) (t := 1) (e := w64 (p * (Y : Int))) (z := (p * (Y : Int))) r_212_64 rfl rfl rfl (w64_eq rfl (by omega) (by omega)) ?_
    refine gx_st (L' := [(2, 192), (0, p), (0, 0)]) (S' := [(0, (if (100 * ((b ^ e : Nat) : Int)) < ((p * (Y : Int))) then -1 else if (100 * ((b ^ e : Nat) : Int)) = ((p * (Y : Int))) then 0 else 1))]) r_212_65 rfl rfl rfl ?_
    refine gx_i0 (P := ((p * (Y : Int))) ≤ (100 * ((b ^ e : Nat) : Int))) r_212_66 (lc_ge) (fun h66 => ?_) (fun h66 => ?_)
    · refine gx_st (L' := [(2, 192), (0, p), (0, 0)]) (S' := [(0, 0)]) r_212_75 rfl rfl rfl ?_
      exact gx_rt r_212_76 rfl rfl ⟨_, rfl, rfl, rfl⟩
    · exfalso
      have e0 : e = 0 := h_e
      rw [e0, Nat.pow_zero] at h66 h_Y
      omega
  | succ k ih =>
    intro hk
    have hen := eatN_le (fun h => m 201 h) (k + 1)
    obtain ⟨e, h_e⟩ : ∃ e : Nat, e = eatN (fun h => m 201 h) (k + 1) := ⟨_, rfl⟩
    rw [← h_e] at hen
    show GX T 1 212 29 [(2, 192), (0, p), (0, (k : Int) + 1)] [] m (RI (fun v m1 => v = ((lastS p b (fun k => eatN (fun h => m 201 h) k) (k + 1) : Nat) : Int) ∧ m1 = m))
    refine gx_st (L' := [(2, 192), (0, p), (0, (k : Int) + 1)]) (S' := [(1, 100)]) r_212_29 rfl rfl rfl ?_
    refine gx_st (L' := [(2, 192), (0, p), (0, (k : Int) + 1)]) (S' := [(0, 10), (1, 100)]) r_212_32 rfl rfl rfl ?_
    refine gx_st (L' := [(2, 192), (0, p), (0, (k : Int) + 1)]) (S' := [(2, 192), (0, 10), (1, 100)]) r_212_34 rfl rfl rfl ?_
    refine gx_gf (x := 193) 2 r_212_35 (rfl) (ty_192 hT) ⟨by decide, rfl, by decide, by decide⟩ rfl (fun _ => by omega) (pin_at hp (t := 193) rfl (by decide)) ?_
    refine gx_st (L' := [(2, 192), (0, p), (0, (k : Int) + 1)]) (S' := [(0, 3), (2, 193), (0, 10), (1, 100)]) r_212_38 rfl rfl rfl ?_
    refine gx_ia (n := 3) (x := (m 193 3)) r_212_39 (rfl) (ty_193 hT) (rfl) ⟨rfl, by decide⟩ (rfl) ?_
    refine gx_ar (L' := [(2, 192), (0, p), (0, (k : Int) + 1)]) (S' := [(1, 100)]) (t := 0) (e := w32 (10 - (m 193 3))) (z := (b : Int)) r_212_40 rfl rfl rfl (w32_eq (by omega) (by omega) (by omega)) ?_
    refine gx_st (L' := [(2, 192), (0, p), (0, (k : Int) + 1)]) (S' := [(1, (b : Int)), (1, 100)]) r_212_41 rfl rfl rfl ?_
    refine gx_st (L' := [(2, 192), (0, p), (0, (k : Int) + 1)]) (S' := [(2, 192), (1, (b : Int)), (1, 100)]) r_212_42 rfl rfl rfl ?_
    refine gx_st (L' := [(2, 192), (0, p), (0, (k : Int) + 1)]) (S' := [(0, (k : Int) + 1), (2, 192), (1, (b : Int)), (1, 100)]) r_212_43 rfl rfl rfl ?_
    refine gx_ci (nx := 47) (S2 := [(1, (b : Int)), (1, 100)]) (y_158 hT hp (n := (k + 1)) (by omega)) r_212_44 rfl rfl rfl rfl rfl (rcv_v rfl (ty_192 hT) (by decide) rfl (by decide)) rfl (by decide) rfl (fun x44 n44 q44 => ?_)
    obtain ⟨e_x44, z_x44⟩ := q44
    obtain rfl := z_x44.symm
    rw [e_x44]
    rw [← h_e]
    show GX T 1 212 47 [(2, 192), (0, p), (0, (k : Int) + 1)] [(0, (e : Int)), (1, (b : Int)), (1, 100)] m (RI (fun v m1 => v = ((lastS p b (fun k => eatN (fun h => m 201 h) k) (k + 1) : Nat) : Int) ∧ m1 = m))
    refine gx_cl (nx := 50) (S2 := [(1, 100)]) (x_210 (b := b) (e := e) (by omega) (by omega)) r_212_47 rfl rfl rfl rfl rfl rfl rfl (by decide) rfl (fun x47 n47 q47 => ?_)
    obtain ⟨e_x47, z_x47⟩ := q47
    obtain rfl := z_x47.symm
    rw [e_x47]
    have w_X := pw_le (b := b) (k := e) (by omega) (by omega)
    show GX T 1 212 50 [(2, 192), (0, p), (0, (k : Int) + 1)] [(1, ((b ^ e : Nat) : Int)), (1, 100)] m (RI (fun v m1 => v = ((lastS p b (fun k => eatN (fun h => m 201 h) k) (k + 1) : Nat) : Int) ∧ m1 = m))
    refine gx_ar (L' := [(2, 192), (0, p), (0, (k : Int) + 1)]) (S' := []) (t := 1) (e := w64 (100 * (((b ^ e : Nat) : Int)))) (z := 100 * ((b ^ e : Nat) : Int)) r_212_50 rfl rfl rfl (w64_eq (by omega) (by omega) (by omega)) ?_
    refine gx_st (L' := [(2, 192), (0, p), (0, (k : Int) + 1)]) (S' := [(0, p), (1, 100 * ((b ^ e : Nat) : Int))]) r_212_51 rfl rfl rfl ?_
    refine gx_st (L' := [(2, 192), (0, p), (0, (k : Int) + 1)]) (S' := [(1, p), (1, 100 * ((b ^ e : Nat) : Int))]) r_212_52 rfl rfl rfl ?_
    refine gx_st (L' := [(2, 192), (0, p), (0, (k : Int) + 1)]) (S' := [(1, 10), (1, p), (1, 100 * ((b ^ e : Nat) : Int))]) r_212_53 rfl rfl rfl ?_
    refine gx_st (L' := [(2, 192), (0, p), (0, (k : Int) + 1)]) (S' := [(2, 192), (1, 10), (1, p), (1, 100 * ((b ^ e : Nat) : Int))]) r_212_56 rfl rfl rfl ?_
    refine gx_st (L' := [(2, 192), (0, p), (0, (k : Int) + 1)]) (S' := [(0, (k : Int) + 1), (2, 192), (1, 10), (1, p), (1, 100 * ((b ^ e : Nat) : Int))]) r_212_57 rfl rfl rfl ?_
    refine gx_ci (nx := 61) (S2 := [(1, 10), (1, p), (1, 100 * ((b ^ e : Nat) : Int))]) (y_158 hT hp (n := (k + 1)) (by omega)) r_212_58 rfl rfl rfl rfl rfl (rcv_v rfl (ty_192 hT) (by decide) rfl (by decide)) rfl (by decide) rfl (fun x58 n58 q58 => ?_)
    obtain ⟨e_x58, z_x58⟩ := q58
    obtain rfl := z_x58.symm
    rw [e_x58]
    rw [← h_e]
    show GX T 1 212 61 [(2, 192), (0, p), (0, (k : Int) + 1)] [(0, (e : Int)), (1, 10), (1, p), (1, 100 * ((b ^ e : Nat) : Int))] m (RI (fun v m1 => v = ((lastS p b (fun k => eatN (fun h => m 201 h) k) (k + 1) : Nat) : Int) ∧ m1 = m))
    refine gx_cl (nx := 64) (S2 := [(1, p), (1, 100 * ((b ^ e : Nat) : Int))]) (x_210 (b := 10) (e := e) (by omega) (by omega)) r_212_61 rfl rfl rfl rfl rfl rfl rfl (by decide) rfl (fun x61 n61 q61 => ?_)
    obtain ⟨e_x61, z_x61⟩ := q61
    obtain rfl := z_x61.symm
    rw [e_x61]
    have w_Y := pw_le (b := 10) (k := e) (by omega) (by omega)
    obtain ⟨Y, h_Y⟩ : ∃ Y : Nat, Y = 10 ^ e := ⟨_, rfl⟩
    rw [← h_Y] at w_Y ⊢
    show GX T 1 212 64 [(2, 192), (0, p), (0, (k : Int) + 1)] [(1, (Y : Int)), (1, p), (1, 100 * ((b ^ e : Nat) : Int))] m (RI (fun v m1 => v = ((lastS p b (fun k => eatN (fun h => m 201 h) k) (k + 1) : Nat) : Int) ∧ m1 = m))
    have m1_ : 0 ≤ p * (Y : Int) := Int.mul_nonneg (by omega) (by omega)
    have m2_ : p * (Y : Int) ≤ 100 * (Y : Int) := Int.mul_le_mul_of_nonneg_right (by omega) (by omega)
    refine gx_ar (L' := [(2, 192), (0, p), (0, (k : Int) + 1)]) (S' := [(1, 100 * ((b ^ e : Nat) : Int))]) (t := 1) (e := w64 (p * (Y : Int))) (z := (p * (Y : Int))) r_212_64 rfl rfl rfl (w64_eq rfl (by omega) (by omega)) ?_
    refine gx_st (L' := [(2, 192), (0, p), (0, (k : Int) + 1)]) (S' := [(0, (if (100 * ((b ^ e : Nat) : Int)) < ((p * (Y : Int))) then -1 else if (100 * ((b ^ e : Nat) : Int)) = ((p * (Y : Int))) then 0 else 1))]) r_212_65 rfl rfl rfl ?_
    refine gx_i0 (P := ((p * (Y : Int))) ≤ (100 * ((b ^ e : Nat) : Int))) r_212_66 (lc_ge) (fun h66 => ?_) (fun h66 => ?_)
    · refine gx_st (L' := [(2, 192), (0, p), (0, (k : Int) + 1)]) (S' := [(0, (k : Int) + 1)]) r_212_75 rfl rfl rfl ?_
      exact gx_rt r_212_76 rfl rfl ⟨_, rfl, by rw [lastS_y (by rw [← h_e, ← h_Y]; omega)]; rfl, rfl⟩
    · refine gx_li (z := (k : Int)) (L' := [(2, 192), (0, p), (0, (k : Int))]) r_212_69 rfl (w32_eq (by omega) (by omega) (by omega)) rfl ?_
      refine gx_st (L' := [(2, 192), (0, p), (0, (k : Int))]) (S' := []) r_212_72 rfl rfl rfl ?_
      rw [lastS_n (by rw [← h_e, ← h_Y]; omega)]
      exact ih (by omega)
theorem y_212 (hT : TT T) (h136 : ConH T cn_136) (hp : PinR m) (hm : Gam m) (hx : Ext m) (wb : WB (pw (m 193))) (wp : WP (pw (m 193))) (p : Int) : GX T 12 212 0 [(2, 192), (0, p), (9, 0)] [] m (RI (fun v m1 => AskR m m1 ∧ (¬ (0 < m 193 9 ∧ 0 ≤ p ∧ p < 101) → v = -2) ∧ ∀ b n : Nat, 10 - m 193 3 = (b : Int) → m 193 1 = (n : Int) → (0 < m 193 9 ∧ 0 ≤ p ∧ p < 101) → v = ((lastS p b (fun k => eatN (fun h => m1 201 h) k) n : Nat) : Int))) := by
  refine gx_st (L' := [(2, 192), (0, p), (9, 0)]) (S' := [(2, 192)]) r_212_0 rfl rfl rfl ?_
  refine gx_ci (nx := 4) (S2 := []) (y_146 hT h136 hp hm hx wb wp) r_212_1 rfl rfl rfl rfl rfl (rcv_v rfl (ty_192 hT) (by decide) rfl (by decide)) rfl (by decide) rfl (fun x1 n1 q1 => ?_)
  obtain ⟨e_x1, ak, hp1, gm1, gx1, f1, fs1⟩ := q1
  have e193 : n1 193 = m 193 := funext (Fr_cell (o := 193) f1 (by decide) (by decide))
  rw [e_x1]
  show GX T 12 212 4 [(2, 192), (0, p), (9, 0)] [(0, (if 0 < m 193 9 then 1 else 0))] n1 (RI (fun v m1 => AskR m m1 ∧ (¬ (0 < m 193 9 ∧ 0 ≤ p ∧ p < 101) → v = -2) ∧ ∀ b n : Nat, 10 - m 193 3 = (b : Int) → m 193 1 = (n : Int) → (0 < m 193 9 ∧ 0 ≤ p ∧ p < 101) → v = ((lastS p b (fun k => eatN (fun h => m1 201 h) k) n : Nat) : Int)))
  show GX T 12 212 4 [(2, 192), (0, p), (9, 0)] [(0, (if 0 < m 193 9 then 1 else 0))] n1 (RI (fun v m1 => AskR m m1 ∧ (¬ (0 < m 193 9 ∧ 0 ≤ p ∧ p < 101) → v = -2) ∧ ∀ b n : Nat, 10 - m 193 3 = (b : Int) → m 193 1 = (n : Int) → (0 < m 193 9 ∧ 0 ≤ p ∧ p < 101) → v = ((lastS p b (fun k => eatN (fun h => m1 201 h) k) n : Nat) : Int)))
  refine gx_i0 (P := ¬ (0 < m 193 9)) r_212_4 (b01_eq) (fun h4 => ?_) (fun h4 => ?_)
  · refine gx_st (L' := [(2, 192), (0, p), (9, 0)]) (S' := [(0, (-2))]) r_212_19 rfl rfl rfl ?_
    exact gx_rt r_212_21 rfl rfl ⟨_, rfl, ak, fun _ => rfl, fun b n e1 e2 z => (by exfalso; omega)⟩
  · have h4 := Decidable.not_not.mp h4
    refine gx_st (L' := [(2, 192), (0, p), (9, 0)]) (S' := [(0, p)]) r_212_7 rfl rfl rfl ?_
    refine gx_st (L' := [(2, 192), (0, p), (9, 0)]) (S' := [(1, p)]) r_212_8 rfl rfl rfl ?_
    refine gx_st (L' := [(2, 192), (0, p), (9, 0)]) (S' := [(1, 0), (1, p)]) r_212_9 rfl rfl rfl ?_
    refine gx_st (L' := [(2, 192), (0, p), (9, 0)]) (S' := [(1, 100), (1, 0), (1, p)]) r_212_10 rfl rfl rfl ?_
    refine gx_ci (nx := 16) (S2 := []) (x_86 p 0 100) r_212_13 rfl rfl rfl rfl rfl rfl rfl (by decide) rfl (fun x13 n13 q13 => ?_)
    obtain rfl := q13.1.symm
    obtain rfl := q13.2.symm
    show GX T 12 212 16 [(2, 192), (0, p), (9, 0)] [(0, (if 0 ≤ p ∧ p ≤ 100 then 1 else 0))] n1 (RI (fun v m1 => AskR m m1 ∧ (¬ (0 < m 193 9 ∧ 0 ≤ p ∧ p < 101) → v = -2) ∧ ∀ b n : Nat, 10 - m 193 3 = (b : Int) → m 193 1 = (n : Int) → (0 < m 193 9 ∧ 0 ≤ p ∧ p < 101) → v = ((lastS p b (fun k => eatN (fun h => m1 201 h) k) n : Nat) : Int)))
    refine gx_i0 (P := 0 ≤ p ∧ p ≤ 100) r_212_16 (b01_ne) (fun h16 => ?_) (fun h16 => ?_)
    · have b1 := gb_193_1 hm
      have b3 := gb_193_3 hm
      obtain ⟨n, hn⟩ : ∃ n : Nat, m 193 1 = (n : Int) := ⟨(m 193 1).toNat, by omega⟩
      obtain ⟨b, hb⟩ : ∃ b : Nat, 10 - m 193 3 = (b : Int) := ⟨(10 - m 193 3).toNat, by omega⟩
      have hen := eatN_le (fun h => n1 201 h) n
      refine gx_st (L' := [(2, 192), (0, p), (9, 0)]) (S' := [(2, 192)]) r_212_22 rfl rfl rfl ?_
      refine gx_gf (x := 193) 2 r_212_23 (rfl) (ty_192 hT) ⟨by decide, rfl, by decide, by decide⟩ rfl (fun _ => by omega) (pin_at hp1 (t := 193) rfl (by decide)) ?_
      refine gx_st (L' := [(2, 192), (0, p), (9, 0)]) (S' := [(0, 1), (2, 193)]) r_212_26 rfl rfl rfl ?_
      refine gx_ia (n := 1) (x := (n : Int)) r_212_27 (rfl) (ty_193 hT) (rfl) ⟨rfl, by decide⟩ (((congrFun e193 1).trans hn)) ?_
      refine gx_st (L' := [(2, 192), (0, p), (0, (n : Int))]) (S' := []) r_212_28 rfl rfl rfl ?_
      refine gx_imp (gx_d (sr2_l hT hp1 (b := b) (p := p) (by rw [e193]; exact hb) (by omega) (by rw [e193]; exact b3) (by omega) (by omega) n (by omega)) (by decide)) (fun v m1 ⟨x, e, q, eq⟩ => ?_)
      subst eq
      exact ⟨x, e, ak, fun z => absurd z (by omega), fun b2 n2 e1 e2 z => by rw [q, show b2 = b by omega, show n2 = n by omega]⟩
    · refine gx_st (L' := [(2, 192), (0, p), (9, 0)]) (S' := [(0, (-2))]) r_212_19 rfl rfl rfl ?_
      exact gx_rt r_212_21 rfl rfl ⟨_, rfl, ak, fun _ => rfl, fun b n e1 e2 z => (by exfalso; omega)⟩
end CHANCE
theorem wa_od {m : Mm} (hm : Gam m) (r : WX m) : 0 ≤ m 4 4 ∧ m 4 4 ≤ 10 := by
  have b3 := gb_193_3 hm
  have e : m 4 4 = m 193 3 := r.1.1.2.2.2.2.1
  omega
theorem st_ate {T : List Kd} {m : Mm} (hT : TT T) (hm : Gam m) (hx : Ext m) (r : WX m) (sx : StoryX m) (h0 : 0 < m 4 0) : 0 ≤ m 28 10 ∧ m 28 10 ≤ 12 := by
  obtain ⟨D, n, n1, n2, s, -⟩ := st_told hT hm hx r sx h0
  have z := eatN_le (deedF (pw (m 193)) D (m 23) (beginF (pw (m 193)) 0 (pw (m 193) 47))) n
  have e : m 28 10 = _ := s.1.2.2.2.1
  omega
theorem q_55 {m m1 m2 : Mm} {a v1 v2 : Int} (hm : Gam m) (hx : Ext m) (r : WX m) (sx : StoryX m) (e : m1 193 = m 193) (h1 : (¬ (0 < m 4 0 ∧ 0 ≤ a ∧ a < 2) → v1 = -2) ∧ ∀ b e : Nat, 10 - m 4 4 = (b : Int) → m 28 10 = (e : Int) → (0 < m 4 0 ∧ 0 ≤ a ∧ a < 2) → v1 = ((lowB b a ^ e : Nat) : Int)) (h2 : AskR m1 m2 ∧ (¬ (0 < m1 193 9 ∧ 0 ≤ a ∧ a < 2) → v2 = -2) ∧ ∀ b n : Nat, 10 - m1 193 3 = (b : Int) → m1 193 1 = (n : Int) → (0 < m1 193 9 ∧ 0 ≤ a ∧ a < 2) → v2 = lowV (b ^ eatN (fun h => m2 201 h) n) (10 ^ eatN (fun h => m2 201 h) n) a) : v1 = v2 := by
  have e40 : m 4 0 = m 193 9 := r.1.1.1
  have e44 : m 4 4 = m 193 3 := r.1.1.2.2.2.2.1
  have b3 := gb_193_3 hm
  obtain ⟨k2, g1, g2⟩ := h2
  rw [e] at g1 g2
  by_cases c : 0 < m 4 0 ∧ 0 ≤ a ∧ a < 2
  · obtain ⟨b, hb⟩ : ∃ b : Nat, 10 - m 193 3 = (b : Int) := ⟨(10 - m 193 3).toNat, by omega⟩
    obtain ⟨D, A, n, n1, n2, n3, d1, a1, a2, s, p⟩ := ask_two hm hx r sx e k2 c.1
    have ee : m 28 10 = ((eatN (fun h => m2 201 h) n : Nat) : Int) := by
      rw [eat_cA n (fun h hh => p.2.1 h hh)]; exact s.1.2.2.2.1
    have z := eatN_le (fun h => m2 201 h) n
    rw [h1.2 b (eatN (fun h => m2 201 h) n) (by omega) ee c, g2 b n hb n2 (by omega)]
    exact (low_pow b (eatN (fun h => m2 201 h) n) a (by omega) (by omega)).symm
  · rw [h1.1 c, g1 (by omega)]
theorem q_56 {m m1 m2 : Mm} {p v1 v2 : Int} (hm : Gam m) (hx : Ext m) (r : WX m) (sx : StoryX m) (e : m1 193 = m 193) (h1 : (¬ (0 < m 4 0 ∧ 0 ≤ p ∧ p < 101) → v1 = -2) ∧ ∀ b n : Nat, 10 - m 4 4 = (b : Int) → m 4 2 = (n : Int) → (0 < m 4 0 ∧ 0 ≤ p ∧ p < 101) → v1 = ((lastS p b (fun k => eatN (fun h => m 37 h) k) n : Nat) : Int)) (h2 : AskR m1 m2 ∧ (¬ (0 < m1 193 9 ∧ 0 ≤ p ∧ p < 101) → v2 = -2) ∧ ∀ b n : Nat, 10 - m1 193 3 = (b : Int) → m1 193 1 = (n : Int) → (0 < m1 193 9 ∧ 0 ≤ p ∧ p < 101) → v2 = ((lastS p b (fun k => eatN (fun h => m2 201 h) k) n : Nat) : Int)) : v1 = v2 := by
  have e40 : m 4 0 = m 193 9 := r.1.1.1
  have e44 : m 4 4 = m 193 3 := r.1.1.2.2.2.2.1
  have b3 := gb_193_3 hm
  obtain ⟨k2, g1, g2⟩ := h2
  rw [e] at g1 g2
  by_cases c : 0 < m 4 0 ∧ 0 ≤ p ∧ p < 101
  · obtain ⟨b, hb⟩ : ∃ b : Nat, 10 - m 193 3 = (b : Int) := ⟨(10 - m 193 3).toNat, by omega⟩
    obtain ⟨D, A, n, n1, n2, n3, d1, a1, a2, s, q⟩ := ask_two hm hx r sx e k2 c.1
    rw [h1.2 b n (by omega) n3 c, g2 b n hb n2 (by omega)]
    rw [lastS_c n (fun i hi => eat_cA i (fun h hh => ((s.1.2.1 h (by omega)).1).trans (q.2.1 h (by omega)).symm))]
  · rw [h1.1 c, g1 (by omega)]
