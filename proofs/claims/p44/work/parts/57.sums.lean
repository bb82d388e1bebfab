/-! sums of the reference: eatsTo, power, divisor, share, chance -/
theorem r_158_0 : row 158 0 = some (.iconst 0, 1, 0, 0, 0, 0) := rfl
theorem r_158_1 : row 158 1 = some (.istore_n 2, 2, 0, 0, 0, 0) := rfl
theorem r_158_2 : row 158 2 = some (.iconst 0, 3, 0, 0, 0, 0) := rfl
theorem r_158_3 : row 158 3 = some (.istore_n 3, 4, 0, 0, 0, 0) := rfl
theorem r_158_4 : row 158 4 = some (.iload_n 3, 5, 0, 0, 0, 0) := rfl
theorem r_158_5 : row 158 5 = some (.iload_n 1, 6, 0, 0, 0, 0) := rfl
theorem r_158_6 : row 158 6 = some (.if_icmp .ge 27, 9, 33, 0, 0, 0) := rfl
theorem r_158_9 : row 158 9 = some (.iload_n 2, 10, 0, 0, 0, 0) := rfl
theorem r_158_10 : row 158 10 = some (.aload_n 0, 11, 0, 0, 0, 0) := rfl
theorem r_158_11 : row 158 11 = some (.getfield 40, 14, 10, 17, 2, 6018) := rfl
theorem r_158_14 : row 158 14 = some (.iload_n 3, 15, 0, 0, 0, 0) := rfl
theorem r_158_15 : row 158 15 = some (.iaload, 16, 0, 0, 0, 0) := rfl
theorem r_158_16 : row 158 16 = some (.iconst 2, 17, 2, 0, 0, 0) := rfl
theorem r_158_17 : row 158 17 = some (.if_icmp .ne 7, 20, 24, 0, 0, 0) := rfl
theorem r_158_20 : row 158 20 = some (.iconst 1, 21, 1, 0, 0, 0) := rfl
theorem r_158_21 : row 158 21 = some (.goto 4, 24, 25, 0, 0, 0) := rfl
theorem r_158_24 : row 158 24 = some (.iconst 0, 25, 0, 0, 0, 0) := rfl
theorem r_158_25 : row 158 25 = some (.iadd, 26, 0, 0, 0, 0) := rfl
theorem r_158_26 : row 158 26 = some (.istore_n 2, 27, 0, 0, 0, 0) := rfl
theorem r_158_27 : row 158 27 = some (.iinc 3 1, 30, 0, 0, 0, 0) := rfl
theorem r_158_30 : row 158 30 = some (.goto (-26), 33, 4, 0, 0, 0) := rfl
theorem r_158_33 : row 158 33 = some (.iload_n 2, 34, 0, 0, 0, 0) := rfl
theorem r_158_34 : row 158 34 = some (.ireturn, 35, 0, 0, 0, 0) := rfl
theorem r_165_0 : row 165 0 = some (.aload_n 0, 1, 0, 0, 0, 0) := rfl
theorem r_165_1 : row 165 1 = some (.invokevirtual 330, 4, 146, 0, 0, 7078) := rfl
theorem r_165_4 : row 165 4 = some (.pop, 5, 0, 0, 0, 0) := rfl
theorem r_165_5 : row 165 5 = some (.aload_n 0, 6, 0, 0, 0, 0) := rfl
theorem r_165_6 : row 165 6 = some (.iload_n 1, 7, 0, 0, 0, 0) := rfl
theorem r_165_7 : row 165 7 = some (.invokevirtual 224, 10, 96, 1, 0, 7017) := rfl
theorem r_165_10 : row 165 10 = some (.ifCond .eq 13, 13, 23, 0, 0, 0) := rfl
theorem r_165_13 : row 165 13 = some (.iload_n 2, 14, 0, 0, 0, 0) := rfl
theorem r_165_14 : row 165 14 = some (.i2l, 15, 0, 0, 0, 0) := rfl
theorem r_165_15 : row 165 15 = some (.lconst 0, 16, 0, 0, 0, 0) := rfl
theorem r_165_16 : row 165 16 = some (.lconst 1, 17, 1, 0, 0, 0) := rfl
theorem r_165_17 : row 165 17 = some (.invokestatic 82, 20, 86, 3, 0, 6131) := rfl
theorem r_165_20 : row 165 20 = some (.ifCond .ne 6, 23, 26, 0, 0, 0) := rfl
theorem r_165_23 : row 165 23 = some (.bipush (-2), 25, (-2), 0, 0, 0) := rfl
theorem r_165_25 : row 165 25 = some (.ireturn, 26, 0, 0, 0, 0) := rfl
theorem r_165_26 : row 165 26 = some (.iconst 0, 27, 0, 0, 0, 0) := rfl
theorem r_165_27 : row 165 27 = some (.istore_n 3, 28, 0, 0, 0, 0) := rfl
theorem r_165_28 : row 165 28 = some (.iconst 0, 29, 0, 0, 0, 0) := rfl
theorem r_165_29 : row 165 29 = some (.istore 4, 31, 0, 0, 0, 0) := rfl
theorem r_165_31 : row 165 31 = some (.iload 4, 33, 0, 0, 0, 0) := rfl
theorem r_165_33 : row 165 33 = some (.aload_n 0, 34, 0, 0, 0, 0) := rfl
theorem r_165_34 : row 165 34 = some (.getfield 9, 37, 10, 1, 2, 6002) := rfl
theorem r_165_37 : row 165 37 = some (.bipush 7, 39, 7, 0, 0, 0) := rfl
theorem r_165_39 : row 165 39 = some (.iaload, 40, 0, 0, 0, 0) := rfl
theorem r_165_40 : row 165 40 = some (.if_icmp .ge 19, 43, 59, 0, 0, 0) := rfl
theorem r_165_43 : row 165 43 = some (.iload_n 3, 44, 0, 0, 0, 0) := rfl
theorem r_165_44 : row 165 44 = some (.aload_n 0, 45, 0, 0, 0, 0) := rfl
theorem r_165_45 : row 165 45 = some (.getfield 49, 48, 10, 20, 2, 6021) := rfl
theorem r_165_48 : row 165 48 = some (.iload 4, 50, 0, 0, 0, 0) := rfl
theorem r_165_50 : row 165 50 = some (.iaload, 51, 0, 0, 0, 0) := rfl
theorem r_165_51 : row 165 51 = some (.iadd, 52, 0, 0, 0, 0) := rfl
theorem r_165_52 : row 165 52 = some (.istore_n 3, 53, 0, 0, 0, 0) := rfl
theorem r_165_53 : row 165 53 = some (.iinc 4 1, 56, 0, 0, 0, 0) := rfl
theorem r_165_56 : row 165 56 = some (.goto (-25), 59, 31, 0, 0, 0) := rfl
theorem r_165_59 : row 165 59 = some (.iload_n 3, 60, 0, 0, 0, 0) := rfl
theorem r_165_60 : row 165 60 = some (.ifCond .ne 7, 63, 67, 0, 0, 0) := rfl
theorem r_165_63 : row 165 63 = some (.iconst (-1), 64, (-1), 0, 0, 0) := rfl
theorem r_165_64 : row 165 64 = some (.goto 17, 67, 81, 0, 0, 0) := rfl
theorem r_165_67 : row 165 67 = some (.aload_n 0, 68, 0, 0, 0, 0) := rfl
theorem r_165_68 : row 165 68 = some (.getfield 49, 71, 10, 20, 2, 6021) := rfl
theorem r_165_71 : row 165 71 = some (.iload_n 1, 72, 0, 0, 0, 0) := rfl
theorem r_165_72 : row 165 72 = some (.iaload, 73, 0, 0, 0, 0) := rfl
theorem r_165_73 : row 165 73 = some (.i2l, 74, 0, 0, 0, 0) := rfl
theorem r_165_74 : row 165 74 = some (.iload_n 3, 75, 0, 0, 0, 0) := rfl
theorem r_165_75 : row 165 75 = some (.i2l, 76, 0, 0, 0, 0) := rfl
theorem r_165_76 : row 165 76 = some (.iload_n 2, 77, 0, 0, 0, 0) := rfl
theorem r_165_77 : row 165 77 = some (.invokestatic 349, 80, 164, 3, 0, 7222) := rfl
theorem r_165_80 : row 165 80 = some (.l2i, 81, 0, 0, 0, 0) := rfl
theorem r_165_81 : row 165 81 = some (.ireturn, 82, 0, 0, 0, 0) := rfl
theorem r_210_0 : row 210 0 = some (.lconst 1, 1, 1, 0, 0, 0) := rfl
theorem r_210_1 : row 210 1 = some (.lstore_n 3, 2, 0, 0, 0, 0) := rfl
theorem r_210_2 : row 210 2 = some (.iconst 0, 3, 0, 0, 0, 0) := rfl
theorem r_210_3 : row 210 3 = some (.istore 5, 5, 0, 0, 0, 0) := rfl
theorem r_210_5 : row 210 5 = some (.iload 5, 7, 0, 0, 0, 0) := rfl
theorem r_210_7 : row 210 7 = some (.iload_n 2, 8, 0, 0, 0, 0) := rfl
theorem r_210_8 : row 210 8 = some (.if_icmp .ge 13, 11, 21, 0, 0, 0) := rfl
theorem r_210_11 : row 210 11 = some (.lload_n 3, 12, 0, 0, 0, 0) := rfl
theorem r_210_12 : row 210 12 = some (.lload_n 0, 13, 0, 0, 0, 0) := rfl
theorem r_210_13 : row 210 13 = some (.lmul, 14, 0, 0, 0, 0) := rfl
theorem r_210_14 : row 210 14 = some (.lstore_n 3, 15, 0, 0, 0, 0) := rfl
theorem r_210_15 : row 210 15 = some (.iinc 5 1, 18, 0, 0, 0, 0) := rfl
theorem r_210_18 : row 210 18 = some (.goto (-13), 21, 5, 0, 0, 0) := rfl
theorem r_210_21 : row 210 21 = some (.lload_n 3, 22, 0, 0, 0, 0) := rfl
theorem r_210_22 : row 210 22 = some (.lreturn, 23, 0, 0, 0, 0) := rfl
theorem r_211_0 : row 211 0 = some (.aload_n 0, 1, 0, 0, 0, 0) := rfl
theorem r_211_1 : row 211 1 = some (.invokevirtual 330, 4, 146, 0, 0, 7078) := rfl
theorem r_211_4 : row 211 4 = some (.ifCond .eq 13, 7, 17, 0, 0, 0) := rfl
theorem r_211_7 : row 211 7 = some (.iload_n 1, 8, 0, 0, 0, 0) := rfl
theorem r_211_8 : row 211 8 = some (.i2l, 9, 0, 0, 0, 0) := rfl
theorem r_211_9 : row 211 9 = some (.lconst 0, 10, 0, 0, 0, 0) := rfl
theorem r_211_10 : row 211 10 = some (.lconst 1, 11, 1, 0, 0, 0) := rfl
theorem r_211_11 : row 211 11 = some (.invokestatic 82, 14, 86, 3, 0, 6131) := rfl
theorem r_211_14 : row 211 14 = some (.ifCond .ne 7, 17, 21, 0, 0, 0) := rfl
theorem r_211_17 : row 211 17 = some (.ldc2_w 431, 20, (-2), 0, 0, 8175) := rfl
theorem r_211_20 : row 211 20 = some (.lreturn, 21, 0, 0, 0, 0) := rfl
theorem r_211_21 : row 211 21 = some (.aload_n 0, 22, 0, 0, 0, 0) := rfl
theorem r_211_22 : row 211 22 = some (.aload_n 0, 23, 0, 0, 0, 0) := rfl
theorem r_211_23 : row 211 23 = some (.getfield 9, 26, 10, 1, 2, 6002) := rfl
theorem r_211_26 : row 211 26 = some (.iconst 1, 27, 1, 0, 0, 0) := rfl
theorem r_211_27 : row 211 27 = some (.iaload, 28, 0, 0, 0, 0) := rfl
theorem r_211_28 : row 211 28 = some (.invokevirtual 342, 31, 158, 1, 0, 7202) := rfl
theorem r_211_31 : row 211 31 = some (.istore_n 2, 32, 0, 0, 0, 0) := rfl
theorem r_211_32 : row 211 32 = some (.bipush 10, 34, 10, 0, 0, 0) := rfl
theorem r_211_34 : row 211 34 = some (.aload_n 0, 35, 0, 0, 0, 0) := rfl
theorem r_211_35 : row 211 35 = some (.getfield 9, 38, 10, 1, 2, 6002) := rfl
theorem r_211_38 : row 211 38 = some (.iconst 3, 39, 3, 0, 0, 0) := rfl
theorem r_211_39 : row 211 39 = some (.iaload, 40, 0, 0, 0, 0) := rfl
theorem r_211_40 : row 211 40 = some (.isub, 41, 0, 0, 0, 0) := rfl
theorem r_211_41 : row 211 41 = some (.i2l, 42, 0, 0, 0, 0) := rfl
theorem r_211_42 : row 211 42 = some (.iload_n 2, 43, 0, 0, 0, 0) := rfl
theorem r_211_43 : row 211 43 = some (.invokestatic 433, 46, 210, 2, 0, 8176) := rfl
theorem r_211_46 : row 211 46 = some (.ldc2_w 424, 49, 10, 0, 0, 8165) := rfl
theorem r_211_49 : row 211 49 = some (.iload_n 2, 50, 0, 0, 0, 0) := rfl
theorem r_211_50 : row 211 50 = some (.invokestatic 433, 53, 210, 2, 0, 8176) := rfl
theorem r_211_53 : row 211 53 = some (.iload_n 1, 54, 0, 0, 0, 0) := rfl
theorem r_211_54 : row 211 54 = some (.invokestatic 349, 57, 164, 3, 0, 7222) := rfl
theorem r_211_57 : row 211 57 = some (.lreturn, 58, 0, 0, 0, 0) := rfl
theorem pw_le {b k : Nat} (hb : b ≤ 10) (hk : k ≤ 12) : b ^ k ≤ 1000000000000 := Nat.le_trans (Nat.pow_le_pow_left hb k) (Nat.le_trans (Nat.pow_le_pow_right (by decide) hk) (Nat.le_of_ble_eq_true rfl))
section SUMS
variable {T : List Kd} {m : Mm}
theorem eats_l (hT : TT T) (hm : Gam m) {Q : AV → Mm → Prop} {c : Nat} (hc : c ≤ 12) (hout : ∀ v : Int, 0 ≤ v → v ≤ c → Q (0, v) m) : ∀ (N k : Nat) (v : Int), c - k < N → k ≤ c → 0 ≤ v → v ≤ k → GX T 0 158 4 [(2, 192), (0, (c : Int)), (0, v), (0, (k : Int))] [] m Q := by
  intro N
  induction N with
  | zero => intro k v hN; exact absurd hN (Nat.not_lt_zero _)
  | succ N ih =>
    intro k v hN hk hv1 hv2
    refine gx_st (L' := [(2, 192), (0, (c : Int)), (0, v), (0, (k : Int))]) (S' := [(0, (k : Int))]) r_158_4 rfl rfl rfl ?_
    refine gx_st (L' := [(2, 192), (0, (c : Int)), (0, v), (0, (k : Int))]) (S' := [(0, (c : Int)), (0, (k : Int))]) r_158_5 rfl rfl rfl ?_
    refine gx_ic (P := (c : Int) ≤ (k : Int)) r_158_6 (rfl) (fun h6 => ?_) (fun h6 => ?_)
    · refine gx_st (L' := [(2, 192), (0, (c : Int)), (0, v), (0, (k : Int))]) (S' := [(0, v)]) r_158_33 rfl rfl rfl ?_
      exact gx_rt r_158_34 rfl rfl (hout v hv1 (by omega))
    · refine gx_st (L' := [(2, 192), (0, (c : Int)), (0, v), (0, (k : Int))]) (S' := [(0, v)]) r_158_9 rfl rfl rfl ?_
      refine gx_st (L' := [(2, 192), (0, (c : Int)), (0, v), (0, (k : Int))]) (S' := [(2, 192), (0, v)]) r_158_10 rfl rfl rfl ?_
      refine gx_gf (x := 201) 2 r_158_11 rfl (tk_192 hT) ⟨by decide, rfl, by decide, by decide⟩ rfl (fun _ => by decide) (pr_192_17 hm) ?_
      refine gx_st (L' := [(2, 192), (0, (c : Int)), (0, v), (0, (k : Int))]) (S' := [(0, (k : Int)), (2, 201), (0, v)]) r_158_14 rfl rfl rfl ?_
      obtain ⟨x15, e_x15⟩ : ∃ z, z = m 201 (k) := ⟨_, rfl⟩
      have b_x15 := gb_201 hm (i := k) (by omega)
      rw [← e_x15] at b_x15
      refine gx_ia (n := k) (x := x15) r_158_15 rfl (tk_201 hT) (by omega) ⟨rfl, by omega⟩ (e_x15.symm) ?_
      refine gx_st (L' := [(2, 192), (0, (c : Int)), (0, v), (0, (k : Int))]) (S' := [(0, 2), (0, x15), (0, v)]) r_158_16 rfl rfl rfl ?_
      refine gx_ic (P := ¬ x15 = 2) r_158_17 (rfl) (fun h17 => ?_) (fun h17 => ?_)
      · refine gx_st (L' := [(2, 192), (0, (c : Int)), (0, v), (0, (k : Int))]) (S' := [(0, 0), (0, v)]) r_158_24 rfl rfl rfl ?_
        refine gx_ar (L' := [(2, 192), (0, (c : Int)), (0, v), (0, (k : Int))]) (S' := []) (t := 0) (e := w32 (v + 0)) (z := v) r_158_25 rfl rfl rfl (w32_eq (by omega) (by omega) (by omega)) ?_
        refine gx_st (L' := [(2, 192), (0, (c : Int)), (0, v), (0, (k : Int))]) (S' := []) r_158_26 rfl rfl rfl ?_
        refine gx_li (z := (k : Int) + 1) (L' := [(2, 192), (0, (c : Int)), (0, v), (0, (k : Int) + 1)]) r_158_27 rfl (w32_eq (by omega) (by omega) (by omega)) rfl ?_
        refine gx_st (L' := [(2, 192), (0, (c : Int)), (0, v), (0, (k : Int) + 1)]) (S' := []) r_158_30 rfl rfl rfl ?_
        rw [show (k : Int) + 1 = ((k + 1 : Nat) : Int) from rfl]
        exact ih (k + 1) _ (by omega) (by omega) (by omega) (by omega)
      · have h17 := Decidable.not_not.mp h17
        refine gx_st (L' := [(2, 192), (0, (c : Int)), (0, v), (0, (k : Int))]) (S' := [(0, 1), (0, v)]) r_158_20 rfl rfl rfl ?_
        refine gx_st (L' := [(2, 192), (0, (c : Int)), (0, v), (0, (k : Int))]) (S' := [(0, 1), (0, v)]) r_158_21 rfl rfl rfl ?_
        refine gx_ar (L' := [(2, 192), (0, (c : Int)), (0, v), (0, (k : Int))]) (S' := []) (t := 0) (e := w32 (v + 1)) (z := v + 1) r_158_25 rfl rfl rfl (w32_eq (by omega) (by omega) (by omega)) ?_
        refine gx_st (L' := [(2, 192), (0, (c : Int)), (0, v + 1), (0, (k : Int))]) (S' := []) r_158_26 rfl rfl rfl ?_
        refine gx_li (z := (k : Int) + 1) (L' := [(2, 192), (0, (c : Int)), (0, v + 1), (0, (k : Int) + 1)]) r_158_27 rfl (w32_eq (by omega) (by omega) (by omega)) rfl ?_
        refine gx_st (L' := [(2, 192), (0, (c : Int)), (0, v + 1), (0, (k : Int) + 1)]) (S' := []) r_158_30 rfl rfl rfl ?_
        rw [show (k : Int) + 1 = ((k + 1 : Nat) : Int) from rfl]
        exact ih (k + 1) _ (by omega) (by omega) (by omega) (by omega)
theorem x_158 (hT : TT T) (hm : Gam m) {c : Nat} (hc : c ≤ 12) : GX T 0 158 0 [(2, 192), (0, (c : Int)), (9, 0), (9, 0)] [] m (RI (fun v m1 => (0 ≤ v ∧ v ≤ c) ∧ m1 = m)) := by
  refine gx_st (L' := [(2, 192), (0, (c : Int)), (9, 0), (9, 0)]) (S' := [(0, 0)]) r_158_0 rfl rfl rfl ?_
  refine gx_st (L' := [(2, 192), (0, (c : Int)), (0, 0), (9, 0)]) (S' := []) r_158_1 rfl rfl rfl ?_
  refine gx_st (L' := [(2, 192), (0, (c : Int)), (0, 0), (9, 0)]) (S' := [(0, 0)]) r_158_2 rfl rfl rfl ?_
  refine gx_st (L' := [(2, 192), (0, (c : Int)), (0, 0), (0, 0)]) (S' := []) r_158_3 rfl rfl rfl ?_
  exact eats_l hT hm hc (fun v h1 h2 => ⟨v, rfl, ⟨h1, h2⟩, rfl⟩) (c + 1) 0 0 (by omega) (by omega) (by omega) (by omega)
theorem pow_l {Q : AV → Mm → Prop} {b e : Nat} (hb : b ≤ 10) (he : e ≤ 12) (hQ : Q (1, ((b ^ e : Nat) : Int)) m) : ∀ (N k : Nat) (v : Int), e - k < N → k ≤ e → v = ((b ^ k : Nat) : Int) → GX T 0 210 5 [(1, (b : Int)), (9, 0), (0, (e : Int)), (1, v), (9, 0), (0, (k : Int))] [] m Q := by
  intro N
  induction N with
  | zero => intro k v hN; exact absurd hN (Nat.not_lt_zero _)
  | succ N ih =>
    intro k v hN hk hv
    refine gx_st (L' := [(1, (b : Int)), (9, 0), (0, (e : Int)), (1, v), (9, 0), (0, (k : Int))]) (S' := [(0, (k : Int))]) r_210_5 rfl rfl rfl ?_
    refine gx_st (L' := [(1, (b : Int)), (9, 0), (0, (e : Int)), (1, v), (9, 0), (0, (k : Int))]) (S' := [(0, (e : Int)), (0, (k : Int))]) r_210_7 rfl rfl rfl ?_
    refine gx_ic (P := (e : Int) ≤ (k : Int)) r_210_8 (rfl) (fun h8 => ?_) (fun h8 => ?_)
    · refine gx_st (L' := [(1, (b : Int)), (9, 0), (0, (e : Int)), (1, v), (9, 0), (0, (k : Int))]) (S' := [(1, v)]) r_210_21 rfl rfl rfl ?_
      have hke : k = e := by omega
      rw [hke] at hv
      rw [hv]
      exact gx_rt r_210_22 rfl rfl hQ
    · have hvb : v * (b : Int) = ((b ^ (k + 1) : Nat) : Int) := by rw [hv, Nat.pow_succ]; exact (Int.natCast_mul _ _).symm
      have hp := pw_le hb (show k + 1 ≤ 12 by omega)
      refine gx_st (L' := [(1, (b : Int)), (9, 0), (0, (e : Int)), (1, v), (9, 0), (0, (k : Int))]) (S' := [(1, v)]) r_210_11 rfl rfl rfl ?_
      refine gx_st (L' := [(1, (b : Int)), (9, 0), (0, (e : Int)), (1, v), (9, 0), (0, (k : Int))]) (S' := [(1, (b : Int)), (1, v)]) r_210_12 rfl rfl rfl ?_
      refine gx_ar (L' := [(1, (b : Int)), (9, 0), (0, (e : Int)), (1, v), (9, 0), (0, (k : Int))]) (S' := []) (t := 1) (e := w64 (v * (b : Int))) (z := (v * (b : Int))) r_210_13 rfl rfl rfl (w64_eq rfl (by rw [hvb]; omega) (by rw [hvb]; omega)) ?_
      refine gx_st (L' := [(1, (b : Int)), (9, 0), (0, (e : Int)), (1, (v * (b : Int))), (9, 0), (0, (k : Int))]) (S' := []) r_210_14 rfl rfl rfl ?_
      refine gx_li (z := (k : Int) + 1) (L' := [(1, (b : Int)), (9, 0), (0, (e : Int)), (1, (v * (b : Int))), (9, 0), (0, (k : Int) + 1)]) r_210_15 rfl (w32_eq (by omega) (by omega) (by omega)) rfl ?_
      refine gx_st (L' := [(1, (b : Int)), (9, 0), (0, (e : Int)), (1, (v * (b : Int))), (9, 0), (0, (k : Int) + 1)]) (S' := []) r_210_18 rfl rfl rfl ?_
      rw [show (k : Int) + 1 = ((k + 1 : Nat) : Int) from rfl]
      exact ih (k + 1) _ (by omega) (by omega) hvb
theorem x_210 {b e : Nat} (hb : b ≤ 10) (he : e ≤ 12) : GX T 0 210 0 [(1, (b : Int)), (9, 0), (0, (e : Int)), (9, 0), (9, 0), (9, 0)] [] m (RL (fun v m1 => v = ((b ^ e : Nat) : Int) ∧ m1 = m)) := by
  refine gx_st (L' := [(1, (b : Int)), (9, 0), (0, (e : Int)), (9, 0), (9, 0), (9, 0)]) (S' := [(1, 1)]) r_210_0 rfl rfl rfl ?_
  refine gx_st (L' := [(1, (b : Int)), (9, 0), (0, (e : Int)), (1, 1), (9, 0), (9, 0)]) (S' := []) r_210_1 rfl rfl rfl ?_
  refine gx_st (L' := [(1, (b : Int)), (9, 0), (0, (e : Int)), (1, 1), (9, 0), (9, 0)]) (S' := [(0, 0)]) r_210_2 rfl rfl rfl ?_
  refine gx_st (L' := [(1, (b : Int)), (9, 0), (0, (e : Int)), (1, 1), (9, 0), (0, 0)]) (S' := []) r_210_3 rfl rfl rfl ?_
  exact pow_l hb he ⟨_, rfl, rfl, rfl⟩ (e + 1) 0 1 (by omega) (by omega) (by rw [Nat.pow_zero]; rfl)
theorem div_l {x y : Int} : ∀ (N : Nat) (A B : Int) (u w : AV), B.natAbs < N → in64 A → in64 B → (¬ A = 0 ∨ ¬ B = 0) → GX T 0 163 6 [(1, x), (9, 0), (1, y), (9, 0), (1, A), (9, 0), (1, B), (9, 0), u, w] [] m (RL (fun z m1 => ((¬ z = 0) ∧ in64 z) ∧ m1 = m)) := by
  intro N
  induction N with
  | zero => intro A B u w hN; exact absurd hN (Nat.not_lt_zero _)
  | succ N ih =>
    intro A B u w hN hA hB hne
    refine gx_st (L' := [(1, x), (9, 0), (1, y), (9, 0), (1, A), (9, 0), (1, B), (9, 0), u, w]) (S' := [(1, B)]) r_163_6 rfl rfl rfl ?_
    refine gx_st (L' := [(1, x), (9, 0), (1, y), (9, 0), (1, A), (9, 0), (1, B), (9, 0), u, w]) (S' := [(1, 0), (1, B)]) r_163_8 rfl rfl rfl ?_
    refine gx_st (L' := [(1, x), (9, 0), (1, y), (9, 0), (1, A), (9, 0), (1, B), (9, 0), u, w]) (S' := [(0, (if B < 0 then -1 else if B = 0 then 0 else 1))]) r_163_9 rfl rfl rfl ?_
    refine gx_i0 (P := B = 0) r_163_10 (lc_eq) (fun h10 => ?_) (fun h10 => ?_)
    · refine gx_st (L' := [(1, x), (9, 0), (1, y), (9, 0), (1, A), (9, 0), (1, B), (9, 0), u, w]) (S' := [(1, A)]) r_163_31 rfl rfl rfl ?_
      exact gx_rt r_163_33 rfl rfl ⟨_, rfl, ⟨by omega, hA⟩, rfl⟩
    · refine gx_st (L' := [(1, x), (9, 0), (1, y), (9, 0), (1, A), (9, 0), (1, B), (9, 0), u, w]) (S' := [(1, A)]) r_163_13 rfl rfl rfl ?_
      refine gx_st (L' := [(1, x), (9, 0), (1, y), (9, 0), (1, A), (9, 0), (1, B), (9, 0), u, w]) (S' := [(1, B), (1, A)]) r_163_15 rfl rfl rfl ?_
      refine gx_lrm (z := (A.tmod B)) r_163_17 (h10) (rfl) ?_
      refine gx_st (L' := [(1, x), (9, 0), (1, y), (9, 0), (1, A), (9, 0), (1, B), (9, 0), (1, (A.tmod B)), (9, 0)]) (S' := []) r_163_18 rfl rfl rfl ?_
      refine gx_st (L' := [(1, x), (9, 0), (1, y), (9, 0), (1, A), (9, 0), (1, B), (9, 0), (1, (A.tmod B)), (9, 0)]) (S' := [(1, B)]) r_163_20 rfl rfl rfl ?_
      refine gx_st (L' := [(1, x), (9, 0), (1, y), (9, 0), (1, B), (9, 0), (1, B), (9, 0), (1, (A.tmod B)), (9, 0)]) (S' := []) r_163_22 rfl rfl rfl ?_
      refine gx_st (L' := [(1, x), (9, 0), (1, y), (9, 0), (1, B), (9, 0), (1, B), (9, 0), (1, (A.tmod B)), (9, 0)]) (S' := [(1, (A.tmod B))]) r_163_24 rfl rfl rfl ?_
      refine gx_st (L' := [(1, x), (9, 0), (1, y), (9, 0), (1, B), (9, 0), (1, (A.tmod B)), (9, 0), (1, (A.tmod B)), (9, 0)]) (S' := []) r_163_26 rfl rfl rfl ?_
      refine gx_st (L' := [(1, x), (9, 0), (1, y), (9, 0), (1, B), (9, 0), (1, (A.tmod B)), (9, 0), (1, (A.tmod B)), (9, 0)]) (S' := []) r_163_28 rfl rfl rfl ?_
      refine ih _ _ _ _ ?_ hB (tmod_in (by decide) (by decide) hA) (Or.inl h10)
      rw [Int.natAbs_tmod]
      exact Nat.lt_of_lt_of_le (Nat.mod_lt _ (by omega)) (by omega)
theorem x_163 {x y : Int} (hx : in64 x) (hy : in64 y) (hy0 : ¬ y = 0) : GX T 0 163 0 [(1, x), (9, 0), (1, y), (9, 0), (9, 0), (9, 0), (9, 0), (9, 0), (9, 0), (9, 0)] [] m (RL (fun z m1 => ((¬ z = 0) ∧ in64 z) ∧ m1 = m)) := by
  refine gx_st (L' := [(1, x), (9, 0), (1, y), (9, 0), (9, 0), (9, 0), (9, 0), (9, 0), (9, 0), (9, 0)]) (S' := [(1, x)]) r_163_0 rfl rfl rfl ?_
  refine gx_st (L' := [(1, x), (9, 0), (1, y), (9, 0), (1, x), (9, 0), (9, 0), (9, 0), (9, 0), (9, 0)]) (S' := []) r_163_1 rfl rfl rfl ?_
  refine gx_st (L' := [(1, x), (9, 0), (1, y), (9, 0), (1, x), (9, 0), (9, 0), (9, 0), (9, 0), (9, 0)]) (S' := [(1, y)]) r_163_3 rfl rfl rfl ?_
  refine gx_st (L' := [(1, x), (9, 0), (1, y), (9, 0), (1, x), (9, 0), (1, y), (9, 0), (9, 0), (9, 0)]) (S' := []) r_163_4 rfl rfl rfl ?_
  exact div_l (y.natAbs + 1) x y _ _ (Nat.lt_succ_self _) hx hy (Or.inr hy0)
theorem x_164 {x y w : Int} (hx : in64 x) (hy : in64 y) (hy0 : ¬ y = 0) : GX T 1 164 0 [(1, x), (9, 0), (1, y), (9, 0), (0, w)] [] m (RL (fun z m1 => in64 z ∧ m1 = m)) := by
  refine gx_st (L' := [(1, x), (9, 0), (1, y), (9, 0), (0, w)]) (S' := [(0, w)]) r_164_0 rfl rfl rfl ?_
  refine gx_i0 (P := ¬ w = 0) r_164_2 (rfl) (fun h2 => ?_) (fun h2 => ?_)
  · refine gx_st (L' := [(1, x), (9, 0), (1, y), (9, 0), (0, w)]) (S' := [(1, y)]) r_164_9 rfl rfl rfl ?_
    refine gx_st (L' := [(1, x), (9, 0), (1, y), (9, 0), (0, w)]) (S' := [(1, x), (1, y)]) r_164_10 rfl rfl rfl ?_
    refine gx_st (L' := [(1, x), (9, 0), (1, y), (9, 0), (0, w)]) (S' := [(1, y), (1, x), (1, y)]) r_164_11 rfl rfl rfl ?_
    refine gx_cl (nx := 15) (S2 := [(1, y)]) (x_163 (x := x) (y := y) hx hy hy0) r_164_12 rfl rfl rfl rfl rfl rfl rfl (by decide) rfl (fun x12 n12 q12 => ?_)
    obtain ⟨⟨dz, d64⟩, z12⟩ := q12
    obtain rfl := z12.symm
    show GX T 1 164 15 [(1, x), (9, 0), (1, y), (9, 0), (0, w)] [(1, x12), (1, y)] m (RL (fun z m1 => in64 z ∧ m1 = m))
    refine gx_ldv (z := (w64 (y.tdiv x12))) r_164_15 (dz) (rfl) ?_
    exact gx_rt r_164_16 rfl rfl ⟨_, rfl, w64_in _, rfl⟩
  · have h2 := Decidable.not_not.mp h2
    refine gx_st (L' := [(1, x), (9, 0), (1, y), (9, 0), (0, w)]) (S' := [(1, x)]) r_164_5 rfl rfl rfl ?_
    refine gx_st (L' := [(1, x), (9, 0), (1, y), (9, 0), (0, w)]) (S' := [(1, x)]) r_164_6 rfl rfl rfl ?_
    refine gx_st (L' := [(1, x), (9, 0), (1, y), (9, 0), (0, w)]) (S' := [(1, x), (1, x)]) r_164_10 rfl rfl rfl ?_
    refine gx_st (L' := [(1, x), (9, 0), (1, y), (9, 0), (0, w)]) (S' := [(1, y), (1, x), (1, x)]) r_164_11 rfl rfl rfl ?_
    refine gx_cl (nx := 15) (S2 := [(1, x)]) (x_163 (x := x) (y := y) hx hy hy0) r_164_12 rfl rfl rfl rfl rfl rfl rfl (by decide) rfl (fun x12 n12 q12 => ?_)
    obtain ⟨⟨dz, d64⟩, z12⟩ := q12
    obtain rfl := z12.symm
    show GX T 1 164 15 [(1, x), (9, 0), (1, y), (9, 0), (0, w)] [(1, x12), (1, x)] m (RL (fun z m1 => in64 z ∧ m1 = m))
    refine gx_ldv (z := (w64 (x.tdiv x12))) r_164_15 (dz) (rfl) ?_
    exact gx_rt r_164_16 rfl rfl ⟨_, rfl, w64_in _, rfl⟩
end SUMS
theorem share_l {T : List Kd} {m : Mm} (hT : TT T) (hm : Gam m) {Q : AV → Mm → Prop} {a w : Int} {c : Nat} (hc : m 193 7 = (c : Int)) (hout : ∀ v : Int, in32 v → GX T 12 165 59 [(2, 192), (0, a), (0, w), (0, v), (0, (c : Int))] [] m Q) : ∀ (N k : Nat) (v : Int), c - k < N → k ≤ c → in32 v → GX T 12 165 31 [(2, 192), (0, a), (0, w), (0, v), (0, (k : Int))] [] m Q := by
  intro N
  induction N with
  | zero => intro k v hN; exact absurd hN (Nat.not_lt_zero _)
  | succ N ih =>
    intro k v hN hk hv
    have bc := gb_193_7 hm
    refine gx_st (L' := [(2, 192), (0, a), (0, w), (0, v), (0, (k : Int))]) (S' := [(0, (k : Int))]) r_165_31 rfl rfl rfl ?_
    refine gx_st (L' := [(2, 192), (0, a), (0, w), (0, v), (0, (k : Int))]) (S' := [(2, 192), (0, (k : Int))]) r_165_33 rfl rfl rfl ?_
    refine gx_gf (x := 193) 2 r_165_34 rfl (tk_192 hT) ⟨by decide, rfl, by decide, by decide⟩ rfl (fun _ => by decide) (pr_192_1 hm) ?_
    refine gx_st (L' := [(2, 192), (0, a), (0, w), (0, v), (0, (k : Int))]) (S' := [(0, 7), (2, 193), (0, (k : Int))]) r_165_37 rfl rfl rfl ?_
    refine gx_ia (n := 7) (x := (c : Int)) r_165_39 rfl (tk_193 hT) (rfl) ⟨rfl, by decide⟩ (hc) ?_
    refine gx_ic (P := (c : Int) ≤ (k : Int)) r_165_40 (rfl) (fun h40 => ?_) (fun h40 => ?_)
    · have hkc : k = c := by omega
      rw [hkc]
      exact hout v hv
    · refine gx_st (L' := [(2, 192), (0, a), (0, w), (0, v), (0, (k : Int))]) (S' := [(0, v)]) r_165_43 rfl rfl rfl ?_
      refine gx_st (L' := [(2, 192), (0, a), (0, w), (0, v), (0, (k : Int))]) (S' := [(2, 192), (0, v)]) r_165_44 rfl rfl rfl ?_
      refine gx_gf (x := 204) 2 r_165_45 rfl (tk_192 hT) ⟨by decide, rfl, by decide, by decide⟩ rfl (fun _ => by decide) (pr_192_20 hm) ?_
      refine gx_st (L' := [(2, 192), (0, a), (0, w), (0, v), (0, (k : Int))]) (S' := [(0, (k : Int)), (2, 204), (0, v)]) r_165_48 rfl rfl rfl ?_
      obtain ⟨x50, e_x50⟩ : ∃ z, z = m 204 (k) := ⟨_, rfl⟩
      have b_x50 := gb_204 hm (i := k) (by omega)
      rw [← e_x50] at b_x50
      refine gx_ia (n := k) (x := x50) r_165_50 rfl (tk_204 hT) (by omega) ⟨rfl, by omega⟩ (e_x50.symm) ?_
      refine gx_st (L' := [(2, 192), (0, a), (0, w), (0, v), (0, (k : Int))]) (S' := [(0, (w32 (v + x50)))]) r_165_51 rfl rfl rfl ?_
      have k51 := w32_in (v + x50)
      unfold in32 at k51
      refine gx_st (L' := [(2, 192), (0, a), (0, w), (0, (w32 (v + x50))), (0, (k : Int))]) (S' := []) r_165_52 rfl rfl rfl ?_
      refine gx_li (z := (k : Int) + 1) (L' := [(2, 192), (0, a), (0, w), (0, (w32 (v + x50))), (0, (k : Int) + 1)]) r_165_53 rfl (w32_eq (by omega) (by omega) (by omega)) rfl ?_
      refine gx_st (L' := [(2, 192), (0, a), (0, w), (0, (w32 (v + x50))), (0, (k : Int) + 1)]) (S' := []) r_165_56 rfl rfl rfl ?_
      rw [show (k : Int) + 1 = ((k + 1 : Nat) : Int) from rfl]
      exact ih (k + 1) _ (by omega) (by omega) (w32_in _)
theorem x_165 {T : List Kd} {m : Mm} (hT : TT T) (h136 : ConH T cn_136) (hm : Gam m) (hx : Ext m) (a w : Int) : GX T 12 165 0 [(2, 192), (0, a), (0, w), (9, 0), (9, 0)] [] m (RI (fun v m1 => -2147483648 ≤ v ∧ v ≤ 2147483647 ∧ Gam m1 ∧ Ext m1 ∧ Fr [90021, 90022, 90023, 90024, 90025, 90026, 90027, 97999, 98999, 99999, 100999, 101999, 102999] m m1)) := by
  refine gx_st (L' := [(2, 192), (0, a), (0, w), (9, 0), (9, 0)]) (S' := [(2, 192)]) r_165_0 rfl rfl rfl ?_
  refine gx_ci (nx := 4) (S2 := []) (x_146 hT h136 hm hx) r_165_1 rfl rfl rfl rfl rfl (rcv_v rfl (tk_192 hT) (by decide) rfl (by decide)) rfl (by decide) rfl (fun x1 n1 q1 => ?_)
  show GX T 12 165 4 [(2, 192), (0, a), (0, w), (9, 0), (9, 0)] [(0, x1)] n1 (RI (fun v m1 => -2147483648 ≤ v ∧ v ≤ 2147483647 ∧ Gam m1 ∧ Ext m1 ∧ Fr [90021, 90022, 90023, 90024, 90025, 90026, 90027, 97999, 98999, 99999, 100999, 101999, 102999] m m1))
  have f_n1 : Fr [90021, 90022, 90023, 90024, 90025, 90026, 90027, 97999, 98999, 99999, 100999, 101999, 102999] m n1 := Fr_sub (W' := [90021, 90022, 90023, 90024, 90025, 90026, 90027, 97999, 98999, 99999, 100999, 101999, 102999]) q1.2.2.2.1 (by decide)
  have v_x1 := q1.1
  refine gx_st (L' := [(2, 192), (0, a), (0, w), (9, 0), (9, 0)]) (S' := []) r_165_4 rfl rfl rfl ?_
  refine gx_st (L' := [(2, 192), (0, a), (0, w), (9, 0), (9, 0)]) (S' := [(2, 192)]) r_165_5 rfl rfl rfl ?_
  refine gx_st (L' := [(2, 192), (0, a), (0, w), (9, 0), (9, 0)]) (S' := [(0, a), (2, 192)]) r_165_6 rfl rfl rfl ?_
  refine gx_ci (nx := 10) (S2 := []) (x_96 hT q1.2.1 a) r_165_7 rfl rfl rfl rfl rfl (rcv_v rfl (tk_192 hT) (by decide) rfl (by decide)) rfl (by decide) rfl (fun x7 n7 q7 => ?_)
  obtain rfl := q7.1.symm
  obtain rfl := q7.2.symm
  show GX T 12 165 10 [(2, 192), (0, a), (0, w), (9, 0), (9, 0)] [(0, (if 0 ≤ a ∧ a ≤ n1 193 7 - 1 then 1 else 0))] n1 (RI (fun v m1 => -2147483648 ≤ v ∧ v ≤ 2147483647 ∧ Gam m1 ∧ Ext m1 ∧ Fr [90021, 90022, 90023, 90024, 90025, 90026, 90027, 97999, 98999, 99999, 100999, 101999, 102999] m m1))
  refine gx_i0 (P := ¬ (0 ≤ a ∧ a ≤ n1 193 7 - 1)) r_165_10 (b01_eq) (fun h10 => ?_) (fun h10 => ?_)
  · refine gx_st (L' := [(2, 192), (0, a), (0, w), (9, 0), (9, 0)]) (S' := [(0, (-2))]) r_165_23 rfl rfl rfl ?_
    exact gx_rt r_165_25 rfl rfl ⟨_, rfl, by omega, by omega, q1.2.1, q1.2.2.1, f_n1⟩
  · have h10 := Decidable.not_not.mp h10
    refine gx_st (L' := [(2, 192), (0, a), (0, w), (9, 0), (9, 0)]) (S' := [(0, w)]) r_165_13 rfl rfl rfl ?_
    refine gx_st (L' := [(2, 192), (0, a), (0, w), (9, 0), (9, 0)]) (S' := [(1, w)]) r_165_14 rfl rfl rfl ?_
    refine gx_st (L' := [(2, 192), (0, a), (0, w), (9, 0), (9, 0)]) (S' := [(1, 0), (1, w)]) r_165_15 rfl rfl rfl ?_
    refine gx_st (L' := [(2, 192), (0, a), (0, w), (9, 0), (9, 0)]) (S' := [(1, 1), (1, 0), (1, w)]) r_165_16 rfl rfl rfl ?_
    refine gx_ci (nx := 20) (S2 := []) (x_86 w 0 1) r_165_17 rfl rfl rfl rfl rfl rfl rfl (by decide) rfl (fun x17 n17 q17 => ?_)
    obtain rfl := q17.1.symm
    obtain rfl := q17.2.symm
    show GX T 12 165 20 [(2, 192), (0, a), (0, w), (9, 0), (9, 0)] [(0, (if 0 ≤ w ∧ w ≤ 1 then 1 else 0))] n1 (RI (fun v m1 => -2147483648 ≤ v ∧ v ≤ 2147483647 ∧ Gam m1 ∧ Ext m1 ∧ Fr [90021, 90022, 90023, 90024, 90025, 90026, 90027, 97999, 98999, 99999, 100999, 101999, 102999] m m1))
    refine gx_i0 (P := 0 ≤ w ∧ w ≤ 1) r_165_20 (b01_ne) (fun h20 => ?_) (fun h20 => ?_)
    · refine gx_st (L' := [(2, 192), (0, a), (0, w), (9, 0), (9, 0)]) (S' := [(0, 0)]) r_165_26 rfl rfl rfl ?_
      refine gx_st (L' := [(2, 192), (0, a), (0, w), (0, 0), (9, 0)]) (S' := []) r_165_27 rfl rfl rfl ?_
      refine gx_st (L' := [(2, 192), (0, a), (0, w), (0, 0), (9, 0)]) (S' := [(0, 0)]) r_165_28 rfl rfl rfl ?_
      refine gx_st (L' := [(2, 192), (0, a), (0, w), (0, 0), (0, 0)]) (S' := []) r_165_29 rfl rfl rfl ?_
      obtain ⟨c, hc⟩ : ∃ c : Nat, n1 193 7 = (c : Int) := ⟨(n1 193 7).toNat, by have := gb_193_7 q1.2.1; omega⟩
      have bc := gb_193_7 q1.2.1
      obtain ⟨q, hq⟩ : ∃ q : Nat, a = (q : Int) := ⟨a.toNat, by omega⟩
      have hq5 : q < 5 := by omega
      refine share_l hT q1.2.1 hc (fun v hv => ?_) (c + 1) 0 0 (by omega) (by omega) ⟨by decide, by decide⟩
      unfold in32 at hv
      rw [hq]
      show GX T 12 165 59 [(2, 192), (0, (q : Int)), (0, w), (0, v), (0, (c : Int))] [] n1 (RI (fun v m1 => -2147483648 ≤ v ∧ v ≤ 2147483647 ∧ Gam m1 ∧ Ext m1 ∧ Fr [90021, 90022, 90023, 90024, 90025, 90026, 90027, 97999, 98999, 99999, 100999, 101999, 102999] m m1))
      refine gx_st (L' := [(2, 192), (0, (q : Int)), (0, w), (0, v), (0, (c : Int))]) (S' := [(0, v)]) r_165_59 rfl rfl rfl ?_
      refine gx_i0 (P := ¬ v = 0) r_165_60 (rfl) (fun h60 => ?_) (fun h60 => ?_)
      · refine gx_st (L' := [(2, 192), (0, (q : Int)), (0, w), (0, v), (0, (c : Int))]) (S' := [(2, 192)]) r_165_67 rfl rfl rfl ?_
        refine gx_gf (x := 204) 2 r_165_68 rfl (tk_192 hT) ⟨by decide, rfl, by decide, by decide⟩ rfl (fun _ => by decide) (pr_192_20 q1.2.1) ?_
        refine gx_st (L' := [(2, 192), (0, (q : Int)), (0, w), (0, v), (0, (c : Int))]) (S' := [(0, (q : Int)), (2, 204)]) r_165_71 rfl rfl rfl ?_
        obtain ⟨x72, e_x72⟩ : ∃ z, z = n1 204 (q) := ⟨_, rfl⟩
        have b_x72 := gb_204 q1.2.1 (i := q) (by omega)
        rw [← e_x72] at b_x72
        refine gx_ia (n := q) (x := x72) r_165_72 rfl (tk_204 hT) (by omega) ⟨rfl, by omega⟩ (e_x72.symm) ?_
        refine gx_st (L' := [(2, 192), (0, (q : Int)), (0, w), (0, v), (0, (c : Int))]) (S' := [(1, x72)]) r_165_73 rfl rfl rfl ?_
        refine gx_st (L' := [(2, 192), (0, (q : Int)), (0, w), (0, v), (0, (c : Int))]) (S' := [(0, v), (1, x72)]) r_165_74 rfl rfl rfl ?_
        refine gx_st (L' := [(2, 192), (0, (q : Int)), (0, w), (0, v), (0, (c : Int))]) (S' := [(1, v), (1, x72)]) r_165_75 rfl rfl rfl ?_
        refine gx_st (L' := [(2, 192), (0, (q : Int)), (0, w), (0, v), (0, (c : Int))]) (S' := [(0, w), (1, v), (1, x72)]) r_165_76 rfl rfl rfl ?_
        refine gx_cl (nx := 80) (S2 := []) (x_164 (x := x72) (y := v) (w := w) (by unfold in64; omega) (by unfold in64; omega) (by omega)) r_165_77 rfl rfl rfl rfl rfl rfl rfl (by decide) rfl (fun x77 n77 q77 => ?_)
        obtain ⟨i77, z77⟩ := q77
        obtain rfl := z77.symm
        show GX T 12 165 80 [(2, 192), (0, (q : Int)), (0, w), (0, v), (0, (c : Int))] [(1, x77)] n1 (RI (fun v m1 => -2147483648 ≤ v ∧ v ≤ 2147483647 ∧ Gam m1 ∧ Ext m1 ∧ Fr [90021, 90022, 90023, 90024, 90025, 90026, 90027, 97999, 98999, 99999, 100999, 101999, 102999] m m1))
        refine gx_st (L' := [(2, 192), (0, (q : Int)), (0, w), (0, v), (0, (c : Int))]) (S' := [(0, (w32 (x77)))]) r_165_80 rfl rfl rfl ?_
        have k80 := w32_in (x77)
        unfold in32 at k80
        exact gx_rt r_165_81 rfl rfl ⟨_, rfl, by omega, by omega, q1.2.1, q1.2.2.1, f_n1⟩
      · have h60 := Decidable.not_not.mp h60
        refine gx_st (L' := [(2, 192), (0, (q : Int)), (0, w), (0, v), (0, (c : Int))]) (S' := [(0, (-1))]) r_165_63 rfl rfl rfl ?_
        refine gx_st (L' := [(2, 192), (0, (q : Int)), (0, w), (0, v), (0, (c : Int))]) (S' := [(0, (-1))]) r_165_64 rfl rfl rfl ?_
        exact gx_rt r_165_81 rfl rfl ⟨_, rfl, by omega, by omega, q1.2.1, q1.2.2.1, f_n1⟩
    · refine gx_st (L' := [(2, 192), (0, a), (0, w), (9, 0), (9, 0)]) (S' := [(0, (-2))]) r_165_23 rfl rfl rfl ?_
      exact gx_rt r_165_25 rfl rfl ⟨_, rfl, by omega, by omega, q1.2.1, q1.2.2.1, f_n1⟩
theorem x_211 {T : List Kd} {m : Mm} (hT : TT T) (h136 : ConH T cn_136) (hm : Gam m) (hx : Ext m) (a : Int) : GX T 12 211 0 [(2, 192), (0, a), (9, 0)] [] m (RL (fun v m1 => -9223372036854775808 ≤ v ∧ v ≤ 9223372036854775807 ∧ Gam m1 ∧ Ext m1 ∧ Fr [90021, 90022, 90023, 90024, 90025, 90026, 90027, 97999, 98999, 99999, 100999, 101999, 102999] m m1)) := by
  refine gx_st (L' := [(2, 192), (0, a), (9, 0)]) (S' := [(2, 192)]) r_211_0 rfl rfl rfl ?_
  refine gx_ci (nx := 4) (S2 := []) (x_146 hT h136 hm hx) r_211_1 rfl rfl rfl rfl rfl (rcv_v rfl (tk_192 hT) (by decide) rfl (by decide)) rfl (by decide) rfl (fun x1 n1 q1 => ?_)
  show GX T 12 211 4 [(2, 192), (0, a), (9, 0)] [(0, x1)] n1 (RL (fun v m1 => -9223372036854775808 ≤ v ∧ v ≤ 9223372036854775807 ∧ Gam m1 ∧ Ext m1 ∧ Fr [90021, 90022, 90023, 90024, 90025, 90026, 90027, 97999, 98999, 99999, 100999, 101999, 102999] m m1))
  have f_n1 : Fr [90021, 90022, 90023, 90024, 90025, 90026, 90027, 97999, 98999, 99999, 100999, 101999, 102999] m n1 := Fr_sub (W' := [90021, 90022, 90023, 90024, 90025, 90026, 90027, 97999, 98999, 99999, 100999, 101999, 102999]) q1.2.2.2.1 (by decide)
  have v_x1 := q1.1
  refine gx_i0 (P := x1 = 0) r_211_4 (rfl) (fun h4 => ?_) (fun h4 => ?_)
  · refine gx_st (L' := [(2, 192), (0, a), (9, 0)]) (S' := [(1, (-2))]) r_211_17 rfl rfl rfl ?_
    exact gx_rt r_211_20 rfl rfl ⟨_, rfl, by decide, by decide, q1.2.1, q1.2.2.1, f_n1⟩
  · refine gx_st (L' := [(2, 192), (0, a), (9, 0)]) (S' := [(0, a)]) r_211_7 rfl rfl rfl ?_
    refine gx_st (L' := [(2, 192), (0, a), (9, 0)]) (S' := [(1, a)]) r_211_8 rfl rfl rfl ?_
    refine gx_st (L' := [(2, 192), (0, a), (9, 0)]) (S' := [(1, 0), (1, a)]) r_211_9 rfl rfl rfl ?_
    refine gx_st (L' := [(2, 192), (0, a), (9, 0)]) (S' := [(1, 1), (1, 0), (1, a)]) r_211_10 rfl rfl rfl ?_
    refine gx_ci (nx := 14) (S2 := []) (x_86 a 0 1) r_211_11 rfl rfl rfl rfl rfl rfl rfl (by decide) rfl (fun x11 n11 q11 => ?_)
    obtain rfl := q11.1.symm
    obtain rfl := q11.2.symm
    show GX T 12 211 14 [(2, 192), (0, a), (9, 0)] [(0, (if 0 ≤ a ∧ a ≤ 1 then 1 else 0))] n1 (RL (fun v m1 => -9223372036854775808 ≤ v ∧ v ≤ 9223372036854775807 ∧ Gam m1 ∧ Ext m1 ∧ Fr [90021, 90022, 90023, 90024, 90025, 90026, 90027, 97999, 98999, 99999, 100999, 101999, 102999] m m1))
    refine gx_i0 (P := 0 ≤ a ∧ a ≤ 1) r_211_14 (b01_ne) (fun h14 => ?_) (fun h14 => ?_)
    · obtain ⟨hh, hhh⟩ : ∃ c : Nat, n1 193 1 = (c : Int) := ⟨(n1 193 1).toNat, by have := gb_193_1 q1.2.1; omega⟩
      have bhh := gb_193_1 q1.2.1
      obtain ⟨od, hod⟩ : ∃ c : Nat, n1 193 3 = (c : Int) := ⟨(n1 193 3).toNat, by have := gb_193_3 q1.2.1; omega⟩
      have bod := gb_193_3 q1.2.1
      obtain ⟨bs, hbs⟩ : ∃ c : Nat, 10 - (od : Int) = (c : Int) := ⟨(10 - (od : Int)).toNat, by omega⟩
      refine gx_st (L' := [(2, 192), (0, a), (9, 0)]) (S' := [(2, 192)]) r_211_21 rfl rfl rfl ?_
      refine gx_st (L' := [(2, 192), (0, a), (9, 0)]) (S' := [(2, 192), (2, 192)]) r_211_22 rfl rfl rfl ?_
      refine gx_gf (x := 193) 2 r_211_23 rfl (tk_192 hT) ⟨by decide, rfl, by decide, by decide⟩ rfl (fun _ => by decide) (pr_192_1 q1.2.1) ?_
      refine gx_st (L' := [(2, 192), (0, a), (9, 0)]) (S' := [(0, 1), (2, 193), (2, 192)]) r_211_26 rfl rfl rfl ?_
      refine gx_ia (n := 1) (x := (hh : Int)) r_211_27 rfl (tk_193 hT) (rfl) ⟨rfl, by decide⟩ (hhh) ?_
      refine gx_ci (nx := 31) (S2 := []) (x_158 hT q1.2.1 (c := hh) (by omega)) r_211_28 rfl rfl rfl rfl rfl (rcv_v rfl (tk_192 hT) (by decide) rfl (by decide)) rfl (by decide) rfl (fun x28 n28 q28 => ?_)
      obtain ⟨v_28, z_28⟩ := q28
      obtain rfl := z_28.symm
      obtain ⟨e28, he28⟩ : ∃ e : Nat, x28 = (e : Int) := ⟨(x28).toNat, by omega⟩
      rw [he28]
      show GX T 12 211 31 [(2, 192), (0, a), (9, 0)] [(0, (e28 : Int))] n1 (RL (fun v m1 => -9223372036854775808 ≤ v ∧ v ≤ 9223372036854775807 ∧ Gam m1 ∧ Ext m1 ∧ Fr [90021, 90022, 90023, 90024, 90025, 90026, 90027, 97999, 98999, 99999, 100999, 101999, 102999] m m1))
      refine gx_st (L' := [(2, 192), (0, a), (0, (e28 : Int))]) (S' := []) r_211_31 rfl rfl rfl ?_
      refine gx_st (L' := [(2, 192), (0, a), (0, (e28 : Int))]) (S' := [(0, 10)]) r_211_32 rfl rfl rfl ?_
      refine gx_st (L' := [(2, 192), (0, a), (0, (e28 : Int))]) (S' := [(2, 192), (0, 10)]) r_211_34 rfl rfl rfl ?_
      refine gx_gf (x := 193) 2 r_211_35 rfl (tk_192 hT) ⟨by decide, rfl, by decide, by decide⟩ rfl (fun _ => by decide) (pr_192_1 q1.2.1) ?_
      refine gx_st (L' := [(2, 192), (0, a), (0, (e28 : Int))]) (S' := [(0, 3), (2, 193), (0, 10)]) r_211_38 rfl rfl rfl ?_
      refine gx_ia (n := 3) (x := (od : Int)) r_211_39 rfl (tk_193 hT) (rfl) ⟨rfl, by decide⟩ (hod) ?_
      refine gx_ar (L' := [(2, 192), (0, a), (0, (e28 : Int))]) (S' := []) (t := 0) (e := w32 (10 - (od : Int))) (z := (bs : Int)) r_211_40 rfl rfl rfl (w32_eq (by omega) (by omega) (by omega)) ?_
      refine gx_st (L' := [(2, 192), (0, a), (0, (e28 : Int))]) (S' := [(1, (bs : Int))]) r_211_41 rfl rfl rfl ?_
      refine gx_st (L' := [(2, 192), (0, a), (0, (e28 : Int))]) (S' := [(0, (e28 : Int)), (1, (bs : Int))]) r_211_42 rfl rfl rfl ?_
      refine gx_cl (nx := 46) (S2 := []) (x_210 (b := bs) (e := e28) (by omega) (by omega)) r_211_43 rfl rfl rfl rfl rfl rfl rfl (by decide) rfl (fun x43 n43 q43 => ?_)
      obtain ⟨p_43, z_43⟩ := q43
      obtain rfl := z_43.symm
      have w_43 := pw_le (b := bs) (k := e28) (by omega) (by omega)
      obtain ⟨X43, hX43⟩ : ∃ X : Nat, X = bs ^ e28 := ⟨_, rfl⟩
      rw [← hX43] at p_43 w_43
      show GX T 12 211 46 [(2, 192), (0, a), (0, (e28 : Int))] [(1, x43)] n1 (RL (fun v m1 => -9223372036854775808 ≤ v ∧ v ≤ 9223372036854775807 ∧ Gam m1 ∧ Ext m1 ∧ Fr [90021, 90022, 90023, 90024, 90025, 90026, 90027, 97999, 98999, 99999, 100999, 101999, 102999] m m1))
      refine gx_st (L' := [(2, 192), (0, a), (0, (e28 : Int))]) (S' := [(1, 10), (1, x43)]) r_211_46 rfl rfl rfl ?_
      refine gx_st (L' := [(2, 192), (0, a), (0, (e28 : Int))]) (S' := [(0, (e28 : Int)), (1, 10), (1, x43)]) r_211_49 rfl rfl rfl ?_
      refine gx_cl (nx := 53) (S2 := [(1, x43)]) (x_210 (b := 10) (e := e28) (by omega) (by omega)) r_211_50 rfl rfl rfl rfl rfl rfl rfl (by decide) rfl (fun x50 n50 q50 => ?_)
      obtain ⟨p_50, z_50⟩ := q50
      obtain rfl := z_50.symm
      have w_50 := pw_le (b := 10) (k := e28) (by omega) (by omega)
      obtain ⟨X50, hX50⟩ : ∃ X : Nat, X = 10 ^ e28 := ⟨_, rfl⟩
      rw [← hX50] at p_50 w_50
      have y_50 : 0 < X50 := by rw [hX50]; exact Nat.pow_pos (by decide)
      show GX T 12 211 53 [(2, 192), (0, a), (0, (e28 : Int))] [(1, x50), (1, x43)] n1 (RL (fun v m1 => -9223372036854775808 ≤ v ∧ v ≤ 9223372036854775807 ∧ Gam m1 ∧ Ext m1 ∧ Fr [90021, 90022, 90023, 90024, 90025, 90026, 90027, 97999, 98999, 99999, 100999, 101999, 102999] m m1))
      refine gx_st (L' := [(2, 192), (0, a), (0, (e28 : Int))]) (S' := [(0, a), (1, x50), (1, x43)]) r_211_53 rfl rfl rfl ?_
      refine gx_cl (nx := 57) (S2 := []) (x_164 (x := x43) (y := x50) (w := a) (by unfold in64; omega) (by unfold in64; omega) (by omega)) r_211_54 rfl rfl rfl rfl rfl rfl rfl (by decide) rfl (fun x54 n54 q54 => ?_)
      obtain ⟨i54, z54⟩ := q54
      obtain rfl := z54.symm
      show GX T 12 211 57 [(2, 192), (0, a), (0, (e28 : Int))] [(1, x54)] n1 (RL (fun v m1 => -9223372036854775808 ≤ v ∧ v ≤ 9223372036854775807 ∧ Gam m1 ∧ Ext m1 ∧ Fr [90021, 90022, 90023, 90024, 90025, 90026, 90027, 97999, 98999, 99999, 100999, 101999, 102999] m m1))
      exact gx_rt r_211_57 rfl rfl ⟨_, rfl, i54.1, i54.2, q1.2.1, q1.2.2.1, f_n1⟩
    · refine gx_st (L' := [(2, 192), (0, a), (9, 0)]) (S' := [(1, (-2))]) r_211_17 rfl rfl rfl ?_
      exact gx_rt r_211_20 rfl rfl ⟨_, rfl, by decide, by decide, q1.2.1, q1.2.2.1, f_n1⟩
