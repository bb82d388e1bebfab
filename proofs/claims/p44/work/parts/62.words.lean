/-! the parser of the reference: words, numbers -/
theorem r_106_0 : row 106 0 = some (.aload_n 0, 1, 0, 0, 0, 0) := rfl
theorem r_106_1 : row 106 1 = some (.invokevirtual 130, 4, 104, 0, 0, 6168) := rfl
theorem r_106_4 : row 106 4 = some (.ifCond .eq 31, 7, 35, 0, 0, 0) := rfl
theorem r_106_7 : row 106 7 = some (.aload_n 0, 8, 0, 0, 0, 0) := rfl
theorem r_106_8 : row 106 8 = some (.getfield 106, 11, 10, 10, 0, 6011) := rfl
theorem r_106_11 : row 106 11 = some (.iconst 1, 12, 1, 0, 0, 0) := rfl
theorem r_106_12 : row 106 12 = some (.if_icmp .ne 23, 15, 35, 0, 0, 0) := rfl
theorem r_106_15 : row 106 15 = some (.aload_n 0, 16, 0, 0, 0, 0) := rfl
theorem r_106_16 : row 106 16 = some (.getfield 96, 19, 10, 8, 0, 6009) := rfl
theorem r_106_19 : row 106 19 = some (.aload_n 0, 20, 0, 0, 0, 0) := rfl
theorem r_106_20 : row 106 20 = some (.getfield 103, 23, 10, 9, 0, 6010) := rfl
theorem r_106_23 : row 106 23 = some (.isub, 24, 0, 0, 0, 0) := rfl
theorem r_106_24 : row 106 24 = some (.aload_n 1, 25, 0, 0, 0, 0) := rfl
theorem r_106_25 : row 106 25 = some (.invokevirtual 133, 28, (-6), 0, 0, 6193) := rfl
theorem r_106_28 : row 106 28 = some (.if_icmp .ne 7, 31, 35, 0, 0, 0) := rfl
theorem r_106_31 : row 106 31 = some (.iconst 1, 32, 1, 0, 0, 0) := rfl
theorem r_106_32 : row 106 32 = some (.goto 4, 35, 36, 0, 0, 0) := rfl
theorem r_106_35 : row 106 35 = some (.iconst 0, 36, 0, 0, 0, 0) := rfl
theorem r_106_36 : row 106 36 = some (.istore_n 2, 37, 0, 0, 0, 0) := rfl
theorem r_106_37 : row 106 37 = some (.iconst 0, 38, 0, 0, 0, 0) := rfl
theorem r_106_38 : row 106 38 = some (.istore_n 3, 39, 0, 0, 0, 0) := rfl
theorem r_106_39 : row 106 39 = some (.iload_n 3, 40, 0, 0, 0, 0) := rfl
theorem r_106_40 : row 106 40 = some (.aload_n 1, 41, 0, 0, 0, 0) := rfl
theorem r_106_41 : row 106 41 = some (.invokevirtual 133, 44, (-6), 0, 0, 6193) := rfl
theorem r_106_44 : row 106 44 = some (.if_icmp .ge 38, 47, 82, 0, 0, 0) := rfl
theorem r_106_47 : row 106 47 = some (.iload_n 2, 48, 0, 0, 0, 0) := rfl
theorem r_106_48 : row 106 48 = some (.ifCond .eq 34, 51, 82, 0, 0, 0) := rfl
theorem r_106_51 : row 106 51 = some (.aload_n 0, 52, 0, 0, 0, 0) := rfl
theorem r_106_52 : row 106 52 = some (.getfield 20, 55, 10, 4, 2, 6005) := rfl
theorem r_106_55 : row 106 55 = some (.aload_n 0, 56, 0, 0, 0, 0) := rfl
theorem r_106_56 : row 106 56 = some (.getfield 103, 59, 10, 9, 0, 6010) := rfl
theorem r_106_59 : row 106 59 = some (.iload_n 3, 60, 0, 0, 0, 0) := rfl
theorem r_106_60 : row 106 60 = some (.iadd, 61, 0, 0, 0, 0) := rfl
theorem r_106_61 : row 106 61 = some (.baload, 62, 0, 0, 0, 0) := rfl
theorem r_106_62 : row 106 62 = some (.aload_n 1, 63, 0, 0, 0, 0) := rfl
theorem r_106_63 : row 106 63 = some (.iload_n 3, 64, 0, 0, 0, 0) := rfl
theorem r_106_64 : row 106 64 = some (.invokevirtual 139, 67, (-7), 1, 0, 6194) := rfl
theorem r_106_67 : row 106 67 = some (.if_icmp .ne 7, 70, 74, 0, 0, 0) := rfl
theorem r_106_70 : row 106 70 = some (.iconst 1, 71, 1, 0, 0, 0) := rfl
theorem r_106_71 : row 106 71 = some (.goto 4, 74, 75, 0, 0, 0) := rfl
theorem r_106_74 : row 106 74 = some (.iconst 0, 75, 0, 0, 0, 0) := rfl
theorem r_106_75 : row 106 75 = some (.istore_n 2, 76, 0, 0, 0, 0) := rfl
theorem r_106_76 : row 106 76 = some (.iinc 3 1, 79, 0, 0, 0, 0) := rfl
theorem r_106_79 : row 106 79 = some (.goto (-40), 82, 39, 0, 0, 0) := rfl
theorem r_106_82 : row 106 82 = some (.iload_n 2, 83, 0, 0, 0, 0) := rfl
theorem r_106_83 : row 106 83 = some (.ireturn, 84, 0, 0, 0, 0) := rfl
theorem r_107_0 : row 107 0 = some (.aload_n 0, 1, 0, 0, 0, 0) := rfl
theorem r_107_1 : row 107 1 = some (.aload_n 1, 2, 0, 0, 0, 0) := rfl
theorem r_107_2 : row 107 2 = some (.invokevirtual 143, 5, 106, 1, 0, 6189) := rfl
theorem r_107_5 : row 107 5 = some (.istore_n 2, 6, 0, 0, 0, 0) := rfl
theorem r_107_6 : row 107 6 = some (.iload_n 2, 7, 0, 0, 0, 0) := rfl
theorem r_107_7 : row 107 7 = some (.ifCond .eq 7, 10, 14, 0, 0, 0) := rfl
theorem r_107_10 : row 107 10 = some (.aload_n 0, 11, 0, 0, 0, 0) := rfl
theorem r_107_11 : row 107 11 = some (.invokevirtual 147, 14, 103, 0, 0, 6154) := rfl
theorem r_107_14 : row 107 14 = some (.iload_n 2, 15, 0, 0, 0, 0) := rfl
theorem r_107_15 : row 107 15 = some (.ireturn, 16, 0, 0, 0, 0) := rfl
theorem r_108_0 : row 108 0 = some (.aload_n 0, 1, 0, 0, 0, 0) := rfl
theorem r_108_1 : row 108 1 = some (.aload_n 1, 2, 0, 0, 0, 0) := rfl
theorem r_108_2 : row 108 2 = some (.invokevirtual 150, 5, 107, 1, 0, 6185) := rfl
theorem r_108_5 : row 108 5 = some (.ifCond .ne 8, 8, 13, 0, 0, 0) := rfl
theorem r_108_8 : row 108 8 = some (.aload_n 0, 9, 0, 0, 0, 0) := rfl
theorem r_108_9 : row 108 9 = some (.iconst 1, 10, 1, 0, 0, 0) := rfl
theorem r_108_10 : row 108 10 = some (.invokevirtual 153, 13, 105, 1, 0, 6195) := rfl
theorem r_108_13 : row 108 13 = some (.return_, 14, 0, 0, 0, 0) := rfl
theorem r_109_0 : row 109 0 = some (.aload_n 0, 1, 0, 0, 0, 0) := rfl
theorem r_109_1 : row 109 1 = some (.invokevirtual 130, 4, 104, 0, 0, 6168) := rfl
theorem r_109_4 : row 109 4 = some (.ifCond .eq 16, 7, 20, 0, 0, 0) := rfl
theorem r_109_7 : row 109 7 = some (.aload_n 0, 8, 0, 0, 0, 0) := rfl
theorem r_109_8 : row 109 8 = some (.getfield 106, 11, 10, 10, 0, 6011) := rfl
theorem r_109_11 : row 109 11 = some (.iconst 2, 12, 2, 0, 0, 0) := rfl
theorem r_109_12 : row 109 12 = some (.if_icmp .eq 8, 15, 20, 0, 0, 0) := rfl
theorem r_109_15 : row 109 15 = some (.aload_n 0, 16, 0, 0, 0, 0) := rfl
theorem r_109_16 : row 109 16 = some (.iconst 1, 17, 1, 0, 0, 0) := rfl
theorem r_109_17 : row 109 17 = some (.invokevirtual 153, 20, 105, 1, 0, 6195) := rfl
theorem r_109_20 : row 109 20 = some (.aload_n 0, 21, 0, 0, 0, 0) := rfl
theorem r_109_21 : row 109 21 = some (.invokevirtual 130, 24, 104, 0, 0, 6168) := rfl
theorem r_109_24 : row 109 24 = some (.ifCond .eq 23, 27, 47, 0, 0, 0) := rfl
theorem r_109_27 : row 109 27 = some (.aload_n 0, 28, 0, 0, 0, 0) := rfl
theorem r_109_28 : row 109 28 = some (.getfield 117, 31, 10, 11, 0, 6012) := rfl
theorem r_109_31 : row 109 31 = some (.i2l, 32, 0, 0, 0, 0) := rfl
theorem r_109_32 : row 109 32 = some (.iload_n 1, 33, 0, 0, 0, 0) := rfl
theorem r_109_33 : row 109 33 = some (.i2l, 34, 0, 0, 0, 0) := rfl
theorem r_109_34 : row 109 34 = some (.iload_n 2, 35, 0, 0, 0, 0) := rfl
theorem r_109_35 : row 109 35 = some (.i2l, 36, 0, 0, 0, 0) := rfl
theorem r_109_36 : row 109 36 = some (.invokestatic 82, 39, 86, 3, 0, 6131) := rfl
theorem r_109_39 : row 109 39 = some (.ifCond .ne 8, 42, 47, 0, 0, 0) := rfl
theorem r_109_42 : row 109 42 = some (.aload_n 0, 43, 0, 0, 0, 0) := rfl
theorem r_109_43 : row 109 43 = some (.iconst 2, 44, 2, 0, 0, 0) := rfl
theorem r_109_44 : row 109 44 = some (.invokevirtual 153, 47, 105, 1, 0, 6195) := rfl
theorem r_109_47 : row 109 47 = some (.aload_n 0, 48, 0, 0, 0, 0) := rfl
theorem r_109_48 : row 109 48 = some (.invokevirtual 130, 51, 104, 0, 0, 6168) := rfl
theorem r_109_51 : row 109 51 = some (.ifCond .ne 5, 54, 56, 0, 0, 0) := rfl
theorem r_109_54 : row 109 54 = some (.iconst 0, 55, 0, 0, 0, 0) := rfl
theorem r_109_55 : row 109 55 = some (.ireturn, 56, 0, 0, 0, 0) := rfl
theorem r_109_56 : row 109 56 = some (.aload_n 0, 57, 0, 0, 0, 0) := rfl
theorem r_109_57 : row 109 57 = some (.getfield 117, 60, 10, 11, 0, 6012) := rfl
theorem r_109_60 : row 109 60 = some (.istore_n 3, 61, 0, 0, 0, 0) := rfl
theorem r_109_61 : row 109 61 = some (.aload_n 0, 62, 0, 0, 0, 0) := rfl
theorem r_109_62 : row 109 62 = some (.invokevirtual 147, 65, 103, 0, 0, 6154) := rfl
theorem r_109_65 : row 109 65 = some (.iload_n 3, 66, 0, 0, 0, 0) := rfl
theorem r_109_66 : row 109 66 = some (.ireturn, 67, 0, 0, 0, 0) := rfl
theorem r_110_0 : row 110 0 = some (.aload_n 0, 1, 0, 0, 0, 0) := rfl
theorem r_110_1 : row 110 1 = some (.aload_n 1, 2, 0, 0, 0, 0) := rfl
theorem r_110_2 : row 110 2 = some (.invokevirtual 157, 5, 108, 1, 0, 6181) := rfl
theorem r_110_5 : row 110 5 = some (.aload_n 0, 6, 0, 0, 0, 0) := rfl
theorem r_110_6 : row 110 6 = some (.iload_n 2, 7, 0, 0, 0, 0) := rfl
theorem r_110_7 : row 110 7 = some (.iload_n 3, 8, 0, 0, 0, 0) := rfl
theorem r_110_8 : row 110 8 = some (.invokevirtual 161, 11, 109, 2, 0, 6204) := rfl
theorem r_110_11 : row 110 11 = some (.ireturn, 12, 0, 0, 0, 0) := rfl
theorem r_112_0 : row 112 0 = some (.aload_n 0, 1, 0, 0, 0, 0) := rfl
theorem r_112_1 : row 112 1 = some (.iconst 0, 2, 0, 0, 0, 0) := rfl
theorem r_112_2 : row 112 2 = some (.aload_n 0, 3, 0, 0, 0, 0) := rfl
theorem r_112_3 : row 112 3 = some (.getfield 31, 6, 10, 14, 2, 6015) := rfl
theorem r_112_6 : row 112 6 = some (.iconst 0, 7, 0, 0, 0, 0) := rfl
theorem r_112_7 : row 112 7 = some (.iaload, 8, 0, 0, 0, 0) := rfl
theorem r_112_8 : row 112 8 = some (.iconst 1, 9, 1, 0, 0, 0) := rfl
theorem r_112_9 : row 112 9 = some (.isub, 10, 0, 0, 0, 0) := rfl
theorem r_112_10 : row 112 10 = some (.invokevirtual 161, 13, 109, 2, 0, 6204) := rfl
theorem r_112_13 : row 112 13 = some (.ireturn, 14, 0, 0, 0, 0) := rfl
section STRS
variable {T : List Kd} {d j pc nx : Nat} {L S : List AV} {m : Mm} {Q : AV → Mm → Prop}
theorem stp_iv {ii b c w : Nat} {a : Int} (h : a = -6 ∨ a = -7) : stp pc (.invokevirtual ii, nx, a, b, c, w) L S T m = spc nx a L S T m := if_pos h
theorem spc_6 {q n : Nat} {a o : Int} (ha : a = -6) (ho : o = 1000000 + (q : Int)) (hn : slen q = some n) (hc : csum S ≤ 8) : spc nx a L ((2, o) :: S) T m = some (nx, L, (0, (n : Int)) :: S, T, m) := by
  have e3 : slen (o.toNat - 1000000) = some n := by rw [show o.toNat - 1000000 = q by omega]; exact hn
  unfold spc
  rw [if_neg (by omega), if_neg (by omega), if_neg (by omega), if_neg (by omega), if_neg (by omega), if_pos ha]
  have e2 : pp 2 ((2, o) :: S) = some (o, S) := rfl
  rw [e2]
  have e5 : csum S ≤ 8 ∧ 1000000 ≤ o := ⟨hc, by omega⟩
  simp only [Option.bind_eq_bind]
  rw [Option.bind_some]
  dsimp only
  rw [e3, Option.bind_some, if_pos e5]
theorem spc_7 {q k : Nat} {a o i x : Int} (ha : a = -7) (ho : o = 1000000 + (q : Int)) (hi : i = (k : Int)) (hs : sch q k = some x) (hc : csum S ≤ 8) : spc nx a L ((0, i) :: (2, o) :: S) T m = some (nx, L, (0, x) :: S, T, m) := by
  have e3 : sch (o.toNat - 1000000) i.toNat = some x := by rw [show o.toNat - 1000000 = q by omega, show i.toNat = k by omega]; exact hs
  unfold spc
  rw [if_neg (by omega), if_neg (by omega), if_neg (by omega), if_neg (by omega), if_neg (by omega), if_neg (by omega), if_pos ha]
  have e2 : pp 0 ((0, i) :: (2, o) :: S) = some (i, (2, o) :: S) := rfl
  have e4 : pp 2 ((2, o) :: S) = some (o, S) := rfl
  have e5 : csum S ≤ 8 ∧ 1000000 ≤ o ∧ 0 ≤ i := ⟨hc, by omega, by omega⟩
  rw [e2]
  simp only [Option.bind_eq_bind]
  rw [Option.bind_some]
  dsimp only
  rw [e4, Option.bind_some]
  dsimp only
  rw [e3, Option.bind_some, if_pos e5]
theorem gx_len {ii b c w q n : Nat} {o : Int} (hx : row j pc = some (.invokevirtual ii, nx, -6, b, c, w)) (ho : o = 1000000 + (q : Int)) (hn : slen q = some n) (hc : csum S ≤ 8) (h : GX T d j nx L ((0, (n : Int)) :: S) m Q) : GX T d j pc L ((2, o) :: S) m Q :=
  gx_st hx rfl rfl ((stp_iv (Or.inl rfl)).trans (spc_6 rfl ho hn hc)) h
theorem gx_chr {ii b c w q k : Nat} {o i x : Int} (hx : row j pc = some (.invokevirtual ii, nx, -7, b, c, w)) (ho : o = 1000000 + (q : Int)) (hi : i = (k : Int)) (hs : sch q k = some x) (hc : csum S ≤ 8) (h : GX T d j nx L ((0, x) :: S) m Q) : GX T d j pc L ((0, i) :: (2, o) :: S) m Q :=
  gx_st hx rfl rfl ((stp_iv (Or.inr rfl)).trans (spc_7 rfl ho hi hs hc)) h
theorem sch_t : ∀ q : Nat, q < 15 → ∀ k : Nat, k < (slen q).getD 0 → (sch q k).isSome = true := by decide +kernel
theorem slen_t : ∀ q : Nat, q < 15 → (slen q).getD 0 ≤ 10 := by decide +kernel
theorem sch_ex {q n k : Nat} (hq : q < 15) (hn : slen q = some n) (hk : k < n) : ∃ z, sch q k = some z := Option.isSome_iff_exists.mp (sch_t q hq k (by rw [hn]; exact hk))
end STRS
/-- the token is word q, no fault -/
def IsW (m : Mm) (q n : Nat) : Prop := m 192 12 = 0 ∧ m 192 10 = 1 ∧ m 192 8 - m 192 9 = (n : Int) ∧ ∀ i : Nat, i < n → sch q i = some (m 196 ((m 192 9).toNat + i))
def WI (m : Mm) (q n k : Nat) (y : Int) : Prop := (y = 0 ∧ ¬ IsW m q n) ∨ (y = 1 ∧ m 192 12 = 0 ∧ m 192 10 = 1 ∧ m 192 8 - m 192 9 = (n : Int) ∧ ∀ i : Nat, i < k → sch q i = some (m 196 ((m 192 9).toNat + i)))
section WORDS
variable {T : List Kd} {m : Mm}
theorem is_l (hT : TT T) (hm : Gam m) {o : Int} {q n f : Nat} (hq : q < 15) (ho : o = 1000000 + (q : Int)) (hn : slen q = some n) (hn10 : n ≤ 10) (hf : m 192 9 = (f : Int)) : ∀ (N k : Nat) (y : Int), n - k < N → k ≤ n → WI m q n k y → GX T 1 106 39 [(2, 192), (2, o), (0, y), (0, (k : Int))] [] m (RI (fun v m1 => ((v = 0 ∧ ¬ IsW m q n) ∨ (v = 1 ∧ IsW m q n)) ∧ m1 = m)) := by
  intro N
  induction N with
  | zero => intro k y hN; exact absurd hN (Nat.not_lt_zero _)
  | succ N ih =>
    intro k y hN hk hI
    have b8_ := gb_192_8 hm
    refine gx_st (L' := [(2, 192), (2, o), (0, y), (0, (k : Int))]) (S' := [(0, (k : Int))]) r_106_39 rfl rfl rfl ?_
    refine gx_st (L' := [(2, 192), (2, o), (0, y), (0, (k : Int))]) (S' := [(2, o), (0, (k : Int))]) r_106_40 rfl rfl rfl ?_
    refine gx_len r_106_41 ho hn (Nat.le_of_ble_eq_true rfl) ?_
    refine gx_ic (P := (n : Int) ≤ (k : Int)) r_106_44 (rfl) (fun h44 => ?_) (fun h44 => ?_)
    · refine gx_st (L' := [(2, 192), (2, o), (0, y), (0, (k : Int))]) (S' := [(0, y)]) r_106_82 rfl rfl rfl ?_
      have hkn : k = n := by omega
      rcases hI with z | z
      · obtain ⟨z1, z2⟩ := z
        rw [z1]; exact gx_rb r_106_83 rfl (Or.inl rfl) ⟨_, rfl, Or.inl ⟨rfl, z2⟩, rfl⟩
      · obtain ⟨z1, z2, z3, z4, z5⟩ := z
        rw [z1]; exact gx_rb r_106_83 rfl (Or.inr rfl) ⟨_, rfl, Or.inr ⟨rfl, z2, z3, z4, fun i hi => z5 i (by omega)⟩, rfl⟩
    · refine gx_st (L' := [(2, 192), (2, o), (0, y), (0, (k : Int))]) (S' := [(0, y)]) r_106_47 rfl rfl rfl ?_
      refine gx_i0 (P := y = 0) r_106_48 (rfl) (fun h48 => ?_) (fun h48 => ?_)
      · refine gx_st (L' := [(2, 192), (2, o), (0, y), (0, (k : Int))]) (S' := [(0, y)]) r_106_82 rfl rfl rfl ?_
        rcases hI with z | z
        · obtain ⟨z1, z2⟩ := z
          rw [z1]; exact gx_rb r_106_83 rfl (Or.inl rfl) ⟨_, rfl, Or.inl ⟨rfl, z2⟩, rfl⟩
        · exact absurd (h48.symm.trans z.1) (by decide)
      · obtain ⟨-, w1, w2, w3, w4⟩ := hI.resolve_left (fun z => h48 z.1)
        refine gx_st (L' := [(2, 192), (2, o), (0, y), (0, (k : Int))]) (S' := [(2, 192)]) r_106_51 rfl rfl rfl ?_
        refine gx_gf (x := 196) 2 r_106_52 rfl (tk_192 hT) ⟨by decide, rfl, by decide, by decide⟩ rfl (fun _ => by decide) (pr_192_4 hm) ?_
        refine gx_st (L' := [(2, 192), (2, o), (0, y), (0, (k : Int))]) (S' := [(2, 192), (2, 196)]) r_106_55 rfl rfl rfl ?_
        refine gx_gf (x := (f : Int)) 0 r_106_56 rfl (tk_192 hT) ⟨by decide, rfl, by decide, by decide⟩ rfl (fun z => absurd z (by decide)) (hf) ?_
        refine gx_st (L' := [(2, 192), (2, o), (0, y), (0, (k : Int))]) (S' := [(0, (k : Int)), (0, (f : Int)), (2, 196)]) r_106_59 rfl rfl rfl ?_
        refine gx_ar (L' := [(2, 192), (2, o), (0, y), (0, (k : Int))]) (S' := [(2, 196)]) (t := 0) (e := w32 ((f : Int) + (k : Int))) (z := (f : Int) + (k : Int)) r_106_60 rfl rfl rfl (w32_eq (by omega) (by omega) (by omega)) ?_
        obtain ⟨x61, e_x61⟩ : ∃ z, z = m 196 (f + k) := ⟨_, rfl⟩
        have b_x61 := gb_196 hm (i := f + k) (by omega)
        rw [← e_x61] at b_x61
        refine gx_ba (n := f + k) (x := x61) r_106_61 rfl (by decide) (tk_196 hT) (by omega) ⟨Or.inl rfl, by omega⟩ (e_x61.symm) ?_
        refine gx_st (L' := [(2, 192), (2, o), (0, y), (0, (k : Int))]) (S' := [(2, o), (0, x61)]) r_106_62 rfl rfl rfl ?_
        refine gx_st (L' := [(2, 192), (2, o), (0, y), (0, (k : Int))]) (S' := [(0, (k : Int)), (2, o), (0, x61)]) r_106_63 rfl rfl rfl ?_
        obtain ⟨c64, e_c64⟩ : ∃ z, sch q k = some z := sch_ex hq hn (by omega)
        refine gx_chr (k := k) r_106_64 ho (by omega) e_c64 (Nat.le_of_ble_eq_true rfl) ?_
        refine gx_ic (P := ¬ x61 = c64) r_106_67 (rfl) (fun h67 => ?_) (fun h67 => ?_)
        · refine gx_st (L' := [(2, 192), (2, o), (0, y), (0, (k : Int))]) (S' := [(0, 0)]) r_106_74 rfl rfl rfl ?_
          refine gx_st (L' := [(2, 192), (2, o), (0, 0), (0, (k : Int))]) (S' := []) r_106_75 rfl rfl rfl ?_
          refine gx_li (z := (k : Int) + 1) (L' := [(2, 192), (2, o), (0, 0), (0, (k : Int) + 1)]) r_106_76 rfl (w32_eq (by omega) (by omega) (by omega)) rfl ?_
          refine gx_st (L' := [(2, 192), (2, o), (0, 0), (0, (k : Int) + 1)]) (S' := []) r_106_79 rfl rfl rfl ?_
          rw [show (k : Int) + 1 = ((k + 1 : Nat) : Int) from rfl]
          refine ih (k + 1) 0 (by omega) (by omega) (Or.inl ⟨rfl, fun z => ?_⟩)
          have z2 := z.2.2.2 k (by omega)
          rw [hf, e_c64] at z2
          have z3 : c64 = m 196 (f + k) := Option.some.inj z2
          exact h67 (e_x61.trans z3.symm)
        · have h67 := Decidable.not_not.mp h67
          refine gx_st (L' := [(2, 192), (2, o), (0, y), (0, (k : Int))]) (S' := [(0, 1)]) r_106_70 rfl rfl rfl ?_
          refine gx_st (L' := [(2, 192), (2, o), (0, y), (0, (k : Int))]) (S' := [(0, 1)]) r_106_71 rfl rfl rfl ?_
          refine gx_st (L' := [(2, 192), (2, o), (0, 1), (0, (k : Int))]) (S' := []) r_106_75 rfl rfl rfl ?_
          refine gx_li (z := (k : Int) + 1) (L' := [(2, 192), (2, o), (0, 1), (0, (k : Int) + 1)]) r_106_76 rfl (w32_eq (by omega) (by omega) (by omega)) rfl ?_
          refine gx_st (L' := [(2, 192), (2, o), (0, 1), (0, (k : Int) + 1)]) (S' := []) r_106_79 rfl rfl rfl ?_
          rw [show (k : Int) + 1 = ((k + 1 : Nat) : Int) from rfl]
          refine ih (k + 1) 1 (by omega) (by omega) (Or.inr ⟨rfl, w1, w2, w3, fun i hi => ?_⟩)
          by_cases e : i = k
          · have h67b : x61 = c64 := by omega
            rw [e, hf, e_c64, ← h67b, e_x61]; rfl
          · exact w4 i (by omega)
theorem x_106 (hT : TT T) (hm : Gam m) {o : Int} {q n : Nat} (hq : q < 15) (ho : o = 1000000 + (q : Int)) (hn : slen q = some n) : GX T 1 106 0 [(2, 192), (2, o), (9, 0), (9, 0)] [] m (RI (fun v m1 => ((v = 0 ∧ ¬ IsW m q n) ∨ (v = 1 ∧ IsW m q n)) ∧ m1 = m)) := by
  have b9_ := gb_192_9 hm
  have hn10 : n ≤ 10 := by have := slen_t q hq; rw [hn] at this; exact this
  obtain ⟨f, hf⟩ : ∃ f : Nat, m 192 9 = (f : Int) := ⟨(m 192 9).toNat, by omega⟩
  refine gx_st (L' := [(2, 192), (2, o), (9, 0), (9, 0)]) (S' := [(2, 192)]) r_106_0 rfl rfl rfl ?_
  refine gx_ci (nx := 4) (S2 := []) (x_104 hT hm) r_106_1 rfl rfl rfl rfl rfl (rcv_v rfl (tk_192 hT) (by decide) rfl (by decide)) rfl (by decide) rfl (fun x1 n1 q1 => ?_)
  obtain rfl := q1.1.symm
  obtain rfl := q1.2.symm
  show GX T 1 106 4 [(2, 192), (2, o), (9, 0), (9, 0)] [(0, (if m 192 12 = 0 then 1 else 0))] m (RI (fun v m1 => ((v = 0 ∧ ¬ IsW m q n) ∨ (v = 1 ∧ IsW m q n)) ∧ m1 = m))
  refine gx_i0 (P := ¬ (m 192 12 = 0)) r_106_4 (b01_eq) (fun h4 => ?_) (fun h4 => ?_)
  · refine gx_st (L' := [(2, 192), (2, o), (9, 0), (9, 0)]) (S' := [(0, 0)]) r_106_35 rfl rfl rfl ?_
    refine gx_st (L' := [(2, 192), (2, o), (0, 0), (9, 0)]) (S' := []) r_106_36 rfl rfl rfl ?_
    refine gx_st (L' := [(2, 192), (2, o), (0, 0), (9, 0)]) (S' := [(0, 0)]) r_106_37 rfl rfl rfl ?_
    refine gx_st (L' := [(2, 192), (2, o), (0, 0), (0, 0)]) (S' := []) r_106_38 rfl rfl rfl ?_
    exact is_l hT hm hq ho hn hn10 hf (n + 1) 0 0 (by omega) (by omega) (Or.inl ⟨rfl, fun z => by obtain ⟨z1, z2, z3, -⟩ := z; omega⟩)
  · have h4 := Decidable.not_not.mp h4
    refine gx_st (L' := [(2, 192), (2, o), (9, 0), (9, 0)]) (S' := [(2, 192)]) r_106_7 rfl rfl rfl ?_
    obtain ⟨x8, e_x8⟩ : ∃ z, z = m 192 10 := ⟨_, rfl⟩
    have b_x8 := gb_192_10 hm
    rw [← e_x8] at b_x8
    refine gx_gf (x := x8) 0 r_106_8 rfl (tk_192 hT) ⟨by decide, rfl, by decide, by decide⟩ rfl (fun z => absurd z (by decide)) (e_x8.symm) ?_
    refine gx_st (L' := [(2, 192), (2, o), (9, 0), (9, 0)]) (S' := [(0, 1), (0, x8)]) r_106_11 rfl rfl rfl ?_
    refine gx_ic (P := ¬ x8 = 1) r_106_12 (rfl) (fun h12 => ?_) (fun h12 => ?_)
    · refine gx_st (L' := [(2, 192), (2, o), (9, 0), (9, 0)]) (S' := [(0, 0)]) r_106_35 rfl rfl rfl ?_
      refine gx_st (L' := [(2, 192), (2, o), (0, 0), (9, 0)]) (S' := []) r_106_36 rfl rfl rfl ?_
      refine gx_st (L' := [(2, 192), (2, o), (0, 0), (9, 0)]) (S' := [(0, 0)]) r_106_37 rfl rfl rfl ?_
      refine gx_st (L' := [(2, 192), (2, o), (0, 0), (0, 0)]) (S' := []) r_106_38 rfl rfl rfl ?_
      exact is_l hT hm hq ho hn hn10 hf (n + 1) 0 0 (by omega) (by omega) (Or.inl ⟨rfl, fun z => by obtain ⟨z1, z2, z3, -⟩ := z; omega⟩)
    · have h12 := Decidable.not_not.mp h12
      refine gx_st (L' := [(2, 192), (2, o), (9, 0), (9, 0)]) (S' := [(2, 192)]) r_106_15 rfl rfl rfl ?_
      obtain ⟨x16, e_x16⟩ : ∃ z, z = m 192 8 := ⟨_, rfl⟩
      have b_x16 := gb_192_8 hm
      rw [← e_x16] at b_x16
      refine gx_gf (x := x16) 0 r_106_16 rfl (tk_192 hT) ⟨by decide, rfl, by decide, by decide⟩ rfl (fun z => absurd z (by decide)) (e_x16.symm) ?_
      refine gx_st (L' := [(2, 192), (2, o), (9, 0), (9, 0)]) (S' := [(2, 192), (0, x16)]) r_106_19 rfl rfl rfl ?_
      obtain ⟨x20, e_x20⟩ : ∃ z, z = m 192 9 := ⟨_, rfl⟩
      have b_x20 := gb_192_9 hm
      rw [← e_x20] at b_x20
      refine gx_gf (x := x20) 0 r_106_20 rfl (tk_192 hT) ⟨by decide, rfl, by decide, by decide⟩ rfl (fun z => absurd z (by decide)) (e_x20.symm) ?_
      refine gx_ar (L' := [(2, 192), (2, o), (9, 0), (9, 0)]) (S' := []) (t := 0) (e := w32 (x16 - x20)) (z := x16 - x20) r_106_23 rfl rfl rfl (w32_eq (by omega) (by omega) (by omega)) ?_
      refine gx_st (L' := [(2, 192), (2, o), (9, 0), (9, 0)]) (S' := [(2, o), (0, x16 - x20)]) r_106_24 rfl rfl rfl ?_
      refine gx_len r_106_25 ho hn (Nat.le_of_ble_eq_true rfl) ?_
      refine gx_ic (P := ¬ x16 - x20 = (n : Int)) r_106_28 (rfl) (fun h28 => ?_) (fun h28 => ?_)
      · refine gx_st (L' := [(2, 192), (2, o), (9, 0), (9, 0)]) (S' := [(0, 0)]) r_106_35 rfl rfl rfl ?_
        refine gx_st (L' := [(2, 192), (2, o), (0, 0), (9, 0)]) (S' := []) r_106_36 rfl rfl rfl ?_
        refine gx_st (L' := [(2, 192), (2, o), (0, 0), (9, 0)]) (S' := [(0, 0)]) r_106_37 rfl rfl rfl ?_
        refine gx_st (L' := [(2, 192), (2, o), (0, 0), (0, 0)]) (S' := []) r_106_38 rfl rfl rfl ?_
        exact is_l hT hm hq ho hn hn10 hf (n + 1) 0 0 (by omega) (by omega) (Or.inl ⟨rfl, fun z => by obtain ⟨z1, z2, z3, -⟩ := z; omega⟩)
      · have h28 := Decidable.not_not.mp h28
        refine gx_st (L' := [(2, 192), (2, o), (9, 0), (9, 0)]) (S' := [(0, 1)]) r_106_31 rfl rfl rfl ?_
        refine gx_st (L' := [(2, 192), (2, o), (9, 0), (9, 0)]) (S' := [(0, 1)]) r_106_32 rfl rfl rfl ?_
        refine gx_st (L' := [(2, 192), (2, o), (0, 1), (9, 0)]) (S' := []) r_106_36 rfl rfl rfl ?_
        refine gx_st (L' := [(2, 192), (2, o), (0, 1), (9, 0)]) (S' := [(0, 0)]) r_106_37 rfl rfl rfl ?_
        refine gx_st (L' := [(2, 192), (2, o), (0, 1), (0, 0)]) (S' := []) r_106_38 rfl rfl rfl ?_
        exact is_l hT hm hq ho hn hn10 hf (n + 1) 0 1 (by omega) (by omega) (Or.inr ⟨rfl, by omega, by omega, by omega, fun i hi => absurd hi (Nat.not_lt_zero _)⟩)
theorem x_107 (hT : TT T) (hm : Gam m) {o : Int} {q n : Nat} (hq : q < 15) (ho : o = 1000000 + (q : Int)) (hn : slen q = some n) : GX T 2 107 0 [(2, 192), (2, o), (9, 0)] [] m (RI (fun v m1 => (v = 0 ∧ ¬ IsW m q n ∧ m1 = m) ∨ (v = 1 ∧ IsW m q n ∧ AVn m m1))) := by
  refine gx_st (L' := [(2, 192), (2, o), (9, 0)]) (S' := [(2, 192)]) r_107_0 rfl rfl rfl ?_
  refine gx_st (L' := [(2, 192), (2, o), (9, 0)]) (S' := [(2, o), (2, 192)]) r_107_1 rfl rfl rfl ?_
  refine gx_ci (nx := 5) (S2 := []) (x_106 hT hm hq ho hn) r_107_2 rfl rfl rfl rfl rfl (rcv_v rfl (tk_192 hT) (by decide) rfl (by decide)) rfl (by decide) rfl (fun x2 n2 q2 => ?_)
  obtain ⟨iv, z2⟩ := q2
  obtain rfl := z2.symm
  show GX T 2 107 5 [(2, 192), (2, o), (9, 0)] [(0, x2)] m (RI (fun v m1 => (v = 0 ∧ ¬ IsW m q n ∧ m1 = m) ∨ (v = 1 ∧ IsW m q n ∧ AVn m m1)))
  refine gx_st (L' := [(2, 192), (2, o), (0, x2)]) (S' := []) r_107_5 rfl rfl rfl ?_
  refine gx_st (L' := [(2, 192), (2, o), (0, x2)]) (S' := [(0, x2)]) r_107_6 rfl rfl rfl ?_
  refine gx_i0 (P := x2 = 0) r_107_7 (rfl) (fun h7 => ?_) (fun h7 => ?_)
  · refine gx_st (L' := [(2, 192), (2, o), (0, x2)]) (S' := [(0, x2)]) r_107_14 rfl rfl rfl ?_
    rcases iv with z | z
    · obtain ⟨z1, z2⟩ := z
      rw [z1]; exact gx_rb r_107_15 rfl (Or.inl rfl) ⟨_, rfl, Or.inl ⟨rfl, z2, rfl⟩⟩
    · exact absurd (h7.symm.trans z.1) (by decide)
  · refine gx_st (L' := [(2, 192), (2, o), (0, x2)]) (S' := [(2, 192)]) r_107_10 rfl rfl rfl ?_
    refine gx_cv (nx := 14) (S2 := []) (x_103 hT hm) r_107_11 rfl rfl rfl rfl rfl (rcv_v rfl (tk_192 hT) (by decide) rfl (by decide)) rfl (by decide) rfl (fun n11 q11 => ?_)
    refine gx_st (L' := [(2, 192), (2, o), (0, x2)]) (S' := [(0, x2)]) r_107_14 rfl rfl rfl ?_
    rcases iv with z | z
    · exact absurd z.1 h7
    · obtain ⟨z1, z2⟩ := z
      rw [z1]; exact gx_rb r_107_15 rfl (Or.inr rfl) ⟨_, rfl, Or.inr ⟨rfl, z2, q11⟩⟩
theorem x_108 (hT : TT T) (hm : Gam m) {o : Int} {q n : Nat} (hq : q < 15) (ho : o = 1000000 + (q : Int)) (hn : slen q = some n) (ht : TK m) : GX T 3 108 0 [(2, 192), (2, o)] [] m (RV (PG m)) := by
  refine gx_st (L' := [(2, 192), (2, o)]) (S' := [(2, 192)]) r_108_0 rfl rfl rfl ?_
  refine gx_st (L' := [(2, 192), (2, o)]) (S' := [(2, o), (2, 192)]) r_108_1 rfl rfl rfl ?_
  refine gx_ci (nx := 5) (S2 := []) (x_107 hT hm hq ho hn) r_108_2 rfl rfl rfl rfl rfl (rcv_v rfl (tk_192 hT) (by decide) rfl (by decide)) rfl (by decide) rfl (fun x2 n2 q2 => ?_)
  have tv := q2
  show GX T 3 108 5 [(2, 192), (2, o)] [(0, x2)] n2 (RV (PG m))
  have g_n2 : Gam n2 := by
    rcases tv with z | z
    · rw [z.2.2]; exact hm
    · exact z.2.2.1
  refine gx_i0 (P := ¬ x2 = 0) r_108_5 (rfl) (fun h5 => ?_) (fun h5 => ?_)
  · rcases tv with z | z
    · exact absurd z.1 h5
    · exact gx_rt r_108_13 rfl rfl ⟨rfl, PG_av ht z.2.1.1 z.2.2⟩
  · have h5 := Decidable.not_not.mp h5
    refine gx_st (L' := [(2, 192), (2, o)]) (S' := [(2, 192)]) r_108_8 rfl rfl rfl ?_
    refine gx_st (L' := [(2, 192), (2, o)]) (S' := [(0, 1), (2, 192)]) r_108_9 rfl rfl rfl ?_
    refine gx_cv (nx := 13) (S2 := []) (x_105 hT g_n2 (k := 1) (by decide) (by decide)) r_108_10 rfl rfl rfl rfl rfl (rcv_v rfl (tk_192 hT) (by decide) rfl (by decide)) rfl (by decide) rfl (fun n10 q10 => ?_)
    rcases tv with z | z
    · obtain ⟨-, -, z3⟩ := z
      subst z3
      exact gx_rt r_108_13 rfl rfl ⟨rfl, PG_er ht q10⟩
    · exact absurd (h5.symm.trans z.1) (by decide)
theorem x_109 (hT : TT T) (hm : Gam m) (ht : TK m) (lo hi : Int) : GX T 2 109 0 [(2, 192), (0, lo), (0, hi), (9, 0)] [] m (RI (fun v m1 => ((lo ≤ v ∧ v ≤ hi) ∨ v = 0) ∧ (m1 192 12 = 0 → v = m 192 11 ∧ m 192 10 = 2 ∧ lo ≤ v ∧ v ≤ hi) ∧ PG m m1)) := by
  refine gx_st (L' := [(2, 192), (0, lo), (0, hi), (9, 0)]) (S' := [(2, 192)]) r_109_0 rfl rfl rfl ?_
  refine gx_ci (nx := 4) (S2 := []) (x_104 hT hm) r_109_1 rfl rfl rfl rfl rfl (rcv_v rfl (tk_192 hT) (by decide) rfl (by decide)) rfl (by decide) rfl (fun x1 n1 q1 => ?_)
  obtain rfl := q1.1.symm
  obtain rfl := q1.2.symm
  show GX T 2 109 4 [(2, 192), (0, lo), (0, hi), (9, 0)] [(0, (if m 192 12 = 0 then 1 else 0))] m (RI (fun v m1 => ((lo ≤ v ∧ v ≤ hi) ∨ v = 0) ∧ (m1 192 12 = 0 → v = m 192 11 ∧ m 192 10 = 2 ∧ lo ≤ v ∧ v ≤ hi) ∧ PG m m1))
  refine gx_i0 (P := ¬ (m 192 12 = 0)) r_109_4 (b01_eq) (fun h4 => ?_) (fun h4 => ?_)
  · refine gx_st (L' := [(2, 192), (0, lo), (0, hi), (9, 0)]) (S' := [(2, 192)]) r_109_20 rfl rfl rfl ?_
    refine gx_ci (nx := 24) (S2 := []) (x_104 hT hm) r_109_21 rfl rfl rfl rfl rfl (rcv_v rfl (tk_192 hT) (by decide) rfl (by decide)) rfl (by decide) rfl (fun x21 n21 q21 => ?_)
    obtain rfl := q21.1.symm
    obtain rfl := q21.2.symm
    show GX T 2 109 24 [(2, 192), (0, lo), (0, hi), (9, 0)] [(0, (if m 192 12 = 0 then 1 else 0))] m (RI (fun v m1 => ((lo ≤ v ∧ v ≤ hi) ∨ v = 0) ∧ (m1 192 12 = 0 → v = m 192 11 ∧ m 192 10 = 2 ∧ lo ≤ v ∧ v ≤ hi) ∧ PG m m1))
    refine gx_i0 (P := ¬ (m 192 12 = 0)) r_109_24 (b01_eq) (fun h24 => ?_) (fun h24 => ?_)
    · refine gx_st (L' := [(2, 192), (0, lo), (0, hi), (9, 0)]) (S' := [(2, 192)]) r_109_47 rfl rfl rfl ?_
      refine gx_ci (nx := 51) (S2 := []) (x_104 hT hm) r_109_48 rfl rfl rfl rfl rfl (rcv_v rfl (tk_192 hT) (by decide) rfl (by decide)) rfl (by decide) rfl (fun x48 n48 q48 => ?_)
      obtain rfl := q48.1.symm
      obtain rfl := q48.2.symm
      show GX T 2 109 51 [(2, 192), (0, lo), (0, hi), (9, 0)] [(0, (if m 192 12 = 0 then 1 else 0))] m (RI (fun v m1 => ((lo ≤ v ∧ v ≤ hi) ∨ v = 0) ∧ (m1 192 12 = 0 → v = m 192 11 ∧ m 192 10 = 2 ∧ lo ≤ v ∧ v ≤ hi) ∧ PG m m1))
      refine gx_i0 (P := m 192 12 = 0) r_109_51 (b01_ne) (fun h51 => ?_) (fun h51 => ?_)
      · omega
      · refine gx_st (L' := [(2, 192), (0, lo), (0, hi), (9, 0)]) (S' := [(0, 0)]) r_109_54 rfl rfl rfl ?_
        exact gx_rt r_109_55 rfl rfl ⟨_, rfl, Or.inr rfl, fun z => absurd z h51, PG_er ht (ER_rf hm h51)⟩
    · have h24 := Decidable.not_not.mp h24
      refine gx_st (L' := [(2, 192), (0, lo), (0, hi), (9, 0)]) (S' := [(2, 192)]) r_109_27 rfl rfl rfl ?_
      obtain ⟨x28, e_x28⟩ : ∃ z, z = m 192 11 := ⟨_, rfl⟩
      have b_x28 := gb_192_11 hm
      rw [← e_x28] at b_x28
      refine gx_gf (x := x28) 0 r_109_28 rfl (tk_192 hT) ⟨by decide, rfl, by decide, by decide⟩ rfl (fun z => absurd z (by decide)) (e_x28.symm) ?_
      refine gx_st (L' := [(2, 192), (0, lo), (0, hi), (9, 0)]) (S' := [(1, x28)]) r_109_31 rfl rfl rfl ?_
      refine gx_st (L' := [(2, 192), (0, lo), (0, hi), (9, 0)]) (S' := [(0, lo), (1, x28)]) r_109_32 rfl rfl rfl ?_
      refine gx_st (L' := [(2, 192), (0, lo), (0, hi), (9, 0)]) (S' := [(1, lo), (1, x28)]) r_109_33 rfl rfl rfl ?_
      refine gx_st (L' := [(2, 192), (0, lo), (0, hi), (9, 0)]) (S' := [(0, hi), (1, lo), (1, x28)]) r_109_34 rfl rfl rfl ?_
      refine gx_st (L' := [(2, 192), (0, lo), (0, hi), (9, 0)]) (S' := [(1, hi), (1, lo), (1, x28)]) r_109_35 rfl rfl rfl ?_
      refine gx_ci (nx := 39) (S2 := []) (x_86 x28 lo hi) r_109_36 rfl rfl rfl rfl rfl rfl rfl (by decide) rfl (fun x36 n36 q36 => ?_)
      obtain rfl := q36.1.symm
      obtain rfl := q36.2.symm
      show GX T 2 109 39 [(2, 192), (0, lo), (0, hi), (9, 0)] [(0, (if lo ≤ x28 ∧ x28 ≤ hi then 1 else 0))] m (RI (fun v m1 => ((lo ≤ v ∧ v ≤ hi) ∨ v = 0) ∧ (m1 192 12 = 0 → v = m 192 11 ∧ m 192 10 = 2 ∧ lo ≤ v ∧ v ≤ hi) ∧ PG m m1))
      refine gx_i0 (P := lo ≤ x28 ∧ x28 ≤ hi) r_109_39 (b01_ne) (fun h39 => ?_) (fun h39 => ?_)
      · refine gx_st (L' := [(2, 192), (0, lo), (0, hi), (9, 0)]) (S' := [(2, 192)]) r_109_47 rfl rfl rfl ?_
        refine gx_ci (nx := 51) (S2 := []) (x_104 hT hm) r_109_48 rfl rfl rfl rfl rfl (rcv_v rfl (tk_192 hT) (by decide) rfl (by decide)) rfl (by decide) rfl (fun x48 n48 q48 => ?_)
        obtain rfl := q48.1.symm
        obtain rfl := q48.2.symm
        show GX T 2 109 51 [(2, 192), (0, lo), (0, hi), (9, 0)] [(0, (if m 192 12 = 0 then 1 else 0))] m (RI (fun v m1 => ((lo ≤ v ∧ v ≤ hi) ∨ v = 0) ∧ (m1 192 12 = 0 → v = m 192 11 ∧ m 192 10 = 2 ∧ lo ≤ v ∧ v ≤ hi) ∧ PG m m1))
        refine gx_i0 (P := m 192 12 = 0) r_109_51 (b01_ne) (fun h51 => ?_) (fun h51 => ?_)
        · refine gx_st (L' := [(2, 192), (0, lo), (0, hi), (9, 0)]) (S' := [(2, 192)]) r_109_56 rfl rfl rfl ?_
          obtain ⟨x57, e_x57⟩ : ∃ z, z = m 192 11 := ⟨_, rfl⟩
          have b_x57 := gb_192_11 hm
          rw [← e_x57] at b_x57
          refine gx_gf (x := x57) 0 r_109_57 rfl (tk_192 hT) ⟨by decide, rfl, by decide, by decide⟩ rfl (fun z => absurd z (by decide)) (e_x57.symm) ?_
          refine gx_st (L' := [(2, 192), (0, lo), (0, hi), (0, x57)]) (S' := []) r_109_60 rfl rfl rfl ?_
          refine gx_st (L' := [(2, 192), (0, lo), (0, hi), (0, x57)]) (S' := [(2, 192)]) r_109_61 rfl rfl rfl ?_
          refine gx_cv (nx := 65) (S2 := []) (x_103 hT hm) r_109_62 rfl rfl rfl rfl rfl (rcv_v rfl (tk_192 hT) (by decide) rfl (by decide)) rfl (by decide) rfl (fun n62 q62 => ?_)
          refine gx_st (L' := [(2, 192), (0, lo), (0, hi), (0, x57)]) (S' := [(0, x57)]) r_109_65 rfl rfl rfl ?_
          exact gx_rt r_109_66 rfl rfl ⟨_, rfl, Or.inl ⟨by omega, by omega⟩, fun _ => ⟨e_x57, by omega, by omega, by omega⟩, PG_av ht (by omega) q62⟩
        · refine gx_st (L' := [(2, 192), (0, lo), (0, hi), (9, 0)]) (S' := [(0, 0)]) r_109_54 rfl rfl rfl ?_
          exact gx_rt r_109_55 rfl rfl ⟨_, rfl, Or.inr rfl, fun z => absurd z h51, PG_er ht (ER_rf hm h51)⟩
      · refine gx_st (L' := [(2, 192), (0, lo), (0, hi), (9, 0)]) (S' := [(2, 192)]) r_109_42 rfl rfl rfl ?_
        refine gx_st (L' := [(2, 192), (0, lo), (0, hi), (9, 0)]) (S' := [(0, 2), (2, 192)]) r_109_43 rfl rfl rfl ?_
        refine gx_cv (nx := 47) (S2 := []) (x_105 hT hm (k := 2) (by decide) (by decide)) r_109_44 rfl rfl rfl rfl rfl (rcv_v rfl (tk_192 hT) (by decide) rfl (by decide)) rfl (by decide) rfl (fun n44 q44 => ?_)
        refine gx_st (L' := [(2, 192), (0, lo), (0, hi), (9, 0)]) (S' := [(2, 192)]) r_109_47 rfl rfl rfl ?_
        refine gx_ci (nx := 51) (S2 := []) (x_104 hT q44.1) r_109_48 rfl rfl rfl rfl rfl (rcv_v rfl (tk_192 hT) (by decide) rfl (by decide)) rfl (by decide) rfl (fun x48 n48 q48 => ?_)
        obtain rfl := q48.1.symm
        obtain rfl := q48.2.symm
        show GX T 2 109 51 [(2, 192), (0, lo), (0, hi), (9, 0)] [(0, (if n44 192 12 = 0 then 1 else 0))] n44 (RI (fun v m1 => ((lo ≤ v ∧ v ≤ hi) ∨ v = 0) ∧ (m1 192 12 = 0 → v = m 192 11 ∧ m 192 10 = 2 ∧ lo ≤ v ∧ v ≤ hi) ∧ PG m m1))
        refine gx_i0 (P := n44 192 12 = 0) r_109_51 (b01_ne) (fun h51 => ?_) (fun h51 => ?_)
        · exact absurd h51 q44.2.2
        · refine gx_st (L' := [(2, 192), (0, lo), (0, hi), (9, 0)]) (S' := [(0, 0)]) r_109_54 rfl rfl rfl ?_
          exact gx_rt r_109_55 rfl rfl ⟨_, rfl, Or.inr rfl, fun z => absurd z q44.2.2, PG_er ht (q44)⟩
  · have h4 := Decidable.not_not.mp h4
    refine gx_st (L' := [(2, 192), (0, lo), (0, hi), (9, 0)]) (S' := [(2, 192)]) r_109_7 rfl rfl rfl ?_
    obtain ⟨x8, e_x8⟩ : ∃ z, z = m 192 10 := ⟨_, rfl⟩
    have b_x8 := gb_192_10 hm
    rw [← e_x8] at b_x8
    refine gx_gf (x := x8) 0 r_109_8 rfl (tk_192 hT) ⟨by decide, rfl, by decide, by decide⟩ rfl (fun z => absurd z (by decide)) (e_x8.symm) ?_
    refine gx_st (L' := [(2, 192), (0, lo), (0, hi), (9, 0)]) (S' := [(0, 2), (0, x8)]) r_109_11 rfl rfl rfl ?_
    refine gx_ic (P := x8 = 2) r_109_12 (rfl) (fun h12 => ?_) (fun h12 => ?_)
    · refine gx_st (L' := [(2, 192), (0, lo), (0, hi), (9, 0)]) (S' := [(2, 192)]) r_109_20 rfl rfl rfl ?_
      refine gx_ci (nx := 24) (S2 := []) (x_104 hT hm) r_109_21 rfl rfl rfl rfl rfl (rcv_v rfl (tk_192 hT) (by decide) rfl (by decide)) rfl (by decide) rfl (fun x21 n21 q21 => ?_)
      obtain rfl := q21.1.symm
      obtain rfl := q21.2.symm
      show GX T 2 109 24 [(2, 192), (0, lo), (0, hi), (9, 0)] [(0, (if m 192 12 = 0 then 1 else 0))] m (RI (fun v m1 => ((lo ≤ v ∧ v ≤ hi) ∨ v = 0) ∧ (m1 192 12 = 0 → v = m 192 11 ∧ m 192 10 = 2 ∧ lo ≤ v ∧ v ≤ hi) ∧ PG m m1))
      refine gx_i0 (P := ¬ (m 192 12 = 0)) r_109_24 (b01_eq) (fun h24 => ?_) (fun h24 => ?_)
      · refine gx_st (L' := [(2, 192), (0, lo), (0, hi), (9, 0)]) (S' := [(2, 192)]) r_109_47 rfl rfl rfl ?_
        refine gx_ci (nx := 51) (S2 := []) (x_104 hT hm) r_109_48 rfl rfl rfl rfl rfl (rcv_v rfl (tk_192 hT) (by decide) rfl (by decide)) rfl (by decide) rfl (fun x48 n48 q48 => ?_)
        obtain rfl := q48.1.symm
        obtain rfl := q48.2.symm
        show GX T 2 109 51 [(2, 192), (0, lo), (0, hi), (9, 0)] [(0, (if m 192 12 = 0 then 1 else 0))] m (RI (fun v m1 => ((lo ≤ v ∧ v ≤ hi) ∨ v = 0) ∧ (m1 192 12 = 0 → v = m 192 11 ∧ m 192 10 = 2 ∧ lo ≤ v ∧ v ≤ hi) ∧ PG m m1))
        refine gx_i0 (P := m 192 12 = 0) r_109_51 (b01_ne) (fun h51 => ?_) (fun h51 => ?_)
        · omega
        · refine gx_st (L' := [(2, 192), (0, lo), (0, hi), (9, 0)]) (S' := [(0, 0)]) r_109_54 rfl rfl rfl ?_
          exact gx_rt r_109_55 rfl rfl ⟨_, rfl, Or.inr rfl, fun z => absurd z h51, PG_er ht (ER_rf hm h51)⟩
      · have h24 := Decidable.not_not.mp h24
        refine gx_st (L' := [(2, 192), (0, lo), (0, hi), (9, 0)]) (S' := [(2, 192)]) r_109_27 rfl rfl rfl ?_
        obtain ⟨x28, e_x28⟩ : ∃ z, z = m 192 11 := ⟨_, rfl⟩
        have b_x28 := gb_192_11 hm
        rw [← e_x28] at b_x28
        refine gx_gf (x := x28) 0 r_109_28 rfl (tk_192 hT) ⟨by decide, rfl, by decide, by decide⟩ rfl (fun z => absurd z (by decide)) (e_x28.symm) ?_
        refine gx_st (L' := [(2, 192), (0, lo), (0, hi), (9, 0)]) (S' := [(1, x28)]) r_109_31 rfl rfl rfl ?_
        refine gx_st (L' := [(2, 192), (0, lo), (0, hi), (9, 0)]) (S' := [(0, lo), (1, x28)]) r_109_32 rfl rfl rfl ?_
        refine gx_st (L' := [(2, 192), (0, lo), (0, hi), (9, 0)]) (S' := [(1, lo), (1, x28)]) r_109_33 rfl rfl rfl ?_
        refine gx_st (L' := [(2, 192), (0, lo), (0, hi), (9, 0)]) (S' := [(0, hi), (1, lo), (1, x28)]) r_109_34 rfl rfl rfl ?_
        refine gx_st (L' := [(2, 192), (0, lo), (0, hi), (9, 0)]) (S' := [(1, hi), (1, lo), (1, x28)]) r_109_35 rfl rfl rfl ?_
        refine gx_ci (nx := 39) (S2 := []) (x_86 x28 lo hi) r_109_36 rfl rfl rfl rfl rfl rfl rfl (by decide) rfl (fun x36 n36 q36 => ?_)
        obtain rfl := q36.1.symm
        obtain rfl := q36.2.symm
        show GX T 2 109 39 [(2, 192), (0, lo), (0, hi), (9, 0)] [(0, (if lo ≤ x28 ∧ x28 ≤ hi then 1 else 0))] m (RI (fun v m1 => ((lo ≤ v ∧ v ≤ hi) ∨ v = 0) ∧ (m1 192 12 = 0 → v = m 192 11 ∧ m 192 10 = 2 ∧ lo ≤ v ∧ v ≤ hi) ∧ PG m m1))
        refine gx_i0 (P := lo ≤ x28 ∧ x28 ≤ hi) r_109_39 (b01_ne) (fun h39 => ?_) (fun h39 => ?_)
        · refine gx_st (L' := [(2, 192), (0, lo), (0, hi), (9, 0)]) (S' := [(2, 192)]) r_109_47 rfl rfl rfl ?_
          refine gx_ci (nx := 51) (S2 := []) (x_104 hT hm) r_109_48 rfl rfl rfl rfl rfl (rcv_v rfl (tk_192 hT) (by decide) rfl (by decide)) rfl (by decide) rfl (fun x48 n48 q48 => ?_)
          obtain rfl := q48.1.symm
          obtain rfl := q48.2.symm
          show GX T 2 109 51 [(2, 192), (0, lo), (0, hi), (9, 0)] [(0, (if m 192 12 = 0 then 1 else 0))] m (RI (fun v m1 => ((lo ≤ v ∧ v ≤ hi) ∨ v = 0) ∧ (m1 192 12 = 0 → v = m 192 11 ∧ m 192 10 = 2 ∧ lo ≤ v ∧ v ≤ hi) ∧ PG m m1))
          refine gx_i0 (P := m 192 12 = 0) r_109_51 (b01_ne) (fun h51 => ?_) (fun h51 => ?_)
          · refine gx_st (L' := [(2, 192), (0, lo), (0, hi), (9, 0)]) (S' := [(2, 192)]) r_109_56 rfl rfl rfl ?_
            obtain ⟨x57, e_x57⟩ : ∃ z, z = m 192 11 := ⟨_, rfl⟩
            have b_x57 := gb_192_11 hm
            rw [← e_x57] at b_x57
            refine gx_gf (x := x57) 0 r_109_57 rfl (tk_192 hT) ⟨by decide, rfl, by decide, by decide⟩ rfl (fun z => absurd z (by decide)) (e_x57.symm) ?_
            refine gx_st (L' := [(2, 192), (0, lo), (0, hi), (0, x57)]) (S' := []) r_109_60 rfl rfl rfl ?_
            refine gx_st (L' := [(2, 192), (0, lo), (0, hi), (0, x57)]) (S' := [(2, 192)]) r_109_61 rfl rfl rfl ?_
            refine gx_cv (nx := 65) (S2 := []) (x_103 hT hm) r_109_62 rfl rfl rfl rfl rfl (rcv_v rfl (tk_192 hT) (by decide) rfl (by decide)) rfl (by decide) rfl (fun n62 q62 => ?_)
            refine gx_st (L' := [(2, 192), (0, lo), (0, hi), (0, x57)]) (S' := [(0, x57)]) r_109_65 rfl rfl rfl ?_
            exact gx_rt r_109_66 rfl rfl ⟨_, rfl, Or.inl ⟨by omega, by omega⟩, fun _ => ⟨e_x57, by omega, by omega, by omega⟩, PG_av ht (by omega) q62⟩
          · refine gx_st (L' := [(2, 192), (0, lo), (0, hi), (9, 0)]) (S' := [(0, 0)]) r_109_54 rfl rfl rfl ?_
            exact gx_rt r_109_55 rfl rfl ⟨_, rfl, Or.inr rfl, fun z => absurd z h51, PG_er ht (ER_rf hm h51)⟩
        · refine gx_st (L' := [(2, 192), (0, lo), (0, hi), (9, 0)]) (S' := [(2, 192)]) r_109_42 rfl rfl rfl ?_
          refine gx_st (L' := [(2, 192), (0, lo), (0, hi), (9, 0)]) (S' := [(0, 2), (2, 192)]) r_109_43 rfl rfl rfl ?_
          refine gx_cv (nx := 47) (S2 := []) (x_105 hT hm (k := 2) (by decide) (by decide)) r_109_44 rfl rfl rfl rfl rfl (rcv_v rfl (tk_192 hT) (by decide) rfl (by decide)) rfl (by decide) rfl (fun n44 q44 => ?_)
          refine gx_st (L' := [(2, 192), (0, lo), (0, hi), (9, 0)]) (S' := [(2, 192)]) r_109_47 rfl rfl rfl ?_
          refine gx_ci (nx := 51) (S2 := []) (x_104 hT q44.1) r_109_48 rfl rfl rfl rfl rfl (rcv_v rfl (tk_192 hT) (by decide) rfl (by decide)) rfl (by decide) rfl (fun x48 n48 q48 => ?_)
          obtain rfl := q48.1.symm
          obtain rfl := q48.2.symm
          show GX T 2 109 51 [(2, 192), (0, lo), (0, hi), (9, 0)] [(0, (if n44 192 12 = 0 then 1 else 0))] n44 (RI (fun v m1 => ((lo ≤ v ∧ v ≤ hi) ∨ v = 0) ∧ (m1 192 12 = 0 → v = m 192 11 ∧ m 192 10 = 2 ∧ lo ≤ v ∧ v ≤ hi) ∧ PG m m1))
          refine gx_i0 (P := n44 192 12 = 0) r_109_51 (b01_ne) (fun h51 => ?_) (fun h51 => ?_)
          · exact absurd h51 q44.2.2
          · refine gx_st (L' := [(2, 192), (0, lo), (0, hi), (9, 0)]) (S' := [(0, 0)]) r_109_54 rfl rfl rfl ?_
            exact gx_rt r_109_55 rfl rfl ⟨_, rfl, Or.inr rfl, fun z => absurd z q44.2.2, PG_er ht (q44)⟩
    · refine gx_st (L' := [(2, 192), (0, lo), (0, hi), (9, 0)]) (S' := [(2, 192)]) r_109_15 rfl rfl rfl ?_
      refine gx_st (L' := [(2, 192), (0, lo), (0, hi), (9, 0)]) (S' := [(0, 1), (2, 192)]) r_109_16 rfl rfl rfl ?_
      refine gx_cv (nx := 20) (S2 := []) (x_105 hT hm (k := 1) (by decide) (by decide)) r_109_17 rfl rfl rfl rfl rfl (rcv_v rfl (tk_192 hT) (by decide) rfl (by decide)) rfl (by decide) rfl (fun n17 q17 => ?_)
      refine gx_st (L' := [(2, 192), (0, lo), (0, hi), (9, 0)]) (S' := [(2, 192)]) r_109_20 rfl rfl rfl ?_
      refine gx_ci (nx := 24) (S2 := []) (x_104 hT q17.1) r_109_21 rfl rfl rfl rfl rfl (rcv_v rfl (tk_192 hT) (by decide) rfl (by decide)) rfl (by decide) rfl (fun x21 n21 q21 => ?_)
      obtain rfl := q21.1.symm
      obtain rfl := q21.2.symm
      show GX T 2 109 24 [(2, 192), (0, lo), (0, hi), (9, 0)] [(0, (if n17 192 12 = 0 then 1 else 0))] n17 (RI (fun v m1 => ((lo ≤ v ∧ v ≤ hi) ∨ v = 0) ∧ (m1 192 12 = 0 → v = m 192 11 ∧ m 192 10 = 2 ∧ lo ≤ v ∧ v ≤ hi) ∧ PG m m1))
      refine gx_i0 (P := ¬ (n17 192 12 = 0)) r_109_24 (b01_eq) (fun h24 => ?_) (fun h24 => ?_)
      · refine gx_st (L' := [(2, 192), (0, lo), (0, hi), (9, 0)]) (S' := [(2, 192)]) r_109_47 rfl rfl rfl ?_
        refine gx_ci (nx := 51) (S2 := []) (x_104 hT q17.1) r_109_48 rfl rfl rfl rfl rfl (rcv_v rfl (tk_192 hT) (by decide) rfl (by decide)) rfl (by decide) rfl (fun x48 n48 q48 => ?_)
        obtain rfl := q48.1.symm
        obtain rfl := q48.2.symm
        show GX T 2 109 51 [(2, 192), (0, lo), (0, hi), (9, 0)] [(0, (if n17 192 12 = 0 then 1 else 0))] n17 (RI (fun v m1 => ((lo ≤ v ∧ v ≤ hi) ∨ v = 0) ∧ (m1 192 12 = 0 → v = m 192 11 ∧ m 192 10 = 2 ∧ lo ≤ v ∧ v ≤ hi) ∧ PG m m1))
        refine gx_i0 (P := n17 192 12 = 0) r_109_51 (b01_ne) (fun h51 => ?_) (fun h51 => ?_)
        · exact absurd h51 q17.2.2
        · refine gx_st (L' := [(2, 192), (0, lo), (0, hi), (9, 0)]) (S' := [(0, 0)]) r_109_54 rfl rfl rfl ?_
          exact gx_rt r_109_55 rfl rfl ⟨_, rfl, Or.inr rfl, fun z => absurd z q17.2.2, PG_er ht (q17)⟩
      · have h24 := Decidable.not_not.mp h24
        exact absurd h24 q17.2.2
theorem x_110 (hT : TT T) (hm : Gam m) {o : Int} {q n : Nat} (hq : q < 15) (ho : o = 1000000 + (q : Int)) (hn : slen q = some n) (ht : TK m) (lo hi : Int) : GX T 4 110 0 [(2, 192), (2, o), (0, lo), (0, hi)] [] m (RI (fun v m1 => ((lo ≤ v ∧ v ≤ hi) ∨ v = 0) ∧ PG m m1)) := by
  refine gx_st (L' := [(2, 192), (2, o), (0, lo), (0, hi)]) (S' := [(2, 192)]) r_110_0 rfl rfl rfl ?_
  refine gx_st (L' := [(2, 192), (2, o), (0, lo), (0, hi)]) (S' := [(2, o), (2, 192)]) r_110_1 rfl rfl rfl ?_
  refine gx_cv (nx := 5) (S2 := []) (x_108 hT hm hq ho hn ht) r_110_2 rfl rfl rfl rfl rfl (rcv_v rfl (tk_192 hT) (by decide) rfl (by decide)) rfl (by decide) rfl (fun n2 q2 => ?_)
  refine gx_st (L' := [(2, 192), (2, o), (0, lo), (0, hi)]) (S' := [(2, 192)]) r_110_5 rfl rfl rfl ?_
  refine gx_st (L' := [(2, 192), (2, o), (0, lo), (0, hi)]) (S' := [(0, lo), (2, 192)]) r_110_6 rfl rfl rfl ?_
  refine gx_st (L' := [(2, 192), (2, o), (0, lo), (0, hi)]) (S' := [(0, hi), (0, lo), (2, 192)]) r_110_7 rfl rfl rfl ?_
  refine gx_ci (nx := 11) (S2 := []) (x_109 hT q2.1 q2.2.2.1 lo hi) r_110_8 rfl rfl rfl rfl rfl (rcv_v rfl (tk_192 hT) (by decide) rfl (by decide)) rfl (by decide) rfl (fun x8 n8 q8 => ?_)
  show GX T 4 110 11 [(2, 192), (2, o), (0, lo), (0, hi)] [(0, x8)] n8 (RI (fun v m1 => ((lo ≤ v ∧ v ≤ hi) ∨ v = 0) ∧ PG m m1))
  exact gx_rt r_110_11 rfl rfl ⟨_, rfl, q8.1, PG_tr q2 q8.2.2⟩
theorem x_112 (hT : TT T) (hm : Gam m) (ht : TK m) : GX T 3 112 0 [(2, 192)] [] m (RI (fun v m1 => 0 ≤ v ∧ v ≤ 6 ∧ (m1 192 12 = 0 → v = m 192 11 ∧ m 192 10 = 2) ∧ PG m m1)) := by
  refine gx_st (L' := [(2, 192)]) (S' := [(2, 192)]) r_112_0 rfl rfl rfl ?_
  refine gx_st (L' := [(2, 192)]) (S' := [(0, 0), (2, 192)]) r_112_1 rfl rfl rfl ?_
  refine gx_st (L' := [(2, 192)]) (S' := [(2, 192), (0, 0), (2, 192)]) r_112_2 rfl rfl rfl ?_
  refine gx_gf (x := 198) 2 r_112_3 rfl (tk_192 hT) ⟨by decide, rfl, by decide, by decide⟩ rfl (fun _ => by decide) (pr_192_14 hm) ?_
  refine gx_st (L' := [(2, 192)]) (S' := [(0, 0), (2, 198), (0, 0), (2, 192)]) r_112_6 rfl rfl rfl ?_
  obtain ⟨x7, e_x7⟩ : ∃ z, z = m 198 (0) := ⟨_, rfl⟩
  have b_x7 := gb_198_0 hm
  rw [← e_x7] at b_x7
  refine gx_ia (n := 0) (x := x7) r_112_7 rfl (tk_198 hT) (rfl) ⟨rfl, by decide⟩ (e_x7.symm) ?_
  refine gx_st (L' := [(2, 192)]) (S' := [(0, 1), (0, x7), (0, 0), (2, 192)]) r_112_8 rfl rfl rfl ?_
  refine gx_ar (L' := [(2, 192)]) (S' := [(0, 0), (2, 192)]) (t := 0) (e := w32 (x7 - 1)) (z := x7 - 1) r_112_9 rfl rfl rfl (w32_eq (by omega) (by omega) (by omega)) ?_
  refine gx_ci (nx := 13) (S2 := []) (x_109 hT hm ht 0 (x7 - 1)) r_112_10 rfl rfl rfl rfl rfl (rcv_v rfl (tk_192 hT) (by decide) rfl (by decide)) rfl (by decide) rfl (fun x10 n10 q10 => ?_)
  show GX T 3 112 13 [(2, 192)] [(0, x10)] n10 (RI (fun v m1 => 0 ≤ v ∧ v ≤ 6 ∧ (m1 192 12 = 0 → v = m 192 11 ∧ m 192 10 = 2) ∧ PG m m1))
  have bb := q10.1
  exact gx_rt r_112_13 rfl rfl ⟨_, rfl, by omega, by omega, fun z => ⟨(q10.2.1 z).1, (q10.2.1 z).2.1⟩, q10.2.2⟩
end WORDS
