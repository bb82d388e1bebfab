/-! the parser of the reference: lines -/
theorem r_113_0 : row 113 0 = some (.aload_n 0, 1, 0, 0, 0, 0) := rfl
theorem r_113_1 : row 113 1 = some (.ldc 164, 3, 1000005, 1, 0, 6180) := rfl
theorem r_113_3 : row 113 3 = some (.invokevirtual 157, 6, 108, 1, 0, 6181) := rfl
theorem r_113_6 : row 113 6 = some (.aload_n 0, 7, 0, 0, 0, 0) := rfl
theorem r_113_7 : row 113 7 = some (.getfield 31, 10, 10, 14, 2, 6015) := rfl
theorem r_113_10 : row 113 10 = some (.iconst 0, 11, 0, 0, 0, 0) := rfl
theorem r_113_11 : row 113 11 = some (.aload_n 0, 12, 0, 0, 0, 0) := rfl
theorem r_113_12 : row 113 12 = some (.ldc 166, 14, 1000006, 1, 0, 6199) := rfl
theorem r_113_14 : row 113 14 = some (.iconst 2, 15, 2, 0, 0, 0) := rfl
theorem r_113_15 : row 113 15 = some (.bipush 7, 17, 7, 0, 0, 0) := rfl
theorem r_113_17 : row 113 17 = some (.invokevirtual 168, 20, 110, 3, 0, 6200) := rfl
theorem r_113_20 : row 113 20 = some (.iastore, 21, 0, 0, 0, 0) := rfl
theorem r_113_21 : row 113 21 = some (.aload_n 0, 22, 0, 0, 0, 0) := rfl
theorem r_113_22 : row 113 22 = some (.getfield 31, 25, 10, 14, 2, 6015) := rfl
theorem r_113_25 : row 113 25 = some (.iconst 1, 26, 1, 0, 0, 0) := rfl
theorem r_113_26 : row 113 26 = some (.aload_n 0, 27, 0, 0, 0, 0) := rfl
theorem r_113_27 : row 113 27 = some (.ldc 172, 29, 1000007, 1, 0, 6208) := rfl
theorem r_113_29 : row 113 29 = some (.iconst 1, 30, 1, 0, 0, 0) := rfl
theorem r_113_30 : row 113 30 = some (.bipush 12, 32, 12, 0, 0, 0) := rfl
theorem r_113_32 : row 113 32 = some (.invokevirtual 168, 35, 110, 3, 0, 6200) := rfl
theorem r_113_35 : row 113 35 = some (.iastore, 36, 0, 0, 0, 0) := rfl
theorem r_113_36 : row 113 36 = some (.aload_n 0, 37, 0, 0, 0, 0) := rfl
theorem r_113_37 : row 113 37 = some (.getfield 31, 40, 10, 14, 2, 6015) := rfl
theorem r_113_40 : row 113 40 = some (.iconst 2, 41, 2, 0, 0, 0) := rfl
theorem r_113_41 : row 113 41 = some (.aload_n 0, 42, 0, 0, 0, 0) := rfl
theorem r_113_42 : row 113 42 = some (.ldc 174, 44, 1000008, 1, 0, 6209) := rfl
theorem r_113_44 : row 113 44 = some (.iconst 1, 45, 1, 0, 0, 0) := rfl
theorem r_113_45 : row 113 45 = some (.bipush 20, 47, 20, 0, 0, 0) := rfl
theorem r_113_47 : row 113 47 = some (.invokevirtual 168, 50, 110, 3, 0, 6200) := rfl
theorem r_113_50 : row 113 50 = some (.iastore, 51, 0, 0, 0, 0) := rfl
theorem r_113_51 : row 113 51 = some (.aload_n 0, 52, 0, 0, 0, 0) := rfl
theorem r_113_52 : row 113 52 = some (.getfield 31, 55, 10, 14, 2, 6015) := rfl
theorem r_113_55 : row 113 55 = some (.iconst 3, 56, 3, 0, 0, 0) := rfl
theorem r_113_56 : row 113 56 = some (.aload_n 0, 57, 0, 0, 0, 0) := rfl
theorem r_113_57 : row 113 57 = some (.ldc 176, 59, 1000009, 1, 0, 6210) := rfl
theorem r_113_59 : row 113 59 = some (.iconst 0, 60, 0, 0, 0, 0) := rfl
theorem r_113_60 : row 113 60 = some (.bipush 10, 62, 10, 0, 0, 0) := rfl
theorem r_113_62 : row 113 62 = some (.invokevirtual 168, 65, 110, 3, 0, 6200) := rfl
theorem r_113_65 : row 113 65 = some (.iastore, 66, 0, 0, 0, 0) := rfl
theorem r_113_66 : row 113 66 = some (.return_, 67, 0, 0, 0, 0) := rfl
theorem r_114_0 : row 114 0 = some (.bipush 11, 2, 11, 0, 0, 0) := rfl
theorem r_114_2 : row 114 2 = some (.iconst 2, 3, 2, 0, 0, 0) := rfl
theorem r_114_3 : row 114 3 = some (.aload_n 0, 4, 0, 0, 0, 0) := rfl
theorem r_114_4 : row 114 4 = some (.getfield 31, 7, 10, 14, 2, 6015) := rfl
theorem r_114_7 : row 114 7 = some (.iconst 4, 8, 4, 0, 0, 0) := rfl
theorem r_114_8 : row 114 8 = some (.iaload, 9, 0, 0, 0, 0) := rfl
theorem r_114_9 : row 114 9 = some (.imul, 10, 0, 0, 0, 0) := rfl
theorem r_114_10 : row 114 10 = some (.iadd, 11, 0, 0, 0, 0) := rfl
theorem r_114_11 : row 114 11 = some (.istore_n 1, 12, 0, 0, 0, 0) := rfl
theorem r_114_12 : row 114 12 = some (.aload_n 0, 13, 0, 0, 0, 0) := rfl
theorem r_114_13 : row 114 13 = some (.getfield 31, 16, 10, 14, 2, 6015) := rfl
theorem r_114_16 : row 114 16 = some (.iload_n 1, 17, 0, 0, 0, 0) := rfl
theorem r_114_17 : row 114 17 = some (.aload_n 0, 18, 0, 0, 0, 0) := rfl
theorem r_114_18 : row 114 18 = some (.invokevirtual 178, 21, 112, 0, 0, 6224) := rfl
theorem r_114_21 : row 114 21 = some (.iastore, 22, 0, 0, 0, 0) := rfl
theorem r_114_22 : row 114 22 = some (.aload_n 0, 23, 0, 0, 0, 0) := rfl
theorem r_114_23 : row 114 23 = some (.ldc 181, 25, 1000010, 1, 0, 6228) := rfl
theorem r_114_25 : row 114 25 = some (.invokevirtual 157, 28, 108, 1, 0, 6181) := rfl
theorem r_114_28 : row 114 28 = some (.aload_n 0, 29, 0, 0, 0, 0) := rfl
theorem r_114_29 : row 114 29 = some (.invokevirtual 130, 32, 104, 0, 0, 6168) := rfl
theorem r_114_32 : row 114 32 = some (.ifCond .eq 29, 35, 61, 0, 0, 0) := rfl
theorem r_114_35 : row 114 35 = some (.aload_n 0, 36, 0, 0, 0, 0) := rfl
theorem r_114_36 : row 114 36 = some (.getfield 106, 39, 10, 10, 0, 6011) := rfl
theorem r_114_39 : row 114 39 = some (.iconst 2, 40, 2, 0, 0, 0) := rfl
theorem r_114_40 : row 114 40 = some (.if_icmp .ne 21, 43, 61, 0, 0, 0) := rfl
theorem r_114_43 : row 114 43 = some (.aload_n 0, 44, 0, 0, 0, 0) := rfl
theorem r_114_44 : row 114 44 = some (.getfield 117, 47, 10, 11, 0, 6012) := rfl
theorem r_114_47 : row 114 47 = some (.aload_n 0, 48, 0, 0, 0, 0) := rfl
theorem r_114_48 : row 114 48 = some (.getfield 31, 51, 10, 14, 2, 6015) := rfl
theorem r_114_51 : row 114 51 = some (.iload_n 1, 52, 0, 0, 0, 0) := rfl
theorem r_114_52 : row 114 52 = some (.iaload, 53, 0, 0, 0, 0) := rfl
theorem r_114_53 : row 114 53 = some (.if_icmp .ne 8, 56, 61, 0, 0, 0) := rfl
theorem r_114_56 : row 114 56 = some (.aload_n 0, 57, 0, 0, 0, 0) := rfl
theorem r_114_57 : row 114 57 = some (.iconst 2, 58, 2, 0, 0, 0) := rfl
theorem r_114_58 : row 114 58 = some (.invokevirtual 153, 61, 105, 1, 0, 6195) := rfl
theorem r_114_61 : row 114 61 = some (.aload_n 0, 62, 0, 0, 0, 0) := rfl
theorem r_114_62 : row 114 62 = some (.getfield 31, 65, 10, 14, 2, 6015) := rfl
theorem r_114_65 : row 114 65 = some (.iload_n 1, 66, 0, 0, 0, 0) := rfl
theorem r_114_66 : row 114 66 = some (.iconst 1, 67, 1, 0, 0, 0) := rfl
theorem r_114_67 : row 114 67 = some (.iadd, 68, 0, 0, 0, 0) := rfl
theorem r_114_68 : row 114 68 = some (.aload_n 0, 69, 0, 0, 0, 0) := rfl
theorem r_114_69 : row 114 69 = some (.invokevirtual 178, 72, 112, 0, 0, 6224) := rfl
theorem r_114_72 : row 114 72 = some (.iastore, 73, 0, 0, 0, 0) := rfl
theorem r_114_73 : row 114 73 = some (.aload_n 0, 74, 0, 0, 0, 0) := rfl
theorem r_114_74 : row 114 74 = some (.getfield 31, 77, 10, 14, 2, 6015) := rfl
theorem r_114_77 : row 114 77 = some (.iconst 4, 78, 4, 0, 0, 0) := rfl
theorem r_114_78 : row 114 78 = some (.dup2, 79, 0, 0, 0, 0) := rfl
theorem r_114_79 : row 114 79 = some (.iaload, 80, 0, 0, 0, 0) := rfl
theorem r_114_80 : row 114 80 = some (.iconst 1, 81, 1, 0, 0, 0) := rfl
theorem r_114_81 : row 114 81 = some (.iadd, 82, 0, 0, 0, 0) := rfl
theorem r_114_82 : row 114 82 = some (.iastore, 83, 0, 0, 0, 0) := rfl
theorem r_114_83 : row 114 83 = some (.return_, 84, 0, 0, 0, 0) := rfl
theorem r_115_0 : row 115 0 = some (.iload_n 1, 1, 0, 0, 0, 0) := rfl
theorem r_115_1 : row 115 1 = some (.iconst 2, 2, 2, 0, 0, 0) := rfl
theorem r_115_2 : row 115 2 = some (.aload_n 0, 3, 0, 0, 0, 0) := rfl
theorem r_115_3 : row 115 3 = some (.getfield 31, 6, 10, 14, 2, 6015) := rfl
theorem r_115_6 : row 115 6 = some (.iload_n 2, 7, 0, 0, 0, 0) := rfl
theorem r_115_7 : row 115 7 = some (.iaload, 8, 0, 0, 0, 0) := rfl
theorem r_115_8 : row 115 8 = some (.imul, 9, 0, 0, 0, 0) := rfl
theorem r_115_9 : row 115 9 = some (.iadd, 10, 0, 0, 0, 0) := rfl
theorem r_115_10 : row 115 10 = some (.istore 6, 12, 0, 0, 0, 0) := rfl
theorem r_115_12 : row 115 12 = some (.aload_n 0, 13, 0, 0, 0, 0) := rfl
theorem r_115_13 : row 115 13 = some (.ldc 183, 15, 1000014, 1, 0, 6234) := rfl
theorem r_115_15 : row 115 15 = some (.invokevirtual 157, 18, 108, 1, 0, 6181) := rfl
theorem r_115_18 : row 115 18 = some (.aload_n 0, 19, 0, 0, 0, 0) := rfl
theorem r_115_19 : row 115 19 = some (.getfield 31, 22, 10, 14, 2, 6015) := rfl
theorem r_115_22 : row 115 22 = some (.iload 6, 24, 0, 0, 0, 0) := rfl
theorem r_115_24 : row 115 24 = some (.aload_n 0, 25, 0, 0, 0, 0) := rfl
theorem r_115_25 : row 115 25 = some (.invokevirtual 178, 28, 112, 0, 0, 6224) := rfl
theorem r_115_28 : row 115 28 = some (.iastore, 29, 0, 0, 0, 0) := rfl
theorem r_115_29 : row 115 29 = some (.aload_n 0, 30, 0, 0, 0, 0) := rfl
theorem r_115_30 : row 115 30 = some (.getfield 31, 33, 10, 14, 2, 6015) := rfl
theorem r_115_33 : row 115 33 = some (.iload 6, 35, 0, 0, 0, 0) := rfl
theorem r_115_35 : row 115 35 = some (.iconst 1, 36, 1, 0, 0, 0) := rfl
theorem r_115_36 : row 115 36 = some (.iadd, 37, 0, 0, 0, 0) := rfl
theorem r_115_37 : row 115 37 = some (.aload_n 0, 38, 0, 0, 0, 0) := rfl
theorem r_115_38 : row 115 38 = some (.aload_n 3, 39, 0, 0, 0, 0) := rfl
theorem r_115_39 : row 115 39 = some (.iload 4, 41, 0, 0, 0, 0) := rfl
theorem r_115_41 : row 115 41 = some (.iload 5, 43, 0, 0, 0, 0) := rfl
theorem r_115_43 : row 115 43 = some (.invokevirtual 168, 46, 110, 3, 0, 6200) := rfl
theorem r_115_46 : row 115 46 = some (.iastore, 47, 0, 0, 0, 0) := rfl
theorem r_115_47 : row 115 47 = some (.aload_n 0, 48, 0, 0, 0, 0) := rfl
theorem r_115_48 : row 115 48 = some (.getfield 31, 51, 10, 14, 2, 6015) := rfl
theorem r_115_51 : row 115 51 = some (.iload_n 2, 52, 0, 0, 0, 0) := rfl
theorem r_115_52 : row 115 52 = some (.dup2, 53, 0, 0, 0, 0) := rfl
theorem r_115_53 : row 115 53 = some (.iaload, 54, 0, 0, 0, 0) := rfl
theorem r_115_54 : row 115 54 = some (.iconst 1, 55, 1, 0, 0, 0) := rfl
theorem r_115_55 : row 115 55 = some (.iadd, 56, 0, 0, 0, 0) := rfl
theorem r_115_56 : row 115 56 = some (.iastore, 57, 0, 0, 0, 0) := rfl
theorem r_115_57 : row 115 57 = some (.return_, 58, 0, 0, 0, 0) := rfl
theorem sl_0 : slen 0 = some 4 := by decide +kernel
theorem sl_1 : slen 1 = some 4 := by decide +kernel
theorem sl_2 : slen 2 = some 4 := by decide +kernel
theorem sl_3 : slen 3 = some 5 := by decide +kernel
theorem sl_4 : slen 4 = some 6 := by decide +kernel
theorem sl_5 : slen 5 = some 4 := by decide +kernel
theorem sl_6 : slen 6 = some 6 := by decide +kernel
theorem sl_7 : slen 7 = some 5 := by decide +kernel
theorem sl_8 : slen 8 = some 6 := by decide +kernel
theorem sl_9 : slen 9 = some 4 := by decide +kernel
theorem sl_10 : slen 10 = some 2 := by decide +kernel
theorem sl_11 : slen 11 = some 5 := by decide +kernel
theorem sl_12 : slen 12 = some 4 := by decide +kernel
theorem sl_13 : slen 13 = some 8 := by decide +kernel
theorem sl_14 : slen 14 = some 2 := by decide +kernel
def FG (m m' : Mm) : Prop := Gam m' ∧ Fr [90008, 90009, 90010, 90011, 90012, 90013, 96999] m m' ∧ TK m' ∧ m 192 9 ≤ m' 192 9 ∧ (m' 192 12 = 0 → m 192 12 = 0 ∧ (m 192 10 = 0 ∨ m 192 9 < m' 192 9))
theorem FG_pg {m m' : Mm} (h : PG m m') : FG m m' := ⟨h.1, Fr_sub h.2.1 (by decide), h.2.2⟩
theorem FG_tr {a b c : Mm} (h1 : FG a b) (h2 : FG b c) : FG a c := by
  obtain ⟨a1, a2, a3, a4, a5⟩ := h1
  obtain ⟨b1, b2, b3, b4, b5⟩ := h2
  refine ⟨b1, Fr_tr a2 b2, b3, by omega, fun z => ?_⟩
  obtain ⟨c1, c2⟩ := b5 z
  obtain ⟨d1, d2⟩ := a5 c1
  exact ⟨d1, by omega⟩
theorem FG_wr {a b : Mm} {i : Nat} {x : Int} (h : FG a b) (hg : Gam (nu_up b 198 i x)) : FG a (nu_up b 198 i x) := by
  obtain ⟨a1, a2, a3, a4, a5⟩ := h
  have e : ∀ j, (nu_up b 198 i x) 192 j = b 192 j := fun j => nu_no (by decide)
  refine ⟨hg, Fr_tr a2 (Fr_ua rfl rfl), ?_, ?_, ?_⟩
  · unfold TK at *; rw [e, e, e]; exact a3
  · rw [e]; exact a4
  · rw [e, e]; exact a5
/-- the fresh world: no acts; without a fault, paths join unlike places -/
def FI (m : Mm) : Prop := m 198 8 = 0 ∧ (m 192 12 = 0 → ∀ k : Nat, k < 10 → (k : Int) < m 198 4 → ¬ m 198 (11 + 2 * k) = m 198 (12 + 2 * k))
theorem FI_pg {m m' : Mm} (h : FI m) (hp : PG m m') : FI m' := by
  have e := PG_f hp
  refine ⟨by rw [e]; exact h.1, fun z k hk hk2 => ?_⟩
  rw [e, e]
  exact h.2 (hp.2.2.2.2 z).1 k hk (by rw [← e]; exact hk2)
theorem FI_wr {b : Mm} {i : Nat} {x : Int} (h : FI b) (hi : ¬ i = 8 ∧ ¬ i = 4 ∧ (i < 11 ∨ 30 < i)) : FI (nu_up b 198 i x) := by
  refine ⟨by rw [nu_ne (by omega)]; exact h.1, fun z k hk hk2 => ?_⟩
  rw [nu_no (by decide)] at z
  rw [nu_ne (by omega)] at hk2
  rw [nu_ne (by omega), nu_ne (by omega)]
  exact h.2 z k hk hk2
theorem FI_pw {b : Mm} {i c : Nat} {x : Int} (h : FI b) (hc : b 198 4 = (c : Int)) (hi : 11 + 2 * c ≤ i ∧ i < 31) : FI (nu_up b 198 i x) := by
  refine ⟨by rw [nu_ne (by omega)]; exact h.1, fun z k hk hk2 => ?_⟩
  rw [nu_no (by decide)] at z
  rw [nu_ne (by omega)] at hk2
  rw [nu_ne (by omega), nu_ne (by omega)]
  exact h.2 z k hk hk2
theorem FI_add {b : Mm} {c : Nat} (h : FI b) (hc : b 198 4 = (c : Int)) (hu : b 192 12 = 0 → ¬ b 198 (11 + 2 * c) = b 198 (12 + 2 * c)) : FI (nu_up b 198 4 ((c : Int) + 1)) := by
  refine ⟨by rw [nu_ne (by decide)]; exact h.1, fun z k hk hk2 => ?_⟩
  rw [nu_no (by decide)] at z
  rw [nu_at] at hk2
  rw [nu_ne (by omega), nu_ne (by omega)]
  by_cases e : k = c
  · rw [e]; exact hu z
  · exact h.2 z k hk (by omega)
def RP (m m' : Mm) : Prop := FG m m' ∧ FI m' ∧ m' 198 9 = m 198 9
section LINES
variable {T : List Kd}
theorem x_113 {m : Mm} (hT : TT T) (hm : Gam m) (ht : TK m) (hi : FI m) : GX T 5 113 0 [(2, 192)] [] m (RV (RP m)) := by
  refine gx_st (L' := [(2, 192)]) (S' := [(2, 192)]) r_113_0 rfl rfl rfl ?_
  refine gx_st (L' := [(2, 192)]) (S' := [(2, 1000005), (2, 192)]) r_113_1 rfl rfl rfl ?_
  refine gx_cv (nx := 6) (S2 := []) (x_108 hT (hm) (o := 1000005) (q := 5) (n := 4) (by decide) (by decide) sl_5 (ht)) r_113_3 rfl rfl rfl rfl rfl (rcv_v rfl (tk_192 hT) (by decide) rfl (by decide)) rfl (by decide) rfl (fun n3 q3 => ?_)
  have g_n3 : FG m n3 := FG_pg q3
  have i_n3 : FI n3 := FI_pg hi q3
  have w9_n3 : n3 198 (9) = m 198 9 := (PG_f q3 (9)).trans (rfl)
  refine gx_st (L' := [(2, 192)]) (S' := [(2, 192)]) r_113_6 rfl rfl rfl ?_
  refine gx_gf (x := 198) 2 r_113_7 rfl (tk_192 hT) ⟨by decide, rfl, by decide, by decide⟩ rfl (fun _ => by decide) (pr_192_14 q3.1) ?_
  refine gx_st (L' := [(2, 192)]) (S' := [(0, 0), (2, 198)]) r_113_10 rfl rfl rfl ?_
  refine gx_st (L' := [(2, 192)]) (S' := [(2, 192), (0, 0), (2, 198)]) r_113_11 rfl rfl rfl ?_
  refine gx_st (L' := [(2, 192)]) (S' := [(2, 1000006), (2, 192), (0, 0), (2, 198)]) r_113_12 rfl rfl rfl ?_
  refine gx_st (L' := [(2, 192)]) (S' := [(0, 2), (2, 1000006), (2, 192), (0, 0), (2, 198)]) r_113_14 rfl rfl rfl ?_
  refine gx_st (L' := [(2, 192)]) (S' := [(0, 7), (0, 2), (2, 1000006), (2, 192), (0, 0), (2, 198)]) r_113_15 rfl rfl rfl ?_
  refine gx_ci (nx := 20) (S2 := [(0, 0), (2, 198)]) (x_110 hT (q3.1) (o := 1000006) (q := 6) (n := 6) (by decide) (by decide) sl_6 (q3.2.2.1) 2 7) r_113_17 rfl rfl rfl rfl rfl (rcv_v rfl (tk_192 hT) (by decide) rfl (by decide)) rfl (by decide) rfl (fun x17 n17 q17 => ?_)
  have bb17 := q17.1
  show GX T 5 113 20 [(2, 192)] [(0, x17), (0, 0), (2, 198)] n17 (RV (RP m))
  have g_n17 : FG m n17 := FG_tr g_n3 (FG_pg q17.2)
  have i_n17 : FI n17 := FI_pg i_n3 q17.2
  have w9_n17 : n17 198 (9) = m 198 9 := (PG_f q17.2 (9)).trans (w9_n3)
  obtain ⟨m1, e_m1⟩ : ∃ z, z = nu_up n17 198 (0) x17 := ⟨_, rfl⟩
  have h_m1 : Gam m1 := by rw [e_m1]; exact gu_198_0 (q17.2.1) (by omega) (by omega)
  have g_m1 : FG m m1 := by rw [e_m1]; exact FG_wr g_n17 (by rw [← e_m1]; exact h_m1)
  have i_m1 : FI m1 := by rw [e_m1]; exact FI_wr i_n17 (by omega)
  have w9_m1 : m1 198 (9) = m 198 9 := by rw [e_m1, nu_ne (by omega)]; exact w9_n17
  refine gx_is (n := 0) (x := x17) r_113_20 rfl (by decide) (tk_198 hT) (rfl) ⟨rfl, by decide⟩ e_m1.symm ?_
  refine gx_st (L' := [(2, 192)]) (S' := [(2, 192)]) r_113_21 rfl rfl rfl ?_
  refine gx_gf (x := 198) 2 r_113_22 rfl (tk_192 hT) ⟨by decide, rfl, by decide, by decide⟩ rfl (fun _ => by decide) (pr_192_14 h_m1) ?_
  refine gx_st (L' := [(2, 192)]) (S' := [(0, 1), (2, 198)]) r_113_25 rfl rfl rfl ?_
  refine gx_st (L' := [(2, 192)]) (S' := [(2, 192), (0, 1), (2, 198)]) r_113_26 rfl rfl rfl ?_
  refine gx_st (L' := [(2, 192)]) (S' := [(2, 1000007), (2, 192), (0, 1), (2, 198)]) r_113_27 rfl rfl rfl ?_
  refine gx_st (L' := [(2, 192)]) (S' := [(0, 1), (2, 1000007), (2, 192), (0, 1), (2, 198)]) r_113_29 rfl rfl rfl ?_
  refine gx_st (L' := [(2, 192)]) (S' := [(0, 12), (0, 1), (2, 1000007), (2, 192), (0, 1), (2, 198)]) r_113_30 rfl rfl rfl ?_
  refine gx_ci (nx := 35) (S2 := [(0, 1), (2, 198)]) (x_110 hT (h_m1) (o := 1000007) (q := 7) (n := 5) (by decide) (by decide) sl_7 (g_m1.2.2.1) 1 12) r_113_32 rfl rfl rfl rfl rfl (rcv_v rfl (tk_192 hT) (by decide) rfl (by decide)) rfl (by decide) rfl (fun x32 n32 q32 => ?_)
  have bb32 := q32.1
  show GX T 5 113 35 [(2, 192)] [(0, x32), (0, 1), (2, 198)] n32 (RV (RP m))
  have g_n32 : FG m n32 := FG_tr g_m1 (FG_pg q32.2)
  have i_n32 : FI n32 := FI_pg i_m1 q32.2
  have w9_n32 : n32 198 (9) = m 198 9 := (PG_f q32.2 (9)).trans (w9_m1)
  obtain ⟨m2, e_m2⟩ : ∃ z, z = nu_up n32 198 (1) x32 := ⟨_, rfl⟩
  have h_m2 : Gam m2 := by rw [e_m2]; exact gu_198_1 (q32.2.1) (by omega) (by omega)
  have g_m2 : FG m m2 := by rw [e_m2]; exact FG_wr g_n32 (by rw [← e_m2]; exact h_m2)
  have i_m2 : FI m2 := by rw [e_m2]; exact FI_wr i_n32 (by omega)
  have w9_m2 : m2 198 (9) = m 198 9 := by rw [e_m2, nu_ne (by omega)]; exact w9_n32
  refine gx_is (n := 1) (x := x32) r_113_35 rfl (by decide) (tk_198 hT) (rfl) ⟨rfl, by decide⟩ e_m2.symm ?_
  refine gx_st (L' := [(2, 192)]) (S' := [(2, 192)]) r_113_36 rfl rfl rfl ?_
  refine gx_gf (x := 198) 2 r_113_37 rfl (tk_192 hT) ⟨by decide, rfl, by decide, by decide⟩ rfl (fun _ => by decide) (pr_192_14 h_m2) ?_
  refine gx_st (L' := [(2, 192)]) (S' := [(0, 2), (2, 198)]) r_113_40 rfl rfl rfl ?_
  refine gx_st (L' := [(2, 192)]) (S' := [(2, 192), (0, 2), (2, 198)]) r_113_41 rfl rfl rfl ?_
  refine gx_st (L' := [(2, 192)]) (S' := [(2, 1000008), (2, 192), (0, 2), (2, 198)]) r_113_42 rfl rfl rfl ?_
  refine gx_st (L' := [(2, 192)]) (S' := [(0, 1), (2, 1000008), (2, 192), (0, 2), (2, 198)]) r_113_44 rfl rfl rfl ?_
  refine gx_st (L' := [(2, 192)]) (S' := [(0, 20), (0, 1), (2, 1000008), (2, 192), (0, 2), (2, 198)]) r_113_45 rfl rfl rfl ?_
  refine gx_ci (nx := 50) (S2 := [(0, 2), (2, 198)]) (x_110 hT (h_m2) (o := 1000008) (q := 8) (n := 6) (by decide) (by decide) sl_8 (g_m2.2.2.1) 1 20) r_113_47 rfl rfl rfl rfl rfl (rcv_v rfl (tk_192 hT) (by decide) rfl (by decide)) rfl (by decide) rfl (fun x47 n47 q47 => ?_)
  have bb47 := q47.1
  show GX T 5 113 50 [(2, 192)] [(0, x47), (0, 2), (2, 198)] n47 (RV (RP m))
  have g_n47 : FG m n47 := FG_tr g_m2 (FG_pg q47.2)
  have i_n47 : FI n47 := FI_pg i_m2 q47.2
  have w9_n47 : n47 198 (9) = m 198 9 := (PG_f q47.2 (9)).trans (w9_m2)
  obtain ⟨m3, e_m3⟩ : ∃ z, z = nu_up n47 198 (2) x47 := ⟨_, rfl⟩
  have h_m3 : Gam m3 := by rw [e_m3]; exact gu_198_2 (q47.2.1) (by omega) (by omega)
  have g_m3 : FG m m3 := by rw [e_m3]; exact FG_wr g_n47 (by rw [← e_m3]; exact h_m3)
  have i_m3 : FI m3 := by rw [e_m3]; exact FI_wr i_n47 (by omega)
  have w9_m3 : m3 198 (9) = m 198 9 := by rw [e_m3, nu_ne (by omega)]; exact w9_n47
  refine gx_is (n := 2) (x := x47) r_113_50 rfl (by decide) (tk_198 hT) (rfl) ⟨rfl, by decide⟩ e_m3.symm ?_
  refine gx_st (L' := [(2, 192)]) (S' := [(2, 192)]) r_113_51 rfl rfl rfl ?_
  refine gx_gf (x := 198) 2 r_113_52 rfl (tk_192 hT) ⟨by decide, rfl, by decide, by decide⟩ rfl (fun _ => by decide) (pr_192_14 h_m3) ?_
  refine gx_st (L' := [(2, 192)]) (S' := [(0, 3), (2, 198)]) r_113_55 rfl rfl rfl ?_
  refine gx_st (L' := [(2, 192)]) (S' := [(2, 192), (0, 3), (2, 198)]) r_113_56 rfl rfl rfl ?_
  refine gx_st (L' := [(2, 192)]) (S' := [(2, 1000009), (2, 192), (0, 3), (2, 198)]) r_113_57 rfl rfl rfl ?_
  refine gx_st (L' := [(2, 192)]) (S' := [(0, 0), (2, 1000009), (2, 192), (0, 3), (2, 198)]) r_113_59 rfl rfl rfl ?_
  refine gx_st (L' := [(2, 192)]) (S' := [(0, 10), (0, 0), (2, 1000009), (2, 192), (0, 3), (2, 198)]) r_113_60 rfl rfl rfl ?_
  refine gx_ci (nx := 65) (S2 := [(0, 3), (2, 198)]) (x_110 hT (h_m3) (o := 1000009) (q := 9) (n := 4) (by decide) (by decide) sl_9 (g_m3.2.2.1) 0 10) r_113_62 rfl rfl rfl rfl rfl (rcv_v rfl (tk_192 hT) (by decide) rfl (by decide)) rfl (by decide) rfl (fun x62 n62 q62 => ?_)
  have bb62 := q62.1
  show GX T 5 113 65 [(2, 192)] [(0, x62), (0, 3), (2, 198)] n62 (RV (RP m))
  have g_n62 : FG m n62 := FG_tr g_m3 (FG_pg q62.2)
  have i_n62 : FI n62 := FI_pg i_m3 q62.2
  have w9_n62 : n62 198 (9) = m 198 9 := (PG_f q62.2 (9)).trans (w9_m3)
  obtain ⟨m4, e_m4⟩ : ∃ z, z = nu_up n62 198 (3) x62 := ⟨_, rfl⟩
  have h_m4 : Gam m4 := by rw [e_m4]; exact gu_198_3 (q62.2.1) (by omega) (by omega)
  have g_m4 : FG m m4 := by rw [e_m4]; exact FG_wr g_n62 (by rw [← e_m4]; exact h_m4)
  have i_m4 : FI m4 := by rw [e_m4]; exact FI_wr i_n62 (by omega)
  have w9_m4 : m4 198 (9) = m 198 9 := by rw [e_m4, nu_ne (by omega)]; exact w9_n62
  refine gx_is (n := 3) (x := x62) r_113_65 rfl (by decide) (tk_198 hT) (rfl) ⟨rfl, by decide⟩ e_m4.symm ?_
  exact gx_rt r_113_66 rfl rfl ⟨rfl, g_m4, i_m4, w9_m4⟩
theorem x_114 {m : Mm} (hT : TT T) (hm : Gam m) (ht : TK m) (hi : FI m) {c : Nat} (hc : m 198 4 = (c : Int)) (hc9 : c ≤ 9) : GX T 5 114 0 [(2, 192), (9, 0)] [] m (RV (RP m)) := by
  refine gx_st (L' := [(2, 192), (9, 0)]) (S' := [(0, 11)]) r_114_0 rfl rfl rfl ?_
  refine gx_st (L' := [(2, 192), (9, 0)]) (S' := [(0, 2), (0, 11)]) r_114_2 rfl rfl rfl ?_
  refine gx_st (L' := [(2, 192), (9, 0)]) (S' := [(2, 192), (0, 2), (0, 11)]) r_114_3 rfl rfl rfl ?_
  refine gx_gf (x := 198) 2 r_114_4 rfl (tk_192 hT) ⟨by decide, rfl, by decide, by decide⟩ rfl (fun _ => by decide) (pr_192_14 hm) ?_
  refine gx_st (L' := [(2, 192), (9, 0)]) (S' := [(0, 4), (2, 198), (0, 2), (0, 11)]) r_114_7 rfl rfl rfl ?_
  refine gx_ia (n := 4) (x := (c : Int)) r_114_8 rfl (tk_198 hT) (rfl) ⟨rfl, by decide⟩ (hc) ?_
  refine gx_ar (L' := [(2, 192), (9, 0)]) (S' := [(0, 11)]) (t := 0) (e := w32 (2 * (c : Int))) (z := 2 * (c : Int)) r_114_9 rfl rfl rfl (w32_eq (by omega) (by omega) (by omega)) ?_
  refine gx_ar (L' := [(2, 192), (9, 0)]) (S' := []) (t := 0) (e := w32 (11 + (2 * (c : Int)))) (z := 2 * (c : Int) + 11) r_114_10 rfl rfl rfl (w32_eq (by omega) (by omega) (by omega)) ?_
  refine gx_st (L' := [(2, 192), (0, 2 * (c : Int) + 11)]) (S' := []) r_114_11 rfl rfl rfl ?_
  refine gx_st (L' := [(2, 192), (0, 2 * (c : Int) + 11)]) (S' := [(2, 192)]) r_114_12 rfl rfl rfl ?_
  refine gx_gf (x := 198) 2 r_114_13 rfl (tk_192 hT) ⟨by decide, rfl, by decide, by decide⟩ rfl (fun _ => by decide) (pr_192_14 hm) ?_
  refine gx_st (L' := [(2, 192), (0, 2 * (c : Int) + 11)]) (S' := [(0, 2 * (c : Int) + 11), (2, 198)]) r_114_16 rfl rfl rfl ?_
  refine gx_st (L' := [(2, 192), (0, 2 * (c : Int) + 11)]) (S' := [(2, 192), (0, 2 * (c : Int) + 11), (2, 198)]) r_114_17 rfl rfl rfl ?_
  refine gx_ci (nx := 21) (S2 := [(0, 2 * (c : Int) + 11), (2, 198)]) (x_112 hT (hm) (ht)) r_114_18 rfl rfl rfl rfl rfl (rcv_v rfl (tk_192 hT) (by decide) rfl (by decide)) rfl (by decide) rfl (fun x18 n18 q18 => ?_)
  have bb18 := q18.1
  have bc18 := q18.2.1
  show GX T 5 114 21 [(2, 192), (0, 2 * (c : Int) + 11)] [(0, x18), (0, 2 * (c : Int) + 11), (2, 198)] n18 (RV (RP m))
  have g_n18 : FG m n18 := FG_pg q18.2.2.2
  have i_n18 : FI n18 := FI_pg hi q18.2.2.2
  have w9_n18 : n18 198 (9) = m 198 9 := (PG_f q18.2.2.2 (9)).trans (rfl)
  have w4_n18 : n18 198 (4) = (c : Int) := (PG_f q18.2.2.2 (4)).trans (hc)
  obtain ⟨m1, e_m1⟩ : ∃ z, z = nu_up n18 198 (11 + 2 * c) x18 := ⟨_, rfl⟩
  have h_m1 : Gam m1 := by rw [e_m1]; exact gu_198_pa (q18.2.2.2.1) (k := 2 * c) (by omega) (by omega) (by omega)
  have g_m1 : FG m m1 := by rw [e_m1]; exact FG_wr g_n18 (by rw [← e_m1]; exact h_m1)
  have i_m1 : FI m1 := by rw [e_m1]; exact FI_pw i_n18 (w4_n18) (by omega)
  have w9_m1 : m1 198 (9) = m 198 9 := by rw [e_m1, nu_ne (by omega)]; exact w9_n18
  have w4_m1 : m1 198 (4) = (c : Int) := by rw [e_m1, nu_ne (by omega)]; exact w4_n18
  have w112c_m1 : m1 198 (11 + 2 * c) = x18 := by rw [e_m1, nu_at]
  refine gx_is (n := 11 + 2 * c) (x := x18) r_114_21 rfl (by decide) (tk_198 hT) (by omega) ⟨rfl, by omega⟩ e_m1.symm ?_
  refine gx_st (L' := [(2, 192), (0, 2 * (c : Int) + 11)]) (S' := [(2, 192)]) r_114_22 rfl rfl rfl ?_
  refine gx_st (L' := [(2, 192), (0, 2 * (c : Int) + 11)]) (S' := [(2, 1000010), (2, 192)]) r_114_23 rfl rfl rfl ?_
  refine gx_cv (nx := 28) (S2 := []) (x_108 hT (h_m1) (o := 1000010) (q := 10) (n := 2) (by decide) (by decide) sl_10 (g_m1.2.2.1)) r_114_25 rfl rfl rfl rfl rfl (rcv_v rfl (tk_192 hT) (by decide) rfl (by decide)) rfl (by decide) rfl (fun n25 q25 => ?_)
  have g_n25 : FG m n25 := FG_tr g_m1 (FG_pg q25)
  have i_n25 : FI n25 := FI_pg i_m1 q25
  have w9_n25 : n25 198 (9) = m 198 9 := (PG_f q25 (9)).trans (w9_m1)
  have w4_n25 : n25 198 (4) = (c : Int) := (PG_f q25 (4)).trans (w4_m1)
  have w112c_n25 : n25 198 (11 + 2 * c) = x18 := (PG_f q25 (11 + 2 * c)).trans (w112c_m1)
  refine gx_st (L' := [(2, 192), (0, 2 * (c : Int) + 11)]) (S' := [(2, 192)]) r_114_28 rfl rfl rfl ?_
  refine gx_ci (nx := 32) (S2 := []) (x_104 hT q25.1) r_114_29 rfl rfl rfl rfl rfl (rcv_v rfl (tk_192 hT) (by decide) rfl (by decide)) rfl (by decide) rfl (fun x29 n29 q29 => ?_)
  obtain rfl := q29.1.symm
  obtain rfl := q29.2.symm
  show GX T 5 114 32 [(2, 192), (0, 2 * (c : Int) + 11)] [(0, (if n25 192 12 = 0 then 1 else 0))] n25 (RV (RP m))
  refine gx_i0 (P := ¬ (n25 192 12 = 0)) r_114_32 (b01_eq) (fun h32 => ?_) (fun h32 => ?_)
  · refine gx_st (L' := [(2, 192), (0, 2 * (c : Int) + 11)]) (S' := [(2, 192)]) r_114_61 rfl rfl rfl ?_
    refine gx_gf (x := 198) 2 r_114_62 rfl (tk_192 hT) ⟨by decide, rfl, by decide, by decide⟩ rfl (fun _ => by decide) (pr_192_14 q25.1) ?_
    refine gx_st (L' := [(2, 192), (0, 2 * (c : Int) + 11)]) (S' := [(0, 2 * (c : Int) + 11), (2, 198)]) r_114_65 rfl rfl rfl ?_
    refine gx_st (L' := [(2, 192), (0, 2 * (c : Int) + 11)]) (S' := [(0, 1), (0, 2 * (c : Int) + 11), (2, 198)]) r_114_66 rfl rfl rfl ?_
    refine gx_ar (L' := [(2, 192), (0, 2 * (c : Int) + 11)]) (S' := [(2, 198)]) (t := 0) (e := w32 ((2 * (c : Int) + 11) + 1)) (z := 2 * (c : Int) + 12) r_114_67 rfl rfl rfl (w32_eq (by omega) (by omega) (by omega)) ?_
    refine gx_st (L' := [(2, 192), (0, 2 * (c : Int) + 11)]) (S' := [(2, 192), (0, 2 * (c : Int) + 12), (2, 198)]) r_114_68 rfl rfl rfl ?_
    refine gx_ci (nx := 72) (S2 := [(0, 2 * (c : Int) + 12), (2, 198)]) (x_112 hT (q25.1) (q25.2.2.1)) r_114_69 rfl rfl rfl rfl rfl (rcv_v rfl (tk_192 hT) (by decide) rfl (by decide)) rfl (by decide) rfl (fun x69 n69 q69 => ?_)
    have bb69 := q69.1
    have bc69 := q69.2.1
    show GX T 5 114 72 [(2, 192), (0, 2 * (c : Int) + 11)] [(0, x69), (0, 2 * (c : Int) + 12), (2, 198)] n69 (RV (RP m))
    have g_n69 : FG m n69 := FG_tr g_n25 (FG_pg q69.2.2.2)
    have i_n69 : FI n69 := FI_pg i_n25 q69.2.2.2
    have w9_n69 : n69 198 (9) = m 198 9 := (PG_f q69.2.2.2 (9)).trans (w9_n25)
    have w4_n69 : n69 198 (4) = (c : Int) := (PG_f q69.2.2.2 (4)).trans (w4_n25)
    have w112c_n69 : n69 198 (11 + 2 * c) = x18 := (PG_f q69.2.2.2 (11 + 2 * c)).trans (w112c_n25)
    obtain ⟨m2, e_m2⟩ : ∃ z, z = nu_up n69 198 (11 + (2 * c + 1)) x69 := ⟨_, rfl⟩
    have h_m2 : Gam m2 := by rw [e_m2]; exact gu_198_pa (q69.2.2.2.1) (k := 2 * c + 1) (by omega) (by omega) (by omega)
    have g_m2 : FG m m2 := by rw [e_m2]; exact FG_wr g_n69 (by rw [← e_m2]; exact h_m2)
    have i_m2 : FI m2 := by rw [e_m2]; exact FI_pw i_n69 (w4_n69) (by omega)
    have w9_m2 : m2 198 (9) = m 198 9 := by rw [e_m2, nu_ne (by omega)]; exact w9_n69
    have w4_m2 : m2 198 (4) = (c : Int) := by rw [e_m2, nu_ne (by omega)]; exact w4_n69
    have w112c_m2 : m2 198 (11 + 2 * c) = x18 := by rw [e_m2, nu_ne (by omega)]; exact w112c_n69
    have w112c1_m2 : m2 198 (11 + (2 * c + 1)) = x69 := by rw [e_m2, nu_at]
    refine gx_is (n := 11 + (2 * c + 1)) (x := x69) r_114_72 rfl (by decide) (tk_198 hT) (by omega) ⟨rfl, by omega⟩ e_m2.symm ?_
    refine gx_st (L' := [(2, 192), (0, 2 * (c : Int) + 11)]) (S' := [(2, 192)]) r_114_73 rfl rfl rfl ?_
    refine gx_gf (x := 198) 2 r_114_74 rfl (tk_192 hT) ⟨by decide, rfl, by decide, by decide⟩ rfl (fun _ => by decide) (pr_192_14 h_m2) ?_
    refine gx_st (L' := [(2, 192), (0, 2 * (c : Int) + 11)]) (S' := [(0, 4), (2, 198)]) r_114_77 rfl rfl rfl ?_
    refine gx_st (L' := [(2, 192), (0, 2 * (c : Int) + 11)]) (S' := [(0, 4), (2, 198), (0, 4), (2, 198)]) r_114_78 rfl rfl rfl ?_
    refine gx_ia (n := 4) (x := (c : Int)) r_114_79 rfl (tk_198 hT) (rfl) ⟨rfl, by decide⟩ (w4_m2) ?_
    refine gx_st (L' := [(2, 192), (0, 2 * (c : Int) + 11)]) (S' := [(0, 1), (0, (c : Int)), (0, 4), (2, 198)]) r_114_80 rfl rfl rfl ?_
    refine gx_ar (L' := [(2, 192), (0, 2 * (c : Int) + 11)]) (S' := [(0, 4), (2, 198)]) (t := 0) (e := w32 ((c : Int) + 1)) (z := (c : Int) + 1) r_114_81 rfl rfl rfl (w32_eq (by omega) (by omega) (by omega)) ?_
    obtain ⟨m3, e_m3⟩ : ∃ z, z = nu_up m2 198 (4) ((c : Int) + 1) := ⟨_, rfl⟩
    have h_m3 : Gam m3 := by rw [e_m3]; exact gu_198_4 (h_m2) (by omega) (by omega)
    have g_m3 : FG m m3 := by rw [e_m3]; exact FG_wr g_m2 (by rw [← e_m3]; exact h_m3)
    have i_m3 : FI m3 := by rw [e_m3]; exact FI_add i_m2 (w4_m2) (fun hg => by
        have hg2 : n69 192 12 = 0 := by rw [e_m2, nu_no (by decide)] at hg; exact hg
        have z1 := (q69.2.2.1 hg2).1
        have z2 := (q69.2.2.1 hg2).2
        have z3 := (q69.2.2.2.2.2.2.2 hg2).1
        rw [show 12 + 2 * c = 11 + (2 * c + 1) by omega, w112c_m2, w112c1_m2]
        omega)
    have w9_m3 : m3 198 (9) = m 198 9 := by rw [e_m3, nu_ne (by omega)]; exact w9_m2
    have w112c_m3 : m3 198 (11 + 2 * c) = x18 := by rw [e_m3, nu_ne (by omega)]; exact w112c_m2
    have w112c1_m3 : m3 198 (11 + (2 * c + 1)) = x69 := by rw [e_m3, nu_ne (by omega)]; exact w112c1_m2
    have w4_m3 : m3 198 (4) = (c : Int) + 1 := by rw [e_m3, nu_at]
    refine gx_is (n := 4) (x := (c : Int) + 1) r_114_82 rfl (by decide) (tk_198 hT) (rfl) ⟨rfl, by decide⟩ e_m3.symm ?_
    exact gx_rt r_114_83 rfl rfl ⟨rfl, g_m3, i_m3, w9_m3⟩
  · have h32 := Decidable.not_not.mp h32
    refine gx_st (L' := [(2, 192), (0, 2 * (c : Int) + 11)]) (S' := [(2, 192)]) r_114_35 rfl rfl rfl ?_
    obtain ⟨x36, e_x36⟩ : ∃ z, z = n25 192 10 := ⟨_, rfl⟩
    have b_x36 := gb_192_10 q25.1
    rw [← e_x36] at b_x36
    refine gx_gf (x := x36) 0 r_114_36 rfl (tk_192 hT) ⟨by decide, rfl, by decide, by decide⟩ rfl (fun z => absurd z (by decide)) (e_x36.symm) ?_
    refine gx_st (L' := [(2, 192), (0, 2 * (c : Int) + 11)]) (S' := [(0, 2), (0, x36)]) r_114_39 rfl rfl rfl ?_
    refine gx_ic (P := ¬ x36 = 2) r_114_40 (rfl) (fun h40 => ?_) (fun h40 => ?_)
    · refine gx_st (L' := [(2, 192), (0, 2 * (c : Int) + 11)]) (S' := [(2, 192)]) r_114_61 rfl rfl rfl ?_
      refine gx_gf (x := 198) 2 r_114_62 rfl (tk_192 hT) ⟨by decide, rfl, by decide, by decide⟩ rfl (fun _ => by decide) (pr_192_14 q25.1) ?_
      refine gx_st (L' := [(2, 192), (0, 2 * (c : Int) + 11)]) (S' := [(0, 2 * (c : Int) + 11), (2, 198)]) r_114_65 rfl rfl rfl ?_
      refine gx_st (L' := [(2, 192), (0, 2 * (c : Int) + 11)]) (S' := [(0, 1), (0, 2 * (c : Int) + 11), (2, 198)]) r_114_66 rfl rfl rfl ?_
      refine gx_ar (L' := [(2, 192), (0, 2 * (c : Int) + 11)]) (S' := [(2, 198)]) (t := 0) (e := w32 ((2 * (c : Int) + 11) + 1)) (z := 2 * (c : Int) + 12) r_114_67 rfl rfl rfl (w32_eq (by omega) (by omega) (by omega)) ?_
      refine gx_st (L' := [(2, 192), (0, 2 * (c : Int) + 11)]) (S' := [(2, 192), (0, 2 * (c : Int) + 12), (2, 198)]) r_114_68 rfl rfl rfl ?_
      refine gx_ci (nx := 72) (S2 := [(0, 2 * (c : Int) + 12), (2, 198)]) (x_112 hT (q25.1) (q25.2.2.1)) r_114_69 rfl rfl rfl rfl rfl (rcv_v rfl (tk_192 hT) (by decide) rfl (by decide)) rfl (by decide) rfl (fun x69 n69 q69 => ?_)
      have bb69 := q69.1
      have bc69 := q69.2.1
      show GX T 5 114 72 [(2, 192), (0, 2 * (c : Int) + 11)] [(0, x69), (0, 2 * (c : Int) + 12), (2, 198)] n69 (RV (RP m))
      have g_n69 : FG m n69 := FG_tr g_n25 (FG_pg q69.2.2.2)
      have i_n69 : FI n69 := FI_pg i_n25 q69.2.2.2
      have w9_n69 : n69 198 (9) = m 198 9 := (PG_f q69.2.2.2 (9)).trans (w9_n25)
      have w4_n69 : n69 198 (4) = (c : Int) := (PG_f q69.2.2.2 (4)).trans (w4_n25)
      have w112c_n69 : n69 198 (11 + 2 * c) = x18 := (PG_f q69.2.2.2 (11 + 2 * c)).trans (w112c_n25)
      obtain ⟨m2, e_m2⟩ : ∃ z, z = nu_up n69 198 (11 + (2 * c + 1)) x69 := ⟨_, rfl⟩
      have h_m2 : Gam m2 := by rw [e_m2]; exact gu_198_pa (q69.2.2.2.1) (k := 2 * c + 1) (by omega) (by omega) (by omega)
      have g_m2 : FG m m2 := by rw [e_m2]; exact FG_wr g_n69 (by rw [← e_m2]; exact h_m2)
      have i_m2 : FI m2 := by rw [e_m2]; exact FI_pw i_n69 (w4_n69) (by omega)
      have w9_m2 : m2 198 (9) = m 198 9 := by rw [e_m2, nu_ne (by omega)]; exact w9_n69
      have w4_m2 : m2 198 (4) = (c : Int) := by rw [e_m2, nu_ne (by omega)]; exact w4_n69
      have w112c_m2 : m2 198 (11 + 2 * c) = x18 := by rw [e_m2, nu_ne (by omega)]; exact w112c_n69
      have w112c1_m2 : m2 198 (11 + (2 * c + 1)) = x69 := by rw [e_m2, nu_at]
      refine gx_is (n := 11 + (2 * c + 1)) (x := x69) r_114_72 rfl (by decide) (tk_198 hT) (by omega) ⟨rfl, by omega⟩ e_m2.symm ?_
      refine gx_st (L' := [(2, 192), (0, 2 * (c : Int) + 11)]) (S' := [(2, 192)]) r_114_73 rfl rfl rfl ?_
      refine gx_gf (x := 198) 2 r_114_74 rfl (tk_192 hT) ⟨by decide, rfl, by decide, by decide⟩ rfl (fun _ => by decide) (pr_192_14 h_m2) ?_
      refine gx_st (L' := [(2, 192), (0, 2 * (c : Int) + 11)]) (S' := [(0, 4), (2, 198)]) r_114_77 rfl rfl rfl ?_
      refine gx_st (L' := [(2, 192), (0, 2 * (c : Int) + 11)]) (S' := [(0, 4), (2, 198), (0, 4), (2, 198)]) r_114_78 rfl rfl rfl ?_
      refine gx_ia (n := 4) (x := (c : Int)) r_114_79 rfl (tk_198 hT) (rfl) ⟨rfl, by decide⟩ (w4_m2) ?_
      refine gx_st (L' := [(2, 192), (0, 2 * (c : Int) + 11)]) (S' := [(0, 1), (0, (c : Int)), (0, 4), (2, 198)]) r_114_80 rfl rfl rfl ?_
      refine gx_ar (L' := [(2, 192), (0, 2 * (c : Int) + 11)]) (S' := [(0, 4), (2, 198)]) (t := 0) (e := w32 ((c : Int) + 1)) (z := (c : Int) + 1) r_114_81 rfl rfl rfl (w32_eq (by omega) (by omega) (by omega)) ?_
      obtain ⟨m3, e_m3⟩ : ∃ z, z = nu_up m2 198 (4) ((c : Int) + 1) := ⟨_, rfl⟩
      have h_m3 : Gam m3 := by rw [e_m3]; exact gu_198_4 (h_m2) (by omega) (by omega)
      have g_m3 : FG m m3 := by rw [e_m3]; exact FG_wr g_m2 (by rw [← e_m3]; exact h_m3)
      have i_m3 : FI m3 := by rw [e_m3]; exact FI_add i_m2 (w4_m2) (fun hg => by
          have hg2 : n69 192 12 = 0 := by rw [e_m2, nu_no (by decide)] at hg; exact hg
          have z1 := (q69.2.2.1 hg2).1
          have z2 := (q69.2.2.1 hg2).2
          have z3 := (q69.2.2.2.2.2.2.2 hg2).1
          rw [show 12 + 2 * c = 11 + (2 * c + 1) by omega, w112c_m2, w112c1_m2]
          omega)
      have w9_m3 : m3 198 (9) = m 198 9 := by rw [e_m3, nu_ne (by omega)]; exact w9_m2
      have w112c_m3 : m3 198 (11 + 2 * c) = x18 := by rw [e_m3, nu_ne (by omega)]; exact w112c_m2
      have w112c1_m3 : m3 198 (11 + (2 * c + 1)) = x69 := by rw [e_m3, nu_ne (by omega)]; exact w112c1_m2
      have w4_m3 : m3 198 (4) = (c : Int) + 1 := by rw [e_m3, nu_at]
      refine gx_is (n := 4) (x := (c : Int) + 1) r_114_82 rfl (by decide) (tk_198 hT) (rfl) ⟨rfl, by decide⟩ e_m3.symm ?_
      exact gx_rt r_114_83 rfl rfl ⟨rfl, g_m3, i_m3, w9_m3⟩
    · have h40 := Decidable.not_not.mp h40
      refine gx_st (L' := [(2, 192), (0, 2 * (c : Int) + 11)]) (S' := [(2, 192)]) r_114_43 rfl rfl rfl ?_
      obtain ⟨x44, e_x44⟩ : ∃ z, z = n25 192 11 := ⟨_, rfl⟩
      have b_x44 := gb_192_11 q25.1
      rw [← e_x44] at b_x44
      refine gx_gf (x := x44) 0 r_114_44 rfl (tk_192 hT) ⟨by decide, rfl, by decide, by decide⟩ rfl (fun z => absurd z (by decide)) (e_x44.symm) ?_
      refine gx_st (L' := [(2, 192), (0, 2 * (c : Int) + 11)]) (S' := [(2, 192), (0, x44)]) r_114_47 rfl rfl rfl ?_
      refine gx_gf (x := 198) 2 r_114_48 rfl (tk_192 hT) ⟨by decide, rfl, by decide, by decide⟩ rfl (fun _ => by decide) (pr_192_14 q25.1) ?_
      refine gx_st (L' := [(2, 192), (0, 2 * (c : Int) + 11)]) (S' := [(0, 2 * (c : Int) + 11), (2, 198), (0, x44)]) r_114_51 rfl rfl rfl ?_
      refine gx_ia (n := 11 + 2 * c) (x := x18) r_114_52 rfl (tk_198 hT) (by omega) ⟨rfl, by omega⟩ (w112c_n25) ?_
      refine gx_ic (P := ¬ x44 = x18) r_114_53 (rfl) (fun h53 => ?_) (fun h53 => ?_)
      · refine gx_st (L' := [(2, 192), (0, 2 * (c : Int) + 11)]) (S' := [(2, 192)]) r_114_61 rfl rfl rfl ?_
        refine gx_gf (x := 198) 2 r_114_62 rfl (tk_192 hT) ⟨by decide, rfl, by decide, by decide⟩ rfl (fun _ => by decide) (pr_192_14 q25.1) ?_
        refine gx_st (L' := [(2, 192), (0, 2 * (c : Int) + 11)]) (S' := [(0, 2 * (c : Int) + 11), (2, 198)]) r_114_65 rfl rfl rfl ?_
        refine gx_st (L' := [(2, 192), (0, 2 * (c : Int) + 11)]) (S' := [(0, 1), (0, 2 * (c : Int) + 11), (2, 198)]) r_114_66 rfl rfl rfl ?_
        refine gx_ar (L' := [(2, 192), (0, 2 * (c : Int) + 11)]) (S' := [(2, 198)]) (t := 0) (e := w32 ((2 * (c : Int) + 11) + 1)) (z := 2 * (c : Int) + 12) r_114_67 rfl rfl rfl (w32_eq (by omega) (by omega) (by omega)) ?_
        refine gx_st (L' := [(2, 192), (0, 2 * (c : Int) + 11)]) (S' := [(2, 192), (0, 2 * (c : Int) + 12), (2, 198)]) r_114_68 rfl rfl rfl ?_
        refine gx_ci (nx := 72) (S2 := [(0, 2 * (c : Int) + 12), (2, 198)]) (x_112 hT (q25.1) (q25.2.2.1)) r_114_69 rfl rfl rfl rfl rfl (rcv_v rfl (tk_192 hT) (by decide) rfl (by decide)) rfl (by decide) rfl (fun x69 n69 q69 => ?_)
        have bb69 := q69.1
        have bc69 := q69.2.1
        show GX T 5 114 72 [(2, 192), (0, 2 * (c : Int) + 11)] [(0, x69), (0, 2 * (c : Int) + 12), (2, 198)] n69 (RV (RP m))
        have g_n69 : FG m n69 := FG_tr g_n25 (FG_pg q69.2.2.2)
        have i_n69 : FI n69 := FI_pg i_n25 q69.2.2.2
        have w9_n69 : n69 198 (9) = m 198 9 := (PG_f q69.2.2.2 (9)).trans (w9_n25)
        have w4_n69 : n69 198 (4) = (c : Int) := (PG_f q69.2.2.2 (4)).trans (w4_n25)
        have w112c_n69 : n69 198 (11 + 2 * c) = x18 := (PG_f q69.2.2.2 (11 + 2 * c)).trans (w112c_n25)
        obtain ⟨m2, e_m2⟩ : ∃ z, z = nu_up n69 198 (11 + (2 * c + 1)) x69 := ⟨_, rfl⟩
        have h_m2 : Gam m2 := by rw [e_m2]; exact gu_198_pa (q69.2.2.2.1) (k := 2 * c + 1) (by omega) (by omega) (by omega)
        have g_m2 : FG m m2 := by rw [e_m2]; exact FG_wr g_n69 (by rw [← e_m2]; exact h_m2)
        have i_m2 : FI m2 := by rw [e_m2]; exact FI_pw i_n69 (w4_n69) (by omega)
        have w9_m2 : m2 198 (9) = m 198 9 := by rw [e_m2, nu_ne (by omega)]; exact w9_n69
        have w4_m2 : m2 198 (4) = (c : Int) := by rw [e_m2, nu_ne (by omega)]; exact w4_n69
        have w112c_m2 : m2 198 (11 + 2 * c) = x18 := by rw [e_m2, nu_ne (by omega)]; exact w112c_n69
        have w112c1_m2 : m2 198 (11 + (2 * c + 1)) = x69 := by rw [e_m2, nu_at]
        refine gx_is (n := 11 + (2 * c + 1)) (x := x69) r_114_72 rfl (by decide) (tk_198 hT) (by omega) ⟨rfl, by omega⟩ e_m2.symm ?_
        refine gx_st (L' := [(2, 192), (0, 2 * (c : Int) + 11)]) (S' := [(2, 192)]) r_114_73 rfl rfl rfl ?_
        refine gx_gf (x := 198) 2 r_114_74 rfl (tk_192 hT) ⟨by decide, rfl, by decide, by decide⟩ rfl (fun _ => by decide) (pr_192_14 h_m2) ?_
        refine gx_st (L' := [(2, 192), (0, 2 * (c : Int) + 11)]) (S' := [(0, 4), (2, 198)]) r_114_77 rfl rfl rfl ?_
        refine gx_st (L' := [(2, 192), (0, 2 * (c : Int) + 11)]) (S' := [(0, 4), (2, 198), (0, 4), (2, 198)]) r_114_78 rfl rfl rfl ?_
        refine gx_ia (n := 4) (x := (c : Int)) r_114_79 rfl (tk_198 hT) (rfl) ⟨rfl, by decide⟩ (w4_m2) ?_
        refine gx_st (L' := [(2, 192), (0, 2 * (c : Int) + 11)]) (S' := [(0, 1), (0, (c : Int)), (0, 4), (2, 198)]) r_114_80 rfl rfl rfl ?_
        refine gx_ar (L' := [(2, 192), (0, 2 * (c : Int) + 11)]) (S' := [(0, 4), (2, 198)]) (t := 0) (e := w32 ((c : Int) + 1)) (z := (c : Int) + 1) r_114_81 rfl rfl rfl (w32_eq (by omega) (by omega) (by omega)) ?_
        obtain ⟨m3, e_m3⟩ : ∃ z, z = nu_up m2 198 (4) ((c : Int) + 1) := ⟨_, rfl⟩
        have h_m3 : Gam m3 := by rw [e_m3]; exact gu_198_4 (h_m2) (by omega) (by omega)
        have g_m3 : FG m m3 := by rw [e_m3]; exact FG_wr g_m2 (by rw [← e_m3]; exact h_m3)
        have i_m3 : FI m3 := by rw [e_m3]; exact FI_add i_m2 (w4_m2) (fun hg => by
            have hg2 : n69 192 12 = 0 := by rw [e_m2, nu_no (by decide)] at hg; exact hg
            have z1 := (q69.2.2.1 hg2).1
            have z2 := (q69.2.2.1 hg2).2
            have z3 := (q69.2.2.2.2.2.2.2 hg2).1
            rw [show 12 + 2 * c = 11 + (2 * c + 1) by omega, w112c_m2, w112c1_m2]
            omega)
        have w9_m3 : m3 198 (9) = m 198 9 := by rw [e_m3, nu_ne (by omega)]; exact w9_m2
        have w112c_m3 : m3 198 (11 + 2 * c) = x18 := by rw [e_m3, nu_ne (by omega)]; exact w112c_m2
        have w112c1_m3 : m3 198 (11 + (2 * c + 1)) = x69 := by rw [e_m3, nu_ne (by omega)]; exact w112c1_m2
        have w4_m3 : m3 198 (4) = (c : Int) + 1 := by rw [e_m3, nu_at]
        refine gx_is (n := 4) (x := (c : Int) + 1) r_114_82 rfl (by decide) (tk_198 hT) (rfl) ⟨rfl, by decide⟩ e_m3.symm ?_
        exact gx_rt r_114_83 rfl rfl ⟨rfl, g_m3, i_m3, w9_m3⟩
      · have h53 := Decidable.not_not.mp h53
        refine gx_st (L' := [(2, 192), (0, 2 * (c : Int) + 11)]) (S' := [(2, 192)]) r_114_56 rfl rfl rfl ?_
        refine gx_st (L' := [(2, 192), (0, 2 * (c : Int) + 11)]) (S' := [(0, 2), (2, 192)]) r_114_57 rfl rfl rfl ?_
        refine gx_cv (nx := 61) (S2 := []) (x_105 hT (q25.1) (k := 2) (by decide) (by decide)) r_114_58 rfl rfl rfl rfl rfl (rcv_v rfl (tk_192 hT) (by decide) rfl (by decide)) rfl (by decide) rfl (fun n58 q58 => ?_)
        have er58 := q58.2.2
        have pe58 := PG_er (q25.2.2.1) q58
        have g_n58 : FG m n58 := FG_tr g_n25 (FG_pg pe58)
        have i_n58 : FI n58 := FI_pg i_n25 pe58
        have w9_n58 : n58 198 (9) = m 198 9 := (PG_f pe58 (9)).trans (w9_n25)
        have w4_n58 : n58 198 (4) = (c : Int) := (PG_f pe58 (4)).trans (w4_n25)
        have w112c_n58 : n58 198 (11 + 2 * c) = x18 := (PG_f pe58 (11 + 2 * c)).trans (w112c_n25)
        refine gx_st (L' := [(2, 192), (0, 2 * (c : Int) + 11)]) (S' := [(2, 192)]) r_114_61 rfl rfl rfl ?_
        refine gx_gf (x := 198) 2 r_114_62 rfl (tk_192 hT) ⟨by decide, rfl, by decide, by decide⟩ rfl (fun _ => by decide) (pr_192_14 pe58.1) ?_
        refine gx_st (L' := [(2, 192), (0, 2 * (c : Int) + 11)]) (S' := [(0, 2 * (c : Int) + 11), (2, 198)]) r_114_65 rfl rfl rfl ?_
        refine gx_st (L' := [(2, 192), (0, 2 * (c : Int) + 11)]) (S' := [(0, 1), (0, 2 * (c : Int) + 11), (2, 198)]) r_114_66 rfl rfl rfl ?_
        refine gx_ar (L' := [(2, 192), (0, 2 * (c : Int) + 11)]) (S' := [(2, 198)]) (t := 0) (e := w32 ((2 * (c : Int) + 11) + 1)) (z := 2 * (c : Int) + 12) r_114_67 rfl rfl rfl (w32_eq (by omega) (by omega) (by omega)) ?_
        refine gx_st (L' := [(2, 192), (0, 2 * (c : Int) + 11)]) (S' := [(2, 192), (0, 2 * (c : Int) + 12), (2, 198)]) r_114_68 rfl rfl rfl ?_
        refine gx_ci (nx := 72) (S2 := [(0, 2 * (c : Int) + 12), (2, 198)]) (x_112 hT (pe58.1) (pe58.2.2.1)) r_114_69 rfl rfl rfl rfl rfl (rcv_v rfl (tk_192 hT) (by decide) rfl (by decide)) rfl (by decide) rfl (fun x69 n69 q69 => ?_)
        have bb69 := q69.1
        have bc69 := q69.2.1
        show GX T 5 114 72 [(2, 192), (0, 2 * (c : Int) + 11)] [(0, x69), (0, 2 * (c : Int) + 12), (2, 198)] n69 (RV (RP m))
        have g_n69 : FG m n69 := FG_tr g_n58 (FG_pg q69.2.2.2)
        have i_n69 : FI n69 := FI_pg i_n58 q69.2.2.2
        have w9_n69 : n69 198 (9) = m 198 9 := (PG_f q69.2.2.2 (9)).trans (w9_n58)
        have w4_n69 : n69 198 (4) = (c : Int) := (PG_f q69.2.2.2 (4)).trans (w4_n58)
        have w112c_n69 : n69 198 (11 + 2 * c) = x18 := (PG_f q69.2.2.2 (11 + 2 * c)).trans (w112c_n58)
        obtain ⟨m2, e_m2⟩ : ∃ z, z = nu_up n69 198 (11 + (2 * c + 1)) x69 := ⟨_, rfl⟩
        have h_m2 : Gam m2 := by rw [e_m2]; exact gu_198_pa (q69.2.2.2.1) (k := 2 * c + 1) (by omega) (by omega) (by omega)
        have g_m2 : FG m m2 := by rw [e_m2]; exact FG_wr g_n69 (by rw [← e_m2]; exact h_m2)
        have i_m2 : FI m2 := by rw [e_m2]; exact FI_pw i_n69 (w4_n69) (by omega)
        have w9_m2 : m2 198 (9) = m 198 9 := by rw [e_m2, nu_ne (by omega)]; exact w9_n69
        have w4_m2 : m2 198 (4) = (c : Int) := by rw [e_m2, nu_ne (by omega)]; exact w4_n69
        have w112c_m2 : m2 198 (11 + 2 * c) = x18 := by rw [e_m2, nu_ne (by omega)]; exact w112c_n69
        have w112c1_m2 : m2 198 (11 + (2 * c + 1)) = x69 := by rw [e_m2, nu_at]
        refine gx_is (n := 11 + (2 * c + 1)) (x := x69) r_114_72 rfl (by decide) (tk_198 hT) (by omega) ⟨rfl, by omega⟩ e_m2.symm ?_
        refine gx_st (L' := [(2, 192), (0, 2 * (c : Int) + 11)]) (S' := [(2, 192)]) r_114_73 rfl rfl rfl ?_
        refine gx_gf (x := 198) 2 r_114_74 rfl (tk_192 hT) ⟨by decide, rfl, by decide, by decide⟩ rfl (fun _ => by decide) (pr_192_14 h_m2) ?_
        refine gx_st (L' := [(2, 192), (0, 2 * (c : Int) + 11)]) (S' := [(0, 4), (2, 198)]) r_114_77 rfl rfl rfl ?_
        refine gx_st (L' := [(2, 192), (0, 2 * (c : Int) + 11)]) (S' := [(0, 4), (2, 198), (0, 4), (2, 198)]) r_114_78 rfl rfl rfl ?_
        refine gx_ia (n := 4) (x := (c : Int)) r_114_79 rfl (tk_198 hT) (rfl) ⟨rfl, by decide⟩ (w4_m2) ?_
        refine gx_st (L' := [(2, 192), (0, 2 * (c : Int) + 11)]) (S' := [(0, 1), (0, (c : Int)), (0, 4), (2, 198)]) r_114_80 rfl rfl rfl ?_
        refine gx_ar (L' := [(2, 192), (0, 2 * (c : Int) + 11)]) (S' := [(0, 4), (2, 198)]) (t := 0) (e := w32 ((c : Int) + 1)) (z := (c : Int) + 1) r_114_81 rfl rfl rfl (w32_eq (by omega) (by omega) (by omega)) ?_
        obtain ⟨m3, e_m3⟩ : ∃ z, z = nu_up m2 198 (4) ((c : Int) + 1) := ⟨_, rfl⟩
        have h_m3 : Gam m3 := by rw [e_m3]; exact gu_198_4 (h_m2) (by omega) (by omega)
        have g_m3 : FG m m3 := by rw [e_m3]; exact FG_wr g_m2 (by rw [← e_m3]; exact h_m3)
        have i_m3 : FI m3 := by rw [e_m3]; exact FI_add i_m2 (w4_m2) (fun hg => by
            have hg2 : n69 192 12 = 0 := by rw [e_m2, nu_no (by decide)] at hg; exact hg
            have z1 := (q69.2.2.1 hg2).1
            have z2 := (q69.2.2.1 hg2).2
            have z3 := (q69.2.2.2.2.2.2.2 hg2).1
            rw [show 12 + 2 * c = 11 + (2 * c + 1) by omega, w112c_m2, w112c1_m2]
            omega)
        have w9_m3 : m3 198 (9) = m 198 9 := by rw [e_m3, nu_ne (by omega)]; exact w9_m2
        have w112c_m3 : m3 198 (11 + 2 * c) = x18 := by rw [e_m3, nu_ne (by omega)]; exact w112c_m2
        have w112c1_m3 : m3 198 (11 + (2 * c + 1)) = x69 := by rw [e_m3, nu_ne (by omega)]; exact w112c1_m2
        have w4_m3 : m3 198 (4) = (c : Int) + 1 := by rw [e_m3, nu_at]
        refine gx_is (n := 4) (x := (c : Int) + 1) r_114_82 rfl (by decide) (tk_198 hT) (rfl) ⟨rfl, by decide⟩ e_m3.symm ?_
        exact gx_rt r_114_83 rfl rfl ⟨rfl, g_m3, i_m3, w9_m3⟩
theorem x_115a {m : Mm} (hT : TT T) (hm : Gam m) (ht : TK m) (hi : FI m) {c : Nat} (hc : m 198 5 = (c : Int)) (hcm : c ≤ 4) : GX T 5 115 0 [(2, 192), (0, 31), (0, 5), (2, 1000011), (0, 0), (0, 9), (9, 0)] [] m (RV (RP m)) := by
  refine gx_st (L' := [(2, 192), (0, 31), (0, 5), (2, 1000011), (0, 0), (0, 9), (9, 0)]) (S' := [(0, 31)]) r_115_0 rfl rfl rfl ?_
  refine gx_st (L' := [(2, 192), (0, 31), (0, 5), (2, 1000011), (0, 0), (0, 9), (9, 0)]) (S' := [(0, 2), (0, 31)]) r_115_1 rfl rfl rfl ?_
  refine gx_st (L' := [(2, 192), (0, 31), (0, 5), (2, 1000011), (0, 0), (0, 9), (9, 0)]) (S' := [(2, 192), (0, 2), (0, 31)]) r_115_2 rfl rfl rfl ?_
  refine gx_gf (x := 198) 2 r_115_3 rfl (tk_192 hT) ⟨by decide, rfl, by decide, by decide⟩ rfl (fun _ => by decide) (pr_192_14 hm) ?_
  refine gx_st (L' := [(2, 192), (0, 31), (0, 5), (2, 1000011), (0, 0), (0, 9), (9, 0)]) (S' := [(0, 5), (2, 198), (0, 2), (0, 31)]) r_115_6 rfl rfl rfl ?_
  refine gx_ia (n := 5) (x := (c : Int)) r_115_7 rfl (tk_198 hT) (rfl) ⟨rfl, by decide⟩ (hc) ?_
  refine gx_ar (L' := [(2, 192), (0, 31), (0, 5), (2, 1000011), (0, 0), (0, 9), (9, 0)]) (S' := [(0, 31)]) (t := 0) (e := w32 (2 * (c : Int))) (z := 2 * (c : Int)) r_115_8 rfl rfl rfl (w32_eq (by omega) (by omega) (by omega)) ?_
  refine gx_ar (L' := [(2, 192), (0, 31), (0, 5), (2, 1000011), (0, 0), (0, 9), (9, 0)]) (S' := []) (t := 0) (e := w32 (31 + (2 * (c : Int)))) (z := 2 * (c : Int) + 31) r_115_9 rfl rfl rfl (w32_eq (by omega) (by omega) (by omega)) ?_
  refine gx_st (L' := [(2, 192), (0, 31), (0, 5), (2, 1000011), (0, 0), (0, 9), (0, 2 * (c : Int) + 31)]) (S' := []) r_115_10 rfl rfl rfl ?_
  refine gx_st (L' := [(2, 192), (0, 31), (0, 5), (2, 1000011), (0, 0), (0, 9), (0, 2 * (c : Int) + 31)]) (S' := [(2, 192)]) r_115_12 rfl rfl rfl ?_
  refine gx_st (L' := [(2, 192), (0, 31), (0, 5), (2, 1000011), (0, 0), (0, 9), (0, 2 * (c : Int) + 31)]) (S' := [(2, 1000014), (2, 192)]) r_115_13 rfl rfl rfl ?_
  refine gx_cv (nx := 18) (S2 := []) (x_108 hT (hm) (o := 1000014) (q := 14) (n := 2) (by decide) (by decide) sl_14 (ht)) r_115_15 rfl rfl rfl rfl rfl (rcv_v rfl (tk_192 hT) (by decide) rfl (by decide)) rfl (by decide) rfl (fun n15 q15 => ?_)
  have g_n15 : FG m n15 := FG_pg q15
  have i_n15 : FI n15 := FI_pg hi q15
  have w9_n15 : n15 198 (9) = m 198 9 := (PG_f q15 (9)).trans (rfl)
  have w5_n15 : n15 198 (5) = (c : Int) := (PG_f q15 (5)).trans (hc)
  refine gx_st (L' := [(2, 192), (0, 31), (0, 5), (2, 1000011), (0, 0), (0, 9), (0, 2 * (c : Int) + 31)]) (S' := [(2, 192)]) r_115_18 rfl rfl rfl ?_
  refine gx_gf (x := 198) 2 r_115_19 rfl (tk_192 hT) ⟨by decide, rfl, by decide, by decide⟩ rfl (fun _ => by decide) (pr_192_14 q15.1) ?_
  refine gx_st (L' := [(2, 192), (0, 31), (0, 5), (2, 1000011), (0, 0), (0, 9), (0, 2 * (c : Int) + 31)]) (S' := [(0, 2 * (c : Int) + 31), (2, 198)]) r_115_22 rfl rfl rfl ?_
  refine gx_st (L' := [(2, 192), (0, 31), (0, 5), (2, 1000011), (0, 0), (0, 9), (0, 2 * (c : Int) + 31)]) (S' := [(2, 192), (0, 2 * (c : Int) + 31), (2, 198)]) r_115_24 rfl rfl rfl ?_
  refine gx_ci (nx := 28) (S2 := [(0, 2 * (c : Int) + 31), (2, 198)]) (x_112 hT (q15.1) (q15.2.2.1)) r_115_25 rfl rfl rfl rfl rfl (rcv_v rfl (tk_192 hT) (by decide) rfl (by decide)) rfl (by decide) rfl (fun x25 n25 q25 => ?_)
  have bb25 := q25.1
  have bc25 := q25.2.1
  show GX T 5 115 28 [(2, 192), (0, 31), (0, 5), (2, 1000011), (0, 0), (0, 9), (0, 2 * (c : Int) + 31)] [(0, x25), (0, 2 * (c : Int) + 31), (2, 198)] n25 (RV (RP m))
  have g_n25 : FG m n25 := FG_tr g_n15 (FG_pg q25.2.2.2)
  have i_n25 : FI n25 := FI_pg i_n15 q25.2.2.2
  have w9_n25 : n25 198 (9) = m 198 9 := (PG_f q25.2.2.2 (9)).trans (w9_n15)
  have w5_n25 : n25 198 (5) = (c : Int) := (PG_f q25.2.2.2 (5)).trans (w5_n15)
  obtain ⟨m1, e_m1⟩ : ∃ z, z = nu_up n25 198 (31 + 2 * c) x25 := ⟨_, rfl⟩
  have h_m1 : Gam m1 := by rw [e_m1]; exact gu_198_tp (q25.2.2.2.1) (k := c) (by omega) (by omega) (by omega)
  have g_m1 : FG m m1 := by rw [e_m1]; exact FG_wr g_n25 (by rw [← e_m1]; exact h_m1)
  have i_m1 : FI m1 := by rw [e_m1]; exact FI_wr i_n25 (by omega)
  have w9_m1 : m1 198 (9) = m 198 9 := by rw [e_m1, nu_ne (by omega)]; exact w9_n25
  have w5_m1 : m1 198 (5) = (c : Int) := by rw [e_m1, nu_ne (by omega)]; exact w5_n25
  refine gx_is (n := 31 + 2 * c) (x := x25) r_115_28 rfl (by decide) (tk_198 hT) (by omega) ⟨rfl, by omega⟩ e_m1.symm ?_
  refine gx_st (L' := [(2, 192), (0, 31), (0, 5), (2, 1000011), (0, 0), (0, 9), (0, 2 * (c : Int) + 31)]) (S' := [(2, 192)]) r_115_29 rfl rfl rfl ?_
  refine gx_gf (x := 198) 2 r_115_30 rfl (tk_192 hT) ⟨by decide, rfl, by decide, by decide⟩ rfl (fun _ => by decide) (pr_192_14 h_m1) ?_
  refine gx_st (L' := [(2, 192), (0, 31), (0, 5), (2, 1000011), (0, 0), (0, 9), (0, 2 * (c : Int) + 31)]) (S' := [(0, 2 * (c : Int) + 31), (2, 198)]) r_115_33 rfl rfl rfl ?_
  refine gx_st (L' := [(2, 192), (0, 31), (0, 5), (2, 1000011), (0, 0), (0, 9), (0, 2 * (c : Int) + 31)]) (S' := [(0, 1), (0, 2 * (c : Int) + 31), (2, 198)]) r_115_35 rfl rfl rfl ?_
  refine gx_ar (L' := [(2, 192), (0, 31), (0, 5), (2, 1000011), (0, 0), (0, 9), (0, 2 * (c : Int) + 31)]) (S' := [(2, 198)]) (t := 0) (e := w32 ((2 * (c : Int) + 31) + 1)) (z := 2 * (c : Int) + 32) r_115_36 rfl rfl rfl (w32_eq (by omega) (by omega) (by omega)) ?_
  refine gx_st (L' := [(2, 192), (0, 31), (0, 5), (2, 1000011), (0, 0), (0, 9), (0, 2 * (c : Int) + 31)]) (S' := [(2, 192), (0, 2 * (c : Int) + 32), (2, 198)]) r_115_37 rfl rfl rfl ?_
  refine gx_st (L' := [(2, 192), (0, 31), (0, 5), (2, 1000011), (0, 0), (0, 9), (0, 2 * (c : Int) + 31)]) (S' := [(2, 1000011), (2, 192), (0, 2 * (c : Int) + 32), (2, 198)]) r_115_38 rfl rfl rfl ?_
  refine gx_st (L' := [(2, 192), (0, 31), (0, 5), (2, 1000011), (0, 0), (0, 9), (0, 2 * (c : Int) + 31)]) (S' := [(0, 0), (2, 1000011), (2, 192), (0, 2 * (c : Int) + 32), (2, 198)]) r_115_39 rfl rfl rfl ?_
  refine gx_st (L' := [(2, 192), (0, 31), (0, 5), (2, 1000011), (0, 0), (0, 9), (0, 2 * (c : Int) + 31)]) (S' := [(0, 9), (0, 0), (2, 1000011), (2, 192), (0, 2 * (c : Int) + 32), (2, 198)]) r_115_41 rfl rfl rfl ?_
  refine gx_ci (nx := 46) (S2 := [(0, 2 * (c : Int) + 32), (2, 198)]) (x_110 hT (h_m1) (o := 1000011) (q := 11) (n := 5) (by decide) (by decide) sl_11 (g_m1.2.2.1) 0 9) r_115_43 rfl rfl rfl rfl rfl (rcv_v rfl (tk_192 hT) (by decide) rfl (by decide)) rfl (by decide) rfl (fun x43 n43 q43 => ?_)
  have bb43 := q43.1
  show GX T 5 115 46 [(2, 192), (0, 31), (0, 5), (2, 1000011), (0, 0), (0, 9), (0, 2 * (c : Int) + 31)] [(0, x43), (0, 2 * (c : Int) + 32), (2, 198)] n43 (RV (RP m))
  have g_n43 : FG m n43 := FG_tr g_m1 (FG_pg q43.2)
  have i_n43 : FI n43 := FI_pg i_m1 q43.2
  have w9_n43 : n43 198 (9) = m 198 9 := (PG_f q43.2 (9)).trans (w9_m1)
  have w5_n43 : n43 198 (5) = (c : Int) := (PG_f q43.2 (5)).trans (w5_m1)
  obtain ⟨m2, e_m2⟩ : ∃ z, z = nu_up n43 198 (32 + 2 * c) x43 := ⟨_, rfl⟩
  have h_m2 : Gam m2 := by rw [e_m2]; exact gu_198_tf (q43.2.1) (k := c) (by omega) (by omega) (by omega)
  have g_m2 : FG m m2 := by rw [e_m2]; exact FG_wr g_n43 (by rw [← e_m2]; exact h_m2)
  have i_m2 : FI m2 := by rw [e_m2]; exact FI_wr i_n43 (by omega)
  have w9_m2 : m2 198 (9) = m 198 9 := by rw [e_m2, nu_ne (by omega)]; exact w9_n43
  have w5_m2 : m2 198 (5) = (c : Int) := by rw [e_m2, nu_ne (by omega)]; exact w5_n43
  refine gx_is (n := 32 + 2 * c) (x := x43) r_115_46 rfl (by decide) (tk_198 hT) (by omega) ⟨rfl, by omega⟩ e_m2.symm ?_
  refine gx_st (L' := [(2, 192), (0, 31), (0, 5), (2, 1000011), (0, 0), (0, 9), (0, 2 * (c : Int) + 31)]) (S' := [(2, 192)]) r_115_47 rfl rfl rfl ?_
  refine gx_gf (x := 198) 2 r_115_48 rfl (tk_192 hT) ⟨by decide, rfl, by decide, by decide⟩ rfl (fun _ => by decide) (pr_192_14 h_m2) ?_
  refine gx_st (L' := [(2, 192), (0, 31), (0, 5), (2, 1000011), (0, 0), (0, 9), (0, 2 * (c : Int) + 31)]) (S' := [(0, 5), (2, 198)]) r_115_51 rfl rfl rfl ?_
  refine gx_st (L' := [(2, 192), (0, 31), (0, 5), (2, 1000011), (0, 0), (0, 9), (0, 2 * (c : Int) + 31)]) (S' := [(0, 5), (2, 198), (0, 5), (2, 198)]) r_115_52 rfl rfl rfl ?_
  refine gx_ia (n := 5) (x := (c : Int)) r_115_53 rfl (tk_198 hT) (rfl) ⟨rfl, by decide⟩ (w5_m2) ?_
  refine gx_st (L' := [(2, 192), (0, 31), (0, 5), (2, 1000011), (0, 0), (0, 9), (0, 2 * (c : Int) + 31)]) (S' := [(0, 1), (0, (c : Int)), (0, 5), (2, 198)]) r_115_54 rfl rfl rfl ?_
  refine gx_ar (L' := [(2, 192), (0, 31), (0, 5), (2, 1000011), (0, 0), (0, 9), (0, 2 * (c : Int) + 31)]) (S' := [(0, 5), (2, 198)]) (t := 0) (e := w32 ((c : Int) + 1)) (z := (c : Int) + 1) r_115_55 rfl rfl rfl (w32_eq (by omega) (by omega) (by omega)) ?_
  obtain ⟨m3, e_m3⟩ : ∃ z, z = nu_up m2 198 (5) ((c : Int) + 1) := ⟨_, rfl⟩
  have h_m3 : Gam m3 := by rw [e_m3]; exact gu_198_5 (h_m2) (by omega) (by omega)
  have g_m3 : FG m m3 := by rw [e_m3]; exact FG_wr g_m2 (by rw [← e_m3]; exact h_m3)
  have i_m3 : FI m3 := by rw [e_m3]; exact FI_wr i_m2 (by omega)
  have w9_m3 : m3 198 (9) = m 198 9 := by rw [e_m3, nu_ne (by omega)]; exact w9_m2
  refine gx_is (n := 5) (x := (c : Int) + 1) r_115_56 rfl (by decide) (tk_198 hT) (rfl) ⟨rfl, by decide⟩ e_m3.symm ?_
  exact gx_rt r_115_57 rfl rfl ⟨rfl, g_m3, i_m3, w9_m3⟩
theorem x_115b {m : Mm} (hT : TT T) (hm : Gam m) (ht : TK m) (hi : FI m) {c : Nat} (hc : m 198 6 = (c : Int)) (hcm : c ≤ 2) : GX T 5 115 0 [(2, 192), (0, 41), (0, 6), (2, 1000012), (0, 0), (0, 12), (9, 0)] [] m (RV (RP m)) := by
  refine gx_st (L' := [(2, 192), (0, 41), (0, 6), (2, 1000012), (0, 0), (0, 12), (9, 0)]) (S' := [(0, 41)]) r_115_0 rfl rfl rfl ?_
  refine gx_st (L' := [(2, 192), (0, 41), (0, 6), (2, 1000012), (0, 0), (0, 12), (9, 0)]) (S' := [(0, 2), (0, 41)]) r_115_1 rfl rfl rfl ?_
  refine gx_st (L' := [(2, 192), (0, 41), (0, 6), (2, 1000012), (0, 0), (0, 12), (9, 0)]) (S' := [(2, 192), (0, 2), (0, 41)]) r_115_2 rfl rfl rfl ?_
  refine gx_gf (x := 198) 2 r_115_3 rfl (tk_192 hT) ⟨by decide, rfl, by decide, by decide⟩ rfl (fun _ => by decide) (pr_192_14 hm) ?_
  refine gx_st (L' := [(2, 192), (0, 41), (0, 6), (2, 1000012), (0, 0), (0, 12), (9, 0)]) (S' := [(0, 6), (2, 198), (0, 2), (0, 41)]) r_115_6 rfl rfl rfl ?_
  refine gx_ia (n := 6) (x := (c : Int)) r_115_7 rfl (tk_198 hT) (rfl) ⟨rfl, by decide⟩ (hc) ?_
  refine gx_ar (L' := [(2, 192), (0, 41), (0, 6), (2, 1000012), (0, 0), (0, 12), (9, 0)]) (S' := [(0, 41)]) (t := 0) (e := w32 (2 * (c : Int))) (z := 2 * (c : Int)) r_115_8 rfl rfl rfl (w32_eq (by omega) (by omega) (by omega)) ?_
  refine gx_ar (L' := [(2, 192), (0, 41), (0, 6), (2, 1000012), (0, 0), (0, 12), (9, 0)]) (S' := []) (t := 0) (e := w32 (41 + (2 * (c : Int)))) (z := 2 * (c : Int) + 41) r_115_9 rfl rfl rfl (w32_eq (by omega) (by omega) (by omega)) ?_
  refine gx_st (L' := [(2, 192), (0, 41), (0, 6), (2, 1000012), (0, 0), (0, 12), (0, 2 * (c : Int) + 41)]) (S' := []) r_115_10 rfl rfl rfl ?_
  refine gx_st (L' := [(2, 192), (0, 41), (0, 6), (2, 1000012), (0, 0), (0, 12), (0, 2 * (c : Int) + 41)]) (S' := [(2, 192)]) r_115_12 rfl rfl rfl ?_
  refine gx_st (L' := [(2, 192), (0, 41), (0, 6), (2, 1000012), (0, 0), (0, 12), (0, 2 * (c : Int) + 41)]) (S' := [(2, 1000014), (2, 192)]) r_115_13 rfl rfl rfl ?_
  refine gx_cv (nx := 18) (S2 := []) (x_108 hT (hm) (o := 1000014) (q := 14) (n := 2) (by decide) (by decide) sl_14 (ht)) r_115_15 rfl rfl rfl rfl rfl (rcv_v rfl (tk_192 hT) (by decide) rfl (by decide)) rfl (by decide) rfl (fun n15 q15 => ?_)
  have g_n15 : FG m n15 := FG_pg q15
  have i_n15 : FI n15 := FI_pg hi q15
  have w9_n15 : n15 198 (9) = m 198 9 := (PG_f q15 (9)).trans (rfl)
  have w6_n15 : n15 198 (6) = (c : Int) := (PG_f q15 (6)).trans (hc)
  refine gx_st (L' := [(2, 192), (0, 41), (0, 6), (2, 1000012), (0, 0), (0, 12), (0, 2 * (c : Int) + 41)]) (S' := [(2, 192)]) r_115_18 rfl rfl rfl ?_
  refine gx_gf (x := 198) 2 r_115_19 rfl (tk_192 hT) ⟨by decide, rfl, by decide, by decide⟩ rfl (fun _ => by decide) (pr_192_14 q15.1) ?_
  refine gx_st (L' := [(2, 192), (0, 41), (0, 6), (2, 1000012), (0, 0), (0, 12), (0, 2 * (c : Int) + 41)]) (S' := [(0, 2 * (c : Int) + 41), (2, 198)]) r_115_22 rfl rfl rfl ?_
  refine gx_st (L' := [(2, 192), (0, 41), (0, 6), (2, 1000012), (0, 0), (0, 12), (0, 2 * (c : Int) + 41)]) (S' := [(2, 192), (0, 2 * (c : Int) + 41), (2, 198)]) r_115_24 rfl rfl rfl ?_
  refine gx_ci (nx := 28) (S2 := [(0, 2 * (c : Int) + 41), (2, 198)]) (x_112 hT (q15.1) (q15.2.2.1)) r_115_25 rfl rfl rfl rfl rfl (rcv_v rfl (tk_192 hT) (by decide) rfl (by decide)) rfl (by decide) rfl (fun x25 n25 q25 => ?_)
  have bb25 := q25.1
  have bc25 := q25.2.1
  show GX T 5 115 28 [(2, 192), (0, 41), (0, 6), (2, 1000012), (0, 0), (0, 12), (0, 2 * (c : Int) + 41)] [(0, x25), (0, 2 * (c : Int) + 41), (2, 198)] n25 (RV (RP m))
  have g_n25 : FG m n25 := FG_tr g_n15 (FG_pg q25.2.2.2)
  have i_n25 : FI n25 := FI_pg i_n15 q25.2.2.2
  have w9_n25 : n25 198 (9) = m 198 9 := (PG_f q25.2.2.2 (9)).trans (w9_n15)
  have w6_n25 : n25 198 (6) = (c : Int) := (PG_f q25.2.2.2 (6)).trans (w6_n15)
  obtain ⟨m1, e_m1⟩ : ∃ z, z = nu_up n25 198 (41 + 2 * c) x25 := ⟨_, rfl⟩
  have h_m1 : Gam m1 := by rw [e_m1]; exact gu_198_vp (q25.2.2.2.1) (k := c) (by omega) (by omega) (by omega)
  have g_m1 : FG m m1 := by rw [e_m1]; exact FG_wr g_n25 (by rw [← e_m1]; exact h_m1)
  have i_m1 : FI m1 := by rw [e_m1]; exact FI_wr i_n25 (by omega)
  have w9_m1 : m1 198 (9) = m 198 9 := by rw [e_m1, nu_ne (by omega)]; exact w9_n25
  have w6_m1 : m1 198 (6) = (c : Int) := by rw [e_m1, nu_ne (by omega)]; exact w6_n25
  refine gx_is (n := 41 + 2 * c) (x := x25) r_115_28 rfl (by decide) (tk_198 hT) (by omega) ⟨rfl, by omega⟩ e_m1.symm ?_
  refine gx_st (L' := [(2, 192), (0, 41), (0, 6), (2, 1000012), (0, 0), (0, 12), (0, 2 * (c : Int) + 41)]) (S' := [(2, 192)]) r_115_29 rfl rfl rfl ?_
  refine gx_gf (x := 198) 2 r_115_30 rfl (tk_192 hT) ⟨by decide, rfl, by decide, by decide⟩ rfl (fun _ => by decide) (pr_192_14 h_m1) ?_
  refine gx_st (L' := [(2, 192), (0, 41), (0, 6), (2, 1000012), (0, 0), (0, 12), (0, 2 * (c : Int) + 41)]) (S' := [(0, 2 * (c : Int) + 41), (2, 198)]) r_115_33 rfl rfl rfl ?_
  refine gx_st (L' := [(2, 192), (0, 41), (0, 6), (2, 1000012), (0, 0), (0, 12), (0, 2 * (c : Int) + 41)]) (S' := [(0, 1), (0, 2 * (c : Int) + 41), (2, 198)]) r_115_35 rfl rfl rfl ?_
  refine gx_ar (L' := [(2, 192), (0, 41), (0, 6), (2, 1000012), (0, 0), (0, 12), (0, 2 * (c : Int) + 41)]) (S' := [(2, 198)]) (t := 0) (e := w32 ((2 * (c : Int) + 41) + 1)) (z := 2 * (c : Int) + 42) r_115_36 rfl rfl rfl (w32_eq (by omega) (by omega) (by omega)) ?_
  refine gx_st (L' := [(2, 192), (0, 41), (0, 6), (2, 1000012), (0, 0), (0, 12), (0, 2 * (c : Int) + 41)]) (S' := [(2, 192), (0, 2 * (c : Int) + 42), (2, 198)]) r_115_37 rfl rfl rfl ?_
  refine gx_st (L' := [(2, 192), (0, 41), (0, 6), (2, 1000012), (0, 0), (0, 12), (0, 2 * (c : Int) + 41)]) (S' := [(2, 1000012), (2, 192), (0, 2 * (c : Int) + 42), (2, 198)]) r_115_38 rfl rfl rfl ?_
  refine gx_st (L' := [(2, 192), (0, 41), (0, 6), (2, 1000012), (0, 0), (0, 12), (0, 2 * (c : Int) + 41)]) (S' := [(0, 0), (2, 1000012), (2, 192), (0, 2 * (c : Int) + 42), (2, 198)]) r_115_39 rfl rfl rfl ?_
  refine gx_st (L' := [(2, 192), (0, 41), (0, 6), (2, 1000012), (0, 0), (0, 12), (0, 2 * (c : Int) + 41)]) (S' := [(0, 12), (0, 0), (2, 1000012), (2, 192), (0, 2 * (c : Int) + 42), (2, 198)]) r_115_41 rfl rfl rfl ?_
  refine gx_ci (nx := 46) (S2 := [(0, 2 * (c : Int) + 42), (2, 198)]) (x_110 hT (h_m1) (o := 1000012) (q := 12) (n := 4) (by decide) (by decide) sl_12 (g_m1.2.2.1) 0 12) r_115_43 rfl rfl rfl rfl rfl (rcv_v rfl (tk_192 hT) (by decide) rfl (by decide)) rfl (by decide) rfl (fun x43 n43 q43 => ?_)
  have bb43 := q43.1
  show GX T 5 115 46 [(2, 192), (0, 41), (0, 6), (2, 1000012), (0, 0), (0, 12), (0, 2 * (c : Int) + 41)] [(0, x43), (0, 2 * (c : Int) + 42), (2, 198)] n43 (RV (RP m))
  have g_n43 : FG m n43 := FG_tr g_m1 (FG_pg q43.2)
  have i_n43 : FI n43 := FI_pg i_m1 q43.2
  have w9_n43 : n43 198 (9) = m 198 9 := (PG_f q43.2 (9)).trans (w9_m1)
  have w6_n43 : n43 198 (6) = (c : Int) := (PG_f q43.2 (6)).trans (w6_m1)
  obtain ⟨m2, e_m2⟩ : ∃ z, z = nu_up n43 198 (42 + 2 * c) x43 := ⟨_, rfl⟩
  have h_m2 : Gam m2 := by rw [e_m2]; exact gu_198_vr (q43.2.1) (k := c) (by omega) (by omega) (by omega)
  have g_m2 : FG m m2 := by rw [e_m2]; exact FG_wr g_n43 (by rw [← e_m2]; exact h_m2)
  have i_m2 : FI m2 := by rw [e_m2]; exact FI_wr i_n43 (by omega)
  have w9_m2 : m2 198 (9) = m 198 9 := by rw [e_m2, nu_ne (by omega)]; exact w9_n43
  have w6_m2 : m2 198 (6) = (c : Int) := by rw [e_m2, nu_ne (by omega)]; exact w6_n43
  refine gx_is (n := 42 + 2 * c) (x := x43) r_115_46 rfl (by decide) (tk_198 hT) (by omega) ⟨rfl, by omega⟩ e_m2.symm ?_
  refine gx_st (L' := [(2, 192), (0, 41), (0, 6), (2, 1000012), (0, 0), (0, 12), (0, 2 * (c : Int) + 41)]) (S' := [(2, 192)]) r_115_47 rfl rfl rfl ?_
  refine gx_gf (x := 198) 2 r_115_48 rfl (tk_192 hT) ⟨by decide, rfl, by decide, by decide⟩ rfl (fun _ => by decide) (pr_192_14 h_m2) ?_
  refine gx_st (L' := [(2, 192), (0, 41), (0, 6), (2, 1000012), (0, 0), (0, 12), (0, 2 * (c : Int) + 41)]) (S' := [(0, 6), (2, 198)]) r_115_51 rfl rfl rfl ?_
  refine gx_st (L' := [(2, 192), (0, 41), (0, 6), (2, 1000012), (0, 0), (0, 12), (0, 2 * (c : Int) + 41)]) (S' := [(0, 6), (2, 198), (0, 6), (2, 198)]) r_115_52 rfl rfl rfl ?_
  refine gx_ia (n := 6) (x := (c : Int)) r_115_53 rfl (tk_198 hT) (rfl) ⟨rfl, by decide⟩ (w6_m2) ?_
  refine gx_st (L' := [(2, 192), (0, 41), (0, 6), (2, 1000012), (0, 0), (0, 12), (0, 2 * (c : Int) + 41)]) (S' := [(0, 1), (0, (c : Int)), (0, 6), (2, 198)]) r_115_54 rfl rfl rfl ?_
  refine gx_ar (L' := [(2, 192), (0, 41), (0, 6), (2, 1000012), (0, 0), (0, 12), (0, 2 * (c : Int) + 41)]) (S' := [(0, 6), (2, 198)]) (t := 0) (e := w32 ((c : Int) + 1)) (z := (c : Int) + 1) r_115_55 rfl rfl rfl (w32_eq (by omega) (by omega) (by omega)) ?_
  obtain ⟨m3, e_m3⟩ : ∃ z, z = nu_up m2 198 (6) ((c : Int) + 1) := ⟨_, rfl⟩
  have h_m3 : Gam m3 := by rw [e_m3]; exact gu_198_6 (h_m2) (by omega) (by omega)
  have g_m3 : FG m m3 := by rw [e_m3]; exact FG_wr g_m2 (by rw [← e_m3]; exact h_m3)
  have i_m3 : FI m3 := by rw [e_m3]; exact FI_wr i_m2 (by omega)
  have w9_m3 : m3 198 (9) = m 198 9 := by rw [e_m3, nu_ne (by omega)]; exact w9_m2
  refine gx_is (n := 6) (x := (c : Int) + 1) r_115_56 rfl (by decide) (tk_198 hT) (rfl) ⟨rfl, by decide⟩ e_m3.symm ?_
  exact gx_rt r_115_57 rfl rfl ⟨rfl, g_m3, i_m3, w9_m3⟩
theorem x_115c {m : Mm} (hT : TT T) (hm : Gam m) (ht : TK m) (hi : FI m) {c : Nat} (hc : m 198 7 = (c : Int)) (hcm : c ≤ 4) : GX T 5 115 0 [(2, 192), (0, 47), (0, 7), (2, 1000013), (0, 1), (0, 99), (9, 0)] [] m (RV (RP m)) := by
  refine gx_st (L' := [(2, 192), (0, 47), (0, 7), (2, 1000013), (0, 1), (0, 99), (9, 0)]) (S' := [(0, 47)]) r_115_0 rfl rfl rfl ?_
  refine gx_st (L' := [(2, 192), (0, 47), (0, 7), (2, 1000013), (0, 1), (0, 99), (9, 0)]) (S' := [(0, 2), (0, 47)]) r_115_1 rfl rfl rfl ?_
  refine gx_st (L' := [(2, 192), (0, 47), (0, 7), (2, 1000013), (0, 1), (0, 99), (9, 0)]) (S' := [(2, 192), (0, 2), (0, 47)]) r_115_2 rfl rfl rfl ?_
  refine gx_gf (x := 198) 2 r_115_3 rfl (tk_192 hT) ⟨by decide, rfl, by decide, by decide⟩ rfl (fun _ => by decide) (pr_192_14 hm) ?_
  refine gx_st (L' := [(2, 192), (0, 47), (0, 7), (2, 1000013), (0, 1), (0, 99), (9, 0)]) (S' := [(0, 7), (2, 198), (0, 2), (0, 47)]) r_115_6 rfl rfl rfl ?_
  refine gx_ia (n := 7) (x := (c : Int)) r_115_7 rfl (tk_198 hT) (rfl) ⟨rfl, by decide⟩ (hc) ?_
  refine gx_ar (L' := [(2, 192), (0, 47), (0, 7), (2, 1000013), (0, 1), (0, 99), (9, 0)]) (S' := [(0, 47)]) (t := 0) (e := w32 (2 * (c : Int))) (z := 2 * (c : Int)) r_115_8 rfl rfl rfl (w32_eq (by omega) (by omega) (by omega)) ?_
  refine gx_ar (L' := [(2, 192), (0, 47), (0, 7), (2, 1000013), (0, 1), (0, 99), (9, 0)]) (S' := []) (t := 0) (e := w32 (47 + (2 * (c : Int)))) (z := 2 * (c : Int) + 47) r_115_9 rfl rfl rfl (w32_eq (by omega) (by omega) (by omega)) ?_
  refine gx_st (L' := [(2, 192), (0, 47), (0, 7), (2, 1000013), (0, 1), (0, 99), (0, 2 * (c : Int) + 47)]) (S' := []) r_115_10 rfl rfl rfl ?_
  refine gx_st (L' := [(2, 192), (0, 47), (0, 7), (2, 1000013), (0, 1), (0, 99), (0, 2 * (c : Int) + 47)]) (S' := [(2, 192)]) r_115_12 rfl rfl rfl ?_
  refine gx_st (L' := [(2, 192), (0, 47), (0, 7), (2, 1000013), (0, 1), (0, 99), (0, 2 * (c : Int) + 47)]) (S' := [(2, 1000014), (2, 192)]) r_115_13 rfl rfl rfl ?_
  refine gx_cv (nx := 18) (S2 := []) (x_108 hT (hm) (o := 1000014) (q := 14) (n := 2) (by decide) (by decide) sl_14 (ht)) r_115_15 rfl rfl rfl rfl rfl (rcv_v rfl (tk_192 hT) (by decide) rfl (by decide)) rfl (by decide) rfl (fun n15 q15 => ?_)
  have g_n15 : FG m n15 := FG_pg q15
  have i_n15 : FI n15 := FI_pg hi q15
  have w9_n15 : n15 198 (9) = m 198 9 := (PG_f q15 (9)).trans (rfl)
  have w7_n15 : n15 198 (7) = (c : Int) := (PG_f q15 (7)).trans (hc)
  refine gx_st (L' := [(2, 192), (0, 47), (0, 7), (2, 1000013), (0, 1), (0, 99), (0, 2 * (c : Int) + 47)]) (S' := [(2, 192)]) r_115_18 rfl rfl rfl ?_
  refine gx_gf (x := 198) 2 r_115_19 rfl (tk_192 hT) ⟨by decide, rfl, by decide, by decide⟩ rfl (fun _ => by decide) (pr_192_14 q15.1) ?_
  refine gx_st (L' := [(2, 192), (0, 47), (0, 7), (2, 1000013), (0, 1), (0, 99), (0, 2 * (c : Int) + 47)]) (S' := [(0, 2 * (c : Int) + 47), (2, 198)]) r_115_22 rfl rfl rfl ?_
  refine gx_st (L' := [(2, 192), (0, 47), (0, 7), (2, 1000013), (0, 1), (0, 99), (0, 2 * (c : Int) + 47)]) (S' := [(2, 192), (0, 2 * (c : Int) + 47), (2, 198)]) r_115_24 rfl rfl rfl ?_
  refine gx_ci (nx := 28) (S2 := [(0, 2 * (c : Int) + 47), (2, 198)]) (x_112 hT (q15.1) (q15.2.2.1)) r_115_25 rfl rfl rfl rfl rfl (rcv_v rfl (tk_192 hT) (by decide) rfl (by decide)) rfl (by decide) rfl (fun x25 n25 q25 => ?_)
  have bb25 := q25.1
  have bc25 := q25.2.1
  show GX T 5 115 28 [(2, 192), (0, 47), (0, 7), (2, 1000013), (0, 1), (0, 99), (0, 2 * (c : Int) + 47)] [(0, x25), (0, 2 * (c : Int) + 47), (2, 198)] n25 (RV (RP m))
  have g_n25 : FG m n25 := FG_tr g_n15 (FG_pg q25.2.2.2)
  have i_n25 : FI n25 := FI_pg i_n15 q25.2.2.2
  have w9_n25 : n25 198 (9) = m 198 9 := (PG_f q25.2.2.2 (9)).trans (w9_n15)
  have w7_n25 : n25 198 (7) = (c : Int) := (PG_f q25.2.2.2 (7)).trans (w7_n15)
  obtain ⟨m1, e_m1⟩ : ∃ z, z = nu_up n25 198 (47 + 2 * c) x25 := ⟨_, rfl⟩
  have h_m1 : Gam m1 := by rw [e_m1]; exact gu_198_bp (q25.2.2.2.1) (k := c) (by omega) (by omega) (by omega)
  have g_m1 : FG m m1 := by rw [e_m1]; exact FG_wr g_n25 (by rw [← e_m1]; exact h_m1)
  have i_m1 : FI m1 := by rw [e_m1]; exact FI_wr i_n25 (by omega)
  have w9_m1 : m1 198 (9) = m 198 9 := by rw [e_m1, nu_ne (by omega)]; exact w9_n25
  have w7_m1 : m1 198 (7) = (c : Int) := by rw [e_m1, nu_ne (by omega)]; exact w7_n25
  refine gx_is (n := 47 + 2 * c) (x := x25) r_115_28 rfl (by decide) (tk_198 hT) (by omega) ⟨rfl, by omega⟩ e_m1.symm ?_
  refine gx_st (L' := [(2, 192), (0, 47), (0, 7), (2, 1000013), (0, 1), (0, 99), (0, 2 * (c : Int) + 47)]) (S' := [(2, 192)]) r_115_29 rfl rfl rfl ?_
  refine gx_gf (x := 198) 2 r_115_30 rfl (tk_192 hT) ⟨by decide, rfl, by decide, by decide⟩ rfl (fun _ => by decide) (pr_192_14 h_m1) ?_
  refine gx_st (L' := [(2, 192), (0, 47), (0, 7), (2, 1000013), (0, 1), (0, 99), (0, 2 * (c : Int) + 47)]) (S' := [(0, 2 * (c : Int) + 47), (2, 198)]) r_115_33 rfl rfl rfl ?_
  refine gx_st (L' := [(2, 192), (0, 47), (0, 7), (2, 1000013), (0, 1), (0, 99), (0, 2 * (c : Int) + 47)]) (S' := [(0, 1), (0, 2 * (c : Int) + 47), (2, 198)]) r_115_35 rfl rfl rfl ?_
  refine gx_ar (L' := [(2, 192), (0, 47), (0, 7), (2, 1000013), (0, 1), (0, 99), (0, 2 * (c : Int) + 47)]) (S' := [(2, 198)]) (t := 0) (e := w32 ((2 * (c : Int) + 47) + 1)) (z := 2 * (c : Int) + 48) r_115_36 rfl rfl rfl (w32_eq (by omega) (by omega) (by omega)) ?_
  refine gx_st (L' := [(2, 192), (0, 47), (0, 7), (2, 1000013), (0, 1), (0, 99), (0, 2 * (c : Int) + 47)]) (S' := [(2, 192), (0, 2 * (c : Int) + 48), (2, 198)]) r_115_37 rfl rfl rfl ?_
  refine gx_st (L' := [(2, 192), (0, 47), (0, 7), (2, 1000013), (0, 1), (0, 99), (0, 2 * (c : Int) + 47)]) (S' := [(2, 1000013), (2, 192), (0, 2 * (c : Int) + 48), (2, 198)]) r_115_38 rfl rfl rfl ?_
  refine gx_st (L' := [(2, 192), (0, 47), (0, 7), (2, 1000013), (0, 1), (0, 99), (0, 2 * (c : Int) + 47)]) (S' := [(0, 1), (2, 1000013), (2, 192), (0, 2 * (c : Int) + 48), (2, 198)]) r_115_39 rfl rfl rfl ?_
  refine gx_st (L' := [(2, 192), (0, 47), (0, 7), (2, 1000013), (0, 1), (0, 99), (0, 2 * (c : Int) + 47)]) (S' := [(0, 99), (0, 1), (2, 1000013), (2, 192), (0, 2 * (c : Int) + 48), (2, 198)]) r_115_41 rfl rfl rfl ?_
  refine gx_ci (nx := 46) (S2 := [(0, 2 * (c : Int) + 48), (2, 198)]) (x_110 hT (h_m1) (o := 1000013) (q := 13) (n := 8) (by decide) (by decide) sl_13 (g_m1.2.2.1) 1 99) r_115_43 rfl rfl rfl rfl rfl (rcv_v rfl (tk_192 hT) (by decide) rfl (by decide)) rfl (by decide) rfl (fun x43 n43 q43 => ?_)
  have bb43 := q43.1
  show GX T 5 115 46 [(2, 192), (0, 47), (0, 7), (2, 1000013), (0, 1), (0, 99), (0, 2 * (c : Int) + 47)] [(0, x43), (0, 2 * (c : Int) + 48), (2, 198)] n43 (RV (RP m))
  have g_n43 : FG m n43 := FG_tr g_m1 (FG_pg q43.2)
  have i_n43 : FI n43 := FI_pg i_m1 q43.2
  have w9_n43 : n43 198 (9) = m 198 9 := (PG_f q43.2 (9)).trans (w9_m1)
  have w7_n43 : n43 198 (7) = (c : Int) := (PG_f q43.2 (7)).trans (w7_m1)
  obtain ⟨m2, e_m2⟩ : ∃ z, z = nu_up n43 198 (48 + 2 * c) x43 := ⟨_, rfl⟩
  have h_m2 : Gam m2 := by rw [e_m2]; exact gu_198_bs (q43.2.1) (k := c) (by omega) (by omega) (by omega)
  have g_m2 : FG m m2 := by rw [e_m2]; exact FG_wr g_n43 (by rw [← e_m2]; exact h_m2)
  have i_m2 : FI m2 := by rw [e_m2]; exact FI_wr i_n43 (by omega)
  have w9_m2 : m2 198 (9) = m 198 9 := by rw [e_m2, nu_ne (by omega)]; exact w9_n43
  have w7_m2 : m2 198 (7) = (c : Int) := by rw [e_m2, nu_ne (by omega)]; exact w7_n43
  refine gx_is (n := 48 + 2 * c) (x := x43) r_115_46 rfl (by decide) (tk_198 hT) (by omega) ⟨rfl, by omega⟩ e_m2.symm ?_
  refine gx_st (L' := [(2, 192), (0, 47), (0, 7), (2, 1000013), (0, 1), (0, 99), (0, 2 * (c : Int) + 47)]) (S' := [(2, 192)]) r_115_47 rfl rfl rfl ?_
  refine gx_gf (x := 198) 2 r_115_48 rfl (tk_192 hT) ⟨by decide, rfl, by decide, by decide⟩ rfl (fun _ => by decide) (pr_192_14 h_m2) ?_
  refine gx_st (L' := [(2, 192), (0, 47), (0, 7), (2, 1000013), (0, 1), (0, 99), (0, 2 * (c : Int) + 47)]) (S' := [(0, 7), (2, 198)]) r_115_51 rfl rfl rfl ?_
  refine gx_st (L' := [(2, 192), (0, 47), (0, 7), (2, 1000013), (0, 1), (0, 99), (0, 2 * (c : Int) + 47)]) (S' := [(0, 7), (2, 198), (0, 7), (2, 198)]) r_115_52 rfl rfl rfl ?_
  refine gx_ia (n := 7) (x := (c : Int)) r_115_53 rfl (tk_198 hT) (rfl) ⟨rfl, by decide⟩ (w7_m2) ?_
  refine gx_st (L' := [(2, 192), (0, 47), (0, 7), (2, 1000013), (0, 1), (0, 99), (0, 2 * (c : Int) + 47)]) (S' := [(0, 1), (0, (c : Int)), (0, 7), (2, 198)]) r_115_54 rfl rfl rfl ?_
  refine gx_ar (L' := [(2, 192), (0, 47), (0, 7), (2, 1000013), (0, 1), (0, 99), (0, 2 * (c : Int) + 47)]) (S' := [(0, 7), (2, 198)]) (t := 0) (e := w32 ((c : Int) + 1)) (z := (c : Int) + 1) r_115_55 rfl rfl rfl (w32_eq (by omega) (by omega) (by omega)) ?_
  obtain ⟨m3, e_m3⟩ : ∃ z, z = nu_up m2 198 (7) ((c : Int) + 1) := ⟨_, rfl⟩
  have h_m3 : Gam m3 := by rw [e_m3]; exact gu_198_7 (h_m2) (by omega) (by omega)
  have g_m3 : FG m m3 := by rw [e_m3]; exact FG_wr g_m2 (by rw [← e_m3]; exact h_m3)
  have i_m3 : FI m3 := by rw [e_m3]; exact FI_wr i_m2 (by omega)
  have w9_m3 : m3 198 (9) = m 198 9 := by rw [e_m3, nu_ne (by omega)]; exact w9_m2
  refine gx_is (n := 7) (x := (c : Int) + 1) r_115_56 rfl (by decide) (tk_198 hT) (rfl) ⟨rfl, by decide⟩ e_m3.symm ?_
  exact gx_rt r_115_57 rfl rfl ⟨rfl, g_m3, i_m3, w9_m3⟩
end LINES
