/-! isle of the reference -/
theorem r_117_0 : row 117 0 = some (.aload_n 0, 1, 0, 0, 0, 0) := rfl
theorem r_117_1 : row 117 1 = some (.getfield 31, 4, 10, 14, 2, 6015) := rfl
theorem r_117_4 : row 117 4 = some (.bipush 9, 6, 9, 0, 0, 0) := rfl
theorem r_117_6 : row 117 6 = some (.iaload, 7, 0, 0, 0, 0) := rfl
theorem r_117_7 : row 117 7 = some (.ifCond .ne 10, 10, 17, 0, 0, 0) := rfl
theorem r_117_10 : row 117 10 = some (.aload_n 0, 11, 0, 0, 0, 0) := rfl
theorem r_117_11 : row 117 11 = some (.invokevirtual 207, 14, 113, 0, 0, 6176) := rfl
theorem r_117_14 : row 117 14 = some (.goto 7, 17, 21, 0, 0, 0) := rfl
theorem r_117_17 : row 117 17 = some (.aload_n 0, 18, 0, 0, 0, 0) := rfl
theorem r_117_18 : row 117 18 = some (.invokevirtual 210, 21, 116, 0, 0, 6211) := rfl
theorem r_117_21 : row 117 21 = some (.aload_n 0, 22, 0, 0, 0, 0) := rfl
theorem r_117_22 : row 117 22 = some (.invokevirtual 130, 25, 104, 0, 0, 6168) := rfl
theorem r_117_25 : row 117 25 = some (.ifCond .eq 16, 28, 41, 0, 0, 0) := rfl
theorem r_117_28 : row 117 28 = some (.aload_n 0, 29, 0, 0, 0, 0) := rfl
theorem r_117_29 : row 117 29 = some (.getfield 106, 32, 10, 10, 0, 6011) := rfl
theorem r_117_32 : row 117 32 = some (.iconst 3, 33, 3, 0, 0, 0) := rfl
theorem r_117_33 : row 117 33 = some (.if_icmp .eq 8, 36, 41, 0, 0, 0) := rfl
theorem r_117_36 : row 117 36 = some (.aload_n 0, 37, 0, 0, 0, 0) := rfl
theorem r_117_37 : row 117 37 = some (.iconst 1, 38, 1, 0, 0, 0) := rfl
theorem r_117_38 : row 117 38 = some (.invokevirtual 153, 41, 105, 1, 0, 6195) := rfl
theorem r_117_41 : row 117 41 = some (.aload_n 0, 42, 0, 0, 0, 0) := rfl
theorem r_117_42 : row 117 42 = some (.invokevirtual 130, 45, 104, 0, 0, 6168) := rfl
theorem r_117_45 : row 117 45 = some (.ifCond .eq 7, 48, 52, 0, 0, 0) := rfl
theorem r_117_48 : row 117 48 = some (.aload_n 0, 49, 0, 0, 0, 0) := rfl
theorem r_117_49 : row 117 49 = some (.invokevirtual 147, 52, 103, 0, 0, 6154) := rfl
theorem r_117_52 : row 117 52 = some (.aload_n 0, 53, 0, 0, 0, 0) := rfl
theorem r_117_53 : row 117 53 = some (.getfield 31, 56, 10, 14, 2, 6015) := rfl
theorem r_117_56 : row 117 56 = some (.bipush 9, 58, 9, 0, 0, 0) := rfl
theorem r_117_58 : row 117 58 = some (.dup2, 59, 0, 0, 0, 0) := rfl
theorem r_117_59 : row 117 59 = some (.iaload, 60, 0, 0, 0, 0) := rfl
theorem r_117_60 : row 117 60 = some (.iconst 1, 61, 1, 0, 0, 0) := rfl
theorem r_117_61 : row 117 61 = some (.iadd, 62, 0, 0, 0, 0) := rfl
theorem r_117_62 : row 117 62 = some (.iastore, 63, 0, 0, 0, 0) := rfl
theorem r_117_63 : row 117 63 = some (.return_, 64, 0, 0, 0, 0) := rfl
theorem r_118_0 : row 118 0 = some (.aload_n 0, 1, 0, 0, 0, 0) := rfl
theorem r_118_1 : row 118 1 = some (.aload_n 0, 2, 0, 0, 0, 0) := rfl
theorem r_118_2 : row 118 2 = some (.getfield 90, 5, 10, 5, 0, 6006) := rfl
theorem r_118_5 : row 118 5 = some (.putfield 93, 8, 10, 7, 0, 6008) := rfl
theorem r_118_8 : row 118 8 = some (.aload_n 0, 9, 0, 0, 0, 0) := rfl
theorem r_118_9 : row 118 9 = some (.iconst 0, 10, 0, 0, 0, 0) := rfl
theorem r_118_10 : row 118 10 = some (.putfield 90, 13, 10, 5, 0, 6006) := rfl
theorem r_118_13 : row 118 13 = some (.aload_n 0, 14, 0, 0, 0, 0) := rfl
theorem r_118_14 : row 118 14 = some (.iconst 0, 15, 0, 0, 0, 0) := rfl
theorem r_118_15 : row 118 15 = some (.putfield 96, 18, 10, 8, 0, 6009) := rfl
theorem r_118_18 : row 118 18 = some (.aload_n 0, 19, 0, 0, 0, 0) := rfl
theorem r_118_19 : row 118 19 = some (.iconst 0, 20, 0, 0, 0, 0) := rfl
theorem r_118_20 : row 118 20 = some (.putfield 127, 23, 10, 12, 0, 6013) := rfl
theorem r_118_23 : row 118 23 = some (.aload_n 0, 24, 0, 0, 0, 0) := rfl
theorem r_118_24 : row 118 24 = some (.iconst (-1), 25, (-1), 0, 0, 0) := rfl
theorem r_118_25 : row 118 25 = some (.putfield 27, 28, 10, 13, 0, 6014) := rfl
theorem r_118_28 : row 118 28 = some (.iconst 0, 29, 0, 0, 0, 0) := rfl
theorem r_118_29 : row 118 29 = some (.istore_n 1, 30, 0, 0, 0, 0) := rfl
theorem r_118_30 : row 118 30 = some (.iload_n 1, 31, 0, 0, 0, 0) := rfl
theorem r_118_31 : row 118 31 = some (.bipush 69, 33, 69, 0, 0, 0) := rfl
theorem r_118_33 : row 118 33 = some (.if_icmp .ge 16, 36, 49, 0, 0, 0) := rfl
theorem r_118_36 : row 118 36 = some (.aload_n 0, 37, 0, 0, 0, 0) := rfl
theorem r_118_37 : row 118 37 = some (.getfield 31, 40, 10, 14, 2, 6015) := rfl
theorem r_118_40 : row 118 40 = some (.iload_n 1, 41, 0, 0, 0, 0) := rfl
theorem r_118_41 : row 118 41 = some (.iconst 0, 42, 0, 0, 0, 0) := rfl
theorem r_118_42 : row 118 42 = some (.iastore, 43, 0, 0, 0, 0) := rfl
theorem r_118_43 : row 118 43 = some (.iinc 1 1, 46, 0, 0, 0, 0) := rfl
theorem r_118_46 : row 118 46 = some (.goto (-16), 49, 30, 0, 0, 0) := rfl
theorem r_118_49 : row 118 49 = some (.aload_n 0, 50, 0, 0, 0, 0) := rfl
theorem r_118_50 : row 118 50 = some (.invokevirtual 147, 53, 103, 0, 0, 6154) := rfl
theorem r_118_53 : row 118 53 = some (.aload_n 0, 54, 0, 0, 0, 0) := rfl
theorem r_118_54 : row 118 54 = some (.invokevirtual 130, 57, 104, 0, 0, 6168) := rfl
theorem r_118_57 : row 118 57 = some (.ifCond .eq 17, 60, 74, 0, 0, 0) := rfl
theorem r_118_60 : row 118 60 = some (.aload_n 0, 61, 0, 0, 0, 0) := rfl
theorem r_118_61 : row 118 61 = some (.getfield 106, 64, 10, 10, 0, 6011) := rfl
theorem r_118_64 : row 118 64 = some (.ifCond .eq 10, 67, 74, 0, 0, 0) := rfl
theorem r_118_67 : row 118 67 = some (.aload_n 0, 68, 0, 0, 0, 0) := rfl
theorem r_118_68 : row 118 68 = some (.invokevirtual 213, 71, 117, 0, 0, 6172) := rfl
theorem r_118_71 : row 118 71 = some (.goto (-18), 74, 53, 0, 0, 0) := rfl
theorem r_118_74 : row 118 74 = some (.aload_n 0, 75, 0, 0, 0, 0) := rfl
theorem r_118_75 : row 118 75 = some (.invokevirtual 130, 78, 104, 0, 0, 6168) := rfl
theorem r_118_78 : row 118 78 = some (.ifCond .ne 6, 81, 84, 0, 0, 0) := rfl
theorem r_118_81 : row 118 81 = some (.bipush (-4), 83, (-4), 0, 0, 0) := rfl
theorem r_118_83 : row 118 83 = some (.ireturn, 84, 0, 0, 0, 0) := rfl
theorem r_118_84 : row 118 84 = some (.iconst 0, 85, 0, 0, 0, 0) := rfl
theorem r_118_85 : row 118 85 = some (.istore_n 1, 86, 0, 0, 0, 0) := rfl
theorem r_118_86 : row 118 86 = some (.iload_n 1, 87, 0, 0, 0, 0) := rfl
theorem r_118_87 : row 118 87 = some (.bipush 69, 89, 69, 0, 0, 0) := rfl
theorem r_118_89 : row 118 89 = some (.if_icmp .ge 21, 92, 110, 0, 0, 0) := rfl
theorem r_118_92 : row 118 92 = some (.aload_n 0, 93, 0, 0, 0, 0) := rfl
theorem r_118_93 : row 118 93 = some (.getfield 9, 96, 10, 1, 2, 6002) := rfl
theorem r_118_96 : row 118 96 = some (.iload_n 1, 97, 0, 0, 0, 0) := rfl
theorem r_118_97 : row 118 97 = some (.aload_n 0, 98, 0, 0, 0, 0) := rfl
theorem r_118_98 : row 118 98 = some (.getfield 31, 101, 10, 14, 2, 6015) := rfl
theorem r_118_101 : row 118 101 = some (.iload_n 1, 102, 0, 0, 0, 0) := rfl
theorem r_118_102 : row 118 102 = some (.iaload, 103, 0, 0, 0, 0) := rfl
theorem r_118_103 : row 118 103 = some (.iastore, 104, 0, 0, 0, 0) := rfl
theorem r_118_104 : row 118 104 = some (.iinc 1 1, 107, 0, 0, 0, 0) := rfl
theorem r_118_107 : row 118 107 = some (.goto (-21), 110, 86, 0, 0, 0) := rfl
theorem r_118_110 : row 118 110 = some (.aload_n 0, 111, 0, 0, 0, 0) := rfl
theorem r_118_111 : row 118 111 = some (.getfield 9, 114, 10, 1, 2, 6002) := rfl
theorem r_118_114 : row 118 114 = some (.bipush 9, 116, 9, 0, 0, 0) := rfl
theorem r_118_116 : row 118 116 = some (.iaload, 117, 0, 0, 0, 0) := rfl
theorem r_118_117 : row 118 117 = some (.ireturn, 118, 0, 0, 0, 0) := rfl
theorem RN_rp {m m' : Mm} (h : RP m m') : RN m m' := ⟨h.1.1, h.1.2.1, h.1.2.2.1, h.2.1, h.1.2.2.2.1, h.1.2.2.2.2, h.2.2⟩
theorem RN_tp {a b c : Mm} (h1 : RN a b) (h2 : PG b c) : RN a c := by
  obtain ⟨a1, a2, a3, a4, a5, a6, a7⟩ := h1
  obtain ⟨f1, f2, f3, f4, f5⟩ := FG_tr ⟨a1, a2, a3, a5, a6⟩ (FG_pg h2)
  exact ⟨f1, f2, f3, FI_pg a4 h2, f4, f5, (PG_f h2 9).trans a7⟩
/-- a line is read -/
def LN (m m' : Mm) : Prop := Gam m' ∧ Fr [90008, 90009, 90010, 90011, 90012, 90013, 96999] m m' ∧ TK m' ∧ FI m' ∧ m 192 9 ≤ m' 192 9 ∧ (m' 192 12 = 0 → m 192 9 < m' 192 9) ∧ m' 198 9 = m 198 9 + 1
theorem LN_rn {a b : Mm} {x : Int} (h : RN a b) (hx : x = a 198 9 + 1) (hg : Gam (nu_up b 198 9 x)) (ht : ¬ a 192 10 = 0) : LN a (nu_up b 198 9 x) := by
  obtain ⟨a1, a2, a3, a4, a5, a6, a7⟩ := h
  have e : ∀ j, (nu_up b 198 9 x) 192 j = b 192 j := fun j => nu_no (by decide)
  refine ⟨hg, Fr_tr a2 (Fr_ua rfl rfl), ?_, FI_wr a4 (by omega), ?_, ?_, ?_⟩
  · unfold TK at *; rw [e, e, e]; exact a3
  · rw [e]; exact a5
  · rw [e, e]; intro z; exact (a6 z).2.resolve_left ht
  · rw [nu_at]; exact hx
section ISLE
variable {T : List Kd}
theorem x_117 {m : Mm} (hT : TT T) (hm : Gam m) (ht : TK m) (hi : FI m) {l : Int} (hl : m 198 9 = l) (hl1 : 0 ≤ l) (hl2 : l ≤ 100000) (htk : ¬ m 192 10 = 0) : GX T 7 117 0 [(2, 192)] [] m (RV (LN m)) := by
  refine gx_st (L' := [(2, 192)]) (S' := [(2, 192)]) r_117_0 rfl rfl rfl ?_
  refine gx_gf (x := 198) 2 r_117_1 rfl (tk_192 hT) ⟨by decide, rfl, by decide, by decide⟩ rfl (fun _ => by decide) (pr_192_14 hm) ?_
  refine gx_st (L' := [(2, 192)]) (S' := [(0, 9), (2, 198)]) r_117_4 rfl rfl rfl ?_
  obtain ⟨x6, e_x6⟩ : ∃ z, z = m 198 (9) := ⟨_, rfl⟩
  have b_x6 := gb_198_9 hm
  rw [← e_x6] at b_x6
  refine gx_ia (n := 9) (x := x6) r_117_6 rfl (tk_198 hT) (rfl) ⟨rfl, by decide⟩ (e_x6.symm) ?_
  refine gx_i0 (P := ¬ x6 = 0) r_117_7 (rfl) (fun h7 => ?_) (fun h7 => ?_)
  · refine gx_st (L' := [(2, 192)]) (S' := [(2, 192)]) r_117_17 rfl rfl rfl ?_
    refine gx_cv (nx := 21) (S2 := []) (x_116 hT hm ht hi) r_117_18 rfl rfl rfl rfl rfl (rcv_v rfl (tk_192 hT) (by decide) rfl (by decide)) rfl (by decide) rfl (fun n18 q18 => ?_)
    have r_n18 : RN m n18 := q18
    refine gx_st (L' := [(2, 192)]) (S' := [(2, 192)]) r_117_21 rfl rfl rfl ?_
    refine gx_ci (nx := 25) (S2 := []) (x_104 hT (r_n18.1)) r_117_22 rfl rfl rfl rfl rfl (rcv_v rfl (tk_192 hT) (by decide) rfl (by decide)) rfl (by decide) rfl (fun x22 n22 q22 => ?_)
    obtain rfl := q22.1.symm
    obtain rfl := q22.2.symm
    show GX T 7 117 25 [(2, 192)] [(0, (if n18 192 12 = 0 then 1 else 0))] n18 (RV (LN m))
    refine gx_i0 (P := ¬ (n18 192 12 = 0)) r_117_25 (b01_eq) (fun h25 => ?_) (fun h25 => ?_)
    · refine gx_st (L' := [(2, 192)]) (S' := [(2, 192)]) r_117_41 rfl rfl rfl ?_
      refine gx_ci (nx := 45) (S2 := []) (x_104 hT (r_n18.1)) r_117_42 rfl rfl rfl rfl rfl (rcv_v rfl (tk_192 hT) (by decide) rfl (by decide)) rfl (by decide) rfl (fun x42 n42 q42 => ?_)
      obtain rfl := q42.1.symm
      obtain rfl := q42.2.symm
      show GX T 7 117 45 [(2, 192)] [(0, (if n18 192 12 = 0 then 1 else 0))] n18 (RV (LN m))
      refine gx_i0 (P := ¬ (n18 192 12 = 0)) r_117_45 (b01_eq) (fun h45 => ?_) (fun h45 => ?_)
      · refine gx_st (L' := [(2, 192)]) (S' := [(2, 192)]) r_117_52 rfl rfl rfl ?_
        refine gx_gf (x := 198) 2 r_117_53 rfl (tk_192 hT) ⟨by decide, rfl, by decide, by decide⟩ rfl (fun _ => by decide) (pr_192_14 r_n18.1) ?_
        refine gx_st (L' := [(2, 192)]) (S' := [(0, 9), (2, 198)]) r_117_56 rfl rfl rfl ?_
        refine gx_st (L' := [(2, 192)]) (S' := [(0, 9), (2, 198), (0, 9), (2, 198)]) r_117_58 rfl rfl rfl ?_
        refine gx_ia (n := 9) (x := l) r_117_59 rfl (tk_198 hT) (rfl) ⟨rfl, by decide⟩ (r_n18.2.2.2.2.2.2.trans hl) ?_
        refine gx_st (L' := [(2, 192)]) (S' := [(0, 1), (0, l), (0, 9), (2, 198)]) r_117_60 rfl rfl rfl ?_
        refine gx_ar (L' := [(2, 192)]) (S' := [(0, 9), (2, 198)]) (t := 0) (e := w32 (l + 1)) (z := l + 1) r_117_61 rfl rfl rfl (w32_eq (by omega) (by omega) (by omega)) ?_
        obtain ⟨m1, e_m1⟩ : ∃ z, z = nu_up n18 198 (9) (l + 1) := ⟨_, rfl⟩
        have h_m1 : Gam m1 := by rw [e_m1]; exact gu_198_9 (r_n18.1) (by omega) (by omega)
        refine gx_is (n := 9) (x := l + 1) r_117_62 rfl (by decide) (tk_198 hT) (rfl) ⟨rfl, by decide⟩ e_m1.symm ?_
        refine gx_rt r_117_63 rfl rfl ⟨rfl, ?_⟩
        rw [e_m1]
        exact LN_rn r_n18 (by omega) (by rw [← e_m1]; exact h_m1) htk
      · have h45 := Decidable.not_not.mp h45
        refine gx_st (L' := [(2, 192)]) (S' := [(2, 192)]) r_117_48 rfl rfl rfl ?_
        refine gx_cv (nx := 52) (S2 := []) (x_103 hT (r_n18.1)) r_117_49 rfl rfl rfl rfl rfl (rcv_v rfl (tk_192 hT) (by decide) rfl (by decide)) rfl (by decide) rfl (fun n49 q49 => ?_)
        have r_n49 : RN m n49 := RN_tp r_n18 (PG_av (r_n18.2.2.1) (by omega) q49)
        refine gx_st (L' := [(2, 192)]) (S' := [(2, 192)]) r_117_52 rfl rfl rfl ?_
        refine gx_gf (x := 198) 2 r_117_53 rfl (tk_192 hT) ⟨by decide, rfl, by decide, by decide⟩ rfl (fun _ => by decide) (pr_192_14 r_n49.1) ?_
        refine gx_st (L' := [(2, 192)]) (S' := [(0, 9), (2, 198)]) r_117_56 rfl rfl rfl ?_
        refine gx_st (L' := [(2, 192)]) (S' := [(0, 9), (2, 198), (0, 9), (2, 198)]) r_117_58 rfl rfl rfl ?_
        refine gx_ia (n := 9) (x := l) r_117_59 rfl (tk_198 hT) (rfl) ⟨rfl, by decide⟩ (r_n49.2.2.2.2.2.2.trans hl) ?_
        refine gx_st (L' := [(2, 192)]) (S' := [(0, 1), (0, l), (0, 9), (2, 198)]) r_117_60 rfl rfl rfl ?_
        refine gx_ar (L' := [(2, 192)]) (S' := [(0, 9), (2, 198)]) (t := 0) (e := w32 (l + 1)) (z := l + 1) r_117_61 rfl rfl rfl (w32_eq (by omega) (by omega) (by omega)) ?_
        obtain ⟨m2, e_m2⟩ : ∃ z, z = nu_up n49 198 (9) (l + 1) := ⟨_, rfl⟩
        have h_m2 : Gam m2 := by rw [e_m2]; exact gu_198_9 (r_n49.1) (by omega) (by omega)
        refine gx_is (n := 9) (x := l + 1) r_117_62 rfl (by decide) (tk_198 hT) (rfl) ⟨rfl, by decide⟩ e_m2.symm ?_
        refine gx_rt r_117_63 rfl rfl ⟨rfl, ?_⟩
        rw [e_m2]
        exact LN_rn r_n49 (by omega) (by rw [← e_m2]; exact h_m2) htk
    · have h25 := Decidable.not_not.mp h25
      refine gx_st (L' := [(2, 192)]) (S' := [(2, 192)]) r_117_28 rfl rfl rfl ?_
      obtain ⟨x29, e_x29⟩ : ∃ z, z = n18 192 10 := ⟨_, rfl⟩
      have b_x29 := gb_192_10 r_n18.1
      rw [← e_x29] at b_x29
      refine gx_gf (x := x29) 0 r_117_29 rfl (tk_192 hT) ⟨by decide, rfl, by decide, by decide⟩ rfl (fun z => absurd z (by decide)) (e_x29.symm) ?_
      refine gx_st (L' := [(2, 192)]) (S' := [(0, 3), (0, x29)]) r_117_32 rfl rfl rfl ?_
      refine gx_ic (P := x29 = 3) r_117_33 (rfl) (fun h33 => ?_) (fun h33 => ?_)
      · refine gx_st (L' := [(2, 192)]) (S' := [(2, 192)]) r_117_41 rfl rfl rfl ?_
        refine gx_ci (nx := 45) (S2 := []) (x_104 hT (r_n18.1)) r_117_42 rfl rfl rfl rfl rfl (rcv_v rfl (tk_192 hT) (by decide) rfl (by decide)) rfl (by decide) rfl (fun x42 n42 q42 => ?_)
        obtain rfl := q42.1.symm
        obtain rfl := q42.2.symm
        show GX T 7 117 45 [(2, 192)] [(0, (if n18 192 12 = 0 then 1 else 0))] n18 (RV (LN m))
        refine gx_i0 (P := ¬ (n18 192 12 = 0)) r_117_45 (b01_eq) (fun h45 => ?_) (fun h45 => ?_)
        · refine gx_st (L' := [(2, 192)]) (S' := [(2, 192)]) r_117_52 rfl rfl rfl ?_
          refine gx_gf (x := 198) 2 r_117_53 rfl (tk_192 hT) ⟨by decide, rfl, by decide, by decide⟩ rfl (fun _ => by decide) (pr_192_14 r_n18.1) ?_
          refine gx_st (L' := [(2, 192)]) (S' := [(0, 9), (2, 198)]) r_117_56 rfl rfl rfl ?_
          refine gx_st (L' := [(2, 192)]) (S' := [(0, 9), (2, 198), (0, 9), (2, 198)]) r_117_58 rfl rfl rfl ?_
          refine gx_ia (n := 9) (x := l) r_117_59 rfl (tk_198 hT) (rfl) ⟨rfl, by decide⟩ (r_n18.2.2.2.2.2.2.trans hl) ?_
          refine gx_st (L' := [(2, 192)]) (S' := [(0, 1), (0, l), (0, 9), (2, 198)]) r_117_60 rfl rfl rfl ?_
          refine gx_ar (L' := [(2, 192)]) (S' := [(0, 9), (2, 198)]) (t := 0) (e := w32 (l + 1)) (z := l + 1) r_117_61 rfl rfl rfl (w32_eq (by omega) (by omega) (by omega)) ?_
          obtain ⟨m3, e_m3⟩ : ∃ z, z = nu_up n18 198 (9) (l + 1) := ⟨_, rfl⟩
          have h_m3 : Gam m3 := by rw [e_m3]; exact gu_198_9 (r_n18.1) (by omega) (by omega)
          refine gx_is (n := 9) (x := l + 1) r_117_62 rfl (by decide) (tk_198 hT) (rfl) ⟨rfl, by decide⟩ e_m3.symm ?_
          refine gx_rt r_117_63 rfl rfl ⟨rfl, ?_⟩
          rw [e_m3]
          exact LN_rn r_n18 (by omega) (by rw [← e_m3]; exact h_m3) htk
        · have h45 := Decidable.not_not.mp h45
          refine gx_st (L' := [(2, 192)]) (S' := [(2, 192)]) r_117_48 rfl rfl rfl ?_
          refine gx_cv (nx := 52) (S2 := []) (x_103 hT (r_n18.1)) r_117_49 rfl rfl rfl rfl rfl (rcv_v rfl (tk_192 hT) (by decide) rfl (by decide)) rfl (by decide) rfl (fun n49 q49 => ?_)
          have r_n49 : RN m n49 := RN_tp r_n18 (PG_av (r_n18.2.2.1) (by omega) q49)
          refine gx_st (L' := [(2, 192)]) (S' := [(2, 192)]) r_117_52 rfl rfl rfl ?_
          refine gx_gf (x := 198) 2 r_117_53 rfl (tk_192 hT) ⟨by decide, rfl, by decide, by decide⟩ rfl (fun _ => by decide) (pr_192_14 r_n49.1) ?_
          refine gx_st (L' := [(2, 192)]) (S' := [(0, 9), (2, 198)]) r_117_56 rfl rfl rfl ?_
          refine gx_st (L' := [(2, 192)]) (S' := [(0, 9), (2, 198), (0, 9), (2, 198)]) r_117_58 rfl rfl rfl ?_
          refine gx_ia (n := 9) (x := l) r_117_59 rfl (tk_198 hT) (rfl) ⟨rfl, by decide⟩ (r_n49.2.2.2.2.2.2.trans hl) ?_
          refine gx_st (L' := [(2, 192)]) (S' := [(0, 1), (0, l), (0, 9), (2, 198)]) r_117_60 rfl rfl rfl ?_
          refine gx_ar (L' := [(2, 192)]) (S' := [(0, 9), (2, 198)]) (t := 0) (e := w32 (l + 1)) (z := l + 1) r_117_61 rfl rfl rfl (w32_eq (by omega) (by omega) (by omega)) ?_
          obtain ⟨m4, e_m4⟩ : ∃ z, z = nu_up n49 198 (9) (l + 1) := ⟨_, rfl⟩
          have h_m4 : Gam m4 := by rw [e_m4]; exact gu_198_9 (r_n49.1) (by omega) (by omega)
          refine gx_is (n := 9) (x := l + 1) r_117_62 rfl (by decide) (tk_198 hT) (rfl) ⟨rfl, by decide⟩ e_m4.symm ?_
          refine gx_rt r_117_63 rfl rfl ⟨rfl, ?_⟩
          rw [e_m4]
          exact LN_rn r_n49 (by omega) (by rw [← e_m4]; exact h_m4) htk
      · refine gx_st (L' := [(2, 192)]) (S' := [(2, 192)]) r_117_36 rfl rfl rfl ?_
        refine gx_st (L' := [(2, 192)]) (S' := [(0, 1), (2, 192)]) r_117_37 rfl rfl rfl ?_
        refine gx_cv (nx := 41) (S2 := []) (x_105 hT (r_n18.1) (k := 1) (by decide) (by decide)) r_117_38 rfl rfl rfl rfl rfl (rcv_v rfl (tk_192 hT) (by decide) rfl (by decide)) rfl (by decide) rfl (fun n38 q38 => ?_)
        have r_n38 : RN m n38 := RN_tp r_n18 (PG_er (r_n18.2.2.1) q38)
        refine gx_st (L' := [(2, 192)]) (S' := [(2, 192)]) r_117_41 rfl rfl rfl ?_
        refine gx_ci (nx := 45) (S2 := []) (x_104 hT (r_n38.1)) r_117_42 rfl rfl rfl rfl rfl (rcv_v rfl (tk_192 hT) (by decide) rfl (by decide)) rfl (by decide) rfl (fun x42 n42 q42 => ?_)
        obtain rfl := q42.1.symm
        obtain rfl := q42.2.symm
        show GX T 7 117 45 [(2, 192)] [(0, (if n38 192 12 = 0 then 1 else 0))] n38 (RV (LN m))
        refine gx_i0 (P := ¬ (n38 192 12 = 0)) r_117_45 (b01_eq) (fun h45 => ?_) (fun h45 => ?_)
        · refine gx_st (L' := [(2, 192)]) (S' := [(2, 192)]) r_117_52 rfl rfl rfl ?_
          refine gx_gf (x := 198) 2 r_117_53 rfl (tk_192 hT) ⟨by decide, rfl, by decide, by decide⟩ rfl (fun _ => by decide) (pr_192_14 r_n38.1) ?_
          refine gx_st (L' := [(2, 192)]) (S' := [(0, 9), (2, 198)]) r_117_56 rfl rfl rfl ?_
          refine gx_st (L' := [(2, 192)]) (S' := [(0, 9), (2, 198), (0, 9), (2, 198)]) r_117_58 rfl rfl rfl ?_
          refine gx_ia (n := 9) (x := l) r_117_59 rfl (tk_198 hT) (rfl) ⟨rfl, by decide⟩ (r_n38.2.2.2.2.2.2.trans hl) ?_
          refine gx_st (L' := [(2, 192)]) (S' := [(0, 1), (0, l), (0, 9), (2, 198)]) r_117_60 rfl rfl rfl ?_
          refine gx_ar (L' := [(2, 192)]) (S' := [(0, 9), (2, 198)]) (t := 0) (e := w32 (l + 1)) (z := l + 1) r_117_61 rfl rfl rfl (w32_eq (by omega) (by omega) (by omega)) ?_
          obtain ⟨m5, e_m5⟩ : ∃ z, z = nu_up n38 198 (9) (l + 1) := ⟨_, rfl⟩
          have h_m5 : Gam m5 := by rw [e_m5]; exact gu_198_9 (r_n38.1) (by omega) (by omega)
          refine gx_is (n := 9) (x := l + 1) r_117_62 rfl (by decide) (tk_198 hT) (rfl) ⟨rfl, by decide⟩ e_m5.symm ?_
          refine gx_rt r_117_63 rfl rfl ⟨rfl, ?_⟩
          rw [e_m5]
          exact LN_rn r_n38 (by omega) (by rw [← e_m5]; exact h_m5) htk
        · have h45 := Decidable.not_not.mp h45
          refine gx_st (L' := [(2, 192)]) (S' := [(2, 192)]) r_117_48 rfl rfl rfl ?_
          refine gx_cv (nx := 52) (S2 := []) (x_103 hT (r_n38.1)) r_117_49 rfl rfl rfl rfl rfl (rcv_v rfl (tk_192 hT) (by decide) rfl (by decide)) rfl (by decide) rfl (fun n49 q49 => ?_)
          have r_n49 : RN m n49 := RN_tp r_n38 (PG_av (r_n38.2.2.1) (by omega) q49)
          refine gx_st (L' := [(2, 192)]) (S' := [(2, 192)]) r_117_52 rfl rfl rfl ?_
          refine gx_gf (x := 198) 2 r_117_53 rfl (tk_192 hT) ⟨by decide, rfl, by decide, by decide⟩ rfl (fun _ => by decide) (pr_192_14 r_n49.1) ?_
          refine gx_st (L' := [(2, 192)]) (S' := [(0, 9), (2, 198)]) r_117_56 rfl rfl rfl ?_
          refine gx_st (L' := [(2, 192)]) (S' := [(0, 9), (2, 198), (0, 9), (2, 198)]) r_117_58 rfl rfl rfl ?_
          refine gx_ia (n := 9) (x := l) r_117_59 rfl (tk_198 hT) (rfl) ⟨rfl, by decide⟩ (r_n49.2.2.2.2.2.2.trans hl) ?_
          refine gx_st (L' := [(2, 192)]) (S' := [(0, 1), (0, l), (0, 9), (2, 198)]) r_117_60 rfl rfl rfl ?_
          refine gx_ar (L' := [(2, 192)]) (S' := [(0, 9), (2, 198)]) (t := 0) (e := w32 (l + 1)) (z := l + 1) r_117_61 rfl rfl rfl (w32_eq (by omega) (by omega) (by omega)) ?_
          obtain ⟨m6, e_m6⟩ : ∃ z, z = nu_up n49 198 (9) (l + 1) := ⟨_, rfl⟩
          have h_m6 : Gam m6 := by rw [e_m6]; exact gu_198_9 (r_n49.1) (by omega) (by omega)
          refine gx_is (n := 9) (x := l + 1) r_117_62 rfl (by decide) (tk_198 hT) (rfl) ⟨rfl, by decide⟩ e_m6.symm ?_
          refine gx_rt r_117_63 rfl rfl ⟨rfl, ?_⟩
          rw [e_m6]
          exact LN_rn r_n49 (by omega) (by rw [← e_m6]; exact h_m6) htk
  · have h7 := Decidable.not_not.mp h7
    refine gx_st (L' := [(2, 192)]) (S' := [(2, 192)]) r_117_10 rfl rfl rfl ?_
    refine gx_cv (nx := 14) (S2 := []) (x_113 hT hm ht hi) r_117_11 rfl rfl rfl rfl rfl (rcv_v rfl (tk_192 hT) (by decide) rfl (by decide)) rfl (by decide) rfl (fun n11 q11 => ?_)
    have r_n11 : RN m n11 := RN_rp q11
    refine gx_st (L' := [(2, 192)]) (S' := []) r_117_14 rfl rfl rfl ?_
    refine gx_st (L' := [(2, 192)]) (S' := [(2, 192)]) r_117_21 rfl rfl rfl ?_
    refine gx_ci (nx := 25) (S2 := []) (x_104 hT (r_n11.1)) r_117_22 rfl rfl rfl rfl rfl (rcv_v rfl (tk_192 hT) (by decide) rfl (by decide)) rfl (by decide) rfl (fun x22 n22 q22 => ?_)
    obtain rfl := q22.1.symm
    obtain rfl := q22.2.symm
    show GX T 7 117 25 [(2, 192)] [(0, (if n11 192 12 = 0 then 1 else 0))] n11 (RV (LN m))
    refine gx_i0 (P := ¬ (n11 192 12 = 0)) r_117_25 (b01_eq) (fun h25 => ?_) (fun h25 => ?_)
    · refine gx_st (L' := [(2, 192)]) (S' := [(2, 192)]) r_117_41 rfl rfl rfl ?_
      refine gx_ci (nx := 45) (S2 := []) (x_104 hT (r_n11.1)) r_117_42 rfl rfl rfl rfl rfl (rcv_v rfl (tk_192 hT) (by decide) rfl (by decide)) rfl (by decide) rfl (fun x42 n42 q42 => ?_)
      obtain rfl := q42.1.symm
      obtain rfl := q42.2.symm
      show GX T 7 117 45 [(2, 192)] [(0, (if n11 192 12 = 0 then 1 else 0))] n11 (RV (LN m))
      refine gx_i0 (P := ¬ (n11 192 12 = 0)) r_117_45 (b01_eq) (fun h45 => ?_) (fun h45 => ?_)
      · refine gx_st (L' := [(2, 192)]) (S' := [(2, 192)]) r_117_52 rfl rfl rfl ?_
        refine gx_gf (x := 198) 2 r_117_53 rfl (tk_192 hT) ⟨by decide, rfl, by decide, by decide⟩ rfl (fun _ => by decide) (pr_192_14 r_n11.1) ?_
        refine gx_st (L' := [(2, 192)]) (S' := [(0, 9), (2, 198)]) r_117_56 rfl rfl rfl ?_
        refine gx_st (L' := [(2, 192)]) (S' := [(0, 9), (2, 198), (0, 9), (2, 198)]) r_117_58 rfl rfl rfl ?_
        refine gx_ia (n := 9) (x := l) r_117_59 rfl (tk_198 hT) (rfl) ⟨rfl, by decide⟩ (r_n11.2.2.2.2.2.2.trans hl) ?_
        refine gx_st (L' := [(2, 192)]) (S' := [(0, 1), (0, l), (0, 9), (2, 198)]) r_117_60 rfl rfl rfl ?_
        refine gx_ar (L' := [(2, 192)]) (S' := [(0, 9), (2, 198)]) (t := 0) (e := w32 (l + 1)) (z := l + 1) r_117_61 rfl rfl rfl (w32_eq (by omega) (by omega) (by omega)) ?_
        obtain ⟨m5, e_m5⟩ : ∃ z, z = nu_up n11 198 (9) (l + 1) := ⟨_, rfl⟩
        have h_m5 : Gam m5 := by rw [e_m5]; exact gu_198_9 (r_n11.1) (by omega) (by omega)
        refine gx_is (n := 9) (x := l + 1) r_117_62 rfl (by decide) (tk_198 hT) (rfl) ⟨rfl, by decide⟩ e_m5.symm ?_
        refine gx_rt r_117_63 rfl rfl ⟨rfl, ?_⟩
        rw [e_m5]
        exact LN_rn r_n11 (by omega) (by rw [← e_m5]; exact h_m5) htk
      · have h45 := Decidable.not_not.mp h45
        refine gx_st (L' := [(2, 192)]) (S' := [(2, 192)]) r_117_48 rfl rfl rfl ?_
        refine gx_cv (nx := 52) (S2 := []) (x_103 hT (r_n11.1)) r_117_49 rfl rfl rfl rfl rfl (rcv_v rfl (tk_192 hT) (by decide) rfl (by decide)) rfl (by decide) rfl (fun n49 q49 => ?_)
        have r_n49 : RN m n49 := RN_tp r_n11 (PG_av (r_n11.2.2.1) (by omega) q49)
        refine gx_st (L' := [(2, 192)]) (S' := [(2, 192)]) r_117_52 rfl rfl rfl ?_
        refine gx_gf (x := 198) 2 r_117_53 rfl (tk_192 hT) ⟨by decide, rfl, by decide, by decide⟩ rfl (fun _ => by decide) (pr_192_14 r_n49.1) ?_
        refine gx_st (L' := [(2, 192)]) (S' := [(0, 9), (2, 198)]) r_117_56 rfl rfl rfl ?_
        refine gx_st (L' := [(2, 192)]) (S' := [(0, 9), (2, 198), (0, 9), (2, 198)]) r_117_58 rfl rfl rfl ?_
        refine gx_ia (n := 9) (x := l) r_117_59 rfl (tk_198 hT) (rfl) ⟨rfl, by decide⟩ (r_n49.2.2.2.2.2.2.trans hl) ?_
        refine gx_st (L' := [(2, 192)]) (S' := [(0, 1), (0, l), (0, 9), (2, 198)]) r_117_60 rfl rfl rfl ?_
        refine gx_ar (L' := [(2, 192)]) (S' := [(0, 9), (2, 198)]) (t := 0) (e := w32 (l + 1)) (z := l + 1) r_117_61 rfl rfl rfl (w32_eq (by omega) (by omega) (by omega)) ?_
        obtain ⟨m6, e_m6⟩ : ∃ z, z = nu_up n49 198 (9) (l + 1) := ⟨_, rfl⟩
        have h_m6 : Gam m6 := by rw [e_m6]; exact gu_198_9 (r_n49.1) (by omega) (by omega)
        refine gx_is (n := 9) (x := l + 1) r_117_62 rfl (by decide) (tk_198 hT) (rfl) ⟨rfl, by decide⟩ e_m6.symm ?_
        refine gx_rt r_117_63 rfl rfl ⟨rfl, ?_⟩
        rw [e_m6]
        exact LN_rn r_n49 (by omega) (by rw [← e_m6]; exact h_m6) htk
    · have h25 := Decidable.not_not.mp h25
      refine gx_st (L' := [(2, 192)]) (S' := [(2, 192)]) r_117_28 rfl rfl rfl ?_
      obtain ⟨x29, e_x29⟩ : ∃ z, z = n11 192 10 := ⟨_, rfl⟩
      have b_x29 := gb_192_10 r_n11.1
      rw [← e_x29] at b_x29
      refine gx_gf (x := x29) 0 r_117_29 rfl (tk_192 hT) ⟨by decide, rfl, by decide, by decide⟩ rfl (fun z => absurd z (by decide)) (e_x29.symm) ?_
      refine gx_st (L' := [(2, 192)]) (S' := [(0, 3), (0, x29)]) r_117_32 rfl rfl rfl ?_
      refine gx_ic (P := x29 = 3) r_117_33 (rfl) (fun h33 => ?_) (fun h33 => ?_)
      · refine gx_st (L' := [(2, 192)]) (S' := [(2, 192)]) r_117_41 rfl rfl rfl ?_
        refine gx_ci (nx := 45) (S2 := []) (x_104 hT (r_n11.1)) r_117_42 rfl rfl rfl rfl rfl (rcv_v rfl (tk_192 hT) (by decide) rfl (by decide)) rfl (by decide) rfl (fun x42 n42 q42 => ?_)
        obtain rfl := q42.1.symm
        obtain rfl := q42.2.symm
        show GX T 7 117 45 [(2, 192)] [(0, (if n11 192 12 = 0 then 1 else 0))] n11 (RV (LN m))
        refine gx_i0 (P := ¬ (n11 192 12 = 0)) r_117_45 (b01_eq) (fun h45 => ?_) (fun h45 => ?_)
        · refine gx_st (L' := [(2, 192)]) (S' := [(2, 192)]) r_117_52 rfl rfl rfl ?_
          refine gx_gf (x := 198) 2 r_117_53 rfl (tk_192 hT) ⟨by decide, rfl, by decide, by decide⟩ rfl (fun _ => by decide) (pr_192_14 r_n11.1) ?_
          refine gx_st (L' := [(2, 192)]) (S' := [(0, 9), (2, 198)]) r_117_56 rfl rfl rfl ?_
          refine gx_st (L' := [(2, 192)]) (S' := [(0, 9), (2, 198), (0, 9), (2, 198)]) r_117_58 rfl rfl rfl ?_
          refine gx_ia (n := 9) (x := l) r_117_59 rfl (tk_198 hT) (rfl) ⟨rfl, by decide⟩ (r_n11.2.2.2.2.2.2.trans hl) ?_
          refine gx_st (L' := [(2, 192)]) (S' := [(0, 1), (0, l), (0, 9), (2, 198)]) r_117_60 rfl rfl rfl ?_
          refine gx_ar (L' := [(2, 192)]) (S' := [(0, 9), (2, 198)]) (t := 0) (e := w32 (l + 1)) (z := l + 1) r_117_61 rfl rfl rfl (w32_eq (by omega) (by omega) (by omega)) ?_
          obtain ⟨m7, e_m7⟩ : ∃ z, z = nu_up n11 198 (9) (l + 1) := ⟨_, rfl⟩
          have h_m7 : Gam m7 := by rw [e_m7]; exact gu_198_9 (r_n11.1) (by omega) (by omega)
          refine gx_is (n := 9) (x := l + 1) r_117_62 rfl (by decide) (tk_198 hT) (rfl) ⟨rfl, by decide⟩ e_m7.symm ?_
          refine gx_rt r_117_63 rfl rfl ⟨rfl, ?_⟩
          rw [e_m7]
          exact LN_rn r_n11 (by omega) (by rw [← e_m7]; exact h_m7) htk
        · have h45 := Decidable.not_not.mp h45
          refine gx_st (L' := [(2, 192)]) (S' := [(2, 192)]) r_117_48 rfl rfl rfl ?_
          refine gx_cv (nx := 52) (S2 := []) (x_103 hT (r_n11.1)) r_117_49 rfl rfl rfl rfl rfl (rcv_v rfl (tk_192 hT) (by decide) rfl (by decide)) rfl (by decide) rfl (fun n49 q49 => ?_)
          have r_n49 : RN m n49 := RN_tp r_n11 (PG_av (r_n11.2.2.1) (by omega) q49)
          refine gx_st (L' := [(2, 192)]) (S' := [(2, 192)]) r_117_52 rfl rfl rfl ?_
          refine gx_gf (x := 198) 2 r_117_53 rfl (tk_192 hT) ⟨by decide, rfl, by decide, by decide⟩ rfl (fun _ => by decide) (pr_192_14 r_n49.1) ?_
          refine gx_st (L' := [(2, 192)]) (S' := [(0, 9), (2, 198)]) r_117_56 rfl rfl rfl ?_
          refine gx_st (L' := [(2, 192)]) (S' := [(0, 9), (2, 198), (0, 9), (2, 198)]) r_117_58 rfl rfl rfl ?_
          refine gx_ia (n := 9) (x := l) r_117_59 rfl (tk_198 hT) (rfl) ⟨rfl, by decide⟩ (r_n49.2.2.2.2.2.2.trans hl) ?_
          refine gx_st (L' := [(2, 192)]) (S' := [(0, 1), (0, l), (0, 9), (2, 198)]) r_117_60 rfl rfl rfl ?_
          refine gx_ar (L' := [(2, 192)]) (S' := [(0, 9), (2, 198)]) (t := 0) (e := w32 (l + 1)) (z := l + 1) r_117_61 rfl rfl rfl (w32_eq (by omega) (by omega) (by omega)) ?_
          obtain ⟨m8, e_m8⟩ : ∃ z, z = nu_up n49 198 (9) (l + 1) := ⟨_, rfl⟩
          have h_m8 : Gam m8 := by rw [e_m8]; exact gu_198_9 (r_n49.1) (by omega) (by omega)
          refine gx_is (n := 9) (x := l + 1) r_117_62 rfl (by decide) (tk_198 hT) (rfl) ⟨rfl, by decide⟩ e_m8.symm ?_
          refine gx_rt r_117_63 rfl rfl ⟨rfl, ?_⟩
          rw [e_m8]
          exact LN_rn r_n49 (by omega) (by rw [← e_m8]; exact h_m8) htk
      · refine gx_st (L' := [(2, 192)]) (S' := [(2, 192)]) r_117_36 rfl rfl rfl ?_
        refine gx_st (L' := [(2, 192)]) (S' := [(0, 1), (2, 192)]) r_117_37 rfl rfl rfl ?_
        refine gx_cv (nx := 41) (S2 := []) (x_105 hT (r_n11.1) (k := 1) (by decide) (by decide)) r_117_38 rfl rfl rfl rfl rfl (rcv_v rfl (tk_192 hT) (by decide) rfl (by decide)) rfl (by decide) rfl (fun n38 q38 => ?_)
        have r_n38 : RN m n38 := RN_tp r_n11 (PG_er (r_n11.2.2.1) q38)
        refine gx_st (L' := [(2, 192)]) (S' := [(2, 192)]) r_117_41 rfl rfl rfl ?_
        refine gx_ci (nx := 45) (S2 := []) (x_104 hT (r_n38.1)) r_117_42 rfl rfl rfl rfl rfl (rcv_v rfl (tk_192 hT) (by decide) rfl (by decide)) rfl (by decide) rfl (fun x42 n42 q42 => ?_)
        obtain rfl := q42.1.symm
        obtain rfl := q42.2.symm
        show GX T 7 117 45 [(2, 192)] [(0, (if n38 192 12 = 0 then 1 else 0))] n38 (RV (LN m))
        refine gx_i0 (P := ¬ (n38 192 12 = 0)) r_117_45 (b01_eq) (fun h45 => ?_) (fun h45 => ?_)
        · refine gx_st (L' := [(2, 192)]) (S' := [(2, 192)]) r_117_52 rfl rfl rfl ?_
          refine gx_gf (x := 198) 2 r_117_53 rfl (tk_192 hT) ⟨by decide, rfl, by decide, by decide⟩ rfl (fun _ => by decide) (pr_192_14 r_n38.1) ?_
          refine gx_st (L' := [(2, 192)]) (S' := [(0, 9), (2, 198)]) r_117_56 rfl rfl rfl ?_
          refine gx_st (L' := [(2, 192)]) (S' := [(0, 9), (2, 198), (0, 9), (2, 198)]) r_117_58 rfl rfl rfl ?_
          refine gx_ia (n := 9) (x := l) r_117_59 rfl (tk_198 hT) (rfl) ⟨rfl, by decide⟩ (r_n38.2.2.2.2.2.2.trans hl) ?_
          refine gx_st (L' := [(2, 192)]) (S' := [(0, 1), (0, l), (0, 9), (2, 198)]) r_117_60 rfl rfl rfl ?_
          refine gx_ar (L' := [(2, 192)]) (S' := [(0, 9), (2, 198)]) (t := 0) (e := w32 (l + 1)) (z := l + 1) r_117_61 rfl rfl rfl (w32_eq (by omega) (by omega) (by omega)) ?_
          obtain ⟨m9, e_m9⟩ : ∃ z, z = nu_up n38 198 (9) (l + 1) := ⟨_, rfl⟩
          have h_m9 : Gam m9 := by rw [e_m9]; exact gu_198_9 (r_n38.1) (by omega) (by omega)
          refine gx_is (n := 9) (x := l + 1) r_117_62 rfl (by decide) (tk_198 hT) (rfl) ⟨rfl, by decide⟩ e_m9.symm ?_
          refine gx_rt r_117_63 rfl rfl ⟨rfl, ?_⟩
          rw [e_m9]
          exact LN_rn r_n38 (by omega) (by rw [← e_m9]; exact h_m9) htk
        · have h45 := Decidable.not_not.mp h45
          refine gx_st (L' := [(2, 192)]) (S' := [(2, 192)]) r_117_48 rfl rfl rfl ?_
          refine gx_cv (nx := 52) (S2 := []) (x_103 hT (r_n38.1)) r_117_49 rfl rfl rfl rfl rfl (rcv_v rfl (tk_192 hT) (by decide) rfl (by decide)) rfl (by decide) rfl (fun n49 q49 => ?_)
          have r_n49 : RN m n49 := RN_tp r_n38 (PG_av (r_n38.2.2.1) (by omega) q49)
          refine gx_st (L' := [(2, 192)]) (S' := [(2, 192)]) r_117_52 rfl rfl rfl ?_
          refine gx_gf (x := 198) 2 r_117_53 rfl (tk_192 hT) ⟨by decide, rfl, by decide, by decide⟩ rfl (fun _ => by decide) (pr_192_14 r_n49.1) ?_
          refine gx_st (L' := [(2, 192)]) (S' := [(0, 9), (2, 198)]) r_117_56 rfl rfl rfl ?_
          refine gx_st (L' := [(2, 192)]) (S' := [(0, 9), (2, 198), (0, 9), (2, 198)]) r_117_58 rfl rfl rfl ?_
          refine gx_ia (n := 9) (x := l) r_117_59 rfl (tk_198 hT) (rfl) ⟨rfl, by decide⟩ (r_n49.2.2.2.2.2.2.trans hl) ?_
          refine gx_st (L' := [(2, 192)]) (S' := [(0, 1), (0, l), (0, 9), (2, 198)]) r_117_60 rfl rfl rfl ?_
          refine gx_ar (L' := [(2, 192)]) (S' := [(0, 9), (2, 198)]) (t := 0) (e := w32 (l + 1)) (z := l + 1) r_117_61 rfl rfl rfl (w32_eq (by omega) (by omega) (by omega)) ?_
          obtain ⟨m10, e_m10⟩ : ∃ z, z = nu_up n49 198 (9) (l + 1) := ⟨_, rfl⟩
          have h_m10 : Gam m10 := by rw [e_m10]; exact gu_198_9 (r_n49.1) (by omega) (by omega)
          refine gx_is (n := 9) (x := l + 1) r_117_62 rfl (by decide) (tk_198 hT) (rfl) ⟨rfl, by decide⟩ e_m10.symm ?_
          refine gx_rt r_117_63 rfl rfl ⟨rfl, ?_⟩
          rw [e_m10]
          exact LN_rn r_n49 (by omega) (by rw [← e_m10]; exact h_m10) htk
theorem ct_198 : ∀ i : Nat, i < 69 → cT (tyO 198) i = cT (tyO 193) i ∧ (cT (tyO 198) i).1 = 0 ∧ (cT (tyO 198) i).2.1 ≤ 0 ∧ 0 ≤ (cT (tyO 198) i).2.2 := by decide +kernel
theorem gu_198_z {m : Mm} (hm : Gam m) {i : Nat} (hi : i < 69) : Gam (nu_up m 198 i 0) := Gam_up hm ((gc_0 (ct_198 i hi).2.1).mpr ⟨(ct_198 i hi).2.2.1, (ct_198 i hi).2.2.2⟩)
theorem gu_193_fc {m m1 : Mm} (hm : Gam m) (hm1 : Gam m1) {i : Nat} (hi : i < 69) : Gam (nu_up m1 193 i (m 198 i)) := Gam_up hm1 (by
  rw [← (ct_198 i hi).1]
  exact hm 198 (by decide) (by decide) i hi)
theorem isl_a {m0 : Mm} {Q : AV → Mm → Prop} (hT : TT T) (hout : ∀ m, Gam m → Fr [96999] m0 m → (∀ i : Nat, i < 69 → m 198 i = 0) → GX T 9 118 49 [(2, 192), (0, 69)] [] m Q) : ∀ (N k : Nat) (m : Mm), 69 - k < N → k ≤ 69 → Gam m → Fr [96999] m0 m → (∀ i : Nat, i < k → m 198 i = 0) → GX T 9 118 30 [(2, 192), (0, (k : Int))] [] m Q := by
  intro N
  induction N with
  | zero => intro k m hN; exact absurd hN (Nat.not_lt_zero _)
  | succ N ih =>
    intro k m hN hk hm hf hI
    refine gx_st (L' := [(2, 192), (0, (k : Int))]) (S' := [(0, (k : Int))]) r_118_30 rfl rfl rfl ?_
    refine gx_st (L' := [(2, 192), (0, (k : Int))]) (S' := [(0, 69), (0, (k : Int))]) r_118_31 rfl rfl rfl ?_
    refine gx_ic (P := 69 ≤ (k : Int)) r_118_33 (rfl) (fun h33 => ?_) (fun h33 => ?_)
    · have hk69 : k = 69 := by omega
      rw [hk69] at hI ⊢
      exact hout m hm hf hI
    · refine gx_st (L' := [(2, 192), (0, (k : Int))]) (S' := [(2, 192)]) r_118_36 rfl rfl rfl ?_
      refine gx_gf (x := 198) 2 r_118_37 rfl (tk_192 hT) ⟨by decide, rfl, by decide, by decide⟩ rfl (fun _ => by decide) (pr_192_14 hm) ?_
      refine gx_st (L' := [(2, 192), (0, (k : Int))]) (S' := [(0, (k : Int)), (2, 198)]) r_118_40 rfl rfl rfl ?_
      refine gx_st (L' := [(2, 192), (0, (k : Int))]) (S' := [(0, 0), (0, (k : Int)), (2, 198)]) r_118_41 rfl rfl rfl ?_
      obtain ⟨m1, e_m1⟩ : ∃ z, z = nu_up m 198 (k) 0 := ⟨_, rfl⟩
      have h_m1 : Gam m1 := by rw [e_m1]; exact gu_198_z hm (by omega)
      have f_m1 : Fr [96999] m0 m1 := Fr_tr hf (by rw [e_m1]; exact Fr_ua rfl rfl)
      refine gx_is (n := k) (x := 0) r_118_42 rfl (by decide) (tk_198 hT) (by omega) ⟨rfl, by omega⟩ e_m1.symm ?_
      refine gx_li (z := (k : Int) + 1) (L' := [(2, 192), (0, (k : Int) + 1)]) r_118_43 rfl (w32_eq (by omega) (by omega) (by omega)) rfl ?_
      refine gx_st (L' := [(2, 192), (0, (k : Int) + 1)]) (S' := []) r_118_46 rfl rfl rfl ?_
      rw [show (k : Int) + 1 = ((k + 1 : Nat) : Int) from rfl]
      refine ih (k + 1) m1 (by omega) (by omega) h_m1 f_m1 (fun i hi => ?_)
      rw [e_m1]
      by_cases e : i = k
      · rw [e, nu_at]
      · rw [nu_ne e]; exact hI i (by omega)
theorem isl_c {m0 : Mm} {Q : AV → Mm → Prop} (hT : TT T) (hm0 : Gam m0) (hout : ∀ m, Gam m → Fr [91999] m0 m → (∀ i : Nat, i < 69 → m 193 i = m0 198 i) → GX T 9 118 110 [(2, 192), (0, 69)] [] m Q) : ∀ (N k : Nat) (m : Mm), 69 - k < N → k ≤ 69 → Gam m → Fr [91999] m0 m → (∀ i : Nat, i < k → m 193 i = m0 198 i) → GX T 9 118 86 [(2, 192), (0, (k : Int))] [] m Q := by
  intro N
  induction N with
  | zero => intro k m hN; exact absurd hN (Nat.not_lt_zero _)
  | succ N ih =>
    intro k m hN hk hm hf hI
    refine gx_st (L' := [(2, 192), (0, (k : Int))]) (S' := [(0, (k : Int))]) r_118_86 rfl rfl rfl ?_
    refine gx_st (L' := [(2, 192), (0, (k : Int))]) (S' := [(0, 69), (0, (k : Int))]) r_118_87 rfl rfl rfl ?_
    refine gx_ic (P := 69 ≤ (k : Int)) r_118_89 (rfl) (fun h89 => ?_) (fun h89 => ?_)
    · have hk69 : k = 69 := by omega
      rw [hk69] at hI ⊢
      exact hout m hm hf hI
    · refine gx_st (L' := [(2, 192), (0, (k : Int))]) (S' := [(2, 192)]) r_118_92 rfl rfl rfl ?_
      refine gx_gf (x := 193) 2 r_118_93 rfl (tk_192 hT) ⟨by decide, rfl, by decide, by decide⟩ rfl (fun _ => by decide) (pr_192_1 hm) ?_
      refine gx_st (L' := [(2, 192), (0, (k : Int))]) (S' := [(0, (k : Int)), (2, 193)]) r_118_96 rfl rfl rfl ?_
      refine gx_st (L' := [(2, 192), (0, (k : Int))]) (S' := [(2, 192), (0, (k : Int)), (2, 193)]) r_118_97 rfl rfl rfl ?_
      refine gx_gf (x := 198) 2 r_118_98 rfl (tk_192 hT) ⟨by decide, rfl, by decide, by decide⟩ rfl (fun _ => by decide) (pr_192_14 hm) ?_
      refine gx_st (L' := [(2, 192), (0, (k : Int))]) (S' := [(0, (k : Int)), (2, 198), (0, (k : Int)), (2, 193)]) r_118_101 rfl rfl rfl ?_
      refine gx_ia (n := k) (x := (m0 198 k)) r_118_102 rfl (tk_198 hT) (by omega) ⟨rfl, by omega⟩ (show m 198 (k) = (m0 198 k) from by exact Fr_cell (o := 198) hf (by decide) (by decide) k) ?_
      obtain ⟨m1, e_m1⟩ : ∃ z, z = nu_up m 193 (k) (m0 198 k) := ⟨_, rfl⟩
      have h_m1 : Gam m1 := by rw [e_m1]; exact gu_193_fc hm0 hm (by omega)
      have f_m1 : Fr [91999] m0 m1 := Fr_tr hf (by rw [e_m1]; exact Fr_ua rfl rfl)
      refine gx_is (n := k) (x := (m0 198 k)) r_118_103 rfl (by decide) (tk_193 hT) (by omega) ⟨rfl, by omega⟩ e_m1.symm ?_
      refine gx_li (z := (k : Int) + 1) (L' := [(2, 192), (0, (k : Int) + 1)]) r_118_104 rfl (w32_eq (by omega) (by omega) (by omega)) rfl ?_
      refine gx_st (L' := [(2, 192), (0, (k : Int) + 1)]) (S' := []) r_118_107 rfl rfl rfl ?_
      rw [show (k : Int) + 1 = ((k + 1 : Nat) : Int) from rfl]
      refine ih (k + 1) m1 (by omega) (by omega) h_m1 f_m1 (fun i hi => ?_)
      rw [e_m1]
      by_cases e : i = k
      · rw [e, nu_at]
      · rw [nu_ne e]; exact hI i (by omega)
theorem isl_x {m : Mm} {Q : AV → Mm → Prop} {x : AV} (hT : TT T) (hm : Gam m) (hng : ¬ m 192 12 = 0) (hout : GX T 9 118 74 [(2, 192), x] [] m Q) : GX T 9 118 53 [(2, 192), x] [] m Q := by
  refine gx_st (L' := [(2, 192), x]) (S' := [(2, 192)]) r_118_53 rfl rfl rfl ?_
  refine gx_ci (nx := 57) (S2 := []) (x_104 hT (hm)) r_118_54 rfl rfl rfl rfl rfl (rcv_v rfl (tk_192 hT) (by decide) rfl (by decide)) rfl (by decide) rfl (fun x54 n54 q54 => ?_)
  obtain rfl := q54.1.symm
  obtain rfl := q54.2.symm
  show GX T 9 118 57 [(2, 192), x] [(0, (if m 192 12 = 0 then 1 else 0))] m Q
  refine gx_i0 (P := ¬ (m 192 12 = 0)) r_118_57 (b01_eq) (fun h57 => ?_) (fun h57 => ?_)
  · exact hout
  · have h57 := Decidable.not_not.mp h57
    exact absurd h57 hng
theorem isl_b {m0 : Mm} {Q : AV → Mm → Prop} {x : AV} (hT : TT T) (hout : ∀ m, Gam m → Fr [90008, 90009, 90010, 90011, 90012, 90013, 96999] m0 m → TK m → FI m → GX T 9 118 74 [(2, 192), x] [] m Q) : ∀ (N f : Nat) (m : Mm), 801 - f < N → Gam m → Fr [90008, 90009, 90010, 90011, 90012, 90013, 96999] m0 m → TK m → FI m → m 192 9 = (f : Int) → m 198 9 ≤ (f : Int) → GX T 9 118 53 [(2, 192), x] [] m Q := by
  intro N
  induction N with
  | zero => intro f m hN; exact absurd hN (Nat.not_lt_zero _)
  | succ N ih =>
    intro f m hN hm hf ht hi hff hl
    have b9_ := gb_192_9 hm
    refine gx_st (L' := [(2, 192), x]) (S' := [(2, 192)]) r_118_53 rfl rfl rfl ?_
    refine gx_ci (nx := 57) (S2 := []) (x_104 hT (hm)) r_118_54 rfl rfl rfl rfl rfl (rcv_v rfl (tk_192 hT) (by decide) rfl (by decide)) rfl (by decide) rfl (fun x54 n54 q54 => ?_)
    obtain rfl := q54.1.symm
    obtain rfl := q54.2.symm
    show GX T 9 118 57 [(2, 192), x] [(0, (if m 192 12 = 0 then 1 else 0))] m Q
    refine gx_i0 (P := ¬ (m 192 12 = 0)) r_118_57 (b01_eq) (fun h57 => ?_) (fun h57 => ?_)
    · exact hout m hm hf ht hi
    · have h57 := Decidable.not_not.mp h57
      refine gx_st (L' := [(2, 192), x]) (S' := [(2, 192)]) r_118_60 rfl rfl rfl ?_
      obtain ⟨x61, e_x61⟩ : ∃ z, z = m 192 10 := ⟨_, rfl⟩
      have b_x61 := gb_192_10 hm
      rw [← e_x61] at b_x61
      refine gx_gf (x := x61) 0 r_118_61 rfl (tk_192 hT) ⟨by decide, rfl, by decide, by decide⟩ rfl (fun z => absurd z (by decide)) (e_x61.symm) ?_
      refine gx_i0 (P := x61 = 0) r_118_64 (rfl) (fun h64 => ?_) (fun h64 => ?_)
      · exact hout m hm hf ht hi
      · refine gx_st (L' := [(2, 192), x]) (S' := [(2, 192)]) r_118_67 rfl rfl rfl ?_
        refine gx_cv (nx := 71) (S2 := []) (x_117 hT hm ht hi (l := m 198 9) rfl (by have := gb_198_9 hm; omega) (by omega) (by omega)) r_118_68 rfl rfl rfl rfl rfl (rcv_v rfl (tk_192 hT) (by decide) rfl (by decide)) rfl (by decide) rfl (fun n68 q68 => ?_)
        refine gx_st (L' := [(2, 192), x]) (S' := []) r_118_71 rfl rfl rfl ?_
        obtain ⟨l1, l2, l3, l4, l5, l6, l7⟩ := q68
        by_cases hg : n68 192 12 = 0
        · have l8 := l6 hg
          obtain ⟨f2, hf2⟩ : ∃ f : Nat, n68 192 9 = (f : Int) := ⟨(n68 192 9).toNat, by have := gb_192_9 l1; omega⟩
          exact ih f2 n68 (by have := gb_192_9 l1; omega) l1 (Fr_tr hf l2) l3 l4 hf2 (by omega)
        · exact isl_x hT l1 hg (hout n68 l1 (Fr_tr hf l2) l3 l4)
theorem x_118 {m : Mm} (hT : TT T) (hm : Gam m) (hx : Ext m) : GX T 9 118 0 [(2, 192), (9, 0)] [] m (RI (fun v m1 => -2147483648 ≤ v ∧ v ≤ 2147483647 ∧ Gam m1 ∧ Ext m1 ∧ Fr [90005, 90007, 90008, 90009, 90010, 90011, 90012, 90013, 91999, 96999] m m1 ∧ m1 192 5 = 0)) := by
  refine gx_st (L' := [(2, 192), (9, 0)]) (S' := [(2, 192)]) r_118_0 rfl rfl rfl ?_
  refine gx_st (L' := [(2, 192), (9, 0)]) (S' := [(2, 192), (2, 192)]) r_118_1 rfl rfl rfl ?_
  obtain ⟨x2, e_x2⟩ : ∃ z, z = m 192 5 := ⟨_, rfl⟩
  have b_x2 := gb_192_5 hm
  rw [← e_x2] at b_x2
  refine gx_gf (x := x2) 0 r_118_2 rfl (tk_192 hT) ⟨by decide, rfl, by decide, by decide⟩ rfl (fun z => absurd z (by decide)) (e_x2.symm) ?_
  obtain ⟨m1, e_m1⟩ : ∃ z, z = nu_up m 192 7 x2 := ⟨_, rfl⟩
  have h_m1 : Gam m1 := by rw [e_m1]; exact gu_192_7 hm (by omega) (by omega)
  have f_m1 : Fr [90005, 90007, 90008, 90009, 90010, 90011, 90012, 90013, 91999, 96999] m m1 := Fr_tr Fr_rf (by rw [e_m1]; exact Fr_up rfl)
  have x_m1 : Ext m1 := Ext_fr (W := [90007]) (by rw [e_m1]; exact Fr_up rfl) (by decide) hx
  refine gx_pf (x := x2) 0 r_118_5 rfl (tk_192 hT) ⟨by decide, rfl, by decide, by decide⟩ rfl (fun z => absurd z (by decide)) (fun z => absurd z (by decide)) e_m1.symm ?_
  refine gx_st (L' := [(2, 192), (9, 0)]) (S' := [(2, 192)]) r_118_8 rfl rfl rfl ?_
  refine gx_st (L' := [(2, 192), (9, 0)]) (S' := [(0, 0), (2, 192)]) r_118_9 rfl rfl rfl ?_
  obtain ⟨m2, e_m2⟩ : ∃ z, z = nu_up m1 192 5 0 := ⟨_, rfl⟩
  have h_m2 : Gam m2 := by rw [e_m2]; exact gu_192_5 h_m1 (by omega) (by omega)
  have f_m2 : Fr [90005, 90007, 90008, 90009, 90010, 90011, 90012, 90013, 91999, 96999] m m2 := Fr_tr f_m1 (by rw [e_m2]; exact Fr_up rfl)
  have x_m2 : Ext m2 := Ext_fr (W := [90005]) (by rw [e_m2]; exact Fr_up rfl) (by decide) x_m1
  refine gx_pf (x := 0) 0 r_118_10 rfl (tk_192 hT) ⟨by decide, rfl, by decide, by decide⟩ rfl (fun z => absurd z (by decide)) (fun z => absurd z (by decide)) e_m2.symm ?_
  refine gx_st (L' := [(2, 192), (9, 0)]) (S' := [(2, 192)]) r_118_13 rfl rfl rfl ?_
  refine gx_st (L' := [(2, 192), (9, 0)]) (S' := [(0, 0), (2, 192)]) r_118_14 rfl rfl rfl ?_
  obtain ⟨m3, e_m3⟩ : ∃ z, z = nu_up m2 192 8 0 := ⟨_, rfl⟩
  have h_m3 : Gam m3 := by rw [e_m3]; exact gu_192_8 h_m2 (by omega) (by omega)
  have f_m3 : Fr [90005, 90007, 90008, 90009, 90010, 90011, 90012, 90013, 91999, 96999] m m3 := Fr_tr f_m2 (by rw [e_m3]; exact Fr_up rfl)
  have x_m3 : Ext m3 := Ext_fr (W := [90008]) (by rw [e_m3]; exact Fr_up rfl) (by decide) x_m2
  refine gx_pf (x := 0) 0 r_118_15 rfl (tk_192 hT) ⟨by decide, rfl, by decide, by decide⟩ rfl (fun z => absurd z (by decide)) (fun z => absurd z (by decide)) e_m3.symm ?_
  refine gx_st (L' := [(2, 192), (9, 0)]) (S' := [(2, 192)]) r_118_18 rfl rfl rfl ?_
  refine gx_st (L' := [(2, 192), (9, 0)]) (S' := [(0, 0), (2, 192)]) r_118_19 rfl rfl rfl ?_
  obtain ⟨m4, e_m4⟩ : ∃ z, z = nu_up m3 192 12 0 := ⟨_, rfl⟩
  have h_m4 : Gam m4 := by rw [e_m4]; exact gu_192_12 h_m3 (by omega) (by omega)
  have f_m4 : Fr [90005, 90007, 90008, 90009, 90010, 90011, 90012, 90013, 91999, 96999] m m4 := Fr_tr f_m3 (by rw [e_m4]; exact Fr_up rfl)
  have x_m4 : Ext m4 := Ext_fr (W := [90012]) (by rw [e_m4]; exact Fr_up rfl) (by decide) x_m3
  refine gx_pf (x := 0) 0 r_118_20 rfl (tk_192 hT) ⟨by decide, rfl, by decide, by decide⟩ rfl (fun z => absurd z (by decide)) (fun z => absurd z (by decide)) e_m4.symm ?_
  refine gx_st (L' := [(2, 192), (9, 0)]) (S' := [(2, 192)]) r_118_23 rfl rfl rfl ?_
  refine gx_st (L' := [(2, 192), (9, 0)]) (S' := [(0, (-1)), (2, 192)]) r_118_24 rfl rfl rfl ?_
  obtain ⟨m5, e_m5⟩ : ∃ z, z = nu_up m4 192 13 (-1) := ⟨_, rfl⟩
  have h_m5 : Gam m5 := by rw [e_m5]; exact gu_192_13 h_m4 (by omega) (by omega)
  have f_m5 : Fr [90005, 90007, 90008, 90009, 90010, 90011, 90012, 90013, 91999, 96999] m m5 := Fr_tr f_m4 (by rw [e_m5]; exact Fr_up rfl)
  have x_m5 : Ext m5 := Ext_fr (W := [90013]) (by rw [e_m5]; exact Fr_up rfl) (by decide) x_m4
  refine gx_pf (x := (-1)) 0 r_118_25 rfl (tk_192 hT) ⟨by decide, rfl, by decide, by decide⟩ rfl (fun z => absurd z (by decide)) (fun z => absurd z (by decide)) e_m5.symm ?_
  refine gx_st (L' := [(2, 192), (9, 0)]) (S' := [(0, 0)]) r_118_28 rfl rfl rfl ?_
  refine gx_st (L' := [(2, 192), (0, 0)]) (S' := []) r_118_29 rfl rfl rfl ?_
  have k12 : m5 192 12 = 0 := by rw [e_m5, nu_ne (by decide), e_m4, nu_at]
  have k8 : m5 192 8 = 0 := by rw [e_m5, nu_ne (by decide), e_m4, nu_ne (by decide), e_m3, nu_at]
  have k5 : m5 192 5 = 0 := by rw [e_m5, nu_ne (by decide), e_m4, nu_ne (by decide), e_m3, nu_ne (by decide), e_m2, nu_at]
  refine isl_a hT (m0 := m5) (fun p1 hp1 fp1 Ip1 => ?_) 70 0 m5 (by omega) (by omega) h_m5 Fr_rf (fun i hi => absurd hi (Nat.not_lt_zero _))
  have f_p1 : Fr [90005, 90007, 90008, 90009, 90010, 90011, 90012, 90013, 91999, 96999] m p1 := Fr_tr f_m5 (Fr_sub fp1 (by decide))
  refine gx_st (L' := [(2, 192), (0, 69)]) (S' := [(2, 192)]) r_118_49 rfl rfl rfl ?_
  refine gx_cv (nx := 53) (S2 := []) (x_103 hT hp1) r_118_50 rfl rfl rfl rfl rfl (rcv_v rfl (tk_192 hT) (by decide) rfl (by decide)) rfl (by decide) rfl (fun n50 q50 => ?_)
  have f_n50 : Fr [90005, 90007, 90008, 90009, 90010, 90011, 90012, 90013, 91999, 96999] m n50 := Fr_tr f_p1 (Fr_sub q50.2.1 (by decide))
  have c198 : ∀ i : Nat, i < 69 → n50 198 i = 0 := fun i hi => (Fr_cell (o := 198) q50.2.1 (by decide) (by decide) i).trans (Ip1 i hi)
  have t50 : TK n50 := ⟨q50.2.2.2.1, q50.2.2.2.2⟩
  have i50 : FI n50 := ⟨c198 8 (by decide), fun _ k hk hk2 => absurd hk2 (by rw [c198 4 (by decide)]; omega)⟩
  obtain ⟨f, hf⟩ : ∃ f : Nat, n50 192 9 = (f : Int) := ⟨(n50 192 9).toNat, by have := gb_192_9 q50.1; omega⟩
  refine isl_b hT (m0 := n50) (fun p2 hp2 fp2 tp2 ip2 => ?_) 802 f n50 (by omega) q50.1 Fr_rf t50 i50 hf (by rw [c198 9 (by decide)]; omega)
  have f_p2 : Fr [90005, 90007, 90008, 90009, 90010, 90011, 90012, 90013, 91999, 96999] m p2 := Fr_tr f_n50 (Fr_sub fp2 (by decide))
  have k5_2 : p2 192 5 = 0 := (fp2 192 5 rfl).trans ((q50.2.1 192 5 rfl).trans ((fp1 192 5 rfl).trans k5))
  have x_p2 : Ext p2 := by
    have w1 : ∀ o i : Nat, p2 o i = n50 o i → n50 o i = p1 o i → p1 o i = m5 o i → p2 o i = m5 o i := fun o i a b c => a.trans (b.trans c)
    have y0 : Ext m5 := x_m5
    exact Ext_fr (W := [96999]) fp1 (by decide) y0 |> fun y1 => Ext_fr q50.2.1 (by decide) y1 |> fun y2 => Ext_fr fp2 (by decide) y2
  refine gx_st (L' := [(2, 192), (0, 69)]) (S' := [(2, 192)]) r_118_74 rfl rfl rfl ?_
  refine gx_ci (nx := 78) (S2 := []) (x_104 hT (hp2)) r_118_75 rfl rfl rfl rfl rfl (rcv_v rfl (tk_192 hT) (by decide) rfl (by decide)) rfl (by decide) rfl (fun x75 n75 q75 => ?_)
  obtain rfl := q75.1.symm
  obtain rfl := q75.2.symm
  show GX T 9 118 78 [(2, 192), (0, 69)] [(0, (if p2 192 12 = 0 then 1 else 0))] p2 (RI (fun v m1 => -2147483648 ≤ v ∧ v ≤ 2147483647 ∧ Gam m1 ∧ Ext m1 ∧ Fr [90005, 90007, 90008, 90009, 90010, 90011, 90012, 90013, 91999, 96999] m m1 ∧ m1 192 5 = 0))
  refine gx_i0 (P := p2 192 12 = 0) r_118_78 (b01_ne) (fun h78 => ?_) (fun h78 => ?_)
  · refine gx_st (L' := [(2, 192), (0, 69)]) (S' := [(0, 0)]) r_118_84 rfl rfl rfl ?_
    refine gx_st (L' := [(2, 192), (0, 0)]) (S' := []) r_118_85 rfl rfl rfl ?_
    have hgood : p2 192 12 = 0 := h78
    refine isl_c hT (m0 := p2) hp2 (fun p3 hp3 fp3 Ip3 => ?_) 70 0 p2 (by omega) (by omega) hp2 Fr_rf (fun i hi => absurd hi (Nat.not_lt_zero _))
    have f_p3 : Fr [90005, 90007, 90008, 90009, 90010, 90011, 90012, 90013, 91999, 96999] m p3 := Fr_tr f_p2 (Fr_sub fp3 (by decide))
    have hw : WOK (p3 193) := by
      refine ⟨fun k hk hk2 => ?_, fun k hk hk2 => ?_, fun i k hik hk hk2 => ?_⟩
      · rw [Ip3 (11 + 2 * k) (by omega), Ip3 (12 + 2 * k) (by omega)]
        rw [Ip3 4 (by decide)] at hk2
        exact ip2.2 hgood k hk hk2
      · rw [Ip3 8 (by decide), ip2.1] at hk2; omega
      · rw [Ip3 8 (by decide), ip2.1] at hk2; omega
    have x_p3 : Ext p3 := Ext_w x_p2 hw (funext (Fr_cell (o := 194) fp3 (by decide) (by decide))) (funext (Fr_cell (o := 200) fp3 (by decide) (by decide)))
    have k5_3 : p3 192 5 = 0 := (fp3 192 5 rfl).trans k5_2
    refine gx_st (L' := [(2, 192), (0, 69)]) (S' := [(2, 192)]) r_118_110 rfl rfl rfl ?_
    refine gx_gf (x := 193) 2 r_118_111 rfl (tk_192 hT) ⟨by decide, rfl, by decide, by decide⟩ rfl (fun _ => by decide) (pr_192_1 hp3) ?_
    refine gx_st (L' := [(2, 192), (0, 69)]) (S' := [(0, 9), (2, 193)]) r_118_114 rfl rfl rfl ?_
    obtain ⟨x116, e_x116⟩ : ∃ z, z = p3 193 (9) := ⟨_, rfl⟩
    have b_x116 := gb_193_9 hp3
    rw [← e_x116] at b_x116
    refine gx_ia (n := 9) (x := x116) r_118_116 rfl (tk_193 hT) (rfl) ⟨rfl, by decide⟩ (e_x116.symm) ?_
    exact gx_rt r_118_117 rfl rfl ⟨_, rfl, by omega, by omega, hp3, x_p3, f_p3, k5_3⟩
  · refine gx_st (L' := [(2, 192), (0, 69)]) (S' := [(0, (-4))]) r_118_81 rfl rfl rfl ?_
    exact gx_rt r_118_83 rfl rfl ⟨_, rfl, by omega, by omega, hp2, x_p2, f_p2, k5_2⟩
end ISLE
