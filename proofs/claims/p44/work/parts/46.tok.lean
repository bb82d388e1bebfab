/-! by hand: nextToken, whole -/
theorem gR_9 : gR (9, 0, 0) (9, 0) := by
  unfold gR
  rw [if_pos rfl]
set_option maxRecDepth 100000 in
theorem ty2a : (List.range 213).all (fun o => !(tyO o == 2) || o == 2) = true := by decide +kernel
theorem ty2 (o : Int) (h1 : 0 < o) (h2 : o < 213) (h3 : (tyO o.toNat : Int) = 2) : o = 2 := by
  have h := List.all_eq_true.mp ty2a o.toNat (List.mem_range.mpr (by omega))
  have h4 : tyO o.toNat = 2 := by omega
  rw [h4] at h
  simp only [beq_self_eq_true, Bool.not_true, Bool.false_or, beq_iff_eq] at h
  omega
theorem r_312_0 : row 312 0 = some (.aload_n 0, 1, 0, 0, 0, 0) := rfl
theorem r_312_1 : row 312 1 = some (.getfield 19, 4, 8, 2, 0, 1037) := rfl
theorem r_312_4 : row 312 4 = some (.ifCond .eq 4, 7, 8, 0, 0, 0) := rfl
theorem r_312_7 : row 312 7 = some (.return_, 8, 0, 0, 0, 0) := rfl
theorem r_312_8 : row 312 8 = some (.aload_n 0, 9, 0, 0, 0, 0) := rfl
theorem r_312_9 : row 312 9 = some (.aload_n 0, 10, 0, 0, 0, 0) := rfl
theorem r_312_10 : row 312 10 = some (.getfield 31, 13, 8, 6, 0, 1043) := rfl
theorem r_312_13 : row 312 13 = some (.putfield 28, 16, 8, 5, 0, 1042) := rfl
theorem r_312_54 : row 312 54 = some (.aload_n 0, 55, 0, 0, 0, 0) := rfl
theorem r_312_55 : row 312 55 = some (.aload_n 0, 56, 0, 0, 0, 0) := rfl
theorem r_312_56 : row 312 56 = some (.aload_n 0, 57, 0, 0, 0, 0) := rfl
theorem r_312_57 : row 312 57 = some (.getfield 28, 60, 8, 5, 0, 1042) := rfl
theorem r_312_60 : row 312 60 = some (.invokevirtual 175, 63, 311, 1, 0, 3001) := rfl
theorem r_312_63 : row 312 63 = some (.invokestatic 179, 66, 313, 1, 0, 3005) := rfl
theorem r_312_66 : row 312 66 = some (.putfield 25, 69, 8, 4, 0, 1041) := rfl
theorem r_312_69 : row 312 69 = some (.aload_n 0, 70, 0, 0, 0, 0) := rfl
theorem r_312_70 : row 312 70 = some (.aload_n 0, 71, 0, 0, 0, 0) := rfl
theorem r_312_71 : row 312 71 = some (.getfield 28, 74, 8, 5, 0, 1042) := rfl
theorem r_312_74 : row 312 74 = some (.putfield 31, 77, 8, 6, 0, 1043) := rfl
theorem r_312_77 : row 312 77 = some (.aload_n 0, 78, 0, 0, 0, 0) := rfl
theorem r_312_78 : row 312 78 = some (.getfield 25, 81, 8, 4, 0, 1041) := rfl
theorem r_312_81 : row 312 81 = some (.iconst 1, 82, 1, 0, 0, 0) := rfl
theorem r_312_82 : row 312 82 = some (.if_icmp .eq 11, 85, 93, 0, 0, 0) := rfl
theorem r_312_85 : row 312 85 = some (.aload_n 0, 86, 0, 0, 0, 0) := rfl
theorem r_312_86 : row 312 86 = some (.getfield 25, 89, 8, 4, 0, 1041) := rfl
theorem r_312_89 : row 312 89 = some (.iconst 2, 90, 2, 0, 0, 0) := rfl
theorem r_312_90 : row 312 90 = some (.if_icmp .ne 7, 93, 97, 0, 0, 0) := rfl
theorem r_312_93 : row 312 93 = some (.iconst 1, 94, 1, 0, 0, 0) := rfl
theorem r_312_94 : row 312 94 = some (.goto 4, 97, 98, 0, 0, 0) := rfl
theorem r_312_97 : row 312 97 = some (.iconst 0, 98, 0, 0, 0, 0) := rfl
theorem r_312_98 : row 312 98 = some (.istore_n 1, 99, 0, 0, 0, 0) := rfl
theorem r_312_156 : row 312 156 = some (.return_, 157, 0, 0, 0, 0) := rfl
theorem tk_end {T : List Kd} {m0 : Mm} (_ : True) (hT : ∀ o, 0 < o → o < 213 → T[o]? = some (tyK (tyO o))) (hc : ∀ c : Con, c = cn_311 ∨ c = cn_313 → ConH T c) (b : Int) : ∀ m, Gam m → Fr [2004, 2005, 2006] m0 m → GoP T 2 312 (9, 0, 0) [2004, 2005, 2006] m0 156 [(2, 2), (0, b)] [] m := by
  intro m hm hf
  exact go_rt r_312_156 rfl rfl gR_9 hm hf
theorem tk_d {T : List Kd} {m0 : Mm} (hT : ∀ o, 0 < o → o < 213 → T[o]? = some (tyK (tyO o))) (hc : ∀ c : Con, c = cn_311 ∨ c = cn_313 → ConH T c) : ∀ m, Gam m → Fr [2004, 2005, 2006] m0 m → GoP T 2 312 (9, 0, 0) [2004, 2005, 2006] m0 77 [(2, 2), (9, 0)] [] m := by
  intro m hm hf
  have hk2 := hT 2 (by decide) (by decide)
  refine go_st r_312_77 rfl rfl rfl ?_
  refine go_gf (t := 0) r_312_78 hk2 ⟨by decide, rfl, by decide, by decide⟩ rfl (fun z => absurd z (by decide)) ?_
  show GoP T 2 312 (9, 0, 0) [2004, 2005, 2006] m0 81 [(2, 2), (9, 0)] [(0, m 2 4)] m
  refine go_st r_312_81 rfl rfl rfl ?_
  refine go_ic (P := m 2 4 = 1) r_312_82 (rfl) (fun h82 => ?_) (fun h82 => ?_)
  · refine go_st r_312_93 rfl rfl rfl ?_
    refine go_st r_312_94 rfl rfl rfl ?_
    refine go_st (L' := [(2, 2), (0, 1)]) (S' := []) r_312_98 rfl rfl rfl ?_
    exact tk_b hT hc (tk_end trivial hT hc _) _ m hm hf (Nat.le_refl _)
  · refine go_st r_312_85 rfl rfl rfl ?_
    refine go_gf (t := 0) r_312_86 hk2 ⟨by decide, rfl, by decide, by decide⟩ rfl (fun z => absurd z (by decide)) ?_
    show GoP T 2 312 (9, 0, 0) [2004, 2005, 2006] m0 89 [(2, 2), (9, 0)] [(0, m 2 4)] m
    refine go_st r_312_89 rfl rfl rfl ?_
    refine go_ic (P := ¬ m 2 4 = 2) r_312_90 (rfl) (fun h90 => ?_) (fun h90 => ?_)
    · refine go_st r_312_97 rfl rfl rfl ?_
      refine go_st (L' := [(2, 2), (0, 0)]) (S' := []) r_312_98 rfl rfl rfl ?_
      exact tk_b hT hc (tk_end trivial hT hc _) _ m hm hf (Nat.le_refl _)
    · refine go_st r_312_93 rfl rfl rfl ?_
      refine go_st r_312_94 rfl rfl rfl ?_
      refine go_st (L' := [(2, 2), (0, 1)]) (S' := []) r_312_98 rfl rfl rfl ?_
      exact tk_b hT hc (tk_end trivial hT hc _) _ m hm hf (Nat.le_refl _)
theorem tk_e {T : List Kd} {m0 : Mm} (hT : ∀ o, 0 < o → o < 213 → T[o]? = some (tyK (tyO o))) (hc : ∀ c : Con, c = cn_311 ∨ c = cn_313 → ConH T c) : ∀ m, Gam m → Fr [2004, 2005, 2006] m0 m → GoP T 2 312 (9, 0, 0) [2004, 2005, 2006] m0 69 [(2, 2), (9, 0)] [] m := by
  intro m hm hf
  have hk2 := hT 2 (by decide) (by decide)
  have s0 := hm 2 (by decide) (by decide) 5 (by decide)
  have s1 := hm 2 (by decide) (by decide) 1 (by decide)
  have s2 := hm 2 (by decide) (by decide) 6 (by decide)
  have i0 := (gc_0 rfl).mp s0
  have i1 := (gc_0 rfl).mp s1
  have i2 := (gc_0 rfl).mp s2
  change -2147483648 ≤ m 2 5 ∧ m 2 5 ≤ 2147483647 at i0
  change -2147483648 ≤ m 2 1 ∧ m 2 1 ≤ 2147483647 at i1
  change -2147483648 ≤ m 2 6 ∧ m 2 6 ≤ 2147483647 at i2
  refine go_st r_312_69 rfl rfl rfl ?_
  refine go_st r_312_70 rfl rfl rfl ?_
  refine go_gf (t := 0) r_312_71 hk2 ⟨by decide, rfl, by decide, by decide⟩ rfl (fun z => absurd z (by decide)) ?_
  show GoP T 2 312 (9, 0, 0) [2004, 2005, 2006] m0 74 [(2, 2), (9, 0)] [(0, m 2 5), (2, 2)] m
  refine go_pf (t := 0) (x := m 2 5) r_312_74 hk2 ⟨by decide, rfl, by decide, by decide⟩ rfl (fun z => absurd z (by decide)) (fun z => absurd z (by decide)) ?_
  have hg77 : Gam (nu_up m 2 6 (m 2 5)) := Gam_up hm ((gc_0 rfl).mpr ⟨by show -2147483648 ≤ _; omega, by show _ ≤ 2147483647; omega⟩)
  have hr77 : Fr [2004, 2005, 2006] m0 (nu_up m 2 6 (m 2 5)) := Fr_tr hf (Fr_up (by decide))
  exact tk_d hT hc _ hg77 hr77
theorem tk_f {T : List Kd} {m0 : Mm} (hT : ∀ o, 0 < o → o < 213 → T[o]? = some (tyK (tyO o))) (hc : ∀ c : Con, c = cn_311 ∨ c = cn_313 → ConH T c) : ∀ m, Gam m → Fr [2004, 2005, 2006] m0 m → GoP T 2 312 (9, 0, 0) [2004, 2005, 2006] m0 54 [(2, 2), (9, 0)] [] m := by
  intro m hm hf
  have hk2 := hT 2 (by decide) (by decide)
  have s0 := hm 2 (by decide) (by decide) 5 (by decide)
  have s1 := hm 2 (by decide) (by decide) 1 (by decide)
  have s2 := hm 2 (by decide) (by decide) 6 (by decide)
  have i0 := (gc_0 rfl).mp s0
  have i1 := (gc_0 rfl).mp s1
  have i2 := (gc_0 rfl).mp s2
  change -2147483648 ≤ m 2 5 ∧ m 2 5 ≤ 2147483647 at i0
  change -2147483648 ≤ m 2 1 ∧ m 2 1 ≤ 2147483647 at i1
  change -2147483648 ≤ m 2 6 ∧ m 2 6 ≤ 2147483647 at i2
  refine go_st r_312_54 rfl rfl rfl ?_
  refine go_st r_312_55 rfl rfl rfl ?_
  refine go_st r_312_56 rfl rfl rfl ?_
  refine go_gf (t := 0) r_312_57 hk2 ⟨by decide, rfl, by decide, by decide⟩ rfl (fun z => absurd z (by decide)) ?_
  show GoP T 2 312 (9, 0, 0) [2004, 2005, 2006] m0 60 [(2, 2), (9, 0)] [(0, m 2 5), (2, 2), (2, 2)] m
  refine go_cn (nx := 63) (S2 := [(2, 2)]) (hc _ (Or.inl rfl)) r_312_60 rfl rfl rfl rfl rfl (rcv_v rfl hk2 (by decide) rfl (by decide)) (by decide) rfl ⟨gq_o2, gq_any (by omega) (by omega), trivial⟩ hm hf (by decide) (fun v60 m60 g60 hm60 f60 hf60 => ?_)
  obtain rfl := (Fr_nil f60).symm
  obtain ⟨x60, rfl, l60, u60⟩ := gR_i0 g60
  show GoP T 2 312 (9, 0, 0) [2004, 2005, 2006] m0 63 [(2, 2), (9, 0)] [(0, x60), (2, 2)] m
  refine go_cn (nx := 66) (S2 := [(2, 2)]) (hc _ (Or.inr rfl)) r_312_63 rfl rfl rfl rfl rfl rfl (by decide) rfl ⟨gq_any (by omega) (by omega), trivial⟩ hm hf (by decide) (fun v63 m63 g63 hm63 f63 hf63 => ?_)
  obtain rfl := (Fr_nil f63).symm
  obtain ⟨x63, rfl, l63, u63⟩ := gR_i0 g63
  show GoP T 2 312 (9, 0, 0) [2004, 2005, 2006] m0 66 [(2, 2), (9, 0)] [(0, x63), (2, 2)] m
  refine go_pf (t := 0) (x := x63) r_312_66 hk2 ⟨by decide, rfl, by decide, by decide⟩ rfl (fun z => absurd z (by decide)) (fun z => absurd z (by decide)) ?_
  have hg69 : Gam (nu_up m 2 4 (x63)) := Gam_up hm ((gc_0 rfl).mpr ⟨by show -2147483648 ≤ _; omega, by show _ ≤ 2147483647; omega⟩)
  have hr69 : Fr [2004, 2005, 2006] m0 (nu_up m 2 4 (x63)) := Fr_tr hf (Fr_up (by decide))
  exact tk_e hT hc _ hg69 hr69
theorem h_312 {T : List Kd} (hT : ∀ o, 0 < o → o < 213 → T[o]? = some (tyK (tyO o))) (hc : ∀ c : Con, c = cn_311 ∨ c = cn_313 → ConH T c) : ConH T (312, [(2, 2, 0)], (9, 0, 0), [2004, 2005, 2006], 2) := by
  intro args m h hm
  obtain ⟨a, l, rfl, h0, h⟩ := F2_cons h
  obtain rfl := F2_nil h
  obtain ⟨o, rfl, o1, o2, o3⟩ := gq_r h0
  obtain rfl : o = 2 := ty2 o o1 o2 o3
  have hf : Fr [2004, 2005, 2006] m m := Fr_rf
  have hk2 := hT 2 (by decide) (by decide)
  have s0 := hm 2 (by decide) (by decide) 5 (by decide)
  have s1 := hm 2 (by decide) (by decide) 1 (by decide)
  have s2 := hm 2 (by decide) (by decide) 6 (by decide)
  have i0 := (gc_0 rfl).mp s0
  have i1 := (gc_0 rfl).mp s1
  have i2 := (gc_0 rfl).mp s2
  change -2147483648 ≤ m 2 5 ∧ m 2 5 ≤ 2147483647 at i0
  change -2147483648 ≤ m 2 1 ∧ m 2 1 ≤ 2147483647 at i1
  change -2147483648 ≤ m 2 6 ∧ m 2 6 ≤ 2147483647 at i2
  show GoP T 2 312 (9, 0, 0) [2004, 2005, 2006] m 0 [(2, 2), (9, 0)] [] m
  refine go_st r_312_0 rfl rfl rfl ?_
  refine go_gf (t := 0) r_312_1 hk2 ⟨by decide, rfl, by decide, by decide⟩ rfl (fun z => absurd z (by decide)) ?_
  show GoP T 2 312 (9, 0, 0) [2004, 2005, 2006] m 4 [(2, 2), (9, 0)] [(0, m 2 2)] m
  refine go_i0 (P := m 2 2 = 0) r_312_4 (rfl) (fun h4 => ?_) (fun h4 => ?_)
  · refine go_st r_312_8 rfl rfl rfl ?_
    refine go_st r_312_9 rfl rfl rfl ?_
    refine go_gf (t := 0) r_312_10 hk2 ⟨by decide, rfl, by decide, by decide⟩ rfl (fun z => absurd z (by decide)) ?_
    show GoP T 2 312 (9, 0, 0) [2004, 2005, 2006] m 13 [(2, 2), (9, 0)] [(0, m 2 6), (2, 2)] m
    refine go_pf (t := 0) (x := m 2 6) r_312_13 hk2 ⟨by decide, rfl, by decide, by decide⟩ rfl (fun z => absurd z (by decide)) (fun z => absurd z (by decide)) ?_
    have hg16 : Gam (nu_up m 2 5 (m 2 6)) := Gam_up hm ((gc_0 rfl).mpr ⟨by show -2147483648 ≤ _; omega, by show _ ≤ 2147483647; omega⟩)
    have hr16 : Fr [2004, 2005, 2006] m (nu_up m 2 5 (m 2 6)) := Fr_tr hf (Fr_up (by decide))
    exact tk_a hT hc (tk_f hT hc) _ _ hg16 hr16 (Nat.le_refl _)
  · exact go_rt r_312_7 rfl rfl gR_9 hm hf
