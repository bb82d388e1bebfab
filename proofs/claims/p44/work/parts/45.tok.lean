/-! by hand: nextToken -/
theorem Fr_nil {m m' : Mm} (h : Fr [] m m') : m' = m := by
  funext o i
  exact h o i rfl
theorem gR_i0 {lo hi : Int} {v : AV} (h : gR (0, lo, hi) v) : ∃ x, v = (0, x) ∧ lo ≤ x ∧ x ≤ hi := by
  unfold gR at h
  rw [if_neg (show ¬ ((0, lo, hi) : Q).1 = 9 from (by decide : ¬ (0 : Nat) = 9))] at h
  exact gq_i h.2
theorem gq_any {x lo hi : Int} (h1 : lo ≤ x) (h2 : x ≤ hi) : gq0 (0, lo, hi) (0, x) := (gq_0 rfl).mpr ⟨rfl, h1, h2⟩
theorem gq_o2 : gq0 (2, 2, 0) (2, 2) := (gq_2 rfl).mpr ⟨rfl, by decide, by decide, by decide⟩
theorem r_312_16 : row 312 16 = some (.aload_n 0, 17, 0, 0, 0, 0) := rfl
theorem r_312_17 : row 312 17 = some (.getfield 28, 20, 8, 5, 0, 1042) := rfl
theorem r_312_20 : row 312 20 = some (.aload_n 0, 21, 0, 0, 0, 0) := rfl
theorem r_312_21 : row 312 21 = some (.getfield 15, 24, 8, 1, 0, 1035) := rfl
theorem r_312_24 : row 312 24 = some (.if_icmp .ge 30, 27, 54, 0, 0, 0) := rfl
theorem r_312_27 : row 312 27 = some (.aload_n 0, 28, 0, 0, 0, 0) := rfl
theorem r_312_28 : row 312 28 = some (.aload_n 0, 29, 0, 0, 0, 0) := rfl
theorem r_312_29 : row 312 29 = some (.getfield 28, 32, 8, 5, 0, 1042) := rfl
theorem r_312_32 : row 312 32 = some (.invokevirtual 175, 35, 311, 1, 0, 3001) := rfl
theorem r_312_35 : row 312 35 = some (.invokestatic 179, 38, 313, 1, 0, 3005) := rfl
theorem r_312_38 : row 312 38 = some (.ifCond .ne 16, 41, 54, 0, 0, 0) := rfl
theorem r_312_41 : row 312 41 = some (.aload_n 0, 42, 0, 0, 0, 0) := rfl
theorem r_312_42 : row 312 42 = some (.dup, 43, 0, 0, 0, 0) := rfl
theorem r_312_43 : row 312 43 = some (.getfield 28, 46, 8, 5, 0, 1042) := rfl
theorem r_312_46 : row 312 46 = some (.iconst 1, 47, 1, 0, 0, 0) := rfl
theorem r_312_47 : row 312 47 = some (.iadd, 48, 0, 0, 0, 0) := rfl
theorem r_312_48 : row 312 48 = some (.putfield 28, 51, 8, 5, 0, 1042) := rfl
theorem r_312_51 : row 312 51 = some (.goto (-35), 54, 16, 0, 0, 0) := rfl
theorem r_312_99 : row 312 99 = some (.aload_n 0, 100, 0, 0, 0, 0) := rfl
theorem r_312_100 : row 312 100 = some (.getfield 31, 103, 8, 6, 0, 1043) := rfl
theorem r_312_103 : row 312 103 = some (.aload_n 0, 104, 0, 0, 0, 0) := rfl
theorem r_312_104 : row 312 104 = some (.getfield 15, 107, 8, 1, 0, 1035) := rfl
theorem r_312_107 : row 312 107 = some (.if_icmp .ge 49, 110, 156, 0, 0, 0) := rfl
theorem r_312_110 : row 312 110 = some (.aload_n 0, 111, 0, 0, 0, 0) := rfl
theorem r_312_111 : row 312 111 = some (.aload_n 0, 112, 0, 0, 0, 0) := rfl
theorem r_312_112 : row 312 112 = some (.getfield 31, 115, 8, 6, 0, 1043) := rfl
theorem r_312_115 : row 312 115 = some (.invokevirtual 175, 118, 311, 1, 0, 3001) := rfl
theorem r_312_118 : row 312 118 = some (.invokestatic 179, 121, 313, 1, 0, 3005) := rfl
theorem r_312_121 : row 312 121 = some (.aload_n 0, 122, 0, 0, 0, 0) := rfl
theorem r_312_122 : row 312 122 = some (.getfield 25, 125, 8, 4, 0, 1041) := rfl
theorem r_312_125 : row 312 125 = some (.if_icmp .ne 31, 128, 156, 0, 0, 0) := rfl
theorem r_312_128 : row 312 128 = some (.iload_n 1, 129, 0, 0, 0, 0) := rfl
theorem r_312_129 : row 312 129 = some (.ifCond .ne 14, 132, 143, 0, 0, 0) := rfl
theorem r_312_132 : row 312 132 = some (.aload_n 0, 133, 0, 0, 0, 0) := rfl
theorem r_312_133 : row 312 133 = some (.getfield 31, 136, 8, 6, 0, 1043) := rfl
theorem r_312_136 : row 312 136 = some (.aload_n 0, 137, 0, 0, 0, 0) := rfl
theorem r_312_137 : row 312 137 = some (.getfield 28, 140, 8, 5, 0, 1042) := rfl
theorem r_312_140 : row 312 140 = some (.if_icmp .ne 16, 143, 156, 0, 0, 0) := rfl
theorem r_312_143 : row 312 143 = some (.aload_n 0, 144, 0, 0, 0, 0) := rfl
theorem r_312_144 : row 312 144 = some (.dup, 145, 0, 0, 0, 0) := rfl
theorem r_312_145 : row 312 145 = some (.getfield 31, 148, 8, 6, 0, 1043) := rfl
theorem r_312_148 : row 312 148 = some (.iconst 1, 149, 1, 0, 0, 0) := rfl
theorem r_312_149 : row 312 149 = some (.iadd, 150, 0, 0, 0, 0) := rfl
theorem r_312_150 : row 312 150 = some (.putfield 31, 153, 8, 6, 0, 1043) := rfl
theorem r_312_153 : row 312 153 = some (.goto (-54), 156, 99, 0, 0, 0) := rfl
theorem tk_a {T : List Kd} {m0 : Mm} (hT : ∀ o, 0 < o → o < 213 → T[o]? = some (tyK (tyO o))) (hc : ∀ c : Con, c = cn_311 ∨ c = cn_313 → ConH T c)  (hout : ∀ m, Gam m → Fr [2004, 2005, 2006] m0 m → GoP T 2 312 (9, 0, 0) [2004, 2005, 2006] m0 54 [(2, 2), (9, 0)] [] m) : ∀ (N : Nat) (m : Mm), Gam m → Fr [2004, 2005, 2006] m0 m → (2147483648 - m 2 5).toNat ≤ N → GoP T 2 312 (9, 0, 0) [2004, 2005, 2006] m0 16 [(2, 2), (9, 0)] [] m := by
  intro N
  induction N with
  | zero =>
    intro m hm hf hN
    have hk2 := hT 2 (by decide) (by decide)
    have s0 := hm 2 (by decide) (by decide) 5 (by decide)
    have s1 := hm 2 (by decide) (by decide) 1 (by decide)
    have s2 := hm 2 (by decide) (by decide) 6 (by decide)
    have i0 := (gc_0 rfl).mp s0
    have i1 := (gc_0 rfl).mp s1
    have i2 := (gc_0 rfl).mp s2
    change -2147483648 ≤ m 2 5 ∧ m 2 5 ≤ 2147483647 at i0
    change -2147483648 ≤ m 2 1 ∧ m 2 1 ≤ 2147483647 at i1
    change -2147483648 ≤ m 2 6 ∧ m 2 6 ≤ 2147483647 at i2
    omega
  | succ N ih =>
    intro m hm hf hN
    have hk2 := hT 2 (by decide) (by decide)
    have s0 := hm 2 (by decide) (by decide) 5 (by decide)
    have s1 := hm 2 (by decide) (by decide) 1 (by decide)
    have s2 := hm 2 (by decide) (by decide) 6 (by decide)
    have i0 := (gc_0 rfl).mp s0
    have i1 := (gc_0 rfl).mp s1
    have i2 := (gc_0 rfl).mp s2
    change -2147483648 ≤ m 2 5 ∧ m 2 5 ≤ 2147483647 at i0
    change -2147483648 ≤ m 2 1 ∧ m 2 1 ≤ 2147483647 at i1
    change -2147483648 ≤ m 2 6 ∧ m 2 6 ≤ 2147483647 at i2
    refine go_st r_312_16 rfl rfl rfl ?_
    refine go_gf (t := 0) r_312_17 hk2 ⟨by decide, rfl, by decide, by decide⟩ rfl (fun z => absurd z (by decide)) ?_
    show GoP T 2 312 (9, 0, 0) [2004, 2005, 2006] m0 20 [(2, 2), (9, 0)] [(0, m 2 5)] m
    refine go_st r_312_20 rfl rfl rfl ?_
    refine go_gf (t := 0) r_312_21 hk2 ⟨by decide, rfl, by decide, by decide⟩ rfl (fun z => absurd z (by decide)) ?_
    show GoP T 2 312 (9, 0, 0) [2004, 2005, 2006] m0 24 [(2, 2), (9, 0)] [(0, m 2 1), (0, m 2 5)] m
    refine go_ic (P := m 2 1 ≤ m 2 5) r_312_24 (rfl) (fun h24 => ?_) (fun h24 => ?_)
    · exact hout m hm hf
    · refine go_st r_312_27 rfl rfl rfl ?_
      refine go_st r_312_28 rfl rfl rfl ?_
      refine go_gf (t := 0) r_312_29 hk2 ⟨by decide, rfl, by decide, by decide⟩ rfl (fun z => absurd z (by decide)) ?_
      show GoP T 2 312 (9, 0, 0) [2004, 2005, 2006] m0 32 [(2, 2), (9, 0)] [(0, m 2 5), (2, 2)] m
      refine go_cn (nx := 35) (S2 := []) (hc _ (Or.inl rfl)) r_312_32 rfl rfl rfl rfl rfl (rcv_v rfl hk2 (by decide) rfl (by decide)) (by decide) rfl ⟨gq_o2, gq_any (by omega) (by omega), trivial⟩ hm hf (by decide) (fun v32 m32 g32 hm32 f32 hf32 => ?_)
      obtain rfl := (Fr_nil f32).symm
      obtain ⟨x32, rfl, l32, u32⟩ := gR_i0 g32
      show GoP T 2 312 (9, 0, 0) [2004, 2005, 2006] m0 35 [(2, 2), (9, 0)] [(0, x32)] m
      refine go_cn (nx := 38) (S2 := []) (hc _ (Or.inr rfl)) r_312_35 rfl rfl rfl rfl rfl rfl (by decide) rfl ⟨gq_any (by omega) (by omega), trivial⟩ hm hf (by decide) (fun v35 m35 g35 hm35 f35 hf35 => ?_)
      obtain rfl := (Fr_nil f35).symm
      obtain ⟨x35, rfl, l35, u35⟩ := gR_i0 g35
      show GoP T 2 312 (9, 0, 0) [2004, 2005, 2006] m0 38 [(2, 2), (9, 0)] [(0, x35)] m
      refine go_i0 (P := ¬ x35 = 0) r_312_38 (rfl) (fun h38 => ?_) (fun h38 => ?_)
      · exact hout m hm hf
      · refine go_st r_312_41 rfl rfl rfl ?_
        refine go_st r_312_42 rfl rfl rfl ?_
        refine go_gf (t := 0) r_312_43 hk2 ⟨by decide, rfl, by decide, by decide⟩ rfl (fun z => absurd z (by decide)) ?_
        show GoP T 2 312 (9, 0, 0) [2004, 2005, 2006] m0 46 [(2, 2), (9, 0)] [(0, m 2 5), (2, 2)] m
        refine go_st r_312_46 rfl rfl rfl ?_
        refine go_st (L' := [(2, 2), (9, 0)]) (S' := [(0, w32 (m 2 5 + 1)), (2, 2)]) r_312_47 rfl rfl rfl ?_
        rw [w32_id ⟨by omega, by omega⟩]
        refine go_pf (t := 0) (x := m 2 5 + 1) r_312_48 hk2 ⟨by decide, rfl, by decide, by decide⟩ rfl (fun z => absurd z (by decide)) (fun z => absurd z (by decide)) ?_
        have hm1 : Gam (nu_up m 2 5 (m 2 5 + 1)) := Gam_up hm ((gc_0 rfl).mpr ⟨by show -2147483648 ≤ _; omega, by show _ ≤ 2147483647; omega⟩)
        have hf1 : Fr [2004, 2005, 2006] m0 (nu_up m 2 5 (m 2 5 + 1)) := Fr_tr hf (Fr_up (by decide))
        refine go_st r_312_51 rfl rfl rfl ?_
        refine ih _ hm1 hf1 ?_
        show (2147483648 - (m 2 5 + 1)).toNat ≤ N
        omega
theorem tk_b {T : List Kd} {m0 : Mm} (hT : ∀ o, 0 < o → o < 213 → T[o]? = some (tyK (tyO o))) (hc : ∀ c : Con, c = cn_311 ∨ c = cn_313 → ConH T c) {b : Int} (hout : ∀ m, Gam m → Fr [2004, 2005, 2006] m0 m → GoP T 2 312 (9, 0, 0) [2004, 2005, 2006] m0 156 [(2, 2), (0, b)] [] m) : ∀ (N : Nat) (m : Mm), Gam m → Fr [2004, 2005, 2006] m0 m → (2147483648 - m 2 6).toNat ≤ N → GoP T 2 312 (9, 0, 0) [2004, 2005, 2006] m0 99 [(2, 2), (0, b)] [] m := by
  intro N
  induction N with
  | zero =>
    intro m hm hf hN
    have hk2 := hT 2 (by decide) (by decide)
    have s0 := hm 2 (by decide) (by decide) 5 (by decide)
    have s1 := hm 2 (by decide) (by decide) 1 (by decide)
    have s2 := hm 2 (by decide) (by decide) 6 (by decide)
    have i0 := (gc_0 rfl).mp s0
    have i1 := (gc_0 rfl).mp s1
    have i2 := (gc_0 rfl).mp s2
    change -2147483648 ≤ m 2 5 ∧ m 2 5 ≤ 2147483647 at i0
    change -2147483648 ≤ m 2 1 ∧ m 2 1 ≤ 2147483647 at i1
    change -2147483648 ≤ m 2 6 ∧ m 2 6 ≤ 2147483647 at i2
    omega
  | succ N ih =>
    intro m hm hf hN
    have hk2 := hT 2 (by decide) (by decide)
    have s0 := hm 2 (by decide) (by decide) 5 (by decide)
    have s1 := hm 2 (by decide) (by decide) 1 (by decide)
    have s2 := hm 2 (by decide) (by decide) 6 (by decide)
    have i0 := (gc_0 rfl).mp s0
    have i1 := (gc_0 rfl).mp s1
    have i2 := (gc_0 rfl).mp s2
    change -2147483648 ≤ m 2 5 ∧ m 2 5 ≤ 2147483647 at i0
    change -2147483648 ≤ m 2 1 ∧ m 2 1 ≤ 2147483647 at i1
    change -2147483648 ≤ m 2 6 ∧ m 2 6 ≤ 2147483647 at i2
    refine go_st r_312_99 rfl rfl rfl ?_
    refine go_gf (t := 0) r_312_100 hk2 ⟨by decide, rfl, by decide, by decide⟩ rfl (fun z => absurd z (by decide)) ?_
    show GoP T 2 312 (9, 0, 0) [2004, 2005, 2006] m0 103 [(2, 2), (0, b)] [(0, m 2 6)] m
    refine go_st r_312_103 rfl rfl rfl ?_
    refine go_gf (t := 0) r_312_104 hk2 ⟨by decide, rfl, by decide, by decide⟩ rfl (fun z => absurd z (by decide)) ?_
    show GoP T 2 312 (9, 0, 0) [2004, 2005, 2006] m0 107 [(2, 2), (0, b)] [(0, m 2 1), (0, m 2 6)] m
    refine go_ic (P := m 2 1 ≤ m 2 6) r_312_107 (rfl) (fun h107 => ?_) (fun h107 => ?_)
    · exact hout m hm hf
    · refine go_st r_312_110 rfl rfl rfl ?_
      refine go_st r_312_111 rfl rfl rfl ?_
      refine go_gf (t := 0) r_312_112 hk2 ⟨by decide, rfl, by decide, by decide⟩ rfl (fun z => absurd z (by decide)) ?_
      show GoP T 2 312 (9, 0, 0) [2004, 2005, 2006] m0 115 [(2, 2), (0, b)] [(0, m 2 6), (2, 2)] m
      refine go_cn (nx := 118) (S2 := []) (hc _ (Or.inl rfl)) r_312_115 rfl rfl rfl rfl rfl (rcv_v rfl hk2 (by decide) rfl (by decide)) (by decide) rfl ⟨gq_o2, gq_any (by omega) (by omega), trivial⟩ hm hf (by decide) (fun v115 m115 g115 hm115 f115 hf115 => ?_)
      obtain rfl := (Fr_nil f115).symm
      obtain ⟨x115, rfl, l115, u115⟩ := gR_i0 g115
      show GoP T 2 312 (9, 0, 0) [2004, 2005, 2006] m0 118 [(2, 2), (0, b)] [(0, x115)] m
      refine go_cn (nx := 121) (S2 := []) (hc _ (Or.inr rfl)) r_312_118 rfl rfl rfl rfl rfl rfl (by decide) rfl ⟨gq_any (by omega) (by omega), trivial⟩ hm hf (by decide) (fun v118 m118 g118 hm118 f118 hf118 => ?_)
      obtain rfl := (Fr_nil f118).symm
      obtain ⟨x118, rfl, l118, u118⟩ := gR_i0 g118
      show GoP T 2 312 (9, 0, 0) [2004, 2005, 2006] m0 121 [(2, 2), (0, b)] [(0, x118)] m
      refine go_st r_312_121 rfl rfl rfl ?_
      refine go_gf (t := 0) r_312_122 hk2 ⟨by decide, rfl, by decide, by decide⟩ rfl (fun z => absurd z (by decide)) ?_
      show GoP T 2 312 (9, 0, 0) [2004, 2005, 2006] m0 125 [(2, 2), (0, b)] [(0, m 2 4), (0, x118)] m
      refine go_ic (P := ¬ x118 = m 2 4) r_312_125 (rfl) (fun h125 => ?_) (fun h125 => ?_)
      · exact hout m hm hf
      · refine go_st r_312_128 rfl rfl rfl ?_
        refine go_i0 (P := ¬ b = 0) r_312_129 (rfl) (fun h129 => ?_) (fun h129 => ?_)
        · refine go_st r_312_143 rfl rfl rfl ?_
          refine go_st r_312_144 rfl rfl rfl ?_
          refine go_gf (t := 0) r_312_145 hk2 ⟨by decide, rfl, by decide, by decide⟩ rfl (fun z => absurd z (by decide)) ?_
          show GoP T 2 312 (9, 0, 0) [2004, 2005, 2006] m0 148 [(2, 2), (0, b)] [(0, m 2 6), (2, 2)] m
          refine go_st r_312_148 rfl rfl rfl ?_
          refine go_st (L' := [(2, 2), (0, b)]) (S' := [(0, w32 (m 2 6 + 1)), (2, 2)]) r_312_149 rfl rfl rfl ?_
          rw [w32_id ⟨by omega, by omega⟩]
          refine go_pf (t := 0) (x := m 2 6 + 1) r_312_150 hk2 ⟨by decide, rfl, by decide, by decide⟩ rfl (fun z => absurd z (by decide)) (fun z => absurd z (by decide)) ?_
          have hm1 : Gam (nu_up m 2 6 (m 2 6 + 1)) := Gam_up hm ((gc_0 rfl).mpr ⟨by show -2147483648 ≤ _; omega, by show _ ≤ 2147483647; omega⟩)
          have hf1 : Fr [2004, 2005, 2006] m0 (nu_up m 2 6 (m 2 6 + 1)) := Fr_tr hf (Fr_up (by decide))
          refine go_st r_312_153 rfl rfl rfl ?_
          refine ih _ hm1 hf1 ?_
          show (2147483648 - (m 2 6 + 1)).toNat ≤ N
          omega
        · refine go_st r_312_132 rfl rfl rfl ?_
          refine go_gf (t := 0) r_312_133 hk2 ⟨by decide, rfl, by decide, by decide⟩ rfl (fun z => absurd z (by decide)) ?_
          show GoP T 2 312 (9, 0, 0) [2004, 2005, 2006] m0 136 [(2, 2), (0, b)] [(0, m 2 6)] m
          refine go_st r_312_136 rfl rfl rfl ?_
          refine go_gf (t := 0) r_312_137 hk2 ⟨by decide, rfl, by decide, by decide⟩ rfl (fun z => absurd z (by decide)) ?_
          show GoP T 2 312 (9, 0, 0) [2004, 2005, 2006] m0 140 [(2, 2), (0, b)] [(0, m 2 5), (0, m 2 6)] m
          refine go_ic (P := ¬ m 2 6 = m 2 5) r_312_140 (rfl) (fun h140 => ?_) (fun h140 => ?_)
          · exact hout m hm hf
          · refine go_st r_312_143 rfl rfl rfl ?_
            refine go_st r_312_144 rfl rfl rfl ?_
            refine go_gf (t := 0) r_312_145 hk2 ⟨by decide, rfl, by decide, by decide⟩ rfl (fun z => absurd z (by decide)) ?_
            show GoP T 2 312 (9, 0, 0) [2004, 2005, 2006] m0 148 [(2, 2), (0, b)] [(0, m 2 6), (2, 2)] m
            refine go_st r_312_148 rfl rfl rfl ?_
            refine go_st (L' := [(2, 2), (0, b)]) (S' := [(0, w32 (m 2 6 + 1)), (2, 2)]) r_312_149 rfl rfl rfl ?_
            rw [w32_id ⟨by omega, by omega⟩]
            refine go_pf (t := 0) (x := m 2 6 + 1) r_312_150 hk2 ⟨by decide, rfl, by decide, by decide⟩ rfl (fun z => absurd z (by decide)) (fun z => absurd z (by decide)) ?_
            have hm1 : Gam (nu_up m 2 6 (m 2 6 + 1)) := Gam_up hm ((gc_0 rfl).mpr ⟨by show -2147483648 ≤ _; omega, by show _ ≤ 2147483647; omega⟩)
            have hf1 : Fr [2004, 2005, 2006] m0 (nu_up m 2 6 (m 2 6 + 1)) := Fr_tr hf (Fr_up (by decide))
            refine go_st r_312_153 rfl rfl rfl ?_
            refine ih _ hm1 hf1 ?_
            show (2147483648 - (m 2 6 + 1)).toNat ≤ N
            omega
