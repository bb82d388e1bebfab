/-! by hand: lowest, for any numbers -/
theorem r_293_63 : row 293 63 = some (.lload 9, 65, 0, 0, 0, 0) := rfl
theorem r_293_65 : row 293 65 = some (.goto 8, 68, 73, 0, 0, 0) := rfl
theorem lw_fin {d : Nat} {sh : List Kd} {m : Mm} {x y w : Int} (hx : in64 x) (hy : in64 y) (A B s : Int) (l1 l2 : AV) (hA : in64 A) : ∃ z, in64 z ∧ Rn d 293 44 [(1, x), (9, 0), (1, y), (9, 0), (0, w), (1, A), (9, 0), (1, B), (9, 0), (0, s), l1, l2] [] sh m ((1, z), sh, m) := by
  by_cases h0 : w = 0
  · by_cases h1 : A = 0
    · refine ⟨x, hx, ?_⟩
      refine Rn_st r_293_44 rfl rfl rfl ?_
      refine Rn_i0 (P := ¬ w = 0) r_293_46 rfl (fun h46 => ?_) (fun h46 => ?_)
      · exact absurd h0 h46
      · refine Rn_st r_293_49 rfl rfl rfl ?_
        refine Rn_st r_293_50 rfl rfl rfl ?_
        refine Rn_st (L' := [(1, x), (9, 0), (1, y), (9, 0), (0, w), (1, A), (9, 0), (1, B), (9, 0), (1, x), (9, 0), l2]) (S' := []) r_293_54 rfl rfl rfl ?_
        refine Rn_st r_293_56 rfl rfl rfl ?_
        refine Rn_st r_293_58 rfl rfl rfl ?_
        refine Rn_st r_293_59 rfl rfl rfl ?_
        refine Rn_i0 (P := ¬ A = 0) r_293_60 (lc_ne) (fun h60 => ?_) (fun h60 => ?_)
        · exact absurd h1 h60
        · refine Rn_st r_293_63 rfl rfl rfl ?_
          refine Rn_st r_293_65 rfl rfl rfl ?_
          exact Rn_rt r_293_73 rfl rfl (rfl)
    · refine ⟨w64 (x.tdiv A), w64_in _, ?_⟩
      refine Rn_st r_293_44 rfl rfl rfl ?_
      refine Rn_i0 (P := ¬ w = 0) r_293_46 rfl (fun h46 => ?_) (fun h46 => ?_)
      · exact absurd h0 h46
      · refine Rn_st r_293_49 rfl rfl rfl ?_
        refine Rn_st r_293_50 rfl rfl rfl ?_
        refine Rn_st (L' := [(1, x), (9, 0), (1, y), (9, 0), (0, w), (1, A), (9, 0), (1, B), (9, 0), (1, x), (9, 0), l2]) (S' := []) r_293_54 rfl rfl rfl ?_
        refine Rn_st r_293_56 rfl rfl rfl ?_
        refine Rn_st r_293_58 rfl rfl rfl ?_
        refine Rn_st r_293_59 rfl rfl rfl ?_
        refine Rn_i0 (P := ¬ A = 0) r_293_60 (lc_ne) (fun h60 => ?_) (fun h60 => ?_)
        · refine Rn_st r_293_68 rfl rfl rfl ?_
          refine Rn_st r_293_70 rfl rfl rfl ?_
          refine Rn_ldiv r_293_72 (h1) ?_
          exact Rn_rt r_293_73 rfl rfl (rfl)
        · exact absurd h1 h60
  · by_cases h1 : A = 0
    · refine ⟨y, hy, ?_⟩
      refine Rn_st r_293_44 rfl rfl rfl ?_
      refine Rn_i0 (P := ¬ w = 0) r_293_46 rfl (fun h46 => ?_) (fun h46 => ?_)
      · refine Rn_st r_293_53 rfl rfl rfl ?_
        refine Rn_st (L' := [(1, x), (9, 0), (1, y), (9, 0), (0, w), (1, A), (9, 0), (1, B), (9, 0), (1, y), (9, 0), l2]) (S' := []) r_293_54 rfl rfl rfl ?_
        refine Rn_st r_293_56 rfl rfl rfl ?_
        refine Rn_st r_293_58 rfl rfl rfl ?_
        refine Rn_st r_293_59 rfl rfl rfl ?_
        refine Rn_i0 (P := ¬ A = 0) r_293_60 (lc_ne) (fun h60 => ?_) (fun h60 => ?_)
        · exact absurd h1 h60
        · refine Rn_st r_293_63 rfl rfl rfl ?_
          refine Rn_st r_293_65 rfl rfl rfl ?_
          exact Rn_rt r_293_73 rfl rfl (rfl)
      · exact absurd (Decidable.not_not.mp h46) h0
    · refine ⟨w64 (y.tdiv A), w64_in _, ?_⟩
      refine Rn_st r_293_44 rfl rfl rfl ?_
      refine Rn_i0 (P := ¬ w = 0) r_293_46 rfl (fun h46 => ?_) (fun h46 => ?_)
      · refine Rn_st r_293_53 rfl rfl rfl ?_
        refine Rn_st (L' := [(1, x), (9, 0), (1, y), (9, 0), (0, w), (1, A), (9, 0), (1, B), (9, 0), (1, y), (9, 0), l2]) (S' := []) r_293_54 rfl rfl rfl ?_
        refine Rn_st r_293_56 rfl rfl rfl ?_
        refine Rn_st r_293_58 rfl rfl rfl ?_
        refine Rn_st r_293_59 rfl rfl rfl ?_
        refine Rn_i0 (P := ¬ A = 0) r_293_60 (lc_ne) (fun h60 => ?_) (fun h60 => ?_)
        · refine Rn_st r_293_68 rfl rfl rfl ?_
          refine Rn_st r_293_70 rfl rfl rfl ?_
          refine Rn_ldiv r_293_72 (h1) ?_
          exact Rn_rt r_293_73 rfl rfl (rfl)
        · exact absurd h1 h60
      · exact absurd (Decidable.not_not.mp h46) h0
theorem lw_head {d : Nat} {sh : List Kd} {m : Mm} {x y w : Int} (hx : in64 x) (hy : in64 y) : ∀ (k s : Nat) (A B : Int) (l1 l2 : AV), s + k = 100 → in64 A → in64 B → ∃ z, in64 z ∧ Rn d 293 9 [(1, x), (9, 0), (1, y), (9, 0), (0, w), (1, A), (9, 0), (1, B), (9, 0), (0, (s : Int)), l1, l2] [] sh m ((1, z), sh, m) := by
  intro k
  induction k with
  | zero =>
    intro s A B l1 l2 hs hA hB
    obtain ⟨z, hz, h⟩ := lw_fin (d := d) (sh := sh) (m := m) (w := w) hx hy A B (s : Int) l1 l2 hA
    refine ⟨z, hz, ?_⟩
    refine Rn_st r_293_9 rfl rfl rfl ?_
    refine Rn_st r_293_11 rfl rfl rfl ?_
    refine Rn_ic (P := 100 ≤ (s : Int)) r_293_13 rfl (fun h13 => ?_) (fun h13 => ?_)
    · exact h
    · omega
  | succ k ih =>
    intro s A B l1 l2 hs hA hB
    by_cases h0 : B = 0
    · obtain ⟨z, hz, h⟩ := lw_fin (d := d) (sh := sh) (m := m) (w := w) hx hy A B (s : Int) l1 l2 hA
      refine ⟨z, hz, ?_⟩
      refine Rn_st r_293_9 rfl rfl rfl ?_
      refine Rn_st r_293_11 rfl rfl rfl ?_
      refine Rn_ic (P := 100 ≤ (s : Int)) r_293_13 rfl (fun h13 => ?_) (fun h13 => ?_)
      · exact h
      · refine Rn_st r_293_16 rfl rfl rfl ?_
        refine Rn_st r_293_18 rfl rfl rfl ?_
        refine Rn_st r_293_19 rfl rfl rfl ?_
        refine Rn_i0 (P := B = 0) r_293_20 (lc_eq) (fun h20 => ?_) (fun h20 => ?_)
        · exact h
        · exact absurd h0 h20
    · obtain ⟨z, hz, h⟩ := ih (s + 1) B (A.tmod B) (1, A.tmod B) (9, 0) (by omega) hB (tmod_in (by decide) (by decide) hA)
      refine ⟨z, hz, ?_⟩
      refine Rn_st r_293_9 rfl rfl rfl ?_
      refine Rn_st r_293_11 rfl rfl rfl ?_
      refine Rn_ic (P := 100 ≤ (s : Int)) r_293_13 rfl (fun h13 => ?_) (fun h13 => ?_)
      · omega
      · refine Rn_st r_293_16 rfl rfl rfl ?_
        refine Rn_st r_293_18 rfl rfl rfl ?_
        refine Rn_st r_293_19 rfl rfl rfl ?_
        refine Rn_i0 (P := B = 0) r_293_20 (lc_eq) (fun h20 => ?_) (fun h20 => ?_)
        · exact absurd h20 h0
        · refine Rn_st r_293_23 rfl rfl rfl ?_
          refine Rn_st r_293_25 rfl rfl rfl ?_
          refine Rn_lrem r_293_27 (h0) ?_
          refine Rn_st (L' := [(1, x), (9, 0), (1, y), (9, 0), (0, w), (1, A), (9, 0), (1, B), (9, 0), (0, (s : Int)), (1, A.tmod B), (9, 0)]) (S' := []) r_293_28 rfl rfl rfl ?_
          refine Rn_st r_293_30 rfl rfl rfl ?_
          refine Rn_st (L' := [(1, x), (9, 0), (1, y), (9, 0), (0, w), (1, B), (9, 0), (1, B), (9, 0), (0, (s : Int)), (1, A.tmod B), (9, 0)]) (S' := []) r_293_32 rfl rfl rfl ?_
          refine Rn_st r_293_34 rfl rfl rfl ?_
          refine Rn_st (L' := [(1, x), (9, 0), (1, y), (9, 0), (0, w), (1, B), (9, 0), (1, A.tmod B), (9, 0), (0, (s : Int)), (1, A.tmod B), (9, 0)]) (S' := []) r_293_36 rfl rfl rfl ?_
          refine Rn_st (L' := [(1, x), (9, 0), (1, y), (9, 0), (0, w), (1, B), (9, 0), (1, A.tmod B), (9, 0), (0, w32 (((s : Int)) + 1)), (1, A.tmod B), (9, 0)]) (S' := []) r_293_38 rfl rfl rfl ?_
          rw [show w32 ((s : Int) + 1) = ((s + 1 : Nat) : Int) from by rw [w32_id ⟨by omega, by omega⟩]; omega]
          refine Rn_st r_293_41 rfl rfl rfl ?_
          exact h
theorem h_293 {T : List Kd} : ConH T (293, [q64, q64, q32], q64, [], 1) := by
  intro args m h hm
  obtain ⟨a, l, rfl, h0, h⟩ := F2_cons h
  obtain ⟨b, l, rfl, h1, h⟩ := F2_cons h
  obtain ⟨c, l, rfl, h2, h⟩ := F2_cons h
  obtain rfl := F2_nil h
  obtain ⟨x, rfl, hx⟩ := gq_l h0
  obtain ⟨y, rfl, hy⟩ := gq_l h1
  obtain ⟨w, rfl, -⟩ := gq_i h2
  obtain ⟨z, hz, hr⟩ := lw_head (d := 1) (sh := T) (m := m) (w := w) (x := x) (y := y) hx hy 100 0 x y (9, 0) (9, 0) (by decide) hx hy
  refine ⟨(1, z), m, ?_, ?_, hm, Fr_rf⟩
  · show Rn 1 293 0 [(1, x), (9, 0), (1, y), (9, 0), (0, w), (9, 0), (9, 0), (9, 0), (9, 0), (9, 0), (9, 0), (9, 0)] [] T m ((1, z), T, m)
    refine Rn_st r_293_0 rfl rfl rfl ?_
    refine Rn_st (L' := [(1, x), (9, 0), (1, y), (9, 0), (0, w), (1, x), (9, 0), (9, 0), (9, 0), (9, 0), (9, 0), (9, 0)]) (S' := []) r_293_1 rfl rfl rfl ?_
    refine Rn_st r_293_3 rfl rfl rfl ?_
    refine Rn_st (L' := [(1, x), (9, 0), (1, y), (9, 0), (0, w), (1, x), (9, 0), (1, y), (9, 0), (9, 0), (9, 0), (9, 0)]) (S' := []) r_293_4 rfl rfl rfl ?_
    refine Rn_st r_293_6 rfl rfl rfl ?_
    refine Rn_st (L' := [(1, x), (9, 0), (1, y), (9, 0), (0, w), (1, x), (9, 0), (1, y), (9, 0), (0, 0), (9, 0), (9, 0)]) (S' := []) r_293_7 rfl rfl rfl ?_
    exact hr
  · unfold gR
    rw [if_neg (by decide)]
    exact ⟨by decide, q64_ok hz⟩
