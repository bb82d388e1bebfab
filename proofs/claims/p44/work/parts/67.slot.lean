/-! slots of the class: paste -/
theorem r_70_0 : row 70 0 = some (.iload_n 1, 1, 0, 0, 0, 0) := rfl
theorem r_70_1 : row 70 1 = some (.aload_n 0, 2, 0, 0, 0, 0) := rfl
theorem r_70_2 : row 70 2 = some (.getfield 72, 5, 9, 11, 2, 2169) := rfl
theorem r_70_5 : row 70 5 = some (.arraylength, 6, 0, 0, 0, 0) := rfl
theorem r_70_6 : row 70 6 = some (.invokestatic 126, 9, 71, 2, 0, 4020) := rfl
theorem r_70_9 : row 70 9 = some (.ifCond .eq 15, 12, 24, 0, 0, 0) := rfl
theorem r_70_12 : row 70 12 = some (.iload_n 3, 13, 0, 0, 0, 0) := rfl
theorem r_70_13 : row 70 13 = some (.aload_n 0, 14, 0, 0, 0, 0) := rfl
theorem r_70_14 : row 70 14 = some (.getfield 72, 17, 9, 11, 2, 2169) := rfl
theorem r_70_17 : row 70 17 = some (.arraylength, 18, 0, 0, 0, 0) := rfl
theorem r_70_18 : row 70 18 = some (.invokestatic 126, 21, 71, 2, 0, 4020) := rfl
theorem r_70_21 : row 70 21 = some (.ifCond .ne 6, 24, 27, 0, 0, 0) := rfl
theorem r_70_24 : row 70 24 = some (.bipush (-2), 26, (-2), 0, 0, 0) := rfl
theorem r_70_26 : row 70 26 = some (.ireturn, 27, 0, 0, 0, 0) := rfl
theorem r_70_27 : row 70 27 = some (.aload_n 0, 28, 0, 0, 0, 0) := rfl
theorem r_70_28 : row 70 28 = some (.getfield 72, 31, 9, 11, 2, 2169) := rfl
theorem r_70_31 : row 70 31 = some (.iload_n 1, 32, 0, 0, 0, 0) := rfl
theorem r_70_32 : row 70 32 = some (.aaload, 33, 0, 0, 0, 0) := rfl
theorem r_70_33 : row 70 33 = some (.astore 6, 35, 0, 0, 0, 0) := rfl
theorem r_70_35 : row 70 35 = some (.aload_n 0, 36, 0, 0, 0, 0) := rfl
theorem r_70_36 : row 70 36 = some (.getfield 72, 39, 9, 11, 2, 2169) := rfl
theorem r_70_39 : row 70 39 = some (.iload_n 3, 40, 0, 0, 0, 0) := rfl
theorem r_70_40 : row 70 40 = some (.aaload, 41, 0, 0, 0, 0) := rfl
theorem r_70_41 : row 70 41 = some (.astore 7, 43, 0, 0, 0, 0) := rfl
theorem r_70_43 : row 70 43 = some (.aload 6, 45, 0, 0, 0, 0) := rfl
theorem r_70_45 : row 70 45 = some (.getfield 357, 48, 6, 2, 10, 2147) := rfl
theorem r_70_48 : row 70 48 = some (.iconst (-1), 49, (-1), 0, 0, 0) := rfl
theorem r_70_49 : row 70 49 = some (.if_icmp .eq 12, 52, 61, 0, 0, 0) := rfl
theorem r_70_52 : row 70 52 = some (.aload 7, 54, 0, 0, 0, 0) := rfl
theorem r_70_54 : row 70 54 = some (.getfield 357, 57, 6, 2, 10, 2147) := rfl
theorem r_70_57 : row 70 57 = some (.iconst (-1), 58, (-1), 0, 0, 0) := rfl
theorem r_70_58 : row 70 58 = some (.if_icmp .ne 6, 61, 64, 0, 0, 0) := rfl
theorem r_70_61 : row 70 61 = some (.bipush (-6), 63, (-6), 0, 0, 0) := rfl
theorem r_70_63 : row 70 63 = some (.ireturn, 64, 0, 0, 0, 0) := rfl
theorem r_70_64 : row 70 64 = some (.aload 6, 66, 0, 0, 0, 0) := rfl
theorem r_70_66 : row 70 66 = some (.getfield 362, 69, 6, 1, 10, 2144) := rfl
theorem r_70_69 : row 70 69 = some (.aload 7, 71, 0, 0, 0, 0) := rfl
theorem r_70_71 : row 70 71 = some (.getfield 362, 74, 6, 1, 10, 2144) := rfl
theorem r_70_74 : row 70 74 = some (.if_icmp .eq 6, 77, 80, 0, 0, 0) := rfl
theorem r_70_77 : row 70 77 = some (.bipush (-8), 79, (-8), 0, 0, 0) := rfl
theorem r_70_79 : row 70 79 = some (.ireturn, 80, 0, 0, 0, 0) := rfl
theorem r_70_80 : row 70 80 = some (.aload 6, 82, 0, 0, 0, 0) := rfl
theorem r_70_82 : row 70 82 = some (.iload_n 2, 83, 0, 0, 0, 0) := rfl
theorem r_70_83 : row 70 83 = some (.iload 5, 85, 0, 0, 0, 0) := rfl
theorem r_70_85 : row 70 85 = some (.invokevirtual 365, 88, 286, 2, 10, 5231) := rfl
theorem r_70_88 : row 70 88 = some (.ifCond .eq 15, 91, 103, 0, 0, 0) := rfl
theorem r_70_91 : row 70 91 = some (.aload 7, 93, 0, 0, 0, 0) := rfl
theorem r_70_93 : row 70 93 = some (.iload 4, 95, 0, 0, 0, 0) := rfl
theorem r_70_95 : row 70 95 = some (.iload 5, 97, 0, 0, 0, 0) := rfl
theorem r_70_97 : row 70 97 = some (.invokevirtual 365, 100, 286, 2, 10, 5231) := rfl
theorem r_70_100 : row 70 100 = some (.ifCond .ne 6, 103, 106, 0, 0, 0) := rfl
theorem r_70_103 : row 70 103 = some (.bipush (-7), 105, (-7), 0, 0, 0) := rfl
theorem r_70_105 : row 70 105 = some (.ireturn, 106, 0, 0, 0, 0) := rfl
theorem r_70_106 : row 70 106 = some (.aload 6, 108, 0, 0, 0, 0) := rfl
theorem r_70_108 : row 70 108 = some (.getfield 368, 111, 6, 0, 12, 2142) := rfl
theorem r_70_111 : row 70 111 = some (.iload_n 2, 112, 0, 0, 0, 0) := rfl
theorem r_70_112 : row 70 112 = some (.aload 7, 114, 0, 0, 0, 0) := rfl
theorem r_70_114 : row 70 114 = some (.getfield 368, 117, 6, 0, 12, 2142) := rfl
theorem r_70_117 : row 70 117 = some (.iload 4, 119, 0, 0, 0, 0) := rfl
theorem r_70_119 : row 70 119 = some (.iload 5, 121, 0, 0, 0, 0) := rfl
theorem r_70_121 : row 70 121 = some (.invokestatic 372, 124, (-2), 5, 0, 5235) := rfl
theorem r_70_124 : row 70 124 = some (.iconst 0, 125, 0, 0, 0, 0) := rfl
theorem r_70_125 : row 70 125 = some (.ireturn, 126, 0, 0, 0, 0) := rfl
theorem r_286_0 : row 286 0 = some (.iload_n 1, 1, 0, 0, 0, 0) := rfl
theorem r_286_1 : row 286 1 = some (.ifCond .lt 21, 4, 22, 0, 0, 0) := rfl
theorem r_286_4 : row 286 4 = some (.iload_n 2, 5, 0, 0, 0, 0) := rfl
theorem r_286_5 : row 286 5 = some (.ifCond .lt 17, 8, 22, 0, 0, 0) := rfl
theorem r_286_8 : row 286 8 = some (.iload_n 1, 9, 0, 0, 0, 0) := rfl
theorem r_286_9 : row 286 9 = some (.aload_n 0, 10, 0, 0, 0, 0) := rfl
theorem r_286_10 : row 286 10 = some (.getfield 19, 13, 6, 2, 0, 2145) := rfl
theorem r_286_13 : row 286 13 = some (.iload_n 2, 14, 0, 0, 0, 0) := rfl
theorem r_286_14 : row 286 14 = some (.isub, 15, 0, 0, 0, 0) := rfl
theorem r_286_15 : row 286 15 = some (.if_icmp .gt 7, 18, 22, 0, 0, 0) := rfl
theorem r_286_18 : row 286 18 = some (.iconst 1, 19, 1, 0, 0, 0) := rfl
theorem r_286_19 : row 286 19 = some (.goto 4, 22, 23, 0, 0, 0) := rfl
theorem r_286_22 : row 286 22 = some (.iconst 0, 23, 0, 0, 0, 0) := rfl
theorem r_286_23 : row 286 23 = some (.ireturn, 24, 0, 0, 0, 0) := rfl
/-- an object of a slot -/
def SlO (s : Nat) : Prop := 0 < s ∧ s < 213 ∧ tyO s = 74
def NuO (s : Nat) : Prop := 0 < s ∧ s < 213 ∧ tyO s = 75
section SLOT
variable {T : List Kd} {m : Mm}
theorem so_T {s : Nat} (hT : TT T) (h : SlO s) : T[s]? = some (6, 3) := by
  rw [hT s h.1 h.2.1, h.2.2]; rfl
theorem nu_T {s : Nat} (hT : TT T) (h : NuO s) : T[s]? = some (101, 60) := by
  rw [hT s h.1 h.2.1, h.2.2]; rfl
theorem so_2 {s : Nat} (hm : Gam m) (h : SlO s) : -1 ≤ m s 2 ∧ m s 2 ≤ 60 := by
  have h1 := hm s h.1 h.2.1 2 (by rw [h.2.2]; decide)
  rw [h.2.2] at h1
  exact (gc_0 rfl).mp h1
theorem so_1 {s : Nat} (hm : Gam m) (h : SlO s) : -2147483648 ≤ m s 1 ∧ m s 1 ≤ 2147483647 := by
  have h1 := hm s h.1 h.2.1 1 (by rw [h.2.2]; decide)
  rw [h.2.2] at h1
  exact (gc_0 rfl).mp h1
theorem so_0 {s : Nat} (hm : Gam m) (h : SlO s) : ∃ f : Nat, m s 0 = (f : Int) ∧ NuO f := by
  have h1 := hm s h.1 h.2.1 0 (by rw [h.2.2]; decide)
  rw [h.2.2] at h1
  obtain ⟨a1, a2, a3⟩ := (gc_2 rfl).mp h1
  refine ⟨(m s 0).toNat, by omega, by omega, by omega, ?_⟩
  have a4 : (tyO (m s 0).toNat : Int) = 75 := a3
  omega
theorem so_e {i : Nat} (hm : Gam m) (hi : i < 4) : ∃ s : Nat, m 145 i = (s : Int) ∧ SlO s := by
  have h1 := hm 145 (by decide) (by decide) i (by show i < 4; exact hi)
  rw [cU_ok (show cU (tyO 145) = some (2, 74, 0) from rfl)] at h1
  obtain ⟨a1, a2, a3⟩ := (gc_2 rfl).mp h1
  refine ⟨(m 145 i).toNat, by omega, by omega, by omega, ?_⟩
  have a4 : (tyO (m 145 i).toNat : Int) = 74 := a3
  omega
theorem tk_145 (hT : TT T) : T[145]? = some (104, 4) := hT 145 (by decide) (by decide)
/-- a part of a row is put to another one -/
def cpy (m : Mm) (f g sp dp n : Nat) : Mm := fun p j => if p = g then (if dp ≤ j ∧ j < dp + n then m f (sp + (j - dp)) else m p j) else m p j
theorem Gam_cpy {f g sp dp n : Nat} (hm : Gam m) (hf : NuO f) (hg : NuO g) (h1 : sp + n ≤ 60) : Gam (cpy m f g sp dp n) := by
  intro o a1 a2 i hi
  unfold cpy
  by_cases e : o = g
  · rw [if_pos e]
    by_cases e2 : dp ≤ i ∧ i < dp + n
    · rw [if_pos e2]
      have h2 := hm f hf.1 hf.2.1 (sp + (i - dp)) (by rw [hf.2.2]; show sp + (i - dp) < 60; omega)
      rw [hf.2.2, cU_ok (show cU 75 = some (1, (-9223372036854775808), 9223372036854775807) from rfl)] at h2
      rw [e, hg.2.2, cU_ok (show cU 75 = some (1, (-9223372036854775808), 9223372036854775807) from rfl)]
      exact h2
    · rw [if_neg e2]; exact hm o a1 a2 i hi
  · rw [if_neg e]; exact hm o a1 a2 i hi
theorem Fr_cpy {f g sp dp n : Nat} (hg : NuO g) : Fr [75999] m (cpy m f g sp dp n) := by
  intro o i hw
  unfold cpy
  by_cases e : o = g
  · exfalso
    rw [e, hg.2.2, if_neg (show ¬ (tyK 75).1 < 100 by decide)] at hw
    exact absurd hw (by decide)
  · rw [if_neg e]
theorem spc_2 {nx : Nat} {a : Int} {L S : List AV} {f g sp dp n : Nat} (ha : a = -2) (hkf : T[f]? = some (101, 60)) (hkg : T[g]? = some (101, 60)) (hf : 0 < f) (hg : 0 < g) (h1 : sp + n ≤ 60) (h2 : dp + n ≤ 60) (hc : csum S ≤ 8) : spc nx a L ((0, (n : Int)) :: (0, (dp : Int)) :: (2, (g : Int)) :: (0, (sp : Int)) :: (2, (f : Int)) :: S) T m = some (nx, L, S, T, cpy m f g sp dp n) := by
  have e1 : pp 0 ((0, (n : Int)) :: (0, (dp : Int)) :: (2, (g : Int)) :: (0, (sp : Int)) :: (2, (f : Int)) :: S) = some ((n : Int), (0, (dp : Int)) :: (2, (g : Int)) :: (0, (sp : Int)) :: (2, (f : Int)) :: S) := rfl
  have e2 : pp 0 ((0, (dp : Int)) :: (2, (g : Int)) :: (0, (sp : Int)) :: (2, (f : Int)) :: S) = some ((dp : Int), (2, (g : Int)) :: (0, (sp : Int)) :: (2, (f : Int)) :: S) := rfl
  have e3 : pp 2 ((2, (g : Int)) :: (0, (sp : Int)) :: (2, (f : Int)) :: S) = some ((g : Int), (0, (sp : Int)) :: (2, (f : Int)) :: S) := rfl
  have e4 : pp 0 ((0, (sp : Int)) :: (2, (f : Int)) :: S) = some ((sp : Int), (2, (f : Int)) :: S) := rfl
  have e5 : pp 2 ((2, (f : Int)) :: S) = some ((f : Int), S) := rfl
  have e6 : T[(f : Int).toNat]? = some (101, 60) := hkf
  have e7 : T[(g : Int).toNat]? = some (101, 60) := hkg
  unfold spc
  rw [if_neg (by omega), if_pos ha, e1]
  simp only [Option.bind_eq_bind, Option.bind_some, e2, e3, e4, e5, e6, e7]
  rw [if_pos ⟨hc, by omega, by omega, trivial, Or.inr trivial, by omega, by omega, by omega, h1, h2⟩]
  rfl
theorem stp_is {ii nx b c w pc : Nat} {a : Int} {L S : List AV} (h : -5 ≤ a ∧ a ≤ -2) : stp pc (.invokestatic ii, nx, a, b, c, w) L S T m = spc nx a L S T m := if_pos h
theorem gx_cp {d j pc nx ii b c w : Nat} {L S : List AV} {Q : AV → Mm → Prop} {f g sp dp n : Nat} (hx : row j pc = some (.invokestatic ii, nx, -2, b, c, w)) (hkf : T[f]? = some (101, 60)) (hkg : T[g]? = some (101, 60)) (hf : 0 < f) (hg : 0 < g) (h1 : sp + n ≤ 60) (h2 : dp + n ≤ 60) (hc : csum S ≤ 8) (h : GX T d j nx L S (cpy m f g sp dp n) Q) : GX T d j pc L ((0, (n : Int)) :: (0, (dp : Int)) :: (2, (g : Int)) :: (0, (sp : Int)) :: (2, (f : Int)) :: S) m Q := by
  obtain ⟨v, mf, h, gq⟩ := h
  exact ⟨v, mf, Rn_step hx rfl rfl ((stp_is ⟨by decide, by decide⟩).trans (spc_2 rfl hkf hkg hf hg h1 h2 hc)) h, gq⟩
theorem x_71 (x b : Int) : GX T 0 71 0 [(0, x), (0, b)] [] m (RI (fun v m1 => v = (if 0 ≤ x ∧ x < b then 1 else 0) ∧ m1 = m)) := by
  refine gx_st (L' := [(0, x), (0, b)]) (S' := [(0, x)]) r_71_0 rfl rfl rfl ?_
  refine gx_i0 (P := x < 0) r_71_1 (rfl) (fun h1 => ?_) (fun h1 => ?_)
  · refine gx_st (L' := [(0, x), (0, b)]) (S' := [(0, 0)]) r_71_13 rfl rfl rfl ?_
    exact gx_rt r_71_14 rfl rfl ⟨_, rfl, ⟨by rw [if_neg (by omega)], rfl⟩⟩
  · refine gx_st (L' := [(0, x), (0, b)]) (S' := [(0, x)]) r_71_4 rfl rfl rfl ?_
    refine gx_st (L' := [(0, x), (0, b)]) (S' := [(0, b), (0, x)]) r_71_5 rfl rfl rfl ?_
    refine gx_ic (P := b ≤ x) r_71_6 (rfl) (fun h6 => ?_) (fun h6 => ?_)
    · refine gx_st (L' := [(0, x), (0, b)]) (S' := [(0, 0)]) r_71_13 rfl rfl rfl ?_
      exact gx_rt r_71_14 rfl rfl ⟨_, rfl, ⟨by rw [if_neg (by omega)], rfl⟩⟩
    · refine gx_st (L' := [(0, x), (0, b)]) (S' := [(0, 1)]) r_71_9 rfl rfl rfl ?_
      refine gx_st (L' := [(0, x), (0, b)]) (S' := [(0, 1)]) r_71_10 rfl rfl rfl ?_
      exact gx_rt r_71_14 rfl rfl ⟨_, rfl, ⟨by rw [if_pos (by omega)], rfl⟩⟩
theorem x_286 {s : Nat} (hT : TT T) (hm : Gam m) (hs : SlO s) (a n : Int) (hn : n ≤ 2147483647) : GX T 0 286 0 [(2, (s : Int)), (0, a), (0, n)] [] m (RI (fun v m1 => v = (if 0 ≤ a ∧ 0 ≤ n ∧ a ≤ m s 2 - n then 1 else 0) ∧ m1 = m)) := by
  refine gx_st (L' := [(2, (s : Int)), (0, a), (0, n)]) (S' := [(0, a)]) r_286_0 rfl rfl rfl ?_
  refine gx_i0 (P := a < 0) r_286_1 (rfl) (fun h1 => ?_) (fun h1 => ?_)
  · refine gx_st (L' := [(2, (s : Int)), (0, a), (0, n)]) (S' := [(0, 0)]) r_286_22 rfl rfl rfl ?_
    exact gx_rt r_286_23 rfl rfl ⟨_, rfl, ⟨by rw [if_neg (by omega)], rfl⟩⟩
  · refine gx_st (L' := [(2, (s : Int)), (0, a), (0, n)]) (S' := [(0, n)]) r_286_4 rfl rfl rfl ?_
    refine gx_i0 (P := n < 0) r_286_5 (rfl) (fun h5 => ?_) (fun h5 => ?_)
    · refine gx_st (L' := [(2, (s : Int)), (0, a), (0, n)]) (S' := [(0, 0)]) r_286_22 rfl rfl rfl ?_
      exact gx_rt r_286_23 rfl rfl ⟨_, rfl, ⟨by rw [if_neg (by omega)], rfl⟩⟩
    · refine gx_st (L' := [(2, (s : Int)), (0, a), (0, n)]) (S' := [(0, a)]) r_286_8 rfl rfl rfl ?_
      refine gx_st (L' := [(2, (s : Int)), (0, a), (0, n)]) (S' := [(2, (s : Int)), (0, a)]) r_286_9 rfl rfl rfl ?_
      have bs_2 := so_2 hm hs
      refine gx_gf (x := (m s 2)) 0 r_286_10 rfl (so_T hT hs) ⟨by have := hs.1; omega, rfl, by decide, by decide⟩ rfl (fun z => absurd z (by decide)) rfl ?_
      refine gx_st (L' := [(2, (s : Int)), (0, a), (0, n)]) (S' := [(0, n), (0, (m s 2)), (0, a)]) r_286_13 rfl rfl rfl ?_
      refine gx_ar (L' := [(2, (s : Int)), (0, a), (0, n)]) (S' := [(0, a)]) (t := 0) (e := w32 ((m s 2) - n)) (z := (m s 2) - n) r_286_14 rfl rfl rfl (w32_eq (by omega) (by omega) (by omega)) ?_
      refine gx_ic (P := (m s 2) - n < a) r_286_15 (rfl) (fun h15 => ?_) (fun h15 => ?_)
      · refine gx_st (L' := [(2, (s : Int)), (0, a), (0, n)]) (S' := [(0, 0)]) r_286_22 rfl rfl rfl ?_
        exact gx_rt r_286_23 rfl rfl ⟨_, rfl, ⟨by rw [if_neg (by omega)], rfl⟩⟩
      · refine gx_st (L' := [(2, (s : Int)), (0, a), (0, n)]) (S' := [(0, 1)]) r_286_18 rfl rfl rfl ?_
        refine gx_st (L' := [(2, (s : Int)), (0, a), (0, n)]) (S' := [(0, 1)]) r_286_19 rfl rfl rfl ?_
        exact gx_rt r_286_23 rfl rfl ⟨_, rfl, ⟨by rw [if_pos (by omega)], rfl⟩⟩
theorem x_70 (hT : TT T) (hm : Gam m) {a b c e f : Int} (hf : f ≤ 2147483647) : GX T 3 70 0 [(2, 1), (0, a), (0, b), (0, c), (0, e), (0, f), (9, 0), (9, 0)] [] m (RI (fun v m1 => ((¬ (0 ≤ a ∧ a < 4) ∨ ¬ (0 ≤ c ∧ c < 4) → v = -2) ∧ (∀ i j s t : Nat, i < 4 → j < 4 → a = (i : Int) → c = (j : Int) → m 145 i = (s : Int) → m 145 j = (t : Int) → PstV (m s 2) (m t 2) (m s 1) (m t 1) b e f v)) ∧ Gam m1 ∧ Fr [75999] m m1)) := by
  refine gx_st (L' := [(2, 1), (0, a), (0, b), (0, c), (0, e), (0, f), (9, 0), (9, 0)]) (S' := [(0, a)]) r_70_0 rfl rfl rfl ?_
  refine gx_st (L' := [(2, 1), (0, a), (0, b), (0, c), (0, e), (0, f), (9, 0), (9, 0)]) (S' := [(2, 1), (0, a)]) r_70_1 rfl rfl rfl ?_
  refine gx_gf (x := 145) 2 r_70_2 rfl (tk_1 hT) ⟨by decide, rfl, by decide, by decide⟩ rfl (fun _ => by decide) (pr_1_11 hm) ?_
  refine gx_al r_70_5 rfl (tk_145 hT) ⟨by decide, by decide, by decide⟩ ?_
  show GX T 3 70 6 [(2, 1), (0, a), (0, b), (0, c), (0, e), (0, f), (9, 0), (9, 0)] [(0, 4), (0, a)] m (RI (fun v m1 => ((¬ (0 ≤ a ∧ a < 4) ∨ ¬ (0 ≤ c ∧ c < 4) → v = -2) ∧ (∀ i j s t : Nat, i < 4 → j < 4 → a = (i : Int) → c = (j : Int) → m 145 i = (s : Int) → m 145 j = (t : Int) → PstV (m s 2) (m t 2) (m s 1) (m t 1) b e f v)) ∧ Gam m1 ∧ Fr [75999] m m1))
  refine gx_ci (nx := 9) (S2 := []) (x_71 a 4) r_70_6 rfl rfl rfl rfl rfl rfl rfl (by decide) rfl (fun x6 n6 q6 => ?_)
  obtain rfl := q6.1.symm
  obtain rfl := q6.2.symm
  show GX T 3 70 9 [(2, 1), (0, a), (0, b), (0, c), (0, e), (0, f), (9, 0), (9, 0)] [(0, (if 0 ≤ a ∧ a < 4 then 1 else 0))] m (RI (fun v m1 => ((¬ (0 ≤ a ∧ a < 4) ∨ ¬ (0 ≤ c ∧ c < 4) → v = -2) ∧ (∀ i j s t : Nat, i < 4 → j < 4 → a = (i : Int) → c = (j : Int) → m 145 i = (s : Int) → m 145 j = (t : Int) → PstV (m s 2) (m t 2) (m s 1) (m t 1) b e f v)) ∧ Gam m1 ∧ Fr [75999] m m1))
  refine gx_i0 (P := ¬ (0 ≤ a ∧ a < 4)) r_70_9 (b01_eq) (fun h9 => ?_) (fun h9 => ?_)
  · refine gx_st (L' := [(2, 1), (0, a), (0, b), (0, c), (0, e), (0, f), (9, 0), (9, 0)]) (S' := [(0, (-2))]) r_70_24 rfl rfl rfl ?_
    exact gx_rt r_70_26 rfl rfl ⟨_, rfl, ⟨fun _ => rfl, fun i j s t h1 h2 h3 h4 => by omega⟩, hm, Fr_rf⟩
  · have h9 := Decidable.not_not.mp h9
    refine gx_st (L' := [(2, 1), (0, a), (0, b), (0, c), (0, e), (0, f), (9, 0), (9, 0)]) (S' := [(0, c)]) r_70_12 rfl rfl rfl ?_
    refine gx_st (L' := [(2, 1), (0, a), (0, b), (0, c), (0, e), (0, f), (9, 0), (9, 0)]) (S' := [(2, 1), (0, c)]) r_70_13 rfl rfl rfl ?_
    refine gx_gf (x := 145) 2 r_70_14 rfl (tk_1 hT) ⟨by decide, rfl, by decide, by decide⟩ rfl (fun _ => by decide) (pr_1_11 hm) ?_
    refine gx_al r_70_17 rfl (tk_145 hT) ⟨by decide, by decide, by decide⟩ ?_
    show GX T 3 70 18 [(2, 1), (0, a), (0, b), (0, c), (0, e), (0, f), (9, 0), (9, 0)] [(0, 4), (0, c)] m (RI (fun v m1 => ((¬ (0 ≤ a ∧ a < 4) ∨ ¬ (0 ≤ c ∧ c < 4) → v = -2) ∧ (∀ i j s t : Nat, i < 4 → j < 4 → a = (i : Int) → c = (j : Int) → m 145 i = (s : Int) → m 145 j = (t : Int) → PstV (m s 2) (m t 2) (m s 1) (m t 1) b e f v)) ∧ Gam m1 ∧ Fr [75999] m m1))
    refine gx_ci (nx := 21) (S2 := []) (x_71 c 4) r_70_18 rfl rfl rfl rfl rfl rfl rfl (by decide) rfl (fun x18 n18 q18 => ?_)
    obtain rfl := q18.1.symm
    obtain rfl := q18.2.symm
    show GX T 3 70 21 [(2, 1), (0, a), (0, b), (0, c), (0, e), (0, f), (9, 0), (9, 0)] [(0, (if 0 ≤ c ∧ c < 4 then 1 else 0))] m (RI (fun v m1 => ((¬ (0 ≤ a ∧ a < 4) ∨ ¬ (0 ≤ c ∧ c < 4) → v = -2) ∧ (∀ i j s t : Nat, i < 4 → j < 4 → a = (i : Int) → c = (j : Int) → m 145 i = (s : Int) → m 145 j = (t : Int) → PstV (m s 2) (m t 2) (m s 1) (m t 1) b e f v)) ∧ Gam m1 ∧ Fr [75999] m m1))
    refine gx_i0 (P := 0 ≤ c ∧ c < 4) r_70_21 (b01_ne) (fun h21 => ?_) (fun h21 => ?_)
    · obtain ⟨i, hia⟩ : ∃ i : Nat, a = (i : Int) := ⟨a.toNat, by omega⟩
      obtain ⟨j, hjc⟩ : ∃ j : Nat, c = (j : Int) := ⟨c.toNat, by omega⟩
      have hi : i < 4 := by omega
      have hj : j < 4 := by omega
      obtain ⟨s, e_s, hs⟩ := so_e hm hi
      obtain ⟨t, e_t, ht⟩ := so_e hm hj
      have bs2 := so_2 hm hs
      have bt2 := so_2 hm ht
      rw [hia, hjc]
      refine gx_st (L' := [(2, 1), (0, (i : Int)), (0, b), (0, (j : Int)), (0, e), (0, f), (9, 0), (9, 0)]) (S' := [(2, 1)]) r_70_27 rfl rfl rfl ?_
      refine gx_gf (x := 145) 2 r_70_28 rfl (tk_1 hT) ⟨by decide, rfl, by decide, by decide⟩ rfl (fun _ => by decide) (pr_1_11 hm) ?_
      refine gx_st (L' := [(2, 1), (0, (i : Int)), (0, b), (0, (j : Int)), (0, e), (0, f), (9, 0), (9, 0)]) (S' := [(0, (i : Int)), (2, 145)]) r_70_31 rfl rfl rfl ?_
      refine gx_aa (n := i) (x := (s : Int)) r_70_32 rfl (by decide) (tk_145 hT) (by omega) ⟨by decide, by decide, by omega⟩ e_s (by omega) ?_
      refine gx_st (L' := [(2, 1), (0, (i : Int)), (0, b), (0, (j : Int)), (0, e), (0, f), (2, (s : Int)), (9, 0)]) (S' := []) r_70_33 rfl rfl rfl ?_
      refine gx_st (L' := [(2, 1), (0, (i : Int)), (0, b), (0, (j : Int)), (0, e), (0, f), (2, (s : Int)), (9, 0)]) (S' := [(2, 1)]) r_70_35 rfl rfl rfl ?_
      refine gx_gf (x := 145) 2 r_70_36 rfl (tk_1 hT) ⟨by decide, rfl, by decide, by decide⟩ rfl (fun _ => by decide) (pr_1_11 hm) ?_
      refine gx_st (L' := [(2, 1), (0, (i : Int)), (0, b), (0, (j : Int)), (0, e), (0, f), (2, (s : Int)), (9, 0)]) (S' := [(0, (j : Int)), (2, 145)]) r_70_39 rfl rfl rfl ?_
      refine gx_aa (n := j) (x := (t : Int)) r_70_40 rfl (by decide) (tk_145 hT) (by omega) ⟨by decide, by decide, by omega⟩ e_t (by omega) ?_
      refine gx_st (L' := [(2, 1), (0, (i : Int)), (0, b), (0, (j : Int)), (0, e), (0, f), (2, (s : Int)), (2, (t : Int))]) (S' := []) r_70_41 rfl rfl rfl ?_
      refine gx_st (L' := [(2, 1), (0, (i : Int)), (0, b), (0, (j : Int)), (0, e), (0, f), (2, (s : Int)), (2, (t : Int))]) (S' := [(2, (s : Int))]) r_70_43 rfl rfl rfl ?_
      refine gx_gf (x := (m s 2)) 0 r_70_45 rfl (so_T hT hs) ⟨by have := hs.1; omega, rfl, by decide, by decide⟩ rfl (fun z => absurd z (by decide)) rfl ?_
      refine gx_st (L' := [(2, 1), (0, (i : Int)), (0, b), (0, (j : Int)), (0, e), (0, f), (2, (s : Int)), (2, (t : Int))]) (S' := [(0, (-1)), (0, (m s 2))]) r_70_48 rfl rfl rfl ?_
      refine gx_ic (P := (m s 2) = (-1)) r_70_49 (rfl) (fun h49 => ?_) (fun h49 => ?_)
      · refine gx_st (L' := [(2, 1), (0, (i : Int)), (0, b), (0, (j : Int)), (0, e), (0, f), (2, (s : Int)), (2, (t : Int))]) (S' := [(0, (-6))]) r_70_61 rfl rfl rfl ?_
        refine gx_rt r_70_63 rfl rfl ⟨_, rfl, ⟨fun z => by omega, fun i2 j2 s2 t2 h1 h2 h3 h4 h5_ h6_ => ?_⟩, hm, Fr_rf⟩
        have hii : i2 = i := by omega
        have hjj : j2 = j := by omega
        rw [hii] at h5_
        rw [hjj] at h6_
        have hss : s2 = s := by omega
        have htt : t2 = t := by omega
        rw [hss, htt]
        unfold PstV
        refine ⟨fun y => ?_, fun y => ⟨fun y2 => ?_, fun y2 => ⟨fun y3 => ?_, fun y3 => ?_⟩⟩⟩ <;> omega
      · refine gx_st (L' := [(2, 1), (0, (i : Int)), (0, b), (0, (j : Int)), (0, e), (0, f), (2, (s : Int)), (2, (t : Int))]) (S' := [(2, (t : Int))]) r_70_52 rfl rfl rfl ?_
        refine gx_gf (x := (m t 2)) 0 r_70_54 rfl (so_T hT ht) ⟨by have := ht.1; omega, rfl, by decide, by decide⟩ rfl (fun z => absurd z (by decide)) rfl ?_
        refine gx_st (L' := [(2, 1), (0, (i : Int)), (0, b), (0, (j : Int)), (0, e), (0, f), (2, (s : Int)), (2, (t : Int))]) (S' := [(0, (-1)), (0, (m t 2))]) r_70_57 rfl rfl rfl ?_
        refine gx_ic (P := ¬ (m t 2) = (-1)) r_70_58 (rfl) (fun h58 => ?_) (fun h58 => ?_)
        · refine gx_st (L' := [(2, 1), (0, (i : Int)), (0, b), (0, (j : Int)), (0, e), (0, f), (2, (s : Int)), (2, (t : Int))]) (S' := [(2, (s : Int))]) r_70_64 rfl rfl rfl ?_
          have bs_1 := so_1 hm hs
          refine gx_gf (x := (m s 1)) 0 r_70_66 rfl (so_T hT hs) ⟨by have := hs.1; omega, rfl, by decide, by decide⟩ rfl (fun z => absurd z (by decide)) rfl ?_
          refine gx_st (L' := [(2, 1), (0, (i : Int)), (0, b), (0, (j : Int)), (0, e), (0, f), (2, (s : Int)), (2, (t : Int))]) (S' := [(2, (t : Int)), (0, (m s 1))]) r_70_69 rfl rfl rfl ?_
          have bt_1 := so_1 hm ht
          refine gx_gf (x := (m t 1)) 0 r_70_71 rfl (so_T hT ht) ⟨by have := ht.1; omega, rfl, by decide, by decide⟩ rfl (fun z => absurd z (by decide)) rfl ?_
          refine gx_ic (P := (m s 1) = (m t 1)) r_70_74 (rfl) (fun h74 => ?_) (fun h74 => ?_)
          · refine gx_st (L' := [(2, 1), (0, (i : Int)), (0, b), (0, (j : Int)), (0, e), (0, f), (2, (s : Int)), (2, (t : Int))]) (S' := [(2, (s : Int))]) r_70_80 rfl rfl rfl ?_
            refine gx_st (L' := [(2, 1), (0, (i : Int)), (0, b), (0, (j : Int)), (0, e), (0, f), (2, (s : Int)), (2, (t : Int))]) (S' := [(0, b), (2, (s : Int))]) r_70_82 rfl rfl rfl ?_
            refine gx_st (L' := [(2, 1), (0, (i : Int)), (0, b), (0, (j : Int)), (0, e), (0, f), (2, (s : Int)), (2, (t : Int))]) (S' := [(0, f), (0, b), (2, (s : Int))]) r_70_83 rfl rfl rfl ?_
            refine gx_ci (nx := 88) (S2 := []) (x_286 hT hm hs b f (by omega)) r_70_85 rfl rfl rfl rfl rfl (rcv_v rfl (so_T hT hs) (by have := hs.1; omega) rfl (by decide)) rfl (by decide) rfl (fun x85 n85 q85 => ?_)
            obtain rfl := q85.1.symm
            obtain rfl := q85.2.symm
            refine gx_i0 (P := ¬ (0 ≤ b ∧ 0 ≤ f ∧ b ≤ m s 2 - f)) r_70_88 (b01_eq) (fun h88 => ?_) (fun h88 => ?_)
            · refine gx_st (L' := [(2, 1), (0, (i : Int)), (0, b), (0, (j : Int)), (0, e), (0, f), (2, (s : Int)), (2, (t : Int))]) (S' := [(0, (-7))]) r_70_103 rfl rfl rfl ?_
              refine gx_rt r_70_105 rfl rfl ⟨_, rfl, ⟨fun z => by omega, fun i2 j2 s2 t2 h1 h2 h3 h4 h5_ h6_ => ?_⟩, hm, Fr_rf⟩
              have hii : i2 = i := by omega
              have hjj : j2 = j := by omega
              rw [hii] at h5_
              rw [hjj] at h6_
              have hss : s2 = s := by omega
              have htt : t2 = t := by omega
              rw [hss, htt]
              unfold PstV
              refine ⟨fun y => ?_, fun y => ⟨fun y2 => ?_, fun y2 => ⟨fun y3 => ?_, fun y3 => ?_⟩⟩⟩ <;> omega
            · have h88 := Decidable.not_not.mp h88
              refine gx_st (L' := [(2, 1), (0, (i : Int)), (0, b), (0, (j : Int)), (0, e), (0, f), (2, (s : Int)), (2, (t : Int))]) (S' := [(2, (t : Int))]) r_70_91 rfl rfl rfl ?_
              refine gx_st (L' := [(2, 1), (0, (i : Int)), (0, b), (0, (j : Int)), (0, e), (0, f), (2, (s : Int)), (2, (t : Int))]) (S' := [(0, e), (2, (t : Int))]) r_70_93 rfl rfl rfl ?_
              refine gx_st (L' := [(2, 1), (0, (i : Int)), (0, b), (0, (j : Int)), (0, e), (0, f), (2, (s : Int)), (2, (t : Int))]) (S' := [(0, f), (0, e), (2, (t : Int))]) r_70_95 rfl rfl rfl ?_
              refine gx_ci (nx := 100) (S2 := []) (x_286 hT hm ht e f (by omega)) r_70_97 rfl rfl rfl rfl rfl (rcv_v rfl (so_T hT ht) (by have := ht.1; omega) rfl (by decide)) rfl (by decide) rfl (fun x97 n97 q97 => ?_)
              obtain rfl := q97.1.symm
              obtain rfl := q97.2.symm
              refine gx_i0 (P := 0 ≤ e ∧ 0 ≤ f ∧ e ≤ m t 2 - f) r_70_100 (b01_ne) (fun h100 => ?_) (fun h100 => ?_)
              · refine gx_st (L' := [(2, 1), (0, (i : Int)), (0, b), (0, (j : Int)), (0, e), (0, f), (2, (s : Int)), (2, (t : Int))]) (S' := [(2, (s : Int))]) r_70_106 rfl rfl rfl ?_
                obtain ⟨fs, e_fs, n_fs⟩ := so_0 hm hs
                refine gx_gf (x := (fs : Int)) 2 r_70_108 rfl (so_T hT hs) ⟨by have := hs.1; omega, rfl, by decide, by decide⟩ rfl (fun _ => by omega) e_fs ?_
                refine gx_st (L' := [(2, 1), (0, (i : Int)), (0, b), (0, (j : Int)), (0, e), (0, f), (2, (s : Int)), (2, (t : Int))]) (S' := [(0, b), (2, (fs : Int))]) r_70_111 rfl rfl rfl ?_
                refine gx_st (L' := [(2, 1), (0, (i : Int)), (0, b), (0, (j : Int)), (0, e), (0, f), (2, (s : Int)), (2, (t : Int))]) (S' := [(2, (t : Int)), (0, b), (2, (fs : Int))]) r_70_112 rfl rfl rfl ?_
                obtain ⟨ft, e_ft, n_ft⟩ := so_0 hm ht
                refine gx_gf (x := (ft : Int)) 2 r_70_114 rfl (so_T hT ht) ⟨by have := ht.1; omega, rfl, by decide, by decide⟩ rfl (fun _ => by omega) e_ft ?_
                refine gx_st (L' := [(2, 1), (0, (i : Int)), (0, b), (0, (j : Int)), (0, e), (0, f), (2, (s : Int)), (2, (t : Int))]) (S' := [(0, e), (2, (ft : Int)), (0, b), (2, (fs : Int))]) r_70_117 rfl rfl rfl ?_
                refine gx_st (L' := [(2, 1), (0, (i : Int)), (0, b), (0, (j : Int)), (0, e), (0, f), (2, (s : Int)), (2, (t : Int))]) (S' := [(0, f), (0, e), (2, (ft : Int)), (0, b), (2, (fs : Int))]) r_70_119 rfl rfl rfl ?_
                obtain ⟨sp, hsp⟩ : ∃ n : Nat, b = (n : Int) := ⟨b.toNat, by omega⟩
                obtain ⟨dp, hdp⟩ : ∃ n : Nat, e = (n : Int) := ⟨e.toNat, by omega⟩
                obtain ⟨n, hn⟩ : ∃ n : Nat, f = (n : Int) := ⟨f.toNat, by omega⟩
                rw [hsp, hdp, hn]
                refine gx_cp (f := fs) (g := ft) r_70_121 (nu_T hT n_fs) (nu_T hT n_ft) n_fs.1 n_ft.1 (by omega) (by omega) (Nat.le_of_ble_eq_true rfl) ?_
                refine gx_st (L' := [(2, 1), (0, (i : Int)), (0, (sp : Int)), (0, (j : Int)), (0, (dp : Int)), (0, (n : Int)), (2, (s : Int)), (2, (t : Int))]) (S' := [(0, 0)]) r_70_124 rfl rfl rfl ?_
                refine gx_rt r_70_125 rfl rfl ⟨_, rfl, ⟨fun z => by omega, fun i2 j2 s2 t2 h1 h2 h3 h4 h5_ h6_ => ?_⟩, Gam_cpy hm n_fs n_ft (by omega), Fr_cpy n_ft⟩
                have hii : i2 = i := by omega
                have hjj : j2 = j := by omega
                rw [hii] at h5_
                rw [hjj] at h6_
                have hss : s2 = s := by omega
                have htt : t2 = t := by omega
                rw [hss, htt]
                unfold PstV
                refine ⟨fun y => ?_, fun y => ⟨fun y2 => ?_, fun y2 => ⟨fun y3 => ?_, fun y3 => ?_⟩⟩⟩ <;> omega
              · refine gx_st (L' := [(2, 1), (0, (i : Int)), (0, b), (0, (j : Int)), (0, e), (0, f), (2, (s : Int)), (2, (t : Int))]) (S' := [(0, (-7))]) r_70_103 rfl rfl rfl ?_
                refine gx_rt r_70_105 rfl rfl ⟨_, rfl, ⟨fun z => by omega, fun i2 j2 s2 t2 h1 h2 h3 h4 h5_ h6_ => ?_⟩, hm, Fr_rf⟩
                have hii : i2 = i := by omega
                have hjj : j2 = j := by omega
                rw [hii] at h5_
                rw [hjj] at h6_
                have hss : s2 = s := by omega
                have htt : t2 = t := by omega
                rw [hss, htt]
                unfold PstV
                refine ⟨fun y => ?_, fun y => ⟨fun y2 => ?_, fun y2 => ⟨fun y3 => ?_, fun y3 => ?_⟩⟩⟩ <;> omega
          · refine gx_st (L' := [(2, 1), (0, (i : Int)), (0, b), (0, (j : Int)), (0, e), (0, f), (2, (s : Int)), (2, (t : Int))]) (S' := [(0, (-8))]) r_70_77 rfl rfl rfl ?_
            refine gx_rt r_70_79 rfl rfl ⟨_, rfl, ⟨fun z => by omega, fun i2 j2 s2 t2 h1 h2 h3 h4 h5_ h6_ => ?_⟩, hm, Fr_rf⟩
            have hii : i2 = i := by omega
            have hjj : j2 = j := by omega
            rw [hii] at h5_
            rw [hjj] at h6_
            have hss : s2 = s := by omega
            have htt : t2 = t := by omega
            rw [hss, htt]
            unfold PstV
            refine ⟨fun y => ?_, fun y => ⟨fun y2 => ?_, fun y2 => ⟨fun y3 => ?_, fun y3 => ?_⟩⟩⟩ <;> omega
        · have h58 := Decidable.not_not.mp h58
          refine gx_st (L' := [(2, 1), (0, (i : Int)), (0, b), (0, (j : Int)), (0, e), (0, f), (2, (s : Int)), (2, (t : Int))]) (S' := [(0, (-6))]) r_70_61 rfl rfl rfl ?_
          refine gx_rt r_70_63 rfl rfl ⟨_, rfl, ⟨fun z => by omega, fun i2 j2 s2 t2 h1 h2 h3 h4 h5_ h6_ => ?_⟩, hm, Fr_rf⟩
          have hii : i2 = i := by omega
          have hjj : j2 = j := by omega
          rw [hii] at h5_
          rw [hjj] at h6_
          have hss : s2 = s := by omega
          have htt : t2 = t := by omega
          rw [hss, htt]
          unfold PstV
          refine ⟨fun y => ?_, fun y => ⟨fun y2 => ?_, fun y2 => ⟨fun y3 => ?_, fun y3 => ?_⟩⟩⟩ <;> omega
    · refine gx_st (L' := [(2, 1), (0, a), (0, b), (0, c), (0, e), (0, f), (9, 0), (9, 0)]) (S' := [(0, (-2))]) r_70_24 rfl rfl rfl ?_
      exact gx_rt r_70_26 rfl rfl ⟨_, rfl, ⟨fun _ => rfl, fun i j s t h1 h2 h3 h4 => by omega⟩, hm, Fr_rf⟩
end SLOT
