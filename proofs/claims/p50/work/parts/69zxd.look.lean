/-! ask of the class, from its beginning -/
theorem r_49_0 : row 49 0 = some (.aload_n 0, 1, 0, 0, 0, 0) := rfl
theorem r_49_1 : row 49 1 = some (.iload_n 1, 2, 0, 0, 0, 0) := rfl
theorem r_49_2 : row 49 2 = some (.invokevirtual 286, 5, 83, 1, 0, 5040) := rfl
theorem r_49_5 : row 49 5 = some (.istore_n 2, 6, 0, 0, 0, 0) := rfl
theorem r_49_6 : row 49 6 = some (.iload_n 2, 7, 0, 0, 0, 0) := rfl
theorem r_49_7 : row 49 7 = some (.ifCond .ne 20, 10, 27, 0, 0, 0) := rfl
theorem r_49_10 : row 49 10 = some (.aload_n 0, 11, 0, 0, 0, 0) := rfl
theorem r_49_11 : row 49 11 = some (.getfield 59, 14, 9, 9, 2, 2167) := rfl
theorem r_49_14 : row 49 14 = some (.aload_n 0, 15, 0, 0, 0, 0) := rfl
theorem r_49_15 : row 49 15 = some (.getfield 19, 18, 9, 1, 2, 2159) := rfl
theorem r_49_18 : row 49 18 = some (.getfield 123, 21, 3, 6, 10, 1093) := rfl
theorem r_49_21 : row 49 21 = some (.invokevirtual 298, 24, 280, 1, 10, 5078) := rfl
theorem r_49_24 : row 49 24 = some (.goto 4, 27, 28, 0, 0, 0) := rfl
theorem r_49_27 : row 49 27 = some (.iload_n 2, 28, 0, 0, 0, 0) := rfl
theorem r_49_28 : row 49 28 = some (.ireturn, 29, 0, 0, 0, 0) := rfl
theorem r_83_0 : row 83 0 = some (.aload_n 0, 1, 0, 0, 0, 0) := rfl
theorem r_83_1 : row 83 1 = some (.getfield 19, 4, 9, 1, 2, 2159) := rfl
theorem r_83_4 : row 83 4 = some (.invokevirtual 162, 7, 252, 0, 10, 4036) := rfl
theorem r_83_7 : row 83 7 = some (.ifCond .eq 15, 10, 22, 0, 0, 0) := rfl
theorem r_83_10 : row 83 10 = some (.iload_n 1, 11, 0, 0, 0, 0) := rfl
theorem r_83_11 : row 83 11 = some (.aload_n 0, 12, 0, 0, 0, 0) := rfl
theorem r_83_12 : row 83 12 = some (.getfield 72, 15, 9, 11, 2, 2169) := rfl
theorem r_83_15 : row 83 15 = some (.arraylength, 16, 0, 0, 0, 0) := rfl
theorem r_83_16 : row 83 16 = some (.invokestatic 126, 19, 71, 2, 0, 4020) := rfl
theorem r_83_19 : row 83 19 = some (.ifCond .ne 6, 22, 25, 0, 0, 0) := rfl
theorem r_83_22 : row 83 22 = some (.bipush (-2), 24, (-2), 0, 0, 0) := rfl
theorem r_83_24 : row 83 24 = some (.ireturn, 25, 0, 0, 0, 0) := rfl
theorem r_83_25 : row 83 25 = some (.aload_n 0, 26, 0, 0, 0, 0) := rfl
theorem r_83_26 : row 83 26 = some (.getfield 72, 29, 9, 11, 2, 2169) := rfl
theorem r_83_29 : row 83 29 = some (.iload_n 1, 30, 0, 0, 0, 0) := rfl
theorem r_83_30 : row 83 30 = some (.aaload, 31, 0, 0, 0, 0) := rfl
theorem r_83_31 : row 83 31 = some (.astore_n 2, 32, 0, 0, 0, 0) := rfl
theorem r_83_32 : row 83 32 = some (.aload_n 2, 33, 0, 0, 0, 0) := rfl
theorem r_83_33 : row 83 33 = some (.getfield 357, 36, 6, 2, 10, 2147) := rfl
theorem r_83_36 : row 83 36 = some (.iconst (-1), 37, (-1), 0, 0, 0) := rfl
theorem r_83_37 : row 83 37 = some (.if_icmp .ne 6, 40, 43, 0, 0, 0) := rfl
theorem r_83_40 : row 83 40 = some (.bipush (-6), 42, (-6), 0, 0, 0) := rfl
theorem r_83_42 : row 83 42 = some (.ireturn, 43, 0, 0, 0, 0) := rfl
theorem r_83_43 : row 83 43 = some (.aload_n 0, 44, 0, 0, 0, 0) := rfl
theorem r_83_44 : row 83 44 = some (.getfield 59, 47, 9, 9, 2, 2167) := rfl
theorem r_83_47 : row 83 47 = some (.aload_n 0, 48, 0, 0, 0, 0) := rfl
theorem r_83_48 : row 83 48 = some (.getfield 19, 51, 9, 1, 2, 2159) := rfl
theorem r_83_51 : row 83 51 = some (.aload_n 2, 52, 0, 0, 0, 0) := rfl
theorem r_83_52 : row 83 52 = some (.invokevirtual 390, 55, 275, 2, 10, 5044) := rfl
theorem r_83_55 : row 83 55 = some (.ifCond .ne 6, 58, 61, 0, 0, 0) := rfl
theorem r_83_58 : row 83 58 = some (.bipush (-2), 60, (-2), 0, 0, 0) := rfl
theorem r_83_60 : row 83 60 = some (.ireturn, 61, 0, 0, 0, 0) := rfl
theorem r_83_61 : row 83 61 = some (.aload_n 0, 62, 0, 0, 0, 0) := rfl
theorem r_83_62 : row 83 62 = some (.getfield 59, 65, 9, 9, 2, 2167) := rfl
theorem r_83_65 : row 83 65 = some (.invokevirtual 394, 68, 276, 0, 10, 5052) := rfl
theorem r_83_68 : row 83 68 = some (.aload_n 0, 69, 0, 0, 0, 0) := rfl
theorem r_83_69 : row 83 69 = some (.getfield 19, 72, 9, 1, 2, 2159) := rfl
theorem r_83_72 : row 83 72 = some (.getfield 152, 75, 3, 8, 10, 1101) := rfl
theorem r_83_75 : row 83 75 = some (.ifCond .ne 7, 78, 82, 0, 0, 0) := rfl
theorem r_83_78 : row 83 78 = some (.iconst 0, 79, 0, 0, 0, 0) := rfl
theorem r_83_79 : row 83 79 = some (.goto 10, 82, 89, 0, 0, 0) := rfl
theorem r_83_82 : row 83 82 = some (.aload_n 0, 83, 0, 0, 0, 0) := rfl
theorem r_83_83 : row 83 83 = some (.getfield 19, 86, 9, 1, 2, 2159) := rfl
theorem r_83_86 : row 83 86 = some (.getfield 284, 89, 3, 1, 10, 1072) := rfl
theorem r_83_89 : row 83 89 = some (.istore_n 3, 90, 0, 0, 0, 0) := rfl
theorem r_83_90 : row 83 90 = some (.iconst 0, 91, 0, 0, 0, 0) := rfl
theorem r_83_91 : row 83 91 = some (.istore 4, 93, 0, 0, 0, 0) := rfl
theorem r_83_93 : row 83 93 = some (.iload 4, 95, 0, 0, 0, 0) := rfl
theorem r_83_95 : row 83 95 = some (.iload_n 3, 96, 0, 0, 0, 0) := rfl
theorem r_83_96 : row 83 96 = some (.if_icmp .ge 45, 99, 141, 0, 0, 0) := rfl
theorem r_83_99 : row 83 99 = some (.aload_n 0, 100, 0, 0, 0, 0) := rfl
theorem r_83_100 : row 83 100 = some (.getfield 43, 103, 9, 6, 2, 2164) := rfl
theorem r_83_103 : row 83 103 = some (.aload_n 0, 104, 0, 0, 0, 0) := rfl
theorem r_83_104 : row 83 104 = some (.getfield 19, 107, 9, 1, 2, 2159) := rfl
theorem r_83_107 : row 83 107 = some (.aload_n 0, 108, 0, 0, 0, 0) := rfl
theorem r_83_108 : row 83 108 = some (.getfield 33, 111, 9, 4, 2, 2162) := rfl
theorem r_83_111 : row 83 111 = some (.iconst 0, 112, 0, 0, 0, 0) := rfl
theorem r_83_112 : row 83 112 = some (.iload 4, 114, 0, 0, 0, 0) := rfl
theorem r_83_114 : row 83 114 = some (.invokevirtual 255, 117, 288, 4, 10, 3170) := rfl
theorem r_83_117 : row 83 117 = some (.aload_n 0, 118, 0, 0, 0, 0) := rfl
theorem r_83_118 : row 83 118 = some (.getfield 59, 121, 9, 9, 2, 2167) := rfl
theorem r_83_121 : row 83 121 = some (.aload_n 0, 122, 0, 0, 0, 0) := rfl
theorem r_83_122 : row 83 122 = some (.getfield 19, 125, 9, 1, 2, 2159) := rfl
theorem r_83_125 : row 83 125 = some (.aload_n 2, 126, 0, 0, 0, 0) := rfl
theorem r_83_126 : row 83 126 = some (.aload_n 0, 127, 0, 0, 0, 0) := rfl
theorem r_83_127 : row 83 127 = some (.getfield 43, 130, 9, 6, 2, 2164) := rfl
theorem r_83_130 : row 83 130 = some (.iload 4, 132, 0, 0, 0, 0) := rfl
theorem r_83_132 : row 83 132 = some (.invokevirtual 395, 135, 277, 4, 10, 5057) := rfl
theorem r_83_135 : row 83 135 = some (.iinc 4 1, 138, 0, 0, 0, 0) := rfl
theorem r_83_138 : row 83 138 = some (.goto (-45), 141, 93, 0, 0, 0) := rfl
theorem r_83_141 : row 83 141 = some (.iconst 0, 142, 0, 0, 0, 0) := rfl
theorem r_83_142 : row 83 142 = some (.ireturn, 143, 0, 0, 0, 0) := rfl
/-- nothing but the trial and what is seen is written -/
def LkF (m0 p : Mm) : Prop := (∀ x i : Nat, (x < 41 ∨ 53 < x) → ¬ x = 142 → ¬ x = 143 → p x i = m0 x i) ∧ PinR p ∧ Gam p
/-- how many places are looked at -/
def ccW (w : Wd) : Nat := if w 7 = 0 then 0 else (w 0).toNat
/-- what lookAt answers -/
def A83 (w : Wd) (D : Nat → Nat → Int) (n tr : Nat) (m m1 : Mm) (a v : Int) : Prop := (¬ (0 < m 4 0 ∧ 0 ≤ a ∧ a < 4) → v = -2) ∧ ∀ i : Nat, i < 4 → a = (i : Int) → 0 < m 4 0 → (m (146 + 2 * i) 2 = -1 → v = -6) ∧ ∀ c : Nat, m (146 + 2 * i) 2 = (c : Int) → (¬ (sndB (m (146 + 2 * i + 1)) (tr : Int) c = true ∧ c % 2 = 0) → v = -2) ∧ ∀ q : Nat, c = 2 * q → sndB (m (146 + 2 * i + 1)) (tr : Int) (2 * q) = true → v = 0 ∧ LkF m m1 ∧ LkI w D (m (146 + 2 * i + 1)) q n tr m1 (ccW w)
theorem a83_0 {w : Wd} {D : Nat → Nat → Int} {n tr : Nat} {m m1 : Mm} {a : Int} (hb : ∀ i : Nat, i < 4 → -1 ≤ m (146 + 2 * i) 2) (h : A83 w D n tr m m1 a 0) : ∃ i q : Nat, i < 4 ∧ a = (i : Int) ∧ 0 < m 4 0 ∧ m (146 + 2 * i) 2 = ((2 * q : Nat) : Int) ∧ sndB (m (146 + 2 * i + 1)) (tr : Int) (2 * q) = true ∧ LkF m m1 ∧ LkI w D (m (146 + 2 * i + 1)) q n tr m1 (ccW w) := by
  obtain ⟨h1, h2⟩ := h
  have hc : 0 < m 4 0 ∧ 0 ≤ a ∧ a < 4 := Classical.byContradiction (fun z => absurd (h1 z) (by decide))
  obtain ⟨i, hi⟩ : ∃ i : Nat, a = (i : Int) := ⟨a.toNat, by omega⟩
  have hi4 : i < 4 := by omega
  obtain ⟨h3, h4⟩ := h2 i hi4 hi hc.1
  have b := hb i hi4
  have h5 : ¬ m (146 + 2 * i) 2 = -1 := fun z => absurd (h3 z) (by decide)
  obtain ⟨c, hcc⟩ : ∃ c : Nat, m (146 + 2 * i) 2 = (c : Int) := ⟨(m (146 + 2 * i) 2).toNat, by omega⟩
  obtain ⟨h6, h7⟩ := h4 c hcc
  have h8 : sndB (m (146 + 2 * i + 1)) (tr : Int) c = true ∧ c % 2 = 0 := Classical.byContradiction (fun z => absurd (h6 z) (by decide))
  obtain ⟨q, hq⟩ : ∃ q : Nat, c = 2 * q := ⟨c / 2, by omega⟩
  have hs : sndB (m (146 + 2 * i + 1)) (tr : Int) (2 * q) = true := by rw [← hq]; exact h8.1
  obtain ⟨_, h9, h10⟩ := h7 q hq hs
  exact ⟨i, q, hi4, hi, hc.1, by rw [hcc, hq], hs, h9, h10⟩
/-- the trial tells what is left -/
theorem told_fr {w : Wd} {D : Nat → Nat → Int} {n tr k : Nat} {A : Nat → Int} {p1 : Mm} (hA : ∀ h : Nat, h < 12 → A h = 0) (n12 : n ≤ 12) (h5 : w 5 = (tr : Int)) (tr5 : tr ≤ 5) (sd : StoryD p1 41 w D A (beginF w 0 (k : Int)) n) {h t : Nat} (hh : h ≤ n) (ht : t < tr) : p1 49 (5 * h + t) = frF w D k h t := by
  have z := (sd.1.1 h hh).2.2.2.2 t (by omega) (by omega)
  have y : runF w D A (beginF w 0 (k : Int)) h = runF w D (fun _ => 0) (beginF w 0 (k : Int)) h := run_cA h (fun i hi => hA i (by omega))
  rw [y] at z
  exact z
theorem lk_in {w : Wd} {D : Nat → Nat → Int} {N : Nat → Int} {q n tr k : Nat} {p : Mm} (n12 : n ≤ 12) (h : LkI w D N q n tr p k) : 0 ≤ p 142 0 ∧ p 142 0 ≤ 13 * (k : Int) := by
  have z := h.1
  have y : prF w D N q n k ≤ 13 * k := toB_le n12 k
  omega
section LOOK
variable {T : List Kd} {m : Mm}
set_option maxRecDepth 100000 in
theorem cu_288t : conL[360]? = some (288, [(2, 41, 0), (2, 4, 0), (2, 25, 0), (0, (-2147483648), 2147483647), (0, (-2147483648), 2147483647)], (9, 0, 0), [41010, 41011, 41012, 41013, 42000, 42001, 42002, 42003, 42004, 42005, 42006, 42007, 43999, 44999, 45999, 46999, 47999, 48999, 49999, 50999, 51999, 52999, 53999], 4) := rfl
set_option maxRecDepth 100000 in
theorem pu_288t (hT : TT T) : ConH T (288, [(2, 41, 0), (2, 4, 0), (2, 25, 0), (0, (-2147483648), 2147483647), (0, (-2147483648), 2147483647)], (9, 0, 0), [41010, 41011, 41012, 41013, 42000, 42001, 42002, 42003, 42004, 42005, 42006, 42007, 43999, 44999, 45999, 46999, 47999, 48999, 49999, 50999, 51999, 52999, 53999], 4) := fun args m => ((all_con hT 360).1 (by decide)) _ cu_288t args m
set_option maxRecDepth 100000 in
theorem cu_277t : conL[500]? = some (277, [(2, 70, 0), (2, 4, 0), (2, 74, 0), (2, 41, 0), (0, (-2147483648), 2147483647)], (9, 0, 0), [70000, 70001, 70002, 71999], 3) := rfl
set_option maxRecDepth 100000 in
theorem pu_277t (hT : TT T) : ConH T (277, [(2, 70, 0), (2, 4, 0), (2, 74, 0), (2, 41, 0), (0, (-2147483648), 2147483647)], (9, 0, 0), [70000, 70001, 70002, 71999], 3) := fun args m => ((all_con hT 500).1 (by decide)) _ cu_277t args m
set_option maxRecDepth 100000 in
theorem cu_276t : conL[495]? = some (276, [(2, 70, 0)], (9, 0, 0), [70000, 70001, 70002, 71999], 1) := rfl
set_option maxRecDepth 100000 in
theorem pu_276t (hT : TT T) : ConH T (276, [(2, 70, 0)], (9, 0, 0), [70000, 70001, 70002, 71999], 1) := fun args m => ((all_con hT 495).1 (by decide)) _ cu_276t args m
theorem gq_o25 : gq0 (2, 25, 0) (2, 25) := (gq_2 rfl).mpr ⟨rfl, by decide, by decide, by decide⟩
theorem gq_o41 : gq0 (2, 41, 0) (2, 41) := (gq_2 rfl).mpr ⟨rfl, by decide, by decide, by decide⟩
theorem gq_o142 : gq0 (2, 70, 0) (2, 142) := (gq_2 rfl).mpr ⟨rfl, by decide, by decide, by decide⟩
theorem lkp_l (hT : TT T) {m0 : Mm} {w : Wd} (hw0 : WD m0 4 w) (hb : WBf w) {D : Nat → Nat → Int} (hD : WyD w D) {n : Nat} (hn : w 1 = (n : Int)) (n12 : n ≤ 12) (na0 : NA m0) {ii o : Nat} (hi : ii < 4) (h_o : o = 146 + 2 * ii) (ho : SlT T o) (hr0 : SlR m0 o) {q tr : Nat} (hc0 : m0 o 2 = 2 * (q : Int)) (hc60 : 2 * q ≤ 60) (h5 : w 5 = (tr : Int)) (tr5 : tr ≤ 5) (hs0 : sndB (m0 (o + 1)) (tr : Int) (2 * q) = true) {cc : Nat} (hcc : ∀ k : Nat, k < cc → (k : Int) < w 0 ∧ 0 < w 7) (cc7 : cc ≤ 7) : ∀ (N k : Nat) (m : Mm), cc - k < N → k ≤ cc → LkF m0 m → LkI w D (m0 (o + 1)) q n tr m k → GX T 5 83 93 [(2, 1), (0, (ii : Int)), (2, (o : Int)), (0, (cc : Int)), (0, (k : Int))] [] m (RI (fun v m1 => v = 0 ∧ LkF m0 m1 ∧ LkI w D (m0 (o + 1)) q n tr m1 cc)) := by
  intro N
  induction N with
  | zero => intro k m hN; exact absurd hN (Nat.not_lt_zero _)
  | succ N ih =>
    intro k m hN hk lf li
    have ho0 := ho.1
    obtain ⟨lf, hp, hm⟩ := lf
    have hw : WD m 4 w := WD_eq hw0 (fun p i p1 p2 _ => lf p i (by omega) (by omega) (by omega))
    have na : NA m := fun h hh => (lf 26 h (by decide) (by decide) (by decide)).trans (na0 h hh)
    refine gx_st (L' := [(2, 1), (0, (ii : Int)), (2, (o : Int)), (0, (cc : Int)), (0, (k : Int))]) (S' := [(0, (k : Int))]) r_83_93 rfl rfl rfl ?_
    refine gx_st (L' := [(2, 1), (0, (ii : Int)), (2, (o : Int)), (0, (cc : Int)), (0, (k : Int))]) (S' := [(0, (cc : Int)), (0, (k : Int))]) r_83_95 rfl rfl rfl ?_
    refine gx_ic (P := (cc : Int) ≤ (k : Int)) r_83_96 (rfl) (fun h96 => ?_) (fun h96 => ?_)
    · refine gx_st (L' := [(2, 1), (0, (ii : Int)), (2, (o : Int)), (0, (cc : Int)), (0, (k : Int))]) (S' := [(0, 0)]) r_83_141 rfl rfl rfl ?_
      have hkn : k = cc := by omega
      subst hkn
      exact gx_rt r_83_142 rfl rfl ⟨_, rfl, rfl, ⟨lf, hp, hm⟩, li⟩
    · refine gx_st (L' := [(2, 1), (0, (ii : Int)), (2, (o : Int)), (0, (cc : Int)), (0, (k : Int))]) (S' := [(2, 1)]) r_83_99 rfl rfl rfl ?_
      refine gx_gf (x := 41) 2 r_83_100 (rfl) (ty_1 hT) ⟨by decide, rfl, by decide, by decide⟩ rfl (fun _ => by omega) (pin_at hp (t := 41) rfl (by decide)) ?_
      refine gx_st (L' := [(2, 1), (0, (ii : Int)), (2, (o : Int)), (0, (cc : Int)), (0, (k : Int))]) (S' := [(2, 1), (2, 41)]) r_83_103 rfl rfl rfl ?_
      refine gx_gf (x := 4) 2 r_83_104 (rfl) (ty_1 hT) ⟨by decide, rfl, by decide, by decide⟩ rfl (fun _ => by omega) (pin_at hp (t := 4) rfl (by decide)) ?_
      refine gx_st (L' := [(2, 1), (0, (ii : Int)), (2, (o : Int)), (0, (cc : Int)), (0, (k : Int))]) (S' := [(2, 1), (2, 4), (2, 41)]) r_83_107 rfl rfl rfl ?_
      refine gx_gf (x := 25) 2 r_83_108 (rfl) (ty_1 hT) ⟨by decide, rfl, by decide, by decide⟩ rfl (fun _ => by omega) (pin_at hp (t := 25) rfl (by decide)) ?_
      refine gx_st (L' := [(2, 1), (0, (ii : Int)), (2, (o : Int)), (0, (cc : Int)), (0, (k : Int))]) (S' := [(0, 0), (2, 25), (2, 4), (2, 41)]) r_83_111 rfl rfl rfl ?_
      refine gx_st (L' := [(2, 1), (0, (ii : Int)), (2, (o : Int)), (0, (cc : Int)), (0, (k : Int))]) (S' := [(0, (k : Int)), (0, 0), (2, 25), (2, 4), (2, 41)]) r_83_112 rfl rfl rfl ?_
      have hA : ∀ h : Nat, h < 12 → 0 ≤ m 26 h ∧ m 26 h ≤ 16 := fun h hh => by rw [na h hh]; decide
      have hk2 := hcc k (by omega)
      have hS : SB w (beginF w ((0 : Nat) : Int) (k : Int)) 0 := sb_begin hb.1 hb.2 (by omega) (fun _ => ⟨by omega, hk2.1⟩)
      refine gx_cv (nx := 117) (S2 := []) (gx_av (z_288 hT (IsleT_of hT rfl) (IsleR_of hp rfl) hw (stT_41 hT) (ActsT_of hT rfl) (ActsR_of hp rfl) (by decide) (by decide) hD hA hn n12 (stR_41 hp) (b := 0) hS) (gx_hv (args := [(2, 41), (2, 4), (2, 25), (0, 0), (0, (k : Int))]) (pu_288t hT) ⟨gq_o41, gq_o4, gq_o25, gq_any (by omega) (by omega), gq_any (by omega) (by omega), trivial⟩ hm rfl)) r_83_114 rfl rfl rfl rfl rfl (rcv_v rfl (ty_41 hT) (by decide) rfl (by decide)) rfl (by decide) rfl (fun n114 q114 => ?_)
      obtain ⟨⟨sd, fs⟩, gm1, f1⟩ := q114
      have hp1 : PinR n114 := PinR_fr f1 (by decide) hp
      have e41 : ∀ x i : Nat, (x < 41 ∨ 53 < x) → n114 x i = m x i := fun x i hx => fs x i (by omega)
      have eF : ∀ h t : Nat, h ≤ n → t < tr → n114 49 (5 * h + t) = frF w D k h t := fun h t hh ht => told_fr na n12 h5 tr5 sd hh ht
      show GX T 5 83 117 [(2, 1), (0, (ii : Int)), (2, (o : Int)), (0, (cc : Int)), (0, (k : Int))] [] n114 (RI (fun v m1 => v = 0 ∧ LkF m0 m1 ∧ LkI w D (m0 (o + 1)) q n tr m1 cc))
      refine gx_st (L' := [(2, 1), (0, (ii : Int)), (2, (o : Int)), (0, (cc : Int)), (0, (k : Int))]) (S' := [(2, 1)]) r_83_117 rfl rfl rfl ?_
      refine gx_gf (x := 142) 2 r_83_118 (rfl) (ty_1 hT) ⟨by decide, rfl, by decide, by decide⟩ rfl (fun _ => by omega) (pin_at hp1 (t := 142) rfl (by decide)) ?_
      refine gx_st (L' := [(2, 1), (0, (ii : Int)), (2, (o : Int)), (0, (cc : Int)), (0, (k : Int))]) (S' := [(2, 1), (2, 142)]) r_83_121 rfl rfl rfl ?_
      refine gx_gf (x := 4) 2 r_83_122 (rfl) (ty_1 hT) ⟨by decide, rfl, by decide, by decide⟩ rfl (fun _ => by omega) (pin_at hp1 (t := 4) rfl (by decide)) ?_
      refine gx_st (L' := [(2, 1), (0, (ii : Int)), (2, (o : Int)), (0, (cc : Int)), (0, (k : Int))]) (S' := [(2, (o : Int)), (2, 4), (2, 142)]) r_83_125 rfl rfl rfl ?_
      refine gx_st (L' := [(2, 1), (0, (ii : Int)), (2, (o : Int)), (0, (cc : Int)), (0, (k : Int))]) (S' := [(2, 1), (2, (o : Int)), (2, 4), (2, 142)]) r_83_126 rfl rfl rfl ?_
      refine gx_gf (x := 41) 2 r_83_127 (rfl) (ty_1 hT) ⟨by decide, rfl, by decide, by decide⟩ rfl (fun _ => by omega) (pin_at hp1 (t := 41) rfl (by decide)) ?_
      refine gx_st (L' := [(2, 1), (0, (ii : Int)), (2, (o : Int)), (0, (cc : Int)), (0, (k : Int))]) (S' := [(0, (k : Int)), (2, 41), (2, (o : Int)), (2, 4), (2, 142)]) r_83_130 rfl rfl rfl ?_
      have eN : n114 (o + 1) = m0 (o + 1) := funext fun i => (e41 (o + 1) i (by omega)).trans (lf (o + 1) i (by omega) (by omega) (by omega))
      have lb := lk_in n12 li
      refine gx_cv (nx := 135) (S2 := []) (gx_av (c_277 hT hp1 ho (by omega) (((e41 o 0 (by omega)).trans (lf o 0 (by omega) (by omega) (by omega))).trans hr0) (q := q) (n := n) (tr := tr) (b := (k : Int)) (((e41 o 2 (by omega)).trans (lf o 2 (by omega) (by omega) (by omega))).trans hc0) hc60 (by rw [eN]; exact hs0) ((e41 4 6 (by decide)).trans (hw.1.2.2.2.2.2.2.1.trans h5)) tr5 ((e41 4 2 (by decide)).trans (hw.1.2.2.1.trans hn)) n12 (fun h t hh ht => by rw [eF h t hh ht]; exact frF_in hw.2.1 hw.2.2.2 hD hb hk2.1 (by omega) (by omega) (by omega)) (by rw [e41 142 0 (by decide)]; omega) (fun i hi => by rw [e41 143 i (by decide)]; have := li.2.1 i hi; omega)) (gx_hv (args := [(2, 142), (2, 4), (2, (o : Int)), (2, 41), (0, (k : Int))]) (pu_277t hT) ⟨gq_o142, gq_o4, gq_sl hi h_o, gq_o41, gq_any (by omega) (by omega), trivial⟩ gm1 rfl)) r_83_132 rfl rfl rfl rfl rfl (rcv_v rfl (ty_142 hT) (by decide) rfl (by decide)) rfl (by decide) rfl (fun n132 q132 => ?_)
      obtain ⟨ga, gm2, f2⟩ := q132
      have hp2 : PinR n132 := PinR_fr f2 (by decide) hp1
      show GX T 5 83 135 [(2, 1), (0, (ii : Int)), (2, (o : Int)), (0, (cc : Int)), (0, (k : Int))] [] n132 (RI (fun v m1 => v = 0 ∧ LkF m0 m1 ∧ LkI w D (m0 (o + 1)) q n tr m1 cc))
      refine gx_li (z := (k : Int) + 1) (L' := [(2, 1), (0, (ii : Int)), (2, (o : Int)), (0, (cc : Int)), (0, (k : Int) + 1)]) r_83_135 rfl (w32_eq (by omega) (by omega) (by omega)) rfl ?_
      refine gx_st (L' := [(2, 1), (0, (ii : Int)), (2, (o : Int)), (0, (cc : Int)), (0, (k : Int) + 1)]) (S' := []) r_83_138 rfl rfl rfl ?_
      rw [show (k : Int) + 1 = ((k + 1 : Nat) : Int) from rfl]
      exact ih (k + 1) n132 (by omega) (by omega) ⟨fun x i h1 h2 h3 => (ga.1 x i h2 h3).trans ((e41 x i h1).trans (lf x i h1 h2 h3)), hp2, gm2⟩ (lk_step li n12 h5 tr5 hs0 eN eF (e41 142 0 (by decide)) (fun i _ => e41 143 i (by decide)) ga)
theorem c_83 (hT : TT T) (hm : Gam m) (hp : PinR m) {w : Wd} (hw : WD m 4 w) (hb : WBf w) {D : Nat → Nat → Int} (hD : WyD w D) {n : Nat} (hn : w 1 = (n : Int)) (n12 : n ≤ 12) (na : NA m) {tr : Nat} (h5 : w 5 = (tr : Int)) (a : Int) : GX T 5 83 0 [(2, 1), (0, a), (9, 0), (9, 0), (9, 0)] [] m (RI (fun v m1 => A83 w D n tr m m1 a v)) := by
  have bw := hw.2.1
  have b0 := bw.1
  have b5 := bw.2.2.1
  have b7 := bw.2.2.2.2.1
  have e46 : m 4 6 = (tr : Int) := hw.1.2.2.2.2.2.2.1.trans h5
  have e48 : m 4 8 = w 7 := hw.1.2.2.2.2.2.2.2.2.1
  obtain ⟨pl, hpl⟩ : ∃ pl : Nat, w 0 = (pl : Int) := ⟨(w 0).toNat, by omega⟩
  have e41 : m 4 1 = (pl : Int) := hw.1.2.1.trans hpl
  refine gx_st (L' := [(2, 1), (0, a), (9, 0), (9, 0), (9, 0)]) (S' := [(2, 1)]) r_83_0 rfl rfl rfl ?_
  refine gx_gf (x := 4) 2 r_83_1 (rfl) (ty_1 hT) ⟨by decide, rfl, by decide, by decide⟩ rfl (fun _ => by omega) (pin_at hp (t := 4) rfl (by decide)) ?_
  refine gx_ci (nx := 7) (S2 := []) (x_252 hT) r_83_4 rfl rfl rfl rfl rfl (rcv_v rfl (ty_4 hT) (by decide) rfl (by decide)) rfl (by decide) rfl (fun x4 n4 q4 => ?_)
  obtain rfl := q4.1.symm
  obtain rfl := q4.2.symm
  show GX T 5 83 7 [(2, 1), (0, a), (9, 0), (9, 0), (9, 0)] [(0, (if 0 < m 4 0 then 1 else 0))] m (RI (fun v m1 => A83 w D n tr m m1 a v))
  refine gx_i0 (P := ¬ (0 < m 4 0)) r_83_7 (b01_eq) (fun h7 => ?_) (fun h7 => ?_)
  · refine gx_st (L' := [(2, 1), (0, a), (9, 0), (9, 0), (9, 0)]) (S' := [(0, (-2))]) r_83_22 rfl rfl rfl ?_
    exact gx_rt r_83_24 rfl rfl ⟨_, rfl, fun _ => rfl, fun i2 hi2 h2 h3 => by omega⟩
  · have h7 := Decidable.not_not.mp h7
    refine gx_st (L' := [(2, 1), (0, a), (9, 0), (9, 0), (9, 0)]) (S' := [(0, a)]) r_83_10 rfl rfl rfl ?_
    refine gx_st (L' := [(2, 1), (0, a), (9, 0), (9, 0), (9, 0)]) (S' := [(2, 1), (0, a)]) r_83_11 rfl rfl rfl ?_
    refine gx_gf (x := 145) 2 r_83_12 (rfl) (ty_1 hT) ⟨by decide, rfl, by decide, by decide⟩ rfl (fun _ => by omega) (pin_at hp (t := 145) rfl (by decide)) ?_
    refine gx_al r_83_15 (rfl) (ty_145 hT) ⟨by decide, by decide, by decide⟩ ?_
    show GX T 5 83 16 [(2, 1), (0, a), (9, 0), (9, 0), (9, 0)] [(0, 4), (0, a)] m (RI (fun v m1 => A83 w D n tr m m1 a v))
    refine gx_ci (nx := 19) (S2 := []) (x_71 a 4) r_83_16 rfl rfl rfl rfl rfl rfl rfl (by decide) rfl (fun x16 n16 q16 => ?_)
    obtain rfl := q16.1.symm
    obtain rfl := q16.2.symm
    show GX T 5 83 19 [(2, 1), (0, a), (9, 0), (9, 0), (9, 0)] [(0, (if 0 ≤ a ∧ a < 4 then 1 else 0))] m (RI (fun v m1 => A83 w D n tr m m1 a v))
    refine gx_i0 (P := 0 ≤ a ∧ a < 4) r_83_19 (b01_ne) (fun h19 => ?_) (fun h19 => ?_)
    · obtain ⟨ii, hia⟩ : ∃ i : Nat, a = (i : Int) := ⟨a.toNat, by omega⟩
      have hi : ii < 4 := by omega
      obtain ⟨o, h_o⟩ : ∃ o : Nat, o = 146 + 2 * ii := ⟨_, rfl⟩
      have ho : SlT T o := SlT_of hT (by rw [h_o]; exact (sl_in ii hi).1)
      have hr : SlR m o := SlR_of hp (by rw [h_o]; exact (sl_in ii hi).1)
      have ho0 := ho.1
      have bc := so_2 hm (s := o) ⟨by omega, by omega, by rw [h_o]; exact ty_sl ii hi⟩
      rw [hia]
      refine gx_st (L' := [(2, 1), (0, (ii : Int)), (9, 0), (9, 0), (9, 0)]) (S' := [(2, 1)]) r_83_25 rfl rfl rfl ?_
      refine gx_gf (x := 145) 2 r_83_26 (rfl) (ty_1 hT) ⟨by decide, rfl, by decide, by decide⟩ rfl (fun _ => by omega) (pin_at hp (t := 145) rfl (by decide)) ?_
      refine gx_st (L' := [(2, 1), (0, (ii : Int)), (9, 0), (9, 0), (9, 0)]) (S' := [(0, (ii : Int)), (2, 145)]) r_83_29 rfl rfl rfl ?_
      refine gx_aa (n := ii) (x := (o : Int)) r_83_30 (rfl) (by omega) (ty_145 hT) (by omega) ⟨by decide, by decide, by omega⟩ ((by rw [h_o]; exact pin_at hp (sl_in ii hi).2 (by omega))) (by omega) ?_
      refine gx_st (L' := [(2, 1), (0, (ii : Int)), (2, (o : Int)), (9, 0), (9, 0)]) (S' := []) r_83_31 rfl rfl rfl ?_
      refine gx_st (L' := [(2, 1), (0, (ii : Int)), (2, (o : Int)), (9, 0), (9, 0)]) (S' := [(2, (o : Int))]) r_83_32 rfl rfl rfl ?_
      refine gx_gf (x := (m o 2)) 0 r_83_33 (rfl) (tsl_0 ho) ⟨by omega, rfl, by decide, by decide⟩ rfl (fun z => absurd z (by decide)) (rfl) ?_
      refine gx_st (L' := [(2, 1), (0, (ii : Int)), (2, (o : Int)), (9, 0), (9, 0)]) (S' := [(0, (-1)), (0, (m o 2))]) r_83_36 rfl rfl rfl ?_
      refine gx_ic (P := ¬ (m o 2) = (-1)) r_83_37 (rfl) (fun h37 => ?_) (fun h37 => ?_)
      · obtain ⟨c, hc⟩ : ∃ c : Nat, m o 2 = (c : Int) := ⟨(m o 2).toNat, by omega⟩
        refine gx_st (L' := [(2, 1), (0, (ii : Int)), (2, (o : Int)), (9, 0), (9, 0)]) (S' := [(2, 1)]) r_83_43 rfl rfl rfl ?_
        refine gx_gf (x := 142) 2 r_83_44 (rfl) (ty_1 hT) ⟨by decide, rfl, by decide, by decide⟩ rfl (fun _ => by omega) (pin_at hp (t := 142) rfl (by decide)) ?_
        refine gx_st (L' := [(2, 1), (0, (ii : Int)), (2, (o : Int)), (9, 0), (9, 0)]) (S' := [(2, 1), (2, 142)]) r_83_47 rfl rfl rfl ?_
        refine gx_gf (x := 4) 2 r_83_48 (rfl) (ty_1 hT) ⟨by decide, rfl, by decide, by decide⟩ rfl (fun _ => by omega) (pin_at hp (t := 4) rfl (by decide)) ?_
        refine gx_st (L' := [(2, 1), (0, (ii : Int)), (2, (o : Int)), (9, 0), (9, 0)]) (S' := [(2, (o : Int)), (2, 4), (2, 142)]) r_83_51 rfl rfl rfl ?_
        refine gx_ci (nx := 55) (S2 := []) (c_275 hT ho hr hp hc (by omega)) r_83_52 rfl rfl rfl rfl rfl (rcv_v rfl (ty_142 hT) (by decide) rfl (by decide)) rfl (by decide) rfl (fun x52 n52 q52 => ?_)
        obtain ⟨e_x52, z_x52⟩ := q52
        obtain rfl := z_x52.symm
        rw [e46] at e_x52
        rw [e_x52]
        show GX T 5 83 55 [(2, 1), (0, (ii : Int)), (2, (o : Int)), (9, 0), (9, 0)] [(0, (if sndB (m (o + 1)) (tr : Int) c = true ∧ c % 2 = 0 then 1 else 0))] m (RI (fun v m1 => A83 w D n tr m m1 (ii : Int) v))
        refine gx_i0 (P := sndB (m (o + 1)) (tr : Int) c = true ∧ c % 2 = 0) r_83_55 (b01_ne) (fun h55 => ?_) (fun h55 => ?_)
        · refine gx_st (L' := [(2, 1), (0, (ii : Int)), (2, (o : Int)), (9, 0), (9, 0)]) (S' := [(2, 1)]) r_83_61 rfl rfl rfl ?_
          refine gx_gf (x := 142) 2 r_83_62 (rfl) (ty_1 hT) ⟨by decide, rfl, by decide, by decide⟩ rfl (fun _ => by omega) (pin_at hp (t := 142) rfl (by decide)) ?_
          obtain ⟨q, hq⟩ : ∃ q : Nat, c = 2 * q := ⟨c / 2, by omega⟩
          have hs : sndB (m (o + 1)) (tr : Int) (2 * q) = true := by rw [← hq]; exact h55.1
          refine gx_cv (nx := 68) (S2 := []) (gx_av (c_276 hT hp) (gx_hv (args := [(2, 142)]) (pu_276t hT) ⟨gq_o142, trivial⟩ hm rfl)) r_83_65 rfl rfl rfl rfl rfl (rcv_v rfl (ty_142 hT) (by decide) rfl (by decide)) rfl (by decide) rfl (fun n65 q65 => ?_)
          obtain ⟨⟨y0, y1, y2⟩, gm1, f1⟩ := q65
          have hp1 : PinR n65 := PinR_fr f1 (by decide) hp
          show GX T 5 83 68 [(2, 1), (0, (ii : Int)), (2, (o : Int)), (9, 0), (9, 0)] [] n65 (RI (fun v m1 => A83 w D n tr m m1 (ii : Int) v))
          refine gx_st (L' := [(2, 1), (0, (ii : Int)), (2, (o : Int)), (9, 0), (9, 0)]) (S' := [(2, 1)]) r_83_68 rfl rfl rfl ?_
          refine gx_gf (x := 4) 2 r_83_69 (rfl) (ty_1 hT) ⟨by decide, rfl, by decide, by decide⟩ rfl (fun _ => by omega) (pin_at hp1 (t := 4) rfl (by decide)) ?_
          refine gx_gf (x := (w 7)) 0 r_83_72 (rfl) (ty_4 hT) ⟨by decide, rfl, by decide, by decide⟩ rfl (fun z => absurd z (by decide)) (((y2 4 8 (by decide) (by decide)).trans e48)) ?_
          refine gx_i0 (P := ¬ (w 7) = 0) r_83_75 (rfl) (fun h75 => ?_) (fun h75 => ?_)
          · refine gx_st (L' := [(2, 1), (0, (ii : Int)), (2, (o : Int)), (9, 0), (9, 0)]) (S' := [(2, 1)]) r_83_82 rfl rfl rfl ?_
            refine gx_gf (x := 4) 2 r_83_83 (rfl) (ty_1 hT) ⟨by decide, rfl, by decide, by decide⟩ rfl (fun _ => by omega) (pin_at hp1 (t := 4) rfl (by decide)) ?_
            refine gx_gf (x := (pl : Int)) 0 r_83_86 (rfl) (ty_4 hT) ⟨by decide, rfl, by decide, by decide⟩ rfl (fun z => absurd z (by decide)) (((y2 4 1 (by decide) (by decide)).trans e41)) ?_
            refine gx_st (L' := [(2, 1), (0, (ii : Int)), (2, (o : Int)), (0, (pl : Int)), (9, 0)]) (S' := []) r_83_89 rfl rfl rfl ?_
            refine gx_st (L' := [(2, 1), (0, (ii : Int)), (2, (o : Int)), (0, (pl : Int)), (9, 0)]) (S' := [(0, 0)]) r_83_90 rfl rfl rfl ?_
            refine gx_st (L' := [(2, 1), (0, (ii : Int)), (2, (o : Int)), (0, (pl : Int)), (0, 0)]) (S' := []) r_83_91 rfl rfl rfl ?_
            refine gx_imp (lkp_l hT hw hb hD hn n12 na hi h_o ho hr (q := q) (tr := tr) (by rw [hc, hq]; omega) (by omega) h5 (by omega) hs (cc := pl) (fun k hk => ⟨by omega, by omega⟩) (by omega) (pl + 1) 0 n65 (by omega) (by omega) ⟨fun x i _ h2 h3 => y2 x i h2 h3, hp1, gm1⟩ (LkI_0 (by omega) y0 y1)) (fun v m1 ⟨x, e, e0, f, li⟩ => ⟨x, e, fun z => absurd ⟨h7, by omega, by omega⟩ z, fun i2 hi2 h2 _ => ?_⟩)
            have ei : i2 = ii := by omega
            rw [ei, ← h_o]
            refine ⟨fun z => by omega, fun c2 hc2 => ⟨fun z => absurd ⟨by rw [show c2 = c by omega]; exact h55.1, by omega⟩ z, fun q2 hq2 _ => ?_⟩⟩
            have eq : q2 = q := by omega
            rw [eq, show ccW w = pl from (if_neg h75).trans (by omega)]
            exact ⟨e0, f, li⟩
          · have h75 := Decidable.not_not.mp h75
            refine gx_st (L' := [(2, 1), (0, (ii : Int)), (2, (o : Int)), (9, 0), (9, 0)]) (S' := [(0, 0)]) r_83_78 rfl rfl rfl ?_
            refine gx_st (L' := [(2, 1), (0, (ii : Int)), (2, (o : Int)), (9, 0), (9, 0)]) (S' := [(0, 0)]) r_83_79 rfl rfl rfl ?_
            refine gx_st (L' := [(2, 1), (0, (ii : Int)), (2, (o : Int)), (0, 0), (9, 0)]) (S' := []) r_83_89 rfl rfl rfl ?_
            refine gx_st (L' := [(2, 1), (0, (ii : Int)), (2, (o : Int)), (0, 0), (9, 0)]) (S' := [(0, 0)]) r_83_90 rfl rfl rfl ?_
            refine gx_st (L' := [(2, 1), (0, (ii : Int)), (2, (o : Int)), (0, 0), (0, 0)]) (S' := []) r_83_91 rfl rfl rfl ?_
            refine gx_imp (lkp_l hT hw hb hD hn n12 na hi h_o ho hr (q := q) (tr := tr) (by rw [hc, hq]; omega) (by omega) h5 (by omega) hs (cc := 0) (fun k hk => absurd hk (Nat.not_lt_zero _)) (by omega) (0 + 1) 0 n65 (by omega) (by omega) ⟨fun x i _ h2 h3 => y2 x i h2 h3, hp1, gm1⟩ (LkI_0 (by omega) y0 y1)) (fun v m1 ⟨x, e, e0, f, li⟩ => ⟨x, e, fun z => absurd ⟨h7, by omega, by omega⟩ z, fun i2 hi2 h2 _ => ?_⟩)
            have ei : i2 = ii := by omega
            rw [ei, ← h_o]
            refine ⟨fun z => by omega, fun c2 hc2 => ⟨fun z => absurd ⟨by rw [show c2 = c by omega]; exact h55.1, by omega⟩ z, fun q2 hq2 _ => ?_⟩⟩
            have eq : q2 = q := by omega
            rw [eq, show ccW w = 0 from if_pos h75]
            exact ⟨e0, f, li⟩
        · refine gx_st (L' := [(2, 1), (0, (ii : Int)), (2, (o : Int)), (9, 0), (9, 0)]) (S' := [(0, (-2))]) r_83_58 rfl rfl rfl ?_
          refine gx_rt r_83_60 rfl rfl ⟨_, rfl, fun z => absurd ⟨h7, by omega, by omega⟩ z, fun i2 hi2 h2 _ => ?_⟩
          have e : i2 = ii := by omega
          rw [e, ← h_o]
          refine ⟨fun z => by omega, fun c2 hc2 => ⟨fun _ => rfl, fun q hq hs => absurd ?_ h55⟩⟩
          have ec : c2 = c := by omega
          rw [ec] at hq
          exact ⟨by rw [hq]; exact hs, by omega⟩
      · have h37 := Decidable.not_not.mp h37
        refine gx_st (L' := [(2, 1), (0, (ii : Int)), (2, (o : Int)), (9, 0), (9, 0)]) (S' := [(0, (-6))]) r_83_40 rfl rfl rfl ?_
        refine gx_rt r_83_42 rfl rfl ⟨_, rfl, fun z => absurd ⟨h7, by omega, by omega⟩ z, fun i2 hi2 h2 _ => ?_⟩
        have e : i2 = ii := by omega
        rw [e, ← h_o]
        exact ⟨fun _ => rfl, fun c2 hc2 => by omega⟩
    · refine gx_st (L' := [(2, 1), (0, a), (9, 0), (9, 0), (9, 0)]) (S' := [(0, (-2))]) r_83_22 rfl rfl rfl ?_
      exact gx_rt r_83_24 rfl rfl ⟨_, rfl, fun _ => rfl, fun i2 hi2 h2 h3 => by omega⟩
theorem zz_49 (hT : TT T) (hm : Gam m) (hp : PinR m) {w : Wd} (hw : WD m 4 w) (hb : WBf w) {D : Nat → Nat → Int} (hD : WyD w D) {n : Nat} (hn : w 1 = (n : Int)) (n12 : n ≤ 12) (na : NA m) {tr : Nat} (h5 : w 5 = (tr : Int)) (a : Int) : GX T 7 49 0 [(2, 1), (0, a), (9, 0)] [] m (RI (fun v m1 => (¬ (0 < m 4 0 ∧ 0 ≤ a ∧ a < 4) → v = -2) ∧ ∀ i : Nat, i < 4 → a = (i : Int) → 0 < m 4 0 → AskV w D (m (146 + 2 * i + 1)) n tr (ccW w) (m (146 + 2 * i) 2) v)) := by
  have bw := hw.2.1
  have b5 := bw.2.2.1
  have e46 : m 4 6 = (tr : Int) := hw.1.2.2.2.2.2.2.1.trans h5
  refine gx_st (L' := [(2, 1), (0, a), (9, 0)]) (S' := [(2, 1)]) r_49_0 rfl rfl rfl ?_
  refine gx_st (L' := [(2, 1), (0, a), (9, 0)]) (S' := [(0, a), (2, 1)]) r_49_1 rfl rfl rfl ?_
  refine gx_ci (nx := 5) (S2 := []) (c_83 hT hm hp hw hb hD hn n12 na h5 a) r_49_2 rfl rfl rfl rfl rfl (rcv_v rfl (ty_1 hT) (by decide) rfl (by decide)) rfl (by decide) rfl (fun x2 n2 q2 => ?_)
  have av := q2
  show GX T 7 49 5 [(2, 1), (0, a), (9, 0)] [(0, x2)] n2 (RI (fun v m1 => (¬ (0 < m 4 0 ∧ 0 ≤ a ∧ a < 4) → v = -2) ∧ ∀ i : Nat, i < 4 → a = (i : Int) → 0 < m 4 0 → AskV w D (m (146 + 2 * i + 1)) n tr (ccW w) (m (146 + 2 * i) 2) v))
  refine gx_st (L' := [(2, 1), (0, a), (0, x2)]) (S' := []) r_49_5 rfl rfl rfl ?_
  refine gx_st (L' := [(2, 1), (0, a), (0, x2)]) (S' := [(0, x2)]) r_49_6 rfl rfl rfl ?_
  refine gx_i0 (P := ¬ x2 = 0) r_49_7 (rfl) (fun h7 => ?_) (fun h7 => ?_)
  · refine gx_st (L' := [(2, 1), (0, a), (0, x2)]) (S' := [(0, x2)]) r_49_27 rfl rfl rfl ?_
    exact gx_rt r_49_28 rfl rfl ⟨_, rfl, av.1, fun i hi h2 h3 => ⟨(av.2 i hi h2 h3).1, fun c hc => ⟨((av.2 i hi h2 h3).2 c hc).1, fun q hq hs => absurd (((av.2 i hi h2 h3).2 c hc).2 q hq hs).1 h7⟩⟩⟩
  · have h7 := Decidable.not_not.mp h7
    have h7b : x2 = 0 := by omega
    rw [h7b] at av
    obtain ⟨i, q, hi, hia, h40, hsz, hs, ⟨lf, hp2, _⟩, li⟩ := a83_0 (fun i hi => (so_2 hm (s := 146 + 2 * i) ⟨by omega, by omega, ty_sl i hi⟩).1) av
    refine gx_st (L' := [(2, 1), (0, a), (0, x2)]) (S' := [(2, 1)]) r_49_10 rfl rfl rfl ?_
    refine gx_gf (x := 142) 2 r_49_11 (rfl) (ty_1 hT) ⟨by decide, rfl, by decide, by decide⟩ rfl (fun _ => by omega) (pin_at hp2 (t := 142) rfl (by decide)) ?_
    refine gx_st (L' := [(2, 1), (0, a), (0, x2)]) (S' := [(2, 1), (2, 142)]) r_49_14 rfl rfl rfl ?_
    refine gx_gf (x := 4) 2 r_49_15 (rfl) (ty_1 hT) ⟨by decide, rfl, by decide, by decide⟩ rfl (fun _ => by omega) (pin_at hp2 (t := 4) rfl (by decide)) ?_
    refine gx_gf (x := (tr : Int)) 0 r_49_18 (rfl) (ty_4 hT) ⟨by decide, rfl, by decide, by decide⟩ rfl (fun z => absurd z (by decide)) (((lf 4 6 (by decide) (by decide) (by decide)).trans e46)) ?_
    refine gx_ci (nx := 24) (S2 := []) (c_280 hT hp2 (tr := tr) (by omega)) r_49_21 rfl rfl rfl rfl rfl (rcv_v rfl (ty_142 hT) (by decide) rfl (by decide)) rfl (by decide) rfl (fun x21 n21 q21 => ?_)
    obtain ⟨e_x21, z_x21⟩ := q21
    obtain rfl := z_x21.symm
    rw [e_x21]
    show GX T 7 49 24 [(2, 1), (0, a), (0, x2)] [(0, ((btF (fun t => mxF (fun a => n2 143 (10 * t + a)) 10) (n2 142 0) tr).1))] n2 (RI (fun v m1 => (¬ (0 < m 4 0 ∧ 0 ≤ a ∧ a < 4) → v = -2) ∧ ∀ i : Nat, i < 4 → a = (i : Int) → 0 < m 4 0 → AskV w D (m (146 + 2 * i + 1)) n tr (ccW w) (m (146 + 2 * i) 2) v))
    refine gx_st (L' := [(2, 1), (0, a), (0, x2)]) (S' := [(0, ((btF (fun t => mxF (fun a => n2 143 (10 * t + a)) 10) (n2 142 0) tr).1))]) r_49_24 rfl rfl rfl ?_
    refine gx_rt r_49_28 rfl rfl ⟨_, rfl, fun z => absurd ⟨h40, by omega, by omega⟩ z, fun i2 hi2 h2 h3 => ?_⟩
    have ei : i2 = i := by omega
    rw [ei]
    refine ⟨fun z => by omega, fun c hc => ⟨fun z => absurd ⟨by rw [show c = 2 * q by omega]; exact hs, by omega⟩ z, fun q2 hq2 _ => ?_⟩⟩
    have eq : q2 = q := by omega
    rw [eq]
    unfold askF
    rw [li.1, btF_c tr (fun t ht => mxF_c 10 (fun a ha => li.2.2 t a ht ha))]
/-- whatever lengths of ways are taken -/
theorem z_49 (hT : TT T) (hm : Gam m) (hp : PinR m) (hx : Ext m) (r : WX m) (na : NA m) {n : Nat} (hn : m 193 1 = (n : Int)) {tr : Nat} (h5 : m 193 5 = (tr : Int)) (a : Int) : GX T 7 49 0 [(2, 1), (0, a), (9, 0)] [] m (RI (fun v m1 => (¬ (0 < m 4 0 ∧ 0 ≤ a ∧ a < 4) → v = -2) ∧ ∀ i : Nat, i < 4 → a = (i : Int) → 0 < m 4 0 → ∀ D : Nat → Nat → Int, WyD (pw (m 193)) D → AskV (pw (m 193)) D (m (146 + 2 * i + 1)) n tr (ccW (pw (m 193))) (m (146 + 2 * i) 2) v)) := by
  have b1 := gb_193_1 hm
  obtain ⟨D0, hD0⟩ := ex_D hT hm hx
  have one : ∀ D : Nat → Nat → Int, WyD (pw (m 193)) D → _ := fun D hD => zz_49 hT hm hp (WD_w r.1 (pw_ag (m 193))) (wbf_pw hm) hD (n := n) (by rw [pw_at (by decide) (by decide)]; exact hn) (by omega) na (tr := tr) (by rw [pw_at (by decide) (by decide)]; exact h5) a
  exact gx_imp (gx_alli (one D0 (wyD_pw.mpr hD0)) (fun D : {D : Nat → Nat → Int // WyD (pw (m 193)) D} => one D.1 D.2)) (fun v m1 ⟨y, e, p, q⟩ => ⟨y, e, p.1, fun i hi h2 h3 D h => (q ⟨D, h⟩).2 i hi h2 h3⟩)
end LOOK
