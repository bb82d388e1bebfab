/-! the search of the class from its beginning -/
theorem r_246_0 : row 246 0 = some (.aload_n 0, 1, 0, 0, 0, 0) := rfl
theorem r_246_1 : row 246 1 = some (.iconst (-1), 2, (-1), 0, 0, 0) := rfl
theorem r_246_2 : row 246 2 = some (.putfield 27, 5, 2, 4, 0, 2073) := rfl
theorem r_246_5 : row 246 5 = some (.aload_n 0, 6, 0, 0, 0, 0) := rfl
theorem r_246_6 : row 246 6 = some (.iconst 0, 7, 0, 0, 0, 0) := rfl
theorem r_246_7 : row 246 7 = some (.putfield 31, 10, 2, 5, 0, 2075) := rfl
theorem r_246_10 : row 246 10 = some (.aload_n 0, 11, 0, 0, 0, 0) := rfl
theorem r_246_11 : row 246 11 = some (.aload_n 1, 12, 0, 0, 0, 0) := rfl
theorem r_246_12 : row 246 12 = some (.getfield 38, 15, 3, 2, 10, 1074) := rfl
theorem r_246_15 : row 246 15 = some (.bipush 12, 17, 12, 0, 0, 0) := rfl
theorem r_246_17 : row 246 17 = some (.invokestatic 43, 20, (-4), 2, 0, 4207) := rfl
theorem r_246_20 : row 246 20 = some (.iconst 1, 21, 1, 0, 0, 0) := rfl
theorem r_246_21 : row 246 21 = some (.isub, 22, 0, 0, 0, 0) := rfl
theorem r_246_22 : row 246 22 = some (.putfield 34, 25, 2, 6, 0, 2077) := rfl
theorem r_246_25 : row 246 25 = some (.iconst 0, 26, 0, 0, 0, 0) := rfl
theorem r_246_26 : row 246 26 = some (.istore_n 2, 27, 0, 0, 0, 0) := rfl
theorem r_246_27 : row 246 27 = some (.iload_n 2, 28, 0, 0, 0, 0) := rfl
theorem r_246_28 : row 246 28 = some (.aload_n 1, 29, 0, 0, 0, 0) := rfl
theorem r_246_29 : row 246 29 = some (.getfield 49, 32, 3, 1, 10, 1070) := rfl
theorem r_246_32 : row 246 32 = some (.if_icmp .ge 22, 35, 54, 0, 0, 0) := rfl
theorem r_246_35 : row 246 35 = some (.aload_n 0, 36, 0, 0, 0, 0) := rfl
theorem r_246_36 : row 246 36 = some (.getfield 24, 39, 2, 3, 2, 2072) := rfl
theorem r_246_39 : row 246 39 = some (.iload_n 2, 40, 0, 0, 0, 0) := rfl
theorem r_246_40 : row 246 40 = some (.aload_n 1, 41, 0, 0, 0, 0) := rfl
theorem r_246_41 : row 246 41 = some (.iload_n 2, 42, 0, 0, 0, 0) := rfl
theorem r_246_42 : row 246 42 = some (.invokestatic 52, 45, 247, 2, 0, 4208) := rfl
theorem r_246_45 : row 246 45 = some (.invokestatic 56, 48, 238, 3, 10, 4213) := rfl
theorem r_246_48 : row 246 48 = some (.iinc 2 1, 51, 0, 0, 0, 0) := rfl
theorem r_246_51 : row 246 51 = some (.goto (-24), 54, 27, 0, 0, 0) := rfl
theorem r_246_54 : row 246 54 = some (.aload_n 0, 55, 0, 0, 0, 0) := rfl
theorem r_246_55 : row 246 55 = some (.getfield 11, 58, 2, 0, 2, 2068) := rfl
theorem r_246_58 : row 246 58 = some (.arraylength, 59, 0, 0, 0, 0) := rfl
theorem r_246_59 : row 246 59 = some (.ifCond .le 25, 62, 84, 0, 0, 0) := rfl
theorem r_246_62 : row 246 62 = some (.aload_n 0, 63, 0, 0, 0, 0) := rfl
theorem r_246_63 : row 246 63 = some (.getfield 11, 66, 2, 0, 2, 2068) := rfl
theorem r_246_66 : row 246 66 = some (.iconst 0, 67, 0, 0, 0, 0) := rfl
theorem r_246_67 : row 246 67 = some (.aaload, 68, 0, 0, 0, 0) := rfl
theorem r_246_68 : row 246 68 = some (.aload_n 1, 69, 0, 0, 0, 0) := rfl
theorem r_246_69 : row 246 69 = some (.iconst 0, 70, 0, 0, 0, 0) := rfl
theorem r_246_70 : row 246 70 = some (.aload_n 1, 71, 0, 0, 0, 0) := rfl
theorem r_246_71 : row 246 71 = some (.iconst 0, 72, 0, 0, 0, 0) := rfl
theorem r_246_72 : row 246 72 = some (.invokevirtual 62, 75, 258, 1, 10, 4214) := rfl
theorem r_246_75 : row 246 75 = some (.invokevirtual 66, 78, 266, 3, 10, 4215) := rfl
theorem r_246_78 : row 246 78 = some (.aload_n 0, 79, 0, 0, 0, 0) := rfl
theorem r_246_79 : row 246 79 = some (.aload_n 1, 80, 0, 0, 0, 0) := rfl
theorem r_246_80 : row 246 80 = some (.iconst 0, 81, 0, 0, 0, 0) := rfl
theorem r_246_81 : row 246 81 = some (.invokevirtual 70, 84, 248, 2, 0, 4216) := rfl
theorem r_246_84 : row 246 84 = some (.return_, 85, 0, 0, 0, 0) := rfl
theorem rows_p {w : Wd} {D : Nat → Nat → Int} {np L f h : Nat} {p q : Int} (e : 0 < w 7 → p = q) : rowsH w D np L f h (beginF w 0 p) = rowsH w D np L f h (beginF w 0 q) := by
  by_cases c : 0 < w 7
  · rw [e c]
  · rw [rows_n0 c, rows_n0 c]
theorem v8_begin {w : Wd} {p : Int} : V8s (beginF w 0 p) := ⟨0, by decide, rfl⟩
section SEARCH
variable {T : List Kd} {m : Mm}
theorem s_258 (hT : TT T) {o : Nat} (ho : IsleT T o) (hor : IsleR m o) {k : Nat} (hk : k < 5) : GX T 1 258 0 [(2, (o : Int)), (0, (k : Int))] [] m (RI (fun v m1 => v = m (o + 5) k ∧ m1 = m)) := by
  have ho0 := ho.1
  refine gx_st (L' := [(2, (o : Int)), (0, (k : Int))]) (S' := [(2, (o : Int))]) r_258_0 rfl rfl rfl ?_
  refine gx_gf (x := (o : Int) + 5) 2 r_258_1 (rfl) (tisle_0 ho) ⟨by omega, rfl, by decide, by decide⟩ rfl (fun _ => by omega) (hor.2.2.2.2.1) ?_
  refine gx_st (L' := [(2, (o : Int)), (0, (k : Int))]) (S' := [(0, (k : Int)), (2, (o : Int) + 5)]) r_258_4 rfl rfl rfl ?_
  refine gx_ci (nx := 8) (S2 := []) (c_237 (r := o + 5) (n := 5) (tisle_5 ho) (by omega) (by decide) hk) r_258_5 rfl rfl rfl rfl rfl rfl rfl (by decide) rfl (fun x5 n5 q5 => ?_)
  obtain rfl := q5.1.symm
  obtain rfl := q5.2.symm
  show GX T 1 258 8 [(2, (o : Int)), (0, (k : Int))] [(0, (m (o + 5) k))] m (RI (fun v m1 => v = m (o + 5) k ∧ m1 = m))
  exact gx_rt r_258_8 rfl rfl ⟨_, rfl, ⟨rfl, rfl⟩⟩
theorem sb_l (hT : TT T) {o : Nat} (ho : IsleT T o) {w : Wd} (hR : WR w) (hF : WBf w) {D : Nat → Nat → Int} (hD : WyD w D) {np : Nat} (hnp : w 0 = (np : Int)) {n : Nat} (hn : w 1 = (n : Int)) (hn12 : n ≤ 12) {g : Nat} (hgt : HuntT T g) (hdo : g + 44 ≤ o ∨ o + 9 ≤ g) : ∀ (N k : Nat) (m : Mm), np - k < N → k ≤ np → HuntR m g → IsleR m o → WD m o w → m g 4 = -1 → m g 5 = 0 → m g 6 = (n : Int) - 1 → (∀ i : Nat, i < k → m (g + 4) i = bwF w D i) → GX T 18 246 27 [(2, (g : Int)), (2, (o : Int)), (0, (k : Int))] [] m (RV (fun m1 => HuntS m1 g ((n : Int) - 1) (fun L => rowsH w D np L 13 0 (beginF w 0 (w 47))) ∧ ∀ p i : Nat, (p < g ∨ g + 44 ≤ p) → m1 p i = m p i)) := by
  have ho0 := ho.1
  have hg0 := hgt.1
  intro N
  induction N with
  | zero => intro k m hN; exact absurd hN (Nat.not_lt_zero _)
  | succ N ih =>
    intro k m hN hk hg hor hw e4 e5 e6 hb
    have b0 := hw.2.1.1
    refine gx_st (L' := [(2, (g : Int)), (2, (o : Int)), (0, (k : Int))]) (S' := [(0, (k : Int))]) r_246_27 rfl rfl rfl ?_
    refine gx_st (L' := [(2, (g : Int)), (2, (o : Int)), (0, (k : Int))]) (S' := [(2, (o : Int)), (0, (k : Int))]) r_246_28 rfl rfl rfl ?_
    refine gx_gf (x := (np : Int)) 0 r_246_29 (rfl) (tisle_0 ho) ⟨by omega, rfl, by decide, by decide⟩ rfl (fun z => absurd z (by decide)) ((wd_pl hw).trans hnp) ?_
    refine gx_ic (P := (np : Int) ≤ (k : Int)) r_246_32 (rfl) (fun h32 => ?_) (fun h32 => ?_)
    · refine gx_st (L' := [(2, (g : Int)), (2, (o : Int)), (0, (k : Int))]) (S' := [(2, (g : Int))]) r_246_54 rfl rfl rfl ?_
      refine gx_gf (x := (g : Int) + 1) 2 r_246_55 (rfl) (thunt_0 hgt) ⟨by omega, rfl, by decide, by decide⟩ rfl (fun _ => by omega) (hg.1) ?_
      refine gx_al r_246_58 (by omega) (thunt_1 hgt) ⟨by decide, by decide, by decide⟩ ?_
      show GX T 18 246 59 [(2, (g : Int)), (2, (o : Int)), (0, (k : Int))] [(0, 13)] m (RV (fun m1 => HuntS m1 g ((n : Int) - 1) (fun L => rowsH w D np L 13 0 (beginF w 0 (w 47))) ∧ ∀ p i : Nat, (p < g ∨ g + 44 ≤ p) → m1 p i = m p i))
      refine gx_i0 (P := 13 ≤ 0) r_246_59 (rfl) (fun h59 => ?_) (fun h59 => ?_)
      · omega
      · have hkn : k = np := by omega
        obtain ⟨r, hr⟩ : ∃ r : Nat, r = g + 5 := ⟨_, rfl⟩
        have tr := hgt.2.2.2.2.2.2 0 (by decide)
        rw [show g + 5 + 3 * 0 = r by omega] at tr
        have hrr := (hg.2.2.2.2 0 (by decide)).2
        rw [show g + 5 + 3 * 0 = r by omega] at hrr
        have tr0 := tr.1
        refine gx_st (L' := [(2, (g : Int)), (2, (o : Int)), (0, (k : Int))]) (S' := [(2, (g : Int))]) r_246_62 rfl rfl rfl ?_
        refine gx_gf (x := (g : Int) + 1) 2 r_246_63 (rfl) (thunt_0 hgt) ⟨by omega, rfl, by decide, by decide⟩ rfl (fun _ => by omega) (hg.1) ?_
        refine gx_st (L' := [(2, (g : Int)), (2, (o : Int)), (0, (k : Int))]) (S' := [(0, 0), (2, (g : Int) + 1)]) r_246_66 rfl rfl rfl ?_
        refine gx_aa (n := 0) (x := (r : Int)) r_246_67 (by omega) (by omega) (thunt_1 hgt) (rfl) ⟨by decide, by decide, by decide⟩ (by rw [(hg.2.2.2.2 0 (by decide)).1, hr]; omega) (by omega) ?_
        refine gx_st (L' := [(2, (g : Int)), (2, (o : Int)), (0, (k : Int))]) (S' := [(2, (o : Int)), (2, (r : Int))]) r_246_68 rfl rfl rfl ?_
        refine gx_st (L' := [(2, (g : Int)), (2, (o : Int)), (0, (k : Int))]) (S' := [(0, 0), (2, (o : Int)), (2, (r : Int))]) r_246_69 rfl rfl rfl ?_
        refine gx_st (L' := [(2, (g : Int)), (2, (o : Int)), (0, (k : Int))]) (S' := [(2, (o : Int)), (0, 0), (2, (o : Int)), (2, (r : Int))]) r_246_70 rfl rfl rfl ?_
        refine gx_st (L' := [(2, (g : Int)), (2, (o : Int)), (0, (k : Int))]) (S' := [(0, 0), (2, (o : Int)), (0, 0), (2, (o : Int)), (2, (r : Int))]) r_246_71 rfl rfl rfl ?_
        refine gx_ci (nx := 75) (S2 := [(0, 0), (2, (o : Int)), (2, (r : Int))]) (s_258 hT ho hor (k := 0) (by decide)) r_246_72 rfl rfl rfl rfl rfl (rcv_v rfl (tisle_0 ho) (by omega) rfl (by decide)) rfl (by decide) rfl (fun x72 n72 q72 => ?_)
        obtain rfl := q72.1.symm
        obtain rfl := q72.2.symm
        show GX T 18 246 75 [(2, (g : Int)), (2, (o : Int)), (0, (k : Int))] [(0, (m (o + 5) 0)), (0, 0), (2, (o : Int)), (2, (r : Int))] m (RV (fun m1 => HuntS m1 g ((n : Int) - 1) (fun L => rowsH w D np L 13 0 (beginF w 0 (w 47))) ∧ ∀ p i : Nat, (p < g ∨ g + 44 ≤ p) → m1 p i = m p i))
        refine gx_cv (nx := 78) (S2 := []) (h_266 hT ho hor hw tr hrr (by omega) 0 (m (o + 5) 0)) r_246_75 rfl rfl rfl rfl rfl (rcv_v rfl (tride_0 tr) (by omega) rfl (by decide)) rfl (by decide) rfl (fun n75 q75 => ?_)
        obtain ⟨rs, fo, w7⟩ := q75
        have fn : ∀ p i : Nat, (p < g + 5 ∨ g + 44 ≤ p) → n75 p i = m p i := fun p i z => fo p i (by omega) (by omega) (by omega)
        have hg2 : HuntR n75 g := by
          obtain ⟨h0, h1, h2, h3, h4⟩ := hg
          refine ⟨(fn g 0 (by omega)).trans h0, (fn g 1 (by omega)).trans h1, (fn g 2 (by omega)).trans h2, (fn g 3 (by omega)).trans h3, fun i hi => ⟨(fn (g + 1) i (by omega)).trans (h4 i hi).1, ?_⟩⟩
          obtain ⟨a2, a3⟩ := (h4 i hi).2
          exact ⟨(fo (g + 5 + 3 * i) 8 (by omega) (by omega) (by omega)).trans a2, (fo (g + 5 + 3 * i) 9 (by omega) (by omega) (by omega)).trans a3⟩
        have hor2 : IsleR n75 o := by
          unfold IsleR at hor ⊢
          rw [fn o 10 (by omega), fn o 11 (by omega), fn o 12 (by omega), fn o 13 (by omega), fn o 14 (by omega), fn o 15 (by omega), fn o 16 (by omega), fn o 17 (by omega)]
          exact hor
        have hw2 : WD n75 o w := WD_eq hw (fun p i p1 p2 _ => fn p i (by omega))
        show GX T 18 246 78 [(2, (g : Int)), (2, (o : Int)), (0, (k : Int))] [] n75 (RV (fun m1 => HuntS m1 g ((n : Int) - 1) (fun L => rowsH w D np L 13 0 (beginF w 0 (w 47))) ∧ ∀ p i : Nat, (p < g ∨ g + 44 ≤ p) → m1 p i = m p i))
        refine gx_st (L' := [(2, (g : Int)), (2, (o : Int)), (0, (k : Int))]) (S' := [(2, (g : Int))]) r_246_78 rfl rfl rfl ?_
        refine gx_st (L' := [(2, (g : Int)), (2, (o : Int)), (0, (k : Int))]) (S' := [(2, (o : Int)), (2, (g : Int))]) r_246_79 rfl rfl rfl ?_
        refine gx_st (L' := [(2, (g : Int)), (2, (o : Int)), (0, (k : Int))]) (S' := [(0, 0), (2, (o : Int)), (2, (g : Int))]) r_246_80 rfl rfl rfl ?_
        have b7 := hw.2.1.2.2.2.2.1
        have pl := hw.2.2.2.2.2 0 (by decide)
        have ep : 0 < w 7 → m (o + 5) 0 = w 47 := fun z => (wd_bear hw (b := 0) z).1
        have sb : SB w (beginF w 0 (m (o + 5) 0)) 0 := sb_begin hF.1 hF.2 (by omega) (fun z => by rw [ep z]; exact ⟨(pl z).1, (pl z).2.1⟩)
        refine gx_cv (nx := 84) (S2 := []) (z_248 hT ho hw2.2.2.2 hR hD hnp hgt hdo (lim0 := (n : Int) - 1) (by omega) 13 0 n75 r (beginF w 0 (m (o + 5) 0)) [] (fun _ => []) rfl (by omega) rfl ⟨hg2, hor2, hw2, fun p hp => (fn (g + 4) p (by omega)).trans (hb p (by omega)), rs, Or.inl w7, fun i hi => absurd hi (Nat.not_lt_zero _)⟩ sb (fun _ => ⟨v8_begin, show (0 : Int) ≤ 0 by decide, show (0 : Int) ≤ 14 by decide⟩) (Or.inl ⟨(fn g 4 (by omega)).trans e4, (fn g 5 (by omega)).trans e5, (fn g 6 (by omega)).trans e6, fun _ _ => rfl⟩)) r_246_81 rfl rfl rfl rfl rfl (rcv_v rfl (thunt_0 hgt) (by omega) rfl (by decide)) rfl (by decide) rfl (fun n81 q81 => ?_)
        obtain ⟨hs, _, fh, _⟩ := q81
        show GX T 18 246 84 [(2, (g : Int)), (2, (o : Int)), (0, (k : Int))] [] n81 (RV (fun m1 => HuntS m1 g ((n : Int) - 1) (fun L => rowsH w D np L 13 0 (beginF w 0 (w 47))) ∧ ∀ p i : Nat, (p < g ∨ g + 44 ≤ p) → m1 p i = m p i))
        refine gx_rt r_246_84 rfl rfl ⟨rfl, hunts_ext hs (fun L _ => ?_), fun p i z => (fh p i (by omega) (by omega) (by omega) (by omega)).trans (fn p i (by omega))⟩
        show rowsH w D np L 13 0 (beginF w 0 (w 47)) = [] ++ (rowsH w D np L 13 0 (beginF w 0 (m (o + 5) 0))).map (fun z => [] ++ z)
        rw [rows_p ep]
        exact (List.map_id' _).symm
    · refine gx_st (L' := [(2, (g : Int)), (2, (o : Int)), (0, (k : Int))]) (S' := [(2, (g : Int))]) r_246_35 rfl rfl rfl ?_
      refine gx_gf (x := (g : Int) + 4) 2 r_246_36 (rfl) (thunt_0 hgt) ⟨by omega, rfl, by decide, by decide⟩ rfl (fun _ => by omega) (hg.2.2.2.1) ?_
      refine gx_st (L' := [(2, (g : Int)), (2, (o : Int)), (0, (k : Int))]) (S' := [(0, (k : Int)), (2, (g : Int) + 4)]) r_246_39 rfl rfl rfl ?_
      refine gx_st (L' := [(2, (g : Int)), (2, (o : Int)), (0, (k : Int))]) (S' := [(2, (o : Int)), (0, (k : Int)), (2, (g : Int) + 4)]) r_246_40 rfl rfl rfl ?_
      refine gx_st (L' := [(2, (g : Int)), (2, (o : Int)), (0, (k : Int))]) (S' := [(0, (k : Int)), (2, (o : Int)), (0, (k : Int)), (2, (g : Int) + 4)]) r_246_41 rfl rfl rfl ?_
      refine gx_ci (nx := 45) (S2 := [(0, (k : Int)), (2, (g : Int) + 4)]) (z_247 hT ho hor hw hD (p := k) (by omega)) r_246_42 rfl rfl rfl rfl rfl rfl rfl (by decide) rfl (fun x42 n42 q42 => ?_)
      obtain rfl := q42.1.symm
      obtain rfl := q42.2.symm
      show GX T 18 246 45 [(2, (g : Int)), (2, (o : Int)), (0, (k : Int))] [(0, (bwF w D k)), (0, (k : Int)), (2, (g : Int) + 4)] m (RV (fun m1 => HuntS m1 g ((n : Int) - 1) (fun L => rowsH w D np L 13 0 (beginF w 0 (w 47))) ∧ ∀ p i : Nat, (p < g ∨ g + 44 ≤ p) → m1 p i = m p i))
      refine gx_cv (nx := 48) (S2 := []) (c_238 (r := g + 4) (n := 7) (thunt_4 hgt) (by omega) (by decide) (k := k) (by omega) (bwF w D k)) r_246_45 rfl rfl rfl rfl rfl rfl rfl (by decide) rfl (fun n45 q45 => ?_)
      have e_n45 : n45 = nu_up m (g + 4) k (bwF w D k) := q45
      show GX T 18 246 48 [(2, (g : Int)), (2, (o : Int)), (0, (k : Int))] [] n45 (RV (fun m1 => HuntS m1 g ((n : Int) - 1) (fun L => rowsH w D np L 13 0 (beginF w 0 (w 47))) ∧ ∀ p i : Nat, (p < g ∨ g + 44 ≤ p) → m1 p i = m p i))
      refine gx_li (z := (k : Int) + 1) (L' := [(2, (g : Int)), (2, (o : Int)), (0, (k : Int) + 1)]) r_246_48 rfl (w32_eq (by omega) (by omega) (by omega)) rfl ?_
      refine gx_st (L' := [(2, (g : Int)), (2, (o : Int)), (0, (k : Int) + 1)]) (S' := []) r_246_51 rfl rfl rfl ?_
      have fn : ∀ p i : Nat, ¬ p = g + 4 → n45 p i = m p i := fun p i z => by rw [e_n45]; exact nu_no z
      rw [show (k : Int) + 1 = ((k + 1 : Nat) : Int) from rfl]
      refine gx_imp (ih (k + 1) n45 (by omega) (by omega) (huntr_eq hg (fun q i z => fn q i (by rcases z with z | z | z <;> omega))) ?_ (WD_eq hw (fun p i p1 p2 _ => fn p i (by omega))) ((fn g 4 (by omega)).trans e4) ((fn g 5 (by omega)).trans e5) ((fn g 6 (by omega)).trans e6) (fun i hi => ?_)) (fun v m1 ⟨y, a, b⟩ => ⟨y, a, fun p i z => (b p i z).trans (fn p i (by omega))⟩)
      · unfold IsleR at hor ⊢
        rw [fn o 10 (by omega), fn o 11 (by omega), fn o 12 (by omega), fn o 13 (by omega), fn o 14 (by omega), fn o 15 (by omega), fn o 16 (by omega), fn o 17 (by omega)]
        exact hor
      · by_cases c : i = k
        · rw [c, e_n45, nu_at]
        · rw [e_n45, nu_ne c]; exact hb i (by omega)
theorem z_246 (hT : TT T) {o : Nat} (ho : IsleT T o) {w : Wd} (hR : WR w) (hF : WBf w) {D : Nat → Nat → Int} (hD : WyD w D) {np : Nat} (hnp : w 0 = (np : Int)) {n : Nat} (hn : w 1 = (n : Int)) (hn12 : n ≤ 12) {g : Nat} (hgt : HuntT T g) (hdo : g + 44 ≤ o ∨ o + 9 ≤ g) (hg : HuntR m g) (hor : IsleR m o) (hw : WD m o w) : GX T 18 246 0 [(2, (g : Int)), (2, (o : Int)), (9, 0)] [] m (RV (fun m1 => HuntS m1 g ((n : Int) - 1) (fun L => rowsH w D np L 13 0 (beginF w 0 (w 47))) ∧ ∀ p i : Nat, (p < g ∨ g + 44 ≤ p) → m1 p i = m p i)) := by
  have ho0 := ho.1
  have hg0 := hgt.1
  refine gx_st (L' := [(2, (g : Int)), (2, (o : Int)), (9, 0)]) (S' := [(2, (g : Int))]) r_246_0 rfl rfl rfl ?_
  refine gx_st (L' := [(2, (g : Int)), (2, (o : Int)), (9, 0)]) (S' := [(0, (-1)), (2, (g : Int))]) r_246_1 rfl rfl rfl ?_
  obtain ⟨m1, e_m1⟩ : ∃ z, z = nu_up m g 4 (-1) := ⟨_, rfl⟩
  refine gx_pf (x := (-1)) 0 r_246_2 (rfl) (thunt_0 hgt) ⟨by omega, rfl, by decide, by decide⟩ rfl (fun z => absurd z (by decide)) (fun z => absurd z (by decide)) e_m1.symm ?_
  refine gx_st (L' := [(2, (g : Int)), (2, (o : Int)), (9, 0)]) (S' := [(2, (g : Int))]) r_246_5 rfl rfl rfl ?_
  refine gx_st (L' := [(2, (g : Int)), (2, (o : Int)), (9, 0)]) (S' := [(0, 0), (2, (g : Int))]) r_246_6 rfl rfl rfl ?_
  obtain ⟨m2, e_m2⟩ : ∃ z, z = nu_up m1 g 5 0 := ⟨_, rfl⟩
  refine gx_pf (x := 0) 0 r_246_7 (rfl) (thunt_0 hgt) ⟨by omega, rfl, by decide, by decide⟩ rfl (fun z => absurd z (by decide)) (fun z => absurd z (by decide)) e_m2.symm ?_
  refine gx_st (L' := [(2, (g : Int)), (2, (o : Int)), (9, 0)]) (S' := [(2, (g : Int))]) r_246_10 rfl rfl rfl ?_
  refine gx_st (L' := [(2, (g : Int)), (2, (o : Int)), (9, 0)]) (S' := [(2, (o : Int)), (2, (g : Int))]) r_246_11 rfl rfl rfl ?_
  refine gx_gf (x := (n : Int)) 0 r_246_12 (rfl) (tisle_0 ho) ⟨by omega, rfl, by decide, by decide⟩ rfl (fun z => absurd z (by decide)) (by show m2 o 2 = _; rw [e_m2, nu_no (by omega), e_m1, nu_no (by omega)]; exact (wd_ho hw).trans hn) ?_
  refine gx_st (L' := [(2, (g : Int)), (2, (o : Int)), (9, 0)]) (S' := [(0, 12), (0, (n : Int)), (2, (g : Int))]) r_246_15 rfl rfl rfl ?_
  refine gx_st (L' := [(2, (g : Int)), (2, (o : Int)), (9, 0)]) (S' := [(0, (min (n : Int) 12)), (2, (g : Int))]) r_246_17 rfl rfl rfl ?_
  refine gx_st (L' := [(2, (g : Int)), (2, (o : Int)), (9, 0)]) (S' := [(0, 1), (0, (min (n : Int) 12)), (2, (g : Int))]) r_246_20 rfl rfl rfl ?_
  refine gx_ar (L' := [(2, (g : Int)), (2, (o : Int)), (9, 0)]) (S' := [(2, (g : Int))]) (t := 0) (e := w32 (((min (n : Int) 12)) - 1)) (z := (n : Int) - 1) r_246_21 rfl rfl rfl (w32_eq (by omega) (by omega) (by omega)) ?_
  obtain ⟨m3, e_m3⟩ : ∃ z, z = nu_up m2 g 6 ((n : Int) - 1) := ⟨_, rfl⟩
  refine gx_pf (x := (n : Int) - 1) 0 r_246_22 (rfl) (thunt_0 hgt) ⟨by omega, rfl, by decide, by decide⟩ rfl (fun z => absurd z (by decide)) (fun z => absurd z (by decide)) e_m3.symm ?_
  refine gx_st (L' := [(2, (g : Int)), (2, (o : Int)), (9, 0)]) (S' := [(0, 0)]) r_246_25 rfl rfl rfl ?_
  refine gx_st (L' := [(2, (g : Int)), (2, (o : Int)), (0, 0)]) (S' := []) r_246_26 rfl rfl rfl ?_
  have u4 : m3 g 4 = -1 := by rw [e_m3, nu_ne (by decide), e_m2, nu_ne (by decide), e_m1, nu_at]
  have u5 : m3 g 5 = 0 := by rw [e_m3, nu_ne (by decide), e_m2, nu_at]
  have u6 : m3 g 6 = (n : Int) - 1 := by rw [e_m3, nu_at]
  have fn : ∀ p i : Nat, ¬ (p = g ∧ 4 ≤ i ∧ i ≤ 6) → m3 p i = m p i := fun p i z => by
    rw [e_m3, nu_fz (fun y => z ⟨y.1, by omega, by omega⟩), e_m2, nu_fz (fun y => z ⟨y.1, by omega, by omega⟩), e_m1, nu_fz (fun y => z ⟨y.1, by omega, by omega⟩)]
  refine gx_imp (sb_l hT ho hR hF hD hnp hn hn12 hgt hdo (np + 1) 0 m3 (by omega) (by omega) (huntr_eq hg (fun q i z => fn q i (by rcases z with z | z | z <;> omega))) ?_ (WD_eq hw (fun p i p1 p2 _ => fn p i (by omega))) u4 u5 u6 (fun i hi => absurd hi (Nat.not_lt_zero _))) (fun v m1 ⟨y, a, b⟩ => ⟨y, a, fun p i z => (b p i z).trans (fn p i (by omega))⟩)
  unfold IsleR at hor ⊢
  rw [fn o 10 (by omega), fn o 11 (by omega), fn o 12 (by omega), fn o 13 (by omega), fn o 14 (by omega), fn o 15 (by omega), fn o 16 (by omega), fn o 17 (by omega)]
  exact hor
end SEARCH
