/-! the law: its loop, the whole -/
theorem r_316_18 : row 316 18 = some (.iload_n 3, 19, 0, 0, 0, 0) := rfl
theorem r_316_19 : row 316 19 = some (.aload_n 0, 20, 0, 0, 0, 0) := rfl
theorem r_316_20 : row 316 20 = some (.arraylength, 21, 0, 0, 0, 0) := rfl
theorem r_316_21 : row 316 21 = some (.bipush 6, 23, 6, 0, 0, 0) := rfl
theorem r_316_23 : row 316 23 = some (.isub, 24, 0, 0, 0, 0) := rfl
theorem r_316_24 : row 316 24 = some (.if_icmp .gt 2080, 27, 2104, 0, 0, 0) := rfl
theorem r_316_27 : row 316 27 = some (.aload_n 0, 28, 0, 0, 0, 0) := rfl
theorem r_316_28 : row 316 28 = some (.iload_n 3, 29, 0, 0, 0, 0) := rfl
theorem r_316_29 : row 316 29 = some (.iaload, 30, 0, 0, 0, 0) := rfl
theorem r_316_30 : row 316 30 = some (.bipush 127, 32, 127, 0, 0, 0) := rfl
theorem r_316_32 : row 316 32 = some (.iand, 33, 0, 0, 0, 0) := rfl
theorem r_316_33 : row 316 33 = some (.tableswitch 2065 0 69 #[295, 358, 381, 394, 417, 450, 483, 516, 529, 562, 585, 608, 631, 654, 677, 710, 743, 766, 789, 802, 815, 828, 851, 864, 877, 910, 933, 956, 979, 1002, 1015, 1038, 1051, 1074, 1087, 1110, 1123, 1136, 1159, 1172, 1185, 1208, 1231, 1244, 1267, 1280, 1303, 1326, 1349, 1372, 1395, 1428, 1471, 1524, 1567, 1590, 1613, 1636, 1669, 1692, 1705, 1718, 1751, 1784, 1817, 1840, 1863, 1886, 1929, 2002], 328, 0, 0, 0, 0) := rfl
theorem r_316_2098 : row 316 2098 = some (.iinc 3 6, 2101, 0, 0, 0, 0) := rfl
theorem r_316_2101 : row 316 2101 = some (.goto (-2083), 2104, 18, 0, 0, 0) := rfl
theorem r_316_2104 : row 316 2104 = some (.iconst 1, 2105, 1, 0, 0, 0) := rfl
theorem r_316_2105 : row 316 2105 = some (.ireturn, 2106, 0, 0, 0, 0) := rfl
section LAW
variable {T : List Kd} {xs : Nat → Int32} {L i : Nat} {m : Mm}
theorem law_loop (hT : TT T) (h0 : T[0]? = some (100, L)) (hL : L ≤ 3072) : ∀ (N i : Nat) (m : Mm), L + 6 - i < N → i ≤ L + 5 → LI xs m → GX T 1000 316 18 [(2, 0), (2, 1), (2, 192), (0, (i : Int))] [] m (fun v _ => v = (0, 1)) := by
  intro N
  induction N with
  | zero => intro i m hN; exact absurd hN (Nat.not_lt_zero _)
  | succ N ih =>
    intro i m hN hi hl
    refine gx_st (L' := [(2, 0), (2, 1), (2, 192), (0, (i : Int))]) (S' := [(0, (i : Int))]) r_316_18 rfl rfl rfl ?_
    refine gx_st (L' := [(2, 0), (2, 1), (2, 192), (0, (i : Int))]) (S' := [(2, 0), (0, (i : Int))]) r_316_19 rfl rfl rfl ?_
    refine gx_al r_316_20 rfl h0 ⟨by show 100 ≤ 100; decide, by show L < 2147483648; omega, by show 100 < 108; decide⟩ ?_
    show GX T 1000 316 21 [(2, 0), (2, 1), (2, 192), (0, (i : Int))] [(0, (L : Int)), (0, (i : Int))] m (fun v _ => v = (0, 1))
    refine gx_st (L' := [(2, 0), (2, 1), (2, 192), (0, (i : Int))]) (S' := [(0, 6), (0, (L : Int)), (0, (i : Int))]) r_316_21 rfl rfl rfl ?_
    refine gx_ar (L' := [(2, 0), (2, 1), (2, 192), (0, (i : Int))]) (S' := [(0, (i : Int))]) (t := 0) (e := w32 ((L : Int) - 6)) (z := (L : Int) - 6) r_316_23 rfl rfl rfl (w32_eq (by omega) (by omega) (by omega)) ?_
    refine gx_ic (P := (L : Int) - 6 < (i : Int)) r_316_24 (rfl) (fun h24 => ?_) (fun h24 => ?_)
    · refine gx_st (L' := [(2, 0), (2, 1), (2, 192), (0, (i : Int))]) (S' := [(0, 1)]) r_316_2104 rfl rfl rfl ?_
      exact gx_rt r_316_2105 rfl rfl rfl
    · refine gx_st (L' := [(2, 0), (2, 1), (2, 192), (0, (i : Int))]) (S' := [(2, 0)]) r_316_27 rfl rfl rfl ?_
      refine gx_st (L' := [(2, 0), (2, 1), (2, 192), (0, (i : Int))]) (S' := [(0, (i : Int)), (2, 0)]) r_316_28 rfl rfl rfl ?_
      refine gx_ia (n := i) (x := (xs i).toInt) r_316_29 rfl h0 rfl ⟨rfl, by show i < L; omega⟩ (hl.2.2.1 i) ?_
      show GX T 1000 316 30 [(2, 0), (2, 1), (2, 192), (0, (i : Int))] [(0, ((xs i).toInt))] m (fun v _ => v = (0, 1))
      refine gx_st (L' := [(2, 0), (2, 1), (2, 192), (0, (i : Int))]) (S' := [(0, 127), (0, ((xs i).toInt))]) r_316_30 rfl rfl rfl ?_
      refine gx_st (L' := [(2, 0), (2, 1), (2, 192), (0, (i : Int))]) (S' := [(0, (iand (((xs i).toInt)) 127))]) r_316_32 rfl rfl rfl ?_
      have hnext : ∀ m, LI xs m → GX T 1000 316 2098 [(2, 0), (2, 1), (2, 192), (0, (i : Int))] [] m (fun v _ => v = (0, 1)) := by
        intro m hl
        refine gx_li (z := (i : Int) + 6) (L' := [(2, 0), (2, 1), (2, 192), (0, (i : Int) + 6)]) r_316_2098 rfl (w32_eq (by omega) (by omega) (by omega)) rfl ?_
        refine gx_st (L' := [(2, 0), (2, 1), (2, 192), (0, (i : Int) + 6)]) (S' := []) r_316_2101 rfl rfl rfl ?_
        rw [show (i : Int) + 6 = ((i + 6 : Nat) : Int) from rfl]
        exact ih (i + 6) m (by omega) (by omega) hl
      generalize (iand (((xs i).toInt)) 127) = x
      by_cases hd : x < 0 ∨ 69 < x
      · refine gx_td r_316_33 hd (by decide) ?_
        exact hnext m hl
      rcases (show x = 0 ∨ x = 1 ∨ x = 2 ∨ x = 3 ∨ x = 4 ∨ x = 5 ∨ x = 6 ∨ x = 7 ∨ x = 8 ∨ x = 9 ∨ x = 10 ∨ x = 11 ∨ x = 12 ∨ x = 13 ∨ x = 14 ∨ x = 15 ∨ x = 16 ∨ x = 17 ∨ x = 18 ∨ x = 19 ∨ x = 20 ∨ x = 21 ∨ x = 22 ∨ x = 23 ∨ x = 24 ∨ x = 25 ∨ x = 26 ∨ x = 27 ∨ x = 28 ∨ x = 29 ∨ x = 30 ∨ x = 31 ∨ x = 32 ∨ x = 33 ∨ x = 34 ∨ x = 35 ∨ x = 36 ∨ x = 37 ∨ x = 38 ∨ x = 39 ∨ x = 40 ∨ x = 41 ∨ x = 42 ∨ x = 43 ∨ x = 44 ∨ x = 45 ∨ x = 46 ∨ x = 47 ∨ x = 48 ∨ x = 49 ∨ x = 50 ∨ x = 51 ∨ x = 52 ∨ x = 53 ∨ x = 54 ∨ x = 55 ∨ x = 56 ∨ x = 57 ∨ x = 58 ∨ x = 59 ∨ x = 60 ∨ x = 61 ∨ x = 62 ∨ x = 63 ∨ x = 64 ∨ x = 65 ∨ x = 66 ∨ x = 67 ∨ x = 68 ∨ x = 69 by omega) with rfl | rfl | rfl | rfl | rfl | rfl | rfl | rfl | rfl | rfl | rfl | rfl | rfl | rfl | rfl | rfl | rfl | rfl | rfl | rfl | rfl | rfl | rfl | rfl | rfl | rfl | rfl | rfl | rfl | rfl | rfl | rfl | rfl | rfl | rfl | rfl | rfl | rfl | rfl | rfl | rfl | rfl | rfl | rfl | rfl | rfl | rfl | rfl | rfl | rfl | rfl | rfl | rfl | rfl | rfl | rfl | rfl | rfl | rfl | rfl | rfl | rfl | rfl | rfl | rfl | rfl | rfl | rfl | rfl | rfl
      · refine gx_st (nx := 328) (L' := [(2, 0), (2, 1), (2, 192), (0, (i : Int))]) (S' := []) r_316_33 rfl rfl rfl ?_
        exact case_0 hT h0 hL (by omega) hl hnext
      · refine gx_st (nx := 391) (L' := [(2, 0), (2, 1), (2, 192), (0, (i : Int))]) (S' := []) r_316_33 rfl rfl rfl ?_
        exact case_1 hT h0 hL (by omega) hl hnext
      · refine gx_st (nx := 414) (L' := [(2, 0), (2, 1), (2, 192), (0, (i : Int))]) (S' := []) r_316_33 rfl rfl rfl ?_
        exact case_2 hT h0 hL (by omega) hl hnext
      · refine gx_st (nx := 427) (L' := [(2, 0), (2, 1), (2, 192), (0, (i : Int))]) (S' := []) r_316_33 rfl rfl rfl ?_
        exact case_3 hT h0 hL (by omega) hl hnext
      · refine gx_st (nx := 450) (L' := [(2, 0), (2, 1), (2, 192), (0, (i : Int))]) (S' := []) r_316_33 rfl rfl rfl ?_
        exact case_4 hT h0 hL (by omega) hl hnext
      · refine gx_st (nx := 483) (L' := [(2, 0), (2, 1), (2, 192), (0, (i : Int))]) (S' := []) r_316_33 rfl rfl rfl ?_
        exact case_5 hT h0 hL (by omega) hl hnext
      · refine gx_st (nx := 516) (L' := [(2, 0), (2, 1), (2, 192), (0, (i : Int))]) (S' := []) r_316_33 rfl rfl rfl ?_
        exact case_6 hT h0 hL (by omega) hl hnext
      · refine gx_st (nx := 549) (L' := [(2, 0), (2, 1), (2, 192), (0, (i : Int))]) (S' := []) r_316_33 rfl rfl rfl ?_
        exact case_7 hT h0 hL (by omega) hl hnext
      · refine gx_st (nx := 562) (L' := [(2, 0), (2, 1), (2, 192), (0, (i : Int))]) (S' := []) r_316_33 rfl rfl rfl ?_
        exact case_8 hT h0 hL (by omega) hl hnext
      · refine gx_st (nx := 595) (L' := [(2, 0), (2, 1), (2, 192), (0, (i : Int))]) (S' := []) r_316_33 rfl rfl rfl ?_
        exact case_9 hT h0 hL (by omega) hl hnext
      · refine gx_st (nx := 618) (L' := [(2, 0), (2, 1), (2, 192), (0, (i : Int))]) (S' := []) r_316_33 rfl rfl rfl ?_
        exact case_10 hT h0 hL (by omega) hl hnext
      · refine gx_st (nx := 641) (L' := [(2, 0), (2, 1), (2, 192), (0, (i : Int))]) (S' := []) r_316_33 rfl rfl rfl ?_
        exact case_11 hT h0 hL (by omega) hl hnext
      · refine gx_st (nx := 664) (L' := [(2, 0), (2, 1), (2, 192), (0, (i : Int))]) (S' := []) r_316_33 rfl rfl rfl ?_
        exact case_12 hT h0 hL (by omega) hl hnext
      · refine gx_st (nx := 687) (L' := [(2, 0), (2, 1), (2, 192), (0, (i : Int))]) (S' := []) r_316_33 rfl rfl rfl ?_
        exact case_13 hT h0 hL (by omega) hl hnext
      · refine gx_st (nx := 710) (L' := [(2, 0), (2, 1), (2, 192), (0, (i : Int))]) (S' := []) r_316_33 rfl rfl rfl ?_
        exact case_14 hT h0 hL (by omega) hl hnext
      · refine gx_st (nx := 743) (L' := [(2, 0), (2, 1), (2, 192), (0, (i : Int))]) (S' := []) r_316_33 rfl rfl rfl ?_
        exact case_15 hT h0 hL (by omega) hl hnext
      · refine gx_st (nx := 776) (L' := [(2, 0), (2, 1), (2, 192), (0, (i : Int))]) (S' := []) r_316_33 rfl rfl rfl ?_
        exact case_16 hT h0 hL (by omega) hl hnext
      · refine gx_st (nx := 799) (L' := [(2, 0), (2, 1), (2, 192), (0, (i : Int))]) (S' := []) r_316_33 rfl rfl rfl ?_
        exact case_17 hT h0 hL (by omega) hl hnext
      · refine gx_st (nx := 822) (L' := [(2, 0), (2, 1), (2, 192), (0, (i : Int))]) (S' := []) r_316_33 rfl rfl rfl ?_
        exact case_18 hT h0 hL (by omega) hl hnext
      · refine gx_st (nx := 835) (L' := [(2, 0), (2, 1), (2, 192), (0, (i : Int))]) (S' := []) r_316_33 rfl rfl rfl ?_
        exact case_19 hT h0 hL (by omega) hl hnext
      · refine gx_st (nx := 848) (L' := [(2, 0), (2, 1), (2, 192), (0, (i : Int))]) (S' := []) r_316_33 rfl rfl rfl ?_
        exact case_20 hT h0 hL (by omega) hl hnext
      · refine gx_st (nx := 861) (L' := [(2, 0), (2, 1), (2, 192), (0, (i : Int))]) (S' := []) r_316_33 rfl rfl rfl ?_
        exact case_21 hT h0 hL (by omega) hl hnext
      · refine gx_st (nx := 884) (L' := [(2, 0), (2, 1), (2, 192), (0, (i : Int))]) (S' := []) r_316_33 rfl rfl rfl ?_
        exact case_22 hT h0 hL (by omega) hl hnext
      · refine gx_st (nx := 897) (L' := [(2, 0), (2, 1), (2, 192), (0, (i : Int))]) (S' := []) r_316_33 rfl rfl rfl ?_
        exact case_23 hT h0 hL (by omega) hl hnext
      · refine gx_st (nx := 910) (L' := [(2, 0), (2, 1), (2, 192), (0, (i : Int))]) (S' := []) r_316_33 rfl rfl rfl ?_
        exact case_24 hT h0 hL (by omega) hl hnext
      · refine gx_st (nx := 943) (L' := [(2, 0), (2, 1), (2, 192), (0, (i : Int))]) (S' := []) r_316_33 rfl rfl rfl ?_
        exact case_25 hT h0 hL (by omega) hl hnext
      · refine gx_st (nx := 966) (L' := [(2, 0), (2, 1), (2, 192), (0, (i : Int))]) (S' := []) r_316_33 rfl rfl rfl ?_
        exact case_26 hT h0 hL (by omega) hl hnext
      · refine gx_st (nx := 989) (L' := [(2, 0), (2, 1), (2, 192), (0, (i : Int))]) (S' := []) r_316_33 rfl rfl rfl ?_
        exact case_27 hT h0 hL (by omega) hl hnext
      · refine gx_st (nx := 1012) (L' := [(2, 0), (2, 1), (2, 192), (0, (i : Int))]) (S' := []) r_316_33 rfl rfl rfl ?_
        exact case_28 hT h0 hL (by omega) hl hnext
      · refine gx_st (nx := 1035) (L' := [(2, 0), (2, 1), (2, 192), (0, (i : Int))]) (S' := []) r_316_33 rfl rfl rfl ?_
        exact case_29 hT h0 hL (by omega) hl hnext
      · refine gx_st (nx := 1048) (L' := [(2, 0), (2, 1), (2, 192), (0, (i : Int))]) (S' := []) r_316_33 rfl rfl rfl ?_
        exact case_30 hT h0 hL (by omega) hl hnext
      · refine gx_st (nx := 1071) (L' := [(2, 0), (2, 1), (2, 192), (0, (i : Int))]) (S' := []) r_316_33 rfl rfl rfl ?_
        exact case_31 hT h0 hL (by omega) hl hnext
      · refine gx_st (nx := 1084) (L' := [(2, 0), (2, 1), (2, 192), (0, (i : Int))]) (S' := []) r_316_33 rfl rfl rfl ?_
        exact case_32 hT h0 hL (by omega) hl hnext
      · refine gx_st (nx := 1107) (L' := [(2, 0), (2, 1), (2, 192), (0, (i : Int))]) (S' := []) r_316_33 rfl rfl rfl ?_
        exact case_33 hT h0 hL (by omega) hl hnext
      · refine gx_st (nx := 1120) (L' := [(2, 0), (2, 1), (2, 192), (0, (i : Int))]) (S' := []) r_316_33 rfl rfl rfl ?_
        exact case_34 hT h0 hL (by omega) hl hnext
      · refine gx_st (nx := 1143) (L' := [(2, 0), (2, 1), (2, 192), (0, (i : Int))]) (S' := []) r_316_33 rfl rfl rfl ?_
        exact case_35 hT h0 hL (by omega) hl hnext
      · refine gx_st (nx := 1156) (L' := [(2, 0), (2, 1), (2, 192), (0, (i : Int))]) (S' := []) r_316_33 rfl rfl rfl ?_
        exact case_36 hT h0 hL (by omega) hl hnext
      · refine gx_st (nx := 1169) (L' := [(2, 0), (2, 1), (2, 192), (0, (i : Int))]) (S' := []) r_316_33 rfl rfl rfl ?_
        exact case_37 hT h0 hL (by omega) hl hnext
      · refine gx_st (nx := 1192) (L' := [(2, 0), (2, 1), (2, 192), (0, (i : Int))]) (S' := []) r_316_33 rfl rfl rfl ?_
        exact case_38 hT h0 hL (by omega) hl hnext
      · refine gx_st (nx := 1205) (L' := [(2, 0), (2, 1), (2, 192), (0, (i : Int))]) (S' := []) r_316_33 rfl rfl rfl ?_
        exact case_39 hT h0 hL (by omega) hl hnext
      · refine gx_st (nx := 1218) (L' := [(2, 0), (2, 1), (2, 192), (0, (i : Int))]) (S' := []) r_316_33 rfl rfl rfl ?_
        exact case_40 hT h0 hL (by omega) hl hnext
      · refine gx_st (nx := 1241) (L' := [(2, 0), (2, 1), (2, 192), (0, (i : Int))]) (S' := []) r_316_33 rfl rfl rfl ?_
        exact case_41 hT h0 hL (by omega) hl hnext
      · refine gx_st (nx := 1264) (L' := [(2, 0), (2, 1), (2, 192), (0, (i : Int))]) (S' := []) r_316_33 rfl rfl rfl ?_
        exact case_42 hT h0 hL (by omega) hl hnext
      · refine gx_st (nx := 1277) (L' := [(2, 0), (2, 1), (2, 192), (0, (i : Int))]) (S' := []) r_316_33 rfl rfl rfl ?_
        exact case_43 hT h0 hL (by omega) hl hnext
      · refine gx_st (nx := 1300) (L' := [(2, 0), (2, 1), (2, 192), (0, (i : Int))]) (S' := []) r_316_33 rfl rfl rfl ?_
        exact case_44 hT h0 hL (by omega) hl hnext
      · refine gx_st (nx := 1313) (L' := [(2, 0), (2, 1), (2, 192), (0, (i : Int))]) (S' := []) r_316_33 rfl rfl rfl ?_
        exact case_45 hT h0 hL (by omega) hl hnext
      · refine gx_st (nx := 1336) (L' := [(2, 0), (2, 1), (2, 192), (0, (i : Int))]) (S' := []) r_316_33 rfl rfl rfl ?_
        exact case_46 hT h0 hL (by omega) hl hnext
      · refine gx_st (nx := 1359) (L' := [(2, 0), (2, 1), (2, 192), (0, (i : Int))]) (S' := []) r_316_33 rfl rfl rfl ?_
        exact case_47 hT h0 hL (by omega) hl hnext
      · refine gx_st (nx := 1382) (L' := [(2, 0), (2, 1), (2, 192), (0, (i : Int))]) (S' := []) r_316_33 rfl rfl rfl ?_
        exact case_48 hT h0 hL (by omega) hl hnext
      · refine gx_st (nx := 1405) (L' := [(2, 0), (2, 1), (2, 192), (0, (i : Int))]) (S' := []) r_316_33 rfl rfl rfl ?_
        exact case_49 hT h0 hL (by omega) hl hnext
      · refine gx_st (nx := 1428) (L' := [(2, 0), (2, 1), (2, 192), (0, (i : Int))]) (S' := []) r_316_33 rfl rfl rfl ?_
        exact case_50 hT h0 hL (by omega) hl hnext
      · refine gx_st (nx := 1461) (L' := [(2, 0), (2, 1), (2, 192), (0, (i : Int))]) (S' := []) r_316_33 rfl rfl rfl ?_
        exact case_51 hT h0 hL (by omega) hl hnext
      · refine gx_st (nx := 1504) (L' := [(2, 0), (2, 1), (2, 192), (0, (i : Int))]) (S' := []) r_316_33 rfl rfl rfl ?_
        exact case_52 hT h0 hL (by omega) hl hnext
      · refine gx_st (nx := 1557) (L' := [(2, 0), (2, 1), (2, 192), (0, (i : Int))]) (S' := []) r_316_33 rfl rfl rfl ?_
        exact case_53 hT h0 hL (by omega) hl hnext
      · refine gx_st (nx := 1600) (L' := [(2, 0), (2, 1), (2, 192), (0, (i : Int))]) (S' := []) r_316_33 rfl rfl rfl ?_
        exact case_54 hT h0 hL (by omega) hl hnext
      · refine gx_st (nx := 1623) (L' := [(2, 0), (2, 1), (2, 192), (0, (i : Int))]) (S' := []) r_316_33 rfl rfl rfl ?_
        exact case_55 hT h0 hL (by omega) hl hnext
      · refine gx_st (nx := 1646) (L' := [(2, 0), (2, 1), (2, 192), (0, (i : Int))]) (S' := []) r_316_33 rfl rfl rfl ?_
        exact case_56 hT h0 hL (by omega) hl hnext
      · refine gx_st (nx := 1669) (L' := [(2, 0), (2, 1), (2, 192), (0, (i : Int))]) (S' := []) r_316_33 rfl rfl rfl ?_
        exact case_57 hT h0 hL (by omega) hl hnext
      · refine gx_st (nx := 1702) (L' := [(2, 0), (2, 1), (2, 192), (0, (i : Int))]) (S' := []) r_316_33 rfl rfl rfl ?_
        exact case_58 hT h0 hL (by omega) hl hnext
      · refine gx_st (nx := 1725) (L' := [(2, 0), (2, 1), (2, 192), (0, (i : Int))]) (S' := []) r_316_33 rfl rfl rfl ?_
        exact case_59 hT h0 hL (by omega) hl hnext
      · refine gx_st (nx := 1738) (L' := [(2, 0), (2, 1), (2, 192), (0, (i : Int))]) (S' := []) r_316_33 rfl rfl rfl ?_
        exact case_60 hT h0 hL (by omega) hl hnext
      · refine gx_st (nx := 1751) (L' := [(2, 0), (2, 1), (2, 192), (0, (i : Int))]) (S' := []) r_316_33 rfl rfl rfl ?_
        exact case_61 hT h0 hL (by omega) hl hnext
      · refine gx_st (nx := 1784) (L' := [(2, 0), (2, 1), (2, 192), (0, (i : Int))]) (S' := []) r_316_33 rfl rfl rfl ?_
        exact case_62 hT h0 hL (by omega) hl hnext
      · refine gx_st (nx := 1817) (L' := [(2, 0), (2, 1), (2, 192), (0, (i : Int))]) (S' := []) r_316_33 rfl rfl rfl ?_
        exact case_63 hT h0 hL (by omega) hl hnext
      · refine gx_st (nx := 1850) (L' := [(2, 0), (2, 1), (2, 192), (0, (i : Int))]) (S' := []) r_316_33 rfl rfl rfl ?_
        exact case_64 hT h0 hL (by omega) hl hnext
      · refine gx_st (nx := 1873) (L' := [(2, 0), (2, 1), (2, 192), (0, (i : Int))]) (S' := []) r_316_33 rfl rfl rfl ?_
        exact case_65 hT h0 hL (by omega) hl hnext
      · refine gx_st (nx := 1896) (L' := [(2, 0), (2, 1), (2, 192), (0, (i : Int))]) (S' := []) r_316_33 rfl rfl rfl ?_
        exact case_66 hT h0 hL (by omega) hl hnext
      · refine gx_st (nx := 1919) (L' := [(2, 0), (2, 1), (2, 192), (0, (i : Int))]) (S' := []) r_316_33 rfl rfl rfl ?_
        exact case_67 hT h0 hL (by omega) hl hnext
      · refine gx_st (nx := 1962) (L' := [(2, 0), (2, 1), (2, 192), (0, (i : Int))]) (S' := []) r_316_33 rfl rfl rfl ?_
        exact case_68 hT h0 hL (by omega) hl hnext
      · refine gx_st (nx := 2035) (L' := [(2, 0), (2, 1), (2, 192), (0, (i : Int))]) (S' := []) r_316_33 rfl rfl rfl ?_
        exact case_69 hT h0 hL (by omega) hl hnext
end LAW
/-- cells that are 0 where the loop begins -/
def okZ : Bool := match stA with
  | some q => (List.range 69).all (fun i => decide (rd q.2.2.2.2 193 i = one 0)) && (List.range 207).all (fun i => decide (rd q.2.2.2.2 194 i = one 0)) && (List.range 208).all (fun i => decide (rd q.2.2.2.2 200 i = one 0)) && (List.range 213).all (fun o => (List.range 41).all (fun i => decide (pinF o i = 0 ∨ rd q.2.2.2.2 o i = one (pinF o i : Int)))) && zL.all (fun t => decide (0 < t.1 ∧ t.1 < 213 ∧ t.2.1 < (tyK (tyO t.1)).2 ∧ rd q.2.2.2.2 t.1 t.2.1 = one t.2.2)) && (List.range 800).all (fun j => decide (rd q.2.2.2.2 3 j = one 0 ∧ rd q.2.2.2.2 196 j = one 0))
  | none => false
set_option maxRecDepth 100000 in
set_option maxHeartbeats 0 in
theorem okZ_t : okZ = true := by decide +kernel

theorem okZ_q {q : SI5} (hq : stA = some q) : (∀ i : Nat, i < 69 → rd q.2.2.2.2 193 i = one 0) ∧ (∀ i : Nat, i < 207 → rd q.2.2.2.2 194 i = one 0) ∧ (∀ i : Nat, i < 208 → rd q.2.2.2.2 200 i = one 0) ∧ (∀ o : Nat, o < 213 → ∀ i : Nat, i < 41 → pinF o i = 0 ∨ rd q.2.2.2.2 o i = one (pinF o i : Int)) ∧ (∀ o i : Nat, ∀ v : Int, zL.contains (o, i, v) = true → 0 < o ∧ o < 213 ∧ i < (tyK (tyO o)).2 ∧ rd q.2.2.2.2 o i = one v) ∧ (∀ j : Nat, j < 800 → rd q.2.2.2.2 3 j = one 0 ∧ rd q.2.2.2.2 196 j = one 0) := by
  have h := okZ_t
  unfold okZ at h
  rw [hq] at h
  dsimp only at h
  simp only [Bool.and_eq_true] at h
  obtain ⟨⟨⟨⟨⟨h1, h2⟩, h3⟩, h4⟩, h5⟩, h6⟩ := h
  exact ⟨fun i hi => of_decide_eq_true (List.all_eq_true.mp h1 i (List.mem_range.mpr hi)), fun i hi => of_decide_eq_true (List.all_eq_true.mp h2 i (List.mem_range.mpr hi)), fun i hi => of_decide_eq_true (List.all_eq_true.mp h3 i (List.mem_range.mpr hi)), fun o ho i hi => of_decide_eq_true (List.all_eq_true.mp (List.all_eq_true.mp h4 o (List.mem_range.mpr ho)) i (List.mem_range.mpr hi)), fun o i v hv => of_decide_eq_true (List.all_eq_true.mp h5 (o, i, v) (List.contains_iff_mem.mp hv)), fun j hj => of_decide_eq_true (List.all_eq_true.mp h6 j (List.mem_range.mpr hj))⟩
theorem Ext_0 {m : Mm} (h1 : ∀ i : Nat, i < 69 → m 193 i = 0) (h2 : ∀ i : Nat, i < 207 → m 194 i = 0) (h3 : ∀ i : Nat, i < 208 → m 200 i = 0) : Ext m := by
  have w0 : ∀ w : Nat → Int, w 4 = 0 → w 8 = 0 → WOK w := fun w a b => ⟨fun k _ hk => by omega, fun k _ hk => by omega, fun i k _ _ hk => by omega⟩
  refine ⟨w0 _ (h1 4 (by decide)) (h1 8 (by decide)), fun k hk => w0 _ (h2 _ (by omega)) (h2 _ (by omega)), fun h hh => Or.inr ?_⟩
  rw [h3 (16 * h) (by omega)]
  decide

set_option maxRecDepth 100000 in
theorem shR_tot : tot shR ≤ 7000000 := by decide +kernel
/-- YOUR PART: from the entry, for every script of at most 3072 ints, the law comes to its end with true -/
theorem whole_start {p : Program} {e : Env} {s : State} {m : MethodId} {below : List Frame} {meth : Method} {c : Code} (l : Launch) (hflags : l.flags = flags0) {b L : Nat} {xs : Nat → Int32} (hL : L ≤ 3072) (C0 : lw_At p s m meth c b L xs) : W p l e room_1 s m #[Value.ref b] below meth c s.heap [] 0 0 (lw_Z below #[Value.ref b] s) (entryFrame m ([Value.ref b] : List Value).toArray 4) := by
  obtain ⟨m1, hm1, hsc, hkn, hgo⟩ := to_loop L xs
  obtain ⟨q, hq, -⟩ := okA_q
  have hz := okZ_q hq
  have z1 : ∀ i : Nat, i < 69 → m1 193 i = 0 := fun i hi => one_eq (by rw [← hz.1 i hi]; exact hkn 193 (tyK (tyO 193)) (by decide) (by decide) q hq i hi)
  have z2 : ∀ i : Nat, i < 207 → m1 194 i = 0 := fun i hi => one_eq (by rw [← hz.2.1 i hi]; exact hkn 194 (tyK (tyO 194)) (by decide) (by decide) q hq i hi)
  have z3 : ∀ i : Nat, i < 208 → m1 200 i = 0 := fun i hi => one_eq (by rw [← hz.2.2.1 i hi]; exact hkn 200 (tyK (tyO 200)) (by decide) (by decide) q hq i hi)
  have hq0 := hq
  have zp : PinR m1 := fun o i hq => by
    have hd := pin_d hq
    have hb := (pin_b o hd.1 i hd.2).resolve_left hq
    have h1 := (hz.2.2.2.1 o hd.1 i hd.2).resolve_left hq
    exact one_eq (by rw [← h1]; exact hkn o (tyK (tyO o)) hb.1 hd.1 q hq0 i hb.2)
  have zc : ∀ o i : Nat, ∀ v : Int, zL.contains (o, i, v) = true → m1 o i = v := fun o i v hv => by
    have h := hz.2.2.2.2.1 o i v hv
    exact one_eq (by rw [← h.2.2.2]; exact hkn o (tyK (tyO o)) h.1 h.2.1 q hq0 i h.2.2.1)
  have za : ∀ j : Nat, j < 800 → m1 3 j = 0 ∧ m1 196 j = 0 := fun j hj => by
    have h := hz.2.2.2.2.2 j hj
    exact ⟨one_eq (by rw [← h.1]; exact hkn 3 (tyK (tyO 3)) (by decide) (by decide) q hq0 j hj), one_eq (by rw [← h.2]; exact hkn 196 (tyK (tyO 196)) (by decide) (by decide) q hq0 j hj)⟩
  have hT : TT (shT L) := shT_ty L
  obtain ⟨v, mf, hr, hv⟩ := law_loop (T := shT L) (L := L) (xs := xs) hT rfl hL (L + 7) 0 m1 (by omega) (by omega) ⟨hm1, Ext_0 z1 z2 z3, hsc, ⟨zp, ⟨0, by decide, zc 2 1 0 (by decide), zc 192 5 0 (by decide), fun j hj => by rw [(za j hj).1, (za j hj).2]; decide⟩, wx_0 (fun i hi => zc 4 i 0 (zl_4 i hi)) (fun i hi => zc 11 i 0 (zl_11 i hi)) (fun i hi => zc 193 i 0 (zl_193 i hi)) (zc 22 2 0 (by decide)) (fun i hi => zc 23 i 0 (zl_23 i hi)) (zc 1 14 0 (by decide)) (fun i hi => zc 195 i 0 (zl_195 i hi)), planx_0 (zc 1 15 0 (by decide)), zx_0 (fun i hi => z1 i (by omega)) z2⟩⟩
  obtain ⟨n, hn⟩ := hgo _ hr
  rw [show v = (0, 1) from hv] at hn
  have h2 := shR_tot
  have h3 : tot (shT L) = L + tot shR := rfl
  exact run_law l C0 (mm := scM xs) (fun j _ => if_pos rfl) hn (by rw [shT_len]; decide) (by omega)
