/-! a ride told: the class -/
theorem r_266_0 : row 266 0 = some (.iload_n 2, 1, 0, 0, 0, 0) := rfl
theorem r_266_1 : row 266 1 = some (.aload_n 1, 2, 0, 0, 0, 0) := rfl
theorem r_266_2 : row 266 2 = some (.getfield 44, 5, 3, 8, 10, 1100) := rfl
theorem r_266_5 : row 266 5 = some (.if_icmp .ge 7, 8, 12, 0, 0, 0) := rfl
theorem r_266_8 : row 266 8 = some (.iconst 1, 9, 1, 0, 0, 0) := rfl
theorem r_266_9 : row 266 9 = some (.goto 4, 12, 13, 0, 0, 0) := rfl
theorem r_266_12 : row 266 12 = some (.iconst 0, 13, 0, 0, 0, 0) := rfl
theorem r_266_13 : row 266 13 = some (.istore 4, 15, 0, 0, 0, 0) := rfl
theorem r_266_15 : row 266 15 = some (.aload_n 0, 16, 0, 0, 0, 0) := rfl
theorem r_266_16 : row 266 16 = some (.iload 4, 18, 0, 0, 0, 0) := rfl
theorem r_266_18 : row 266 18 = some (.ifCond .eq 7, 21, 25, 0, 0, 0) := rfl
theorem r_266_21 : row 266 21 = some (.iload_n 3, 22, 0, 0, 0, 0) := rfl
theorem r_266_22 : row 266 22 = some (.goto 4, 25, 26, 0, 0, 0) := rfl
theorem r_266_25 : row 266 25 = some (.iconst (-1), 26, (-1), 0, 0, 0) := rfl
theorem r_266_26 : row 266 26 = some (.putfield 9, 29, 4, 0, 0, 1200) := rfl
theorem r_266_29 : row 266 29 = some (.aload_n 0, 30, 0, 0, 0, 0) := rfl
theorem r_266_30 : row 266 30 = some (.iload 4, 32, 0, 0, 0, 0) := rfl
theorem r_266_32 : row 266 32 = some (.ifCond .eq 7, 35, 39, 0, 0, 0) := rfl
theorem r_266_35 : row 266 35 = some (.iload_n 2, 36, 0, 0, 0, 0) := rfl
theorem r_266_36 : row 266 36 = some (.goto 4, 39, 40, 0, 0, 0) := rfl
theorem r_266_39 : row 266 39 = some (.iconst (-1), 40, (-1), 0, 0, 0) := rfl
theorem r_266_40 : row 266 40 = some (.putfield 15, 43, 4, 1, 0, 1203) := rfl
theorem r_266_43 : row 266 43 = some (.aload_n 0, 44, 0, 0, 0, 0) := rfl
theorem r_266_44 : row 266 44 = some (.aload_n 1, 45, 0, 0, 0, 0) := rfl
theorem r_266_45 : row 266 45 = some (.getfield 49, 48, 3, 3, 10, 1081) := rfl
theorem r_266_48 : row 266 48 = some (.putfield 18, 51, 4, 2, 0, 1206) := rfl
theorem r_266_51 : row 266 51 = some (.aload_n 0, 52, 0, 0, 0, 0) := rfl
theorem r_266_52 : row 266 52 = some (.iconst 0, 53, 0, 0, 0, 0) := rfl
theorem r_266_53 : row 266 53 = some (.putfield 21, 56, 4, 3, 0, 1208) := rfl
theorem r_266_56 : row 266 56 = some (.aload_n 0, 57, 0, 0, 0, 0) := rfl
theorem r_266_57 : row 266 57 = some (.iconst 0, 58, 0, 0, 0, 0) := rfl
theorem r_266_58 : row 266 58 = some (.putfield 24, 61, 4, 4, 0, 1210) := rfl
theorem r_266_61 : row 266 61 = some (.aload_n 0, 62, 0, 0, 0, 0) := rfl
theorem r_266_62 : row 266 62 = some (.iconst 0, 63, 0, 0, 0, 0) := rfl
theorem r_266_63 : row 266 63 = some (.putfield 27, 66, 4, 5, 0, 1212) := rfl
theorem r_266_66 : row 266 66 = some (.aload_n 0, 67, 0, 0, 0, 0) := rfl
theorem r_266_67 : row 266 67 = some (.iconst (-1), 68, (-1), 0, 0, 0) := rfl
theorem r_266_68 : row 266 68 = some (.putfield 30, 71, 4, 6, 0, 1214) := rfl
theorem r_266_71 : row 266 71 = some (.aload_n 0, 72, 0, 0, 0, 0) := rfl
theorem r_266_72 : row 266 72 = some (.iconst 0, 73, 0, 0, 0, 0) := rfl
theorem r_266_73 : row 266 73 = some (.putfield 33, 76, 4, 7, 3, 1216) := rfl
theorem r_266_76 : row 266 76 = some (.aload_n 0, 77, 0, 0, 0, 0) := rfl
theorem r_266_77 : row 266 77 = some (.getfield 37, 80, 4, 8, 2, 1218) := rfl
theorem r_266_80 : row 266 80 = some (.iconst 0, 81, 0, 0, 0, 0) := rfl
theorem r_266_81 : row 266 81 = some (.invokestatic 50, 84, 240, 2, 10, 3179) := rfl
theorem r_266_84 : row 266 84 = some (.aload_n 1, 85, 0, 0, 0, 0) := rfl
theorem r_266_85 : row 266 85 = some (.getfield 56, 88, 3, 11, 12, 1113) := rfl
theorem r_266_88 : row 266 88 = some (.aload_n 0, 89, 0, 0, 0, 0) := rfl
theorem r_266_89 : row 266 89 = some (.getfield 41, 92, 4, 9, 2, 1220) := rfl
theorem r_266_92 : row 266 92 = some (.invokestatic 59, 95, 241, 2, 10, 3180) := rfl
theorem r_266_95 : row 266 95 = some (.return_, 96, 0, 0, 0, 0) := rfl
theorem r_289_0 : row 289 0 = some (.aload_n 0, 1, 0, 0, 0, 0) := rfl
theorem r_289_1 : row 289 1 = some (.getfield 34, 4, 7, 6, 2, 2012) := rfl
theorem r_289_4 : row 289 4 = some (.iload_n 1, 5, 0, 0, 0, 0) := rfl
theorem r_289_5 : row 289 5 = some (.iload_n 2, 6, 0, 0, 0, 0) := rfl
theorem r_289_6 : row 289 6 = some (.invokestatic 97, 9, 238, 3, 10, 3185) := rfl
theorem r_289_9 : row 289 9 = some (.aload_n 0, 10, 0, 0, 0, 0) := rfl
theorem r_289_10 : row 289 10 = some (.getfield 37, 13, 7, 7, 2, 2015) := rfl
theorem r_289_13 : row 289 13 = some (.iload_n 1, 14, 0, 0, 0, 0) := rfl
theorem r_289_14 : row 289 14 = some (.aload_n 0, 15, 0, 0, 0, 0) := rfl
theorem r_289_15 : row 289 15 = some (.getfield 12, 18, 7, 0, 2, 2003) := rfl
theorem r_289_18 : row 289 18 = some (.iload_n 1, 19, 0, 0, 0, 0) := rfl
theorem r_289_19 : row 289 19 = some (.invokevirtual 101, 22, 268, 1, 10, 4009) := rfl
theorem r_289_22 : row 289 22 = some (.ifCond .eq 7, 25, 29, 0, 0, 0) := rfl
theorem r_289_25 : row 289 25 = some (.iconst 1, 26, 1, 0, 0, 0) := rfl
theorem r_289_26 : row 289 26 = some (.goto 4, 29, 30, 0, 0, 0) := rfl
theorem r_289_29 : row 289 29 = some (.iconst 0, 30, 0, 0, 0, 0) := rfl
theorem r_289_30 : row 289 30 = some (.invokestatic 97, 33, 238, 3, 10, 3185) := rfl
theorem r_289_33 : row 289 33 = some (.aload_n 0, 34, 0, 0, 0, 0) := rfl
theorem r_289_34 : row 289 34 = some (.getfield 40, 37, 7, 8, 2, 2017) := rfl
theorem r_289_37 : row 289 37 = some (.iload_n 1, 38, 0, 0, 0, 0) := rfl
theorem r_289_38 : row 289 38 = some (.aload_n 0, 39, 0, 0, 0, 0) := rfl
theorem r_289_39 : row 289 39 = some (.getfield 12, 42, 7, 0, 2, 2003) := rfl
theorem r_289_42 : row 289 42 = some (.getfield 105, 45, 4, 7, 13, 1217) := rfl
theorem r_289_45 : row 289 45 = some (.ifCond .eq 7, 48, 52, 0, 0, 0) := rfl
theorem r_289_48 : row 289 48 = some (.iconst 1, 49, 1, 0, 0, 0) := rfl
theorem r_289_49 : row 289 49 = some (.goto 4, 52, 53, 0, 0, 0) := rfl
theorem r_289_52 : row 289 52 = some (.iconst 0, 53, 0, 0, 0, 0) := rfl
theorem r_289_53 : row 289 53 = some (.invokestatic 97, 56, 238, 3, 10, 3185) := rfl
theorem r_289_56 : row 289 56 = some (.iload_n 2, 57, 0, 0, 0, 0) := rfl
theorem r_289_57 : row 289 57 = some (.iconst 3, 58, 3, 0, 0, 0) := rfl
theorem r_289_58 : row 289 58 = some (.if_icmp .ne 12, 61, 70, 0, 0, 0) := rfl
theorem r_289_61 : row 289 61 = some (.aload_n 0, 62, 0, 0, 0, 0) := rfl
theorem r_289_62 : row 289 62 = some (.getfield 43, 65, 7, 9, 2, 2019) := rfl
theorem r_289_65 : row 289 65 = some (.iload_n 3, 66, 0, 0, 0, 0) := rfl
theorem r_289_66 : row 289 66 = some (.iconst 1, 67, 1, 0, 0, 0) := rfl
theorem r_289_67 : row 289 67 = some (.invokestatic 109, 70, 239, 3, 10, 4010) := rfl
theorem r_289_70 : row 289 70 = some (.iload_n 2, 71, 0, 0, 0, 0) := rfl
theorem r_289_71 : row 289 71 = some (.iconst 2, 72, 2, 0, 0, 0) := rfl
theorem r_289_72 : row 289 72 = some (.if_icmp .ne 13, 75, 85, 0, 0, 0) := rfl
theorem r_289_75 : row 289 75 = some (.aload_n 0, 76, 0, 0, 0, 0) := rfl
theorem r_289_76 : row 289 76 = some (.dup, 77, 0, 0, 0, 0) := rfl
theorem r_289_77 : row 289 77 = some (.getfield 46, 80, 7, 10, 0, 2021) := rfl
theorem r_289_80 : row 289 80 = some (.iconst 1, 81, 1, 0, 0, 0) := rfl
theorem r_289_81 : row 289 81 = some (.iadd, 82, 0, 0, 0, 0) := rfl
theorem r_289_82 : row 289 82 = some (.putfield 46, 85, 7, 10, 0, 2021) := rfl
theorem r_289_85 : row 289 85 = some (.iload_n 3, 86, 0, 0, 0, 0) := rfl
theorem r_289_86 : row 289 86 = some (.iconst (-1), 87, (-1), 0, 0, 0) := rfl
theorem r_289_87 : row 289 87 = some (.if_icmp .eq 19, 90, 106, 0, 0, 0) := rfl
theorem r_289_90 : row 289 90 = some (.aload_n 0, 91, 0, 0, 0, 0) := rfl
theorem r_289_91 : row 289 91 = some (.getfield 12, 94, 7, 0, 2, 2003) := rfl
theorem r_289_94 : row 289 94 = some (.getfield 78, 97, 4, 1, 10, 1204) := rfl
theorem r_289_97 : row 289 97 = some (.iconst (-1), 98, (-1), 0, 0, 0) := rfl
theorem r_289_98 : row 289 98 = some (.if_icmp .ne 8, 101, 106, 0, 0, 0) := rfl
theorem r_289_101 : row 289 101 = some (.aload_n 0, 102, 0, 0, 0, 0) := rfl
theorem r_289_102 : row 289 102 = some (.iload_n 1, 103, 0, 0, 0, 0) := rfl
theorem r_289_103 : row 289 103 = some (.putfield 50, 106, 7, 11, 0, 2023) := rfl
theorem r_289_106 : row 289 106 = some (.return_, 107, 0, 0, 0, 0) := rfl
theorem r_290_0 : row 290 0 = some (.aload_n 0, 1, 0, 0, 0, 0) := rfl
theorem r_290_1 : row 290 1 = some (.getfield 18, 4, 7, 1, 2, 2004) := rfl
theorem r_290_4 : row 290 4 = some (.iload_n 1, 5, 0, 0, 0, 0) := rfl
theorem r_290_5 : row 290 5 = some (.aload_n 0, 6, 0, 0, 0, 0) := rfl
theorem r_290_6 : row 290 6 = some (.getfield 12, 9, 7, 0, 2, 2003) := rfl
theorem r_290_9 : row 290 9 = some (.getfield 112, 12, 4, 0, 10, 1201) := rfl
theorem r_290_12 : row 290 12 = some (.invokestatic 97, 15, 238, 3, 10, 3185) := rfl
theorem r_290_15 : row 290 15 = some (.aload_n 0, 16, 0, 0, 0, 0) := rfl
theorem r_290_16 : row 290 16 = some (.getfield 22, 19, 7, 2, 2, 2006) := rfl
theorem r_290_19 : row 290 19 = some (.iload_n 1, 20, 0, 0, 0, 0) := rfl
theorem r_290_20 : row 290 20 = some (.aload_n 0, 21, 0, 0, 0, 0) := rfl
theorem r_290_21 : row 290 21 = some (.getfield 12, 24, 7, 0, 2, 2003) := rfl
theorem r_290_24 : row 290 24 = some (.getfield 78, 27, 4, 1, 10, 1204) := rfl
theorem r_290_27 : row 290 27 = some (.invokestatic 97, 30, 238, 3, 10, 3185) := rfl
theorem r_290_30 : row 290 30 = some (.aload_n 0, 31, 0, 0, 0, 0) := rfl
theorem r_290_31 : row 290 31 = some (.getfield 25, 34, 7, 3, 2, 2008) := rfl
theorem r_290_34 : row 290 34 = some (.iload_n 1, 35, 0, 0, 0, 0) := rfl
theorem r_290_35 : row 290 35 = some (.aload_n 0, 36, 0, 0, 0, 0) := rfl
theorem r_290_36 : row 290 36 = some (.getfield 12, 39, 7, 0, 2, 2003) := rfl
theorem r_290_39 : row 290 39 = some (.getfield 115, 42, 4, 2, 10, 1207) := rfl
theorem r_290_42 : row 290 42 = some (.invokestatic 97, 45, 238, 3, 10, 3185) := rfl
theorem r_290_45 : row 290 45 = some (.iconst 0, 46, 0, 0, 0, 0) := rfl
theorem r_290_46 : row 290 46 = some (.istore_n 2, 47, 0, 0, 0, 0) := rfl
theorem r_290_47 : row 290 47 = some (.iload_n 2, 48, 0, 0, 0, 0) := rfl
theorem r_290_48 : row 290 48 = some (.iconst 5, 49, 5, 0, 0, 0) := rfl
theorem r_290_49 : row 290 49 = some (.if_icmp .ge 34, 52, 83, 0, 0, 0) := rfl
theorem r_290_52 : row 290 52 = some (.aload_n 0, 53, 0, 0, 0, 0) := rfl
theorem r_290_53 : row 290 53 = some (.getfield 12, 56, 7, 0, 2, 2003) := rfl
theorem r_290_56 : row 290 56 = some (.getfield 118, 59, 4, 8, 12, 1219) := rfl
theorem r_290_59 : row 290 59 = some (.iload_n 2, 60, 0, 0, 0, 0) := rfl
theorem r_290_60 : row 290 60 = some (.invokestatic 119, 63, 237, 2, 10, 3186) := rfl
theorem r_290_63 : row 290 63 = some (.istore_n 3, 64, 0, 0, 0, 0) := rfl
theorem r_290_64 : row 290 64 = some (.aload_n 0, 65, 0, 0, 0, 0) := rfl
theorem r_290_65 : row 290 65 = some (.getfield 28, 68, 7, 4, 2, 2010) := rfl
theorem r_290_68 : row 290 68 = some (.iload_n 1, 69, 0, 0, 0, 0) := rfl
theorem r_290_69 : row 290 69 = some (.iconst 5, 70, 5, 0, 0, 0) := rfl
theorem r_290_70 : row 290 70 = some (.imul, 71, 0, 0, 0, 0) := rfl
theorem r_290_71 : row 290 71 = some (.iload_n 2, 72, 0, 0, 0, 0) := rfl
theorem r_290_72 : row 290 72 = some (.iadd, 73, 0, 0, 0, 0) := rfl
theorem r_290_73 : row 290 73 = some (.iload_n 3, 74, 0, 0, 0, 0) := rfl
theorem r_290_74 : row 290 74 = some (.invokestatic 97, 77, 238, 3, 10, 3185) := rfl
theorem r_290_77 : row 290 77 = some (.iinc 2 1, 80, 0, 0, 0, 0) := rfl
theorem r_290_80 : row 290 80 = some (.goto (-33), 83, 47, 0, 0, 0) := rfl
theorem r_290_83 : row 290 83 = some (.iconst 0, 84, 0, 0, 0, 0) := rfl
theorem r_290_84 : row 290 84 = some (.istore_n 2, 85, 0, 0, 0, 0) := rfl
theorem r_290_85 : row 290 85 = some (.iload_n 2, 86, 0, 0, 0, 0) := rfl
theorem r_290_86 : row 290 86 = some (.iconst 5, 87, 5, 0, 0, 0) := rfl
theorem r_290_87 : row 290 87 = some (.if_icmp .ge 34, 90, 121, 0, 0, 0) := rfl
theorem r_290_90 : row 290 90 = some (.aload_n 0, 91, 0, 0, 0, 0) := rfl
theorem r_290_91 : row 290 91 = some (.getfield 12, 94, 7, 0, 2, 2003) := rfl
theorem r_290_94 : row 290 94 = some (.getfield 123, 97, 4, 9, 12, 1221) := rfl
theorem r_290_97 : row 290 97 = some (.iload_n 2, 98, 0, 0, 0, 0) := rfl
theorem r_290_98 : row 290 98 = some (.invokestatic 119, 101, 237, 2, 10, 3186) := rfl
theorem r_290_101 : row 290 101 = some (.istore_n 3, 102, 0, 0, 0, 0) := rfl
theorem r_290_102 : row 290 102 = some (.aload_n 0, 103, 0, 0, 0, 0) := rfl
theorem r_290_103 : row 290 103 = some (.getfield 31, 106, 7, 5, 2, 2011) := rfl
theorem r_290_106 : row 290 106 = some (.iload_n 1, 107, 0, 0, 0, 0) := rfl
theorem r_290_107 : row 290 107 = some (.iconst 5, 108, 5, 0, 0, 0) := rfl
theorem r_290_108 : row 290 108 = some (.imul, 109, 0, 0, 0, 0) := rfl
theorem r_290_109 : row 290 109 = some (.iload_n 2, 110, 0, 0, 0, 0) := rfl
theorem r_290_110 : row 290 110 = some (.iadd, 111, 0, 0, 0, 0) := rfl
theorem r_290_111 : row 290 111 = some (.iload_n 3, 112, 0, 0, 0, 0) := rfl
theorem r_290_112 : row 290 112 = some (.invokestatic 97, 115, 238, 3, 10, 3185) := rfl
theorem r_290_115 : row 290 115 = some (.iinc 2 1, 118, 0, 0, 0, 0) := rfl
theorem r_290_118 : row 290 118 = some (.goto (-33), 121, 85, 0, 0, 0) := rfl
theorem r_290_121 : row 290 121 = some (.return_, 122, 0, 0, 0, 0) := rfl
/-- the part of a state that sums grow in: weight, tiredness, fruit -/
def SBr (w s : Wd) (k : Nat) : Prop := (0 ≤ s 2 ∧ s 2 ≤ 20 + (k : Int)) ∧ (∀ b : Nat, b < 5 → 0 ≤ s (6 + b) ∧ s (6 + b) ≤ 40 * (k : Int)) ∧ ∀ t : Nat, t < 5 → (t : Int) < w 5 → 0 ≤ s (11 + t) ∧ s (11 + t) ≤ 9
/-- who rides is somewhere, on a bearer of the isle -/
def SBw (w s : Wd) : Prop := s 1 = -1 ∨ ∃ b p : Nat, s 1 = (b : Int) ∧ (b : Int) < w 7 ∧ s 0 = (p : Int) ∧ (p : Int) < w 0
theorem sbr_up {w s : Wd} {j k : Nat} (h : SBr w s j) (hk : j ≤ k) : SBr w s k := by
  obtain ⟨h1, h2, h3⟩ := h
  refine ⟨by omega, fun b hb => ?_, h3⟩
  have := h2 b hb; omega
theorem sbr_ne {w s : Wd} {k i : Nat} {x : Int} (h : SBr w s k) (h2 : ¬ i = 2) (h6 : i < 6 ∨ 16 ≤ i) : SBr w (upw s i x) k := by
  obtain ⟨a, b, c⟩ := h
  refine ⟨?_, fun q hq => ?_, fun t ht h5 => ?_⟩
  · rw [upw_ne (by omega)]; exact a
  · rw [upw_ne (by omega)]; exact b q hq
  · rw [upw_ne (by omega)]; exact c t ht h5
theorem sbr_t {w s : Wd} {k b2 : Nat} {x : Int} (h : SBr w s k) (hb : b2 < 5) (hx : 0 ≤ x ∧ x ≤ 40 * (k : Int)) : SBr w (upw s (6 + b2) x) k := by
  obtain ⟨a, b, c⟩ := h
  refine ⟨?_, fun q hq => ?_, fun t ht h5 => ?_⟩
  · rw [upw_ne (by omega)]; exact a
  · by_cases e : q = b2
    · rw [e, upw_at]; exact hx
    · rw [upw_ne (by omega)]; exact b q hq
  · rw [upw_ne (by omega)]; exact c t ht h5
theorem sbr_2 {w s : Wd} {k : Nat} {x : Int} (h : SBr w s k) (hx : 0 ≤ x ∧ x ≤ 20 + (k : Int)) : SBr w (upw s 2 x) k := by
  obtain ⟨a, b, c⟩ := h
  refine ⟨?_, fun q hq => ?_, fun t ht h5 => ?_⟩
  · rw [upw_at]; exact hx
  · rw [upw_ne (by omega)]; exact b q hq
  · rw [upw_ne (by omega)]; exact c t ht h5
theorem sbr_u {w s : Wd} {k t2 : Nat} {x : Int} (h : SBr w s k) (hb : t2 < 5) (hx : 0 ≤ x ∧ x ≤ 9) : SBr w (upw s (11 + t2) x) k := by
  obtain ⟨a, b, c⟩ := h
  refine ⟨?_, fun q hq => ?_, fun t ht h5 => ?_⟩
  · rw [upw_ne (by omega)]; exact a
  · rw [upw_ne (by omega)]; exact b q hq
  · by_cases e : t = t2
    · rw [e, upw_at]; exact hx
    · rw [upw_ne (by omega)]; exact c t ht h5
/-- what the sums stay within -/
def SB (w s : Wd) (k : Nat) : Prop := SBw w s ∧ SBr w s k
theorem sb_up {w s : Wd} {j k : Nat} (h : SB w s j) (hk : j ≤ k) : SB w s k := ⟨h.1, sbr_up h.2 hk⟩
theorem over_1 {s : Wd} {k : Int} : overF s k 1 = -1 := by unfold overF; rw [upw_at]
theorem over_0 {s : Wd} {k : Int} : overF s k 0 = -1 := by unfold overF; rw [upw_ne (by decide), upw_at]
theorem sb_over {w s : Wd} {k : Nat} {x : Int} (h : SBr w s k) : SB w (overF s x) k :=
  ⟨Or.inl over_1, sbr_ne (sbr_ne (sbr_ne h (by decide) (by decide)) (by decide) (by decide)) (by decide) (by decide)⟩
theorem sb_car {w s : Wd} {k b g : Nat} (hB : WB w) (hk : k < 12) (h : SBr w s k) (hb : s 1 = (b : Int)) (hb7 : (b : Int) < w 7) (hg : (g : Int) < w 0) : SB w (carF w s (g : Int)) (k + 1) := by
  have h7 := hB.2.2.2.2.1
  have u := sbr_up h (Nat.le_succ k)
  have hx : 0 ≤ s (6 + b) + s 2 ∧ s (6 + b) + s 2 ≤ 40 * ((k + 1 : Nat) : Int) := by
    have h1 := h.1
    have h2 := h.2.1 b (by omega)
    omega
  have v : SBr w (upw (upw s 0 (g : Int)) (6 + b) (s (6 + b) + s 2)) (k + 1) := sbr_t (sbr_ne u (by decide) (by decide)) (by omega) hx
  have hat : ∀ x : Int, upw (upw s 0 (g : Int)) (6 + b) x 0 = (g : Int) := fun x => by rw [upw_ne (by omega), upw_at]
  by_cases c : s (6 + b) + s 2 ≤ w (48 + 2 * b)
  · rw [car_lo hb c]
    refine ⟨Or.inr ⟨b, g, ?_, hb7, hat _, hg⟩, v⟩
    rw [upw_ne (by omega), upw_ne (by omega)]; exact hb
  · by_cases d : strongF w (g : Int) (ior (s 5) (ishl 1 (b : Int))) = -1
    · rw [car_no hb c d]
      exact sb_over (sbr_ne v (by decide) (by decide))
    · rw [car_ch hb c d]
      rcases strong_ok w (g : Int) (ior (s 5) (ishl 1 (b : Int))) with z | ⟨y, y1, y2, y3, y4⟩
      · exact absurd z d
      · refine ⟨Or.inr ⟨y, g, ?_, y2, ?_, hg⟩, sbr_ne (sbr_ne v (by decide) (by decide)) (by decide) (by decide)⟩
        · rw [upw_at]; exact y1
        · rw [upw_ne (by decide), upw_ne (by decide)]; exact hat _
theorem sb_eat {w s : Wd} {k b p t : Nat} (hB : WB w) (hk : k < 12) (h : SBr w s k) (hb : s 1 = (b : Int)) (hb7 : (b : Int) < w 7) (hp : s 0 = (p : Int)) (hpn : (p : Int) < w 0) (ht : (t : Int) < w 5) (h0 : 0 < s (11 + t)) : SB w (eatF s t) (k + 1) := by
  have h7 := hB.2.2.2.2.1
  have h5 := hB.2.2.1
  have u := sbr_up h (Nat.le_succ k)
  have h1 := h.1
  have h2 := h.2.1 b (by omega)
  have h3 := h.2.2 t (by omega) ht
  rw [eat_b hb]
  refine ⟨Or.inr ⟨b, p, ?_, hb7, ?_, hpn⟩, sbr_t (sbr_2 (sbr_u u (by omega) (by omega)) (by omega)) (by omega) (by omega)⟩
  · rw [upw_ne (by omega), upw_ne (by decide), upw_ne (by omega)]; exact hb
  · rw [upw_ne (by omega), upw_ne (by decide), upw_ne (by omega)]; exact hp
theorem sb_go {w s : Wd} {D : Nat → Nat → Int} {h : Int} {k : Nat} (hB : WB w) (hP : WP w) (hD : WyD w D) (hk : k < 12) (hb1 : ¬ s 1 = -1) (hs : SB w s k) : SB w (goF w D h s).1 (k + 1) := by
  rcases hs.1 with z | ⟨b, p, hb, hb7, hp, hpn⟩
  · exact absurd z hb1
  have h5 := hB.2.2.1
  have up : SB w s (k + 1) := sb_up hs (Nat.le_succ k)
  by_cases c : h < s 3
  · rw [go_sl c]; exact up
  · rcases steer_ok w D p s with z | ⟨t, t1, t2, t3, t4⟩
    · rw [go_sta hp c z]; exact up
    · have t5 := hP.1 t (by omega) t2
      obtain ⟨g, hg⟩ : ∃ g : Nat, w (31 + 2 * t) = (g : Int) := ⟨(w (31 + 2 * t)).toNat, by omega⟩
      rw [nat_of hg] at t4
      by_cases e : (g : Int) = (p : Int)
      · rw [go_ea hp c t1 hg e]
        exact sb_eat hB hk hs.2 hb hb7 hp hpn t2 t3
      · rw [go_ca hp c t1 hg e]
        obtain ⟨q, q1, q2, q3, q4⟩ := step_ok hB hD hpn (g := g) (by omega) (fun x => e (by omega)) t4
        show SB w (carF w s (stepF w D p g)) (k + 1)
        rw [q1]
        exact sb_car hB hk hs.2 hb hb7 q2
theorem sb_off {w s : Wd} {h : Int} {k : Nat} (hs : SB w s k) : SB w (offF w h s) k := by
  unfold offF
  refine ⟨?_, sbr_ne (sbr_ne hs.2 (by decide) (by decide)) (by decide) (by decide)⟩
  rcases hs.1 with z | ⟨b, p, hb, hb7, hp, hpn⟩
  · exact Or.inl (by rw [upw_ne (by decide), upw_ne (by decide)]; exact z)
  · exact Or.inr ⟨b, p, by rw [upw_ne (by decide), upw_ne (by decide)]; exact hb, hb7, by rw [upw_ne (by decide), upw_ne (by decide)]; exact hp, hpn⟩
theorem can_goal {w s : Wd} {D : Nat → Nat → Int} {h a : Int} {p : Nat} (hB : WB w) (hD : WyD w D) (hp : s 0 = (p : Int)) (hp7 : p < 7) (ha : 10 ≤ a ∧ a ≤ 16) (hc : canF w D h a s = true) : ∃ g : Nat, a - 10 = (g : Int) ∧ (g : Int) < w 0 := by
  unfold canF at hc
  by_cases c1 : s 1 = -1
  · rw [if_pos c1] at hc; cases hc
  rw [if_neg c1, if_neg (by omega), if_neg (by omega)] at hc
  by_cases c3 : h < s 3
  · rw [if_neg (fun z => z c3), if_neg (by omega), Bool.and_eq_true, decide_eq_true_eq, decide_eq_true_eq, nat_of hp] at hc
    have k := (adj_ok hB).2 p (a - 10).toNat ((wd_one hD hp7 (by omega)).mpr hc.2)
    have k2 := hB.1
    exact ⟨(a - 10).toNat, by omega, by have := k.2.1; omega⟩
  · rw [if_pos c3] at hc; cases hc
theorem sb_hour {w s : Wd} {D : Nat → Nat → Int} {h a : Int} {k : Nat} (hB : WB w) (hP : WP w) (hD : WyD w D) (hk : k < 12) (ha : 0 ≤ a ∧ a ≤ 16) (hs : SB w s k) : SB w (hourF w D h a s).1 (k + 1) := by
  rcases hs.1 with z | ⟨b, p, hb, hb7, hp, hpn⟩
  · rw [hour_0 z]; exact sb_up hs (Nat.le_succ k)
  have h0 := hB.1
  have hb1 : ¬ s 1 = -1 := by omega
  by_cases hc : canF w D h a s = true
  · by_cases h2 : a = 2
    · rw [hour_th hb1 hc h2]; exact sb_up (sb_over hs.2) (Nat.le_succ k)
    · by_cases h10 : 10 ≤ a
      · rw [hour_ca hb1 hc h2 h10]
        obtain ⟨g, g1, g2⟩ := can_goal hB hD hp (by omega) ⟨h10, ha.2⟩ hc
        show SB w (carF w s (a - 10)) (k + 1)
        rw [g1]
        exact sb_car hB hk hs.2 hb hb7 g2
      · by_cases h1 : a = 1
        · rw [hour_of hb1 hc h1]
          exact sb_go hB hP hD hk (by unfold offF; rw [upw_ne (by decide), upw_ne (by decide)]; exact hb1) (sb_off hs)
        · exact absurd hc (can_no h1 h2 (by omega))
  · rw [hour_go hb1 hc]
    exact sb_go hB hP hD hk hb1 hs
/-- the ride's first state: on bearer b at place p, or on nobody where there is no such bearer -/
def beginF (w : Wd) (b p : Int) : Wd := fun j => if j = 0 then (if b < w 7 then p else -1) else if j = 1 then (if b < w 7 then b else -1) else if j = 2 then w 2 else if j = 16 then -1 else if 11 ≤ j ∧ j < 16 then w (32 + 2 * (j - 11)) else 0
theorem begin_t {w : Wd} {b p : Int} {c : Nat} (hc : c < 5) : beginF w b p (6 + c) = 0 := by
  unfold beginF
  rw [if_neg (by omega), if_neg (by omega), if_neg (by omega), if_neg (by omega), if_neg (by omega)]
theorem begin_u {w : Wd} {b p : Int} {t : Nat} (ht : t < 5) : beginF w b p (11 + t) = w (32 + 2 * t) := by
  unfold beginF
  rw [if_neg (by omega), if_neg (by omega), if_neg (by omega), if_neg (by omega), if_pos (by omega), show 11 + t - 11 = t by omega]
theorem sb_begin {w : Wd} {b p : Int} (hw : 0 ≤ w 2 ∧ w 2 ≤ 20) (hf : ∀ t : Nat, t < 5 → (t : Int) < w 5 → 0 ≤ w (32 + 2 * t) ∧ w (32 + 2 * t) ≤ 9) (hb : 0 ≤ b) (hp : b < w 7 → 0 ≤ p ∧ p < w 0) : SB w (beginF w b p) 0 := by
  refine ⟨?_, ?_, fun c hc => ?_, fun t ht h5 => ?_⟩
  · by_cases c : b < w 7
    · have hp2 := hp c
      refine Or.inr ⟨b.toNat, p.toNat, ?_, by omega, ?_, by omega⟩
      · show (if b < w 7 then b else -1) = _
        rw [if_pos c]; omega
      · show (if b < w 7 then p else -1) = _
        rw [if_pos c]; omega
    · exact Or.inl (if_neg c)
  · show 0 ≤ w 2 ∧ w 2 ≤ 20 + ((0 : Nat) : Int)
    omega
  · rw [begin_t hc]; omega
  · rw [begin_u ht]; exact hf t ht h5
/-- the ride from a first state on: A tells the acts -/
def runF (w : Wd) (D : Nat → Nat → Int) (A : Nat → Int) (s0 : Wd) : Nat → Wd
  | 0 => s0
  | k + 1 => (hourF w D (k : Int) (A k) (runF w D A s0 k)).1
/-- what is done in an hour -/
def deedF (w : Wd) (D : Nat → Nat → Int) (A : Nat → Int) (s0 : Wd) (k : Nat) : Int := (hourF w D (k : Int) (A k) (runF w D A s0 k)).2
theorem sb_run {w s0 : Wd} {D : Nat → Nat → Int} {A : Nat → Int} (hB : WB w) (hP : WP w) (hD : WyD w D) (hA : ∀ h : Nat, h < 12 → 0 ≤ A h ∧ A h ≤ 16) (h0 : SB w s0 0) : ∀ k : Nat, k ≤ 12 → SB w (runF w D A s0 k) k := by
  intro k
  induction k with
  | zero => intro _; exact h0
  | succ k ih => intro hk; exact sb_hour hB hP hD (by omega) (hA k (by omega)) (ih (by omega))
/-- how many of the first k hours he eats in -/
def eatN (f : Nat → Int) : Nat → Nat
  | 0 => 0
  | k + 1 => if f k = 2 then eatN f k + 1 else eatN f k
theorem eatN_le (f : Nat → Int) : ∀ k : Nat, eatN f k ≤ k
  | 0 => Nat.le_refl _
  | k + 1 => by
    show (if f k = 2 then eatN f k + 1 else eatN f k) ≤ k + 1
    have := eatN_le f k
    split <;> omega
/-- how many of the first k hours b carries him in: g tells on whom he is -/
def carN (f g : Nat → Int) (b : Int) : Nat → Nat
  | 0 => 0
  | k + 1 => if f k = 3 ∧ g k = b then carN f g b k + 1 else carN f g b k
theorem carN_le (f g : Nat → Int) (b : Int) : ∀ k : Nat, carN f g b k ≤ k
  | 0 => Nat.le_refl _
  | k + 1 => by
    show (if f k = 3 ∧ g k = b then carN f g b k + 1 else carN f g b k) ≤ k + 1
    have := carN_le f g b k
    split <;> omega
/-- the hour in which it is over, of the first k; or -1 -/
def endF (g : Nat → Int) : Nat → Int
  | 0 => -1
  | k + 1 => if ¬ g k = -1 ∧ g (k + 1) = -1 then (k : Int) else endF g k
/-- a ride told: the story at so holds the first k + 1 moments and k hours -/
def ToldR (m : Mm) (so : Nat) (w : Wd) (D : Nat → Nat → Int) (A : Nat → Int) (s0 : Wd) (k : Nat) : Prop :=
  (∀ h : Nat, h ≤ k → m (so + 4) h = runF w D A s0 h 0 ∧ m (so + 5) h = runF w D A s0 h 1 ∧ m (so + 6) h = runF w D A s0 h 2 ∧ (∀ b : Nat, b < 5 → m (so + 7) (5 * h + b) = runF w D A s0 h (6 + b)) ∧ ∀ t : Nat, t < 5 → (t : Int) < w 5 → m (so + 8) (5 * h + t) = runF w D A s0 h (11 + t))
  ∧ (∀ h : Nat, h < k → m (so + 9) h = deedF w D A s0 h ∧ m (so + 11) h = if canF w D (h : Int) (A h) (runF w D A s0 h) = true then 1 else 0)
  ∧ (∀ b : Nat, b < 5 → m (so + 12) b = ((carN (deedF w D A s0) (fun h => runF w D A s0 h 1) (b : Int) k : Nat) : Int))
  ∧ m so 10 = ((eatN (deedF w D A s0) k : Nat) : Int) ∧ m so 11 = endF (fun h => runF w D A s0 h 1) k
/-- a story: all hours told, how it ended, who has fallen -/
def StoryD (m : Mm) (so : Nat) (w : Wd) (D : Nat → Nat → Int) (A : Nat → Int) (s0 : Wd) (n : Nat) : Prop := ToldR m so w D A s0 n ∧ m so 12 = runF w D A s0 n 16 ∧ m so 13 = runF w D A s0 n 5
/-- nothing but the story at so is written -/
def FrS (so : Nat) (m m1 : Mm) : Prop := ∀ p i : Nat, p < so ∨ so + 12 < p → m1 p i = m p i
/-- the references of a story and its ride -/
def StR (m : Mm) (so : Nat) : Prop := StoryR m so ∧ RideR m (so + 1)
theorem rds_ex (w : Wd) (m : Mm) (r : Nat) : ∃ s : Wd, RdS w m r s := by
  refine ⟨fun j => if j < 6 then m r j else if j = 16 then m r 6 else if j < 11 then m (r + 1) (j - 6) else m (r + 2) (j - 11), rfl, rfl, rfl, rfl, rfl, rfl, rfl, fun b hb => ?_, fun t ht _ => ?_⟩
  · show _ = if 6 + b < 6 then _ else _
    rw [if_neg (by omega), if_neg (by omega), if_pos (by omega), show 6 + b - 6 = b by omega]
  · show _ = if 11 + t < 6 then _ else _
    rw [if_neg (by omega), if_neg (by omega), if_neg (by omega), show 11 + t - 11 = t by omega]
theorem nu_x {m : Mm} {o i p j : Nat} {x : Int} (h : ¬ (p = o ∧ j = i)) : nu_up m o i x p j = m p j := by
  by_cases e : p = o
  · rw [e]; exact nu_ne (fun z => h ⟨e, z⟩)
  · exact nu_no e
/-- shapes of a story with its ride -/
def StT (T : List Kd) (o : Nat) : Prop := StoryT T o ∧ RideT T (o + 1)
theorem tstt_0 {T : List Kd} {o : Nat} (h : StT T o) : T[o]? = some (7, 14) := tstory_0 h.1
theorem tstt_1 {T : List Kd} {o : Nat} (h : StT T o) : T[o + 1]? = some (4, 10) := tride_0 h.2
theorem tstt_2 {T : List Kd} {o : Nat} (h : StT T o) : T[o + 2]? = some (100, 5) := tride_1 h.2
theorem tstt_3 {T : List Kd} {o : Nat} (h : StT T o) : T[o + 3]? = some (100, 5) := tride_2 h.2
theorem tstt_4 {T : List Kd} {o : Nat} (h : StT T o) : T[o + 4]? = some (100, 13) := tstory_4 h.1
theorem tstt_5 {T : List Kd} {o : Nat} (h : StT T o) : T[o + 5]? = some (100, 13) := tstory_5 h.1
theorem tstt_6 {T : List Kd} {o : Nat} (h : StT T o) : T[o + 6]? = some (100, 13) := tstory_6 h.1
theorem tstt_7 {T : List Kd} {o : Nat} (h : StT T o) : T[o + 7]? = some (100, 65) := tstory_7 h.1
theorem tstt_8 {T : List Kd} {o : Nat} (h : StT T o) : T[o + 8]? = some (100, 65) := tstory_8 h.1
theorem tstt_9 {T : List Kd} {o : Nat} (h : StT T o) : T[o + 9]? = some (100, 12) := tstory_9 h.1
theorem tstt_10 {T : List Kd} {o : Nat} (h : StT T o) : T[o + 10]? = some (100, 12) := tstory_10 h.1
theorem tstt_11 {T : List Kd} {o : Nat} (h : StT T o) : T[o + 11]? = some (100, 12) := tstory_11 h.1
theorem tstt_12 {T : List Kd} {o : Nat} (h : StT T o) : T[o + 12]? = some (100, 5) := tstory_12 h.1
/-- a moment noted -/
def NoteR (m1 : Mm) (so : Nat) (w : Wd) (s : Wd) (h : Nat) : Prop := m1 (so + 4) h = s 0 ∧ m1 (so + 5) h = s 1 ∧ m1 (so + 6) h = s 2 ∧ (∀ b : Nat, b < 5 → m1 (so + 7) (5 * h + b) = s (6 + b)) ∧ ∀ t : Nat, t < 5 → (t : Int) < w 5 → m1 (so + 8) (5 * h + t) = s (11 + t)
def FrN_ (so h : Nat) (m m1 : Mm) : Prop := ∀ p i : Nat, ¬ (p = so + 4 ∧ i = h) → ¬ (p = so + 5 ∧ i = h) → ¬ (p = so + 6 ∧ i = h) → ¬ (p = so + 7 ∧ 5 * h ≤ i ∧ i < 5 * h + 5) → ¬ (p = so + 8 ∧ 5 * h ≤ i ∧ i < 5 * h + 5) → m1 p i = m p i
/-- what is done in an hour noted -/
def DeedR (m m1 : Mm) (so h : Nat) (v b0 s1 : Int) : Prop := m1 (so + 9) h = v ∧ m1 (so + 11) h = (if m (so + 1) 7 = 0 then 0 else 1) ∧ (∀ b : Nat, b < 5 → m1 (so + 12) b = m (so + 12) b + (if v = 3 ∧ b0 = (b : Int) then 1 else 0)) ∧ m1 so 10 = m so 10 + (if v = 2 then 1 else 0) ∧ m1 so 11 = (if ¬ b0 = -1 ∧ s1 = -1 then (h : Int) else m so 11) ∧ ∀ p i : Nat, ¬ (p = so + 9 ∧ i = h) → ¬ (p = so + 10 ∧ i = h) → ¬ (p = so + 11 ∧ i = h) → ¬ p = so + 12 → ¬ (p = so ∧ (i = 10 ∨ i = 11)) → m1 p i = m p i
/-- the same without the rows -/
def DeedT (m m1 : Mm) (so h : Nat) (v b0 s1 : Int) : Prop := (∀ b : Nat, b < 5 → m1 (so + 12) b = m (so + 12) b + (if v = 3 ∧ b0 = (b : Int) then 1 else 0)) ∧ m1 so 10 = m so 10 + (if v = 2 then 1 else 0) ∧ m1 so 11 = (if ¬ b0 = -1 ∧ s1 = -1 then (h : Int) else m so 11) ∧ ∀ p i : Nat, ¬ p = so + 12 → ¬ (p = so ∧ (i = 10 ∨ i = 11)) → m1 p i = m p i
theorem str_e {m m1 : Mm} {so : Nat} (h : StR m so) (e0 : ∀ i : Nat, i < 10 → m1 so i = m so i) (e1 : ∀ i : Nat, 8 ≤ i → m1 (so + 1) i = m (so + 1) i) : StR m1 so := by
  obtain ⟨⟨a0, a1, a2, a3, a4, a5, a6, a7, a8, a9⟩, b0, b1⟩ := h
  exact ⟨⟨(e0 0 (by decide)).trans a0, (e0 1 (by decide)).trans a1, (e0 2 (by decide)).trans a2, (e0 3 (by decide)).trans a3, (e0 4 (by decide)).trans a4, (e0 5 (by decide)).trans a5, (e0 6 (by decide)).trans a6, (e0 7 (by decide)).trans a7, (e0 8 (by decide)).trans a8, (e0 9 (by decide)).trans a9⟩, (e1 8 (by decide)).trans b0, (e1 9 (by decide)).trans b1⟩
theorem told_0 {m m1 : Mm} {so : Nat} {w s0 : Wd} {D : Nat → Nat → Int} {A : Nat → Int} (hn : NoteR m1 so w s0 0) (f : FrN_ so 0 m m1) (h12 : ∀ b : Nat, b < 5 → m (so + 12) b = 0) (h10 : m so 10 = 0) (h11 : m so 11 = -1) : ToldR m1 so w D A s0 0 := by
  refine ⟨fun h hh => ?_, fun h hh => absurd hh (Nat.not_lt_zero _), fun b hb => ?_, ?_, ?_⟩
  · have e : h = 0 := by omega
    rw [e]; exact hn
  · rw [f (so + 12) b (by omega) (by omega) (by omega) (by omega) (by omega)]; exact h12 b hb
  · rw [f so 10 (by omega) (by omega) (by omega) (by omega) (by omega)]; exact h10
  · rw [f so 11 (by omega) (by omega) (by omega) (by omega) (by omega)]; exact h11
theorem told_s {n n1 n2 n3 : Mm} {so k : Nat} {w s0 : Wd} {D : Nat → Nat → Int} {A : Nat → Int} (h : ToldR n so w D A s0 k) (f1 : FrO 8 (so + 1) n n1)
    (h7 : n1 (so + 1) 7 = if canF w D (k : Int) (A k) (runF w D A s0 k) = true then 1 else 0) (d : DeedR n1 n2 so k (deedF w D A s0 k) (runF w D A s0 k 1) (runF w D A s0 (k + 1) 1)) (hn : NoteR n3 so w (runF w D A s0 (k + 1)) (k + 1)) (f3 : FrN_ so (k + 1) n2 n3) : ToldR n3 so w D A s0 (k + 1) := by
  obtain ⟨d1, d2, d3, d4, d5, d6⟩ := d
  obtain ⟨t1, t2, t3, t4, t5⟩ := h
  have e : ∀ p i : Nat, so + 4 ≤ p → ¬ (p = so + 4 ∧ i = k + 1) → ¬ (p = so + 5 ∧ i = k + 1) → ¬ (p = so + 6 ∧ i = k + 1) → ¬ (p = so + 7 ∧ 5 * (k + 1) ≤ i ∧ i < 5 * (k + 1) + 5) → ¬ (p = so + 8 ∧ 5 * (k + 1) ≤ i ∧ i < 5 * (k + 1) + 5) → ¬ (p = so + 9 ∧ i = k) → ¬ (p = so + 10 ∧ i = k) → ¬ (p = so + 11 ∧ i = k) → ¬ p = so + 12 → n3 p i = n p i := fun p i a b c x y z u v q r =>
    (f3 p i b c x y z).trans ((d6 p i u v q r (fun z => by omega)).trans (f1 p i (fun z => by omega) (by omega) (by omega)))
  refine ⟨fun h hh => ?_, fun h hh => ?_, fun b hb => ?_, ?_, ?_⟩
  · by_cases c : h = k + 1
    · rw [c]; exact hn
    · obtain ⟨u1, u2, u3, u4, u5⟩ := t1 h (by omega)
      refine ⟨?_, ?_, ?_, fun b hb => ?_, fun t ht h5 => ?_⟩
      · rw [e (so + 4) h (by omega) (by omega) (by omega) (by omega) (by omega) (by omega) (by omega) (by omega) (by omega) (by omega)]; exact u1
      · rw [e (so + 5) h (by omega) (by omega) (by omega) (by omega) (by omega) (by omega) (by omega) (by omega) (by omega) (by omega)]; exact u2
      · rw [e (so + 6) h (by omega) (by omega) (by omega) (by omega) (by omega) (by omega) (by omega) (by omega) (by omega) (by omega)]; exact u3
      · rw [e (so + 7) (5 * h + b) (by omega) (by omega) (by omega) (by omega) (by omega) (by omega) (by omega) (by omega) (by omega) (by omega)]; exact u4 b hb
      · rw [e (so + 8) (5 * h + t) (by omega) (by omega) (by omega) (by omega) (by omega) (by omega) (by omega) (by omega) (by omega) (by omega)]; exact u5 t ht h5
  · by_cases c : h = k
    · rw [c]
      refine ⟨?_, ?_⟩
      · rw [f3 (so + 9) k (by omega) (by omega) (by omega) (by omega) (by omega)]; exact d1
      · rw [f3 (so + 11) k (by omega) (by omega) (by omega) (by omega) (by omega), d2, h7]
        split
        · rw [if_neg (by decide)]
        · rw [if_pos rfl]
    · obtain ⟨u1, u2⟩ := t2 h (by omega)
      refine ⟨?_, ?_⟩
      · rw [e (so + 9) h (by omega) (by omega) (by omega) (by omega) (by omega) (by omega) (by omega) (by omega) (by omega) (by omega)]; exact u1
      · rw [e (so + 11) h (by omega) (by omega) (by omega) (by omega) (by omega) (by omega) (by omega) (by omega) (by omega) (by omega)]; exact u2
  · rw [f3 (so + 12) b (by omega) (by omega) (by omega) (by omega) (by omega), d3 b hb, f1 (so + 12) b (by omega) (by omega) (by omega), t3 b hb]
    show _ = (((if deedF w D A s0 k = 3 ∧ runF w D A s0 k 1 = (b : Int) then carN (deedF w D A s0) (fun h => runF w D A s0 h 1) (b : Int) k + 1 else carN (deedF w D A s0) (fun h => runF w D A s0 h 1) (b : Int) k : Nat)) : Int)
    split <;> omega
  · rw [f3 so 10 (by omega) (by omega) (by omega) (by omega) (by omega), d4, f1 so 10 (by omega) (by omega) (by omega), t4]
    show _ = (((if deedF w D A s0 k = 2 then eatN (deedF w D A s0) k + 1 else eatN (deedF w D A s0) k : Nat)) : Int)
    split <;> omega
  · rw [f3 so 11 (by omega) (by omega) (by omega) (by omega) (by omega), d5, f1 so 11 (by omega) (by omega) (by omega), t5]
    rfl
section TELL
variable {T : List Kd} {m : Mm}
theorem pass_x (hT : TT T) {o : Nat} (ho : IsleT T o) (hor : IsleR m o) {w : Wd} (hw : WD m o w) {r : Nat} (hr : RideT T r) (hrr : RideR m r) {s : Wd} (hs : RdS w m r s) (hd : r + 3 ≤ o ∨ o + 9 ≤ r) {D : Nat → Nat → Int} (hD : WyD w D) {h : Nat} (hh : h ≤ 12) (hS : SB w s h) {a : Int} (ha : 0 ≤ a ∧ a ≤ 16) : GX T 3 270 0 [(2, (r : Int)), (2, (o : Int)), (0, (h : Int)), (0, a), (9, 0), (9, 0), (9, 0)] [] m (RI (fun v m1 => v = (hourF w D (h : Int) a s).2 ∧ RdS w m1 r (hourF w D (h : Int) a s).1 ∧ FrO 8 r m m1 ∧ m1 r 7 = (if canF w D (h : Int) a s = true then 1 else 0))) := by
  rcases hS.1 with z | ⟨b, p, hb, hb7, hp, hpn⟩
  · exact n_270 hT ho hor hw hr hrr hs z h a
  · obtain ⟨h1, h2, h3⟩ := hS.2
    exact r_270 hT ho hor hw hr hrr hs hd hD hb hb7 hp hpn (by omega) (fun b hb => by have := h2 b hb; omega) h3 h hh ha
theorem w_232 (hT : TT T) {ac : Nat} (hac : ActsT T ac) (hacr : ActsR m ac) {h : Nat} (hh : h < 12) : GX T 1 232 0 [(2, (ac : Int)), (0, (h : Int))] [] m (RI (fun v m1 => v = m (ac + 1) h ∧ m1 = m)) := by
  have hac0 := hac.1
  refine gx_st (L' := [(2, (ac : Int)), (0, (h : Int))]) (S' := [(2, (ac : Int))]) r_232_0 rfl rfl rfl ?_
  refine gx_gf (x := (ac : Int) + 1) 2 r_232_1 (rfl) (tacts_0 hac) ⟨by omega, rfl, by decide, by decide⟩ rfl (fun _ => by omega) (hacr.1) ?_
  refine gx_st (L' := [(2, (ac : Int)), (0, (h : Int))]) (S' := [(0, (h : Int)), (2, (ac : Int) + 1)]) r_232_4 rfl rfl rfl ?_
  refine gx_ci (nx := 8) (S2 := []) (c_237 (r := ac + 1) (n := 12) (tacts_1 hac) (by omega) (by decide) (k := h) (by omega)) r_232_5 rfl rfl rfl rfl rfl rfl rfl (by decide) rfl (fun x5 n5 q5 => ?_)
  obtain rfl := q5.1.symm
  obtain rfl := q5.2.symm
  show GX T 1 232 8 [(2, (ac : Int)), (0, (h : Int))] [(0, (m (ac + 1) h))] m (RI (fun v m1 => v = m (ac + 1) h ∧ m1 = m))
  exact gx_rt r_232_8 rfl rfl ⟨_, rfl, ⟨rfl, rfl⟩⟩
theorem z_266 (hT : TT T) {o : Nat} (ho : IsleT T o) (hor : IsleR m o) {w : Wd} (hw : WD m o w) {r : Nat} (hr : RideT T r) (hrr : RideR m r) (hd : r + 3 ≤ o ∨ o + 9 ≤ r) (b : Nat) (p : Int) : GX T 1 266 0 [(2, (r : Int)), (2, (o : Int)), (0, (b : Int)), (0, p), (9, 0)] [] m (RV (fun m1 => RdS w m1 r (beginF w (b : Int) p) ∧ FrO 8 r m m1)) := by
  have ho0 := ho.1
  have hr0 := hr.1
  obtain ⟨s, hs_m⟩ := rds_ex w m r
  have fo_m : FrO 8 r m m := fro_rf
  refine gx_st (L' := [(2, (r : Int)), (2, (o : Int)), (0, (b : Int)), (0, p), (9, 0)]) (S' := [(0, (b : Int))]) r_266_0 rfl rfl rfl ?_
  refine gx_st (L' := [(2, (r : Int)), (2, (o : Int)), (0, (b : Int)), (0, p), (9, 0)]) (S' := [(2, (o : Int)), (0, (b : Int))]) r_266_1 rfl rfl rfl ?_
  refine gx_gf (x := (w 7)) 0 r_266_2 (rfl) (tisle_0 ho) ⟨by omega, rfl, by decide, by decide⟩ rfl (fun z => absurd z (by decide)) (hw.1.2.2.2.2.2.2.2.2.1) ?_
  refine gx_ic (P := (w 7) ≤ (b : Int)) r_266_5 (rfl) (fun h5 => ?_) (fun h5 => ?_)
  · refine gx_st (L' := [(2, (r : Int)), (2, (o : Int)), (0, (b : Int)), (0, p), (9, 0)]) (S' := [(0, 0)]) r_266_12 rfl rfl rfl ?_
    refine gx_st (L' := [(2, (r : Int)), (2, (o : Int)), (0, (b : Int)), (0, p), (0, 0)]) (S' := []) r_266_13 rfl rfl rfl ?_
    refine gx_st (L' := [(2, (r : Int)), (2, (o : Int)), (0, (b : Int)), (0, p), (0, 0)]) (S' := [(2, (r : Int))]) r_266_15 rfl rfl rfl ?_
    refine gx_st (L' := [(2, (r : Int)), (2, (o : Int)), (0, (b : Int)), (0, p), (0, 0)]) (S' := [(0, 0), (2, (r : Int))]) r_266_16 rfl rfl rfl ?_
    refine gx_i0 (P := 0 = 0) r_266_18 (rfl) (fun h18 => ?_) (fun h18 => ?_)
    · refine gx_st (L' := [(2, (r : Int)), (2, (o : Int)), (0, (b : Int)), (0, p), (0, 0)]) (S' := [(0, (-1)), (2, (r : Int))]) r_266_25 rfl rfl rfl ?_
      obtain ⟨m1, e_m1⟩ : ∃ z, z = nu_up m r 0 (-1) := ⟨_, rfl⟩
      have hs_m1 : RdS w m1 r (upw s 0 (-1)) := by rw [e_m1]; exact rds_f hs_m (i := 0) (by decide) _
      have fo_m1 : FrO 8 r m m1 := by rw [e_m1]; exact fro_f fo_m (by decide)
      refine gx_pf (x := (-1)) 0 r_266_26 (rfl) (tride_0 hr) ⟨by omega, rfl, by decide, by decide⟩ rfl (fun z => absurd z (by decide)) (fun z => absurd z (by decide)) e_m1.symm ?_
      refine gx_st (L' := [(2, (r : Int)), (2, (o : Int)), (0, (b : Int)), (0, p), (0, 0)]) (S' := [(2, (r : Int))]) r_266_29 rfl rfl rfl ?_
      refine gx_st (L' := [(2, (r : Int)), (2, (o : Int)), (0, (b : Int)), (0, p), (0, 0)]) (S' := [(0, 0), (2, (r : Int))]) r_266_30 rfl rfl rfl ?_
      refine gx_i0 (P := 0 = 0) r_266_32 (rfl) (fun h32 => ?_) (fun h32 => ?_)
      · refine gx_st (L' := [(2, (r : Int)), (2, (o : Int)), (0, (b : Int)), (0, p), (0, 0)]) (S' := [(0, (-1)), (2, (r : Int))]) r_266_39 rfl rfl rfl ?_
        obtain ⟨m2, e_m2⟩ : ∃ z, z = nu_up m1 r 1 (-1) := ⟨_, rfl⟩
        have hs_m2 : RdS w m2 r (upw (upw s 0 (-1)) 1 (-1)) := by rw [e_m2]; exact rds_f hs_m1 (i := 1) (by decide) _
        have fo_m2 : FrO 8 r m m2 := by rw [e_m2]; exact fro_f fo_m1 (by decide)
        refine gx_pf (x := (-1)) 0 r_266_40 (rfl) (tride_0 hr) ⟨by omega, rfl, by decide, by decide⟩ rfl (fun z => absurd z (by decide)) (fun z => absurd z (by decide)) e_m2.symm ?_
        refine gx_st (L' := [(2, (r : Int)), (2, (o : Int)), (0, (b : Int)), (0, p), (0, 0)]) (S' := [(2, (r : Int))]) r_266_43 rfl rfl rfl ?_
        refine gx_st (L' := [(2, (r : Int)), (2, (o : Int)), (0, (b : Int)), (0, p), (0, 0)]) (S' := [(2, (o : Int)), (2, (r : Int))]) r_266_44 rfl rfl rfl ?_
        refine gx_gf (x := (w 2)) 0 r_266_45 (rfl) (tisle_0 ho) ⟨by omega, rfl, by decide, by decide⟩ rfl (fun z => absurd z (by decide)) (by show m2 o 3 = _; rw [e_m2, nu_no (by omega), e_m1, nu_no (by omega)]; exact hw.1.2.2.2.1) ?_
        obtain ⟨m3, e_m3⟩ : ∃ z, z = nu_up m2 r 2 (w 2) := ⟨_, rfl⟩
        have hs_m3 : RdS w m3 r (upw (upw (upw s 0 (-1)) 1 (-1)) 2 (w 2)) := by rw [e_m3]; exact rds_f hs_m2 (i := 2) (by decide) _
        have fo_m3 : FrO 8 r m m3 := by rw [e_m3]; exact fro_f fo_m2 (by decide)
        refine gx_pf (x := (w 2)) 0 r_266_48 (rfl) (tride_0 hr) ⟨by omega, rfl, by decide, by decide⟩ rfl (fun z => absurd z (by decide)) (fun z => absurd z (by decide)) e_m3.symm ?_
        refine gx_st (L' := [(2, (r : Int)), (2, (o : Int)), (0, (b : Int)), (0, p), (0, 0)]) (S' := [(2, (r : Int))]) r_266_51 rfl rfl rfl ?_
        refine gx_st (L' := [(2, (r : Int)), (2, (o : Int)), (0, (b : Int)), (0, p), (0, 0)]) (S' := [(0, 0), (2, (r : Int))]) r_266_52 rfl rfl rfl ?_
        obtain ⟨m4, e_m4⟩ : ∃ z, z = nu_up m3 r 3 0 := ⟨_, rfl⟩
        have hs_m4 : RdS w m4 r (upw (upw (upw (upw s 0 (-1)) 1 (-1)) 2 (w 2)) 3 0) := by rw [e_m4]; exact rds_f hs_m3 (i := 3) (by decide) _
        have fo_m4 : FrO 8 r m m4 := by rw [e_m4]; exact fro_f fo_m3 (by decide)
        refine gx_pf (x := 0) 0 r_266_53 (rfl) (tride_0 hr) ⟨by omega, rfl, by decide, by decide⟩ rfl (fun z => absurd z (by decide)) (fun z => absurd z (by decide)) e_m4.symm ?_
        refine gx_st (L' := [(2, (r : Int)), (2, (o : Int)), (0, (b : Int)), (0, p), (0, 0)]) (S' := [(2, (r : Int))]) r_266_56 rfl rfl rfl ?_
        refine gx_st (L' := [(2, (r : Int)), (2, (o : Int)), (0, (b : Int)), (0, p), (0, 0)]) (S' := [(0, 0), (2, (r : Int))]) r_266_57 rfl rfl rfl ?_
        obtain ⟨m5, e_m5⟩ : ∃ z, z = nu_up m4 r 4 0 := ⟨_, rfl⟩
        have hs_m5 : RdS w m5 r (upw (upw (upw (upw (upw s 0 (-1)) 1 (-1)) 2 (w 2)) 3 0) 4 0) := by rw [e_m5]; exact rds_f hs_m4 (i := 4) (by decide) _
        have fo_m5 : FrO 8 r m m5 := by rw [e_m5]; exact fro_f fo_m4 (by decide)
        refine gx_pf (x := 0) 0 r_266_58 (rfl) (tride_0 hr) ⟨by omega, rfl, by decide, by decide⟩ rfl (fun z => absurd z (by decide)) (fun z => absurd z (by decide)) e_m5.symm ?_
        refine gx_st (L' := [(2, (r : Int)), (2, (o : Int)), (0, (b : Int)), (0, p), (0, 0)]) (S' := [(2, (r : Int))]) r_266_61 rfl rfl rfl ?_
        refine gx_st (L' := [(2, (r : Int)), (2, (o : Int)), (0, (b : Int)), (0, p), (0, 0)]) (S' := [(0, 0), (2, (r : Int))]) r_266_62 rfl rfl rfl ?_
        obtain ⟨m6, e_m6⟩ : ∃ z, z = nu_up m5 r 5 0 := ⟨_, rfl⟩
        have hs_m6 : RdS w m6 r (upw (upw (upw (upw (upw (upw s 0 (-1)) 1 (-1)) 2 (w 2)) 3 0) 4 0) 5 0) := by rw [e_m6]; exact rds_f hs_m5 (i := 5) (by decide) _
        have fo_m6 : FrO 8 r m m6 := by rw [e_m6]; exact fro_f fo_m5 (by decide)
        refine gx_pf (x := 0) 0 r_266_63 (rfl) (tride_0 hr) ⟨by omega, rfl, by decide, by decide⟩ rfl (fun z => absurd z (by decide)) (fun z => absurd z (by decide)) e_m6.symm ?_
        refine gx_st (L' := [(2, (r : Int)), (2, (o : Int)), (0, (b : Int)), (0, p), (0, 0)]) (S' := [(2, (r : Int))]) r_266_66 rfl rfl rfl ?_
        refine gx_st (L' := [(2, (r : Int)), (2, (o : Int)), (0, (b : Int)), (0, p), (0, 0)]) (S' := [(0, (-1)), (2, (r : Int))]) r_266_67 rfl rfl rfl ?_
        obtain ⟨m7, e_m7⟩ : ∃ z, z = nu_up m6 r 6 (-1) := ⟨_, rfl⟩
        have hs_m7 : RdS w m7 r (upw (upw (upw (upw (upw (upw (upw s 0 (-1)) 1 (-1)) 2 (w 2)) 3 0) 4 0) 5 0) 16 (-1)) := by rw [e_m7]; exact rds_k hs_m6 _
        have fo_m7 : FrO 8 r m m7 := by rw [e_m7]; exact fro_f fo_m6 (by decide)
        refine gx_pf (x := (-1)) 0 r_266_68 (rfl) (tride_0 hr) ⟨by omega, rfl, by decide, by decide⟩ rfl (fun z => absurd z (by decide)) (fun z => absurd z (by decide)) e_m7.symm ?_
        refine gx_st (L' := [(2, (r : Int)), (2, (o : Int)), (0, (b : Int)), (0, p), (0, 0)]) (S' := [(2, (r : Int))]) r_266_71 rfl rfl rfl ?_
        refine gx_st (L' := [(2, (r : Int)), (2, (o : Int)), (0, (b : Int)), (0, p), (0, 0)]) (S' := [(0, 0), (2, (r : Int))]) r_266_72 rfl rfl rfl ?_
        obtain ⟨m8, e_m8⟩ : ∃ z, z = nu_up m7 r 7 0 := ⟨_, rfl⟩
        have hs_m8 : RdS w m8 r (upw (upw (upw (upw (upw (upw (upw s 0 (-1)) 1 (-1)) 2 (w 2)) 3 0) 4 0) 5 0) 16 (-1)) := by rw [e_m8]; exact rds_7 hs_m7 (i := 7) (by decide) _
        have fo_m8 : FrO 8 r m m8 := by rw [e_m8]; exact fro_f fo_m7 (by decide)
        refine gx_pf (x := 0) 0 r_266_73 (rfl) (tride_0 hr) ⟨by omega, rfl, by decide, by decide⟩ rfl (fun _ => by omega) (fun z => absurd z (by decide)) e_m8.symm ?_
        refine gx_st (L' := [(2, (r : Int)), (2, (o : Int)), (0, (b : Int)), (0, p), (0, 0)]) (S' := [(2, (r : Int))]) r_266_76 rfl rfl rfl ?_
        refine gx_gf (x := (r : Int) + 1) 2 r_266_77 (rfl) (tride_0 hr) ⟨by omega, rfl, by decide, by decide⟩ rfl (fun _ => by omega) (by show m8 r 8 = _; rw [e_m8, nu_ne (by decide), e_m7, nu_ne (by decide), e_m6, nu_ne (by decide), e_m5, nu_ne (by decide), e_m4, nu_ne (by decide), e_m3, nu_ne (by decide), e_m2, nu_ne (by decide), e_m1, nu_ne (by decide)]; exact hrr.1) ?_
        refine gx_st (L' := [(2, (r : Int)), (2, (o : Int)), (0, (b : Int)), (0, p), (0, 0)]) (S' := [(0, 0), (2, (r : Int) + 1)]) r_266_80 rfl rfl rfl ?_
        have c0 : m8 r 0 = (-1) := by rw [e_m8, nu_ne (by decide), e_m7, nu_ne (by decide), e_m6, nu_ne (by decide), e_m5, nu_ne (by decide), e_m4, nu_ne (by decide), e_m3, nu_ne (by decide), e_m2, nu_ne (by decide), e_m1, nu_at]
        have c1 : m8 r 1 = (-1) := by rw [e_m8, nu_ne (by decide), e_m7, nu_ne (by decide), e_m6, nu_ne (by decide), e_m5, nu_ne (by decide), e_m4, nu_ne (by decide), e_m3, nu_ne (by decide), e_m2, nu_at]
        have c2 : m8 r 2 = (w 2) := by rw [e_m8, nu_ne (by decide), e_m7, nu_ne (by decide), e_m6, nu_ne (by decide), e_m5, nu_ne (by decide), e_m4, nu_ne (by decide), e_m3, nu_at]
        have c3 : m8 r 3 = 0 := by rw [e_m8, nu_ne (by decide), e_m7, nu_ne (by decide), e_m6, nu_ne (by decide), e_m5, nu_ne (by decide), e_m4, nu_at]
        have c4 : m8 r 4 = 0 := by rw [e_m8, nu_ne (by decide), e_m7, nu_ne (by decide), e_m6, nu_ne (by decide), e_m5, nu_at]
        have c5 : m8 r 5 = 0 := by rw [e_m8, nu_ne (by decide), e_m7, nu_ne (by decide), e_m6, nu_at]
        have c6 : m8 r 6 = (-1) := by rw [e_m8, nu_ne (by decide), e_m7, nu_at]
        have rr_m8 : RideR m8 r := rr_fro hrr fo_m8 (by decide)
        have ir_m8 : IsleR m8 o := ir_fro hor fo_m8 hd
        have hw_m8 : WD m8 o w := wd_fro hw fo_m8 hd
        refine gx_cv (nx := 84) (S2 := []) (c_240 (r := r + 1) (n := 5) (tride_1 hr) (by omega) (by decide) 0) r_266_81 rfl rfl rfl rfl rfl rfl rfl (by decide) rfl (fun n81 q81 => ?_)
        obtain ⟨g1, g2⟩ := q81
        have r8 : n81 r 9 = (r : Int) + 2 := (g2 r 9 (by omega)).trans rr_m8.2
        have i11 : n81 o 11 = (o : Int) + 2 := (g2 o 11 (by omega)).trans ir_m8.2.1
        show GX T 1 266 84 [(2, (r : Int)), (2, (o : Int)), (0, (b : Int)), (0, p), (0, 0)] [] n81 (RV (fun m1 => RdS w m1 r (beginF w (b : Int) p) ∧ FrO 8 r m m1))
        refine gx_st (L' := [(2, (r : Int)), (2, (o : Int)), (0, (b : Int)), (0, p), (0, 0)]) (S' := [(2, (o : Int))]) r_266_84 rfl rfl rfl ?_
        refine gx_gf (x := (o : Int) + 2) 2 r_266_85 (rfl) (tisle_0 ho) ⟨by omega, rfl, by decide, by decide⟩ rfl (fun _ => by omega) (i11) ?_
        refine gx_st (L' := [(2, (r : Int)), (2, (o : Int)), (0, (b : Int)), (0, p), (0, 0)]) (S' := [(2, (r : Int)), (2, (o : Int) + 2)]) r_266_88 rfl rfl rfl ?_
        refine gx_gf (x := (r : Int) + 2) 2 r_266_89 (rfl) (tride_0 hr) ⟨by omega, rfl, by decide, by decide⟩ rfl (fun _ => by omega) (r8) ?_
        refine gx_cv (nx := 95) (S2 := []) (c_241 (r := o + 2) (n := 5) (tisle_2 ho) (by omega) (by decide) (g := r + 2) (tride_2 hr) (by omega)) r_266_92 rfl rfl rfl rfl rfl rfl rfl (by decide) rfl (fun n92 q92 => ?_)
        obtain ⟨g3, g4⟩ := q92
        show GX T 1 266 95 [(2, (r : Int)), (2, (o : Int)), (0, (b : Int)), (0, p), (0, 0)] [] n92 (RV (fun m1 => RdS w m1 r (beginF w (b : Int) p) ∧ FrO 8 r m m1))
        have hb7 : ¬ (b : Int) < w 7 := by omega
        exact gx_rt r_266_95 rfl rfl ⟨rfl, ⟨((g4 r 0 (by omega)).trans ((g2 r 0 (by omega)).trans c0)).trans (by show _ = (if (b : Int) < w 7 then p else -1); rw [if_neg hb7]), ((g4 r 1 (by omega)).trans ((g2 r 1 (by omega)).trans c1)).trans (by show _ = (if (b : Int) < w 7 then (b : Int) else -1); rw [if_neg hb7]), ((g4 r 2 (by omega)).trans ((g2 r 2 (by omega)).trans c2)).trans (rfl), ((g4 r 3 (by omega)).trans ((g2 r 3 (by omega)).trans c3)).trans (rfl), ((g4 r 4 (by omega)).trans ((g2 r 4 (by omega)).trans c4)).trans (rfl), ((g4 r 5 (by omega)).trans ((g2 r 5 (by omega)).trans c5)).trans (rfl), ((g4 r 6 (by omega)).trans ((g2 r 6 (by omega)).trans c6)).trans (rfl), fun c hc => ((g4 (r + 1) c (by omega)).trans (g1 c hc)).trans (begin_t hc).symm, fun t ht h5 => (g3 t ht).trans (((g2 (o + 2) t (by omega)).trans (wd_tree hw_m8 h5).2).trans (begin_u ht).symm)⟩, fun p i x y z => ((g4 p i (by omega)).trans (g2 p i (by omega))).trans (fo_m8 p i x y z)⟩
      · omega
    · omega
  · refine gx_st (L' := [(2, (r : Int)), (2, (o : Int)), (0, (b : Int)), (0, p), (9, 0)]) (S' := [(0, 1)]) r_266_8 rfl rfl rfl ?_
    refine gx_st (L' := [(2, (r : Int)), (2, (o : Int)), (0, (b : Int)), (0, p), (9, 0)]) (S' := [(0, 1)]) r_266_9 rfl rfl rfl ?_
    refine gx_st (L' := [(2, (r : Int)), (2, (o : Int)), (0, (b : Int)), (0, p), (0, 1)]) (S' := []) r_266_13 rfl rfl rfl ?_
    refine gx_st (L' := [(2, (r : Int)), (2, (o : Int)), (0, (b : Int)), (0, p), (0, 1)]) (S' := [(2, (r : Int))]) r_266_15 rfl rfl rfl ?_
    refine gx_st (L' := [(2, (r : Int)), (2, (o : Int)), (0, (b : Int)), (0, p), (0, 1)]) (S' := [(0, 1), (2, (r : Int))]) r_266_16 rfl rfl rfl ?_
    refine gx_i0 (P := 1 = 0) r_266_18 (rfl) (fun h18 => ?_) (fun h18 => ?_)
    · omega
    · refine gx_st (L' := [(2, (r : Int)), (2, (o : Int)), (0, (b : Int)), (0, p), (0, 1)]) (S' := [(0, p), (2, (r : Int))]) r_266_21 rfl rfl rfl ?_
      refine gx_st (L' := [(2, (r : Int)), (2, (o : Int)), (0, (b : Int)), (0, p), (0, 1)]) (S' := [(0, p), (2, (r : Int))]) r_266_22 rfl rfl rfl ?_
      obtain ⟨m9, e_m9⟩ : ∃ z, z = nu_up m r 0 p := ⟨_, rfl⟩
      have hs_m9 : RdS w m9 r (upw s 0 p) := by rw [e_m9]; exact rds_f hs_m (i := 0) (by decide) _
      have fo_m9 : FrO 8 r m m9 := by rw [e_m9]; exact fro_f fo_m (by decide)
      refine gx_pf (x := p) 0 r_266_26 (rfl) (tride_0 hr) ⟨by omega, rfl, by decide, by decide⟩ rfl (fun z => absurd z (by decide)) (fun z => absurd z (by decide)) e_m9.symm ?_
      refine gx_st (L' := [(2, (r : Int)), (2, (o : Int)), (0, (b : Int)), (0, p), (0, 1)]) (S' := [(2, (r : Int))]) r_266_29 rfl rfl rfl ?_
      refine gx_st (L' := [(2, (r : Int)), (2, (o : Int)), (0, (b : Int)), (0, p), (0, 1)]) (S' := [(0, 1), (2, (r : Int))]) r_266_30 rfl rfl rfl ?_
      refine gx_i0 (P := 1 = 0) r_266_32 (rfl) (fun h32 => ?_) (fun h32 => ?_)
      · omega
      · refine gx_st (L' := [(2, (r : Int)), (2, (o : Int)), (0, (b : Int)), (0, p), (0, 1)]) (S' := [(0, (b : Int)), (2, (r : Int))]) r_266_35 rfl rfl rfl ?_
        refine gx_st (L' := [(2, (r : Int)), (2, (o : Int)), (0, (b : Int)), (0, p), (0, 1)]) (S' := [(0, (b : Int)), (2, (r : Int))]) r_266_36 rfl rfl rfl ?_
        obtain ⟨m10, e_m10⟩ : ∃ z, z = nu_up m9 r 1 (b : Int) := ⟨_, rfl⟩
        have hs_m10 : RdS w m10 r (upw (upw s 0 p) 1 (b : Int)) := by rw [e_m10]; exact rds_f hs_m9 (i := 1) (by decide) _
        have fo_m10 : FrO 8 r m m10 := by rw [e_m10]; exact fro_f fo_m9 (by decide)
        refine gx_pf (x := (b : Int)) 0 r_266_40 (rfl) (tride_0 hr) ⟨by omega, rfl, by decide, by decide⟩ rfl (fun z => absurd z (by decide)) (fun z => absurd z (by decide)) e_m10.symm ?_
        refine gx_st (L' := [(2, (r : Int)), (2, (o : Int)), (0, (b : Int)), (0, p), (0, 1)]) (S' := [(2, (r : Int))]) r_266_43 rfl rfl rfl ?_
        refine gx_st (L' := [(2, (r : Int)), (2, (o : Int)), (0, (b : Int)), (0, p), (0, 1)]) (S' := [(2, (o : Int)), (2, (r : Int))]) r_266_44 rfl rfl rfl ?_
        refine gx_gf (x := (w 2)) 0 r_266_45 (rfl) (tisle_0 ho) ⟨by omega, rfl, by decide, by decide⟩ rfl (fun z => absurd z (by decide)) (by show m10 o 3 = _; rw [e_m10, nu_no (by omega), e_m9, nu_no (by omega)]; exact hw.1.2.2.2.1) ?_
        obtain ⟨m11, e_m11⟩ : ∃ z, z = nu_up m10 r 2 (w 2) := ⟨_, rfl⟩
        have hs_m11 : RdS w m11 r (upw (upw (upw s 0 p) 1 (b : Int)) 2 (w 2)) := by rw [e_m11]; exact rds_f hs_m10 (i := 2) (by decide) _
        have fo_m11 : FrO 8 r m m11 := by rw [e_m11]; exact fro_f fo_m10 (by decide)
        refine gx_pf (x := (w 2)) 0 r_266_48 (rfl) (tride_0 hr) ⟨by omega, rfl, by decide, by decide⟩ rfl (fun z => absurd z (by decide)) (fun z => absurd z (by decide)) e_m11.symm ?_
        refine gx_st (L' := [(2, (r : Int)), (2, (o : Int)), (0, (b : Int)), (0, p), (0, 1)]) (S' := [(2, (r : Int))]) r_266_51 rfl rfl rfl ?_
        refine gx_st (L' := [(2, (r : Int)), (2, (o : Int)), (0, (b : Int)), (0, p), (0, 1)]) (S' := [(0, 0), (2, (r : Int))]) r_266_52 rfl rfl rfl ?_
        obtain ⟨m12, e_m12⟩ : ∃ z, z = nu_up m11 r 3 0 := ⟨_, rfl⟩
        have hs_m12 : RdS w m12 r (upw (upw (upw (upw s 0 p) 1 (b : Int)) 2 (w 2)) 3 0) := by rw [e_m12]; exact rds_f hs_m11 (i := 3) (by decide) _
        have fo_m12 : FrO 8 r m m12 := by rw [e_m12]; exact fro_f fo_m11 (by decide)
        refine gx_pf (x := 0) 0 r_266_53 (rfl) (tride_0 hr) ⟨by omega, rfl, by decide, by decide⟩ rfl (fun z => absurd z (by decide)) (fun z => absurd z (by decide)) e_m12.symm ?_
        refine gx_st (L' := [(2, (r : Int)), (2, (o : Int)), (0, (b : Int)), (0, p), (0, 1)]) (S' := [(2, (r : Int))]) r_266_56 rfl rfl rfl ?_
        refine gx_st (L' := [(2, (r : Int)), (2, (o : Int)), (0, (b : Int)), (0, p), (0, 1)]) (S' := [(0, 0), (2, (r : Int))]) r_266_57 rfl rfl rfl ?_
        obtain ⟨m13, e_m13⟩ : ∃ z, z = nu_up m12 r 4 0 := ⟨_, rfl⟩
        have hs_m13 : RdS w m13 r (upw (upw (upw (upw (upw s 0 p) 1 (b : Int)) 2 (w 2)) 3 0) 4 0) := by rw [e_m13]; exact rds_f hs_m12 (i := 4) (by decide) _
        have fo_m13 : FrO 8 r m m13 := by rw [e_m13]; exact fro_f fo_m12 (by decide)
        refine gx_pf (x := 0) 0 r_266_58 (rfl) (tride_0 hr) ⟨by omega, rfl, by decide, by decide⟩ rfl (fun z => absurd z (by decide)) (fun z => absurd z (by decide)) e_m13.symm ?_
        refine gx_st (L' := [(2, (r : Int)), (2, (o : Int)), (0, (b : Int)), (0, p), (0, 1)]) (S' := [(2, (r : Int))]) r_266_61 rfl rfl rfl ?_
        refine gx_st (L' := [(2, (r : Int)), (2, (o : Int)), (0, (b : Int)), (0, p), (0, 1)]) (S' := [(0, 0), (2, (r : Int))]) r_266_62 rfl rfl rfl ?_
        obtain ⟨m14, e_m14⟩ : ∃ z, z = nu_up m13 r 5 0 := ⟨_, rfl⟩
        have hs_m14 : RdS w m14 r (upw (upw (upw (upw (upw (upw s 0 p) 1 (b : Int)) 2 (w 2)) 3 0) 4 0) 5 0) := by rw [e_m14]; exact rds_f hs_m13 (i := 5) (by decide) _
        have fo_m14 : FrO 8 r m m14 := by rw [e_m14]; exact fro_f fo_m13 (by decide)
        refine gx_pf (x := 0) 0 r_266_63 (rfl) (tride_0 hr) ⟨by omega, rfl, by decide, by decide⟩ rfl (fun z => absurd z (by decide)) (fun z => absurd z (by decide)) e_m14.symm ?_
        refine gx_st (L' := [(2, (r : Int)), (2, (o : Int)), (0, (b : Int)), (0, p), (0, 1)]) (S' := [(2, (r : Int))]) r_266_66 rfl rfl rfl ?_
        refine gx_st (L' := [(2, (r : Int)), (2, (o : Int)), (0, (b : Int)), (0, p), (0, 1)]) (S' := [(0, (-1)), (2, (r : Int))]) r_266_67 rfl rfl rfl ?_
        obtain ⟨m15, e_m15⟩ : ∃ z, z = nu_up m14 r 6 (-1) := ⟨_, rfl⟩
        have hs_m15 : RdS w m15 r (upw (upw (upw (upw (upw (upw (upw s 0 p) 1 (b : Int)) 2 (w 2)) 3 0) 4 0) 5 0) 16 (-1)) := by rw [e_m15]; exact rds_k hs_m14 _
        have fo_m15 : FrO 8 r m m15 := by rw [e_m15]; exact fro_f fo_m14 (by decide)
        refine gx_pf (x := (-1)) 0 r_266_68 (rfl) (tride_0 hr) ⟨by omega, rfl, by decide, by decide⟩ rfl (fun z => absurd z (by decide)) (fun z => absurd z (by decide)) e_m15.symm ?_
        refine gx_st (L' := [(2, (r : Int)), (2, (o : Int)), (0, (b : Int)), (0, p), (0, 1)]) (S' := [(2, (r : Int))]) r_266_71 rfl rfl rfl ?_
        refine gx_st (L' := [(2, (r : Int)), (2, (o : Int)), (0, (b : Int)), (0, p), (0, 1)]) (S' := [(0, 0), (2, (r : Int))]) r_266_72 rfl rfl rfl ?_
        obtain ⟨m16, e_m16⟩ : ∃ z, z = nu_up m15 r 7 0 := ⟨_, rfl⟩
        have hs_m16 : RdS w m16 r (upw (upw (upw (upw (upw (upw (upw s 0 p) 1 (b : Int)) 2 (w 2)) 3 0) 4 0) 5 0) 16 (-1)) := by rw [e_m16]; exact rds_7 hs_m15 (i := 7) (by decide) _
        have fo_m16 : FrO 8 r m m16 := by rw [e_m16]; exact fro_f fo_m15 (by decide)
        refine gx_pf (x := 0) 0 r_266_73 (rfl) (tride_0 hr) ⟨by omega, rfl, by decide, by decide⟩ rfl (fun _ => by omega) (fun z => absurd z (by decide)) e_m16.symm ?_
        refine gx_st (L' := [(2, (r : Int)), (2, (o : Int)), (0, (b : Int)), (0, p), (0, 1)]) (S' := [(2, (r : Int))]) r_266_76 rfl rfl rfl ?_
        refine gx_gf (x := (r : Int) + 1) 2 r_266_77 (rfl) (tride_0 hr) ⟨by omega, rfl, by decide, by decide⟩ rfl (fun _ => by omega) (by show m16 r 8 = _; rw [e_m16, nu_ne (by decide), e_m15, nu_ne (by decide), e_m14, nu_ne (by decide), e_m13, nu_ne (by decide), e_m12, nu_ne (by decide), e_m11, nu_ne (by decide), e_m10, nu_ne (by decide), e_m9, nu_ne (by decide)]; exact hrr.1) ?_
        refine gx_st (L' := [(2, (r : Int)), (2, (o : Int)), (0, (b : Int)), (0, p), (0, 1)]) (S' := [(0, 0), (2, (r : Int) + 1)]) r_266_80 rfl rfl rfl ?_
        have c0 : m16 r 0 = p := by rw [e_m16, nu_ne (by decide), e_m15, nu_ne (by decide), e_m14, nu_ne (by decide), e_m13, nu_ne (by decide), e_m12, nu_ne (by decide), e_m11, nu_ne (by decide), e_m10, nu_ne (by decide), e_m9, nu_at]
        have c1 : m16 r 1 = (b : Int) := by rw [e_m16, nu_ne (by decide), e_m15, nu_ne (by decide), e_m14, nu_ne (by decide), e_m13, nu_ne (by decide), e_m12, nu_ne (by decide), e_m11, nu_ne (by decide), e_m10, nu_at]
        have c2 : m16 r 2 = (w 2) := by rw [e_m16, nu_ne (by decide), e_m15, nu_ne (by decide), e_m14, nu_ne (by decide), e_m13, nu_ne (by decide), e_m12, nu_ne (by decide), e_m11, nu_at]
        have c3 : m16 r 3 = 0 := by rw [e_m16, nu_ne (by decide), e_m15, nu_ne (by decide), e_m14, nu_ne (by decide), e_m13, nu_ne (by decide), e_m12, nu_at]
        have c4 : m16 r 4 = 0 := by rw [e_m16, nu_ne (by decide), e_m15, nu_ne (by decide), e_m14, nu_ne (by decide), e_m13, nu_at]
        have c5 : m16 r 5 = 0 := by rw [e_m16, nu_ne (by decide), e_m15, nu_ne (by decide), e_m14, nu_at]
        have c6 : m16 r 6 = (-1) := by rw [e_m16, nu_ne (by decide), e_m15, nu_at]
        have rr_m16 : RideR m16 r := rr_fro hrr fo_m16 (by decide)
        have ir_m16 : IsleR m16 o := ir_fro hor fo_m16 hd
        have hw_m16 : WD m16 o w := wd_fro hw fo_m16 hd
        refine gx_cv (nx := 84) (S2 := []) (c_240 (r := r + 1) (n := 5) (tride_1 hr) (by omega) (by decide) 0) r_266_81 rfl rfl rfl rfl rfl rfl rfl (by decide) rfl (fun n81 q81 => ?_)
        obtain ⟨g1, g2⟩ := q81
        have r8 : n81 r 9 = (r : Int) + 2 := (g2 r 9 (by omega)).trans rr_m16.2
        have i11 : n81 o 11 = (o : Int) + 2 := (g2 o 11 (by omega)).trans ir_m16.2.1
        show GX T 1 266 84 [(2, (r : Int)), (2, (o : Int)), (0, (b : Int)), (0, p), (0, 1)] [] n81 (RV (fun m1 => RdS w m1 r (beginF w (b : Int) p) ∧ FrO 8 r m m1))
        refine gx_st (L' := [(2, (r : Int)), (2, (o : Int)), (0, (b : Int)), (0, p), (0, 1)]) (S' := [(2, (o : Int))]) r_266_84 rfl rfl rfl ?_
        refine gx_gf (x := (o : Int) + 2) 2 r_266_85 (rfl) (tisle_0 ho) ⟨by omega, rfl, by decide, by decide⟩ rfl (fun _ => by omega) (i11) ?_
        refine gx_st (L' := [(2, (r : Int)), (2, (o : Int)), (0, (b : Int)), (0, p), (0, 1)]) (S' := [(2, (r : Int)), (2, (o : Int) + 2)]) r_266_88 rfl rfl rfl ?_
        refine gx_gf (x := (r : Int) + 2) 2 r_266_89 (rfl) (tride_0 hr) ⟨by omega, rfl, by decide, by decide⟩ rfl (fun _ => by omega) (r8) ?_
        refine gx_cv (nx := 95) (S2 := []) (c_241 (r := o + 2) (n := 5) (tisle_2 ho) (by omega) (by decide) (g := r + 2) (tride_2 hr) (by omega)) r_266_92 rfl rfl rfl rfl rfl rfl rfl (by decide) rfl (fun n92 q92 => ?_)
        obtain ⟨g3, g4⟩ := q92
        show GX T 1 266 95 [(2, (r : Int)), (2, (o : Int)), (0, (b : Int)), (0, p), (0, 1)] [] n92 (RV (fun m1 => RdS w m1 r (beginF w (b : Int) p) ∧ FrO 8 r m m1))
        have hb7 : (b : Int) < w 7 := by omega
        exact gx_rt r_266_95 rfl rfl ⟨rfl, ⟨((g4 r 0 (by omega)).trans ((g2 r 0 (by omega)).trans c0)).trans (by show _ = (if (b : Int) < w 7 then p else -1); rw [if_pos hb7]), ((g4 r 1 (by omega)).trans ((g2 r 1 (by omega)).trans c1)).trans (by show _ = (if (b : Int) < w 7 then (b : Int) else -1); rw [if_pos hb7]), ((g4 r 2 (by omega)).trans ((g2 r 2 (by omega)).trans c2)).trans (rfl), ((g4 r 3 (by omega)).trans ((g2 r 3 (by omega)).trans c3)).trans (rfl), ((g4 r 4 (by omega)).trans ((g2 r 4 (by omega)).trans c4)).trans (rfl), ((g4 r 5 (by omega)).trans ((g2 r 5 (by omega)).trans c5)).trans (rfl), ((g4 r 6 (by omega)).trans ((g2 r 6 (by omega)).trans c6)).trans (rfl), fun c hc => ((g4 (r + 1) c (by omega)).trans (g1 c hc)).trans (begin_t hc).symm, fun t ht h5 => (g3 t ht).trans (((g2 (o + 2) t (by omega)).trans (wd_tree hw_m16 h5).2).trans (begin_u ht).symm)⟩, fun p i x y z => ((g4 p i (by omega)).trans (g2 p i (by omega))).trans (fo_m16 p i x y z)⟩
theorem z_290 (hT : TT T) {so : Nat} (hst : StT T so) (hsr : StR m so) {w s : Wd} (hs : RdS w m (so + 1) s) {h : Nat} (hh : h ≤ 12) : GX T 1 290 0 [(2, (so : Int)), (0, (h : Int)), (9, 0), (9, 0)] [] m (RV (fun m1 => NoteR m1 so w s h ∧ FrN_ so h m m1)) := by
  have hso0 := hst.1.1
  refine gx_st (L' := [(2, (so : Int)), (0, (h : Int)), (9, 0), (9, 0)]) (S' := [(2, (so : Int))]) r_290_0 rfl rfl rfl ?_
  refine gx_gf (x := (so : Int) + 4) 2 r_290_1 (rfl) (tstt_0 hst) ⟨by omega, rfl, by decide, by decide⟩ rfl (fun _ => by omega) (hsr.1.2.1) ?_
  refine gx_st (L' := [(2, (so : Int)), (0, (h : Int)), (9, 0), (9, 0)]) (S' := [(0, (h : Int)), (2, (so : Int) + 4)]) r_290_4 rfl rfl rfl ?_
  refine gx_st (L' := [(2, (so : Int)), (0, (h : Int)), (9, 0), (9, 0)]) (S' := [(2, (so : Int)), (0, (h : Int)), (2, (so : Int) + 4)]) r_290_5 rfl rfl rfl ?_
  refine gx_gf (x := (so : Int) + 1) 2 r_290_6 (rfl) (tstt_0 hst) ⟨by omega, rfl, by decide, by decide⟩ rfl (fun _ => by omega) (hsr.1.1) ?_
  refine gx_gf (x := (s 0)) 0 r_290_9 (by omega) (tstt_1 hst) ⟨by omega, rfl, by decide, by decide⟩ rfl (fun z => absurd z (by decide)) (hs.1) ?_
  refine gx_cv (nx := 15) (S2 := []) (c_238 (r := so + 4) (n := 13) (tstt_4 hst) (by omega) (by decide) (k := h) (by omega) (s 0)) r_290_12 rfl rfl rfl rfl rfl rfl rfl (by decide) rfl (fun n12_1 q12_1 => ?_)
  have e_n12_1 : n12_1 = nu_up m (so + 4) h (s 0) := q12_1
  show GX T 1 290 15 [(2, (so : Int)), (0, (h : Int)), (9, 0), (9, 0)] [] n12_1 (RV (fun m1 => NoteR m1 so w s h ∧ FrN_ so h m m1))
  refine gx_st (L' := [(2, (so : Int)), (0, (h : Int)), (9, 0), (9, 0)]) (S' := [(2, (so : Int))]) r_290_15 rfl rfl rfl ?_
  refine gx_gf (x := (so : Int) + 5) 2 r_290_16 (rfl) (tstt_0 hst) ⟨by omega, rfl, by decide, by decide⟩ rfl (fun _ => by omega) (by show n12_1 so 2 = _; rw [e_n12_1, nu_no (by omega)]; exact hsr.1.2.2.1) ?_
  refine gx_st (L' := [(2, (so : Int)), (0, (h : Int)), (9, 0), (9, 0)]) (S' := [(0, (h : Int)), (2, (so : Int) + 5)]) r_290_19 rfl rfl rfl ?_
  refine gx_st (L' := [(2, (so : Int)), (0, (h : Int)), (9, 0), (9, 0)]) (S' := [(2, (so : Int)), (0, (h : Int)), (2, (so : Int) + 5)]) r_290_20 rfl rfl rfl ?_
  refine gx_gf (x := (so : Int) + 1) 2 r_290_21 (rfl) (tstt_0 hst) ⟨by omega, rfl, by decide, by decide⟩ rfl (fun _ => by omega) (by show n12_1 so 0 = _; rw [e_n12_1, nu_no (by omega)]; exact hsr.1.1) ?_
  refine gx_gf (x := (s 1)) 0 r_290_24 (by omega) (tstt_1 hst) ⟨by omega, rfl, by decide, by decide⟩ rfl (fun z => absurd z (by decide)) (by show n12_1 (so + 1) 1 = _; rw [e_n12_1, nu_no (by omega)]; exact hs.2.1) ?_
  refine gx_cv (nx := 30) (S2 := []) (c_238 (r := so + 5) (n := 13) (tstt_5 hst) (by omega) (by decide) (k := h) (by omega) (s 1)) r_290_27 rfl rfl rfl rfl rfl rfl rfl (by decide) rfl (fun n27_2 q27_2 => ?_)
  have e_n27_2 : n27_2 = nu_up n12_1 (so + 5) h (s 1) := q27_2
  show GX T 1 290 30 [(2, (so : Int)), (0, (h : Int)), (9, 0), (9, 0)] [] n27_2 (RV (fun m1 => NoteR m1 so w s h ∧ FrN_ so h m m1))
  refine gx_st (L' := [(2, (so : Int)), (0, (h : Int)), (9, 0), (9, 0)]) (S' := [(2, (so : Int))]) r_290_30 rfl rfl rfl ?_
  refine gx_gf (x := (so : Int) + 6) 2 r_290_31 (rfl) (tstt_0 hst) ⟨by omega, rfl, by decide, by decide⟩ rfl (fun _ => by omega) (by show n27_2 so 3 = _; rw [e_n27_2, nu_no (by omega), e_n12_1, nu_no (by omega)]; exact hsr.1.2.2.2.1) ?_
  refine gx_st (L' := [(2, (so : Int)), (0, (h : Int)), (9, 0), (9, 0)]) (S' := [(0, (h : Int)), (2, (so : Int) + 6)]) r_290_34 rfl rfl rfl ?_
  refine gx_st (L' := [(2, (so : Int)), (0, (h : Int)), (9, 0), (9, 0)]) (S' := [(2, (so : Int)), (0, (h : Int)), (2, (so : Int) + 6)]) r_290_35 rfl rfl rfl ?_
  refine gx_gf (x := (so : Int) + 1) 2 r_290_36 (rfl) (tstt_0 hst) ⟨by omega, rfl, by decide, by decide⟩ rfl (fun _ => by omega) (by show n27_2 so 0 = _; rw [e_n27_2, nu_no (by omega), e_n12_1, nu_no (by omega)]; exact hsr.1.1) ?_
  refine gx_gf (x := (s 2)) 0 r_290_39 (by omega) (tstt_1 hst) ⟨by omega, rfl, by decide, by decide⟩ rfl (fun z => absurd z (by decide)) (by show n27_2 (so + 1) 2 = _; rw [e_n27_2, nu_no (by omega), e_n12_1, nu_no (by omega)]; exact hs.2.2.1) ?_
  refine gx_cv (nx := 45) (S2 := []) (c_238 (r := so + 6) (n := 13) (tstt_6 hst) (by omega) (by decide) (k := h) (by omega) (s 2)) r_290_42 rfl rfl rfl rfl rfl rfl rfl (by decide) rfl (fun n42_3 q42_3 => ?_)
  have e_n42_3 : n42_3 = nu_up n27_2 (so + 6) h (s 2) := q42_3
  show GX T 1 290 45 [(2, (so : Int)), (0, (h : Int)), (9, 0), (9, 0)] [] n42_3 (RV (fun m1 => NoteR m1 so w s h ∧ FrN_ so h m m1))
  refine gx_st (L' := [(2, (so : Int)), (0, (h : Int)), (9, 0), (9, 0)]) (S' := [(0, 0)]) r_290_45 rfl rfl rfl ?_
  refine gx_st (L' := [(2, (so : Int)), (0, (h : Int)), (0, 0), (9, 0)]) (S' := []) r_290_46 rfl rfl rfl ?_
  refine gx_st (L' := [(2, (so : Int)), (0, (h : Int)), (0, 0), (9, 0)]) (S' := [(0, 0)]) r_290_47 rfl rfl rfl ?_
  refine gx_st (L' := [(2, (so : Int)), (0, (h : Int)), (0, 0), (9, 0)]) (S' := [(0, 5), (0, 0)]) r_290_48 rfl rfl rfl ?_
  refine gx_ic (P := 5 ≤ 0) r_290_49 (rfl) (fun h49 => ?_) (fun h49 => ?_)
  · omega
  · refine gx_st (L' := [(2, (so : Int)), (0, (h : Int)), (0, 0), (9, 0)]) (S' := [(2, (so : Int))]) r_290_52 rfl rfl rfl ?_
    refine gx_gf (x := (so : Int) + 1) 2 r_290_53 (rfl) (tstt_0 hst) ⟨by omega, rfl, by decide, by decide⟩ rfl (fun _ => by omega) (by show n42_3 so 0 = _; rw [e_n42_3, nu_no (by omega), e_n27_2, nu_no (by omega), e_n12_1, nu_no (by omega)]; exact hsr.1.1) ?_
    refine gx_gf (x := (so : Int) + 2) 2 r_290_56 (by omega) (tstt_1 hst) ⟨by omega, rfl, by decide, by decide⟩ rfl (fun _ => by omega) (by show n42_3 (so + 1) 8 = _; rw [e_n42_3, nu_no (by omega), e_n27_2, nu_no (by omega), e_n12_1, nu_no (by omega)]; exact hsr.2.1) ?_
    refine gx_st (L' := [(2, (so : Int)), (0, (h : Int)), (0, 0), (9, 0)]) (S' := [(0, 0), (2, (so : Int) + 2)]) r_290_59 rfl rfl rfl ?_
    have c_60 : n42_3 (so + 2) 0 = (m (so + 2) 0) := by show n42_3 (so + 2) 0 = _; rw [e_n42_3, nu_no (by omega), e_n27_2, nu_no (by omega), e_n12_1, nu_no (by omega)]
    refine gx_ci (nx := 63) (S2 := []) (c_237 (r := so + 2) (n := 5) (tstt_2 hst) (by omega) (by decide) (k := 0) (by omega)) r_290_60 rfl rfl rfl rfl rfl rfl rfl (by decide) rfl (fun x60_4 n60_4 q60_4 => ?_)
    obtain ⟨e_x60_4, z_x60_4⟩ := q60_4
    have y_x60_4 := z_x60_4.symm
    subst y_x60_4
    rw [e_x60_4, c_60]
    show GX T 1 290 63 [(2, (so : Int)), (0, (h : Int)), (0, 0), (9, 0)] [(0, (m (so + 2) 0))] n42_3 (RV (fun m1 => NoteR m1 so w s h ∧ FrN_ so h m m1))
    refine gx_st (L' := [(2, (so : Int)), (0, (h : Int)), (0, 0), (0, (m (so + 2) 0))]) (S' := []) r_290_63 rfl rfl rfl ?_
    refine gx_st (L' := [(2, (so : Int)), (0, (h : Int)), (0, 0), (0, (m (so + 2) 0))]) (S' := [(2, (so : Int))]) r_290_64 rfl rfl rfl ?_
    refine gx_gf (x := (so : Int) + 7) 2 r_290_65 (rfl) (tstt_0 hst) ⟨by omega, rfl, by decide, by decide⟩ rfl (fun _ => by omega) (by show n42_3 so 4 = _; rw [e_n42_3, nu_no (by omega), e_n27_2, nu_no (by omega), e_n12_1, nu_no (by omega)]; exact hsr.1.2.2.2.2.1) ?_
    refine gx_st (L' := [(2, (so : Int)), (0, (h : Int)), (0, 0), (0, (m (so + 2) 0))]) (S' := [(0, (h : Int)), (2, (so : Int) + 7)]) r_290_68 rfl rfl rfl ?_
    refine gx_st (L' := [(2, (so : Int)), (0, (h : Int)), (0, 0), (0, (m (so + 2) 0))]) (S' := [(0, 5), (0, (h : Int)), (2, (so : Int) + 7)]) r_290_69 rfl rfl rfl ?_
    refine gx_ar (L' := [(2, (so : Int)), (0, (h : Int)), (0, 0), (0, (m (so + 2) 0))]) (S' := [(2, (so : Int) + 7)]) (t := 0) (e := w32 ((h : Int) * 5)) (z := 5 * (h : Int)) r_290_70 rfl rfl rfl (w32_eq (by omega) (by omega) (by omega)) ?_
    refine gx_st (L' := [(2, (so : Int)), (0, (h : Int)), (0, 0), (0, (m (so + 2) 0))]) (S' := [(0, 0), (0, 5 * (h : Int)), (2, (so : Int) + 7)]) r_290_71 rfl rfl rfl ?_
    refine gx_ar (L' := [(2, (so : Int)), (0, (h : Int)), (0, 0), (0, (m (so + 2) 0))]) (S' := [(2, (so : Int) + 7)]) (t := 0) (e := w32 ((5 * (h : Int)) + 0)) (z := 5 * (h : Int)) r_290_72 rfl rfl rfl (w32_eq (by omega) (by omega) (by omega)) ?_
    refine gx_st (L' := [(2, (so : Int)), (0, (h : Int)), (0, 0), (0, (m (so + 2) 0))]) (S' := [(0, (m (so + 2) 0)), (0, 5 * (h : Int)), (2, (so : Int) + 7)]) r_290_73 rfl rfl rfl ?_
    refine gx_cv (nx := 77) (S2 := []) (c_238 (r := so + 7) (n := 65) (tstt_7 hst) (by omega) (by decide) (k := 5 * h) (by omega) ((m (so + 2) 0))) r_290_74 rfl rfl rfl rfl rfl rfl rfl (by decide) rfl (fun n74_5 q74_5 => ?_)
    have e_n74_5 : n74_5 = nu_up n42_3 (so + 7) (5 * h) ((m (so + 2) 0)) := q74_5
    show GX T 1 290 77 [(2, (so : Int)), (0, (h : Int)), (0, 0), (0, (m (so + 2) 0))] [] n74_5 (RV (fun m1 => NoteR m1 so w s h ∧ FrN_ so h m m1))
    refine gx_li (z := 1) (L' := [(2, (so : Int)), (0, (h : Int)), (0, 1), (0, (m (so + 2) 0))]) r_290_77 rfl (w32_eq (by omega) (by omega) (by omega)) rfl ?_
    refine gx_st (L' := [(2, (so : Int)), (0, (h : Int)), (0, 1), (0, (m (so + 2) 0))]) (S' := []) r_290_80 rfl rfl rfl ?_
    refine gx_st (L' := [(2, (so : Int)), (0, (h : Int)), (0, 1), (0, (m (so + 2) 0))]) (S' := [(0, 1)]) r_290_47 rfl rfl rfl ?_
    refine gx_st (L' := [(2, (so : Int)), (0, (h : Int)), (0, 1), (0, (m (so + 2) 0))]) (S' := [(0, 5), (0, 1)]) r_290_48 rfl rfl rfl ?_
    refine gx_ic (P := 5 ≤ 1) r_290_49 (rfl) (fun h49 => ?_) (fun h49 => ?_)
    · omega
    · refine gx_st (L' := [(2, (so : Int)), (0, (h : Int)), (0, 1), (0, (m (so + 2) 0))]) (S' := [(2, (so : Int))]) r_290_52 rfl rfl rfl ?_
      refine gx_gf (x := (so : Int) + 1) 2 r_290_53 (rfl) (tstt_0 hst) ⟨by omega, rfl, by decide, by decide⟩ rfl (fun _ => by omega) (by show n74_5 so 0 = _; rw [e_n74_5, nu_no (by omega), e_n42_3, nu_no (by omega), e_n27_2, nu_no (by omega), e_n12_1, nu_no (by omega)]; exact hsr.1.1) ?_
      refine gx_gf (x := (so : Int) + 2) 2 r_290_56 (by omega) (tstt_1 hst) ⟨by omega, rfl, by decide, by decide⟩ rfl (fun _ => by omega) (by show n74_5 (so + 1) 8 = _; rw [e_n74_5, nu_no (by omega), e_n42_3, nu_no (by omega), e_n27_2, nu_no (by omega), e_n12_1, nu_no (by omega)]; exact hsr.2.1) ?_
      refine gx_st (L' := [(2, (so : Int)), (0, (h : Int)), (0, 1), (0, (m (so + 2) 0))]) (S' := [(0, 1), (2, (so : Int) + 2)]) r_290_59 rfl rfl rfl ?_
      have c_60 : n74_5 (so + 2) 1 = (m (so + 2) 1) := by show n74_5 (so + 2) 1 = _; rw [e_n74_5, nu_no (by omega), e_n42_3, nu_no (by omega), e_n27_2, nu_no (by omega), e_n12_1, nu_no (by omega)]
      refine gx_ci (nx := 63) (S2 := []) (c_237 (r := so + 2) (n := 5) (tstt_2 hst) (by omega) (by decide) (k := 1) (by omega)) r_290_60 rfl rfl rfl rfl rfl rfl rfl (by decide) rfl (fun x60_6 n60_6 q60_6 => ?_)
      obtain ⟨e_x60_6, z_x60_6⟩ := q60_6
      have y_x60_6 := z_x60_6.symm
      subst y_x60_6
      rw [e_x60_6, c_60]
      show GX T 1 290 63 [(2, (so : Int)), (0, (h : Int)), (0, 1), (0, (m (so + 2) 0))] [(0, (m (so + 2) 1))] n74_5 (RV (fun m1 => NoteR m1 so w s h ∧ FrN_ so h m m1))
      refine gx_st (L' := [(2, (so : Int)), (0, (h : Int)), (0, 1), (0, (m (so + 2) 1))]) (S' := []) r_290_63 rfl rfl rfl ?_
      refine gx_st (L' := [(2, (so : Int)), (0, (h : Int)), (0, 1), (0, (m (so + 2) 1))]) (S' := [(2, (so : Int))]) r_290_64 rfl rfl rfl ?_
      refine gx_gf (x := (so : Int) + 7) 2 r_290_65 (rfl) (tstt_0 hst) ⟨by omega, rfl, by decide, by decide⟩ rfl (fun _ => by omega) (by show n74_5 so 4 = _; rw [e_n74_5, nu_no (by omega), e_n42_3, nu_no (by omega), e_n27_2, nu_no (by omega), e_n12_1, nu_no (by omega)]; exact hsr.1.2.2.2.2.1) ?_
      refine gx_st (L' := [(2, (so : Int)), (0, (h : Int)), (0, 1), (0, (m (so + 2) 1))]) (S' := [(0, (h : Int)), (2, (so : Int) + 7)]) r_290_68 rfl rfl rfl ?_
      refine gx_st (L' := [(2, (so : Int)), (0, (h : Int)), (0, 1), (0, (m (so + 2) 1))]) (S' := [(0, 5), (0, (h : Int)), (2, (so : Int) + 7)]) r_290_69 rfl rfl rfl ?_
      refine gx_ar (L' := [(2, (so : Int)), (0, (h : Int)), (0, 1), (0, (m (so + 2) 1))]) (S' := [(2, (so : Int) + 7)]) (t := 0) (e := w32 ((h : Int) * 5)) (z := 5 * (h : Int)) r_290_70 rfl rfl rfl (w32_eq (by omega) (by omega) (by omega)) ?_
      refine gx_st (L' := [(2, (so : Int)), (0, (h : Int)), (0, 1), (0, (m (so + 2) 1))]) (S' := [(0, 1), (0, 5 * (h : Int)), (2, (so : Int) + 7)]) r_290_71 rfl rfl rfl ?_
      refine gx_ar (L' := [(2, (so : Int)), (0, (h : Int)), (0, 1), (0, (m (so + 2) 1))]) (S' := [(2, (so : Int) + 7)]) (t := 0) (e := w32 ((5 * (h : Int)) + 1)) (z := 5 * (h : Int) + 1) r_290_72 rfl rfl rfl (w32_eq (by omega) (by omega) (by omega)) ?_
      refine gx_st (L' := [(2, (so : Int)), (0, (h : Int)), (0, 1), (0, (m (so + 2) 1))]) (S' := [(0, (m (so + 2) 1)), (0, 5 * (h : Int) + 1), (2, (so : Int) + 7)]) r_290_73 rfl rfl rfl ?_
      refine gx_cv (nx := 77) (S2 := []) (c_238 (r := so + 7) (n := 65) (tstt_7 hst) (by omega) (by decide) (k := 5 * h + 1) (by omega) ((m (so + 2) 1))) r_290_74 rfl rfl rfl rfl rfl rfl rfl (by decide) rfl (fun n74_7 q74_7 => ?_)
      have e_n74_7 : n74_7 = nu_up n74_5 (so + 7) (5 * h + 1) ((m (so + 2) 1)) := q74_7
      show GX T 1 290 77 [(2, (so : Int)), (0, (h : Int)), (0, 1), (0, (m (so + 2) 1))] [] n74_7 (RV (fun m1 => NoteR m1 so w s h ∧ FrN_ so h m m1))
      refine gx_li (z := 2) (L' := [(2, (so : Int)), (0, (h : Int)), (0, 2), (0, (m (so + 2) 1))]) r_290_77 rfl (w32_eq (by omega) (by omega) (by omega)) rfl ?_
      refine gx_st (L' := [(2, (so : Int)), (0, (h : Int)), (0, 2), (0, (m (so + 2) 1))]) (S' := []) r_290_80 rfl rfl rfl ?_
      refine gx_st (L' := [(2, (so : Int)), (0, (h : Int)), (0, 2), (0, (m (so + 2) 1))]) (S' := [(0, 2)]) r_290_47 rfl rfl rfl ?_
      refine gx_st (L' := [(2, (so : Int)), (0, (h : Int)), (0, 2), (0, (m (so + 2) 1))]) (S' := [(0, 5), (0, 2)]) r_290_48 rfl rfl rfl ?_
      refine gx_ic (P := 5 ≤ 2) r_290_49 (rfl) (fun h49 => ?_) (fun h49 => ?_)
      · omega
      · refine gx_st (L' := [(2, (so : Int)), (0, (h : Int)), (0, 2), (0, (m (so + 2) 1))]) (S' := [(2, (so : Int))]) r_290_52 rfl rfl rfl ?_
        refine gx_gf (x := (so : Int) + 1) 2 r_290_53 (rfl) (tstt_0 hst) ⟨by omega, rfl, by decide, by decide⟩ rfl (fun _ => by omega) (by show n74_7 so 0 = _; rw [e_n74_7, nu_no (by omega), e_n74_5, nu_no (by omega), e_n42_3, nu_no (by omega), e_n27_2, nu_no (by omega), e_n12_1, nu_no (by omega)]; exact hsr.1.1) ?_
        refine gx_gf (x := (so : Int) + 2) 2 r_290_56 (by omega) (tstt_1 hst) ⟨by omega, rfl, by decide, by decide⟩ rfl (fun _ => by omega) (by show n74_7 (so + 1) 8 = _; rw [e_n74_7, nu_no (by omega), e_n74_5, nu_no (by omega), e_n42_3, nu_no (by omega), e_n27_2, nu_no (by omega), e_n12_1, nu_no (by omega)]; exact hsr.2.1) ?_
        refine gx_st (L' := [(2, (so : Int)), (0, (h : Int)), (0, 2), (0, (m (so + 2) 1))]) (S' := [(0, 2), (2, (so : Int) + 2)]) r_290_59 rfl rfl rfl ?_
        have c_60 : n74_7 (so + 2) 2 = (m (so + 2) 2) := by show n74_7 (so + 2) 2 = _; rw [e_n74_7, nu_no (by omega), e_n74_5, nu_no (by omega), e_n42_3, nu_no (by omega), e_n27_2, nu_no (by omega), e_n12_1, nu_no (by omega)]
        refine gx_ci (nx := 63) (S2 := []) (c_237 (r := so + 2) (n := 5) (tstt_2 hst) (by omega) (by decide) (k := 2) (by omega)) r_290_60 rfl rfl rfl rfl rfl rfl rfl (by decide) rfl (fun x60_8 n60_8 q60_8 => ?_)
        obtain ⟨e_x60_8, z_x60_8⟩ := q60_8
        have y_x60_8 := z_x60_8.symm
        subst y_x60_8
        rw [e_x60_8, c_60]
        show GX T 1 290 63 [(2, (so : Int)), (0, (h : Int)), (0, 2), (0, (m (so + 2) 1))] [(0, (m (so + 2) 2))] n74_7 (RV (fun m1 => NoteR m1 so w s h ∧ FrN_ so h m m1))
        refine gx_st (L' := [(2, (so : Int)), (0, (h : Int)), (0, 2), (0, (m (so + 2) 2))]) (S' := []) r_290_63 rfl rfl rfl ?_
        refine gx_st (L' := [(2, (so : Int)), (0, (h : Int)), (0, 2), (0, (m (so + 2) 2))]) (S' := [(2, (so : Int))]) r_290_64 rfl rfl rfl ?_
        refine gx_gf (x := (so : Int) + 7) 2 r_290_65 (rfl) (tstt_0 hst) ⟨by omega, rfl, by decide, by decide⟩ rfl (fun _ => by omega) (by show n74_7 so 4 = _; rw [e_n74_7, nu_no (by omega), e_n74_5, nu_no (by omega), e_n42_3, nu_no (by omega), e_n27_2, nu_no (by omega), e_n12_1, nu_no (by omega)]; exact hsr.1.2.2.2.2.1) ?_
        refine gx_st (L' := [(2, (so : Int)), (0, (h : Int)), (0, 2), (0, (m (so + 2) 2))]) (S' := [(0, (h : Int)), (2, (so : Int) + 7)]) r_290_68 rfl rfl rfl ?_
        refine gx_st (L' := [(2, (so : Int)), (0, (h : Int)), (0, 2), (0, (m (so + 2) 2))]) (S' := [(0, 5), (0, (h : Int)), (2, (so : Int) + 7)]) r_290_69 rfl rfl rfl ?_
        refine gx_ar (L' := [(2, (so : Int)), (0, (h : Int)), (0, 2), (0, (m (so + 2) 2))]) (S' := [(2, (so : Int) + 7)]) (t := 0) (e := w32 ((h : Int) * 5)) (z := 5 * (h : Int)) r_290_70 rfl rfl rfl (w32_eq (by omega) (by omega) (by omega)) ?_
        refine gx_st (L' := [(2, (so : Int)), (0, (h : Int)), (0, 2), (0, (m (so + 2) 2))]) (S' := [(0, 2), (0, 5 * (h : Int)), (2, (so : Int) + 7)]) r_290_71 rfl rfl rfl ?_
        refine gx_ar (L' := [(2, (so : Int)), (0, (h : Int)), (0, 2), (0, (m (so + 2) 2))]) (S' := [(2, (so : Int) + 7)]) (t := 0) (e := w32 ((5 * (h : Int)) + 2)) (z := 5 * (h : Int) + 2) r_290_72 rfl rfl rfl (w32_eq (by omega) (by omega) (by omega)) ?_
        refine gx_st (L' := [(2, (so : Int)), (0, (h : Int)), (0, 2), (0, (m (so + 2) 2))]) (S' := [(0, (m (so + 2) 2)), (0, 5 * (h : Int) + 2), (2, (so : Int) + 7)]) r_290_73 rfl rfl rfl ?_
        refine gx_cv (nx := 77) (S2 := []) (c_238 (r := so + 7) (n := 65) (tstt_7 hst) (by omega) (by decide) (k := 5 * h + 2) (by omega) ((m (so + 2) 2))) r_290_74 rfl rfl rfl rfl rfl rfl rfl (by decide) rfl (fun n74_9 q74_9 => ?_)
        have e_n74_9 : n74_9 = nu_up n74_7 (so + 7) (5 * h + 2) ((m (so + 2) 2)) := q74_9
        show GX T 1 290 77 [(2, (so : Int)), (0, (h : Int)), (0, 2), (0, (m (so + 2) 2))] [] n74_9 (RV (fun m1 => NoteR m1 so w s h ∧ FrN_ so h m m1))
        refine gx_li (z := 3) (L' := [(2, (so : Int)), (0, (h : Int)), (0, 3), (0, (m (so + 2) 2))]) r_290_77 rfl (w32_eq (by omega) (by omega) (by omega)) rfl ?_
        refine gx_st (L' := [(2, (so : Int)), (0, (h : Int)), (0, 3), (0, (m (so + 2) 2))]) (S' := []) r_290_80 rfl rfl rfl ?_
        refine gx_st (L' := [(2, (so : Int)), (0, (h : Int)), (0, 3), (0, (m (so + 2) 2))]) (S' := [(0, 3)]) r_290_47 rfl rfl rfl ?_
        refine gx_st (L' := [(2, (so : Int)), (0, (h : Int)), (0, 3), (0, (m (so + 2) 2))]) (S' := [(0, 5), (0, 3)]) r_290_48 rfl rfl rfl ?_
        refine gx_ic (P := 5 ≤ 3) r_290_49 (rfl) (fun h49 => ?_) (fun h49 => ?_)
        · omega
        · refine gx_st (L' := [(2, (so : Int)), (0, (h : Int)), (0, 3), (0, (m (so + 2) 2))]) (S' := [(2, (so : Int))]) r_290_52 rfl rfl rfl ?_
          refine gx_gf (x := (so : Int) + 1) 2 r_290_53 (rfl) (tstt_0 hst) ⟨by omega, rfl, by decide, by decide⟩ rfl (fun _ => by omega) (by show n74_9 so 0 = _; rw [e_n74_9, nu_no (by omega), e_n74_7, nu_no (by omega), e_n74_5, nu_no (by omega), e_n42_3, nu_no (by omega), e_n27_2, nu_no (by omega), e_n12_1, nu_no (by omega)]; exact hsr.1.1) ?_
          refine gx_gf (x := (so : Int) + 2) 2 r_290_56 (by omega) (tstt_1 hst) ⟨by omega, rfl, by decide, by decide⟩ rfl (fun _ => by omega) (by show n74_9 (so + 1) 8 = _; rw [e_n74_9, nu_no (by omega), e_n74_7, nu_no (by omega), e_n74_5, nu_no (by omega), e_n42_3, nu_no (by omega), e_n27_2, nu_no (by omega), e_n12_1, nu_no (by omega)]; exact hsr.2.1) ?_
          refine gx_st (L' := [(2, (so : Int)), (0, (h : Int)), (0, 3), (0, (m (so + 2) 2))]) (S' := [(0, 3), (2, (so : Int) + 2)]) r_290_59 rfl rfl rfl ?_
          have c_60 : n74_9 (so + 2) 3 = (m (so + 2) 3) := by show n74_9 (so + 2) 3 = _; rw [e_n74_9, nu_no (by omega), e_n74_7, nu_no (by omega), e_n74_5, nu_no (by omega), e_n42_3, nu_no (by omega), e_n27_2, nu_no (by omega), e_n12_1, nu_no (by omega)]
          refine gx_ci (nx := 63) (S2 := []) (c_237 (r := so + 2) (n := 5) (tstt_2 hst) (by omega) (by decide) (k := 3) (by omega)) r_290_60 rfl rfl rfl rfl rfl rfl rfl (by decide) rfl (fun x60_10 n60_10 q60_10 => ?_)
          obtain ⟨e_x60_10, z_x60_10⟩ := q60_10
          have y_x60_10 := z_x60_10.symm
          subst y_x60_10
          rw [e_x60_10, c_60]
          show GX T 1 290 63 [(2, (so : Int)), (0, (h : Int)), (0, 3), (0, (m (so + 2) 2))] [(0, (m (so + 2) 3))] n74_9 (RV (fun m1 => NoteR m1 so w s h ∧ FrN_ so h m m1))
          refine gx_st (L' := [(2, (so : Int)), (0, (h : Int)), (0, 3), (0, (m (so + 2) 3))]) (S' := []) r_290_63 rfl rfl rfl ?_
          refine gx_st (L' := [(2, (so : Int)), (0, (h : Int)), (0, 3), (0, (m (so + 2) 3))]) (S' := [(2, (so : Int))]) r_290_64 rfl rfl rfl ?_
          refine gx_gf (x := (so : Int) + 7) 2 r_290_65 (rfl) (tstt_0 hst) ⟨by omega, rfl, by decide, by decide⟩ rfl (fun _ => by omega) (by show n74_9 so 4 = _; rw [e_n74_9, nu_no (by omega), e_n74_7, nu_no (by omega), e_n74_5, nu_no (by omega), e_n42_3, nu_no (by omega), e_n27_2, nu_no (by omega), e_n12_1, nu_no (by omega)]; exact hsr.1.2.2.2.2.1) ?_
          refine gx_st (L' := [(2, (so : Int)), (0, (h : Int)), (0, 3), (0, (m (so + 2) 3))]) (S' := [(0, (h : Int)), (2, (so : Int) + 7)]) r_290_68 rfl rfl rfl ?_
          refine gx_st (L' := [(2, (so : Int)), (0, (h : Int)), (0, 3), (0, (m (so + 2) 3))]) (S' := [(0, 5), (0, (h : Int)), (2, (so : Int) + 7)]) r_290_69 rfl rfl rfl ?_
          refine gx_ar (L' := [(2, (so : Int)), (0, (h : Int)), (0, 3), (0, (m (so + 2) 3))]) (S' := [(2, (so : Int) + 7)]) (t := 0) (e := w32 ((h : Int) * 5)) (z := 5 * (h : Int)) r_290_70 rfl rfl rfl (w32_eq (by omega) (by omega) (by omega)) ?_
          refine gx_st (L' := [(2, (so : Int)), (0, (h : Int)), (0, 3), (0, (m (so + 2) 3))]) (S' := [(0, 3), (0, 5 * (h : Int)), (2, (so : Int) + 7)]) r_290_71 rfl rfl rfl ?_
          refine gx_ar (L' := [(2, (so : Int)), (0, (h : Int)), (0, 3), (0, (m (so + 2) 3))]) (S' := [(2, (so : Int) + 7)]) (t := 0) (e := w32 ((5 * (h : Int)) + 3)) (z := 5 * (h : Int) + 3) r_290_72 rfl rfl rfl (w32_eq (by omega) (by omega) (by omega)) ?_
          refine gx_st (L' := [(2, (so : Int)), (0, (h : Int)), (0, 3), (0, (m (so + 2) 3))]) (S' := [(0, (m (so + 2) 3)), (0, 5 * (h : Int) + 3), (2, (so : Int) + 7)]) r_290_73 rfl rfl rfl ?_
          refine gx_cv (nx := 77) (S2 := []) (c_238 (r := so + 7) (n := 65) (tstt_7 hst) (by omega) (by decide) (k := 5 * h + 3) (by omega) ((m (so + 2) 3))) r_290_74 rfl rfl rfl rfl rfl rfl rfl (by decide) rfl (fun n74_11 q74_11 => ?_)
          have e_n74_11 : n74_11 = nu_up n74_9 (so + 7) (5 * h + 3) ((m (so + 2) 3)) := q74_11
          show GX T 1 290 77 [(2, (so : Int)), (0, (h : Int)), (0, 3), (0, (m (so + 2) 3))] [] n74_11 (RV (fun m1 => NoteR m1 so w s h ∧ FrN_ so h m m1))
          refine gx_li (z := 4) (L' := [(2, (so : Int)), (0, (h : Int)), (0, 4), (0, (m (so + 2) 3))]) r_290_77 rfl (w32_eq (by omega) (by omega) (by omega)) rfl ?_
          refine gx_st (L' := [(2, (so : Int)), (0, (h : Int)), (0, 4), (0, (m (so + 2) 3))]) (S' := []) r_290_80 rfl rfl rfl ?_
          refine gx_st (L' := [(2, (so : Int)), (0, (h : Int)), (0, 4), (0, (m (so + 2) 3))]) (S' := [(0, 4)]) r_290_47 rfl rfl rfl ?_
          refine gx_st (L' := [(2, (so : Int)), (0, (h : Int)), (0, 4), (0, (m (so + 2) 3))]) (S' := [(0, 5), (0, 4)]) r_290_48 rfl rfl rfl ?_
          refine gx_ic (P := 5 ≤ 4) r_290_49 (rfl) (fun h49 => ?_) (fun h49 => ?_)
          · omega
          · refine gx_st (L' := [(2, (so : Int)), (0, (h : Int)), (0, 4), (0, (m (so + 2) 3))]) (S' := [(2, (so : Int))]) r_290_52 rfl rfl rfl ?_
            refine gx_gf (x := (so : Int) + 1) 2 r_290_53 (rfl) (tstt_0 hst) ⟨by omega, rfl, by decide, by decide⟩ rfl (fun _ => by omega) (by show n74_11 so 0 = _; rw [e_n74_11, nu_no (by omega), e_n74_9, nu_no (by omega), e_n74_7, nu_no (by omega), e_n74_5, nu_no (by omega), e_n42_3, nu_no (by omega), e_n27_2, nu_no (by omega), e_n12_1, nu_no (by omega)]; exact hsr.1.1) ?_
            refine gx_gf (x := (so : Int) + 2) 2 r_290_56 (by omega) (tstt_1 hst) ⟨by omega, rfl, by decide, by decide⟩ rfl (fun _ => by omega) (by show n74_11 (so + 1) 8 = _; rw [e_n74_11, nu_no (by omega), e_n74_9, nu_no (by omega), e_n74_7, nu_no (by omega), e_n74_5, nu_no (by omega), e_n42_3, nu_no (by omega), e_n27_2, nu_no (by omega), e_n12_1, nu_no (by omega)]; exact hsr.2.1) ?_
            refine gx_st (L' := [(2, (so : Int)), (0, (h : Int)), (0, 4), (0, (m (so + 2) 3))]) (S' := [(0, 4), (2, (so : Int) + 2)]) r_290_59 rfl rfl rfl ?_
            have c_60 : n74_11 (so + 2) 4 = (m (so + 2) 4) := by show n74_11 (so + 2) 4 = _; rw [e_n74_11, nu_no (by omega), e_n74_9, nu_no (by omega), e_n74_7, nu_no (by omega), e_n74_5, nu_no (by omega), e_n42_3, nu_no (by omega), e_n27_2, nu_no (by omega), e_n12_1, nu_no (by omega)]
            refine gx_ci (nx := 63) (S2 := []) (c_237 (r := so + 2) (n := 5) (tstt_2 hst) (by omega) (by decide) (k := 4) (by omega)) r_290_60 rfl rfl rfl rfl rfl rfl rfl (by decide) rfl (fun x60_12 n60_12 q60_12 => ?_)
            obtain ⟨e_x60_12, z_x60_12⟩ := q60_12
            have y_x60_12 := z_x60_12.symm
            subst y_x60_12
            rw [e_x60_12, c_60]
            show GX T 1 290 63 [(2, (so : Int)), (0, (h : Int)), (0, 4), (0, (m (so + 2) 3))] [(0, (m (so + 2) 4))] n74_11 (RV (fun m1 => NoteR m1 so w s h ∧ FrN_ so h m m1))
            refine gx_st (L' := [(2, (so : Int)), (0, (h : Int)), (0, 4), (0, (m (so + 2) 4))]) (S' := []) r_290_63 rfl rfl rfl ?_
            refine gx_st (L' := [(2, (so : Int)), (0, (h : Int)), (0, 4), (0, (m (so + 2) 4))]) (S' := [(2, (so : Int))]) r_290_64 rfl rfl rfl ?_
            refine gx_gf (x := (so : Int) + 7) 2 r_290_65 (rfl) (tstt_0 hst) ⟨by omega, rfl, by decide, by decide⟩ rfl (fun _ => by omega) (by show n74_11 so 4 = _; rw [e_n74_11, nu_no (by omega), e_n74_9, nu_no (by omega), e_n74_7, nu_no (by omega), e_n74_5, nu_no (by omega), e_n42_3, nu_no (by omega), e_n27_2, nu_no (by omega), e_n12_1, nu_no (by omega)]; exact hsr.1.2.2.2.2.1) ?_
            refine gx_st (L' := [(2, (so : Int)), (0, (h : Int)), (0, 4), (0, (m (so + 2) 4))]) (S' := [(0, (h : Int)), (2, (so : Int) + 7)]) r_290_68 rfl rfl rfl ?_
            refine gx_st (L' := [(2, (so : Int)), (0, (h : Int)), (0, 4), (0, (m (so + 2) 4))]) (S' := [(0, 5), (0, (h : Int)), (2, (so : Int) + 7)]) r_290_69 rfl rfl rfl ?_
            refine gx_ar (L' := [(2, (so : Int)), (0, (h : Int)), (0, 4), (0, (m (so + 2) 4))]) (S' := [(2, (so : Int) + 7)]) (t := 0) (e := w32 ((h : Int) * 5)) (z := 5 * (h : Int)) r_290_70 rfl rfl rfl (w32_eq (by omega) (by omega) (by omega)) ?_
            refine gx_st (L' := [(2, (so : Int)), (0, (h : Int)), (0, 4), (0, (m (so + 2) 4))]) (S' := [(0, 4), (0, 5 * (h : Int)), (2, (so : Int) + 7)]) r_290_71 rfl rfl rfl ?_
            refine gx_ar (L' := [(2, (so : Int)), (0, (h : Int)), (0, 4), (0, (m (so + 2) 4))]) (S' := [(2, (so : Int) + 7)]) (t := 0) (e := w32 ((5 * (h : Int)) + 4)) (z := 5 * (h : Int) + 4) r_290_72 rfl rfl rfl (w32_eq (by omega) (by omega) (by omega)) ?_
            refine gx_st (L' := [(2, (so : Int)), (0, (h : Int)), (0, 4), (0, (m (so + 2) 4))]) (S' := [(0, (m (so + 2) 4)), (0, 5 * (h : Int) + 4), (2, (so : Int) + 7)]) r_290_73 rfl rfl rfl ?_
            refine gx_cv (nx := 77) (S2 := []) (c_238 (r := so + 7) (n := 65) (tstt_7 hst) (by omega) (by decide) (k := 5 * h + 4) (by omega) ((m (so + 2) 4))) r_290_74 rfl rfl rfl rfl rfl rfl rfl (by decide) rfl (fun n74_13 q74_13 => ?_)
            have e_n74_13 : n74_13 = nu_up n74_11 (so + 7) (5 * h + 4) ((m (so + 2) 4)) := q74_13
            show GX T 1 290 77 [(2, (so : Int)), (0, (h : Int)), (0, 4), (0, (m (so + 2) 4))] [] n74_13 (RV (fun m1 => NoteR m1 so w s h ∧ FrN_ so h m m1))
            refine gx_li (z := 5) (L' := [(2, (so : Int)), (0, (h : Int)), (0, 5), (0, (m (so + 2) 4))]) r_290_77 rfl (w32_eq (by omega) (by omega) (by omega)) rfl ?_
            refine gx_st (L' := [(2, (so : Int)), (0, (h : Int)), (0, 5), (0, (m (so + 2) 4))]) (S' := []) r_290_80 rfl rfl rfl ?_
            refine gx_st (L' := [(2, (so : Int)), (0, (h : Int)), (0, 5), (0, (m (so + 2) 4))]) (S' := [(0, 5)]) r_290_47 rfl rfl rfl ?_
            refine gx_st (L' := [(2, (so : Int)), (0, (h : Int)), (0, 5), (0, (m (so + 2) 4))]) (S' := [(0, 5), (0, 5)]) r_290_48 rfl rfl rfl ?_
            refine gx_ic (P := 5 ≤ 5) r_290_49 (rfl) (fun h49 => ?_) (fun h49 => ?_)
            · refine gx_st (L' := [(2, (so : Int)), (0, (h : Int)), (0, 5), (0, (m (so + 2) 4))]) (S' := [(0, 0)]) r_290_83 rfl rfl rfl ?_
              refine gx_st (L' := [(2, (so : Int)), (0, (h : Int)), (0, 0), (0, (m (so + 2) 4))]) (S' := []) r_290_84 rfl rfl rfl ?_
              refine gx_st (L' := [(2, (so : Int)), (0, (h : Int)), (0, 0), (0, (m (so + 2) 4))]) (S' := [(0, 0)]) r_290_85 rfl rfl rfl ?_
              refine gx_st (L' := [(2, (so : Int)), (0, (h : Int)), (0, 0), (0, (m (so + 2) 4))]) (S' := [(0, 5), (0, 0)]) r_290_86 rfl rfl rfl ?_
              refine gx_ic (P := 5 ≤ 0) r_290_87 (rfl) (fun h87 => ?_) (fun h87 => ?_)
              · omega
              · refine gx_st (L' := [(2, (so : Int)), (0, (h : Int)), (0, 0), (0, (m (so + 2) 4))]) (S' := [(2, (so : Int))]) r_290_90 rfl rfl rfl ?_
                refine gx_gf (x := (so : Int) + 1) 2 r_290_91 (rfl) (tstt_0 hst) ⟨by omega, rfl, by decide, by decide⟩ rfl (fun _ => by omega) (by show n74_13 so 0 = _; rw [e_n74_13, nu_no (by omega), e_n74_11, nu_no (by omega), e_n74_9, nu_no (by omega), e_n74_7, nu_no (by omega), e_n74_5, nu_no (by omega), e_n42_3, nu_no (by omega), e_n27_2, nu_no (by omega), e_n12_1, nu_no (by omega)]; exact hsr.1.1) ?_
                refine gx_gf (x := (so : Int) + 3) 2 r_290_94 (by omega) (tstt_1 hst) ⟨by omega, rfl, by decide, by decide⟩ rfl (fun _ => by omega) (by show n74_13 (so + 1) 9 = _; rw [e_n74_13, nu_no (by omega), e_n74_11, nu_no (by omega), e_n74_9, nu_no (by omega), e_n74_7, nu_no (by omega), e_n74_5, nu_no (by omega), e_n42_3, nu_no (by omega), e_n27_2, nu_no (by omega), e_n12_1, nu_no (by omega)]; exact hsr.2.2) ?_
                refine gx_st (L' := [(2, (so : Int)), (0, (h : Int)), (0, 0), (0, (m (so + 2) 4))]) (S' := [(0, 0), (2, (so : Int) + 3)]) r_290_97 rfl rfl rfl ?_
                have c_98 : n74_13 (so + 3) 0 = (m (so + 3) 0) := by show n74_13 (so + 3) 0 = _; rw [e_n74_13, nu_no (by omega), e_n74_11, nu_no (by omega), e_n74_9, nu_no (by omega), e_n74_7, nu_no (by omega), e_n74_5, nu_no (by omega), e_n42_3, nu_no (by omega), e_n27_2, nu_no (by omega), e_n12_1, nu_no (by omega)]
                refine gx_ci (nx := 101) (S2 := []) (c_237 (r := so + 3) (n := 5) (tstt_3 hst) (by omega) (by decide) (k := 0) (by omega)) r_290_98 rfl rfl rfl rfl rfl rfl rfl (by decide) rfl (fun x98_14 n98_14 q98_14 => ?_)
                obtain ⟨e_x98_14, z_x98_14⟩ := q98_14
                have y_x98_14 := z_x98_14.symm
                subst y_x98_14
                rw [e_x98_14, c_98]
                show GX T 1 290 101 [(2, (so : Int)), (0, (h : Int)), (0, 0), (0, (m (so + 2) 4))] [(0, (m (so + 3) 0))] n74_13 (RV (fun m1 => NoteR m1 so w s h ∧ FrN_ so h m m1))
                refine gx_st (L' := [(2, (so : Int)), (0, (h : Int)), (0, 0), (0, (m (so + 3) 0))]) (S' := []) r_290_101 rfl rfl rfl ?_
                refine gx_st (L' := [(2, (so : Int)), (0, (h : Int)), (0, 0), (0, (m (so + 3) 0))]) (S' := [(2, (so : Int))]) r_290_102 rfl rfl rfl ?_
                refine gx_gf (x := (so : Int) + 8) 2 r_290_103 (rfl) (tstt_0 hst) ⟨by omega, rfl, by decide, by decide⟩ rfl (fun _ => by omega) (by show n74_13 so 5 = _; rw [e_n74_13, nu_no (by omega), e_n74_11, nu_no (by omega), e_n74_9, nu_no (by omega), e_n74_7, nu_no (by omega), e_n74_5, nu_no (by omega), e_n42_3, nu_no (by omega), e_n27_2, nu_no (by omega), e_n12_1, nu_no (by omega)]; exact hsr.1.2.2.2.2.2.1) ?_
                refine gx_st (L' := [(2, (so : Int)), (0, (h : Int)), (0, 0), (0, (m (so + 3) 0))]) (S' := [(0, (h : Int)), (2, (so : Int) + 8)]) r_290_106 rfl rfl rfl ?_
                refine gx_st (L' := [(2, (so : Int)), (0, (h : Int)), (0, 0), (0, (m (so + 3) 0))]) (S' := [(0, 5), (0, (h : Int)), (2, (so : Int) + 8)]) r_290_107 rfl rfl rfl ?_
                refine gx_ar (L' := [(2, (so : Int)), (0, (h : Int)), (0, 0), (0, (m (so + 3) 0))]) (S' := [(2, (so : Int) + 8)]) (t := 0) (e := w32 ((h : Int) * 5)) (z := 5 * (h : Int)) r_290_108 rfl rfl rfl (w32_eq (by omega) (by omega) (by omega)) ?_
                refine gx_st (L' := [(2, (so : Int)), (0, (h : Int)), (0, 0), (0, (m (so + 3) 0))]) (S' := [(0, 0), (0, 5 * (h : Int)), (2, (so : Int) + 8)]) r_290_109 rfl rfl rfl ?_
                refine gx_ar (L' := [(2, (so : Int)), (0, (h : Int)), (0, 0), (0, (m (so + 3) 0))]) (S' := [(2, (so : Int) + 8)]) (t := 0) (e := w32 ((5 * (h : Int)) + 0)) (z := 5 * (h : Int)) r_290_110 rfl rfl rfl (w32_eq (by omega) (by omega) (by omega)) ?_
                refine gx_st (L' := [(2, (so : Int)), (0, (h : Int)), (0, 0), (0, (m (so + 3) 0))]) (S' := [(0, (m (so + 3) 0)), (0, 5 * (h : Int)), (2, (so : Int) + 8)]) r_290_111 rfl rfl rfl ?_
                refine gx_cv (nx := 115) (S2 := []) (c_238 (r := so + 8) (n := 65) (tstt_8 hst) (by omega) (by decide) (k := 5 * h) (by omega) ((m (so + 3) 0))) r_290_112 rfl rfl rfl rfl rfl rfl rfl (by decide) rfl (fun n112_15 q112_15 => ?_)
                have e_n112_15 : n112_15 = nu_up n74_13 (so + 8) (5 * h) ((m (so + 3) 0)) := q112_15
                show GX T 1 290 115 [(2, (so : Int)), (0, (h : Int)), (0, 0), (0, (m (so + 3) 0))] [] n112_15 (RV (fun m1 => NoteR m1 so w s h ∧ FrN_ so h m m1))
                refine gx_li (z := 1) (L' := [(2, (so : Int)), (0, (h : Int)), (0, 1), (0, (m (so + 3) 0))]) r_290_115 rfl (w32_eq (by omega) (by omega) (by omega)) rfl ?_
                refine gx_st (L' := [(2, (so : Int)), (0, (h : Int)), (0, 1), (0, (m (so + 3) 0))]) (S' := []) r_290_118 rfl rfl rfl ?_
                refine gx_st (L' := [(2, (so : Int)), (0, (h : Int)), (0, 1), (0, (m (so + 3) 0))]) (S' := [(0, 1)]) r_290_85 rfl rfl rfl ?_
                refine gx_st (L' := [(2, (so : Int)), (0, (h : Int)), (0, 1), (0, (m (so + 3) 0))]) (S' := [(0, 5), (0, 1)]) r_290_86 rfl rfl rfl ?_
                refine gx_ic (P := 5 ≤ 1) r_290_87 (rfl) (fun h87 => ?_) (fun h87 => ?_)
                · omega
                · refine gx_st (L' := [(2, (so : Int)), (0, (h : Int)), (0, 1), (0, (m (so + 3) 0))]) (S' := [(2, (so : Int))]) r_290_90 rfl rfl rfl ?_
                  refine gx_gf (x := (so : Int) + 1) 2 r_290_91 (rfl) (tstt_0 hst) ⟨by omega, rfl, by decide, by decide⟩ rfl (fun _ => by omega) (by show n112_15 so 0 = _; rw [e_n112_15, nu_no (by omega), e_n74_13, nu_no (by omega), e_n74_11, nu_no (by omega), e_n74_9, nu_no (by omega), e_n74_7, nu_no (by omega), e_n74_5, nu_no (by omega), e_n42_3, nu_no (by omega), e_n27_2, nu_no (by omega), e_n12_1, nu_no (by omega)]; exact hsr.1.1) ?_
                  refine gx_gf (x := (so : Int) + 3) 2 r_290_94 (by omega) (tstt_1 hst) ⟨by omega, rfl, by decide, by decide⟩ rfl (fun _ => by omega) (by show n112_15 (so + 1) 9 = _; rw [e_n112_15, nu_no (by omega), e_n74_13, nu_no (by omega), e_n74_11, nu_no (by omega), e_n74_9, nu_no (by omega), e_n74_7, nu_no (by omega), e_n74_5, nu_no (by omega), e_n42_3, nu_no (by omega), e_n27_2, nu_no (by omega), e_n12_1, nu_no (by omega)]; exact hsr.2.2) ?_
                  refine gx_st (L' := [(2, (so : Int)), (0, (h : Int)), (0, 1), (0, (m (so + 3) 0))]) (S' := [(0, 1), (2, (so : Int) + 3)]) r_290_97 rfl rfl rfl ?_
                  have c_98 : n112_15 (so + 3) 1 = (m (so + 3) 1) := by show n112_15 (so + 3) 1 = _; rw [e_n112_15, nu_no (by omega), e_n74_13, nu_no (by omega), e_n74_11, nu_no (by omega), e_n74_9, nu_no (by omega), e_n74_7, nu_no (by omega), e_n74_5, nu_no (by omega), e_n42_3, nu_no (by omega), e_n27_2, nu_no (by omega), e_n12_1, nu_no (by omega)]
                  refine gx_ci (nx := 101) (S2 := []) (c_237 (r := so + 3) (n := 5) (tstt_3 hst) (by omega) (by decide) (k := 1) (by omega)) r_290_98 rfl rfl rfl rfl rfl rfl rfl (by decide) rfl (fun x98_16 n98_16 q98_16 => ?_)
                  obtain ⟨e_x98_16, z_x98_16⟩ := q98_16
                  have y_x98_16 := z_x98_16.symm
                  subst y_x98_16
                  rw [e_x98_16, c_98]
                  show GX T 1 290 101 [(2, (so : Int)), (0, (h : Int)), (0, 1), (0, (m (so + 3) 0))] [(0, (m (so + 3) 1))] n112_15 (RV (fun m1 => NoteR m1 so w s h ∧ FrN_ so h m m1))
                  refine gx_st (L' := [(2, (so : Int)), (0, (h : Int)), (0, 1), (0, (m (so + 3) 1))]) (S' := []) r_290_101 rfl rfl rfl ?_
                  refine gx_st (L' := [(2, (so : Int)), (0, (h : Int)), (0, 1), (0, (m (so + 3) 1))]) (S' := [(2, (so : Int))]) r_290_102 rfl rfl rfl ?_
                  refine gx_gf (x := (so : Int) + 8) 2 r_290_103 (rfl) (tstt_0 hst) ⟨by omega, rfl, by decide, by decide⟩ rfl (fun _ => by omega) (by show n112_15 so 5 = _; rw [e_n112_15, nu_no (by omega), e_n74_13, nu_no (by omega), e_n74_11, nu_no (by omega), e_n74_9, nu_no (by omega), e_n74_7, nu_no (by omega), e_n74_5, nu_no (by omega), e_n42_3, nu_no (by omega), e_n27_2, nu_no (by omega), e_n12_1, nu_no (by omega)]; exact hsr.1.2.2.2.2.2.1) ?_
                  refine gx_st (L' := [(2, (so : Int)), (0, (h : Int)), (0, 1), (0, (m (so + 3) 1))]) (S' := [(0, (h : Int)), (2, (so : Int) + 8)]) r_290_106 rfl rfl rfl ?_
                  refine gx_st (L' := [(2, (so : Int)), (0, (h : Int)), (0, 1), (0, (m (so + 3) 1))]) (S' := [(0, 5), (0, (h : Int)), (2, (so : Int) + 8)]) r_290_107 rfl rfl rfl ?_
                  refine gx_ar (L' := [(2, (so : Int)), (0, (h : Int)), (0, 1), (0, (m (so + 3) 1))]) (S' := [(2, (so : Int) + 8)]) (t := 0) (e := w32 ((h : Int) * 5)) (z := 5 * (h : Int)) r_290_108 rfl rfl rfl (w32_eq (by omega) (by omega) (by omega)) ?_
                  refine gx_st (L' := [(2, (so : Int)), (0, (h : Int)), (0, 1), (0, (m (so + 3) 1))]) (S' := [(0, 1), (0, 5 * (h : Int)), (2, (so : Int) + 8)]) r_290_109 rfl rfl rfl ?_
                  refine gx_ar (L' := [(2, (so : Int)), (0, (h : Int)), (0, 1), (0, (m (so + 3) 1))]) (S' := [(2, (so : Int) + 8)]) (t := 0) (e := w32 ((5 * (h : Int)) + 1)) (z := 5 * (h : Int) + 1) r_290_110 rfl rfl rfl (w32_eq (by omega) (by omega) (by omega)) ?_
                  refine gx_st (L' := [(2, (so : Int)), (0, (h : Int)), (0, 1), (0, (m (so + 3) 1))]) (S' := [(0, (m (so + 3) 1)), (0, 5 * (h : Int) + 1), (2, (so : Int) + 8)]) r_290_111 rfl rfl rfl ?_
                  refine gx_cv (nx := 115) (S2 := []) (c_238 (r := so + 8) (n := 65) (tstt_8 hst) (by omega) (by decide) (k := 5 * h + 1) (by omega) ((m (so + 3) 1))) r_290_112 rfl rfl rfl rfl rfl rfl rfl (by decide) rfl (fun n112_17 q112_17 => ?_)
                  have e_n112_17 : n112_17 = nu_up n112_15 (so + 8) (5 * h + 1) ((m (so + 3) 1)) := q112_17
                  show GX T 1 290 115 [(2, (so : Int)), (0, (h : Int)), (0, 1), (0, (m (so + 3) 1))] [] n112_17 (RV (fun m1 => NoteR m1 so w s h ∧ FrN_ so h m m1))
                  refine gx_li (z := 2) (L' := [(2, (so : Int)), (0, (h : Int)), (0, 2), (0, (m (so + 3) 1))]) r_290_115 rfl (w32_eq (by omega) (by omega) (by omega)) rfl ?_
                  refine gx_st (L' := [(2, (so : Int)), (0, (h : Int)), (0, 2), (0, (m (so + 3) 1))]) (S' := []) r_290_118 rfl rfl rfl ?_
                  refine gx_st (L' := [(2, (so : Int)), (0, (h : Int)), (0, 2), (0, (m (so + 3) 1))]) (S' := [(0, 2)]) r_290_85 rfl rfl rfl ?_
                  refine gx_st (L' := [(2, (so : Int)), (0, (h : Int)), (0, 2), (0, (m (so + 3) 1))]) (S' := [(0, 5), (0, 2)]) r_290_86 rfl rfl rfl ?_
                  refine gx_ic (P := 5 ≤ 2) r_290_87 (rfl) (fun h87 => ?_) (fun h87 => ?_)
                  · omega
                  · refine gx_st (L' := [(2, (so : Int)), (0, (h : Int)), (0, 2), (0, (m (so + 3) 1))]) (S' := [(2, (so : Int))]) r_290_90 rfl rfl rfl ?_
                    refine gx_gf (x := (so : Int) + 1) 2 r_290_91 (rfl) (tstt_0 hst) ⟨by omega, rfl, by decide, by decide⟩ rfl (fun _ => by omega) (by show n112_17 so 0 = _; rw [e_n112_17, nu_no (by omega), e_n112_15, nu_no (by omega), e_n74_13, nu_no (by omega), e_n74_11, nu_no (by omega), e_n74_9, nu_no (by omega), e_n74_7, nu_no (by omega), e_n74_5, nu_no (by omega), e_n42_3, nu_no (by omega), e_n27_2, nu_no (by omega), e_n12_1, nu_no (by omega)]; exact hsr.1.1) ?_
                    refine gx_gf (x := (so : Int) + 3) 2 r_290_94 (by omega) (tstt_1 hst) ⟨by omega, rfl, by decide, by decide⟩ rfl (fun _ => by omega) (by show n112_17 (so + 1) 9 = _; rw [e_n112_17, nu_no (by omega), e_n112_15, nu_no (by omega), e_n74_13, nu_no (by omega), e_n74_11, nu_no (by omega), e_n74_9, nu_no (by omega), e_n74_7, nu_no (by omega), e_n74_5, nu_no (by omega), e_n42_3, nu_no (by omega), e_n27_2, nu_no (by omega), e_n12_1, nu_no (by omega)]; exact hsr.2.2) ?_
                    refine gx_st (L' := [(2, (so : Int)), (0, (h : Int)), (0, 2), (0, (m (so + 3) 1))]) (S' := [(0, 2), (2, (so : Int) + 3)]) r_290_97 rfl rfl rfl ?_
                    have c_98 : n112_17 (so + 3) 2 = (m (so + 3) 2) := by show n112_17 (so + 3) 2 = _; rw [e_n112_17, nu_no (by omega), e_n112_15, nu_no (by omega), e_n74_13, nu_no (by omega), e_n74_11, nu_no (by omega), e_n74_9, nu_no (by omega), e_n74_7, nu_no (by omega), e_n74_5, nu_no (by omega), e_n42_3, nu_no (by omega), e_n27_2, nu_no (by omega), e_n12_1, nu_no (by omega)]
                    refine gx_ci (nx := 101) (S2 := []) (c_237 (r := so + 3) (n := 5) (tstt_3 hst) (by omega) (by decide) (k := 2) (by omega)) r_290_98 rfl rfl rfl rfl rfl rfl rfl (by decide) rfl (fun x98_18 n98_18 q98_18 => ?_)
                    obtain ⟨e_x98_18, z_x98_18⟩ := q98_18
                    have y_x98_18 := z_x98_18.symm
                    subst y_x98_18
                    rw [e_x98_18, c_98]
                    show GX T 1 290 101 [(2, (so : Int)), (0, (h : Int)), (0, 2), (0, (m (so + 3) 1))] [(0, (m (so + 3) 2))] n112_17 (RV (fun m1 => NoteR m1 so w s h ∧ FrN_ so h m m1))
                    refine gx_st (L' := [(2, (so : Int)), (0, (h : Int)), (0, 2), (0, (m (so + 3) 2))]) (S' := []) r_290_101 rfl rfl rfl ?_
                    refine gx_st (L' := [(2, (so : Int)), (0, (h : Int)), (0, 2), (0, (m (so + 3) 2))]) (S' := [(2, (so : Int))]) r_290_102 rfl rfl rfl ?_
                    refine gx_gf (x := (so : Int) + 8) 2 r_290_103 (rfl) (tstt_0 hst) ⟨by omega, rfl, by decide, by decide⟩ rfl (fun _ => by omega) (by show n112_17 so 5 = _; rw [e_n112_17, nu_no (by omega), e_n112_15, nu_no (by omega), e_n74_13, nu_no (by omega), e_n74_11, nu_no (by omega), e_n74_9, nu_no (by omega), e_n74_7, nu_no (by omega), e_n74_5, nu_no (by omega), e_n42_3, nu_no (by omega), e_n27_2, nu_no (by omega), e_n12_1, nu_no (by omega)]; exact hsr.1.2.2.2.2.2.1) ?_
                    refine gx_st (L' := [(2, (so : Int)), (0, (h : Int)), (0, 2), (0, (m (so + 3) 2))]) (S' := [(0, (h : Int)), (2, (so : Int) + 8)]) r_290_106 rfl rfl rfl ?_
                    refine gx_st (L' := [(2, (so : Int)), (0, (h : Int)), (0, 2), (0, (m (so + 3) 2))]) (S' := [(0, 5), (0, (h : Int)), (2, (so : Int) + 8)]) r_290_107 rfl rfl rfl ?_
                    refine gx_ar (L' := [(2, (so : Int)), (0, (h : Int)), (0, 2), (0, (m (so + 3) 2))]) (S' := [(2, (so : Int) + 8)]) (t := 0) (e := w32 ((h : Int) * 5)) (z := 5 * (h : Int)) r_290_108 rfl rfl rfl (w32_eq (by omega) (by omega) (by omega)) ?_
                    refine gx_st (L' := [(2, (so : Int)), (0, (h : Int)), (0, 2), (0, (m (so + 3) 2))]) (S' := [(0, 2), (0, 5 * (h : Int)), (2, (so : Int) + 8)]) r_290_109 rfl rfl rfl ?_
                    refine gx_ar (L' := [(2, (so : Int)), (0, (h : Int)), (0, 2), (0, (m (so + 3) 2))]) (S' := [(2, (so : Int) + 8)]) (t := 0) (e := w32 ((5 * (h : Int)) + 2)) (z := 5 * (h : Int) + 2) r_290_110 rfl rfl rfl (w32_eq (by omega) (by omega) (by omega)) ?_
                    refine gx_st (L' := [(2, (so : Int)), (0, (h : Int)), (0, 2), (0, (m (so + 3) 2))]) (S' := [(0, (m (so + 3) 2)), (0, 5 * (h : Int) + 2), (2, (so : Int) + 8)]) r_290_111 rfl rfl rfl ?_
                    refine gx_cv (nx := 115) (S2 := []) (c_238 (r := so + 8) (n := 65) (tstt_8 hst) (by omega) (by decide) (k := 5 * h + 2) (by omega) ((m (so + 3) 2))) r_290_112 rfl rfl rfl rfl rfl rfl rfl (by decide) rfl (fun n112_19 q112_19 => ?_)
                    have e_n112_19 : n112_19 = nu_up n112_17 (so + 8) (5 * h + 2) ((m (so + 3) 2)) := q112_19
                    show GX T 1 290 115 [(2, (so : Int)), (0, (h : Int)), (0, 2), (0, (m (so + 3) 2))] [] n112_19 (RV (fun m1 => NoteR m1 so w s h ∧ FrN_ so h m m1))
                    refine gx_li (z := 3) (L' := [(2, (so : Int)), (0, (h : Int)), (0, 3), (0, (m (so + 3) 2))]) r_290_115 rfl (w32_eq (by omega) (by omega) (by omega)) rfl ?_
                    refine gx_st (L' := [(2, (so : Int)), (0, (h : Int)), (0, 3), (0, (m (so + 3) 2))]) (S' := []) r_290_118 rfl rfl rfl ?_
                    refine gx_st (L' := [(2, (so : Int)), (0, (h : Int)), (0, 3), (0, (m (so + 3) 2))]) (S' := [(0, 3)]) r_290_85 rfl rfl rfl ?_
                    refine gx_st (L' := [(2, (so : Int)), (0, (h : Int)), (0, 3), (0, (m (so + 3) 2))]) (S' := [(0, 5), (0, 3)]) r_290_86 rfl rfl rfl ?_
                    refine gx_ic (P := 5 ≤ 3) r_290_87 (rfl) (fun h87 => ?_) (fun h87 => ?_)
                    · omega
                    · refine gx_st (L' := [(2, (so : Int)), (0, (h : Int)), (0, 3), (0, (m (so + 3) 2))]) (S' := [(2, (so : Int))]) r_290_90 rfl rfl rfl ?_
                      refine gx_gf (x := (so : Int) + 1) 2 r_290_91 (rfl) (tstt_0 hst) ⟨by omega, rfl, by decide, by decide⟩ rfl (fun _ => by omega) (by show n112_19 so 0 = _; rw [e_n112_19, nu_no (by omega), e_n112_17, nu_no (by omega), e_n112_15, nu_no (by omega), e_n74_13, nu_no (by omega), e_n74_11, nu_no (by omega), e_n74_9, nu_no (by omega), e_n74_7, nu_no (by omega), e_n74_5, nu_no (by omega), e_n42_3, nu_no (by omega), e_n27_2, nu_no (by omega), e_n12_1, nu_no (by omega)]; exact hsr.1.1) ?_
                      refine gx_gf (x := (so : Int) + 3) 2 r_290_94 (by omega) (tstt_1 hst) ⟨by omega, rfl, by decide, by decide⟩ rfl (fun _ => by omega) (by show n112_19 (so + 1) 9 = _; rw [e_n112_19, nu_no (by omega), e_n112_17, nu_no (by omega), e_n112_15, nu_no (by omega), e_n74_13, nu_no (by omega), e_n74_11, nu_no (by omega), e_n74_9, nu_no (by omega), e_n74_7, nu_no (by omega), e_n74_5, nu_no (by omega), e_n42_3, nu_no (by omega), e_n27_2, nu_no (by omega), e_n12_1, nu_no (by omega)]; exact hsr.2.2) ?_
                      refine gx_st (L' := [(2, (so : Int)), (0, (h : Int)), (0, 3), (0, (m (so + 3) 2))]) (S' := [(0, 3), (2, (so : Int) + 3)]) r_290_97 rfl rfl rfl ?_
                      have c_98 : n112_19 (so + 3) 3 = (m (so + 3) 3) := by show n112_19 (so + 3) 3 = _; rw [e_n112_19, nu_no (by omega), e_n112_17, nu_no (by omega), e_n112_15, nu_no (by omega), e_n74_13, nu_no (by omega), e_n74_11, nu_no (by omega), e_n74_9, nu_no (by omega), e_n74_7, nu_no (by omega), e_n74_5, nu_no (by omega), e_n42_3, nu_no (by omega), e_n27_2, nu_no (by omega), e_n12_1, nu_no (by omega)]
                      refine gx_ci (nx := 101) (S2 := []) (c_237 (r := so + 3) (n := 5) (tstt_3 hst) (by omega) (by decide) (k := 3) (by omega)) r_290_98 rfl rfl rfl rfl rfl rfl rfl (by decide) rfl (fun x98_20 n98_20 q98_20 => ?_)
                      obtain ⟨e_x98_20, z_x98_20⟩ := q98_20
                      have y_x98_20 := z_x98_20.symm
                      subst y_x98_20
                      rw [e_x98_20, c_98]
                      show GX T 1 290 101 [(2, (so : Int)), (0, (h : Int)), (0, 3), (0, (m (so + 3) 2))] [(0, (m (so + 3) 3))] n112_19 (RV (fun m1 => NoteR m1 so w s h ∧ FrN_ so h m m1))
                      refine gx_st (L' := [(2, (so : Int)), (0, (h : Int)), (0, 3), (0, (m (so + 3) 3))]) (S' := []) r_290_101 rfl rfl rfl ?_
                      refine gx_st (L' := [(2, (so : Int)), (0, (h : Int)), (0, 3), (0, (m (so + 3) 3))]) (S' := [(2, (so : Int))]) r_290_102 rfl rfl rfl ?_
                      refine gx_gf (x := (so : Int) + 8) 2 r_290_103 (rfl) (tstt_0 hst) ⟨by omega, rfl, by decide, by decide⟩ rfl (fun _ => by omega) (by show n112_19 so 5 = _; rw [e_n112_19, nu_no (by omega), e_n112_17, nu_no (by omega), e_n112_15, nu_no (by omega), e_n74_13, nu_no (by omega), e_n74_11, nu_no (by omega), e_n74_9, nu_no (by omega), e_n74_7, nu_no (by omega), e_n74_5, nu_no (by omega), e_n42_3, nu_no (by omega), e_n27_2, nu_no (by omega), e_n12_1, nu_no (by omega)]; exact hsr.1.2.2.2.2.2.1) ?_
                      refine gx_st (L' := [(2, (so : Int)), (0, (h : Int)), (0, 3), (0, (m (so + 3) 3))]) (S' := [(0, (h : Int)), (2, (so : Int) + 8)]) r_290_106 rfl rfl rfl ?_
                      refine gx_st (L' := [(2, (so : Int)), (0, (h : Int)), (0, 3), (0, (m (so + 3) 3))]) (S' := [(0, 5), (0, (h : Int)), (2, (so : Int) + 8)]) r_290_107 rfl rfl rfl ?_
                      refine gx_ar (L' := [(2, (so : Int)), (0, (h : Int)), (0, 3), (0, (m (so + 3) 3))]) (S' := [(2, (so : Int) + 8)]) (t := 0) (e := w32 ((h : Int) * 5)) (z := 5 * (h : Int)) r_290_108 rfl rfl rfl (w32_eq (by omega) (by omega) (by omega)) ?_
                      refine gx_st (L' := [(2, (so : Int)), (0, (h : Int)), (0, 3), (0, (m (so + 3) 3))]) (S' := [(0, 3), (0, 5 * (h : Int)), (2, (so : Int) + 8)]) r_290_109 rfl rfl rfl ?_
                      refine gx_ar (L' := [(2, (so : Int)), (0, (h : Int)), (0, 3), (0, (m (so + 3) 3))]) (S' := [(2, (so : Int) + 8)]) (t := 0) (e := w32 ((5 * (h : Int)) + 3)) (z := 5 * (h : Int) + 3) r_290_110 rfl rfl rfl (w32_eq (by omega) (by omega) (by omega)) ?_
                      refine gx_st (L' := [(2, (so : Int)), (0, (h : Int)), (0, 3), (0, (m (so + 3) 3))]) (S' := [(0, (m (so + 3) 3)), (0, 5 * (h : Int) + 3), (2, (so : Int) + 8)]) r_290_111 rfl rfl rfl ?_
                      refine gx_cv (nx := 115) (S2 := []) (c_238 (r := so + 8) (n := 65) (tstt_8 hst) (by omega) (by decide) (k := 5 * h + 3) (by omega) ((m (so + 3) 3))) r_290_112 rfl rfl rfl rfl rfl rfl rfl (by decide) rfl (fun n112_21 q112_21 => ?_)
                      have e_n112_21 : n112_21 = nu_up n112_19 (so + 8) (5 * h + 3) ((m (so + 3) 3)) := q112_21
                      show GX T 1 290 115 [(2, (so : Int)), (0, (h : Int)), (0, 3), (0, (m (so + 3) 3))] [] n112_21 (RV (fun m1 => NoteR m1 so w s h ∧ FrN_ so h m m1))
                      refine gx_li (z := 4) (L' := [(2, (so : Int)), (0, (h : Int)), (0, 4), (0, (m (so + 3) 3))]) r_290_115 rfl (w32_eq (by omega) (by omega) (by omega)) rfl ?_
                      refine gx_st (L' := [(2, (so : Int)), (0, (h : Int)), (0, 4), (0, (m (so + 3) 3))]) (S' := []) r_290_118 rfl rfl rfl ?_
                      refine gx_st (L' := [(2, (so : Int)), (0, (h : Int)), (0, 4), (0, (m (so + 3) 3))]) (S' := [(0, 4)]) r_290_85 rfl rfl rfl ?_
                      refine gx_st (L' := [(2, (so : Int)), (0, (h : Int)), (0, 4), (0, (m (so + 3) 3))]) (S' := [(0, 5), (0, 4)]) r_290_86 rfl rfl rfl ?_
                      refine gx_ic (P := 5 ≤ 4) r_290_87 (rfl) (fun h87 => ?_) (fun h87 => ?_)
                      · omega
                      · refine gx_st (L' := [(2, (so : Int)), (0, (h : Int)), (0, 4), (0, (m (so + 3) 3))]) (S' := [(2, (so : Int))]) r_290_90 rfl rfl rfl ?_
                        refine gx_gf (x := (so : Int) + 1) 2 r_290_91 (rfl) (tstt_0 hst) ⟨by omega, rfl, by decide, by decide⟩ rfl (fun _ => by omega) (by show n112_21 so 0 = _; rw [e_n112_21, nu_no (by omega), e_n112_19, nu_no (by omega), e_n112_17, nu_no (by omega), e_n112_15, nu_no (by omega), e_n74_13, nu_no (by omega), e_n74_11, nu_no (by omega), e_n74_9, nu_no (by omega), e_n74_7, nu_no (by omega), e_n74_5, nu_no (by omega), e_n42_3, nu_no (by omega), e_n27_2, nu_no (by omega), e_n12_1, nu_no (by omega)]; exact hsr.1.1) ?_
                        refine gx_gf (x := (so : Int) + 3) 2 r_290_94 (by omega) (tstt_1 hst) ⟨by omega, rfl, by decide, by decide⟩ rfl (fun _ => by omega) (by show n112_21 (so + 1) 9 = _; rw [e_n112_21, nu_no (by omega), e_n112_19, nu_no (by omega), e_n112_17, nu_no (by omega), e_n112_15, nu_no (by omega), e_n74_13, nu_no (by omega), e_n74_11, nu_no (by omega), e_n74_9, nu_no (by omega), e_n74_7, nu_no (by omega), e_n74_5, nu_no (by omega), e_n42_3, nu_no (by omega), e_n27_2, nu_no (by omega), e_n12_1, nu_no (by omega)]; exact hsr.2.2) ?_
                        refine gx_st (L' := [(2, (so : Int)), (0, (h : Int)), (0, 4), (0, (m (so + 3) 3))]) (S' := [(0, 4), (2, (so : Int) + 3)]) r_290_97 rfl rfl rfl ?_
                        have c_98 : n112_21 (so + 3) 4 = (m (so + 3) 4) := by show n112_21 (so + 3) 4 = _; rw [e_n112_21, nu_no (by omega), e_n112_19, nu_no (by omega), e_n112_17, nu_no (by omega), e_n112_15, nu_no (by omega), e_n74_13, nu_no (by omega), e_n74_11, nu_no (by omega), e_n74_9, nu_no (by omega), e_n74_7, nu_no (by omega), e_n74_5, nu_no (by omega), e_n42_3, nu_no (by omega), e_n27_2, nu_no (by omega), e_n12_1, nu_no (by omega)]
                        refine gx_ci (nx := 101) (S2 := []) (c_237 (r := so + 3) (n := 5) (tstt_3 hst) (by omega) (by decide) (k := 4) (by omega)) r_290_98 rfl rfl rfl rfl rfl rfl rfl (by decide) rfl (fun x98_22 n98_22 q98_22 => ?_)
                        obtain ⟨e_x98_22, z_x98_22⟩ := q98_22
                        have y_x98_22 := z_x98_22.symm
                        subst y_x98_22
                        rw [e_x98_22, c_98]
                        show GX T 1 290 101 [(2, (so : Int)), (0, (h : Int)), (0, 4), (0, (m (so + 3) 3))] [(0, (m (so + 3) 4))] n112_21 (RV (fun m1 => NoteR m1 so w s h ∧ FrN_ so h m m1))
                        refine gx_st (L' := [(2, (so : Int)), (0, (h : Int)), (0, 4), (0, (m (so + 3) 4))]) (S' := []) r_290_101 rfl rfl rfl ?_
                        refine gx_st (L' := [(2, (so : Int)), (0, (h : Int)), (0, 4), (0, (m (so + 3) 4))]) (S' := [(2, (so : Int))]) r_290_102 rfl rfl rfl ?_
                        refine gx_gf (x := (so : Int) + 8) 2 r_290_103 (rfl) (tstt_0 hst) ⟨by omega, rfl, by decide, by decide⟩ rfl (fun _ => by omega) (by show n112_21 so 5 = _; rw [e_n112_21, nu_no (by omega), e_n112_19, nu_no (by omega), e_n112_17, nu_no (by omega), e_n112_15, nu_no (by omega), e_n74_13, nu_no (by omega), e_n74_11, nu_no (by omega), e_n74_9, nu_no (by omega), e_n74_7, nu_no (by omega), e_n74_5, nu_no (by omega), e_n42_3, nu_no (by omega), e_n27_2, nu_no (by omega), e_n12_1, nu_no (by omega)]; exact hsr.1.2.2.2.2.2.1) ?_
                        refine gx_st (L' := [(2, (so : Int)), (0, (h : Int)), (0, 4), (0, (m (so + 3) 4))]) (S' := [(0, (h : Int)), (2, (so : Int) + 8)]) r_290_106 rfl rfl rfl ?_
                        refine gx_st (L' := [(2, (so : Int)), (0, (h : Int)), (0, 4), (0, (m (so + 3) 4))]) (S' := [(0, 5), (0, (h : Int)), (2, (so : Int) + 8)]) r_290_107 rfl rfl rfl ?_
                        refine gx_ar (L' := [(2, (so : Int)), (0, (h : Int)), (0, 4), (0, (m (so + 3) 4))]) (S' := [(2, (so : Int) + 8)]) (t := 0) (e := w32 ((h : Int) * 5)) (z := 5 * (h : Int)) r_290_108 rfl rfl rfl (w32_eq (by omega) (by omega) (by omega)) ?_
                        refine gx_st (L' := [(2, (so : Int)), (0, (h : Int)), (0, 4), (0, (m (so + 3) 4))]) (S' := [(0, 4), (0, 5 * (h : Int)), (2, (so : Int) + 8)]) r_290_109 rfl rfl rfl ?_
                        refine gx_ar (L' := [(2, (so : Int)), (0, (h : Int)), (0, 4), (0, (m (so + 3) 4))]) (S' := [(2, (so : Int) + 8)]) (t := 0) (e := w32 ((5 * (h : Int)) + 4)) (z := 5 * (h : Int) + 4) r_290_110 rfl rfl rfl (w32_eq (by omega) (by omega) (by omega)) ?_
                        refine gx_st (L' := [(2, (so : Int)), (0, (h : Int)), (0, 4), (0, (m (so + 3) 4))]) (S' := [(0, (m (so + 3) 4)), (0, 5 * (h : Int) + 4), (2, (so : Int) + 8)]) r_290_111 rfl rfl rfl ?_
                        refine gx_cv (nx := 115) (S2 := []) (c_238 (r := so + 8) (n := 65) (tstt_8 hst) (by omega) (by decide) (k := 5 * h + 4) (by omega) ((m (so + 3) 4))) r_290_112 rfl rfl rfl rfl rfl rfl rfl (by decide) rfl (fun n112_23 q112_23 => ?_)
                        have e_n112_23 : n112_23 = nu_up n112_21 (so + 8) (5 * h + 4) ((m (so + 3) 4)) := q112_23
                        show GX T 1 290 115 [(2, (so : Int)), (0, (h : Int)), (0, 4), (0, (m (so + 3) 4))] [] n112_23 (RV (fun m1 => NoteR m1 so w s h ∧ FrN_ so h m m1))
                        refine gx_li (z := 5) (L' := [(2, (so : Int)), (0, (h : Int)), (0, 5), (0, (m (so + 3) 4))]) r_290_115 rfl (w32_eq (by omega) (by omega) (by omega)) rfl ?_
                        refine gx_st (L' := [(2, (so : Int)), (0, (h : Int)), (0, 5), (0, (m (so + 3) 4))]) (S' := []) r_290_118 rfl rfl rfl ?_
                        refine gx_st (L' := [(2, (so : Int)), (0, (h : Int)), (0, 5), (0, (m (so + 3) 4))]) (S' := [(0, 5)]) r_290_85 rfl rfl rfl ?_
                        refine gx_st (L' := [(2, (so : Int)), (0, (h : Int)), (0, 5), (0, (m (so + 3) 4))]) (S' := [(0, 5), (0, 5)]) r_290_86 rfl rfl rfl ?_
                        refine gx_ic (P := 5 ≤ 5) r_290_87 (rfl) (fun h87 => ?_) (fun h87 => ?_)
                        · have z7 : ∀ b : Nat, b < 5 → n112_23 (so + 7) (5 * h + b) = s (6 + b) := by
                            intro b hb
                            have hb5 : b = 0 ∨ b = 1 ∨ b = 2 ∨ b = 3 ∨ b = 4 := by omega
                            rcases hb5 with rfl | rfl | rfl | rfl | rfl
                            · show n112_23 (so + 7) (5 * h) = _; rw [e_n112_23, nu_no (by omega), e_n112_21, nu_no (by omega), e_n112_19, nu_no (by omega), e_n112_17, nu_no (by omega), e_n112_15, nu_no (by omega), e_n74_13, nu_ne (by omega), e_n74_11, nu_ne (by omega), e_n74_9, nu_ne (by omega), e_n74_7, nu_ne (by omega), e_n74_5, nu_at]; exact hs.2.2.2.2.2.2.2.1 0 (by omega)
                            · show n112_23 (so + 7) (5 * h + 1) = _; rw [e_n112_23, nu_no (by omega), e_n112_21, nu_no (by omega), e_n112_19, nu_no (by omega), e_n112_17, nu_no (by omega), e_n112_15, nu_no (by omega), e_n74_13, nu_ne (by omega), e_n74_11, nu_ne (by omega), e_n74_9, nu_ne (by omega), e_n74_7, nu_at]; exact hs.2.2.2.2.2.2.2.1 1 (by omega)
                            · show n112_23 (so + 7) (5 * h + 2) = _; rw [e_n112_23, nu_no (by omega), e_n112_21, nu_no (by omega), e_n112_19, nu_no (by omega), e_n112_17, nu_no (by omega), e_n112_15, nu_no (by omega), e_n74_13, nu_ne (by omega), e_n74_11, nu_ne (by omega), e_n74_9, nu_at]; exact hs.2.2.2.2.2.2.2.1 2 (by omega)
                            · show n112_23 (so + 7) (5 * h + 3) = _; rw [e_n112_23, nu_no (by omega), e_n112_21, nu_no (by omega), e_n112_19, nu_no (by omega), e_n112_17, nu_no (by omega), e_n112_15, nu_no (by omega), e_n74_13, nu_ne (by omega), e_n74_11, nu_at]; exact hs.2.2.2.2.2.2.2.1 3 (by omega)
                            · show n112_23 (so + 7) (5 * h + 4) = _; rw [e_n112_23, nu_no (by omega), e_n112_21, nu_no (by omega), e_n112_19, nu_no (by omega), e_n112_17, nu_no (by omega), e_n112_15, nu_no (by omega), e_n74_13, nu_at]; exact hs.2.2.2.2.2.2.2.1 4 (by omega)
                          have z8 : ∀ b : Nat, b < 5 → (b : Int) < w 5 → n112_23 (so + 8) (5 * h + b) = s (11 + b) := by
                            intro b hb h5
                            have hb5 : b = 0 ∨ b = 1 ∨ b = 2 ∨ b = 3 ∨ b = 4 := by omega
                            rcases hb5 with rfl | rfl | rfl | rfl | rfl
                            · show n112_23 (so + 8) (5 * h) = _; rw [e_n112_23, nu_ne (by omega), e_n112_21, nu_ne (by omega), e_n112_19, nu_ne (by omega), e_n112_17, nu_ne (by omega), e_n112_15, nu_at]; exact hs.2.2.2.2.2.2.2.2 0 (by omega) h5
                            · show n112_23 (so + 8) (5 * h + 1) = _; rw [e_n112_23, nu_ne (by omega), e_n112_21, nu_ne (by omega), e_n112_19, nu_ne (by omega), e_n112_17, nu_at]; exact hs.2.2.2.2.2.2.2.2 1 (by omega) h5
                            · show n112_23 (so + 8) (5 * h + 2) = _; rw [e_n112_23, nu_ne (by omega), e_n112_21, nu_ne (by omega), e_n112_19, nu_at]; exact hs.2.2.2.2.2.2.2.2 2 (by omega) h5
                            · show n112_23 (so + 8) (5 * h + 3) = _; rw [e_n112_23, nu_ne (by omega), e_n112_21, nu_at]; exact hs.2.2.2.2.2.2.2.2 3 (by omega) h5
                            · show n112_23 (so + 8) (5 * h + 4) = _; rw [e_n112_23, nu_at]; exact hs.2.2.2.2.2.2.2.2 4 (by omega) h5
                          exact gx_rt r_290_121 rfl rfl ⟨rfl, ⟨(by show n112_23 (so + 4) h = _; rw [e_n112_23, nu_no (by omega), e_n112_21, nu_no (by omega), e_n112_19, nu_no (by omega), e_n112_17, nu_no (by omega), e_n112_15, nu_no (by omega), e_n74_13, nu_no (by omega), e_n74_11, nu_no (by omega), e_n74_9, nu_no (by omega), e_n74_7, nu_no (by omega), e_n74_5, nu_no (by omega), e_n42_3, nu_no (by omega), e_n27_2, nu_no (by omega), e_n12_1, nu_at]), (by show n112_23 (so + 5) h = _; rw [e_n112_23, nu_no (by omega), e_n112_21, nu_no (by omega), e_n112_19, nu_no (by omega), e_n112_17, nu_no (by omega), e_n112_15, nu_no (by omega), e_n74_13, nu_no (by omega), e_n74_11, nu_no (by omega), e_n74_9, nu_no (by omega), e_n74_7, nu_no (by omega), e_n74_5, nu_no (by omega), e_n42_3, nu_no (by omega), e_n27_2, nu_at]), (by show n112_23 (so + 6) h = _; rw [e_n112_23, nu_no (by omega), e_n112_21, nu_no (by omega), e_n112_19, nu_no (by omega), e_n112_17, nu_no (by omega), e_n112_15, nu_no (by omega), e_n74_13, nu_no (by omega), e_n74_11, nu_no (by omega), e_n74_9, nu_no (by omega), e_n74_7, nu_no (by omega), e_n74_5, nu_no (by omega), e_n42_3, nu_at]), z7, z8⟩, fun p i x1 x2 x3 x4 x5 => by rw [e_n112_23, nu_x (by omega), e_n112_21, nu_x (by omega), e_n112_19, nu_x (by omega), e_n112_17, nu_x (by omega), e_n112_15, nu_x (by omega), e_n74_13, nu_x (by omega), e_n74_11, nu_x (by omega), e_n74_9, nu_x (by omega), e_n74_7, nu_x (by omega), e_n74_5, nu_x (by omega), e_n42_3, nu_x (by omega), e_n27_2, nu_x (by omega), e_n12_1, nu_x (by omega)]⟩
                        · omega
            · omega
theorem t_289 (hT : TT T) {so : Nat} (hst : StT T so) (hsr : StR m so) {w s : Wd} (hs : RdS w m (so + 1) s) {h : Nat} (hh : h < 12) {v b0 : Int} (hv3 : v = 3 → ∃ b : Nat, b < 5 ∧ b0 = (b : Int)) (h12 : ∀ b : Nat, b < 5 → 0 ≤ m (so + 12) b ∧ m (so + 12) b ≤ 20) (h10 : 0 ≤ m so 10 ∧ m so 10 ≤ 20) : GX T 1 289 56 [(2, (so : Int)), (0, (h : Int)), (0, v), (0, b0)] [] m (RV (fun m1 => DeedT m m1 so h v b0 (s 1))) := by
  have hso0 := hst.1.1
  refine gx_st (L' := [(2, (so : Int)), (0, (h : Int)), (0, v), (0, b0)]) (S' := [(0, v)]) r_289_56 rfl rfl rfl ?_
  refine gx_st (L' := [(2, (so : Int)), (0, (h : Int)), (0, v), (0, b0)]) (S' := [(0, 3), (0, v)]) r_289_57 rfl rfl rfl ?_
  refine gx_ic (P := ¬ v = 3) r_289_58 (rfl) (fun h58 => ?_) (fun h58 => ?_)
  · refine gx_st (L' := [(2, (so : Int)), (0, (h : Int)), (0, v), (0, b0)]) (S' := [(0, v)]) r_289_70 rfl rfl rfl ?_
    refine gx_st (L' := [(2, (so : Int)), (0, (h : Int)), (0, v), (0, b0)]) (S' := [(0, 2), (0, v)]) r_289_71 rfl rfl rfl ?_
    refine gx_ic (P := ¬ v = 2) r_289_72 (rfl) (fun h72 => ?_) (fun h72 => ?_)
    · refine gx_st (L' := [(2, (so : Int)), (0, (h : Int)), (0, v), (0, b0)]) (S' := [(0, b0)]) r_289_85 rfl rfl rfl ?_
      refine gx_st (L' := [(2, (so : Int)), (0, (h : Int)), (0, v), (0, b0)]) (S' := [(0, (-1)), (0, b0)]) r_289_86 rfl rfl rfl ?_
      refine gx_ic (P := b0 = (-1)) r_289_87 (rfl) (fun h87 => ?_) (fun h87 => ?_)
      · refine gx_rt r_289_106 rfl rfl ⟨rfl, ?_, ?_, ?_, ?_⟩
        · exact fun c hc => by
            rw [if_neg (fun z => h58 z.1)]; omega
        · show m so 10 = _; split <;> omega
        · show m so 11 = _; split <;> omega
        · exact fun p i x1 x2 => by rfl
      · refine gx_st (L' := [(2, (so : Int)), (0, (h : Int)), (0, v), (0, b0)]) (S' := [(2, (so : Int))]) r_289_90 rfl rfl rfl ?_
        refine gx_gf (x := (so : Int) + 1) 2 r_289_91 (rfl) (tstt_0 hst) ⟨by omega, rfl, by decide, by decide⟩ rfl (fun _ => by omega) (hsr.1.1) ?_
        refine gx_gf (x := (s 1)) 0 r_289_94 (by omega) (tstt_1 hst) ⟨by omega, rfl, by decide, by decide⟩ rfl (fun z => absurd z (by decide)) (hs.2.1) ?_
        refine gx_st (L' := [(2, (so : Int)), (0, (h : Int)), (0, v), (0, b0)]) (S' := [(0, (-1)), (0, (s 1))]) r_289_97 rfl rfl rfl ?_
        refine gx_ic (P := ¬ (s 1) = (-1)) r_289_98 (rfl) (fun h98 => ?_) (fun h98 => ?_)
        · refine gx_rt r_289_106 rfl rfl ⟨rfl, ?_, ?_, ?_, ?_⟩
          · exact fun c hc => by
              rw [if_neg (fun z => h58 z.1)]; omega
          · show m so 10 = _; split <;> omega
          · show m so 11 = _; split <;> omega
          · exact fun p i x1 x2 => by rfl
        · have h98 := Decidable.not_not.mp h98
          refine gx_st (L' := [(2, (so : Int)), (0, (h : Int)), (0, v), (0, b0)]) (S' := [(2, (so : Int))]) r_289_101 rfl rfl rfl ?_
          refine gx_st (L' := [(2, (so : Int)), (0, (h : Int)), (0, v), (0, b0)]) (S' := [(0, (h : Int)), (2, (so : Int))]) r_289_102 rfl rfl rfl ?_
          obtain ⟨m1, e_m1⟩ : ∃ z, z = nu_up m so 11 (h : Int) := ⟨_, rfl⟩
          refine gx_pf (x := (h : Int)) 0 r_289_103 (rfl) (tstt_0 hst) ⟨by omega, rfl, by decide, by decide⟩ rfl (fun z => absurd z (by decide)) (fun z => absurd z (by decide)) e_m1.symm ?_
          refine gx_rt r_289_106 rfl rfl ⟨rfl, ?_, ?_, ?_, ?_⟩
          · exact fun c hc => by
              rw [e_m1, nu_x (by omega), if_neg (fun z => h58 z.1)]; omega
          · show m1 so 10 = _; rw [e_m1, nu_ne (by decide)]; split <;> omega
          · show m1 so 11 = _; rw [e_m1, nu_at]; split <;> omega
          · exact fun p i x1 x2 => by rw [e_m1, nu_x (by omega)]
    · have h72 := Decidable.not_not.mp h72
      refine gx_st (L' := [(2, (so : Int)), (0, (h : Int)), (0, v), (0, b0)]) (S' := [(2, (so : Int))]) r_289_75 rfl rfl rfl ?_
      refine gx_st (L' := [(2, (so : Int)), (0, (h : Int)), (0, v), (0, b0)]) (S' := [(2, (so : Int)), (2, (so : Int))]) r_289_76 rfl rfl rfl ?_
      refine gx_gf (x := (m so 10)) 0 r_289_77 (rfl) (tstt_0 hst) ⟨by omega, rfl, by decide, by decide⟩ rfl (fun z => absurd z (by decide)) (rfl) ?_
      refine gx_st (L' := [(2, (so : Int)), (0, (h : Int)), (0, v), (0, b0)]) (S' := [(0, 1), (0, (m so 10)), (2, (so : Int))]) r_289_80 rfl rfl rfl ?_
      refine gx_ar (L' := [(2, (so : Int)), (0, (h : Int)), (0, v), (0, b0)]) (S' := [(2, (so : Int))]) (t := 0) (e := w32 ((m so 10) + 1)) (z := (m so 10) + 1) r_289_81 rfl rfl rfl (w32_eq (by omega) (by omega) (by omega)) ?_
      obtain ⟨m2, e_m2⟩ : ∃ z, z = nu_up m so 10 ((m so 10) + 1) := ⟨_, rfl⟩
      refine gx_pf (x := (m so 10) + 1) 0 r_289_82 (rfl) (tstt_0 hst) ⟨by omega, rfl, by decide, by decide⟩ rfl (fun z => absurd z (by decide)) (fun z => absurd z (by decide)) e_m2.symm ?_
      refine gx_st (L' := [(2, (so : Int)), (0, (h : Int)), (0, v), (0, b0)]) (S' := [(0, b0)]) r_289_85 rfl rfl rfl ?_
      refine gx_st (L' := [(2, (so : Int)), (0, (h : Int)), (0, v), (0, b0)]) (S' := [(0, (-1)), (0, b0)]) r_289_86 rfl rfl rfl ?_
      refine gx_ic (P := b0 = (-1)) r_289_87 (rfl) (fun h87 => ?_) (fun h87 => ?_)
      · refine gx_rt r_289_106 rfl rfl ⟨rfl, ?_, ?_, ?_, ?_⟩
        · exact fun c hc => by
            rw [e_m2, nu_x (by omega), if_neg (fun z => h58 z.1)]; omega
        · show m2 so 10 = _; rw [e_m2, nu_at]; split <;> omega
        · show m2 so 11 = _; rw [e_m2, nu_ne (by decide)]; split <;> omega
        · exact fun p i x1 x2 => by rw [e_m2, nu_x (by omega)]
      · refine gx_st (L' := [(2, (so : Int)), (0, (h : Int)), (0, v), (0, b0)]) (S' := [(2, (so : Int))]) r_289_90 rfl rfl rfl ?_
        refine gx_gf (x := (so : Int) + 1) 2 r_289_91 (rfl) (tstt_0 hst) ⟨by omega, rfl, by decide, by decide⟩ rfl (fun _ => by omega) (by show m2 so 0 = _; rw [e_m2, nu_ne (by decide)]; exact hsr.1.1) ?_
        refine gx_gf (x := (s 1)) 0 r_289_94 (by omega) (tstt_1 hst) ⟨by omega, rfl, by decide, by decide⟩ rfl (fun z => absurd z (by decide)) (by show m2 (so + 1) 1 = _; rw [e_m2, nu_no (by omega)]; exact hs.2.1) ?_
        refine gx_st (L' := [(2, (so : Int)), (0, (h : Int)), (0, v), (0, b0)]) (S' := [(0, (-1)), (0, (s 1))]) r_289_97 rfl rfl rfl ?_
        refine gx_ic (P := ¬ (s 1) = (-1)) r_289_98 (rfl) (fun h98 => ?_) (fun h98 => ?_)
        · refine gx_rt r_289_106 rfl rfl ⟨rfl, ?_, ?_, ?_, ?_⟩
          · exact fun c hc => by
              rw [e_m2, nu_x (by omega), if_neg (fun z => h58 z.1)]; omega
          · show m2 so 10 = _; rw [e_m2, nu_at]; split <;> omega
          · show m2 so 11 = _; rw [e_m2, nu_ne (by decide)]; split <;> omega
          · exact fun p i x1 x2 => by rw [e_m2, nu_x (by omega)]
        · have h98 := Decidable.not_not.mp h98
          refine gx_st (L' := [(2, (so : Int)), (0, (h : Int)), (0, v), (0, b0)]) (S' := [(2, (so : Int))]) r_289_101 rfl rfl rfl ?_
          refine gx_st (L' := [(2, (so : Int)), (0, (h : Int)), (0, v), (0, b0)]) (S' := [(0, (h : Int)), (2, (so : Int))]) r_289_102 rfl rfl rfl ?_
          obtain ⟨m3, e_m3⟩ : ∃ z, z = nu_up m2 so 11 (h : Int) := ⟨_, rfl⟩
          refine gx_pf (x := (h : Int)) 0 r_289_103 (rfl) (tstt_0 hst) ⟨by omega, rfl, by decide, by decide⟩ rfl (fun z => absurd z (by decide)) (fun z => absurd z (by decide)) e_m3.symm ?_
          refine gx_rt r_289_106 rfl rfl ⟨rfl, ?_, ?_, ?_, ?_⟩
          · exact fun c hc => by
              rw [e_m3, nu_x (by omega), e_m2, nu_x (by omega), if_neg (fun z => h58 z.1)]; omega
          · show m3 so 10 = _; rw [e_m3, nu_ne (by decide), e_m2, nu_at]; split <;> omega
          · show m3 so 11 = _; rw [e_m3, nu_at]; split <;> omega
          · exact fun p i x1 x2 => by rw [e_m3, nu_x (by omega), e_m2, nu_x (by omega)]
  · have h58 := Decidable.not_not.mp h58
    refine gx_st (L' := [(2, (so : Int)), (0, (h : Int)), (0, v), (0, b0)]) (S' := [(2, (so : Int))]) r_289_61 rfl rfl rfl ?_
    refine gx_gf (x := (so : Int) + 12) 2 r_289_62 (rfl) (tstt_0 hst) ⟨by omega, rfl, by decide, by decide⟩ rfl (fun _ => by omega) (hsr.1.2.2.2.2.2.2.2.2.2) ?_
    refine gx_st (L' := [(2, (so : Int)), (0, (h : Int)), (0, v), (0, b0)]) (S' := [(0, b0), (2, (so : Int) + 12)]) r_289_65 rfl rfl rfl ?_
    refine gx_st (L' := [(2, (so : Int)), (0, (h : Int)), (0, v), (0, b0)]) (S' := [(0, 1), (0, b0), (2, (so : Int) + 12)]) r_289_66 rfl rfl rfl ?_
    obtain ⟨b, hb5, hb⟩ := hv3 h58
    have c67 : 0 ≤ m (so + 12) b ∧ m (so + 12) b ≤ 20 := h12 b hb5
    subst hb
    show GX T 1 289 67 [(2, (so : Int)), (0, (h : Int)), (0, v), (0, (b : Int))] [(0, 1), (0, (b : Int)), (2, (so : Int) + 12)] m (RV (fun m1 => DeedT m m1 so h v (b : Int) (s 1)))
    refine gx_cv (nx := 70) (S2 := []) (c_239 (r := so + 12) (n := 5) (tstt_12 hst) (by omega) (by decide) (k := b) hb5 1) r_289_67 rfl rfl rfl rfl rfl rfl rfl (by decide) rfl (fun n67 q67 => ?_)
    have e_n67 : n67 = nu_up m (so + 12) b (m (so + 12) b + 1) := by rw [q67, w32_eq (z := m (so + 12) b + 1) (by omega) (by omega) (by omega)]
    show GX T 1 289 70 [(2, (so : Int)), (0, (h : Int)), (0, v), (0, (b : Int))] [] n67 (RV (fun m1 => DeedT m m1 so h v (b : Int) (s 1)))
    refine gx_st (L' := [(2, (so : Int)), (0, (h : Int)), (0, v), (0, (b : Int))]) (S' := [(0, v)]) r_289_70 rfl rfl rfl ?_
    refine gx_st (L' := [(2, (so : Int)), (0, (h : Int)), (0, v), (0, (b : Int))]) (S' := [(0, 2), (0, v)]) r_289_71 rfl rfl rfl ?_
    refine gx_ic (P := ¬ v = 2) r_289_72 (rfl) (fun h72 => ?_) (fun h72 => ?_)
    · refine gx_st (L' := [(2, (so : Int)), (0, (h : Int)), (0, v), (0, (b : Int))]) (S' := [(0, (b : Int))]) r_289_85 rfl rfl rfl ?_
      refine gx_st (L' := [(2, (so : Int)), (0, (h : Int)), (0, v), (0, (b : Int))]) (S' := [(0, (-1)), (0, (b : Int))]) r_289_86 rfl rfl rfl ?_
      refine gx_ic (P := (b : Int) = (-1)) r_289_87 (rfl) (fun h87 => ?_) (fun h87 => ?_)
      · refine gx_rt r_289_106 rfl rfl ⟨rfl, ?_, ?_, ?_, ?_⟩
        · exact fun c hc => by
            by_cases ec : c = b
            · rw [ec, e_n67, nu_at, if_pos ⟨h58, rfl⟩]
            · rw [e_n67, nu_x (by omega), if_neg (fun z => ec (by omega))]; omega
        · show n67 so 10 = _; rw [e_n67, nu_no (by omega)]; split <;> omega
        · show n67 so 11 = _; rw [e_n67, nu_no (by omega)]; split <;> omega
        · exact fun p i x1 x2 => by rw [e_n67, nu_x (by omega)]
      · refine gx_st (L' := [(2, (so : Int)), (0, (h : Int)), (0, v), (0, (b : Int))]) (S' := [(2, (so : Int))]) r_289_90 rfl rfl rfl ?_
        refine gx_gf (x := (so : Int) + 1) 2 r_289_91 (rfl) (tstt_0 hst) ⟨by omega, rfl, by decide, by decide⟩ rfl (fun _ => by omega) (by show n67 so 0 = _; rw [e_n67, nu_no (by omega)]; exact hsr.1.1) ?_
        refine gx_gf (x := (s 1)) 0 r_289_94 (by omega) (tstt_1 hst) ⟨by omega, rfl, by decide, by decide⟩ rfl (fun z => absurd z (by decide)) (by show n67 (so + 1) 1 = _; rw [e_n67, nu_no (by omega)]; exact hs.2.1) ?_
        refine gx_st (L' := [(2, (so : Int)), (0, (h : Int)), (0, v), (0, (b : Int))]) (S' := [(0, (-1)), (0, (s 1))]) r_289_97 rfl rfl rfl ?_
        refine gx_ic (P := ¬ (s 1) = (-1)) r_289_98 (rfl) (fun h98 => ?_) (fun h98 => ?_)
        · refine gx_rt r_289_106 rfl rfl ⟨rfl, ?_, ?_, ?_, ?_⟩
          · exact fun c hc => by
              by_cases ec : c = b
              · rw [ec, e_n67, nu_at, if_pos ⟨h58, rfl⟩]
              · rw [e_n67, nu_x (by omega), if_neg (fun z => ec (by omega))]; omega
          · show n67 so 10 = _; rw [e_n67, nu_no (by omega)]; split <;> omega
          · show n67 so 11 = _; rw [e_n67, nu_no (by omega)]; split <;> omega
          · exact fun p i x1 x2 => by rw [e_n67, nu_x (by omega)]
        · have h98 := Decidable.not_not.mp h98
          refine gx_st (L' := [(2, (so : Int)), (0, (h : Int)), (0, v), (0, (b : Int))]) (S' := [(2, (so : Int))]) r_289_101 rfl rfl rfl ?_
          refine gx_st (L' := [(2, (so : Int)), (0, (h : Int)), (0, v), (0, (b : Int))]) (S' := [(0, (h : Int)), (2, (so : Int))]) r_289_102 rfl rfl rfl ?_
          obtain ⟨m4, e_m4⟩ : ∃ z, z = nu_up n67 so 11 (h : Int) := ⟨_, rfl⟩
          refine gx_pf (x := (h : Int)) 0 r_289_103 (rfl) (tstt_0 hst) ⟨by omega, rfl, by decide, by decide⟩ rfl (fun z => absurd z (by decide)) (fun z => absurd z (by decide)) e_m4.symm ?_
          refine gx_rt r_289_106 rfl rfl ⟨rfl, ?_, ?_, ?_, ?_⟩
          · exact fun c hc => by
              by_cases ec : c = b
              · rw [ec, e_m4, nu_no (by omega), e_n67, nu_at, if_pos ⟨h58, rfl⟩]
              · rw [e_m4, nu_x (by omega), e_n67, nu_x (by omega), if_neg (fun z => ec (by omega))]; omega
          · show m4 so 10 = _; rw [e_m4, nu_ne (by decide), e_n67, nu_no (by omega)]; split <;> omega
          · show m4 so 11 = _; rw [e_m4, nu_at]; split <;> omega
          · exact fun p i x1 x2 => by rw [e_m4, nu_x (by omega), e_n67, nu_x (by omega)]
    · have h72 := Decidable.not_not.mp h72
      refine gx_st (L' := [(2, (so : Int)), (0, (h : Int)), (0, v), (0, (b : Int))]) (S' := [(2, (so : Int))]) r_289_75 rfl rfl rfl ?_
      refine gx_st (L' := [(2, (so : Int)), (0, (h : Int)), (0, v), (0, (b : Int))]) (S' := [(2, (so : Int)), (2, (so : Int))]) r_289_76 rfl rfl rfl ?_
      refine gx_gf (x := (m so 10)) 0 r_289_77 (rfl) (tstt_0 hst) ⟨by omega, rfl, by decide, by decide⟩ rfl (fun z => absurd z (by decide)) (by show n67 so 10 = _; rw [e_n67, nu_no (by omega)]) ?_
      refine gx_st (L' := [(2, (so : Int)), (0, (h : Int)), (0, v), (0, (b : Int))]) (S' := [(0, 1), (0, (m so 10)), (2, (so : Int))]) r_289_80 rfl rfl rfl ?_
      refine gx_ar (L' := [(2, (so : Int)), (0, (h : Int)), (0, v), (0, (b : Int))]) (S' := [(2, (so : Int))]) (t := 0) (e := w32 ((m so 10) + 1)) (z := (m so 10) + 1) r_289_81 rfl rfl rfl (w32_eq (by omega) (by omega) (by omega)) ?_
      obtain ⟨m5, e_m5⟩ : ∃ z, z = nu_up n67 so 10 ((m so 10) + 1) := ⟨_, rfl⟩
      refine gx_pf (x := (m so 10) + 1) 0 r_289_82 (rfl) (tstt_0 hst) ⟨by omega, rfl, by decide, by decide⟩ rfl (fun z => absurd z (by decide)) (fun z => absurd z (by decide)) e_m5.symm ?_
      refine gx_st (L' := [(2, (so : Int)), (0, (h : Int)), (0, v), (0, (b : Int))]) (S' := [(0, (b : Int))]) r_289_85 rfl rfl rfl ?_
      refine gx_st (L' := [(2, (so : Int)), (0, (h : Int)), (0, v), (0, (b : Int))]) (S' := [(0, (-1)), (0, (b : Int))]) r_289_86 rfl rfl rfl ?_
      refine gx_ic (P := (b : Int) = (-1)) r_289_87 (rfl) (fun h87 => ?_) (fun h87 => ?_)
      · refine gx_rt r_289_106 rfl rfl ⟨rfl, ?_, ?_, ?_, ?_⟩
        · exact fun c hc => by
            by_cases ec : c = b
            · rw [ec, e_m5, nu_no (by omega), e_n67, nu_at, if_pos ⟨h58, rfl⟩]
            · rw [e_m5, nu_x (by omega), e_n67, nu_x (by omega), if_neg (fun z => ec (by omega))]; omega
        · show m5 so 10 = _; rw [e_m5, nu_at]; split <;> omega
        · show m5 so 11 = _; rw [e_m5, nu_ne (by decide), e_n67, nu_no (by omega)]; split <;> omega
        · exact fun p i x1 x2 => by rw [e_m5, nu_x (by omega), e_n67, nu_x (by omega)]
      · refine gx_st (L' := [(2, (so : Int)), (0, (h : Int)), (0, v), (0, (b : Int))]) (S' := [(2, (so : Int))]) r_289_90 rfl rfl rfl ?_
        refine gx_gf (x := (so : Int) + 1) 2 r_289_91 (rfl) (tstt_0 hst) ⟨by omega, rfl, by decide, by decide⟩ rfl (fun _ => by omega) (by show m5 so 0 = _; rw [e_m5, nu_ne (by decide), e_n67, nu_no (by omega)]; exact hsr.1.1) ?_
        refine gx_gf (x := (s 1)) 0 r_289_94 (by omega) (tstt_1 hst) ⟨by omega, rfl, by decide, by decide⟩ rfl (fun z => absurd z (by decide)) (by show m5 (so + 1) 1 = _; rw [e_m5, nu_no (by omega), e_n67, nu_no (by omega)]; exact hs.2.1) ?_
        refine gx_st (L' := [(2, (so : Int)), (0, (h : Int)), (0, v), (0, (b : Int))]) (S' := [(0, (-1)), (0, (s 1))]) r_289_97 rfl rfl rfl ?_
        refine gx_ic (P := ¬ (s 1) = (-1)) r_289_98 (rfl) (fun h98 => ?_) (fun h98 => ?_)
        · refine gx_rt r_289_106 rfl rfl ⟨rfl, ?_, ?_, ?_, ?_⟩
          · exact fun c hc => by
              by_cases ec : c = b
              · rw [ec, e_m5, nu_no (by omega), e_n67, nu_at, if_pos ⟨h58, rfl⟩]
              · rw [e_m5, nu_x (by omega), e_n67, nu_x (by omega), if_neg (fun z => ec (by omega))]; omega
          · show m5 so 10 = _; rw [e_m5, nu_at]; split <;> omega
          · show m5 so 11 = _; rw [e_m5, nu_ne (by decide), e_n67, nu_no (by omega)]; split <;> omega
          · exact fun p i x1 x2 => by rw [e_m5, nu_x (by omega), e_n67, nu_x (by omega)]
        · have h98 := Decidable.not_not.mp h98
          refine gx_st (L' := [(2, (so : Int)), (0, (h : Int)), (0, v), (0, (b : Int))]) (S' := [(2, (so : Int))]) r_289_101 rfl rfl rfl ?_
          refine gx_st (L' := [(2, (so : Int)), (0, (h : Int)), (0, v), (0, (b : Int))]) (S' := [(0, (h : Int)), (2, (so : Int))]) r_289_102 rfl rfl rfl ?_
          obtain ⟨m6, e_m6⟩ : ∃ z, z = nu_up m5 so 11 (h : Int) := ⟨_, rfl⟩
          refine gx_pf (x := (h : Int)) 0 r_289_103 (rfl) (tstt_0 hst) ⟨by omega, rfl, by decide, by decide⟩ rfl (fun z => absurd z (by decide)) (fun z => absurd z (by decide)) e_m6.symm ?_
          refine gx_rt r_289_106 rfl rfl ⟨rfl, ?_, ?_, ?_, ?_⟩
          · exact fun c hc => by
              by_cases ec : c = b
              · rw [ec, e_m6, nu_no (by omega), e_m5, nu_no (by omega), e_n67, nu_at, if_pos ⟨h58, rfl⟩]
              · rw [e_m6, nu_x (by omega), e_m5, nu_x (by omega), e_n67, nu_x (by omega), if_neg (fun z => ec (by omega))]; omega
          · show m6 so 10 = _; rw [e_m6, nu_ne (by decide), e_m5, nu_at]; split <;> omega
          · show m6 so 11 = _; rw [e_m6, nu_at]; split <;> omega
          · exact fun p i x1 x2 => by rw [e_m6, nu_x (by omega), e_m5, nu_x (by omega), e_n67, nu_x (by omega)]
theorem z_289 (hT : TT T) {so : Nat} (hst : StT T so) (hsr : StR m so) {w s : Wd} (hs : RdS w m (so + 1) s) {h : Nat} (hh : h < 12) {v b0 : Int} (hv3 : v = 3 → ∃ b : Nat, b < 5 ∧ b0 = (b : Int)) (h12 : ∀ b : Nat, b < 5 → 0 ≤ m (so + 12) b ∧ m (so + 12) b ≤ 20) (h10 : 0 ≤ m so 10 ∧ m so 10 ≤ 20) : GX T 1 289 0 [(2, (so : Int)), (0, (h : Int)), (0, v), (0, b0)] [] m (RV (fun m1 => DeedR m m1 so h v b0 (s 1))) := by
  have hso0 := hst.1.1
  refine gx_st (L' := [(2, (so : Int)), (0, (h : Int)), (0, v), (0, b0)]) (S' := [(2, (so : Int))]) r_289_0 rfl rfl rfl ?_
  refine gx_gf (x := (so : Int) + 9) 2 r_289_1 (rfl) (tstt_0 hst) ⟨by omega, rfl, by decide, by decide⟩ rfl (fun _ => by omega) (hsr.1.2.2.2.2.2.2.1) ?_
  refine gx_st (L' := [(2, (so : Int)), (0, (h : Int)), (0, v), (0, b0)]) (S' := [(0, (h : Int)), (2, (so : Int) + 9)]) r_289_4 rfl rfl rfl ?_
  refine gx_st (L' := [(2, (so : Int)), (0, (h : Int)), (0, v), (0, b0)]) (S' := [(0, v), (0, (h : Int)), (2, (so : Int) + 9)]) r_289_5 rfl rfl rfl ?_
  refine gx_cv (nx := 9) (S2 := []) (c_238 (r := so + 9) (n := 12) (tstt_9 hst) (by omega) (by decide) (k := h) (by omega) v) r_289_6 rfl rfl rfl rfl rfl rfl rfl (by decide) rfl (fun n6_1 q6_1 => ?_)
  have e_n6_1 : n6_1 = nu_up m (so + 9) h v := q6_1
  show GX T 1 289 9 [(2, (so : Int)), (0, (h : Int)), (0, v), (0, b0)] [] n6_1 (RV (fun m1 => DeedR m m1 so h v b0 (s 1)))
  refine gx_st (L' := [(2, (so : Int)), (0, (h : Int)), (0, v), (0, b0)]) (S' := [(2, (so : Int))]) r_289_9 rfl rfl rfl ?_
  refine gx_gf (x := (so : Int) + 10) 2 r_289_10 (rfl) (tstt_0 hst) ⟨by omega, rfl, by decide, by decide⟩ rfl (fun _ => by omega) (by show n6_1 so 7 = _; rw [e_n6_1, nu_no (by omega)]; exact hsr.1.2.2.2.2.2.2.2.1) ?_
  refine gx_st (L' := [(2, (so : Int)), (0, (h : Int)), (0, v), (0, b0)]) (S' := [(0, (h : Int)), (2, (so : Int) + 10)]) r_289_13 rfl rfl rfl ?_
  refine gx_st (L' := [(2, (so : Int)), (0, (h : Int)), (0, v), (0, b0)]) (S' := [(2, (so : Int)), (0, (h : Int)), (2, (so : Int) + 10)]) r_289_14 rfl rfl rfl ?_
  refine gx_gf (x := (so : Int) + 1) 2 r_289_15 (rfl) (tstt_0 hst) ⟨by omega, rfl, by decide, by decide⟩ rfl (fun _ => by omega) (by show n6_1 so 0 = _; rw [e_n6_1, nu_no (by omega)]; exact hsr.1.1) ?_
  refine gx_st (L' := [(2, (so : Int)), (0, (h : Int)), (0, v), (0, b0)]) (S' := [(0, (h : Int)), (2, (so : Int) + 1), (0, (h : Int)), (2, (so : Int) + 10)]) r_289_18 rfl rfl rfl ?_
  have hs9_n6_1 : RdS w n6_1 (so + 1) s := by rw [e_n6_1]; exact ⟨(nu_no (by omega)).trans hs.1, (nu_no (by omega)).trans hs.2.1, (nu_no (by omega)).trans hs.2.2.1, (nu_no (by omega)).trans hs.2.2.2.1, (nu_no (by omega)).trans hs.2.2.2.2.1, (nu_no (by omega)).trans hs.2.2.2.2.2.1, (nu_no (by omega)).trans hs.2.2.2.2.2.2.1, fun b hb => (nu_no (by omega)).trans (hs.2.2.2.2.2.2.2.1 b hb), fun t ht h5 => (nu_no (by omega)).trans (hs.2.2.2.2.2.2.2.2 t ht h5)⟩
  have rr9_n6_1 : RideR n6_1 (so + 1) := by rw [e_n6_1]; exact ⟨(nu_no (by omega)).trans hsr.2.1, (nu_no (by omega)).trans hsr.2.2⟩
  refine gx_ci (nx := 22) (S2 := [(0, (h : Int)), (2, (so : Int) + 10)]) (z_268 hT hst.2 rr9_n6_1 hs9_n6_1 (h : Int)) r_289_19 rfl rfl rfl rfl rfl (rcv_w rfl (by omega) (tstt_1 hst) (by omega) rfl (by decide)) rfl (by decide) rfl (fun x19_2 n19_2 q19_2 => ?_)
  obtain ⟨e_x19_2, z_x19_2⟩ := q19_2
  have y_x19_2 := z_x19_2.symm
  subst y_x19_2
  rw [e_x19_2]
  show GX T 1 289 22 [(2, (so : Int)), (0, (h : Int)), (0, v), (0, b0)] [(0, (if (h : Int) < s 3 then 1 else 0)), (0, (h : Int)), (2, (so : Int) + 10)] n6_1 (RV (fun m1 => DeedR m m1 so h v b0 (s 1)))
  refine gx_i0 (P := ¬ ((h : Int) < s 3)) r_289_22 (b01_eq) (fun h22 => ?_) (fun h22 => ?_)
  · refine gx_st (L' := [(2, (so : Int)), (0, (h : Int)), (0, v), (0, b0)]) (S' := [(0, 0), (0, (h : Int)), (2, (so : Int) + 10)]) r_289_29 rfl rfl rfl ?_
    refine gx_cv (nx := 33) (S2 := []) (c_238 (r := so + 10) (n := 12) (tstt_10 hst) (by omega) (by decide) (k := h) (by omega) 0) r_289_30 rfl rfl rfl rfl rfl rfl rfl (by decide) rfl (fun n30_3 q30_3 => ?_)
    have e_n30_3 : n30_3 = nu_up n6_1 (so + 10) h 0 := q30_3
    show GX T 1 289 33 [(2, (so : Int)), (0, (h : Int)), (0, v), (0, b0)] [] n30_3 (RV (fun m1 => DeedR m m1 so h v b0 (s 1)))
    refine gx_st (L' := [(2, (so : Int)), (0, (h : Int)), (0, v), (0, b0)]) (S' := [(2, (so : Int))]) r_289_33 rfl rfl rfl ?_
    refine gx_gf (x := (so : Int) + 11) 2 r_289_34 (rfl) (tstt_0 hst) ⟨by omega, rfl, by decide, by decide⟩ rfl (fun _ => by omega) (by show n30_3 so 8 = _; rw [e_n30_3, nu_no (by omega), e_n6_1, nu_no (by omega)]; exact hsr.1.2.2.2.2.2.2.2.2.1) ?_
    refine gx_st (L' := [(2, (so : Int)), (0, (h : Int)), (0, v), (0, b0)]) (S' := [(0, (h : Int)), (2, (so : Int) + 11)]) r_289_37 rfl rfl rfl ?_
    refine gx_st (L' := [(2, (so : Int)), (0, (h : Int)), (0, v), (0, b0)]) (S' := [(2, (so : Int)), (0, (h : Int)), (2, (so : Int) + 11)]) r_289_38 rfl rfl rfl ?_
    refine gx_gf (x := (so : Int) + 1) 2 r_289_39 (rfl) (tstt_0 hst) ⟨by omega, rfl, by decide, by decide⟩ rfl (fun _ => by omega) (by show n30_3 so 0 = _; rw [e_n30_3, nu_no (by omega), e_n6_1, nu_no (by omega)]; exact hsr.1.1) ?_
    refine gx_gf (x := (m (so + 1) 7)) 0 r_289_42 (by omega) (tstt_1 hst) ⟨by omega, rfl, by decide, by decide⟩ rfl (fun z => absurd z (by decide)) (by show n30_3 (so + 1) 7 = _; rw [e_n30_3, nu_no (by omega), e_n6_1, nu_no (by omega)]) ?_
    refine gx_i0 (P := (m (so + 1) 7) = 0) r_289_45 (rfl) (fun h45 => ?_) (fun h45 => ?_)
    · refine gx_st (L' := [(2, (so : Int)), (0, (h : Int)), (0, v), (0, b0)]) (S' := [(0, 0), (0, (h : Int)), (2, (so : Int) + 11)]) r_289_52 rfl rfl rfl ?_
      refine gx_cv (nx := 56) (S2 := []) (c_238 (r := so + 11) (n := 12) (tstt_11 hst) (by omega) (by decide) (k := h) (by omega) 0) r_289_53 rfl rfl rfl rfl rfl rfl rfl (by decide) rfl (fun n53_4 q53_4 => ?_)
      have e_n53_4 : n53_4 = nu_up n30_3 (so + 11) h 0 := q53_4
      show GX T 1 289 56 [(2, (so : Int)), (0, (h : Int)), (0, v), (0, b0)] [] n53_4 (RV (fun m1 => DeedR m m1 so h v b0 (s 1)))
      have hs2 : RdS w n53_4 (so + 1) s := ⟨(by rw [e_n53_4, nu_x (by omega), e_n30_3, nu_x (by omega), e_n6_1, nu_x (by omega)]; exact hs.1), (by rw [e_n53_4, nu_x (by omega), e_n30_3, nu_x (by omega), e_n6_1, nu_x (by omega)]; exact hs.2.1), (by rw [e_n53_4, nu_x (by omega), e_n30_3, nu_x (by omega), e_n6_1, nu_x (by omega)]; exact hs.2.2.1), (by rw [e_n53_4, nu_x (by omega), e_n30_3, nu_x (by omega), e_n6_1, nu_x (by omega)]; exact hs.2.2.2.1), (by rw [e_n53_4, nu_x (by omega), e_n30_3, nu_x (by omega), e_n6_1, nu_x (by omega)]; exact hs.2.2.2.2.1), (by rw [e_n53_4, nu_x (by omega), e_n30_3, nu_x (by omega), e_n6_1, nu_x (by omega)]; exact hs.2.2.2.2.2.1), (by rw [e_n53_4, nu_x (by omega), e_n30_3, nu_x (by omega), e_n6_1, nu_x (by omega)]; exact hs.2.2.2.2.2.2.1), fun b hb => (by rw [e_n53_4, nu_x (by omega), e_n30_3, nu_x (by omega), e_n6_1, nu_x (by omega)]; exact hs.2.2.2.2.2.2.2.1 b hb), fun t ht h5 => (by rw [e_n53_4, nu_x (by omega), e_n30_3, nu_x (by omega), e_n6_1, nu_x (by omega)]; exact hs.2.2.2.2.2.2.2.2 t ht h5)⟩
      have hsr2 : StR n53_4 so := str_e hsr (fun i hi => by rw [e_n53_4, nu_x (by omega), e_n30_3, nu_x (by omega), e_n6_1, nu_x (by omega)]) (fun i hi => by rw [e_n53_4, nu_x (by omega), e_n30_3, nu_x (by omega), e_n6_1, nu_x (by omega)])
      have e12 : ∀ b : Nat, n53_4 (so + 12) b = m (so + 12) b := fun b => by rw [e_n53_4, nu_x (by omega), e_n30_3, nu_x (by omega), e_n6_1, nu_x (by omega)]
      have e10 : n53_4 so 10 = m so 10 := by rw [e_n53_4, nu_x (by omega), e_n30_3, nu_x (by omega), e_n6_1, nu_x (by omega)]
      have e11 : n53_4 so 11 = m so 11 := by rw [e_n53_4, nu_x (by omega), e_n30_3, nu_x (by omega), e_n6_1, nu_x (by omega)]
      refine gx_imp (t_289 hT hst hsr2 hs2 hh hv3 (fun b hb => by rw [e12 b]; exact h12 b hb) (by rw [e10]; exact h10)) (fun v1 m1 ⟨x, d1, d2, d3, d4⟩ => ⟨x, ?_, ?_, ?_, ?_, ?_, ?_⟩)
      · rw [d4 (so + 9) h (by omega) (by omega), e_n53_4, nu_no (by omega), e_n30_3, nu_no (by omega), e_n6_1, nu_at]
      · rw [d4 (so + 11) h (by omega) (by omega), e_n53_4, nu_at, if_pos h45]
      · intro c hc; rw [d1 c hc, e12 c]
      · rw [d2, e10]
      · rw [d3, e11]
      · intro p i x1 x2 x3 x4 x5; rw [d4 p i x4 x5, e_n53_4, nu_x (by omega), e_n30_3, nu_x (by omega), e_n6_1, nu_x (by omega)]
    · refine gx_st (L' := [(2, (so : Int)), (0, (h : Int)), (0, v), (0, b0)]) (S' := [(0, 1), (0, (h : Int)), (2, (so : Int) + 11)]) r_289_48 rfl rfl rfl ?_
      refine gx_st (L' := [(2, (so : Int)), (0, (h : Int)), (0, v), (0, b0)]) (S' := [(0, 1), (0, (h : Int)), (2, (so : Int) + 11)]) r_289_49 rfl rfl rfl ?_
      refine gx_cv (nx := 56) (S2 := []) (c_238 (r := so + 11) (n := 12) (tstt_11 hst) (by omega) (by decide) (k := h) (by omega) 1) r_289_53 rfl rfl rfl rfl rfl rfl rfl (by decide) rfl (fun n53_5 q53_5 => ?_)
      have e_n53_5 : n53_5 = nu_up n30_3 (so + 11) h 1 := q53_5
      show GX T 1 289 56 [(2, (so : Int)), (0, (h : Int)), (0, v), (0, b0)] [] n53_5 (RV (fun m1 => DeedR m m1 so h v b0 (s 1)))
      have hs2 : RdS w n53_5 (so + 1) s := ⟨(by rw [e_n53_5, nu_x (by omega), e_n30_3, nu_x (by omega), e_n6_1, nu_x (by omega)]; exact hs.1), (by rw [e_n53_5, nu_x (by omega), e_n30_3, nu_x (by omega), e_n6_1, nu_x (by omega)]; exact hs.2.1), (by rw [e_n53_5, nu_x (by omega), e_n30_3, nu_x (by omega), e_n6_1, nu_x (by omega)]; exact hs.2.2.1), (by rw [e_n53_5, nu_x (by omega), e_n30_3, nu_x (by omega), e_n6_1, nu_x (by omega)]; exact hs.2.2.2.1), (by rw [e_n53_5, nu_x (by omega), e_n30_3, nu_x (by omega), e_n6_1, nu_x (by omega)]; exact hs.2.2.2.2.1), (by rw [e_n53_5, nu_x (by omega), e_n30_3, nu_x (by omega), e_n6_1, nu_x (by omega)]; exact hs.2.2.2.2.2.1), (by rw [e_n53_5, nu_x (by omega), e_n30_3, nu_x (by omega), e_n6_1, nu_x (by omega)]; exact hs.2.2.2.2.2.2.1), fun b hb => (by rw [e_n53_5, nu_x (by omega), e_n30_3, nu_x (by omega), e_n6_1, nu_x (by omega)]; exact hs.2.2.2.2.2.2.2.1 b hb), fun t ht h5 => (by rw [e_n53_5, nu_x (by omega), e_n30_3, nu_x (by omega), e_n6_1, nu_x (by omega)]; exact hs.2.2.2.2.2.2.2.2 t ht h5)⟩
      have hsr2 : StR n53_5 so := str_e hsr (fun i hi => by rw [e_n53_5, nu_x (by omega), e_n30_3, nu_x (by omega), e_n6_1, nu_x (by omega)]) (fun i hi => by rw [e_n53_5, nu_x (by omega), e_n30_3, nu_x (by omega), e_n6_1, nu_x (by omega)])
      have e12 : ∀ b : Nat, n53_5 (so + 12) b = m (so + 12) b := fun b => by rw [e_n53_5, nu_x (by omega), e_n30_3, nu_x (by omega), e_n6_1, nu_x (by omega)]
      have e10 : n53_5 so 10 = m so 10 := by rw [e_n53_5, nu_x (by omega), e_n30_3, nu_x (by omega), e_n6_1, nu_x (by omega)]
      have e11 : n53_5 so 11 = m so 11 := by rw [e_n53_5, nu_x (by omega), e_n30_3, nu_x (by omega), e_n6_1, nu_x (by omega)]
      refine gx_imp (t_289 hT hst hsr2 hs2 hh hv3 (fun b hb => by rw [e12 b]; exact h12 b hb) (by rw [e10]; exact h10)) (fun v1 m1 ⟨x, d1, d2, d3, d4⟩ => ⟨x, ?_, ?_, ?_, ?_, ?_, ?_⟩)
      · rw [d4 (so + 9) h (by omega) (by omega), e_n53_5, nu_no (by omega), e_n30_3, nu_no (by omega), e_n6_1, nu_at]
      · rw [d4 (so + 11) h (by omega) (by omega), e_n53_5, nu_at, if_neg h45]
      · intro c hc; rw [d1 c hc, e12 c]
      · rw [d2, e10]
      · rw [d3, e11]
      · intro p i x1 x2 x3 x4 x5; rw [d4 p i x4 x5, e_n53_5, nu_x (by omega), e_n30_3, nu_x (by omega), e_n6_1, nu_x (by omega)]
  · have h22 := Decidable.not_not.mp h22
    refine gx_st (L' := [(2, (so : Int)), (0, (h : Int)), (0, v), (0, b0)]) (S' := [(0, 1), (0, (h : Int)), (2, (so : Int) + 10)]) r_289_25 rfl rfl rfl ?_
    refine gx_st (L' := [(2, (so : Int)), (0, (h : Int)), (0, v), (0, b0)]) (S' := [(0, 1), (0, (h : Int)), (2, (so : Int) + 10)]) r_289_26 rfl rfl rfl ?_
    refine gx_cv (nx := 33) (S2 := []) (c_238 (r := so + 10) (n := 12) (tstt_10 hst) (by omega) (by decide) (k := h) (by omega) 1) r_289_30 rfl rfl rfl rfl rfl rfl rfl (by decide) rfl (fun n30_6 q30_6 => ?_)
    have e_n30_6 : n30_6 = nu_up n6_1 (so + 10) h 1 := q30_6
    show GX T 1 289 33 [(2, (so : Int)), (0, (h : Int)), (0, v), (0, b0)] [] n30_6 (RV (fun m1 => DeedR m m1 so h v b0 (s 1)))
    refine gx_st (L' := [(2, (so : Int)), (0, (h : Int)), (0, v), (0, b0)]) (S' := [(2, (so : Int))]) r_289_33 rfl rfl rfl ?_
    refine gx_gf (x := (so : Int) + 11) 2 r_289_34 (rfl) (tstt_0 hst) ⟨by omega, rfl, by decide, by decide⟩ rfl (fun _ => by omega) (by show n30_6 so 8 = _; rw [e_n30_6, nu_no (by omega), e_n6_1, nu_no (by omega)]; exact hsr.1.2.2.2.2.2.2.2.2.1) ?_
    refine gx_st (L' := [(2, (so : Int)), (0, (h : Int)), (0, v), (0, b0)]) (S' := [(0, (h : Int)), (2, (so : Int) + 11)]) r_289_37 rfl rfl rfl ?_
    refine gx_st (L' := [(2, (so : Int)), (0, (h : Int)), (0, v), (0, b0)]) (S' := [(2, (so : Int)), (0, (h : Int)), (2, (so : Int) + 11)]) r_289_38 rfl rfl rfl ?_
    refine gx_gf (x := (so : Int) + 1) 2 r_289_39 (rfl) (tstt_0 hst) ⟨by omega, rfl, by decide, by decide⟩ rfl (fun _ => by omega) (by show n30_6 so 0 = _; rw [e_n30_6, nu_no (by omega), e_n6_1, nu_no (by omega)]; exact hsr.1.1) ?_
    refine gx_gf (x := (m (so + 1) 7)) 0 r_289_42 (by omega) (tstt_1 hst) ⟨by omega, rfl, by decide, by decide⟩ rfl (fun z => absurd z (by decide)) (by show n30_6 (so + 1) 7 = _; rw [e_n30_6, nu_no (by omega), e_n6_1, nu_no (by omega)]) ?_
    refine gx_i0 (P := (m (so + 1) 7) = 0) r_289_45 (rfl) (fun h45 => ?_) (fun h45 => ?_)
    · refine gx_st (L' := [(2, (so : Int)), (0, (h : Int)), (0, v), (0, b0)]) (S' := [(0, 0), (0, (h : Int)), (2, (so : Int) + 11)]) r_289_52 rfl rfl rfl ?_
      refine gx_cv (nx := 56) (S2 := []) (c_238 (r := so + 11) (n := 12) (tstt_11 hst) (by omega) (by decide) (k := h) (by omega) 0) r_289_53 rfl rfl rfl rfl rfl rfl rfl (by decide) rfl (fun n53_7 q53_7 => ?_)
      have e_n53_7 : n53_7 = nu_up n30_6 (so + 11) h 0 := q53_7
      show GX T 1 289 56 [(2, (so : Int)), (0, (h : Int)), (0, v), (0, b0)] [] n53_7 (RV (fun m1 => DeedR m m1 so h v b0 (s 1)))
      have hs2 : RdS w n53_7 (so + 1) s := ⟨(by rw [e_n53_7, nu_x (by omega), e_n30_6, nu_x (by omega), e_n6_1, nu_x (by omega)]; exact hs.1), (by rw [e_n53_7, nu_x (by omega), e_n30_6, nu_x (by omega), e_n6_1, nu_x (by omega)]; exact hs.2.1), (by rw [e_n53_7, nu_x (by omega), e_n30_6, nu_x (by omega), e_n6_1, nu_x (by omega)]; exact hs.2.2.1), (by rw [e_n53_7, nu_x (by omega), e_n30_6, nu_x (by omega), e_n6_1, nu_x (by omega)]; exact hs.2.2.2.1), (by rw [e_n53_7, nu_x (by omega), e_n30_6, nu_x (by omega), e_n6_1, nu_x (by omega)]; exact hs.2.2.2.2.1), (by rw [e_n53_7, nu_x (by omega), e_n30_6, nu_x (by omega), e_n6_1, nu_x (by omega)]; exact hs.2.2.2.2.2.1), (by rw [e_n53_7, nu_x (by omega), e_n30_6, nu_x (by omega), e_n6_1, nu_x (by omega)]; exact hs.2.2.2.2.2.2.1), fun b hb => (by rw [e_n53_7, nu_x (by omega), e_n30_6, nu_x (by omega), e_n6_1, nu_x (by omega)]; exact hs.2.2.2.2.2.2.2.1 b hb), fun t ht h5 => (by rw [e_n53_7, nu_x (by omega), e_n30_6, nu_x (by omega), e_n6_1, nu_x (by omega)]; exact hs.2.2.2.2.2.2.2.2 t ht h5)⟩
      have hsr2 : StR n53_7 so := str_e hsr (fun i hi => by rw [e_n53_7, nu_x (by omega), e_n30_6, nu_x (by omega), e_n6_1, nu_x (by omega)]) (fun i hi => by rw [e_n53_7, nu_x (by omega), e_n30_6, nu_x (by omega), e_n6_1, nu_x (by omega)])
      have e12 : ∀ b : Nat, n53_7 (so + 12) b = m (so + 12) b := fun b => by rw [e_n53_7, nu_x (by omega), e_n30_6, nu_x (by omega), e_n6_1, nu_x (by omega)]
      have e10 : n53_7 so 10 = m so 10 := by rw [e_n53_7, nu_x (by omega), e_n30_6, nu_x (by omega), e_n6_1, nu_x (by omega)]
      have e11 : n53_7 so 11 = m so 11 := by rw [e_n53_7, nu_x (by omega), e_n30_6, nu_x (by omega), e_n6_1, nu_x (by omega)]
      refine gx_imp (t_289 hT hst hsr2 hs2 hh hv3 (fun b hb => by rw [e12 b]; exact h12 b hb) (by rw [e10]; exact h10)) (fun v1 m1 ⟨x, d1, d2, d3, d4⟩ => ⟨x, ?_, ?_, ?_, ?_, ?_, ?_⟩)
      · rw [d4 (so + 9) h (by omega) (by omega), e_n53_7, nu_no (by omega), e_n30_6, nu_no (by omega), e_n6_1, nu_at]
      · rw [d4 (so + 11) h (by omega) (by omega), e_n53_7, nu_at, if_pos h45]
      · intro c hc; rw [d1 c hc, e12 c]
      · rw [d2, e10]
      · rw [d3, e11]
      · intro p i x1 x2 x3 x4 x5; rw [d4 p i x4 x5, e_n53_7, nu_x (by omega), e_n30_6, nu_x (by omega), e_n6_1, nu_x (by omega)]
    · refine gx_st (L' := [(2, (so : Int)), (0, (h : Int)), (0, v), (0, b0)]) (S' := [(0, 1), (0, (h : Int)), (2, (so : Int) + 11)]) r_289_48 rfl rfl rfl ?_
      refine gx_st (L' := [(2, (so : Int)), (0, (h : Int)), (0, v), (0, b0)]) (S' := [(0, 1), (0, (h : Int)), (2, (so : Int) + 11)]) r_289_49 rfl rfl rfl ?_
      refine gx_cv (nx := 56) (S2 := []) (c_238 (r := so + 11) (n := 12) (tstt_11 hst) (by omega) (by decide) (k := h) (by omega) 1) r_289_53 rfl rfl rfl rfl rfl rfl rfl (by decide) rfl (fun n53_8 q53_8 => ?_)
      have e_n53_8 : n53_8 = nu_up n30_6 (so + 11) h 1 := q53_8
      show GX T 1 289 56 [(2, (so : Int)), (0, (h : Int)), (0, v), (0, b0)] [] n53_8 (RV (fun m1 => DeedR m m1 so h v b0 (s 1)))
      have hs2 : RdS w n53_8 (so + 1) s := ⟨(by rw [e_n53_8, nu_x (by omega), e_n30_6, nu_x (by omega), e_n6_1, nu_x (by omega)]; exact hs.1), (by rw [e_n53_8, nu_x (by omega), e_n30_6, nu_x (by omega), e_n6_1, nu_x (by omega)]; exact hs.2.1), (by rw [e_n53_8, nu_x (by omega), e_n30_6, nu_x (by omega), e_n6_1, nu_x (by omega)]; exact hs.2.2.1), (by rw [e_n53_8, nu_x (by omega), e_n30_6, nu_x (by omega), e_n6_1, nu_x (by omega)]; exact hs.2.2.2.1), (by rw [e_n53_8, nu_x (by omega), e_n30_6, nu_x (by omega), e_n6_1, nu_x (by omega)]; exact hs.2.2.2.2.1), (by rw [e_n53_8, nu_x (by omega), e_n30_6, nu_x (by omega), e_n6_1, nu_x (by omega)]; exact hs.2.2.2.2.2.1), (by rw [e_n53_8, nu_x (by omega), e_n30_6, nu_x (by omega), e_n6_1, nu_x (by omega)]; exact hs.2.2.2.2.2.2.1), fun b hb => (by rw [e_n53_8, nu_x (by omega), e_n30_6, nu_x (by omega), e_n6_1, nu_x (by omega)]; exact hs.2.2.2.2.2.2.2.1 b hb), fun t ht h5 => (by rw [e_n53_8, nu_x (by omega), e_n30_6, nu_x (by omega), e_n6_1, nu_x (by omega)]; exact hs.2.2.2.2.2.2.2.2 t ht h5)⟩
      have hsr2 : StR n53_8 so := str_e hsr (fun i hi => by rw [e_n53_8, nu_x (by omega), e_n30_6, nu_x (by omega), e_n6_1, nu_x (by omega)]) (fun i hi => by rw [e_n53_8, nu_x (by omega), e_n30_6, nu_x (by omega), e_n6_1, nu_x (by omega)])
      have e12 : ∀ b : Nat, n53_8 (so + 12) b = m (so + 12) b := fun b => by rw [e_n53_8, nu_x (by omega), e_n30_6, nu_x (by omega), e_n6_1, nu_x (by omega)]
      have e10 : n53_8 so 10 = m so 10 := by rw [e_n53_8, nu_x (by omega), e_n30_6, nu_x (by omega), e_n6_1, nu_x (by omega)]
      have e11 : n53_8 so 11 = m so 11 := by rw [e_n53_8, nu_x (by omega), e_n30_6, nu_x (by omega), e_n6_1, nu_x (by omega)]
      refine gx_imp (t_289 hT hst hsr2 hs2 hh hv3 (fun b hb => by rw [e12 b]; exact h12 b hb) (by rw [e10]; exact h10)) (fun v1 m1 ⟨x, d1, d2, d3, d4⟩ => ⟨x, ?_, ?_, ?_, ?_, ?_, ?_⟩)
      · rw [d4 (so + 9) h (by omega) (by omega), e_n53_8, nu_no (by omega), e_n30_6, nu_no (by omega), e_n6_1, nu_at]
      · rw [d4 (so + 11) h (by omega) (by omega), e_n53_8, nu_at, if_neg h45]
      · intro c hc; rw [d1 c hc, e12 c]
      · rw [d2, e10]
      · rw [d3, e11]
      · intro p i x1 x2 x3 x4 x5; rw [d4 p i x4 x5, e_n53_8, nu_x (by omega), e_n30_6, nu_x (by omega), e_n6_1, nu_x (by omega)]
end TELL
