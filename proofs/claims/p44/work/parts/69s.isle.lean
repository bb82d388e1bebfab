/-! the isle of the class exactly -/
theorem r_3_0 : row 3 0 = some (.aload_n 0, 1, 0, 0, 0, 0) := rfl
theorem r_3_1 : row 3 1 = some (.getfield 10, 4, 9, 0, 2, 2158) := rfl
theorem r_3_4 : row 3 4 = some (.aload_n 0, 5, 0, 0, 0, 0) := rfl
theorem r_3_5 : row 3 5 = some (.getfield 23, 8, 9, 2, 2, 2160) := rfl
theorem r_3_8 : row 3 8 = some (.invokevirtual 100, 11, 299, 1, 10, 2226) := rfl
theorem r_3_11 : row 3 11 = some (.istore_n 1, 12, 0, 0, 0, 0) := rfl
theorem r_3_12 : row 3 12 = some (.aload_n 0, 13, 0, 0, 0, 0) := rfl
theorem r_3_13 : row 3 13 = some (.getfield 10, 16, 9, 0, 2, 2158) := rfl
theorem r_3_16 : row 3 16 = some (.iconst 0, 17, 0, 0, 0, 0) := rfl
theorem r_3_17 : row 3 17 = some (.putfield 93, 20, 8, 1, 10, 1036) := rfl
theorem r_3_20 : row 3 20 = some (.iload_n 1, 21, 0, 0, 0, 0) := rfl
theorem r_3_21 : row 3 21 = some (.ifCond .ne 6, 24, 27, 0, 0, 0) := rfl
theorem r_3_24 : row 3 24 = some (.bipush (-4), 26, (-4), 0, 0, 0) := rfl
theorem r_3_26 : row 3 26 = some (.ireturn, 27, 0, 0, 0, 0) := rfl
theorem r_3_27 : row 3 27 = some (.aload_n 0, 28, 0, 0, 0, 0) := rfl
theorem r_3_28 : row 3 28 = some (.getfield 19, 31, 9, 1, 2, 2159) := rfl
theorem r_3_31 : row 3 31 = some (.aload_n 0, 32, 0, 0, 0, 0) := rfl
theorem r_3_32 : row 3 32 = some (.getfield 23, 35, 9, 2, 2, 2160) := rfl
theorem r_3_35 : row 3 35 = some (.invokevirtual 104, 38, 254, 1, 10, 3146) := rfl
theorem r_3_38 : row 3 38 = some (.aload_n 0, 39, 0, 0, 0, 0) := rfl
theorem r_3_39 : row 3 39 = some (.getfield 29, 42, 9, 3, 2, 2161) := rfl
theorem r_3_42 : row 3 42 = some (.invokevirtual 108, 45, 235, 0, 10, 3157) := rfl
theorem r_3_45 : row 3 45 = some (.aload_n 0, 46, 0, 0, 0, 0) := rfl
theorem r_3_46 : row 3 46 = some (.invokevirtual 111, 49, 75, 0, 0, 3162) := rfl
theorem r_3_49 : row 3 49 = some (.aload_n 0, 50, 0, 0, 0, 0) := rfl
theorem r_3_50 : row 3 50 = some (.getfield 19, 53, 9, 1, 2, 2159) := rfl
theorem r_3_53 : row 3 53 = some (.getfield 114, 56, 3, 0, 10, 1068) := rfl
theorem r_3_56 : row 3 56 = some (.ireturn, 57, 0, 0, 0, 0) := rfl
theorem r_235_0 : row 235 0 = some (.aload_n 0, 1, 0, 0, 0, 0) := rfl
theorem r_235_1 : row 235 1 = some (.getfield 9, 4, 0, 0, 2, 1177) := rfl
theorem r_235_4 : row 235 4 = some (.iconst 0, 5, 0, 0, 0, 0) := rfl
theorem r_235_5 : row 235 5 = some (.invokestatic 32, 8, 240, 2, 10, 3161) := rfl
theorem r_235_8 : row 235 8 = some (.aload_n 0, 9, 0, 0, 0, 0) := rfl
theorem r_235_9 : row 235 9 = some (.iconst 0, 10, 0, 0, 0, 0) := rfl
theorem r_235_10 : row 235 10 = some (.putfield 18, 13, 0, 2, 0, 1179) := rfl
theorem r_235_13 : row 235 13 = some (.return_, 14, 0, 0, 0, 0) := rfl
theorem r_236_0 : row 236 0 = some (.aload_n 1, 1, 0, 0, 0, 0) := rfl
theorem r_236_1 : row 236 1 = some (.getfield 9, 4, 0, 0, 2, 1177) := rfl
theorem r_236_4 : row 236 4 = some (.aload_n 0, 5, 0, 0, 0, 0) := rfl
theorem r_236_5 : row 236 5 = some (.getfield 9, 8, 0, 0, 2, 1177) := rfl
theorem r_236_8 : row 236 8 = some (.invokestatic 36, 11, 241, 2, 10, 5202) := rfl
theorem r_236_11 : row 236 11 = some (.aload_n 1, 12, 0, 0, 0, 0) := rfl
theorem r_236_12 : row 236 12 = some (.getfield 15, 15, 0, 1, 2, 1178) := rfl
theorem r_236_15 : row 236 15 = some (.aload_n 0, 16, 0, 0, 0, 0) := rfl
theorem r_236_16 : row 236 16 = some (.getfield 15, 19, 0, 1, 2, 1178) := rfl
theorem r_236_19 : row 236 19 = some (.invokestatic 36, 22, 241, 2, 10, 5202) := rfl
theorem r_236_22 : row 236 22 = some (.aload_n 0, 23, 0, 0, 0, 0) := rfl
theorem r_236_23 : row 236 23 = some (.aload_n 1, 24, 0, 0, 0, 0) := rfl
theorem r_236_24 : row 236 24 = some (.getfield 18, 27, 0, 2, 0, 1179) := rfl
theorem r_236_27 : row 236 27 = some (.putfield 18, 30, 0, 2, 0, 1179) := rfl
theorem r_236_30 : row 236 30 = some (.return_, 31, 0, 0, 0, 0) := rfl
theorem r_254_0 : row 254 0 = some (.aload_n 0, 1, 0, 0, 0, 0) := rfl
theorem r_254_1 : row 254 1 = some (.aload_n 1, 2, 0, 0, 0, 0) := rfl
theorem r_254_2 : row 254 2 = some (.getfield 9, 5, 3, 0, 0, 1066) := rfl
theorem r_254_5 : row 254 5 = some (.putfield 9, 8, 3, 0, 0, 1066) := rfl
theorem r_254_8 : row 254 8 = some (.aload_n 0, 9, 0, 0, 0, 0) := rfl
theorem r_254_9 : row 254 9 = some (.aload_n 1, 10, 0, 0, 0, 0) := rfl
theorem r_254_10 : row 254 10 = some (.getfield 15, 13, 3, 1, 0, 1069) := rfl
theorem r_254_13 : row 254 13 = some (.putfield 15, 16, 3, 1, 0, 1069) := rfl
theorem r_254_16 : row 254 16 = some (.aload_n 0, 17, 0, 0, 0, 0) := rfl
theorem r_254_17 : row 254 17 = some (.aload_n 1, 18, 0, 0, 0, 0) := rfl
theorem r_254_18 : row 254 18 = some (.getfield 18, 21, 3, 2, 0, 1073) := rfl
theorem r_254_21 : row 254 21 = some (.putfield 18, 24, 3, 2, 0, 1073) := rfl
theorem r_254_24 : row 254 24 = some (.aload_n 0, 25, 0, 0, 0, 0) := rfl
theorem r_254_25 : row 254 25 = some (.aload_n 1, 26, 0, 0, 0, 0) := rfl
theorem r_254_26 : row 254 26 = some (.getfield 21, 29, 3, 3, 0, 1080) := rfl
theorem r_254_29 : row 254 29 = some (.putfield 21, 32, 3, 3, 0, 1080) := rfl
theorem r_254_32 : row 254 32 = some (.aload_n 0, 33, 0, 0, 0, 0) := rfl
theorem r_254_33 : row 254 33 = some (.aload_n 1, 34, 0, 0, 0, 0) := rfl
theorem r_254_34 : row 254 34 = some (.getfield 24, 37, 3, 4, 0, 1084) := rfl
theorem r_254_37 : row 254 37 = some (.putfield 24, 40, 3, 4, 0, 1084) := rfl
theorem r_254_40 : row 254 40 = some (.aload_n 0, 41, 0, 0, 0, 0) := rfl
theorem r_254_41 : row 254 41 = some (.aload_n 1, 42, 0, 0, 0, 0) := rfl
theorem r_254_42 : row 254 42 = some (.getfield 27, 45, 3, 5, 0, 1088) := rfl
theorem r_254_45 : row 254 45 = some (.putfield 27, 48, 3, 5, 0, 1088) := rfl
theorem r_254_48 : row 254 48 = some (.aload_n 0, 49, 0, 0, 0, 0) := rfl
theorem r_254_49 : row 254 49 = some (.aload_n 1, 50, 0, 0, 0, 0) := rfl
theorem r_254_50 : row 254 50 = some (.getfield 30, 53, 3, 6, 0, 1091) := rfl
theorem r_254_53 : row 254 53 = some (.putfield 30, 56, 3, 6, 0, 1091) := rfl
theorem r_254_56 : row 254 56 = some (.aload_n 0, 57, 0, 0, 0, 0) := rfl
theorem r_254_57 : row 254 57 = some (.aload_n 1, 58, 0, 0, 0, 0) := rfl
theorem r_254_58 : row 254 58 = some (.getfield 33, 61, 3, 7, 0, 1095) := rfl
theorem r_254_61 : row 254 61 = some (.putfield 33, 64, 3, 7, 0, 1095) := rfl
theorem r_254_64 : row 254 64 = some (.aload_n 0, 65, 0, 0, 0, 0) := rfl
theorem r_254_65 : row 254 65 = some (.aload_n 1, 66, 0, 0, 0, 0) := rfl
theorem r_254_66 : row 254 66 = some (.getfield 36, 69, 3, 8, 0, 1099) := rfl
theorem r_254_69 : row 254 69 = some (.putfield 36, 72, 3, 8, 0, 1099) := rfl
theorem r_254_72 : row 254 72 = some (.aload_n 0, 73, 0, 0, 0, 0) := rfl
theorem r_254_73 : row 254 73 = some (.aload_n 1, 74, 0, 0, 0, 0) := rfl
theorem r_254_74 : row 254 74 = some (.getfield 39, 77, 3, 9, 0, 1103) := rfl
theorem r_254_77 : row 254 77 = some (.putfield 39, 80, 3, 9, 0, 1103) := rfl
theorem r_254_80 : row 254 80 = some (.aload_n 1, 81, 0, 0, 0, 0) := rfl
theorem r_254_81 : row 254 81 = some (.getfield 42, 84, 3, 10, 2, 1108) := rfl
theorem r_254_84 : row 254 84 = some (.aload_n 0, 85, 0, 0, 0, 0) := rfl
theorem r_254_85 : row 254 85 = some (.getfield 42, 88, 3, 10, 2, 1108) := rfl
theorem r_254_88 : row 254 88 = some (.invokestatic 73, 91, 241, 2, 10, 3150) := rfl
theorem r_254_91 : row 254 91 = some (.aload_n 1, 92, 0, 0, 0, 0) := rfl
theorem r_254_92 : row 254 92 = some (.getfield 46, 95, 3, 11, 2, 1112) := rfl
theorem r_254_95 : row 254 95 = some (.aload_n 0, 96, 0, 0, 0, 0) := rfl
theorem r_254_96 : row 254 96 = some (.getfield 46, 99, 3, 11, 2, 1112) := rfl
theorem r_254_99 : row 254 99 = some (.invokestatic 73, 102, 241, 2, 10, 3150) := rfl
theorem r_254_102 : row 254 102 = some (.aload_n 1, 103, 0, 0, 0, 0) := rfl
theorem r_254_103 : row 254 103 = some (.getfield 49, 106, 3, 12, 2, 1116) := rfl
theorem r_254_106 : row 254 106 = some (.aload_n 0, 107, 0, 0, 0, 0) := rfl
theorem r_254_107 : row 254 107 = some (.getfield 49, 110, 3, 12, 2, 1116) := rfl
theorem r_254_110 : row 254 110 = some (.invokestatic 73, 113, 241, 2, 10, 3150) := rfl
theorem r_254_113 : row 254 113 = some (.aload_n 1, 114, 0, 0, 0, 0) := rfl
theorem r_254_114 : row 254 114 = some (.getfield 52, 117, 3, 13, 2, 1120) := rfl
theorem r_254_117 : row 254 117 = some (.aload_n 0, 118, 0, 0, 0, 0) := rfl
theorem r_254_118 : row 254 118 = some (.getfield 52, 121, 3, 13, 2, 1120) := rfl
theorem r_254_121 : row 254 121 = some (.invokestatic 73, 124, 241, 2, 10, 3150) := rfl
theorem r_254_124 : row 254 124 = some (.aload_n 1, 125, 0, 0, 0, 0) := rfl
theorem r_254_125 : row 254 125 = some (.getfield 55, 128, 3, 14, 2, 1124) := rfl
theorem r_254_128 : row 254 128 = some (.aload_n 0, 129, 0, 0, 0, 0) := rfl
theorem r_254_129 : row 254 129 = some (.getfield 55, 132, 3, 14, 2, 1124) := rfl
theorem r_254_132 : row 254 132 = some (.invokestatic 73, 135, 241, 2, 10, 3150) := rfl
theorem r_254_135 : row 254 135 = some (.aload_n 1, 136, 0, 0, 0, 0) := rfl
theorem r_254_136 : row 254 136 = some (.getfield 58, 139, 3, 15, 2, 1126) := rfl
theorem r_254_139 : row 254 139 = some (.aload_n 0, 140, 0, 0, 0, 0) := rfl
theorem r_254_140 : row 254 140 = some (.getfield 58, 143, 3, 15, 2, 1126) := rfl
theorem r_254_143 : row 254 143 = some (.invokestatic 73, 146, 241, 2, 10, 3150) := rfl
theorem r_254_146 : row 254 146 = some (.aload_n 1, 147, 0, 0, 0, 0) := rfl
theorem r_254_147 : row 254 147 = some (.getfield 61, 150, 3, 16, 2, 1130) := rfl
theorem r_254_150 : row 254 150 = some (.aload_n 0, 151, 0, 0, 0, 0) := rfl
theorem r_254_151 : row 254 151 = some (.getfield 61, 154, 3, 16, 2, 1130) := rfl
theorem r_254_154 : row 254 154 = some (.invokestatic 73, 157, 241, 2, 10, 3150) := rfl
theorem r_254_157 : row 254 157 = some (.aload_n 1, 158, 0, 0, 0, 0) := rfl
theorem r_254_158 : row 254 158 = some (.getfield 64, 161, 3, 17, 2, 1133) := rfl
theorem r_254_161 : row 254 161 = some (.aload_n 0, 162, 0, 0, 0, 0) := rfl
theorem r_254_162 : row 254 162 = some (.getfield 64, 165, 3, 17, 2, 1133) := rfl
theorem r_254_165 : row 254 165 = some (.invokestatic 73, 168, 241, 2, 10, 3150) := rfl
theorem r_254_168 : row 254 168 = some (.return_, 169, 0, 0, 0, 0) := rfl
section COPY
variable {T : List Kd} {m : Mm}
theorem isleR_no {m n : Mm} {o g : Nat} (q : ∀ p j : Nat, ¬ p = g → n p j = m p j) (h : IsleR m o) (hg : ¬ o = g) : IsleR n o := ⟨(q o 10 hg).trans h.1, (q o 11 hg).trans h.2.1, (q o 12 hg).trans h.2.2.1, (q o 13 hg).trans h.2.2.2.1, (q o 14 hg).trans h.2.2.2.2.1, (q o 15 hg).trans h.2.2.2.2.2.1, (q o 16 hg).trans h.2.2.2.2.2.2.1, (q o 17 hg).trans h.2.2.2.2.2.2.2⟩
theorem isleR_up {m : Mm} {o p i : Nat} {x : Int} (h : IsleR m o) (hi : i < 10) : IsleR (nu_up m p i x) o := by
  have z : ∀ j : Nat, 10 ≤ j → nu_up m p i x o j = m o j := fun j hj => by
    by_cases e : o = p
    · subst e; exact nu_ne (by omega)
    · exact nu_no e
  exact ⟨(z 10 (by decide)).trans h.1, (z 11 (by decide)).trans h.2.1, (z 12 (by decide)).trans h.2.2.1, (z 13 (by decide)).trans h.2.2.2.1, (z 14 (by decide)).trans h.2.2.2.2.1, (z 15 (by decide)).trans h.2.2.2.2.2.1, (z 16 (by decide)).trans h.2.2.2.2.2.2.1, (z 17 (by decide)).trans h.2.2.2.2.2.2.2⟩
theorem z_254b {o s : Nat} (ho : IsleT T o) (hs : IsleT T s) (hor : IsleR m o) (hsr : IsleR m s) (hd : o + 8 < s ∨ s + 8 < o) : GX T 1 254 80 [(2, (o : Int)), (2, (s : Int))] [] m (RV (fun m1 => ((∀ k : Nat, k < 5 → m1 (o + 1) k = m (s + 1) k) ∧ (∀ k : Nat, k < 5 → m1 (o + 2) k = m (s + 2) k) ∧ (∀ k : Nat, k < 3 → m1 (o + 3) k = m (s + 3) k) ∧ (∀ k : Nat, k < 3 → m1 (o + 4) k = m (s + 4) k) ∧ (∀ k : Nat, k < 5 → m1 (o + 5) k = m (s + 5) k) ∧ (∀ k : Nat, k < 5 → m1 (o + 6) k = m (s + 6) k) ∧ (∀ k : Nat, k < 7 → m1 (o + 7) k = m (s + 7) k) ∧ (∀ k : Nat, k < 49 → m1 (o + 8) k = m (s + 8) k)) ∧ ∀ p i : Nat, ¬ (o + 1 ≤ p ∧ p ≤ o + 8) → m1 p i = m p i)) := by
  have ho0 := ho.1
  have hs0 := hs.1
  refine gx_st (L' := [(2, (o : Int)), (2, (s : Int))]) (S' := [(2, (s : Int))]) r_254_80 rfl rfl rfl ?_
  refine gx_gf (x := (s : Int) + 1) 2 r_254_81 (rfl) (tisle_0 hs) ⟨by omega, rfl, by decide, by decide⟩ rfl (fun _ => by omega) (hsr.1) ?_
  refine gx_st (L' := [(2, (o : Int)), (2, (s : Int))]) (S' := [(2, (o : Int)), (2, (s : Int) + 1)]) r_254_84 rfl rfl rfl ?_
  refine gx_gf (x := (o : Int) + 1) 2 r_254_85 (rfl) (tisle_0 ho) ⟨by omega, rfl, by decide, by decide⟩ rfl (fun _ => by omega) (hor.1) ?_
  refine gx_cv (nx := 91) (S2 := []) (c_241 (r := s + 1) (n := 5) (tisle_1 hs) (by omega) (by decide) (g := o + 1) (tisle_1 ho) (by omega)) r_254_88 rfl rfl rfl rfl rfl rfl rfl (by decide) rfl (fun n88 q88 => ?_)
  have ro1 : IsleR n88 o := isleR_no q88.2 hor (by omega)
  have rs1 : IsleR n88 s := isleR_no q88.2 hsr (by omega)
  refine gx_st (L' := [(2, (o : Int)), (2, (s : Int))]) (S' := [(2, (s : Int))]) r_254_91 rfl rfl rfl ?_
  refine gx_gf (x := (s : Int) + 2) 2 r_254_92 (rfl) (tisle_0 hs) ⟨by omega, rfl, by decide, by decide⟩ rfl (fun _ => by omega) (rs1.2.1) ?_
  refine gx_st (L' := [(2, (o : Int)), (2, (s : Int))]) (S' := [(2, (o : Int)), (2, (s : Int) + 2)]) r_254_95 rfl rfl rfl ?_
  refine gx_gf (x := (o : Int) + 2) 2 r_254_96 (rfl) (tisle_0 ho) ⟨by omega, rfl, by decide, by decide⟩ rfl (fun _ => by omega) (ro1.2.1) ?_
  refine gx_cv (nx := 102) (S2 := []) (c_241 (r := s + 2) (n := 5) (tisle_2 hs) (by omega) (by decide) (g := o + 2) (tisle_2 ho) (by omega)) r_254_99 rfl rfl rfl rfl rfl rfl rfl (by decide) rfl (fun n99 q99 => ?_)
  have ro2 : IsleR n99 o := isleR_no q99.2 ro1 (by omega)
  have rs2 : IsleR n99 s := isleR_no q99.2 rs1 (by omega)
  refine gx_st (L' := [(2, (o : Int)), (2, (s : Int))]) (S' := [(2, (s : Int))]) r_254_102 rfl rfl rfl ?_
  refine gx_gf (x := (s : Int) + 3) 2 r_254_103 (rfl) (tisle_0 hs) ⟨by omega, rfl, by decide, by decide⟩ rfl (fun _ => by omega) (rs2.2.2.1) ?_
  refine gx_st (L' := [(2, (o : Int)), (2, (s : Int))]) (S' := [(2, (o : Int)), (2, (s : Int) + 3)]) r_254_106 rfl rfl rfl ?_
  refine gx_gf (x := (o : Int) + 3) 2 r_254_107 (rfl) (tisle_0 ho) ⟨by omega, rfl, by decide, by decide⟩ rfl (fun _ => by omega) (ro2.2.2.1) ?_
  refine gx_cv (nx := 113) (S2 := []) (c_241 (r := s + 3) (n := 3) (tisle_3 hs) (by omega) (by decide) (g := o + 3) (tisle_3 ho) (by omega)) r_254_110 rfl rfl rfl rfl rfl rfl rfl (by decide) rfl (fun n110 q110 => ?_)
  have ro3 : IsleR n110 o := isleR_no q110.2 ro2 (by omega)
  have rs3 : IsleR n110 s := isleR_no q110.2 rs2 (by omega)
  refine gx_st (L' := [(2, (o : Int)), (2, (s : Int))]) (S' := [(2, (s : Int))]) r_254_113 rfl rfl rfl ?_
  refine gx_gf (x := (s : Int) + 4) 2 r_254_114 (rfl) (tisle_0 hs) ⟨by omega, rfl, by decide, by decide⟩ rfl (fun _ => by omega) (rs3.2.2.2.1) ?_
  refine gx_st (L' := [(2, (o : Int)), (2, (s : Int))]) (S' := [(2, (o : Int)), (2, (s : Int) + 4)]) r_254_117 rfl rfl rfl ?_
  refine gx_gf (x := (o : Int) + 4) 2 r_254_118 (rfl) (tisle_0 ho) ⟨by omega, rfl, by decide, by decide⟩ rfl (fun _ => by omega) (ro3.2.2.2.1) ?_
  refine gx_cv (nx := 124) (S2 := []) (c_241 (r := s + 4) (n := 3) (tisle_4 hs) (by omega) (by decide) (g := o + 4) (tisle_4 ho) (by omega)) r_254_121 rfl rfl rfl rfl rfl rfl rfl (by decide) rfl (fun n121 q121 => ?_)
  have ro4 : IsleR n121 o := isleR_no q121.2 ro3 (by omega)
  have rs4 : IsleR n121 s := isleR_no q121.2 rs3 (by omega)
  refine gx_st (L' := [(2, (o : Int)), (2, (s : Int))]) (S' := [(2, (s : Int))]) r_254_124 rfl rfl rfl ?_
  refine gx_gf (x := (s : Int) + 5) 2 r_254_125 (rfl) (tisle_0 hs) ⟨by omega, rfl, by decide, by decide⟩ rfl (fun _ => by omega) (rs4.2.2.2.2.1) ?_
  refine gx_st (L' := [(2, (o : Int)), (2, (s : Int))]) (S' := [(2, (o : Int)), (2, (s : Int) + 5)]) r_254_128 rfl rfl rfl ?_
  refine gx_gf (x := (o : Int) + 5) 2 r_254_129 (rfl) (tisle_0 ho) ⟨by omega, rfl, by decide, by decide⟩ rfl (fun _ => by omega) (ro4.2.2.2.2.1) ?_
  refine gx_cv (nx := 135) (S2 := []) (c_241 (r := s + 5) (n := 5) (tisle_5 hs) (by omega) (by decide) (g := o + 5) (tisle_5 ho) (by omega)) r_254_132 rfl rfl rfl rfl rfl rfl rfl (by decide) rfl (fun n132 q132 => ?_)
  have ro5 : IsleR n132 o := isleR_no q132.2 ro4 (by omega)
  have rs5 : IsleR n132 s := isleR_no q132.2 rs4 (by omega)
  refine gx_st (L' := [(2, (o : Int)), (2, (s : Int))]) (S' := [(2, (s : Int))]) r_254_135 rfl rfl rfl ?_
  refine gx_gf (x := (s : Int) + 6) 2 r_254_136 (rfl) (tisle_0 hs) ⟨by omega, rfl, by decide, by decide⟩ rfl (fun _ => by omega) (rs5.2.2.2.2.2.1) ?_
  refine gx_st (L' := [(2, (o : Int)), (2, (s : Int))]) (S' := [(2, (o : Int)), (2, (s : Int) + 6)]) r_254_139 rfl rfl rfl ?_
  refine gx_gf (x := (o : Int) + 6) 2 r_254_140 (rfl) (tisle_0 ho) ⟨by omega, rfl, by decide, by decide⟩ rfl (fun _ => by omega) (ro5.2.2.2.2.2.1) ?_
  refine gx_cv (nx := 146) (S2 := []) (c_241 (r := s + 6) (n := 5) (tisle_6 hs) (by omega) (by decide) (g := o + 6) (tisle_6 ho) (by omega)) r_254_143 rfl rfl rfl rfl rfl rfl rfl (by decide) rfl (fun n143 q143 => ?_)
  have ro6 : IsleR n143 o := isleR_no q143.2 ro5 (by omega)
  have rs6 : IsleR n143 s := isleR_no q143.2 rs5 (by omega)
  refine gx_st (L' := [(2, (o : Int)), (2, (s : Int))]) (S' := [(2, (s : Int))]) r_254_146 rfl rfl rfl ?_
  refine gx_gf (x := (s : Int) + 7) 2 r_254_147 (rfl) (tisle_0 hs) ⟨by omega, rfl, by decide, by decide⟩ rfl (fun _ => by omega) (rs6.2.2.2.2.2.2.1) ?_
  refine gx_st (L' := [(2, (o : Int)), (2, (s : Int))]) (S' := [(2, (o : Int)), (2, (s : Int) + 7)]) r_254_150 rfl rfl rfl ?_
  refine gx_gf (x := (o : Int) + 7) 2 r_254_151 (rfl) (tisle_0 ho) ⟨by omega, rfl, by decide, by decide⟩ rfl (fun _ => by omega) (ro6.2.2.2.2.2.2.1) ?_
  refine gx_cv (nx := 157) (S2 := []) (c_241 (r := s + 7) (n := 7) (tisle_7 hs) (by omega) (by decide) (g := o + 7) (tisle_7 ho) (by omega)) r_254_154 rfl rfl rfl rfl rfl rfl rfl (by decide) rfl (fun n154 q154 => ?_)
  have ro7 : IsleR n154 o := isleR_no q154.2 ro6 (by omega)
  have rs7 : IsleR n154 s := isleR_no q154.2 rs6 (by omega)
  refine gx_st (L' := [(2, (o : Int)), (2, (s : Int))]) (S' := [(2, (s : Int))]) r_254_157 rfl rfl rfl ?_
  refine gx_gf (x := (s : Int) + 8) 2 r_254_158 (rfl) (tisle_0 hs) ⟨by omega, rfl, by decide, by decide⟩ rfl (fun _ => by omega) (rs7.2.2.2.2.2.2.2) ?_
  refine gx_st (L' := [(2, (o : Int)), (2, (s : Int))]) (S' := [(2, (o : Int)), (2, (s : Int) + 8)]) r_254_161 rfl rfl rfl ?_
  refine gx_gf (x := (o : Int) + 8) 2 r_254_162 (rfl) (tisle_0 ho) ⟨by omega, rfl, by decide, by decide⟩ rfl (fun _ => by omega) (ro7.2.2.2.2.2.2.2) ?_
  refine gx_cv (nx := 168) (S2 := []) (c_241 (r := s + 8) (n := 49) (tisle_8 hs) (by omega) (by decide) (g := o + 8) (tisle_8 ho) (by omega)) r_254_165 rfl rfl rfl rfl rfl rfl rfl (by decide) rfl (fun n165 q165 => ?_)
  have ro8 : IsleR n165 o := isleR_no q165.2 ro7 (by omega)
  have rs8 : IsleR n165 s := isleR_no q165.2 rs7 (by omega)
  refine gx_rt r_254_168 rfl rfl ⟨rfl, ⟨fun k hk => ?_, fun k hk => ?_, fun k hk => ?_, fun k hk => ?_, fun k hk => ?_, fun k hk => ?_, fun k hk => ?_, fun k hk => ?_⟩, fun p i h2 => ?_⟩
  · rw [q165.2 (o + 1) k (by omega), q154.2 (o + 1) k (by omega), q143.2 (o + 1) k (by omega), q132.2 (o + 1) k (by omega), q121.2 (o + 1) k (by omega), q110.2 (o + 1) k (by omega), q99.2 (o + 1) k (by omega), q88.1 k hk]
  · rw [q165.2 (o + 2) k (by omega), q154.2 (o + 2) k (by omega), q143.2 (o + 2) k (by omega), q132.2 (o + 2) k (by omega), q121.2 (o + 2) k (by omega), q110.2 (o + 2) k (by omega), q99.1 k hk, q88.2 (s + 2) k (by omega)]
  · rw [q165.2 (o + 3) k (by omega), q154.2 (o + 3) k (by omega), q143.2 (o + 3) k (by omega), q132.2 (o + 3) k (by omega), q121.2 (o + 3) k (by omega), q110.1 k hk, q99.2 (s + 3) k (by omega), q88.2 (s + 3) k (by omega)]
  · rw [q165.2 (o + 4) k (by omega), q154.2 (o + 4) k (by omega), q143.2 (o + 4) k (by omega), q132.2 (o + 4) k (by omega), q121.1 k hk, q110.2 (s + 4) k (by omega), q99.2 (s + 4) k (by omega), q88.2 (s + 4) k (by omega)]
  · rw [q165.2 (o + 5) k (by omega), q154.2 (o + 5) k (by omega), q143.2 (o + 5) k (by omega), q132.1 k hk, q121.2 (s + 5) k (by omega), q110.2 (s + 5) k (by omega), q99.2 (s + 5) k (by omega), q88.2 (s + 5) k (by omega)]
  · rw [q165.2 (o + 6) k (by omega), q154.2 (o + 6) k (by omega), q143.1 k hk, q132.2 (s + 6) k (by omega), q121.2 (s + 6) k (by omega), q110.2 (s + 6) k (by omega), q99.2 (s + 6) k (by omega), q88.2 (s + 6) k (by omega)]
  · rw [q165.2 (o + 7) k (by omega), q154.1 k hk, q143.2 (s + 7) k (by omega), q132.2 (s + 7) k (by omega), q121.2 (s + 7) k (by omega), q110.2 (s + 7) k (by omega), q99.2 (s + 7) k (by omega), q88.2 (s + 7) k (by omega)]
  · rw [q165.1 k hk, q154.2 (s + 8) k (by omega), q143.2 (s + 8) k (by omega), q132.2 (s + 8) k (by omega), q121.2 (s + 8) k (by omega), q110.2 (s + 8) k (by omega), q99.2 (s + 8) k (by omega), q88.2 (s + 8) k (by omega)]
  · rw [q165.2 p i (by omega), q154.2 p i (by omega), q143.2 p i (by omega), q132.2 p i (by omega), q121.2 p i (by omega), q110.2 p i (by omega), q99.2 p i (by omega), q88.2 p i (by omega)]
theorem nc_o {o p i b : Nat} {x : Int} (hb : b < 10) (h : ¬ (p = o ∧ i < 10)) : nu_up m o b x p i = m p i := by
  by_cases e : p = o
  · subst e; exact nu_ne (fun z => h ⟨rfl, by omega⟩)
  · exact nu_no e
theorem z_254a {o s : Nat} (ho : IsleT T o) (hs : IsleT T s) (hd : ¬ s = o) {Q : AV → Mm → Prop} (hout : ∀ m1 : Mm, (∀ i : Nat, i < 10 → m1 o i = m s i) → (∀ p i : Nat, ¬ (p = o ∧ i < 10) → m1 p i = m p i) → GX T 1 254 80 [(2, (o : Int)), (2, (s : Int))] [] m1 Q) : GX T 1 254 0 [(2, (o : Int)), (2, (s : Int))] [] m Q := by
  have ho0 := ho.1
  have hs0 := hs.1
  refine gx_st (L' := [(2, (o : Int)), (2, (s : Int))]) (S' := [(2, (o : Int))]) r_254_0 rfl rfl rfl ?_
  refine gx_st (L' := [(2, (o : Int)), (2, (s : Int))]) (S' := [(2, (s : Int)), (2, (o : Int))]) r_254_1 rfl rfl rfl ?_
  refine gx_gf (x := (m s 0)) 0 r_254_2 (rfl) (tisle_0 hs) ⟨by omega, rfl, by decide, by decide⟩ rfl (fun z => absurd z (by decide)) (rfl) ?_
  obtain ⟨m1, e_m1⟩ : ∃ z, z = nu_up m o 0 (m s 0) := ⟨_, rfl⟩
  refine gx_pf (x := (m s 0)) 0 r_254_5 (rfl) (tisle_0 ho) ⟨by omega, rfl, by decide, by decide⟩ rfl (fun z => absurd z (by decide)) (fun z => absurd z (by decide)) e_m1.symm ?_
  refine gx_st (L' := [(2, (o : Int)), (2, (s : Int))]) (S' := [(2, (o : Int))]) r_254_8 rfl rfl rfl ?_
  refine gx_st (L' := [(2, (o : Int)), (2, (s : Int))]) (S' := [(2, (s : Int)), (2, (o : Int))]) r_254_9 rfl rfl rfl ?_
  refine gx_gf (x := (m s 1)) 0 r_254_10 (rfl) (tisle_0 hs) ⟨by omega, rfl, by decide, by decide⟩ rfl (fun z => absurd z (by decide)) (by show m1 s 1 = _; rw [e_m1, nu_no (by omega)]) ?_
  obtain ⟨m2, e_m2⟩ : ∃ z, z = nu_up m1 o 1 (m s 1) := ⟨_, rfl⟩
  refine gx_pf (x := (m s 1)) 0 r_254_13 (rfl) (tisle_0 ho) ⟨by omega, rfl, by decide, by decide⟩ rfl (fun z => absurd z (by decide)) (fun z => absurd z (by decide)) e_m2.symm ?_
  refine gx_st (L' := [(2, (o : Int)), (2, (s : Int))]) (S' := [(2, (o : Int))]) r_254_16 rfl rfl rfl ?_
  refine gx_st (L' := [(2, (o : Int)), (2, (s : Int))]) (S' := [(2, (s : Int)), (2, (o : Int))]) r_254_17 rfl rfl rfl ?_
  refine gx_gf (x := (m s 2)) 0 r_254_18 (rfl) (tisle_0 hs) ⟨by omega, rfl, by decide, by decide⟩ rfl (fun z => absurd z (by decide)) (by show m2 s 2 = _; rw [e_m2, nu_no (by omega), e_m1, nu_no (by omega)]) ?_
  obtain ⟨m3, e_m3⟩ : ∃ z, z = nu_up m2 o 2 (m s 2) := ⟨_, rfl⟩
  refine gx_pf (x := (m s 2)) 0 r_254_21 (rfl) (tisle_0 ho) ⟨by omega, rfl, by decide, by decide⟩ rfl (fun z => absurd z (by decide)) (fun z => absurd z (by decide)) e_m3.symm ?_
  refine gx_st (L' := [(2, (o : Int)), (2, (s : Int))]) (S' := [(2, (o : Int))]) r_254_24 rfl rfl rfl ?_
  refine gx_st (L' := [(2, (o : Int)), (2, (s : Int))]) (S' := [(2, (s : Int)), (2, (o : Int))]) r_254_25 rfl rfl rfl ?_
  refine gx_gf (x := (m s 3)) 0 r_254_26 (rfl) (tisle_0 hs) ⟨by omega, rfl, by decide, by decide⟩ rfl (fun z => absurd z (by decide)) (by show m3 s 3 = _; rw [e_m3, nu_no (by omega), e_m2, nu_no (by omega), e_m1, nu_no (by omega)]) ?_
  obtain ⟨m4, e_m4⟩ : ∃ z, z = nu_up m3 o 3 (m s 3) := ⟨_, rfl⟩
  refine gx_pf (x := (m s 3)) 0 r_254_29 (rfl) (tisle_0 ho) ⟨by omega, rfl, by decide, by decide⟩ rfl (fun z => absurd z (by decide)) (fun z => absurd z (by decide)) e_m4.symm ?_
  refine gx_st (L' := [(2, (o : Int)), (2, (s : Int))]) (S' := [(2, (o : Int))]) r_254_32 rfl rfl rfl ?_
  refine gx_st (L' := [(2, (o : Int)), (2, (s : Int))]) (S' := [(2, (s : Int)), (2, (o : Int))]) r_254_33 rfl rfl rfl ?_
  refine gx_gf (x := (m s 4)) 0 r_254_34 (rfl) (tisle_0 hs) ⟨by omega, rfl, by decide, by decide⟩ rfl (fun z => absurd z (by decide)) (by show m4 s 4 = _; rw [e_m4, nu_no (by omega), e_m3, nu_no (by omega), e_m2, nu_no (by omega), e_m1, nu_no (by omega)]) ?_
  obtain ⟨m5, e_m5⟩ : ∃ z, z = nu_up m4 o 4 (m s 4) := ⟨_, rfl⟩
  refine gx_pf (x := (m s 4)) 0 r_254_37 (rfl) (tisle_0 ho) ⟨by omega, rfl, by decide, by decide⟩ rfl (fun z => absurd z (by decide)) (fun z => absurd z (by decide)) e_m5.symm ?_
  refine gx_st (L' := [(2, (o : Int)), (2, (s : Int))]) (S' := [(2, (o : Int))]) r_254_40 rfl rfl rfl ?_
  refine gx_st (L' := [(2, (o : Int)), (2, (s : Int))]) (S' := [(2, (s : Int)), (2, (o : Int))]) r_254_41 rfl rfl rfl ?_
  refine gx_gf (x := (m s 5)) 0 r_254_42 (rfl) (tisle_0 hs) ⟨by omega, rfl, by decide, by decide⟩ rfl (fun z => absurd z (by decide)) (by show m5 s 5 = _; rw [e_m5, nu_no (by omega), e_m4, nu_no (by omega), e_m3, nu_no (by omega), e_m2, nu_no (by omega), e_m1, nu_no (by omega)]) ?_
  obtain ⟨m6, e_m6⟩ : ∃ z, z = nu_up m5 o 5 (m s 5) := ⟨_, rfl⟩
  refine gx_pf (x := (m s 5)) 0 r_254_45 (rfl) (tisle_0 ho) ⟨by omega, rfl, by decide, by decide⟩ rfl (fun z => absurd z (by decide)) (fun z => absurd z (by decide)) e_m6.symm ?_
  refine gx_st (L' := [(2, (o : Int)), (2, (s : Int))]) (S' := [(2, (o : Int))]) r_254_48 rfl rfl rfl ?_
  refine gx_st (L' := [(2, (o : Int)), (2, (s : Int))]) (S' := [(2, (s : Int)), (2, (o : Int))]) r_254_49 rfl rfl rfl ?_
  refine gx_gf (x := (m s 6)) 0 r_254_50 (rfl) (tisle_0 hs) ⟨by omega, rfl, by decide, by decide⟩ rfl (fun z => absurd z (by decide)) (by show m6 s 6 = _; rw [e_m6, nu_no (by omega), e_m5, nu_no (by omega), e_m4, nu_no (by omega), e_m3, nu_no (by omega), e_m2, nu_no (by omega), e_m1, nu_no (by omega)]) ?_
  obtain ⟨m7, e_m7⟩ : ∃ z, z = nu_up m6 o 6 (m s 6) := ⟨_, rfl⟩
  refine gx_pf (x := (m s 6)) 0 r_254_53 (rfl) (tisle_0 ho) ⟨by omega, rfl, by decide, by decide⟩ rfl (fun z => absurd z (by decide)) (fun z => absurd z (by decide)) e_m7.symm ?_
  refine gx_st (L' := [(2, (o : Int)), (2, (s : Int))]) (S' := [(2, (o : Int))]) r_254_56 rfl rfl rfl ?_
  refine gx_st (L' := [(2, (o : Int)), (2, (s : Int))]) (S' := [(2, (s : Int)), (2, (o : Int))]) r_254_57 rfl rfl rfl ?_
  refine gx_gf (x := (m s 7)) 0 r_254_58 (rfl) (tisle_0 hs) ⟨by omega, rfl, by decide, by decide⟩ rfl (fun z => absurd z (by decide)) (by show m7 s 7 = _; rw [e_m7, nu_no (by omega), e_m6, nu_no (by omega), e_m5, nu_no (by omega), e_m4, nu_no (by omega), e_m3, nu_no (by omega), e_m2, nu_no (by omega), e_m1, nu_no (by omega)]) ?_
  obtain ⟨m8, e_m8⟩ : ∃ z, z = nu_up m7 o 7 (m s 7) := ⟨_, rfl⟩
  refine gx_pf (x := (m s 7)) 0 r_254_61 (rfl) (tisle_0 ho) ⟨by omega, rfl, by decide, by decide⟩ rfl (fun z => absurd z (by decide)) (fun z => absurd z (by decide)) e_m8.symm ?_
  refine gx_st (L' := [(2, (o : Int)), (2, (s : Int))]) (S' := [(2, (o : Int))]) r_254_64 rfl rfl rfl ?_
  refine gx_st (L' := [(2, (o : Int)), (2, (s : Int))]) (S' := [(2, (s : Int)), (2, (o : Int))]) r_254_65 rfl rfl rfl ?_
  refine gx_gf (x := (m s 8)) 0 r_254_66 (rfl) (tisle_0 hs) ⟨by omega, rfl, by decide, by decide⟩ rfl (fun z => absurd z (by decide)) (by show m8 s 8 = _; rw [e_m8, nu_no (by omega), e_m7, nu_no (by omega), e_m6, nu_no (by omega), e_m5, nu_no (by omega), e_m4, nu_no (by omega), e_m3, nu_no (by omega), e_m2, nu_no (by omega), e_m1, nu_no (by omega)]) ?_
  obtain ⟨m9, e_m9⟩ : ∃ z, z = nu_up m8 o 8 (m s 8) := ⟨_, rfl⟩
  refine gx_pf (x := (m s 8)) 0 r_254_69 (rfl) (tisle_0 ho) ⟨by omega, rfl, by decide, by decide⟩ rfl (fun z => absurd z (by decide)) (fun z => absurd z (by decide)) e_m9.symm ?_
  refine gx_st (L' := [(2, (o : Int)), (2, (s : Int))]) (S' := [(2, (o : Int))]) r_254_72 rfl rfl rfl ?_
  refine gx_st (L' := [(2, (o : Int)), (2, (s : Int))]) (S' := [(2, (s : Int)), (2, (o : Int))]) r_254_73 rfl rfl rfl ?_
  refine gx_gf (x := (m s 9)) 0 r_254_74 (rfl) (tisle_0 hs) ⟨by omega, rfl, by decide, by decide⟩ rfl (fun z => absurd z (by decide)) (by show m9 s 9 = _; rw [e_m9, nu_no (by omega), e_m8, nu_no (by omega), e_m7, nu_no (by omega), e_m6, nu_no (by omega), e_m5, nu_no (by omega), e_m4, nu_no (by omega), e_m3, nu_no (by omega), e_m2, nu_no (by omega), e_m1, nu_no (by omega)]) ?_
  obtain ⟨m10, e_m10⟩ : ∃ z, z = nu_up m9 o 9 (m s 9) := ⟨_, rfl⟩
  refine gx_pf (x := (m s 9)) 0 r_254_77 (rfl) (tisle_0 ho) ⟨by omega, rfl, by decide, by decide⟩ rfl (fun z => absurd z (by decide)) (fun z => absurd z (by decide)) e_m10.symm ?_
  refine hout m10 (fun i hi => ?_) (fun p i h1 => ?_)
  · rcases (show i = 0 ∨ i = 1 ∨ i = 2 ∨ i = 3 ∨ i = 4 ∨ i = 5 ∨ i = 6 ∨ i = 7 ∨ i = 8 ∨ i = 9 by omega) with rfl | rfl | rfl | rfl | rfl | rfl | rfl | rfl | rfl | rfl
    · rw [e_m10, nu_ne (by decide), e_m9, nu_ne (by decide), e_m8, nu_ne (by decide), e_m7, nu_ne (by decide), e_m6, nu_ne (by decide), e_m5, nu_ne (by decide), e_m4, nu_ne (by decide), e_m3, nu_ne (by decide), e_m2, nu_ne (by decide), e_m1, nu_at]
    · rw [e_m10, nu_ne (by decide), e_m9, nu_ne (by decide), e_m8, nu_ne (by decide), e_m7, nu_ne (by decide), e_m6, nu_ne (by decide), e_m5, nu_ne (by decide), e_m4, nu_ne (by decide), e_m3, nu_ne (by decide), e_m2, nu_at]
    · rw [e_m10, nu_ne (by decide), e_m9, nu_ne (by decide), e_m8, nu_ne (by decide), e_m7, nu_ne (by decide), e_m6, nu_ne (by decide), e_m5, nu_ne (by decide), e_m4, nu_ne (by decide), e_m3, nu_at]
    · rw [e_m10, nu_ne (by decide), e_m9, nu_ne (by decide), e_m8, nu_ne (by decide), e_m7, nu_ne (by decide), e_m6, nu_ne (by decide), e_m5, nu_ne (by decide), e_m4, nu_at]
    · rw [e_m10, nu_ne (by decide), e_m9, nu_ne (by decide), e_m8, nu_ne (by decide), e_m7, nu_ne (by decide), e_m6, nu_ne (by decide), e_m5, nu_at]
    · rw [e_m10, nu_ne (by decide), e_m9, nu_ne (by decide), e_m8, nu_ne (by decide), e_m7, nu_ne (by decide), e_m6, nu_at]
    · rw [e_m10, nu_ne (by decide), e_m9, nu_ne (by decide), e_m8, nu_ne (by decide), e_m7, nu_at]
    · rw [e_m10, nu_ne (by decide), e_m9, nu_ne (by decide), e_m8, nu_at]
    · rw [e_m10, nu_ne (by decide), e_m9, nu_at]
    · rw [e_m10, nu_at]
  · rw [e_m10, nc_o (by decide) h1, e_m9, nc_o (by decide) h1, e_m8, nc_o (by decide) h1, e_m7, nc_o (by decide) h1, e_m6, nc_o (by decide) h1, e_m5, nc_o (by decide) h1, e_m4, nc_o (by decide) h1, e_m3, nc_o (by decide) h1, e_m2, nc_o (by decide) h1, e_m1, nc_o (by decide) h1]
theorem z_254 {o s : Nat} (ho : IsleT T o) (hs : IsleT T s) (hor : IsleR m o) (hsr : IsleR m s) (hd : o + 8 < s ∨ s + 8 < o) : GX T 1 254 0 [(2, (o : Int)), (2, (s : Int))] [] m (RV (fun m1 => (∀ i : Nat, i < 10 → m1 o i = m s i) ∧ ((∀ k : Nat, k < 5 → m1 (o + 1) k = m (s + 1) k) ∧ (∀ k : Nat, k < 5 → m1 (o + 2) k = m (s + 2) k) ∧ (∀ k : Nat, k < 3 → m1 (o + 3) k = m (s + 3) k) ∧ (∀ k : Nat, k < 3 → m1 (o + 4) k = m (s + 4) k) ∧ (∀ k : Nat, k < 5 → m1 (o + 5) k = m (s + 5) k) ∧ (∀ k : Nat, k < 5 → m1 (o + 6) k = m (s + 6) k) ∧ (∀ k : Nat, k < 7 → m1 (o + 7) k = m (s + 7) k) ∧ (∀ k : Nat, k < 49 → m1 (o + 8) k = m (s + 8) k)) ∧ ∀ p i : Nat, ¬ (p = o ∧ i < 10) → ¬ (o + 1 ≤ p ∧ p ≤ o + 8) → m1 p i = m p i)) := by
  refine z_254a ho hs (by omega) (fun m1 e1 e2 => ?_)
  have r1 : IsleR m1 o := ⟨(e2 o 10 (by omega)).trans hor.1, (e2 o 11 (by omega)).trans hor.2.1, (e2 o 12 (by omega)).trans hor.2.2.1, (e2 o 13 (by omega)).trans hor.2.2.2.1, (e2 o 14 (by omega)).trans hor.2.2.2.2.1, (e2 o 15 (by omega)).trans hor.2.2.2.2.2.1, (e2 o 16 (by omega)).trans hor.2.2.2.2.2.2.1, (e2 o 17 (by omega)).trans hor.2.2.2.2.2.2.2⟩
  have r2 : IsleR m1 s := ⟨(e2 s 10 (by omega)).trans hsr.1, (e2 s 11 (by omega)).trans hsr.2.1, (e2 s 12 (by omega)).trans hsr.2.2.1, (e2 s 13 (by omega)).trans hsr.2.2.2.1, (e2 s 14 (by omega)).trans hsr.2.2.2.2.1, (e2 s 15 (by omega)).trans hsr.2.2.2.2.2.1, (e2 s 16 (by omega)).trans hsr.2.2.2.2.2.2.1, (e2 s 17 (by omega)).trans hsr.2.2.2.2.2.2.2⟩
  refine gx_imp (z_254b ho hs r1 r2 hd) (fun v m2 ⟨e, a, b⟩ => ⟨e, fun i hi => (b o i (by omega)).trans (e1 i hi), ?_, fun p i h1 h2 => (b p i h2).trans (e2 p i h1)⟩)
  obtain ⟨a1, a2, a3, a4, a5, a6, a7, a8⟩ := a
  exact ⟨fun k hk => (a1 k hk).trans (e2 (s + 1) k (by omega)), fun k hk => (a2 k hk).trans (e2 (s + 2) k (by omega)), fun k hk => (a3 k hk).trans (e2 (s + 3) k (by omega)), fun k hk => (a4 k hk).trans (e2 (s + 4) k (by omega)), fun k hk => (a5 k hk).trans (e2 (s + 5) k (by omega)), fun k hk => (a6 k hk).trans (e2 (s + 6) k (by omega)), fun k hk => (a7 k hk).trans (e2 (s + 7) k (by omega)), fun k hk => (a8 k hk).trans (e2 (s + 8) k (by omega))⟩
theorem isd_cp {m1 : Mm} {o s : Nat} {w : Wd} (h : IsD m s w) (h1 : ∀ i : Nat, i < 10 → m1 o i = m s i) (h2 : (∀ k : Nat, k < 5 → m1 (o + 1) k = m (s + 1) k) ∧ (∀ k : Nat, k < 5 → m1 (o + 2) k = m (s + 2) k) ∧ (∀ k : Nat, k < 3 → m1 (o + 3) k = m (s + 3) k) ∧ (∀ k : Nat, k < 3 → m1 (o + 4) k = m (s + 4) k) ∧ (∀ k : Nat, k < 5 → m1 (o + 5) k = m (s + 5) k) ∧ (∀ k : Nat, k < 5 → m1 (o + 6) k = m (s + 6) k) ∧ (∀ k : Nat, k < 7 → m1 (o + 7) k = m (s + 7) k) ∧ (∀ k : Nat, k < 49 → m1 (o + 8) k = m (s + 8) k)) : IsD m1 o w := by
  obtain ⟨a1, a2, a3, a4, a5, a6, a7, a8⟩ := h2
  exact ⟨(h1 0 (by decide)).trans h.1, (h1 1 (by decide)).trans h.2.1, (h1 2 (by decide)).trans h.2.2.1, (h1 3 (by decide)).trans h.2.2.2.1, (h1 4 (by decide)).trans h.2.2.2.2.1, (h1 5 (by decide)).trans h.2.2.2.2.2.1, (h1 6 (by decide)).trans h.2.2.2.2.2.2.1, (h1 7 (by decide)).trans h.2.2.2.2.2.2.2.1, (h1 8 (by decide)).trans h.2.2.2.2.2.2.2.2.1, (h1 9 (by decide)).trans h.2.2.2.2.2.2.2.2.2.1, fun t b1 b2 => ⟨(a1 t b1).trans (h.2.2.2.2.2.2.2.2.2.2.1 t b1 b2).1, (a2 t b1).trans (h.2.2.2.2.2.2.2.2.2.2.1 t b1 b2).2⟩, fun t b1 b2 => ⟨(a3 t b1).trans (h.2.2.2.2.2.2.2.2.2.2.2.1 t b1 b2).1, (a4 t b1).trans (h.2.2.2.2.2.2.2.2.2.2.2.1 t b1 b2).2⟩, fun t b1 b2 => ⟨(a5 t b1).trans (h.2.2.2.2.2.2.2.2.2.2.2.2.1 t b1 b2).1, (a6 t b1).trans (h.2.2.2.2.2.2.2.2.2.2.2.2.1 t b1 b2).2⟩, BS_eq h.2.2.2.2.2.2.2.2.2.2.2.2.2 (fun p hp => a7 p hp) (fun _ _ => rfl)⟩
theorem isw_cp {m1 : Mm} {o s : Nat} {w : Wd} (b : WB w) (h : IsWy m s w) (a8 : ∀ k : Nat, k < 49 → m1 (o + 8) k = m (s + 8) k) : IsWy m1 o w := fun d hd p q hp hq => by
  have := b.1
  rw [a8 (7 * p + q) (by omega)]
  exact h d hd p q hp hq
theorem z_235 {o : Nat} (ho : ActsT T o) (hor : ActsR m o) : GX T 1 235 0 [(2, (o : Int))] [] m (RV (fun m1 => (∀ k : Nat, k < 12 → m1 (o + 1) k = 0) ∧ m1 o 2 = 0 ∧ ∀ p i : Nat, ¬ (p = o ∧ i = 2) → ¬ p = o + 1 → m1 p i = m p i)) := by
  have ho0 := ho.1
  refine gx_st (L' := [(2, (o : Int))]) (S' := [(2, (o : Int))]) r_235_0 rfl rfl rfl ?_
  refine gx_gf (x := (o : Int) + 1) 2 r_235_1 (rfl) (tacts_0 ho) ⟨by omega, rfl, by decide, by decide⟩ rfl (fun _ => by omega) (hor.1) ?_
  refine gx_st (L' := [(2, (o : Int))]) (S' := [(0, 0), (2, (o : Int) + 1)]) r_235_4 rfl rfl rfl ?_
  refine gx_cv (nx := 8) (S2 := []) (c_240 (r := o + 1) (n := 12) (tacts_1 ho) (by omega) (by decide) 0) r_235_5 rfl rfl rfl rfl rfl rfl rfl (by decide) rfl (fun n5 q5 => ?_)
  refine gx_st (L' := [(2, (o : Int))]) (S' := [(2, (o : Int))]) r_235_8 rfl rfl rfl ?_
  refine gx_st (L' := [(2, (o : Int))]) (S' := [(0, 0), (2, (o : Int))]) r_235_9 rfl rfl rfl ?_
  obtain ⟨m1, e_m1⟩ : ∃ z, z = nu_up n5 o 2 0 := ⟨_, rfl⟩
  refine gx_pf (x := 0) 0 r_235_10 (rfl) (tacts_0 ho) ⟨by omega, rfl, by decide, by decide⟩ rfl (fun z => absurd z (by decide)) (fun z => absurd z (by decide)) e_m1.symm ?_
  refine gx_rt r_235_13 rfl rfl ⟨rfl, fun k hk => ?_, by rw [e_m1, nu_at], fun p i h1 h2 => ?_⟩
  · rw [e_m1, nu_no (by omega)]; exact q5.1 k hk
  · rw [e_m1]
    by_cases e : p = o
    · subst e; rw [nu_ne (fun z => h1 ⟨rfl, z⟩)]; exact q5.2 p i h2
    · rw [nu_no e]; exact q5.2 p i h2
theorem z_236 {o s : Nat} (ho : ActsT T o) (hs : ActsT T s) (hor : ActsR m o) (hsr : ActsR m s) (hd : o + 2 < s ∨ s + 2 < o) : GX T 1 236 0 [(2, (o : Int)), (2, (s : Int))] [] m (RV (fun m1 => (∀ k : Nat, k < 12 → m1 (o + 1) k = m (s + 1) k) ∧ (∀ k : Nat, k < 12 → m1 (o + 2) k = m (s + 2) k) ∧ m1 o 2 = m s 2 ∧ ∀ p i : Nat, ¬ (p = o ∧ i = 2) → ¬ p = o + 1 → ¬ p = o + 2 → m1 p i = m p i)) := by
  have ho0 := ho.1
  have hs0 := hs.1
  refine gx_st (L' := [(2, (o : Int)), (2, (s : Int))]) (S' := [(2, (s : Int))]) r_236_0 rfl rfl rfl ?_
  refine gx_gf (x := (s : Int) + 1) 2 r_236_1 (rfl) (tacts_0 hs) ⟨by omega, rfl, by decide, by decide⟩ rfl (fun _ => by omega) (hsr.1) ?_
  refine gx_st (L' := [(2, (o : Int)), (2, (s : Int))]) (S' := [(2, (o : Int)), (2, (s : Int) + 1)]) r_236_4 rfl rfl rfl ?_
  refine gx_gf (x := (o : Int) + 1) 2 r_236_5 (rfl) (tacts_0 ho) ⟨by omega, rfl, by decide, by decide⟩ rfl (fun _ => by omega) (hor.1) ?_
  refine gx_cv (nx := 11) (S2 := []) (c_241 (r := s + 1) (n := 12) (tacts_1 hs) (by omega) (by decide) (g := o + 1) (tacts_1 ho) (by omega)) r_236_8 rfl rfl rfl rfl rfl rfl rfl (by decide) rfl (fun n8 q8 => ?_)
  have ro_1 : n8 o 1 = (o : Int) + 2 := (q8.2 o 1 (by omega)).trans hor.2
  have rs_1 : n8 s 1 = (s : Int) + 2 := (q8.2 s 1 (by omega)).trans hsr.2
  refine gx_st (L' := [(2, (o : Int)), (2, (s : Int))]) (S' := [(2, (s : Int))]) r_236_11 rfl rfl rfl ?_
  refine gx_gf (x := (s : Int) + 2) 2 r_236_12 (rfl) (tacts_0 hs) ⟨by omega, rfl, by decide, by decide⟩ rfl (fun _ => by omega) (rs_1) ?_
  refine gx_st (L' := [(2, (o : Int)), (2, (s : Int))]) (S' := [(2, (o : Int)), (2, (s : Int) + 2)]) r_236_15 rfl rfl rfl ?_
  refine gx_gf (x := (o : Int) + 2) 2 r_236_16 (rfl) (tacts_0 ho) ⟨by omega, rfl, by decide, by decide⟩ rfl (fun _ => by omega) (ro_1) ?_
  refine gx_cv (nx := 22) (S2 := []) (c_241 (r := s + 2) (n := 12) (tacts_2 hs) (by omega) (by decide) (g := o + 2) (tacts_2 ho) (by omega)) r_236_19 rfl rfl rfl rfl rfl rfl rfl (by decide) rfl (fun n19 q19 => ?_)
  refine gx_st (L' := [(2, (o : Int)), (2, (s : Int))]) (S' := [(2, (o : Int))]) r_236_22 rfl rfl rfl ?_
  refine gx_st (L' := [(2, (o : Int)), (2, (s : Int))]) (S' := [(2, (s : Int)), (2, (o : Int))]) r_236_23 rfl rfl rfl ?_
  refine gx_gf (x := (n19 s 2)) 0 r_236_24 (rfl) (tacts_0 hs) ⟨by omega, rfl, by decide, by decide⟩ rfl (fun z => absurd z (by decide)) (rfl) ?_
  obtain ⟨m1, e_m1⟩ : ∃ z, z = nu_up n19 o 2 (n19 s 2) := ⟨_, rfl⟩
  refine gx_pf (x := (n19 s 2)) 0 r_236_27 (rfl) (tacts_0 ho) ⟨by omega, rfl, by decide, by decide⟩ rfl (fun z => absurd z (by decide)) (fun z => absurd z (by decide)) e_m1.symm ?_
  refine gx_rt r_236_30 rfl rfl ⟨rfl, fun k hk => ?_, fun k hk => ?_, ?_, fun p i h1 h2 h3 => ?_⟩
  · rw [e_m1, nu_no (by omega), q19.2 (o + 1) k (by omega)]; exact q8.1 k hk
  · rw [e_m1, nu_no (by omega), q19.1 k hk]; exact q8.2 (s + 2) k (by omega)
  · rw [e_m1, nu_at, q19.2 s 2 (by omega)]; exact q8.2 s 2 (by omega)
  · rw [e_m1]
    by_cases e : p = o
    · subst e; rw [nu_ne (fun z => h1 ⟨rfl, z⟩), q19.2 p i h3]; exact q8.2 p i h2
    · rw [nu_no e, q19.2 p i h3]; exact q8.2 p i h2
set_option maxRecDepth 100000 in
theorem cu_277 : conL[277]? = some (75, [(2, 1, 0)], (9, 0, 0), [1015, 28010, 28011, 28012, 28013, 29000, 29001, 29002, 29003, 29004, 29005, 29006, 29007, 30999, 31999, 32999, 33999, 34999, 35999, 36999, 37999, 38999, 39999, 40999], 5) := rfl
theorem pu_277 (hT : TT T) : ConH T (75, [(2, 1, 0)], (9, 0, 0), [1015, 28010, 28011, 28012, 28013, 29000, 29001, 29002, 29003, 29004, 29005, 29006, 29007, 30999, 31999, 32999, 33999, 34999, 35999, 36999, 37999, 38999, 39999, 40999], 5) := fun args m => ((all_con hT 277).1 (by decide)) _ cu_277 args m
set_option maxRecDepth 100000 in
theorem cu_232 : conL[232]? = some (254, [(2, 4, 0), (2, 13, 0)], (9, 0, 0), [4000, 4001, 4002, 4003, 4004, 4005, 4006, 4007, 4008, 4009, 5999, 6999, 7999, 8999, 9999, 10999, 11999, 12999], 1) := rfl
theorem pu_232 (hT : TT T) : ConH T (254, [(2, 4, 0), (2, 13, 0)], (9, 0, 0), [4000, 4001, 4002, 4003, 4004, 4005, 4006, 4007, 4008, 4009, 5999, 6999, 7999, 8999, 9999, 10999, 11999, 12999], 1) := fun args m => ((all_con hT 232).1 (by decide)) _ cu_232 args m
set_option maxRecDepth 100000 in
theorem cu_234 : conL[234]? = some (235, [(2, 22, 0)], (9, 0, 0), [22002, 23999], 1) := rfl
theorem pu_234 (hT : TT T) : ConH T (235, [(2, 22, 0)], (9, 0, 0), [22002, 23999], 1) := fun args m => ((all_con hT 234).1 (by decide)) _ cu_234 args m
set_option maxRecDepth 100000 in
theorem cu_223 : conL[223]? = some (299, [(2, 2, 0), (2, 13, 0)], (0, 0, 1), [2002, 2003, 2004, 2005, 2006, 13000, 13001, 13002, 13003, 13004, 13005, 13006, 13007, 13008, 13009, 14999, 15999, 16999, 17999, 18999, 19999, 20999, 21999], 7) := rfl
theorem pu_223 (hT : TT T) : ConH T (299, [(2, 2, 0), (2, 13, 0)], (0, 0, 1), [2002, 2003, 2004, 2005, 2006, 13000, 13001, 13002, 13003, 13004, 13005, 13006, 13007, 13008, 13009, 14999, 15999, 16999, 17999, 18999, 19999, 20999, 21999], 7) := fun args m => ((all_con hT 223).1 (by decide)) _ cu_223 args m
theorem gq_o1y : gq0 (2, 1, 0) (2, 1) := (gq_2 rfl).mpr ⟨rfl, by decide, by decide, by decide⟩
theorem gq_o4y : gq0 (2, 4, 0) (2, 4) := (gq_2 rfl).mpr ⟨rfl, by decide, by decide, by decide⟩
theorem gq_o22y : gq0 (2, 22, 0) (2, 22) := (gq_2 rfl).mpr ⟨rfl, by decide, by decide, by decide⟩
/-- what isle leaves behind -/
def IslQ (m m1 : Mm) (v : Int) (R : Except (Int × Int) Wd) : Prop := match R with
  | .error e => v = -4 ∧ m1 2 2 = e.1 ∧ m1 2 3 = e.2 ∧ Fr [2001, 2002, 2003, 2004, 2005, 2006, 13000, 13001, 13002, 13003, 13004, 13005, 13006, 13007, 13008, 13009, 14999, 15999, 16999, 17999, 18999, 19999, 20999, 21999] m m1
  | .ok w => v = w 9 ∧ m1 2 2 = 0 ∧ m1 2 3 = -1 ∧ IsD m1 4 w ∧ IsWy m1 4 w ∧ WB w ∧ (∀ k : Nat, k < 12 → m1 23 k = 0) ∧ m1 22 2 = 0
theorem ty_lo : ∀ p : Nat, p < 30 → tyO p = p := by decide +kernel
/-- objects below 13 are not written -/
theorem fr_lo {W : List Nat} {m m' : Mm} (h : Fr W m m') (hW : W.all (fun c => decide (c < 2000 ∨ 22000 ≤ c)) = true) : ∀ p i : Nat, 2 ≤ p → p ≤ 21 → i < 900 → m' p i = m p i := by
  intro p i h1 h2 hi
  refine h p i ?_
  cases e : W.contains (tyO p * 1000 + (if (tyK (tyO p)).1 < 100 then i else 999)) with
  | false => rfl
  | true =>
    exfalso
    have h3 := of_decide_eq_true (List.all_eq_true.mp hW _ (List.contains_iff_mem.mp e))
    have h4 : tyO p = p := ty_lo p (by omega)
    rw [h4] at h3
    by_cases c : (tyK p).1 < 100
    · rw [if_pos c] at h3; omega
    · rw [if_neg c] at h3; omega
theorem y_3 {X : Nat → Int} (hT : TT T) (hg : Gam m) (hp : PinR m) (hcx : CXt X m) (hx : XOK X) : GX T 9 3 0 [(2, 1), (9, 0)] [] m (RI (fun v m1 => Gam m1 ∧ PinR m1 ∧ m1 2 1 = 0 ∧ IslQ m m1 v (pAll X 802 0 (fun _ => 0)))) := by
  refine gx_st (L' := [(2, 1), (9, 0)]) (S' := [(2, 1)]) r_3_0 rfl rfl rfl ?_
  refine gx_gf (x := 2) 2 r_3_1 (rfl) (ty_1 hT) ⟨by decide, rfl, by decide, by decide⟩ rfl (fun _ => by omega) (pin_at hp (t := 2) rfl (by decide)) ?_
  refine gx_st (L' := [(2, 1), (9, 0)]) (S' := [(2, 1), (2, 2)]) r_3_4 rfl rfl rfl ?_
  refine gx_gf (x := 13) 2 r_3_5 (rfl) (ty_1 hT) ⟨by decide, rfl, by decide, by decide⟩ rfl (fun _ => by omega) (pin_at hp (t := 13) rfl (by decide)) ?_
  refine gx_ci (nx := 11) (S2 := []) (gx_ai (y_299 hT hg hp hcx hx) (gx_hi (args := [(2, 2), (2, 13)]) (pu_223 hT) ⟨gq_o2c, gq_o13c, trivial⟩ hg rfl)) r_3_8 rfl rfl rfl rfl rfl (rcv_v rfl (ty_2 hT) (by decide) rfl (by decide)) rfl (by decide) rfl (fun x8 n8 q8 => ?_)
  show GX T 9 3 11 [(2, 1), (9, 0)] [(0, x8)] n8 (RI (fun v m1 => Gam m1 ∧ PinR m1 ∧ m1 2 1 = 0 ∧ IslQ m m1 v (pAll X 802 0 (fun _ => 0))))
  refine gx_st (L' := [(2, 1), (0, x8)]) (S' := []) r_3_11 rfl rfl rfl ?_
  refine gx_st (L' := [(2, 1), (0, x8)]) (S' := [(2, 1)]) r_3_12 rfl rfl rfl ?_
  refine gx_gf (x := 2) 2 r_3_13 (rfl) (ty_1 hT) ⟨by decide, rfl, by decide, by decide⟩ rfl (fun _ => by omega) (pin_at q8.1.2.1 (t := 2) rfl (by decide)) ?_
  refine gx_st (L' := [(2, 1), (0, x8)]) (S' := [(0, 0), (2, 2)]) r_3_16 rfl rfl rfl ?_
  obtain ⟨m1, e_m1⟩ : ∃ z, z = nu_up n8 2 1 0 := ⟨_, rfl⟩
  refine gx_pf (x := 0) 0 r_3_17 (rfl) (ty_2 hT) ⟨by decide, rfl, by decide, by decide⟩ rfl (fun z => absurd z (by decide)) (fun z => absurd z (by decide)) e_m1.symm ?_
  have g1 : Gam m1 := by rw [e_m1]; exact gam_f q8.1.1 rfl (by decide) (by decide)
  have p1 : PinR m1 := by rw [e_m1]; exact PinR_up q8.1.2.1 rfl
  have t1 : m1 2 1 = 0 := by rw [e_m1, nu_at]
  have u1 : ∀ o i : Nat, ¬ (o = 2 ∧ i = 1) → m1 o i = n8 o i := fun o i h => by rw [e_m1]; exact nb_1 h
  have zz := q8.1.2.2
  have zf := q8.2.2.2.2
  revert zz
  generalize pAll X 802 0 (fun _ => 0) = R
  intro zz
  cases R with
  | error e =>
    obtain ⟨y1, y2, y3⟩ : x8 = 0 ∧ n8 2 2 = e.1 ∧ n8 2 3 = e.2 := zz
    rw [y1]
    refine gx_st (L' := [(2, 1), (0, 0)]) (S' := [(0, 0)]) r_3_20 rfl rfl rfl ?_
    refine gx_i0 (P := ¬ 0 = 0) r_3_21 (rfl) (fun h21 => ?_) (fun h21 => ?_)
    · omega
    · have h21 := Decidable.not_not.mp h21
      refine gx_st (L' := [(2, 1), (0, 0)]) (S' := [(0, (-4))]) r_3_24 rfl rfl rfl ?_
      exact gx_rt r_3_26 rfl rfl ⟨_, rfl, g1, p1, t1, rfl, (u1 2 2 (by omega)).trans y2, (u1 2 3 (by omega)).trans y3, Fr_tr (Fr_sub zf (by decide)) (by rw [e_m1]; exact Fr_up rfl)⟩
  | ok w =>
    obtain ⟨y1, y2, y3, y4, y5, y6⟩ : x8 = 1 ∧ n8 2 2 = 0 ∧ n8 2 3 = -1 ∧ IsD n8 13 w ∧ WB w ∧ IsWy n8 13 w := zz
    rw [y1]
    have i13 : IsD m1 13 w := IsD_eq y4 (fun p i a1 a2 a3 => u1 p i (by omega))
    have w13 : IsWy m1 13 w := fun d hd a b ha hb => (u1 21 (7 * a + b) (by omega)).trans (y6 d hd a b ha hb)
    refine gx_st (L' := [(2, 1), (0, 1)]) (S' := [(0, 1)]) r_3_20 rfl rfl rfl ?_
    refine gx_i0 (P := ¬ 1 = 0) r_3_21 (rfl) (fun h21 => ?_) (fun h21 => ?_)
    · refine gx_st (L' := [(2, 1), (0, 1)]) (S' := [(2, 1)]) r_3_27 rfl rfl rfl ?_
      refine gx_gf (x := 4) 2 r_3_28 (rfl) (ty_1 hT) ⟨by decide, rfl, by decide, by decide⟩ rfl (fun _ => by omega) (pin_at p1 (t := 4) rfl (by decide)) ?_
      refine gx_st (L' := [(2, 1), (0, 1)]) (S' := [(2, 1), (2, 4)]) r_3_31 rfl rfl rfl ?_
      refine gx_gf (x := 13) 2 r_3_32 (rfl) (ty_1 hT) ⟨by decide, rfl, by decide, by decide⟩ rfl (fun _ => by omega) (pin_at p1 (t := 13) rfl (by decide)) ?_
      refine gx_cv (nx := 38) (S2 := []) (gx_av (z_254 (o := 4) (s := 13) (IsleT_of hT rfl) (IsleT_of hT rfl) (IsleR_of p1 rfl) (IsleR_of p1 rfl) (Or.inl (by decide))) (gx_hv (args := [(2, 4), (2, 13)]) (pu_232 hT) ⟨gq_o4y, gq_o13c, trivial⟩ g1 rfl)) r_3_35 rfl rfl rfl rfl rfl (rcv_v rfl (ty_4 hT) (by decide) rfl (by decide)) rfl (by decide) rfl (fun n35 q35 => ?_)
      obtain ⟨⟨v1, v2, v3⟩, vg, vf⟩ := q35
      have p35 : PinR n35 := PinR_fr vf (by decide) p1
      have i4 : IsD n35 4 w := isd_cp i13 v1 v2
      have w4 : IsWy n35 4 w := isw_cp y5 w13 v2.2.2.2.2.2.2.2
      refine gx_st (L' := [(2, 1), (0, 1)]) (S' := [(2, 1)]) r_3_38 rfl rfl rfl ?_
      refine gx_gf (x := 22) 2 r_3_39 (rfl) (ty_1 hT) ⟨by decide, rfl, by decide, by decide⟩ rfl (fun _ => by omega) (pin_at p35 (t := 22) rfl (by decide)) ?_
      refine gx_cv (nx := 45) (S2 := []) (gx_av (z_235 (o := 22) (ActsT_of hT rfl) (ActsR_of p35 rfl)) (gx_hv (args := [(2, 22)]) (pu_234 hT) ⟨gq_o22y, trivial⟩ vg rfl)) r_3_42 rfl rfl rfl rfl rfl (rcv_v rfl (ty_22 hT) (by decide) rfl (by decide)) rfl (by decide) rfl (fun n42 q42 => ?_)
      obtain ⟨⟨a1, a2, a3⟩, ag, af⟩ := q42
      have p42 : PinR n42 := PinR_fr af (by decide) p35
      refine gx_st (L' := [(2, 1), (0, 1)]) (S' := [(2, 1)]) r_3_45 rfl rfl rfl ?_
      refine gx_cv (nx := 49) (S2 := []) (gx_hv (args := [(2, 1)]) (pu_277 hT) ⟨gq_o1y, trivial⟩ ag rfl) r_3_46 rfl rfl rfl rfl rfl (rcv_v rfl (ty_1 hT) (by decide) rfl (by decide)) rfl (by decide) rfl (fun n46 q46 => ?_)
      obtain ⟨cg, cf⟩ := q46
      have p46 : PinR n46 := PinR_fr cf (by decide) p42
      have f4 : ∀ p i : Nat, 4 ≤ p → p ≤ 12 → i < 900 → n46 p i = n35 p i := fun p i b1 b2 b3 => (fr_lo cf (by decide) p i (by omega) (by omega) b3).trans (a3 p i (by omega) (by omega))
      have i4' : IsD n46 4 w := IsD_eq i4 (fun p i b1 b2 b3 => f4 p i b1 (by omega) b3)
      have bw := y5.1
      have w4' : IsWy n46 4 w := fun d hd a b ha hb => (f4 12 (7 * a + b) (by decide) (by decide) (by omega)).trans (w4 d hd a b ha hb)
      refine gx_st (L' := [(2, 1), (0, 1)]) (S' := [(2, 1)]) r_3_49 rfl rfl rfl ?_
      refine gx_gf (x := 4) 2 r_3_50 (rfl) (ty_1 hT) ⟨by decide, rfl, by decide, by decide⟩ rfl (fun _ => by omega) (pin_at p46 (t := 4) rfl (by decide)) ?_
      refine gx_gf (x := (w 9)) 0 r_3_53 (rfl) (ty_4 hT) ⟨by decide, rfl, by decide, by decide⟩ rfl (fun z => absurd z (by decide)) (i4'.1) ?_
      exact gx_rt r_3_56 rfl rfl ⟨_, rfl, cg, p46, (cf 2 1 rfl).trans ((a3 2 1 (by omega) (by decide)).trans ((v3 2 1 (by omega) (by omega)).trans t1)), rfl, (cf 2 2 rfl).trans ((a3 2 2 (by omega) (by decide)).trans ((v3 2 2 (by omega) (by omega)).trans ((u1 2 2 (by omega)).trans y2))), (cf 2 3 rfl).trans ((a3 2 3 (by omega) (by decide)).trans ((v3 2 3 (by omega) (by omega)).trans ((u1 2 3 (by omega)).trans y3))), i4', w4', y5, fun k hk => (cf 23 k rfl).trans (a1 k hk), (cf 22 2 rfl).trans a2⟩
    · have h21 := Decidable.not_not.mp h21
      omega
end COPY
