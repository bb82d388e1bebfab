/-! the parser of the reference: bytes, tokens -/
theorem r_102_0 : row 102 0 = some (.iload_n 1, 1, 0, 0, 0, 0) := rfl
theorem r_102_1 : row 102 1 = some (.aload_n 0, 2, 0, 0, 0, 0) := rfl
theorem r_102_2 : row 102 2 = some (.getfield 93, 5, 10, 7, 0, 6008) := rfl
theorem r_102_5 : row 102 5 = some (.if_icmp .ge 16, 8, 21, 0, 0, 0) := rfl
theorem r_102_8 : row 102 8 = some (.aload_n 0, 9, 0, 0, 0, 0) := rfl
theorem r_102_9 : row 102 9 = some (.getfield 20, 12, 10, 4, 2, 6005) := rfl
theorem r_102_12 : row 102 12 = some (.iload_n 1, 13, 0, 0, 0, 0) := rfl
theorem r_102_13 : row 102 13 = some (.baload, 14, 0, 0, 0, 0) := rfl
theorem r_102_14 : row 102 14 = some (.sipush 255, 17, 255, 0, 0, 0) := rfl
theorem r_102_17 : row 102 17 = some (.iand, 18, 0, 0, 0, 0) := rfl
theorem r_102_18 : row 102 18 = some (.goto 4, 21, 22, 0, 0, 0) := rfl
theorem r_102_21 : row 102 21 = some (.iconst (-1), 22, (-1), 0, 0, 0) := rfl
theorem r_102_22 : row 102 22 = some (.ireturn, 23, 0, 0, 0, 0) := rfl
theorem r_103_0 : row 103 0 = some (.aload_n 0, 1, 0, 0, 0, 0) := rfl
theorem r_103_1 : row 103 1 = some (.aload_n 0, 2, 0, 0, 0, 0) := rfl
theorem r_103_2 : row 103 2 = some (.getfield 96, 5, 10, 8, 0, 6009) := rfl
theorem r_103_5 : row 103 5 = some (.invokevirtual 99, 8, 102, 1, 0, 6158) := rfl
theorem r_103_8 : row 103 8 = some (.bipush 32, 10, 32, 0, 0, 0) := rfl
theorem r_103_10 : row 103 10 = some (.if_icmp .eq 16, 13, 26, 0, 0, 0) := rfl
theorem r_103_13 : row 103 13 = some (.aload_n 0, 14, 0, 0, 0, 0) := rfl
theorem r_103_14 : row 103 14 = some (.aload_n 0, 15, 0, 0, 0, 0) := rfl
theorem r_103_15 : row 103 15 = some (.getfield 96, 18, 10, 8, 0, 6009) := rfl
theorem r_103_18 : row 103 18 = some (.invokevirtual 99, 21, 102, 1, 0, 6158) := rfl
theorem r_103_21 : row 103 21 = some (.bipush 10, 23, 10, 0, 0, 0) := rfl
theorem r_103_23 : row 103 23 = some (.if_icmp .ne 16, 26, 39, 0, 0, 0) := rfl
theorem r_103_26 : row 103 26 = some (.aload_n 0, 27, 0, 0, 0, 0) := rfl
theorem r_103_27 : row 103 27 = some (.dup, 28, 0, 0, 0, 0) := rfl
theorem r_103_28 : row 103 28 = some (.getfield 96, 31, 10, 8, 0, 6009) := rfl
theorem r_103_31 : row 103 31 = some (.iconst 1, 32, 1, 0, 0, 0) := rfl
theorem r_103_32 : row 103 32 = some (.iadd, 33, 0, 0, 0, 0) := rfl
theorem r_103_33 : row 103 33 = some (.putfield 96, 36, 10, 8, 0, 6009) := rfl
theorem r_103_36 : row 103 36 = some (.goto (-36), 39, 0, 0, 0, 0) := rfl
theorem r_103_39 : row 103 39 = some (.aload_n 0, 40, 0, 0, 0, 0) := rfl
theorem r_103_40 : row 103 40 = some (.aload_n 0, 41, 0, 0, 0, 0) := rfl
theorem r_103_41 : row 103 41 = some (.getfield 96, 44, 10, 8, 0, 6009) := rfl
theorem r_103_44 : row 103 44 = some (.putfield 103, 47, 10, 9, 0, 6010) := rfl
theorem r_103_47 : row 103 47 = some (.aload_n 0, 48, 0, 0, 0, 0) := rfl
theorem r_103_48 : row 103 48 = some (.aload_n 0, 49, 0, 0, 0, 0) := rfl
theorem r_103_49 : row 103 49 = some (.getfield 96, 52, 10, 8, 0, 6009) := rfl
theorem r_103_52 : row 103 52 = some (.invokevirtual 99, 55, 102, 1, 0, 6158) := rfl
theorem r_103_55 : row 103 55 = some (.istore_n 1, 56, 0, 0, 0, 0) := rfl
theorem r_103_56 : row 103 56 = some (.iload_n 1, 57, 0, 0, 0, 0) := rfl
theorem r_103_57 : row 103 57 = some (.iconst (-1), 58, (-1), 0, 0, 0) := rfl
theorem r_103_58 : row 103 58 = some (.if_icmp .ne 11, 61, 69, 0, 0, 0) := rfl
theorem r_103_61 : row 103 61 = some (.aload_n 0, 62, 0, 0, 0, 0) := rfl
theorem r_103_62 : row 103 62 = some (.iconst 0, 63, 0, 0, 0, 0) := rfl
theorem r_103_63 : row 103 63 = some (.putfield 106, 66, 10, 10, 0, 6011) := rfl
theorem r_103_66 : row 103 66 = some (.goto 173, 69, 239, 0, 0, 0) := rfl
theorem r_103_69 : row 103 69 = some (.iload_n 1, 70, 0, 0, 0, 0) := rfl
theorem r_103_70 : row 103 70 = some (.i2l, 71, 0, 0, 0, 0) := rfl
theorem r_103_71 : row 103 71 = some (.ldc2_w 109, 74, 97, 0, 0, 6162) := rfl
theorem r_103_74 : row 103 74 = some (.ldc2_w 111, 77, 122, 0, 0, 6163) := rfl
theorem r_103_77 : row 103 77 = some (.invokestatic 82, 80, 86, 3, 0, 6131) := rfl
theorem r_103_80 : row 103 80 = some (.ifCond .eq 45, 83, 125, 0, 0, 0) := rfl
theorem r_103_83 : row 103 83 = some (.aload_n 0, 84, 0, 0, 0, 0) := rfl
theorem r_103_84 : row 103 84 = some (.aload_n 0, 85, 0, 0, 0, 0) := rfl
theorem r_103_85 : row 103 85 = some (.getfield 96, 88, 10, 8, 0, 6009) := rfl
theorem r_103_88 : row 103 88 = some (.invokevirtual 99, 91, 102, 1, 0, 6158) := rfl
theorem r_103_91 : row 103 91 = some (.i2l, 92, 0, 0, 0, 0) := rfl
theorem r_103_92 : row 103 92 = some (.ldc2_w 109, 95, 97, 0, 0, 6162) := rfl
theorem r_103_95 : row 103 95 = some (.ldc2_w 111, 98, 122, 0, 0, 6163) := rfl
theorem r_103_98 : row 103 98 = some (.invokestatic 82, 101, 86, 3, 0, 6131) := rfl
theorem r_103_101 : row 103 101 = some (.ifCond .eq 16, 104, 117, 0, 0, 0) := rfl
theorem r_103_104 : row 103 104 = some (.aload_n 0, 105, 0, 0, 0, 0) := rfl
theorem r_103_105 : row 103 105 = some (.dup, 106, 0, 0, 0, 0) := rfl
theorem r_103_106 : row 103 106 = some (.getfield 96, 109, 10, 8, 0, 6009) := rfl
theorem r_103_109 : row 103 109 = some (.iconst 1, 110, 1, 0, 0, 0) := rfl
theorem r_103_110 : row 103 110 = some (.iadd, 111, 0, 0, 0, 0) := rfl
theorem r_103_111 : row 103 111 = some (.putfield 96, 114, 10, 8, 0, 6009) := rfl
theorem r_103_114 : row 103 114 = some (.goto (-31), 117, 83, 0, 0, 0) := rfl
theorem r_103_117 : row 103 117 = some (.aload_n 0, 118, 0, 0, 0, 0) := rfl
theorem r_103_118 : row 103 118 = some (.iconst 1, 119, 1, 0, 0, 0) := rfl
theorem r_103_119 : row 103 119 = some (.putfield 106, 122, 10, 10, 0, 6011) := rfl
theorem r_103_122 : row 103 122 = some (.goto 117, 125, 239, 0, 0, 0) := rfl
theorem r_103_125 : row 103 125 = some (.iload_n 1, 126, 0, 0, 0, 0) := rfl
theorem r_103_126 : row 103 126 = some (.i2l, 127, 0, 0, 0, 0) := rfl
theorem r_103_127 : row 103 127 = some (.ldc2_w 113, 130, 48, 0, 0, 6164) := rfl
theorem r_103_130 : row 103 130 = some (.ldc2_w 115, 133, 57, 0, 0, 6165) := rfl
theorem r_103_133 : row 103 133 = some (.invokestatic 82, 136, 86, 3, 0, 6131) := rfl
theorem r_103_136 : row 103 136 = some (.ifCond .eq 78, 139, 214, 0, 0, 0) := rfl
theorem r_103_139 : row 103 139 = some (.aload_n 0, 140, 0, 0, 0, 0) := rfl
theorem r_103_140 : row 103 140 = some (.iconst 0, 141, 0, 0, 0, 0) := rfl
theorem r_103_141 : row 103 141 = some (.putfield 117, 144, 10, 11, 0, 6012) := rfl
theorem r_103_144 : row 103 144 = some (.aload_n 0, 145, 0, 0, 0, 0) := rfl
theorem r_103_145 : row 103 145 = some (.aload_n 0, 146, 0, 0, 0, 0) := rfl
theorem r_103_146 : row 103 146 = some (.getfield 96, 149, 10, 8, 0, 6009) := rfl
theorem r_103_149 : row 103 149 = some (.invokevirtual 99, 152, 102, 1, 0, 6158) := rfl
theorem r_103_152 : row 103 152 = some (.i2l, 153, 0, 0, 0, 0) := rfl
theorem r_103_153 : row 103 153 = some (.ldc2_w 113, 156, 48, 0, 0, 6164) := rfl
theorem r_103_156 : row 103 156 = some (.ldc2_w 115, 159, 57, 0, 0, 6165) := rfl
theorem r_103_159 : row 103 159 = some (.invokestatic 82, 162, 86, 3, 0, 6131) := rfl
theorem r_103_162 : row 103 162 = some (.ifCond .eq 44, 165, 206, 0, 0, 0) := rfl
theorem r_103_165 : row 103 165 = some (.aload_n 0, 166, 0, 0, 0, 0) := rfl
theorem r_103_166 : row 103 166 = some (.ldc 120, 168, 99999, 0, 0, 6166) := rfl
theorem r_103_168 : row 103 168 = some (.bipush 10, 170, 10, 0, 0, 0) := rfl
theorem r_103_170 : row 103 170 = some (.aload_n 0, 171, 0, 0, 0, 0) := rfl
theorem r_103_171 : row 103 171 = some (.getfield 117, 174, 10, 11, 0, 6012) := rfl
theorem r_103_174 : row 103 174 = some (.imul, 175, 0, 0, 0, 0) := rfl
theorem r_103_175 : row 103 175 = some (.aload_n 0, 176, 0, 0, 0, 0) := rfl
theorem r_103_176 : row 103 176 = some (.aload_n 0, 177, 0, 0, 0, 0) := rfl
theorem r_103_177 : row 103 177 = some (.getfield 96, 180, 10, 8, 0, 6009) := rfl
theorem r_103_180 : row 103 180 = some (.invokevirtual 99, 183, 102, 1, 0, 6158) := rfl
theorem r_103_183 : row 103 183 = some (.iadd, 184, 0, 0, 0, 0) := rfl
theorem r_103_184 : row 103 184 = some (.bipush 48, 186, 48, 0, 0, 0) := rfl
theorem r_103_186 : row 103 186 = some (.isub, 187, 0, 0, 0, 0) := rfl
theorem r_103_187 : row 103 187 = some (.invokestatic 121, 190, (-4), 2, 0, 6167) := rfl
theorem r_103_190 : row 103 190 = some (.putfield 117, 193, 10, 11, 0, 6012) := rfl
theorem r_103_193 : row 103 193 = some (.aload_n 0, 194, 0, 0, 0, 0) := rfl
theorem r_103_194 : row 103 194 = some (.dup, 195, 0, 0, 0, 0) := rfl
theorem r_103_195 : row 103 195 = some (.getfield 96, 198, 10, 8, 0, 6009) := rfl
theorem r_103_198 : row 103 198 = some (.iconst 1, 199, 1, 0, 0, 0) := rfl
theorem r_103_199 : row 103 199 = some (.iadd, 200, 0, 0, 0, 0) := rfl
theorem r_103_200 : row 103 200 = some (.putfield 96, 203, 10, 8, 0, 6009) := rfl
theorem r_103_203 : row 103 203 = some (.goto (-59), 206, 144, 0, 0, 0) := rfl
theorem r_103_206 : row 103 206 = some (.aload_n 0, 207, 0, 0, 0, 0) := rfl
theorem r_103_207 : row 103 207 = some (.iconst 2, 208, 2, 0, 0, 0) := rfl
theorem r_103_208 : row 103 208 = some (.putfield 106, 211, 10, 10, 0, 6011) := rfl
theorem r_103_211 : row 103 211 = some (.goto 28, 214, 239, 0, 0, 0) := rfl
theorem r_103_214 : row 103 214 = some (.aload_n 0, 215, 0, 0, 0, 0) := rfl
theorem r_103_215 : row 103 215 = some (.iload_n 1, 216, 0, 0, 0, 0) := rfl
theorem r_103_216 : row 103 216 = some (.bipush 59, 218, 59, 0, 0, 0) := rfl
theorem r_103_218 : row 103 218 = some (.if_icmp .ne 7, 221, 225, 0, 0, 0) := rfl
theorem r_103_221 : row 103 221 = some (.iconst 3, 222, 3, 0, 0, 0) := rfl
theorem r_103_222 : row 103 222 = some (.goto 4, 225, 226, 0, 0, 0) := rfl
theorem r_103_225 : row 103 225 = some (.iconst 4, 226, 4, 0, 0, 0) := rfl
theorem r_103_226 : row 103 226 = some (.putfield 106, 229, 10, 10, 0, 6011) := rfl
theorem r_103_229 : row 103 229 = some (.aload_n 0, 230, 0, 0, 0, 0) := rfl
theorem r_103_230 : row 103 230 = some (.dup, 231, 0, 0, 0, 0) := rfl
theorem r_103_231 : row 103 231 = some (.getfield 96, 234, 10, 8, 0, 6009) := rfl
theorem r_103_234 : row 103 234 = some (.iconst 1, 235, 1, 0, 0, 0) := rfl
theorem r_103_235 : row 103 235 = some (.iadd, 236, 0, 0, 0, 0) := rfl
theorem r_103_236 : row 103 236 = some (.putfield 96, 239, 10, 8, 0, 6009) := rfl
theorem r_103_239 : row 103 239 = some (.return_, 240, 0, 0, 0, 0) := rfl
theorem r_105_0 : row 105 0 = some (.aload_n 0, 1, 0, 0, 0, 0) := rfl
theorem r_105_1 : row 105 1 = some (.invokevirtual 130, 4, 104, 0, 0, 6168) := rfl
theorem r_105_4 : row 105 4 = some (.ifCond .ne 4, 7, 8, 0, 0, 0) := rfl
theorem r_105_7 : row 105 7 = some (.return_, 8, 0, 0, 0, 0) := rfl
theorem r_105_8 : row 105 8 = some (.aload_n 0, 9, 0, 0, 0, 0) := rfl
theorem r_105_9 : row 105 9 = some (.iload_n 1, 10, 0, 0, 0, 0) := rfl
theorem r_105_10 : row 105 10 = some (.putfield 127, 13, 10, 12, 0, 6013) := rfl
theorem r_105_13 : row 105 13 = some (.aload_n 0, 14, 0, 0, 0, 0) := rfl
theorem r_105_14 : row 105 14 = some (.aload_n 0, 15, 0, 0, 0, 0) := rfl
theorem r_105_15 : row 105 15 = some (.getfield 103, 18, 10, 9, 0, 6010) := rfl
theorem r_105_18 : row 105 18 = some (.putfield 27, 21, 10, 13, 0, 6014) := rfl
theorem r_105_21 : row 105 21 = some (.return_, 22, 0, 0, 0, 0) := rfl
/-- the byte at a place, or none -/
def seeV (m : Mm) (k : Nat) : Int := if (k : Int) < m 192 7 then iand (m 196 k) 255 else -1
theorem seeV_eq {m m' : Mm} {k : Nat} (h : Fr [90008, 90009, 90010, 90011] m m') : seeV m' k = seeV m k := by
  unfold seeV
  rw [h 192 7 rfl, Fr_cell (o := 196) h (by decide) (by decide) k]
theorem seeV_in {m : Mm} {k : Nat} : -2147483648 ≤ seeV m k ∧ seeV m k ≤ 2147483647 := by
  unfold seeV
  split
  · exact i32_in _
  · exact ⟨by decide, by decide⟩
theorem seeV_lt {m : Mm} {k : Nat} (h : ¬ seeV m k = -1) : (k : Int) < m 192 7 := by
  unfold seeV at h
  split at h
  · assumption
  · exact absurd rfl h
def TK (m : Mm) : Prop := m 192 9 ≤ m 192 8 ∧ (m 192 10 = 0 ∨ m 192 9 < m 192 8)
def AVn (m m' : Mm) : Prop := Gam m' ∧ Fr [90008, 90009, 90010, 90011] m m' ∧ m 192 8 ≤ m' 192 9 ∧ m' 192 9 ≤ m' 192 8 ∧ (m' 192 10 = 0 ∨ m' 192 9 < m' 192 8)
def ER (m m' : Mm) : Prop := Gam m' ∧ Fr [90012, 90013] m m' ∧ ¬ m' 192 12 = 0
def PG (m m' : Mm) : Prop := Gam m' ∧ Fr [90008, 90009, 90010, 90011, 90012, 90013] m m' ∧ TK m' ∧ m 192 9 ≤ m' 192 9 ∧ (m' 192 12 = 0 → m 192 12 = 0 ∧ (m 192 10 = 0 ∨ m 192 9 < m' 192 9))
theorem PG_av {m m' : Mm} (ht : TK m) (hg : m 192 12 = 0) (h : AVn m m') : PG m m' := by
  obtain ⟨h1, h2, h3, h4, h5⟩ := h
  unfold TK at ht
  refine ⟨h1, Fr_sub h2 (by decide), ⟨h4, h5⟩, by omega, fun _ => ⟨hg, by omega⟩⟩
theorem PG_er {m m' : Mm} (ht : TK m) (h : ER m m') : PG m m' := by
  obtain ⟨h1, h2, h3⟩ := h
  refine ⟨h1, Fr_sub h2 (by decide), ?_, ?_, fun z => absurd z h3⟩
  · unfold TK at *; rw [h2 192 8 rfl, h2 192 9 rfl, h2 192 10 rfl]; exact ht
  · rw [h2 192 9 rfl]; exact Int.le_refl _
theorem PG_tr {a b c : Mm} (h1 : PG a b) (h2 : PG b c) : PG a c := by
  obtain ⟨a1, a2, a3, a4, a5⟩ := h1
  obtain ⟨b1, b2, b3, b4, b5⟩ := h2
  refine ⟨b1, Fr_tr a2 b2, b3, by omega, fun z => ?_⟩
  obtain ⟨c1, c2⟩ := b5 z
  obtain ⟨d1, d2⟩ := a5 c1
  exact ⟨d1, by omega⟩
theorem ER_rf {m : Mm} (hm : Gam m) (h : ¬ m 192 12 = 0) : ER m m := ⟨hm, Fr_rf, h⟩
theorem ER_tr {a b c : Mm} (h1 : Fr [90012, 90013] a b) (h2 : ER b c) : ER a c := ⟨h2.1, Fr_tr h1 h2.2.1, h2.2.2⟩
theorem PG_f {m m' : Mm} (h : PG m m') (i : Nat) : m' 198 i = m 198 i := Fr_cell (o := 198) h.2.1 (by decide) (by decide) i
section PARS
variable {T : List Kd}
theorem x_102 {m : Mm} (hT : TT T) (hm : Gam m) (k : Nat) : GX T 0 102 0 [(2, 192), (0, (k : Int))] [] m (RI (fun v m1 => v = seeV m k ∧ m1 = m)) := by
  have b7_ := gb_192_7 hm
  refine gx_st (L' := [(2, 192), (0, (k : Int))]) (S' := [(0, (k : Int))]) r_102_0 rfl rfl rfl ?_
  refine gx_st (L' := [(2, 192), (0, (k : Int))]) (S' := [(2, 192), (0, (k : Int))]) r_102_1 rfl rfl rfl ?_
  refine gx_gf (x := (m 192 7)) 0 r_102_2 rfl (tk_192 hT) ⟨by decide, rfl, by decide, by decide⟩ rfl (fun z => absurd z (by decide)) (rfl) ?_
  refine gx_ic (P := (m 192 7) ≤ (k : Int)) r_102_5 (rfl) (fun h5 => ?_) (fun h5 => ?_)
  · refine gx_st (L' := [(2, 192), (0, (k : Int))]) (S' := [(0, (-1))]) r_102_21 rfl rfl rfl ?_
    exact gx_rt r_102_22 rfl rfl ⟨_, rfl, by unfold seeV; rw [if_neg (by omega)], rfl⟩
  · refine gx_st (L' := [(2, 192), (0, (k : Int))]) (S' := [(2, 192)]) r_102_8 rfl rfl rfl ?_
    refine gx_gf (x := 196) 2 r_102_9 rfl (tk_192 hT) ⟨by decide, rfl, by decide, by decide⟩ rfl (fun _ => by decide) (pr_192_4 hm) ?_
    refine gx_st (L' := [(2, 192), (0, (k : Int))]) (S' := [(0, (k : Int)), (2, 196)]) r_102_12 rfl rfl rfl ?_
    refine gx_ba (n := k) (x := (m 196 k)) r_102_13 rfl (by decide) (tk_196 hT) (by omega) ⟨Or.inl rfl, by omega⟩ (rfl) ?_
    refine gx_st (L' := [(2, 192), (0, (k : Int))]) (S' := [(0, 255), (0, (m 196 k))]) r_102_14 rfl rfl rfl ?_
    refine gx_st (L' := [(2, 192), (0, (k : Int))]) (S' := [(0, (iand (m 196 k) 255))]) r_102_17 rfl rfl rfl ?_
    refine gx_st (L' := [(2, 192), (0, (k : Int))]) (S' := [(0, (iand (m 196 k) 255))]) r_102_18 rfl rfl rfl ?_
    exact gx_rt r_102_22 rfl rfl ⟨_, rfl, by unfold seeV; rw [if_pos (by omega)], rfl⟩
theorem adv_a {m0 : Mm} {Q : AV → Mm → Prop} (hT : TT T) (hout : ∀ (a : Nat) (m : Mm), Gam m → Fr [90008, 90009, 90010, 90011] m0 m → m 192 8 = (a : Int) → m0 192 8 ≤ (a : Int) → GX T 1 103 39 [(2, 192), (9, 0)] [] m Q) : ∀ (N a : Nat) (m : Mm), 801 - a < N → Gam m → Fr [90008, 90009, 90010, 90011] m0 m → m 192 8 = (a : Int) → m0 192 8 ≤ (a : Int) → GX T 1 103 0 [(2, 192), (9, 0)] [] m Q := by
  intro N
  induction N with
  | zero => intro a m hN; exact absurd hN (Nat.not_lt_zero _)
  | succ N ih =>
    intro a m hN hm hf ha h0
    have b7_ := gb_192_7 hm
    refine gx_st (L' := [(2, 192), (9, 0)]) (S' := [(2, 192)]) r_103_0 rfl rfl rfl ?_
    refine gx_st (L' := [(2, 192), (9, 0)]) (S' := [(2, 192), (2, 192)]) r_103_1 rfl rfl rfl ?_
    refine gx_gf (x := (a : Int)) 0 r_103_2 rfl (tk_192 hT) ⟨by decide, rfl, by decide, by decide⟩ rfl (fun z => absurd z (by decide)) (ha) ?_
    refine gx_ci (nx := 8) (S2 := []) (x_102 hT hm (a)) r_103_5 rfl rfl rfl rfl rfl (rcv_v rfl (tk_192 hT) (by decide) rfl (by decide)) rfl (by decide) rfl (fun x5 n5 q5 => ?_)
    obtain ⟨e_x5, z_x5⟩ := q5
    obtain rfl := z_x5.symm
    have b_x5 : -2147483648 ≤ x5 ∧ x5 ≤ 2147483647 := by rw [e_x5]; exact seeV_in
    show GX T 1 103 8 [(2, 192), (9, 0)] [(0, x5)] m Q
    refine gx_st (L' := [(2, 192), (9, 0)]) (S' := [(0, 32), (0, x5)]) r_103_8 rfl rfl rfl ?_
    refine gx_ic (P := x5 = 32) r_103_10 (rfl) (fun h10 => ?_) (fun h10 => ?_)
    · have lt_ : (a : Int) < m 192 7 := seeV_lt (by rw [← e_x5]; omega)
      refine gx_st (L' := [(2, 192), (9, 0)]) (S' := [(2, 192)]) r_103_26 rfl rfl rfl ?_
      refine gx_st (L' := [(2, 192), (9, 0)]) (S' := [(2, 192), (2, 192)]) r_103_27 rfl rfl rfl ?_
      refine gx_gf (x := (a : Int)) 0 r_103_28 rfl (tk_192 hT) ⟨by decide, rfl, by decide, by decide⟩ rfl (fun z => absurd z (by decide)) (ha) ?_
      refine gx_st (L' := [(2, 192), (9, 0)]) (S' := [(0, 1), (0, (a : Int)), (2, 192)]) r_103_31 rfl rfl rfl ?_
      refine gx_ar (L' := [(2, 192), (9, 0)]) (S' := [(2, 192)]) (t := 0) (e := w32 ((a : Int) + 1)) (z := (a : Int) + 1) r_103_32 rfl rfl rfl (w32_eq (by omega) (by omega) (by omega)) ?_
      obtain ⟨m1, e_m1⟩ : ∃ z, z = nu_up m 192 8 ((a : Int) + 1) := ⟨_, rfl⟩
      have h_m1 : Gam m1 := by rw [e_m1]; exact gu_192_8 hm (by omega) (by omega)
      have f_m1 : Fr [90008, 90009, 90010, 90011] m0 m1 := Fr_tr hf (by rw [e_m1]; exact Fr_up rfl)
      refine gx_pf (x := (a : Int) + 1) 0 r_103_33 rfl (tk_192 hT) ⟨by decide, rfl, by decide, by decide⟩ rfl (fun z => absurd z (by decide)) (fun z => absurd z (by decide)) e_m1.symm ?_
      refine gx_st (L' := [(2, 192), (9, 0)]) (S' := []) r_103_36 rfl rfl rfl ?_
      exact ih (a + 1) m1 (by omega) h_m1 f_m1 (by rw [e_m1, nu_at]; rfl) (by omega)
    · refine gx_st (L' := [(2, 192), (9, 0)]) (S' := [(2, 192)]) r_103_13 rfl rfl rfl ?_
      refine gx_st (L' := [(2, 192), (9, 0)]) (S' := [(2, 192), (2, 192)]) r_103_14 rfl rfl rfl ?_
      refine gx_gf (x := (a : Int)) 0 r_103_15 rfl (tk_192 hT) ⟨by decide, rfl, by decide, by decide⟩ rfl (fun z => absurd z (by decide)) (ha) ?_
      refine gx_ci (nx := 21) (S2 := []) (x_102 hT hm (a)) r_103_18 rfl rfl rfl rfl rfl (rcv_v rfl (tk_192 hT) (by decide) rfl (by decide)) rfl (by decide) rfl (fun x18 n18 q18 => ?_)
      obtain ⟨e_x18, z_x18⟩ := q18
      obtain rfl := z_x18.symm
      have b_x18 : -2147483648 ≤ x18 ∧ x18 ≤ 2147483647 := by rw [e_x18]; exact seeV_in
      show GX T 1 103 21 [(2, 192), (9, 0)] [(0, x18)] m Q
      refine gx_st (L' := [(2, 192), (9, 0)]) (S' := [(0, 10), (0, x18)]) r_103_21 rfl rfl rfl ?_
      refine gx_ic (P := ¬ x18 = 10) r_103_23 (rfl) (fun h23 => ?_) (fun h23 => ?_)
      · exact hout a m hm hf ha h0
      · have h23 := Decidable.not_not.mp h23
        have lt_ : (a : Int) < m 192 7 := seeV_lt (by rw [← e_x18]; omega)
        refine gx_st (L' := [(2, 192), (9, 0)]) (S' := [(2, 192)]) r_103_26 rfl rfl rfl ?_
        refine gx_st (L' := [(2, 192), (9, 0)]) (S' := [(2, 192), (2, 192)]) r_103_27 rfl rfl rfl ?_
        refine gx_gf (x := (a : Int)) 0 r_103_28 rfl (tk_192 hT) ⟨by decide, rfl, by decide, by decide⟩ rfl (fun z => absurd z (by decide)) (ha) ?_
        refine gx_st (L' := [(2, 192), (9, 0)]) (S' := [(0, 1), (0, (a : Int)), (2, 192)]) r_103_31 rfl rfl rfl ?_
        refine gx_ar (L' := [(2, 192), (9, 0)]) (S' := [(2, 192)]) (t := 0) (e := w32 ((a : Int) + 1)) (z := (a : Int) + 1) r_103_32 rfl rfl rfl (w32_eq (by omega) (by omega) (by omega)) ?_
        obtain ⟨m2, e_m2⟩ : ∃ z, z = nu_up m 192 8 ((a : Int) + 1) := ⟨_, rfl⟩
        have h_m2 : Gam m2 := by rw [e_m2]; exact gu_192_8 hm (by omega) (by omega)
        have f_m2 : Fr [90008, 90009, 90010, 90011] m0 m2 := Fr_tr hf (by rw [e_m2]; exact Fr_up rfl)
        refine gx_pf (x := (a : Int) + 1) 0 r_103_33 rfl (tk_192 hT) ⟨by decide, rfl, by decide, by decide⟩ rfl (fun z => absurd z (by decide)) (fun z => absurd z (by decide)) e_m2.symm ?_
        refine gx_st (L' := [(2, 192), (9, 0)]) (S' := []) r_103_36 rfl rfl rfl ?_
        exact ih (a + 1) m2 (by omega) h_m2 f_m2 (by rw [e_m2, nu_at]; rfl) (by omega)
theorem adv_w {m0 : Mm} {Q : AV → Mm → Prop} {a : Nat} {c : Int} (hT : TT T) (hout : ∀ (b : Nat) (m : Mm), Gam m → Fr [90008, 90009, 90010, 90011] m0 m → m 192 8 = (b : Int) → a < b → m 192 9 = (a : Int) → GX T 1 103 117 [(2, 192), (0, c)] [] m Q) : ∀ (N b : Nat) (m : Mm), 801 - b < N → Gam m → Fr [90008, 90009, 90010, 90011] m0 m → m 192 8 = (b : Int) → (a < b ∨ (a = b ∧ 97 ≤ seeV m b ∧ seeV m b ≤ 122)) → m 192 9 = (a : Int) → GX T 1 103 83 [(2, 192), (0, c)] [] m Q := by
  intro N
  induction N with
  | zero => intro b m hN; exact absurd hN (Nat.not_lt_zero _)
  | succ N ih =>
    intro b m hN hm hf hb hab h9
    have b7_ := gb_192_7 hm
    refine gx_st (L' := [(2, 192), (0, c)]) (S' := [(2, 192)]) r_103_83 rfl rfl rfl ?_
    refine gx_st (L' := [(2, 192), (0, c)]) (S' := [(2, 192), (2, 192)]) r_103_84 rfl rfl rfl ?_
    refine gx_gf (x := (b : Int)) 0 r_103_85 rfl (tk_192 hT) ⟨by decide, rfl, by decide, by decide⟩ rfl (fun z => absurd z (by decide)) (hb) ?_
    refine gx_ci (nx := 91) (S2 := []) (x_102 hT hm (b)) r_103_88 rfl rfl rfl rfl rfl (rcv_v rfl (tk_192 hT) (by decide) rfl (by decide)) rfl (by decide) rfl (fun x88 n88 q88 => ?_)
    obtain ⟨e_x88, z_x88⟩ := q88
    obtain rfl := z_x88.symm
    have b_x88 : -2147483648 ≤ x88 ∧ x88 ≤ 2147483647 := by rw [e_x88]; exact seeV_in
    show GX T 1 103 91 [(2, 192), (0, c)] [(0, x88)] m Q
    refine gx_st (L' := [(2, 192), (0, c)]) (S' := [(1, x88)]) r_103_91 rfl rfl rfl ?_
    refine gx_st (L' := [(2, 192), (0, c)]) (S' := [(1, 97), (1, x88)]) r_103_92 rfl rfl rfl ?_
    refine gx_st (L' := [(2, 192), (0, c)]) (S' := [(1, 122), (1, 97), (1, x88)]) r_103_95 rfl rfl rfl ?_
    refine gx_ci (nx := 101) (S2 := []) (x_86 x88 97 122) r_103_98 rfl rfl rfl rfl rfl rfl rfl (by decide) rfl (fun x98 n98 q98 => ?_)
    obtain rfl := q98.1.symm
    obtain rfl := q98.2.symm
    show GX T 1 103 101 [(2, 192), (0, c)] [(0, (if 97 ≤ x88 ∧ x88 ≤ 122 then 1 else 0))] m Q
    refine gx_i0 (P := ¬ (97 ≤ x88 ∧ x88 ≤ 122)) r_103_101 (b01_eq) (fun h101 => ?_) (fun h101 => ?_)
    · refine hout b m hm hf hb ?_ h9
      rcases hab with z | z
      · exact z
      · exact absurd (by omega) h101
    · have h101 := Decidable.not_not.mp h101
      have lt_ : (b : Int) < m 192 7 := seeV_lt (by rw [← e_x88]; omega)
      refine gx_st (L' := [(2, 192), (0, c)]) (S' := [(2, 192)]) r_103_104 rfl rfl rfl ?_
      refine gx_st (L' := [(2, 192), (0, c)]) (S' := [(2, 192), (2, 192)]) r_103_105 rfl rfl rfl ?_
      refine gx_gf (x := (b : Int)) 0 r_103_106 rfl (tk_192 hT) ⟨by decide, rfl, by decide, by decide⟩ rfl (fun z => absurd z (by decide)) (hb) ?_
      refine gx_st (L' := [(2, 192), (0, c)]) (S' := [(0, 1), (0, (b : Int)), (2, 192)]) r_103_109 rfl rfl rfl ?_
      refine gx_ar (L' := [(2, 192), (0, c)]) (S' := [(2, 192)]) (t := 0) (e := w32 ((b : Int) + 1)) (z := (b : Int) + 1) r_103_110 rfl rfl rfl (w32_eq (by omega) (by omega) (by omega)) ?_
      obtain ⟨m1, e_m1⟩ : ∃ z, z = nu_up m 192 8 ((b : Int) + 1) := ⟨_, rfl⟩
      have h_m1 : Gam m1 := by rw [e_m1]; exact gu_192_8 hm (by omega) (by omega)
      have f_m1 : Fr [90008, 90009, 90010, 90011] m0 m1 := Fr_tr hf (by rw [e_m1]; exact Fr_up rfl)
      refine gx_pf (x := (b : Int) + 1) 0 r_103_111 rfl (tk_192 hT) ⟨by decide, rfl, by decide, by decide⟩ rfl (fun z => absurd z (by decide)) (fun z => absurd z (by decide)) e_m1.symm ?_
      refine gx_st (L' := [(2, 192), (0, c)]) (S' := []) r_103_114 rfl rfl rfl ?_
      exact ih (b + 1) m1 (by omega) h_m1 f_m1 (by rw [e_m1, nu_at]; rfl) (Or.inl (by omega)) (by rw [e_m1, nu_ne (by decide)]; exact h9)
theorem adv_n {m0 : Mm} {Q : AV → Mm → Prop} {a : Nat} {c : Int} (hT : TT T) (hout : ∀ (b : Nat) (m : Mm), Gam m → Fr [90008, 90009, 90010, 90011] m0 m → m 192 8 = (b : Int) → a < b → m 192 9 = (a : Int) → GX T 1 103 206 [(2, 192), (0, c)] [] m Q) : ∀ (N b : Nat) (m : Mm), 801 - b < N → Gam m → Fr [90008, 90009, 90010, 90011] m0 m → m 192 8 = (b : Int) → (a < b ∨ (a = b ∧ 48 ≤ seeV m b ∧ seeV m b ≤ 57)) → m 192 9 = (a : Int) → 0 ≤ m 192 11 → m 192 11 ≤ 99999 → GX T 1 103 144 [(2, 192), (0, c)] [] m Q := by
  intro N
  induction N with
  | zero => intro b m hN; exact absurd hN (Nat.not_lt_zero _)
  | succ N ih =>
    intro b m hN hm hf hb hab h9 hv1 hv2
    have b7_ := gb_192_7 hm
    refine gx_st (L' := [(2, 192), (0, c)]) (S' := [(2, 192)]) r_103_144 rfl rfl rfl ?_
    refine gx_st (L' := [(2, 192), (0, c)]) (S' := [(2, 192), (2, 192)]) r_103_145 rfl rfl rfl ?_
    refine gx_gf (x := (b : Int)) 0 r_103_146 rfl (tk_192 hT) ⟨by decide, rfl, by decide, by decide⟩ rfl (fun z => absurd z (by decide)) (hb) ?_
    refine gx_ci (nx := 152) (S2 := []) (x_102 hT hm (b)) r_103_149 rfl rfl rfl rfl rfl (rcv_v rfl (tk_192 hT) (by decide) rfl (by decide)) rfl (by decide) rfl (fun x149 n149 q149 => ?_)
    obtain ⟨e_x149, z_x149⟩ := q149
    obtain rfl := z_x149.symm
    have b_x149 : -2147483648 ≤ x149 ∧ x149 ≤ 2147483647 := by rw [e_x149]; exact seeV_in
    show GX T 1 103 152 [(2, 192), (0, c)] [(0, x149)] m Q
    refine gx_st (L' := [(2, 192), (0, c)]) (S' := [(1, x149)]) r_103_152 rfl rfl rfl ?_
    refine gx_st (L' := [(2, 192), (0, c)]) (S' := [(1, 48), (1, x149)]) r_103_153 rfl rfl rfl ?_
    refine gx_st (L' := [(2, 192), (0, c)]) (S' := [(1, 57), (1, 48), (1, x149)]) r_103_156 rfl rfl rfl ?_
    refine gx_ci (nx := 162) (S2 := []) (x_86 x149 48 57) r_103_159 rfl rfl rfl rfl rfl rfl rfl (by decide) rfl (fun x159 n159 q159 => ?_)
    obtain rfl := q159.1.symm
    obtain rfl := q159.2.symm
    show GX T 1 103 162 [(2, 192), (0, c)] [(0, (if 48 ≤ x149 ∧ x149 ≤ 57 then 1 else 0))] m Q
    refine gx_i0 (P := ¬ (48 ≤ x149 ∧ x149 ≤ 57)) r_103_162 (b01_eq) (fun h162 => ?_) (fun h162 => ?_)
    · refine hout b m hm hf hb ?_ h9
      rcases hab with z | z
      · exact z
      · exact absurd (by omega) h162
    · have h162 := Decidable.not_not.mp h162
      have lt_ : (b : Int) < m 192 7 := seeV_lt (by rw [← e_x149]; omega)
      refine gx_st (L' := [(2, 192), (0, c)]) (S' := [(2, 192)]) r_103_165 rfl rfl rfl ?_
      refine gx_st (L' := [(2, 192), (0, c)]) (S' := [(0, 99999), (2, 192)]) r_103_166 rfl rfl rfl ?_
      refine gx_st (L' := [(2, 192), (0, c)]) (S' := [(0, 10), (0, 99999), (2, 192)]) r_103_168 rfl rfl rfl ?_
      refine gx_st (L' := [(2, 192), (0, c)]) (S' := [(2, 192), (0, 10), (0, 99999), (2, 192)]) r_103_170 rfl rfl rfl ?_
      obtain ⟨x171, e_x171⟩ : ∃ z, z = m 192 11 := ⟨_, rfl⟩
      have b_x171 := gb_192_11 hm
      rw [← e_x171] at b_x171
      refine gx_gf (x := x171) 0 r_103_171 rfl (tk_192 hT) ⟨by decide, rfl, by decide, by decide⟩ rfl (fun z => absurd z (by decide)) (e_x171.symm) ?_
      refine gx_ar (L' := [(2, 192), (0, c)]) (S' := [(0, 99999), (2, 192)]) (t := 0) (e := w32 (10 * x171)) (z := 10 * x171) r_103_174 rfl rfl rfl (w32_eq (by omega) (by omega) (by omega)) ?_
      refine gx_st (L' := [(2, 192), (0, c)]) (S' := [(2, 192), (0, 10 * x171), (0, 99999), (2, 192)]) r_103_175 rfl rfl rfl ?_
      refine gx_st (L' := [(2, 192), (0, c)]) (S' := [(2, 192), (2, 192), (0, 10 * x171), (0, 99999), (2, 192)]) r_103_176 rfl rfl rfl ?_
      refine gx_gf (x := (b : Int)) 0 r_103_177 rfl (tk_192 hT) ⟨by decide, rfl, by decide, by decide⟩ rfl (fun z => absurd z (by decide)) (hb) ?_
      refine gx_ci (nx := 183) (S2 := [(0, 10 * x171), (0, 99999), (2, 192)]) (x_102 hT hm (b)) r_103_180 rfl rfl rfl rfl rfl (rcv_v rfl (tk_192 hT) (by decide) rfl (by decide)) rfl (by decide) rfl (fun x180 n180 q180 => ?_)
      obtain ⟨e_x180, z_x180⟩ := q180
      obtain rfl := z_x180.symm
      have b_x180 : -2147483648 ≤ x180 ∧ x180 ≤ 2147483647 := by rw [e_x180]; exact seeV_in
      show GX T 1 103 183 [(2, 192), (0, c)] [(0, x180), (0, 10 * x171), (0, 99999), (2, 192)] m Q
      refine gx_ar (L' := [(2, 192), (0, c)]) (S' := [(0, 99999), (2, 192)]) (t := 0) (e := w32 ((10 * x171) + x180)) (z := 10 * x171 + x180) r_103_183 rfl rfl rfl (w32_eq (by omega) (by omega) (by omega)) ?_
      refine gx_st (L' := [(2, 192), (0, c)]) (S' := [(0, 48), (0, 10 * x171 + x180), (0, 99999), (2, 192)]) r_103_184 rfl rfl rfl ?_
      refine gx_ar (L' := [(2, 192), (0, c)]) (S' := [(0, 99999), (2, 192)]) (t := 0) (e := w32 ((10 * x171 + x180) - 48)) (z := 10 * x171 + x180 - 48) r_103_186 rfl rfl rfl (w32_eq (by omega) (by omega) (by omega)) ?_
      refine gx_st (L' := [(2, 192), (0, c)]) (S' := [(0, (min 99999 (10 * x171 + x180 - 48))), (2, 192)]) r_103_187 rfl rfl rfl ?_
      obtain ⟨m1, e_m1⟩ : ∃ z, z = nu_up m 192 11 ((min 99999 (10 * x171 + x180 - 48))) := ⟨_, rfl⟩
      have h_m1 : Gam m1 := by rw [e_m1]; exact gu_192_11 hm (by omega) (by omega)
      have f_m1 : Fr [90008, 90009, 90010, 90011] m0 m1 := Fr_tr hf (by rw [e_m1]; exact Fr_up rfl)
      refine gx_pf (x := (min 99999 (10 * x171 + x180 - 48))) 0 r_103_190 rfl (tk_192 hT) ⟨by decide, rfl, by decide, by decide⟩ rfl (fun z => absurd z (by decide)) (fun z => absurd z (by decide)) e_m1.symm ?_
      refine gx_st (L' := [(2, 192), (0, c)]) (S' := [(2, 192)]) r_103_193 rfl rfl rfl ?_
      refine gx_st (L' := [(2, 192), (0, c)]) (S' := [(2, 192), (2, 192)]) r_103_194 rfl rfl rfl ?_
      refine gx_gf (x := (b : Int)) 0 r_103_195 rfl (tk_192 hT) ⟨by decide, rfl, by decide, by decide⟩ rfl (fun z => absurd z (by decide)) (show m1 192 8 = (b : Int) from by rw [e_m1, nu_ne (by decide)]; exact hb) ?_
      refine gx_st (L' := [(2, 192), (0, c)]) (S' := [(0, 1), (0, (b : Int)), (2, 192)]) r_103_198 rfl rfl rfl ?_
      refine gx_ar (L' := [(2, 192), (0, c)]) (S' := [(2, 192)]) (t := 0) (e := w32 ((b : Int) + 1)) (z := (b : Int) + 1) r_103_199 rfl rfl rfl (w32_eq (by omega) (by omega) (by omega)) ?_
      obtain ⟨m2, e_m2⟩ : ∃ z, z = nu_up m1 192 8 ((b : Int) + 1) := ⟨_, rfl⟩
      have h_m2 : Gam m2 := by rw [e_m2]; exact gu_192_8 h_m1 (by omega) (by omega)
      have f_m2 : Fr [90008, 90009, 90010, 90011] m0 m2 := Fr_tr f_m1 (by rw [e_m2]; exact Fr_up rfl)
      refine gx_pf (x := (b : Int) + 1) 0 r_103_200 rfl (tk_192 hT) ⟨by decide, rfl, by decide, by decide⟩ rfl (fun z => absurd z (by decide)) (fun z => absurd z (by decide)) e_m2.symm ?_
      refine gx_st (L' := [(2, 192), (0, c)]) (S' := []) r_103_203 rfl rfl rfl ?_
      exact ih (b + 1) m2 (by omega) h_m2 f_m2 (by rw [e_m2, nu_at]; rfl) (Or.inl (by omega)) (by rw [e_m2, nu_ne (by decide), e_m1, nu_ne (by decide)]; exact h9) (by rw [e_m2, nu_ne (by decide), e_m1, nu_at]; omega) (by rw [e_m2, nu_ne (by decide), e_m1, nu_at]; omega)
theorem x_103 {m : Mm} (hT : TT T) (hm : Gam m) : GX T 1 103 0 [(2, 192), (9, 0)] [] m (RV (AVn m)) := by
  have b8_ := gb_192_8 hm
  obtain ⟨a0, ha0⟩ : ∃ a : Nat, m 192 8 = (a : Int) := ⟨(m 192 8).toNat, by omega⟩
  refine adv_a hT (m0 := m) (fun a p0 hp0 f0 ha h0 => ?_) (802 - a0) a0 m (by omega) hm Fr_rf ha0 (by omega)
  have b7_ := gb_192_7 hp0
  have b8a := gb_192_8 hp0
  refine gx_st (L' := [(2, 192), (9, 0)]) (S' := [(2, 192)]) r_103_39 rfl rfl rfl ?_
  refine gx_st (L' := [(2, 192), (9, 0)]) (S' := [(2, 192), (2, 192)]) r_103_40 rfl rfl rfl ?_
  refine gx_gf (x := (a : Int)) 0 r_103_41 rfl (tk_192 hT) ⟨by decide, rfl, by decide, by decide⟩ rfl (fun z => absurd z (by decide)) (ha) ?_
  obtain ⟨m1, e_m1⟩ : ∃ z, z = nu_up p0 192 9 (a : Int) := ⟨_, rfl⟩
  have h_m1 : Gam m1 := by rw [e_m1]; exact gu_192_9 hp0 (by omega) (by omega)
  have f_m1 : Fr [90008, 90009, 90010, 90011] m m1 := Fr_tr f0 (by rw [e_m1]; exact Fr_up rfl)
  refine gx_pf (x := (a : Int)) 0 r_103_44 rfl (tk_192 hT) ⟨by decide, rfl, by decide, by decide⟩ rfl (fun z => absurd z (by decide)) (fun z => absurd z (by decide)) e_m1.symm ?_
  refine gx_st (L' := [(2, 192), (9, 0)]) (S' := [(2, 192)]) r_103_47 rfl rfl rfl ?_
  refine gx_st (L' := [(2, 192), (9, 0)]) (S' := [(2, 192), (2, 192)]) r_103_48 rfl rfl rfl ?_
  refine gx_gf (x := (a : Int)) 0 r_103_49 rfl (tk_192 hT) ⟨by decide, rfl, by decide, by decide⟩ rfl (fun z => absurd z (by decide)) (show m1 192 8 = (a : Int) from by rw [e_m1, nu_ne (by decide)]; exact ha) ?_
  refine gx_ci (nx := 55) (S2 := []) (x_102 hT h_m1 (a)) r_103_52 rfl rfl rfl rfl rfl (rcv_v rfl (tk_192 hT) (by decide) rfl (by decide)) rfl (by decide) rfl (fun x52 n52 q52 => ?_)
  obtain ⟨e_x52, z_x52⟩ := q52
  obtain rfl := z_x52.symm
  have b_x52 : -2147483648 ≤ x52 ∧ x52 ≤ 2147483647 := by rw [e_x52]; exact seeV_in
  show GX T 1 103 55 [(2, 192), (9, 0)] [(0, x52)] m1 (RV (AVn m))
  refine gx_st (L' := [(2, 192), (0, x52)]) (S' := []) r_103_55 rfl rfl rfl ?_
  refine gx_st (L' := [(2, 192), (0, x52)]) (S' := [(0, x52)]) r_103_56 rfl rfl rfl ?_
  refine gx_st (L' := [(2, 192), (0, x52)]) (S' := [(0, (-1)), (0, x52)]) r_103_57 rfl rfl rfl ?_
  refine gx_ic (P := ¬ x52 = (-1)) r_103_58 (rfl) (fun h58 => ?_) (fun h58 => ?_)
  · refine gx_st (L' := [(2, 192), (0, x52)]) (S' := [(0, x52)]) r_103_69 rfl rfl rfl ?_
    refine gx_st (L' := [(2, 192), (0, x52)]) (S' := [(1, x52)]) r_103_70 rfl rfl rfl ?_
    refine gx_st (L' := [(2, 192), (0, x52)]) (S' := [(1, 97), (1, x52)]) r_103_71 rfl rfl rfl ?_
    refine gx_st (L' := [(2, 192), (0, x52)]) (S' := [(1, 122), (1, 97), (1, x52)]) r_103_74 rfl rfl rfl ?_
    refine gx_ci (nx := 80) (S2 := []) (x_86 x52 97 122) r_103_77 rfl rfl rfl rfl rfl rfl rfl (by decide) rfl (fun x77 n77 q77 => ?_)
    obtain rfl := q77.1.symm
    obtain rfl := q77.2.symm
    show GX T 1 103 80 [(2, 192), (0, x52)] [(0, (if 97 ≤ x52 ∧ x52 ≤ 122 then 1 else 0))] m1 (RV (AVn m))
    refine gx_i0 (P := ¬ (97 ≤ x52 ∧ x52 ≤ 122)) r_103_80 (b01_eq) (fun h80 => ?_) (fun h80 => ?_)
    · refine gx_st (L' := [(2, 192), (0, x52)]) (S' := [(0, x52)]) r_103_125 rfl rfl rfl ?_
      refine gx_st (L' := [(2, 192), (0, x52)]) (S' := [(1, x52)]) r_103_126 rfl rfl rfl ?_
      refine gx_st (L' := [(2, 192), (0, x52)]) (S' := [(1, 48), (1, x52)]) r_103_127 rfl rfl rfl ?_
      refine gx_st (L' := [(2, 192), (0, x52)]) (S' := [(1, 57), (1, 48), (1, x52)]) r_103_130 rfl rfl rfl ?_
      refine gx_ci (nx := 136) (S2 := []) (x_86 x52 48 57) r_103_133 rfl rfl rfl rfl rfl rfl rfl (by decide) rfl (fun x133 n133 q133 => ?_)
      obtain rfl := q133.1.symm
      obtain rfl := q133.2.symm
      show GX T 1 103 136 [(2, 192), (0, x52)] [(0, (if 48 ≤ x52 ∧ x52 ≤ 57 then 1 else 0))] m1 (RV (AVn m))
      refine gx_i0 (P := ¬ (48 ≤ x52 ∧ x52 ≤ 57)) r_103_136 (b01_eq) (fun h136 => ?_) (fun h136 => ?_)
      · refine gx_st (L' := [(2, 192), (0, x52)]) (S' := [(2, 192)]) r_103_214 rfl rfl rfl ?_
        refine gx_st (L' := [(2, 192), (0, x52)]) (S' := [(0, x52), (2, 192)]) r_103_215 rfl rfl rfl ?_
        refine gx_st (L' := [(2, 192), (0, x52)]) (S' := [(0, 59), (0, x52), (2, 192)]) r_103_216 rfl rfl rfl ?_
        refine gx_ic (P := ¬ x52 = 59) r_103_218 (rfl) (fun h218 => ?_) (fun h218 => ?_)
        · refine gx_st (L' := [(2, 192), (0, x52)]) (S' := [(0, 4), (2, 192)]) r_103_225 rfl rfl rfl ?_
          obtain ⟨m2, e_m2⟩ : ∃ z, z = nu_up m1 192 10 4 := ⟨_, rfl⟩
          have h_m2 : Gam m2 := by rw [e_m2]; exact gu_192_10 h_m1 (by omega) (by omega)
          have f_m2 : Fr [90008, 90009, 90010, 90011] m m2 := Fr_tr f_m1 (by rw [e_m2]; exact Fr_up rfl)
          refine gx_pf (x := 4) 0 r_103_226 rfl (tk_192 hT) ⟨by decide, rfl, by decide, by decide⟩ rfl (fun z => absurd z (by decide)) (fun z => absurd z (by decide)) e_m2.symm ?_
          have lt_ : (a : Int) < m1 192 7 := seeV_lt (by rw [← e_x52]; omega)
          have lt2_ : m1 192 7 = p0 192 7 := by rw [e_m1, nu_ne (by decide)]
          refine gx_st (L' := [(2, 192), (0, x52)]) (S' := [(2, 192)]) r_103_229 rfl rfl rfl ?_
          refine gx_st (L' := [(2, 192), (0, x52)]) (S' := [(2, 192), (2, 192)]) r_103_230 rfl rfl rfl ?_
          refine gx_gf (x := (a : Int)) 0 r_103_231 rfl (tk_192 hT) ⟨by decide, rfl, by decide, by decide⟩ rfl (fun z => absurd z (by decide)) (show m2 192 8 = (a : Int) from by rw [e_m2, nu_ne (by decide), e_m1, nu_ne (by decide)]; exact ha) ?_
          refine gx_st (L' := [(2, 192), (0, x52)]) (S' := [(0, 1), (0, (a : Int)), (2, 192)]) r_103_234 rfl rfl rfl ?_
          refine gx_ar (L' := [(2, 192), (0, x52)]) (S' := [(2, 192)]) (t := 0) (e := w32 ((a : Int) + 1)) (z := (a : Int) + 1) r_103_235 rfl rfl rfl (w32_eq (by omega) (by omega) (by omega)) ?_
          obtain ⟨m3, e_m3⟩ : ∃ z, z = nu_up m2 192 8 ((a : Int) + 1) := ⟨_, rfl⟩
          have h_m3 : Gam m3 := by rw [e_m3]; exact gu_192_8 h_m2 (by omega) (by omega)
          have f_m3 : Fr [90008, 90009, 90010, 90011] m m3 := Fr_tr f_m2 (by rw [e_m3]; exact Fr_up rfl)
          refine gx_pf (x := (a : Int) + 1) 0 r_103_236 rfl (tk_192 hT) ⟨by decide, rfl, by decide, by decide⟩ rfl (fun z => absurd z (by decide)) (fun z => absurd z (by decide)) e_m3.symm ?_
          have n9 : m3 192 9 = (a : Int) := by rw [e_m3, nu_ne (by decide), e_m2, nu_ne (by decide), e_m1, nu_at]
          have n8 : m3 192 8 = (a : Int) + 1 := by rw [e_m3, nu_at]
          exact gx_rt r_103_239 rfl rfl ⟨rfl, h_m3, f_m3, by rw [n9]; exact h0, by omega, Or.inr (by omega)⟩
        · have h218 := Decidable.not_not.mp h218
          refine gx_st (L' := [(2, 192), (0, x52)]) (S' := [(0, 3), (2, 192)]) r_103_221 rfl rfl rfl ?_
          refine gx_st (L' := [(2, 192), (0, x52)]) (S' := [(0, 3), (2, 192)]) r_103_222 rfl rfl rfl ?_
          obtain ⟨m3, e_m3⟩ : ∃ z, z = nu_up m1 192 10 3 := ⟨_, rfl⟩
          have h_m3 : Gam m3 := by rw [e_m3]; exact gu_192_10 h_m1 (by omega) (by omega)
          have f_m3 : Fr [90008, 90009, 90010, 90011] m m3 := Fr_tr f_m1 (by rw [e_m3]; exact Fr_up rfl)
          refine gx_pf (x := 3) 0 r_103_226 rfl (tk_192 hT) ⟨by decide, rfl, by decide, by decide⟩ rfl (fun z => absurd z (by decide)) (fun z => absurd z (by decide)) e_m3.symm ?_
          have lt_ : (a : Int) < m1 192 7 := seeV_lt (by rw [← e_x52]; omega)
          have lt2_ : m1 192 7 = p0 192 7 := by rw [e_m1, nu_ne (by decide)]
          refine gx_st (L' := [(2, 192), (0, x52)]) (S' := [(2, 192)]) r_103_229 rfl rfl rfl ?_
          refine gx_st (L' := [(2, 192), (0, x52)]) (S' := [(2, 192), (2, 192)]) r_103_230 rfl rfl rfl ?_
          refine gx_gf (x := (a : Int)) 0 r_103_231 rfl (tk_192 hT) ⟨by decide, rfl, by decide, by decide⟩ rfl (fun z => absurd z (by decide)) (show m3 192 8 = (a : Int) from by rw [e_m3, nu_ne (by decide), e_m1, nu_ne (by decide)]; exact ha) ?_
          refine gx_st (L' := [(2, 192), (0, x52)]) (S' := [(0, 1), (0, (a : Int)), (2, 192)]) r_103_234 rfl rfl rfl ?_
          refine gx_ar (L' := [(2, 192), (0, x52)]) (S' := [(2, 192)]) (t := 0) (e := w32 ((a : Int) + 1)) (z := (a : Int) + 1) r_103_235 rfl rfl rfl (w32_eq (by omega) (by omega) (by omega)) ?_
          obtain ⟨m4, e_m4⟩ : ∃ z, z = nu_up m3 192 8 ((a : Int) + 1) := ⟨_, rfl⟩
          have h_m4 : Gam m4 := by rw [e_m4]; exact gu_192_8 h_m3 (by omega) (by omega)
          have f_m4 : Fr [90008, 90009, 90010, 90011] m m4 := Fr_tr f_m3 (by rw [e_m4]; exact Fr_up rfl)
          refine gx_pf (x := (a : Int) + 1) 0 r_103_236 rfl (tk_192 hT) ⟨by decide, rfl, by decide, by decide⟩ rfl (fun z => absurd z (by decide)) (fun z => absurd z (by decide)) e_m4.symm ?_
          have n9 : m4 192 9 = (a : Int) := by rw [e_m4, nu_ne (by decide), e_m3, nu_ne (by decide), e_m1, nu_at]
          have n8 : m4 192 8 = (a : Int) + 1 := by rw [e_m4, nu_at]
          exact gx_rt r_103_239 rfl rfl ⟨rfl, h_m4, f_m4, by rw [n9]; exact h0, by omega, Or.inr (by omega)⟩
      · have h136 := Decidable.not_not.mp h136
        refine gx_st (L' := [(2, 192), (0, x52)]) (S' := [(2, 192)]) r_103_139 rfl rfl rfl ?_
        refine gx_st (L' := [(2, 192), (0, x52)]) (S' := [(0, 0), (2, 192)]) r_103_140 rfl rfl rfl ?_
        obtain ⟨m4, e_m4⟩ : ∃ z, z = nu_up m1 192 11 0 := ⟨_, rfl⟩
        have h_m4 : Gam m4 := by rw [e_m4]; exact gu_192_11 h_m1 (by omega) (by omega)
        have f_m4 : Fr [90008, 90009, 90010, 90011] m m4 := Fr_tr f_m1 (by rw [e_m4]; exact Fr_up rfl)
        refine gx_pf (x := 0) 0 r_103_141 rfl (tk_192 hT) ⟨by decide, rfl, by decide, by decide⟩ rfl (fun z => absurd z (by decide)) (fun z => absurd z (by decide)) e_m4.symm ?_
        refine adv_n hT (m0 := m) (a := a) (fun b p1 h_p1 f_p1 b_p1 l_p1 n_p1 => ?_) 802 a m4 (by omega) h_m4 f_m4 (by rw [e_m4, nu_ne (by decide), e_m1, nu_ne (by decide)]; exact ha) (Or.inr ⟨rfl, by rw [show seeV m4 a = seeV m1 a from by unfold seeV; rw [e_m4, nu_ne (by decide), nu_no (by decide)], ← e_x52]; omega⟩) (by rw [e_m4, nu_ne (by decide), e_m1, nu_at]) (by rw [e_m4, nu_at]; decide) (by rw [e_m4, nu_at]; decide)
        refine gx_st (L' := [(2, 192), (0, x52)]) (S' := [(2, 192)]) r_103_206 rfl rfl rfl ?_
        refine gx_st (L' := [(2, 192), (0, x52)]) (S' := [(0, 2), (2, 192)]) r_103_207 rfl rfl rfl ?_
        obtain ⟨m5, e_m5⟩ : ∃ z, z = nu_up p1 192 10 2 := ⟨_, rfl⟩
        have h_m5 : Gam m5 := by rw [e_m5]; exact gu_192_10 h_p1 (by omega) (by omega)
        have f_m5 : Fr [90008, 90009, 90010, 90011] m m5 := Fr_tr f_p1 (by rw [e_m5]; exact Fr_up rfl)
        refine gx_pf (x := 2) 0 r_103_208 rfl (tk_192 hT) ⟨by decide, rfl, by decide, by decide⟩ rfl (fun z => absurd z (by decide)) (fun z => absurd z (by decide)) e_m5.symm ?_
        refine gx_st (L' := [(2, 192), (0, x52)]) (S' := []) r_103_211 rfl rfl rfl ?_
        have n9 : m5 192 9 = (a : Int) := by rw [e_m5, nu_ne (by decide)]; exact n_p1
        have n8 : m5 192 8 = (b : Int) := by rw [e_m5, nu_ne (by decide)]; exact b_p1
        exact gx_rt r_103_239 rfl rfl ⟨rfl, h_m5, f_m5, by rw [n9]; exact h0, by omega, Or.inr (by omega)⟩
    · have h80 := Decidable.not_not.mp h80
      refine adv_w hT (m0 := m) (a := a) (fun b p1 h_p1 f_p1 b_p1 l_p1 n_p1 => ?_) 802 a m1 (by omega) h_m1 f_m1 (by rw [e_m1, nu_ne (by decide)]; exact ha) (Or.inr ⟨rfl, by rw [← e_x52]; omega⟩) (by rw [e_m1, nu_at])
      refine gx_st (L' := [(2, 192), (0, x52)]) (S' := [(2, 192)]) r_103_117 rfl rfl rfl ?_
      refine gx_st (L' := [(2, 192), (0, x52)]) (S' := [(0, 1), (2, 192)]) r_103_118 rfl rfl rfl ?_
      obtain ⟨m5, e_m5⟩ : ∃ z, z = nu_up p1 192 10 1 := ⟨_, rfl⟩
      have h_m5 : Gam m5 := by rw [e_m5]; exact gu_192_10 h_p1 (by omega) (by omega)
      have f_m5 : Fr [90008, 90009, 90010, 90011] m m5 := Fr_tr f_p1 (by rw [e_m5]; exact Fr_up rfl)
      refine gx_pf (x := 1) 0 r_103_119 rfl (tk_192 hT) ⟨by decide, rfl, by decide, by decide⟩ rfl (fun z => absurd z (by decide)) (fun z => absurd z (by decide)) e_m5.symm ?_
      refine gx_st (L' := [(2, 192), (0, x52)]) (S' := []) r_103_122 rfl rfl rfl ?_
      have n9 : m5 192 9 = (a : Int) := by rw [e_m5, nu_ne (by decide)]; exact n_p1
      have n8 : m5 192 8 = (b : Int) := by rw [e_m5, nu_ne (by decide)]; exact b_p1
      exact gx_rt r_103_239 rfl rfl ⟨rfl, h_m5, f_m5, by rw [n9]; exact h0, by omega, Or.inr (by omega)⟩
  · have h58 := Decidable.not_not.mp h58
    refine gx_st (L' := [(2, 192), (0, x52)]) (S' := [(2, 192)]) r_103_61 rfl rfl rfl ?_
    refine gx_st (L' := [(2, 192), (0, x52)]) (S' := [(0, 0), (2, 192)]) r_103_62 rfl rfl rfl ?_
    obtain ⟨m5, e_m5⟩ : ∃ z, z = nu_up m1 192 10 0 := ⟨_, rfl⟩
    have h_m5 : Gam m5 := by rw [e_m5]; exact gu_192_10 h_m1 (by omega) (by omega)
    have f_m5 : Fr [90008, 90009, 90010, 90011] m m5 := Fr_tr f_m1 (by rw [e_m5]; exact Fr_up rfl)
    refine gx_pf (x := 0) 0 r_103_63 rfl (tk_192 hT) ⟨by decide, rfl, by decide, by decide⟩ rfl (fun z => absurd z (by decide)) (fun z => absurd z (by decide)) e_m5.symm ?_
    refine gx_st (L' := [(2, 192), (0, x52)]) (S' := []) r_103_66 rfl rfl rfl ?_
    have n9 : m5 192 9 = (a : Int) := by rw [e_m5, nu_ne (by decide), e_m1, nu_at]
    have n8 : m5 192 8 = (a : Int) := by rw [e_m5, nu_ne (by decide), e_m1, nu_ne (by decide)]; exact ha
    have nt : m5 192 10 = 0 := by rw [e_m5, nu_at]
    exact gx_rt r_103_239 rfl rfl ⟨rfl, h_m5, f_m5, by rw [n9]; exact h0, by omega, Or.inl nt⟩
theorem x_105 {m : Mm} (hT : TT T) (hm : Gam m) {k : Int} (hk1 : 1 ≤ k) (hk2 : k ≤ 3) : GX T 1 105 0 [(2, 192), (0, k)] [] m (RV (ER m)) := by
  refine gx_st (L' := [(2, 192), (0, k)]) (S' := [(2, 192)]) r_105_0 rfl rfl rfl ?_
  refine gx_ci (nx := 4) (S2 := []) (x_104 hT hm) r_105_1 rfl rfl rfl rfl rfl (rcv_v rfl (tk_192 hT) (by decide) rfl (by decide)) rfl (by decide) rfl (fun x1 n1 q1 => ?_)
  obtain rfl := q1.1.symm
  obtain rfl := q1.2.symm
  show GX T 1 105 4 [(2, 192), (0, k)] [(0, (if m 192 12 = 0 then 1 else 0))] m (RV (ER m))
  refine gx_i0 (P := m 192 12 = 0) r_105_4 (b01_ne) (fun h4 => ?_) (fun h4 => ?_)
  · refine gx_st (L' := [(2, 192), (0, k)]) (S' := [(2, 192)]) r_105_8 rfl rfl rfl ?_
    refine gx_st (L' := [(2, 192), (0, k)]) (S' := [(0, k), (2, 192)]) r_105_9 rfl rfl rfl ?_
    obtain ⟨m1, e_m1⟩ : ∃ z, z = nu_up m 192 12 k := ⟨_, rfl⟩
    have h_m1 : Gam m1 := by rw [e_m1]; exact gu_192_12 hm (by omega) (by omega)
    have f_m1 : Fr [90012, 90013] m m1 := Fr_tr Fr_rf (by rw [e_m1]; exact Fr_up rfl)
    refine gx_pf (x := k) 0 r_105_10 rfl (tk_192 hT) ⟨by decide, rfl, by decide, by decide⟩ rfl (fun z => absurd z (by decide)) (fun z => absurd z (by decide)) e_m1.symm ?_
    refine gx_st (L' := [(2, 192), (0, k)]) (S' := [(2, 192)]) r_105_13 rfl rfl rfl ?_
    refine gx_st (L' := [(2, 192), (0, k)]) (S' := [(2, 192), (2, 192)]) r_105_14 rfl rfl rfl ?_
    obtain ⟨x15, e_x15⟩ : ∃ z, z = m1 192 9 := ⟨_, rfl⟩
    have b_x15 := gb_192_9 h_m1
    rw [← e_x15] at b_x15
    refine gx_gf (x := x15) 0 r_105_15 rfl (tk_192 hT) ⟨by decide, rfl, by decide, by decide⟩ rfl (fun z => absurd z (by decide)) (e_x15.symm) ?_
    obtain ⟨m2, e_m2⟩ : ∃ z, z = nu_up m1 192 13 x15 := ⟨_, rfl⟩
    have h_m2 : Gam m2 := by rw [e_m2]; exact gu_192_13 h_m1 (by omega) (by omega)
    have f_m2 : Fr [90012, 90013] m m2 := Fr_tr f_m1 (by rw [e_m2]; exact Fr_up rfl)
    refine gx_pf (x := x15) 0 r_105_18 rfl (tk_192 hT) ⟨by decide, rfl, by decide, by decide⟩ rfl (fun z => absurd z (by decide)) (fun z => absurd z (by decide)) e_m2.symm ?_
    exact gx_rt r_105_21 rfl rfl ⟨rfl, h_m2, f_m2, by rw [e_m2, nu_ne (by decide), e_m1, nu_at]; omega⟩
  · exact gx_rt r_105_7 rfl rfl ⟨rfl, hm, Fr_rf, by omega⟩
end PARS
