/-! asItIs -/
theorem r_143_0 : row 143 0 = some (.aload_n 0, 1, 0, 0, 0, 0) := rfl
theorem r_143_1 : row 143 1 = some (.invokevirtual 231, 4, 124, 0, 0, 7037) := rfl
theorem r_143_4 : row 143 4 = some (.aload_n 0, 5, 0, 0, 0, 0) := rfl
theorem r_143_5 : row 143 5 = some (.iconst (-1), 6, (-1), 0, 0, 0) := rfl
theorem r_143_6 : row 143 6 = some (.putfield 250, 9, 10, 23, 0, 6024) := rfl
theorem r_143_9 : row 143 9 = some (.aload_n 0, 10, 0, 0, 0, 0) := rfl
theorem r_143_10 : row 143 10 = some (.iconst (-1), 11, (-1), 0, 0, 0) := rfl
theorem r_143_11 : row 143 11 = some (.putfield 266, 14, 10, 24, 0, 6025) := rfl
theorem r_143_14 : row 143 14 = some (.aload_n 0, 15, 0, 0, 0, 0) := rfl
theorem r_143_15 : row 143 15 = some (.iconst 0, 16, 0, 0, 0, 0) := rfl
theorem r_143_16 : row 143 16 = some (.putfield 278, 19, 10, 25, 0, 6026) := rfl
theorem r_143_19 : row 143 19 = some (.aload_n 0, 20, 0, 0, 0, 0) := rfl
theorem r_143_20 : row 143 20 = some (.iconst 0, 21, 0, 0, 0, 0) := rfl
theorem r_143_21 : row 143 21 = some (.putfield 257, 24, 10, 26, 0, 6027) := rfl
theorem r_143_24 : row 143 24 = some (.aload_n 0, 25, 0, 0, 0, 0) := rfl
theorem r_143_25 : row 143 25 = some (.iconst (-1), 26, (-1), 0, 0, 0) := rfl
theorem r_143_26 : row 143 26 = some (.putfield 281, 29, 10, 27, 0, 6028) := rfl
theorem r_143_29 : row 143 29 = some (.aload_n 0, 30, 0, 0, 0, 0) := rfl
theorem r_143_30 : row 143 30 = some (.iconst (-1), 31, (-1), 0, 0, 0) := rfl
theorem r_143_31 : row 143 31 = some (.putfield 293, 34, 10, 21, 0, 6022) := rfl
theorem r_143_34 : row 143 34 = some (.aload_n 0, 35, 0, 0, 0, 0) := rfl
theorem r_143_35 : row 143 35 = some (.iconst (-1), 36, (-1), 0, 0, 0) := rfl
theorem r_143_36 : row 143 36 = some (.putfield 296, 39, 10, 22, 0, 6023) := rfl
theorem r_143_39 : row 143 39 = some (.iconst 0, 40, 0, 0, 0, 0) := rfl
theorem r_143_40 : row 143 40 = some (.istore_n 1, 41, 0, 0, 0, 0) := rfl
theorem r_143_41 : row 143 41 = some (.iload_n 1, 42, 0, 0, 0, 0) := rfl
theorem r_143_42 : row 143 42 = some (.iconst 5, 43, 5, 0, 0, 0) := rfl
theorem r_143_43 : row 143 43 = some (.if_icmp .ge 16, 46, 59, 0, 0, 0) := rfl
theorem r_143_46 : row 143 46 = some (.aload_n 0, 47, 0, 0, 0, 0) := rfl
theorem r_143_47 : row 143 47 = some (.getfield 49, 50, 10, 20, 2, 6021) := rfl
theorem r_143_50 : row 143 50 = some (.iload_n 1, 51, 0, 0, 0, 0) := rfl
theorem r_143_51 : row 143 51 = some (.iconst 0, 52, 0, 0, 0, 0) := rfl
theorem r_143_52 : row 143 52 = some (.iastore, 53, 0, 0, 0, 0) := rfl
theorem r_143_53 : row 143 53 = some (.iinc 1 1, 56, 0, 0, 0, 0) := rfl
theorem r_143_56 : row 143 56 = some (.goto (-15), 59, 41, 0, 0, 0) := rfl
theorem r_143_59 : row 143 59 = some (.iconst 0, 60, 0, 0, 0, 0) := rfl
theorem r_143_60 : row 143 60 = some (.istore_n 1, 61, 0, 0, 0, 0) := rfl
theorem r_143_61 : row 143 61 = some (.iload_n 1, 62, 0, 0, 0, 0) := rfl
theorem r_143_62 : row 143 62 = some (.bipush 12, 64, 12, 0, 0, 0) := rfl
theorem r_143_64 : row 143 64 = some (.if_icmp .ge 16, 67, 80, 0, 0, 0) := rfl
theorem r_143_67 : row 143 67 = some (.aload_n 0, 68, 0, 0, 0, 0) := rfl
theorem r_143_68 : row 143 68 = some (.getfield 46, 71, 10, 19, 2, 6020) := rfl
theorem r_143_71 : row 143 71 = some (.iload_n 1, 72, 0, 0, 0, 0) := rfl
theorem r_143_72 : row 143 72 = some (.iconst 0, 73, 0, 0, 0, 0) := rfl
theorem r_143_73 : row 143 73 = some (.iastore, 74, 0, 0, 0, 0) := rfl
theorem r_143_74 : row 143 74 = some (.iinc 1 1, 77, 0, 0, 0, 0) := rfl
theorem r_143_77 : row 143 77 = some (.goto (-16), 80, 61, 0, 0, 0) := rfl
theorem r_143_80 : row 143 80 = some (.iconst 0, 81, 0, 0, 0, 0) := rfl
theorem r_143_81 : row 143 81 = some (.istore_n 1, 82, 0, 0, 0, 0) := rfl
theorem r_143_82 : row 143 82 = some (.iload_n 1, 83, 0, 0, 0, 0) := rfl
theorem r_143_83 : row 143 83 = some (.aload_n 0, 84, 0, 0, 0, 0) := rfl
theorem r_143_84 : row 143 84 = some (.getfield 9, 87, 10, 1, 2, 6002) := rfl
theorem r_143_87 : row 143 87 = some (.bipush 8, 89, 8, 0, 0, 0) := rfl
theorem r_143_89 : row 143 89 = some (.iaload, 90, 0, 0, 0, 0) := rfl
theorem r_143_90 : row 143 90 = some (.if_icmp .ge 38, 93, 128, 0, 0, 0) := rfl
theorem r_143_93 : row 143 93 = some (.aload_n 0, 94, 0, 0, 0, 0) := rfl
theorem r_143_94 : row 143 94 = some (.getfield 46, 97, 10, 19, 2, 6020) := rfl
theorem r_143_97 : row 143 97 = some (.aload_n 0, 98, 0, 0, 0, 0) := rfl
theorem r_143_98 : row 143 98 = some (.getfield 9, 101, 10, 1, 2, 6002) := rfl
theorem r_143_101 : row 143 101 = some (.bipush 57, 103, 57, 0, 0, 0) := rfl
theorem r_143_103 : row 143 103 = some (.iload_n 1, 104, 0, 0, 0, 0) := rfl
theorem r_143_104 : row 143 104 = some (.iadd, 105, 0, 0, 0, 0) := rfl
theorem r_143_105 : row 143 105 = some (.iaload, 106, 0, 0, 0, 0) := rfl
theorem r_143_106 : row 143 106 = some (.bipush 100, 108, 100, 0, 0, 0) := rfl
theorem r_143_108 : row 143 108 = some (.idiv, 109, 0, 0, 0, 0) := rfl
theorem r_143_109 : row 143 109 = some (.aload_n 0, 110, 0, 0, 0, 0) := rfl
theorem r_143_110 : row 143 110 = some (.getfield 9, 113, 10, 1, 2, 6002) := rfl
theorem r_143_113 : row 143 113 = some (.bipush 57, 115, 57, 0, 0, 0) := rfl
theorem r_143_115 : row 143 115 = some (.iload_n 1, 116, 0, 0, 0, 0) := rfl
theorem r_143_116 : row 143 116 = some (.iadd, 117, 0, 0, 0, 0) := rfl
theorem r_143_117 : row 143 117 = some (.iaload, 118, 0, 0, 0, 0) := rfl
theorem r_143_118 : row 143 118 = some (.bipush 100, 120, 100, 0, 0, 0) := rfl
theorem r_143_120 : row 143 120 = some (.irem, 121, 0, 0, 0, 0) := rfl
theorem r_143_121 : row 143 121 = some (.iastore, 122, 0, 0, 0, 0) := rfl
theorem r_143_122 : row 143 122 = some (.iinc 1 1, 125, 0, 0, 0, 0) := rfl
theorem r_143_125 : row 143 125 = some (.goto (-43), 128, 82, 0, 0, 0) := rfl
theorem r_143_128 : row 143 128 = some (.return_, 129, 0, 0, 0, 0) := rfl
theorem Fr_sub {W W' : List Nat} {m m' : Mm} (h : Fr W m m') (hw : W.all (fun y => W'.contains y) = true) : Fr W' m m' := Fr_mono (fun y hy => List.all_eq_true.mp hw y (List.contains_iff_mem.mp hy)) h
section ASIT
variable {T : List Kd} {m0 : Mm} {Q : AV → Mm → Prop}
theorem asit_a (hT : TT T) (hout : ∀ (m : Mm), Gam m → Ext m → FS m → Fr [90021, 90022, 90023, 90024, 90025, 90026, 90027, 97999, 101999, 102999] m0 m → GX T 3 143 59 [(2, 192), (0, 5)] [] m Q) : ∀ (N k : Nat) (m : Mm), 5 - k < N → k ≤ 5 → Gam m → Ext m → FS m → Fr [90021, 90022, 90023, 90024, 90025, 90026, 90027, 97999, 101999, 102999] m0 m → GX T 3 143 41 [(2, 192), (0, (k : Int))] [] m Q := by
  intro N
  induction N with
  | zero => intro k m hN; exact absurd hN (Nat.not_lt_zero _)
  | succ N ih =>
    intro k m hN hk hm hx hs hf
    refine gx_st (L' := [(2, 192), (0, (k : Int))]) (S' := [(0, (k : Int))]) r_143_41 rfl rfl rfl ?_
    refine gx_st (L' := [(2, 192), (0, (k : Int))]) (S' := [(0, 5), (0, (k : Int))]) r_143_42 rfl rfl rfl ?_
    refine gx_ic (P := 5 ≤ (k : Int)) r_143_43 (rfl) (fun h43 => ?_) (fun h43 => ?_)
    · have hkb : k = 5 := by omega
      rw [hkb]
      exact hout m hm hx hs hf
    · refine gx_st (L' := [(2, 192), (0, (k : Int))]) (S' := [(2, 192)]) r_143_46 rfl rfl rfl ?_
      refine gx_gf (x := 204) 2 r_143_47 rfl (tk_192 hT) ⟨by decide, rfl, by decide, by decide⟩ rfl (fun _ => by decide) (pr_192_20 hm) ?_
      refine gx_st (L' := [(2, 192), (0, (k : Int))]) (S' := [(0, (k : Int)), (2, 204)]) r_143_50 rfl rfl rfl ?_
      refine gx_st (L' := [(2, 192), (0, (k : Int))]) (S' := [(0, 0), (0, (k : Int)), (2, 204)]) r_143_51 rfl rfl rfl ?_
      obtain ⟨m1, e_m1⟩ : ∃ z, z = nu_up m 204 (k) 0 := ⟨_, rfl⟩
      have h_m1 : Gam m1 := by rw [e_m1]; exact gu_204 hm (i := k) (by omega) (by omega)
      have f_m1 : Fr [90021, 90022, 90023, 90024, 90025, 90026, 90027, 97999, 101999, 102999] m0 m1 := Fr_tr hf (by rw [e_m1]; exact Fr_ua rfl rfl)
      have x_m1 : Ext m1 := Ext_fr (W := [102999]) (by rw [e_m1]; exact Fr_ua rfl rfl) (by decide) hx
      have s_m1 : FS m1 := FS_fr (W := [102999]) (by rw [e_m1]; exact Fr_ua rfl rfl) (by decide) hs
      refine gx_is (n := k) (x := 0) r_143_52 rfl (by decide) (tk_204 hT) (by omega) ⟨rfl, by omega⟩ e_m1.symm ?_
      refine gx_li (z := (k : Int) + 1) (L' := [(2, 192), (0, (k : Int) + 1)]) r_143_53 rfl (w32_eq (by omega) (by omega) (by omega)) rfl ?_
      refine gx_st (L' := [(2, 192), (0, (k : Int) + 1)]) (S' := []) r_143_56 rfl rfl rfl ?_
      rw [show (k : Int) + 1 = ((k + 1 : Nat) : Int) from rfl]
      refine ih (k + 1)  m1 (by omega) (by omega) h_m1 x_m1 s_m1 f_m1
theorem asit_b (hT : TT T) (hout : ∀ (m : Mm), Gam m → Ext m → FS m → Fr [90021, 90022, 90023, 90024, 90025, 90026, 90027, 97999, 101999, 102999] m0 m → GX T 3 143 80 [(2, 192), (0, 12)] [] m Q) : ∀ (N k : Nat) (m : Mm), 12 - k < N → k ≤ 12 → Gam m → Ext m → FS m → Fr [90021, 90022, 90023, 90024, 90025, 90026, 90027, 97999, 101999, 102999] m0 m → GX T 3 143 61 [(2, 192), (0, (k : Int))] [] m Q := by
  intro N
  induction N with
  | zero => intro k m hN; exact absurd hN (Nat.not_lt_zero _)
  | succ N ih =>
    intro k m hN hk hm hx hs hf
    refine gx_st (L' := [(2, 192), (0, (k : Int))]) (S' := [(0, (k : Int))]) r_143_61 rfl rfl rfl ?_
    refine gx_st (L' := [(2, 192), (0, (k : Int))]) (S' := [(0, 12), (0, (k : Int))]) r_143_62 rfl rfl rfl ?_
    refine gx_ic (P := 12 ≤ (k : Int)) r_143_64 (rfl) (fun h64 => ?_) (fun h64 => ?_)
    · have hkb : k = 12 := by omega
      rw [hkb]
      exact hout m hm hx hs hf
    · refine gx_st (L' := [(2, 192), (0, (k : Int))]) (S' := [(2, 192)]) r_143_67 rfl rfl rfl ?_
      refine gx_gf (x := 203) 2 r_143_68 rfl (tk_192 hT) ⟨by decide, rfl, by decide, by decide⟩ rfl (fun _ => by decide) (pr_192_19 hm) ?_
      refine gx_st (L' := [(2, 192), (0, (k : Int))]) (S' := [(0, (k : Int)), (2, 203)]) r_143_71 rfl rfl rfl ?_
      refine gx_st (L' := [(2, 192), (0, (k : Int))]) (S' := [(0, 0), (0, (k : Int)), (2, 203)]) r_143_72 rfl rfl rfl ?_
      obtain ⟨m1, e_m1⟩ : ∃ z, z = nu_up m 203 (k) 0 := ⟨_, rfl⟩
      have h_m1 : Gam m1 := by rw [e_m1]; exact gu_203 hm (i := k) (by omega) (by omega)
      have f_m1 : Fr [90021, 90022, 90023, 90024, 90025, 90026, 90027, 97999, 101999, 102999] m0 m1 := Fr_tr hf (by rw [e_m1]; exact Fr_ua rfl rfl)
      have x_m1 : Ext m1 := Ext_fr (W := [101999]) (by rw [e_m1]; exact Fr_ua rfl rfl) (by decide) hx
      have s_m1 : FS m1 := FS_fr (W := [101999]) (by rw [e_m1]; exact Fr_ua rfl rfl) (by decide) hs
      refine gx_is (n := k) (x := 0) r_143_73 rfl (by decide) (tk_203 hT) (by omega) ⟨rfl, by omega⟩ e_m1.symm ?_
      refine gx_li (z := (k : Int) + 1) (L' := [(2, 192), (0, (k : Int) + 1)]) r_143_74 rfl (w32_eq (by omega) (by omega) (by omega)) rfl ?_
      refine gx_st (L' := [(2, 192), (0, (k : Int) + 1)]) (S' := []) r_143_77 rfl rfl rfl ?_
      rw [show (k : Int) + 1 = ((k + 1 : Nat) : Int) from rfl]
      refine ih (k + 1)  m1 (by omega) (by omega) h_m1 x_m1 s_m1 f_m1
theorem asit_c (hT : TT T) {c : Nat} (hc0 : m0 193 8 = (c : Int)) (hout : ∀ (m : Mm), Gam m → Ext m → FS m → Fr [90021, 90022, 90023, 90024, 90025, 90026, 90027, 97999, 101999, 102999] m0 m → GX T 3 143 128 [(2, 192), (0, (c : Int))] [] m Q) : ∀ (N k : Nat) (m : Mm), c - k < N → k ≤ c → Gam m → Ext m → FS m → Fr [90021, 90022, 90023, 90024, 90025, 90026, 90027, 97999, 101999, 102999] m0 m → GX T 3 143 82 [(2, 192), (0, (k : Int))] [] m Q := by
  intro N
  induction N with
  | zero => intro k m hN; exact absurd hN (Nat.not_lt_zero _)
  | succ N ih =>
    intro k m hN hk hm hx hs hf
    have b8_ := gb_193_8 hm
    have hc : m 193 8 = (c : Int) := by rw [← hc0]; exact Fr_cell (o := 193) hf (by decide) (by decide) 8
    refine gx_st (L' := [(2, 192), (0, (k : Int))]) (S' := [(0, (k : Int))]) r_143_82 rfl rfl rfl ?_
    refine gx_st (L' := [(2, 192), (0, (k : Int))]) (S' := [(2, 192), (0, (k : Int))]) r_143_83 rfl rfl rfl ?_
    refine gx_gf (x := 193) 2 r_143_84 rfl (tk_192 hT) ⟨by decide, rfl, by decide, by decide⟩ rfl (fun _ => by decide) (pr_192_1 hm) ?_
    refine gx_st (L' := [(2, 192), (0, (k : Int))]) (S' := [(0, 8), (2, 193), (0, (k : Int))]) r_143_87 rfl rfl rfl ?_
    refine gx_ia (n := 8) (x := (c : Int)) r_143_89 rfl (tk_193 hT) (rfl) ⟨rfl, by decide⟩ (hc) ?_
    refine gx_ic (P := (c : Int) ≤ (k : Int)) r_143_90 (rfl) (fun h90 => ?_) (fun h90 => ?_)
    · have hkb : k = c := by omega
      rw [hkb]
      exact hout m hm hx hs hf
    · have hk12 : k < 12 := by omega
      have ba := gb_193_ac hm (k := k) (by omega)
      have hx2 := hx.1.2.1 k hk12 (by omega)
      obtain ⟨a, ha⟩ : ∃ a : Nat, m 193 (57 + k) = (a : Int) := ⟨(m 193 (57 + k)).toNat, by omega⟩
      have hq : (a : Int) / 100 = ((a / 100 : Nat) : Int) := by omega
      refine gx_st (L' := [(2, 192), (0, (k : Int))]) (S' := [(2, 192)]) r_143_93 rfl rfl rfl ?_
      refine gx_gf (x := 203) 2 r_143_94 rfl (tk_192 hT) ⟨by decide, rfl, by decide, by decide⟩ rfl (fun _ => by decide) (pr_192_19 hm) ?_
      refine gx_st (L' := [(2, 192), (0, (k : Int))]) (S' := [(2, 192), (2, 203)]) r_143_97 rfl rfl rfl ?_
      refine gx_gf (x := 193) 2 r_143_98 rfl (tk_192 hT) ⟨by decide, rfl, by decide, by decide⟩ rfl (fun _ => by decide) (pr_192_1 hm) ?_
      refine gx_st (L' := [(2, 192), (0, (k : Int))]) (S' := [(0, 57), (2, 193), (2, 203)]) r_143_101 rfl rfl rfl ?_
      refine gx_st (L' := [(2, 192), (0, (k : Int))]) (S' := [(0, (k : Int)), (0, 57), (2, 193), (2, 203)]) r_143_103 rfl rfl rfl ?_
      refine gx_ar (L' := [(2, 192), (0, (k : Int))]) (S' := [(2, 193), (2, 203)]) (t := 0) (e := w32 (57 + (k : Int))) (z := (k : Int) + 57) r_143_104 rfl rfl rfl (w32_eq (by omega) (by omega) (by omega)) ?_
      refine gx_ia (n := 57 + k) (x := (a : Int)) r_143_105 rfl (tk_193 hT) (by omega) ⟨rfl, by omega⟩ (ha) ?_
      refine gx_st (L' := [(2, 192), (0, (k : Int))]) (S' := [(0, 100), (0, (a : Int)), (2, 203)]) r_143_106 rfl rfl rfl ?_
      refine gx_dv (z := ((a : Int) / 100)) r_143_108 (by decide) (w32_td (by omega) rfl (by omega) (by omega)) ?_
      refine gx_st (L' := [(2, 192), (0, (k : Int))]) (S' := [(2, 192), (0, ((a : Int) / 100)), (2, 203)]) r_143_109 rfl rfl rfl ?_
      refine gx_gf (x := 193) 2 r_143_110 rfl (tk_192 hT) ⟨by decide, rfl, by decide, by decide⟩ rfl (fun _ => by decide) (pr_192_1 hm) ?_
      refine gx_st (L' := [(2, 192), (0, (k : Int))]) (S' := [(0, 57), (2, 193), (0, ((a : Int) / 100)), (2, 203)]) r_143_113 rfl rfl rfl ?_
      refine gx_st (L' := [(2, 192), (0, (k : Int))]) (S' := [(0, (k : Int)), (0, 57), (2, 193), (0, ((a : Int) / 100)), (2, 203)]) r_143_115 rfl rfl rfl ?_
      refine gx_ar (L' := [(2, 192), (0, (k : Int))]) (S' := [(2, 193), (0, ((a : Int) / 100)), (2, 203)]) (t := 0) (e := w32 (57 + (k : Int))) (z := (k : Int) + 57) r_143_116 rfl rfl rfl (w32_eq (by omega) (by omega) (by omega)) ?_
      refine gx_ia (n := 57 + k) (x := (a : Int)) r_143_117 rfl (tk_193 hT) (by omega) ⟨rfl, by omega⟩ (ha) ?_
      refine gx_st (L' := [(2, 192), (0, (k : Int))]) (S' := [(0, 100), (0, (a : Int)), (0, ((a : Int) / 100)), (2, 203)]) r_143_118 rfl rfl rfl ?_
      refine gx_rm (z := ((a : Int) % 100)) r_143_120 (by decide) (tm_eq (by omega) rfl) ?_
      obtain ⟨m1, e_m1⟩ : ∃ z, z = nu_up m 203 (a / 100) (((a : Int) % 100)) := ⟨_, rfl⟩
      have h_m1 : Gam m1 := by rw [e_m1]; exact gu_203 hm (i := a / 100) (by omega) (by omega)
      have f_m1 : Fr [90021, 90022, 90023, 90024, 90025, 90026, 90027, 97999, 101999, 102999] m0 m1 := Fr_tr hf (by rw [e_m1]; exact Fr_ua rfl rfl)
      have x_m1 : Ext m1 := Ext_fr (W := [101999]) (by rw [e_m1]; exact Fr_ua rfl rfl) (by decide) hx
      have s_m1 : FS m1 := FS_fr (W := [101999]) (by rw [e_m1]; exact Fr_ua rfl rfl) (by decide) hs
      refine gx_is (n := a / 100) (x := ((a : Int) % 100)) r_143_121 rfl (by decide) (tk_203 hT) (by omega) ⟨rfl, by omega⟩ e_m1.symm ?_
      refine gx_li (z := (k : Int) + 1) (L' := [(2, 192), (0, (k : Int) + 1)]) r_143_122 rfl (w32_eq (by omega) (by omega) (by omega)) rfl ?_
      refine gx_st (L' := [(2, 192), (0, (k : Int) + 1)]) (S' := []) r_143_125 rfl rfl rfl ?_
      rw [show (k : Int) + 1 = ((k + 1 : Nat) : Int) from rfl]
      refine ih (k + 1)  m1 (by omega) (by omega) h_m1 x_m1 s_m1 f_m1
end ASIT
theorem x_143 {T : List Kd} {m : Mm} (hT : TT T) (hm : Gam m) (hx : Ext m) : GX T 3 143 0 [(2, 192), (9, 0)] [] m (RV (fun m' => Gam m' ∧ Ext m' ∧ Fr [90021, 90022, 90023, 90024, 90025, 90026, 90027, 97999, 101999, 102999] m m' ∧ FS m')) := by
  refine gx_st (L' := [(2, 192), (9, 0)]) (S' := [(2, 192)]) r_143_0 rfl rfl rfl ?_
  refine gx_cv (nx := 4) (S2 := []) (x_124 hT hm hx) r_143_1 rfl rfl rfl rfl rfl (rcv_v rfl (tk_192 hT) (by decide) rfl (by decide)) rfl (by decide) rfl (fun n1 q1 => ?_)
  have h1 := q1.1
  have y1 := q1.2.1
  have f1 := Fr_sub (W' := [90021, 90022, 90023, 90024, 90025, 90026, 90027, 97999, 101999, 102999]) q1.2.2.1 (by decide)
  have s1 := q1.2.2.2
  refine gx_st (L' := [(2, 192), (9, 0)]) (S' := [(2, 192)]) r_143_4 rfl rfl rfl ?_
  refine gx_st (L' := [(2, 192), (9, 0)]) (S' := [(0, (-1)), (2, 192)]) r_143_5 rfl rfl rfl ?_
  obtain ⟨m1, e_m1⟩ : ∃ z, z = nu_up n1 192 23 (-1) := ⟨_, rfl⟩
  have h_m1 : Gam m1 := by rw [e_m1]; exact gu_192_23 h1 (by omega) (by omega)
  have f_m1 : Fr [90021, 90022, 90023, 90024, 90025, 90026, 90027, 97999, 101999, 102999] m m1 := Fr_tr f1 (by rw [e_m1]; exact Fr_up rfl)
  have x_m1 : Ext m1 := Ext_fr (W := [90023]) (by rw [e_m1]; exact Fr_up rfl) (by decide) y1
  have s_m1 : FS m1 := FS_fr (W := [90023]) (by rw [e_m1]; exact Fr_up rfl) (by decide) s1
  refine gx_pf (x := (-1)) 0 r_143_6 rfl (tk_192 hT) ⟨by decide, rfl, by decide, by decide⟩ rfl (fun z => absurd z (by decide)) (fun z => absurd z (by decide)) e_m1.symm ?_
  refine gx_st (L' := [(2, 192), (9, 0)]) (S' := [(2, 192)]) r_143_9 rfl rfl rfl ?_
  refine gx_st (L' := [(2, 192), (9, 0)]) (S' := [(0, (-1)), (2, 192)]) r_143_10 rfl rfl rfl ?_
  obtain ⟨m2, e_m2⟩ : ∃ z, z = nu_up m1 192 24 (-1) := ⟨_, rfl⟩
  have h_m2 : Gam m2 := by rw [e_m2]; exact gu_192_24 h_m1 (by omega) (by omega)
  have f_m2 : Fr [90021, 90022, 90023, 90024, 90025, 90026, 90027, 97999, 101999, 102999] m m2 := Fr_tr f_m1 (by rw [e_m2]; exact Fr_up rfl)
  have x_m2 : Ext m2 := Ext_fr (W := [90024]) (by rw [e_m2]; exact Fr_up rfl) (by decide) x_m1
  have s_m2 : FS m2 := FS_fr (W := [90024]) (by rw [e_m2]; exact Fr_up rfl) (by decide) s_m1
  refine gx_pf (x := (-1)) 0 r_143_11 rfl (tk_192 hT) ⟨by decide, rfl, by decide, by decide⟩ rfl (fun z => absurd z (by decide)) (fun z => absurd z (by decide)) e_m2.symm ?_
  refine gx_st (L' := [(2, 192), (9, 0)]) (S' := [(2, 192)]) r_143_14 rfl rfl rfl ?_
  refine gx_st (L' := [(2, 192), (9, 0)]) (S' := [(0, 0), (2, 192)]) r_143_15 rfl rfl rfl ?_
  obtain ⟨m3, e_m3⟩ : ∃ z, z = nu_up m2 192 25 0 := ⟨_, rfl⟩
  have h_m3 : Gam m3 := by rw [e_m3]; exact gu_192_25 h_m2 (by omega) (by omega)
  have f_m3 : Fr [90021, 90022, 90023, 90024, 90025, 90026, 90027, 97999, 101999, 102999] m m3 := Fr_tr f_m2 (by rw [e_m3]; exact Fr_up rfl)
  have x_m3 : Ext m3 := Ext_fr (W := [90025]) (by rw [e_m3]; exact Fr_up rfl) (by decide) x_m2
  have s_m3 : FS m3 := FS_fr (W := [90025]) (by rw [e_m3]; exact Fr_up rfl) (by decide) s_m2
  refine gx_pf (x := 0) 0 r_143_16 rfl (tk_192 hT) ⟨by decide, rfl, by decide, by decide⟩ rfl (fun z => absurd z (by decide)) (fun z => absurd z (by decide)) e_m3.symm ?_
  refine gx_st (L' := [(2, 192), (9, 0)]) (S' := [(2, 192)]) r_143_19 rfl rfl rfl ?_
  refine gx_st (L' := [(2, 192), (9, 0)]) (S' := [(0, 0), (2, 192)]) r_143_20 rfl rfl rfl ?_
  obtain ⟨m4, e_m4⟩ : ∃ z, z = nu_up m3 192 26 0 := ⟨_, rfl⟩
  have h_m4 : Gam m4 := by rw [e_m4]; exact gu_192_26 h_m3 (by omega) (by omega)
  have f_m4 : Fr [90021, 90022, 90023, 90024, 90025, 90026, 90027, 97999, 101999, 102999] m m4 := Fr_tr f_m3 (by rw [e_m4]; exact Fr_up rfl)
  have x_m4 : Ext m4 := Ext_fr (W := [90026]) (by rw [e_m4]; exact Fr_up rfl) (by decide) x_m3
  have s_m4 : FS m4 := FS_fr (W := [90026]) (by rw [e_m4]; exact Fr_up rfl) (by decide) s_m3
  refine gx_pf (x := 0) 0 r_143_21 rfl (tk_192 hT) ⟨by decide, rfl, by decide, by decide⟩ rfl (fun z => absurd z (by decide)) (fun z => absurd z (by decide)) e_m4.symm ?_
  refine gx_st (L' := [(2, 192), (9, 0)]) (S' := [(2, 192)]) r_143_24 rfl rfl rfl ?_
  refine gx_st (L' := [(2, 192), (9, 0)]) (S' := [(0, (-1)), (2, 192)]) r_143_25 rfl rfl rfl ?_
  obtain ⟨m5, e_m5⟩ : ∃ z, z = nu_up m4 192 27 (-1) := ⟨_, rfl⟩
  have h_m5 : Gam m5 := by rw [e_m5]; exact gu_192_27 h_m4 (by omega) (by omega)
  have f_m5 : Fr [90021, 90022, 90023, 90024, 90025, 90026, 90027, 97999, 101999, 102999] m m5 := Fr_tr f_m4 (by rw [e_m5]; exact Fr_up rfl)
  have x_m5 : Ext m5 := Ext_fr (W := [90027]) (by rw [e_m5]; exact Fr_up rfl) (by decide) x_m4
  have s_m5 : FS m5 := FS_fr (W := [90027]) (by rw [e_m5]; exact Fr_up rfl) (by decide) s_m4
  refine gx_pf (x := (-1)) 0 r_143_26 rfl (tk_192 hT) ⟨by decide, rfl, by decide, by decide⟩ rfl (fun z => absurd z (by decide)) (fun z => absurd z (by decide)) e_m5.symm ?_
  refine gx_st (L' := [(2, 192), (9, 0)]) (S' := [(2, 192)]) r_143_29 rfl rfl rfl ?_
  refine gx_st (L' := [(2, 192), (9, 0)]) (S' := [(0, (-1)), (2, 192)]) r_143_30 rfl rfl rfl ?_
  obtain ⟨m6, e_m6⟩ : ∃ z, z = nu_up m5 192 21 (-1) := ⟨_, rfl⟩
  have h_m6 : Gam m6 := by rw [e_m6]; exact gu_192_21 h_m5 (by omega) (by omega)
  have f_m6 : Fr [90021, 90022, 90023, 90024, 90025, 90026, 90027, 97999, 101999, 102999] m m6 := Fr_tr f_m5 (by rw [e_m6]; exact Fr_up rfl)
  have x_m6 : Ext m6 := Ext_fr (W := [90021]) (by rw [e_m6]; exact Fr_up rfl) (by decide) x_m5
  have s_m6 : FS m6 := FS_fr (W := [90021]) (by rw [e_m6]; exact Fr_up rfl) (by decide) s_m5
  refine gx_pf (x := (-1)) 0 r_143_31 rfl (tk_192 hT) ⟨by decide, rfl, by decide, by decide⟩ rfl (fun z => absurd z (by decide)) (fun z => absurd z (by decide)) e_m6.symm ?_
  refine gx_st (L' := [(2, 192), (9, 0)]) (S' := [(2, 192)]) r_143_34 rfl rfl rfl ?_
  refine gx_st (L' := [(2, 192), (9, 0)]) (S' := [(0, (-1)), (2, 192)]) r_143_35 rfl rfl rfl ?_
  obtain ⟨m7, e_m7⟩ : ∃ z, z = nu_up m6 192 22 (-1) := ⟨_, rfl⟩
  have h_m7 : Gam m7 := by rw [e_m7]; exact gu_192_22 h_m6 (by omega) (by omega)
  have f_m7 : Fr [90021, 90022, 90023, 90024, 90025, 90026, 90027, 97999, 101999, 102999] m m7 := Fr_tr f_m6 (by rw [e_m7]; exact Fr_up rfl)
  have x_m7 : Ext m7 := Ext_fr (W := [90022]) (by rw [e_m7]; exact Fr_up rfl) (by decide) x_m6
  have s_m7 : FS m7 := FS_fr (W := [90022]) (by rw [e_m7]; exact Fr_up rfl) (by decide) s_m6
  refine gx_pf (x := (-1)) 0 r_143_36 rfl (tk_192 hT) ⟨by decide, rfl, by decide, by decide⟩ rfl (fun z => absurd z (by decide)) (fun z => absurd z (by decide)) e_m7.symm ?_
  refine gx_st (L' := [(2, 192), (9, 0)]) (S' := [(0, 0)]) r_143_39 rfl rfl rfl ?_
  refine gx_st (L' := [(2, 192), (0, 0)]) (S' := []) r_143_40 rfl rfl rfl ?_
  obtain ⟨c, hc⟩ : ∃ c : Nat, m 193 8 = (c : Int) := ⟨(m 193 8).toNat, by have := gb_193_8 hm; omega⟩
  refine asit_a hT (m0 := m) (fun p1 g1 z1 w1 r1 => ?_) 6 0 m7 (by omega) (by omega) h_m7 x_m7 s_m7 f_m7
  refine gx_st (L' := [(2, 192), (0, 5)]) (S' := [(0, 0)]) r_143_59 rfl rfl rfl ?_
  refine gx_st (L' := [(2, 192), (0, 0)]) (S' := []) r_143_60 rfl rfl rfl ?_
  refine asit_b hT (m0 := m) (fun p2 g2 z2 w2 r2 => ?_) 13 0 p1 (by omega) (by omega) g1 z1 w1 r1
  refine gx_st (L' := [(2, 192), (0, 12)]) (S' := [(0, 0)]) r_143_80 rfl rfl rfl ?_
  refine gx_st (L' := [(2, 192), (0, 0)]) (S' := []) r_143_81 rfl rfl rfl ?_
  refine asit_c hT (m0 := m) hc (fun p3 g3 z3 w3 r3 => ?_) (c + 1) 0 p2 (by omega) (by omega) g2 z2 w2 r2
  exact gx_rt r_143_128 rfl rfl ⟨rfl, g3, z3, r3, w3⟩
