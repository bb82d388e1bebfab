/-! tell: the class -/
theorem r_288_0 : row 288 0 = some (.aload_n 0, 1, 0, 0, 0, 0) := rfl
theorem r_288_1 : row 288 1 = some (.getfield 43, 4, 7, 9, 2, 2019) := rfl
theorem r_288_4 : row 288 4 = some (.iconst 0, 5, 0, 0, 0, 0) := rfl
theorem r_288_5 : row 288 5 = some (.invokestatic 59, 8, 240, 2, 10, 3174) := rfl
theorem r_288_8 : row 288 8 = some (.aload_n 0, 9, 0, 0, 0, 0) := rfl
theorem r_288_9 : row 288 9 = some (.iconst 0, 10, 0, 0, 0, 0) := rfl
theorem r_288_10 : row 288 10 = some (.putfield 46, 13, 7, 10, 0, 2021) := rfl
theorem r_288_13 : row 288 13 = some (.aload_n 0, 14, 0, 0, 0, 0) := rfl
theorem r_288_14 : row 288 14 = some (.iconst (-1), 15, (-1), 0, 0, 0) := rfl
theorem r_288_15 : row 288 15 = some (.putfield 50, 18, 7, 11, 0, 2023) := rfl
theorem r_288_18 : row 288 18 = some (.aload_n 0, 19, 0, 0, 0, 0) := rfl
theorem r_288_19 : row 288 19 = some (.getfield 12, 22, 7, 0, 2, 2003) := rfl
theorem r_288_22 : row 288 22 = some (.aload_n 1, 23, 0, 0, 0, 0) := rfl
theorem r_288_23 : row 288 23 = some (.iload_n 3, 24, 0, 0, 0, 0) := rfl
theorem r_288_24 : row 288 24 = some (.iload 4, 26, 0, 0, 0, 0) := rfl
theorem r_288_26 : row 288 26 = some (.invokevirtual 65, 29, 266, 3, 10, 3175) := rfl
theorem r_288_29 : row 288 29 = some (.aload_n 0, 30, 0, 0, 0, 0) := rfl
theorem r_288_30 : row 288 30 = some (.iconst 0, 31, 0, 0, 0, 0) := rfl
theorem r_288_31 : row 288 31 = some (.invokevirtual 69, 34, 290, 1, 0, 3181) := rfl
theorem r_288_34 : row 288 34 = some (.iconst 0, 35, 0, 0, 0, 0) := rfl
theorem r_288_35 : row 288 35 = some (.istore 5, 37, 0, 0, 0, 0) := rfl
theorem r_288_37 : row 288 37 = some (.iload 5, 39, 0, 0, 0, 0) := rfl
theorem r_288_39 : row 288 39 = some (.aload_n 1, 40, 0, 0, 0, 0) := rfl
theorem r_288_40 : row 288 40 = some (.getfield 73, 43, 3, 2, 10, 1076) := rfl
theorem r_288_43 : row 288 43 = some (.if_icmp .ge 54, 46, 97, 0, 0, 0) := rfl
theorem r_288_46 : row 288 46 = some (.aload_n 0, 47, 0, 0, 0, 0) := rfl
theorem r_288_47 : row 288 47 = some (.getfield 12, 50, 7, 0, 2, 2003) := rfl
theorem r_288_50 : row 288 50 = some (.getfield 78, 53, 4, 1, 10, 1204) := rfl
theorem r_288_53 : row 288 53 = some (.istore 6, 55, 0, 0, 0, 0) := rfl
theorem r_288_55 : row 288 55 = some (.aload_n 0, 56, 0, 0, 0, 0) := rfl
theorem r_288_56 : row 288 56 = some (.getfield 12, 59, 7, 0, 2, 2003) := rfl
theorem r_288_59 : row 288 59 = some (.aload_n 1, 60, 0, 0, 0, 0) := rfl
theorem r_288_60 : row 288 60 = some (.iload 5, 62, 0, 0, 0, 0) := rfl
theorem r_288_62 : row 288 62 = some (.aload_n 2, 63, 0, 0, 0, 0) := rfl
theorem r_288_63 : row 288 63 = some (.iload 5, 65, 0, 0, 0, 0) := rfl
theorem r_288_65 : row 288 65 = some (.invokevirtual 81, 68, 232, 1, 10, 3187) := rfl
theorem r_288_68 : row 288 68 = some (.invokevirtual 87, 71, 270, 3, 10, 3192) := rfl
theorem r_288_71 : row 288 71 = some (.istore 7, 73, 0, 0, 0, 0) := rfl
theorem r_288_73 : row 288 73 = some (.aload_n 0, 74, 0, 0, 0, 0) := rfl
theorem r_288_74 : row 288 74 = some (.iload 5, 76, 0, 0, 0, 0) := rfl
theorem r_288_76 : row 288 76 = some (.iload 7, 78, 0, 0, 0, 0) := rfl
theorem r_288_78 : row 288 78 = some (.iload 6, 80, 0, 0, 0, 0) := rfl
theorem r_288_80 : row 288 80 = some (.invokevirtual 91, 83, 289, 3, 0, 4005) := rfl
theorem r_288_83 : row 288 83 = some (.aload_n 0, 84, 0, 0, 0, 0) := rfl
theorem r_288_84 : row 288 84 = some (.iload 5, 86, 0, 0, 0, 0) := rfl
theorem r_288_86 : row 288 86 = some (.iconst 1, 87, 1, 0, 0, 0) := rfl
theorem r_288_87 : row 288 87 = some (.iadd, 88, 0, 0, 0, 0) := rfl
theorem r_288_88 : row 288 88 = some (.invokevirtual 69, 91, 290, 1, 0, 3181) := rfl
theorem r_288_91 : row 288 91 = some (.iinc 5 1, 94, 0, 0, 0, 0) := rfl
theorem r_288_94 : row 288 94 = some (.goto (-57), 97, 37, 0, 0, 0) := rfl
theorem r_288_97 : row 288 97 = some (.aload_n 0, 98, 0, 0, 0, 0) := rfl
theorem r_288_98 : row 288 98 = some (.aload_n 0, 99, 0, 0, 0, 0) := rfl
theorem r_288_99 : row 288 99 = some (.getfield 12, 102, 7, 0, 2, 2003) := rfl
theorem r_288_102 : row 288 102 = some (.getfield 95, 105, 4, 6, 10, 1215) := rfl
theorem r_288_105 : row 288 105 = some (.putfield 53, 108, 7, 12, 0, 2026) := rfl
theorem r_288_108 : row 288 108 = some (.aload_n 0, 109, 0, 0, 0, 0) := rfl
theorem r_288_109 : row 288 109 = some (.aload_n 0, 110, 0, 0, 0, 0) := rfl
theorem r_288_110 : row 288 110 = some (.getfield 12, 113, 7, 0, 2, 2003) := rfl
theorem r_288_113 : row 288 113 = some (.getfield 96, 116, 4, 5, 10, 1213) := rfl
theorem r_288_116 : row 288 116 = some (.putfield 56, 119, 7, 13, 0, 2028) := rfl
theorem r_288_119 : row 288 119 = some (.return_, 120, 0, 0, 0, 0) := rfl
theorem told_e {m m1 : Mm} {so k : Nat} {w s0 : Wd} {D : Nat → Nat → Int} {A : Nat → Int} (h : ToldR m so w D A s0 k) (e10 : m1 so 10 = m so 10) (e11 : m1 so 11 = m so 11) (e : ∀ p i : Nat, so + 4 ≤ p → p ≤ so + 12 → m1 p i = m p i) : ToldR m1 so w D A s0 k := by
  obtain ⟨t1, t2, t3, t4, t5⟩ := h
  refine ⟨fun h hh => ?_, fun h hh => ?_, fun b hb => ?_, ?_, ?_⟩
  · obtain ⟨u1, u2, u3, u4, u5⟩ := t1 h hh
    exact ⟨(e _ _ (by omega) (by omega)).trans u1, (e _ _ (by omega) (by omega)).trans u2, (e _ _ (by omega) (by omega)).trans u3, fun b hb => (e _ _ (by omega) (by omega)).trans (u4 b hb), fun t ht h5 => (e _ _ (by omega) (by omega)).trans (u5 t ht h5)⟩
  · obtain ⟨u1, u2⟩ := t2 h hh
    exact ⟨(e _ _ (by omega) (by omega)).trans u1, (e _ _ (by omega) (by omega)).trans u2⟩
  · exact (e _ _ (by omega) (by omega)).trans (t3 b hb)
  · exact e10.trans t4
  · exact e11.trans t5
theorem story_e {m m1 : Mm} {so n : Nat} {w s0 : Wd} {D : Nat → Nat → Int} {A : Nat → Int} (h : StoryD m so w D A s0 n) (e0 : ∀ i : Nat, 10 ≤ i → i ≤ 13 → m1 so i = m so i) (e : ∀ p i : Nat, so + 4 ≤ p → p ≤ so + 12 → m1 p i = m p i) : StoryD m1 so w D A s0 n :=
  ⟨told_e h.1 (e0 10 (by decide) (by decide)) (e0 11 (by decide) (by decide)) e, (e0 12 (by decide) (by decide)).trans h.2.1, (e0 13 (by decide) (by decide)).trans h.2.2⟩
theorem frs_tr {so : Nat} {a b c : Mm} (h1 : FrS so a b) (h2 : FrS so b c) : FrS so a c := fun p i h => (h2 p i h).trans (h1 p i h)
theorem frs_o {so : Nat} {a b : Mm} (h : FrO 8 (so + 1) a b) : FrS so a b := fun p i x => h p i (fun z => by omega) (by omega) (by omega)
theorem frs_n {so h : Nat} {a b : Mm} (f : FrN_ so h a b) : FrS so a b := fun p i x => f p i (by omega) (by omega) (by omega) (by omega) (by omega)
theorem frs_d {so h : Nat} {a b : Mm} {v b0 s1 : Int} (d : DeedR a b so h v b0 s1) : FrS so a b := fun p i x => d.2.2.2.2.2 p i (by omega) (by omega) (by omega) (by omega) (by omega)
theorem wd_frs {so o : Nat} {a b : Mm} {w : Wd} (h : WD a o w) (f : FrS so a b) (hd : so + 13 ≤ o ∨ o + 9 ≤ so) : WD b o w := WD_eq h (fun p i p1 p2 _ => f p i (by omega))
theorem ir_frs {so o : Nat} {a b : Mm} (h : IsleR a o) (f : FrS so a b) (hd : so + 13 ≤ o ∨ o + 9 ≤ so) : IsleR b o := by
  have e : ∀ i : Nat, b o i = a o i := fun i => f o i (by omega)
  unfold IsleR at h ⊢
  rw [e, e, e, e, e, e, e, e]
  exact h
theorem ar_frs {so ac : Nat} {a b : Mm} (h : ActsR a ac) (f : FrS so a b) (hd : so + 13 ≤ ac ∨ ac + 3 ≤ so) : ActsR b ac := ⟨(f ac 0 (by omega)).trans h.1, (f ac 1 (by omega)).trans h.2⟩
theorem str_o {so : Nat} {a b : Mm} (h : StR a so) (f : FrO 8 (so + 1) a b) : StR b so := str_e h (fun i _ => f so i (fun z => by omega) (by omega) (by omega)) (fun i hi => f (so + 1) i (fun z => by omega) (by omega) (by omega))
theorem str_n {so h : Nat} {a b : Mm} (s : StR a so) (f : FrN_ so h a b) : StR b so := str_e s (fun i _ => f so i (by omega) (by omega) (by omega) (by omega) (by omega)) (fun i _ => f (so + 1) i (by omega) (by omega) (by omega) (by omega) (by omega))
theorem str_d {so h : Nat} {a b : Mm} {v b0 s1 : Int} (s : StR a so) (d : DeedR a b so h v b0 s1) : StR b so := str_e s (fun i hi => d.2.2.2.2.2 so i (by omega) (by omega) (by omega) (by omega) (by omega)) (fun i _ => d.2.2.2.2.2 (so + 1) i (by omega) (by omega) (by omega) (by omega) (by omega))
theorem rds_e {a b : Mm} {r : Nat} {w s : Wd} (h : RdS w a r s) (e : ∀ p i : Nat, r ≤ p → p ≤ r + 2 → b p i = a p i) : RdS w b r s := by
  obtain ⟨a0, a1, a2, a3, a4, a5, a6, a7, a8⟩ := h
  exact ⟨(e r 0 (by omega) (by omega)).trans a0, (e r 1 (by omega) (by omega)).trans a1, (e r 2 (by omega) (by omega)).trans a2, (e r 3 (by omega) (by omega)).trans a3, (e r 4 (by omega) (by omega)).trans a4, (e r 5 (by omega) (by omega)).trans a5, (e r 6 (by omega) (by omega)).trans a6, fun c hc => (e (r + 1) c (by omega) (by omega)).trans (a7 c hc), fun t ht h5 => (e (r + 2) t (by omega) (by omega)).trans (a8 t ht h5)⟩
theorem rds_n {so h : Nat} {a b : Mm} {w s : Wd} (s1 : RdS w a (so + 1) s) (f : FrN_ so h a b) : RdS w b (so + 1) s := rds_e s1 (fun p i _ _ => f p i (by omega) (by omega) (by omega) (by omega) (by omega))
theorem rds_d {so h : Nat} {a b : Mm} {w s : Wd} {v b0 s1 : Int} (s2 : RdS w a (so + 1) s) (d : DeedR a b so h v b0 s1) : RdS w b (so + 1) s := rds_e s2 (fun p i _ _ => d.2.2.2.2.2 p i (by omega) (by omega) (by omega) (by omega) (by omega))
theorem hour_3 {w s : Wd} {D : Nat → Nat → Int} {h a : Int} (hB : WB w) (hS : SBw w s) (e : (hourF w D h a s).2 = 3) : ∃ b : Nat, b < 5 ∧ s 1 = (b : Int) := by
  rcases hS with z | ⟨b, p, hb, hb7, _, _⟩
  · rw [hour_0 z] at e; exact absurd (show (0 : Int) = 3 from e) (by decide)
  · exact ⟨b, by have := hB.2.2.2.2.1; omega, hb⟩
section STORY
variable {T : List Kd} {m : Mm}
theorem l_288 (hT : TT T) {o : Nat} (ho : IsleT T o) (hor : IsleR m o) {w : Wd} (hw : WD m o w) {so : Nat} (hst : StT T so) {ac : Nat} (hac : ActsT T ac) (hacr : ActsR m ac) (hdo : so + 13 ≤ o ∨ o + 9 ≤ so) (hda : so + 13 ≤ ac ∨ ac + 3 ≤ so) {D : Nat → Nat → Int} (hD : WyD w D) (hA : ∀ h : Nat, h < 12 → 0 ≤ m (ac + 1) h ∧ m (ac + 1) h ≤ 16) {nn : Nat} (hn : w 1 = (nn : Int)) (hn12 : nn ≤ 12) {s0 : Wd} (hS : SB w s0 0) {b0 p0 : Int} : ∀ (N k : Nat) (n : Mm) (x6 x7 : AV), nn - k < N → k ≤ nn → ¬ x6.1 = 1 → ¬ x7.1 = 1 → StR n so → FrS so m n → RdS w n (so + 1) (runF w D (m (ac + 1)) s0 k) → ToldR n so w D (m (ac + 1)) s0 k → GX T 4 288 37 [(2, (so : Int)), (2, (o : Int)), (2, (ac : Int)), (0, b0), (0, p0), (0, (k : Int)), x6, x7] [] n (RV (fun m1 => StoryD m1 so w D (m (ac + 1)) s0 nn ∧ FrS so m m1)) := by
  have ho0 := ho.1
  have hso0 := hst.1.1
  have hac0 := hac.1
  intro N
  induction N with
  | zero => intro k n x6 x7 hN; exact absurd hN (Nat.not_lt_zero _)
  | succ N ih =>
    intro k n x6 x7 hN hk hx6 hx7 hsr hfs hs ht
    have hw_n : WD n o w := wd_frs hw hfs hdo
    have ir_n : IsleR n o := ir_frs hor hfs hdo
    have ar_n : ActsR n ac := ar_frs hacr hfs hda
    have hSk := sb_run hw.2.1 hw.2.2.2 hD hA hS k (by omega)
    obtain ⟨g, e_g⟩ : ∃ z, z = runF w D (m (ac + 1)) s0 k := ⟨_, rfl⟩
    refine gx_st (L' := [(2, (so : Int)), (2, (o : Int)), (2, (ac : Int)), (0, b0), (0, p0), (0, (k : Int)), x6, x7]) (S' := [(0, (k : Int))]) r_288_37 rfl rfl rfl ?_
    refine gx_st (L' := [(2, (so : Int)), (2, (o : Int)), (2, (ac : Int)), (0, b0), (0, p0), (0, (k : Int)), x6, x7]) (S' := [(2, (o : Int)), (0, (k : Int))]) r_288_39 rfl rfl rfl ?_
    refine gx_gf (x := (nn : Int)) 0 r_288_40 (rfl) (tisle_0 ho) ⟨by omega, rfl, by decide, by decide⟩ rfl (fun z => absurd z (by decide)) (hw_n.1.2.2.1.trans hn) ?_
    refine gx_ic (P := (nn : Int) ≤ (k : Int)) r_288_43 (rfl) (fun h43 => ?_) (fun h43 => ?_)
    · refine gx_st (L' := [(2, (so : Int)), (2, (o : Int)), (2, (ac : Int)), (0, b0), (0, p0), (0, (k : Int)), x6, x7]) (S' := [(2, (so : Int))]) r_288_97 rfl rfl rfl ?_
      refine gx_st (L' := [(2, (so : Int)), (2, (o : Int)), (2, (ac : Int)), (0, b0), (0, p0), (0, (k : Int)), x6, x7]) (S' := [(2, (so : Int)), (2, (so : Int))]) r_288_98 rfl rfl rfl ?_
      refine gx_gf (x := (so : Int) + 1) 2 r_288_99 (rfl) (tstt_0 hst) ⟨by omega, rfl, by decide, by decide⟩ rfl (fun _ => by omega) (hsr.1.1) ?_
      refine gx_gf (x := (g 16)) 0 r_288_102 (by omega) (tstt_1 hst) ⟨by omega, rfl, by decide, by decide⟩ rfl (fun z => absurd z (by decide)) ((by rw [e_g]; exact hs.2.2.2.2.2.2.1)) ?_
      obtain ⟨m1, e_m1⟩ : ∃ z, z = nu_up n so 12 (g 16) := ⟨_, rfl⟩
      refine gx_pf (x := (g 16)) 0 r_288_105 (rfl) (tstt_0 hst) ⟨by omega, rfl, by decide, by decide⟩ rfl (fun z => absurd z (by decide)) (fun z => absurd z (by decide)) e_m1.symm ?_
      refine gx_st (L' := [(2, (so : Int)), (2, (o : Int)), (2, (ac : Int)), (0, b0), (0, p0), (0, (k : Int)), x6, x7]) (S' := [(2, (so : Int))]) r_288_108 rfl rfl rfl ?_
      refine gx_st (L' := [(2, (so : Int)), (2, (o : Int)), (2, (ac : Int)), (0, b0), (0, p0), (0, (k : Int)), x6, x7]) (S' := [(2, (so : Int)), (2, (so : Int))]) r_288_109 rfl rfl rfl ?_
      refine gx_gf (x := (so : Int) + 1) 2 r_288_110 (rfl) (tstt_0 hst) ⟨by omega, rfl, by decide, by decide⟩ rfl (fun _ => by omega) (by show m1 so 0 = _; rw [e_m1, nu_ne (by decide)]; exact hsr.1.1) ?_
      refine gx_gf (x := (g 5)) 0 r_288_113 (by omega) (tstt_1 hst) ⟨by omega, rfl, by decide, by decide⟩ rfl (fun z => absurd z (by decide)) (by show m1 (so + 1) 5 = _; rw [e_m1, nu_no (by omega)]; exact (by rw [e_g]; exact hs.2.2.2.2.2.1)) ?_
      obtain ⟨m2, e_m2⟩ : ∃ z, z = nu_up m1 so 13 (g 5) := ⟨_, rfl⟩
      refine gx_pf (x := (g 5)) 0 r_288_116 (rfl) (tstt_0 hst) ⟨by omega, rfl, by decide, by decide⟩ rfl (fun z => absurd z (by decide)) (fun z => absurd z (by decide)) e_m2.symm ?_
      have hkn : k = nn := by omega
      rw [hkn] at ht
      rw [hkn] at e_g
      exact gx_rt r_288_119 rfl rfl ⟨rfl, ⟨told_e ht (by rw [e_m2, nu_x (by omega), e_m1, nu_x (by omega)]) (by rw [e_m2, nu_x (by omega), e_m1, nu_x (by omega)]) (fun p i _ _ => by rw [e_m2, nu_x (by omega), e_m1, nu_x (by omega)]), by show m2 so 12 = _; rw [e_m2, nu_ne (by decide), e_m1, nu_at, e_g], by show m2 so 13 = _; rw [e_m2, nu_at, e_g]⟩, fun p i z => by rw [e_m2, nu_x (by omega), e_m1, nu_x (by omega)]; exact hfs p i z⟩
    · refine gx_st (L' := [(2, (so : Int)), (2, (o : Int)), (2, (ac : Int)), (0, b0), (0, p0), (0, (k : Int)), x6, x7]) (S' := [(2, (so : Int))]) r_288_46 rfl rfl rfl ?_
      refine gx_gf (x := (so : Int) + 1) 2 r_288_47 (rfl) (tstt_0 hst) ⟨by omega, rfl, by decide, by decide⟩ rfl (fun _ => by omega) (hsr.1.1) ?_
      refine gx_gf (x := (g 1)) 0 r_288_50 (by omega) (tstt_1 hst) ⟨by omega, rfl, by decide, by decide⟩ rfl (fun z => absurd z (by decide)) ((by rw [e_g]; exact hs.2.1)) ?_
      refine gx_st (L' := [(2, (so : Int)), (2, (o : Int)), (2, (ac : Int)), (0, b0), (0, p0), (0, (k : Int)), (0, (g 1)), x7]) (S' := []) r_288_53 rfl rfl rfl ?_
      refine gx_st (L' := [(2, (so : Int)), (2, (o : Int)), (2, (ac : Int)), (0, b0), (0, p0), (0, (k : Int)), (0, (g 1)), x7]) (S' := [(2, (so : Int))]) r_288_55 rfl rfl rfl ?_
      refine gx_gf (x := (so : Int) + 1) 2 r_288_56 (rfl) (tstt_0 hst) ⟨by omega, rfl, by decide, by decide⟩ rfl (fun _ => by omega) (hsr.1.1) ?_
      refine gx_st (L' := [(2, (so : Int)), (2, (o : Int)), (2, (ac : Int)), (0, b0), (0, p0), (0, (k : Int)), (0, (g 1)), x7]) (S' := [(2, (o : Int)), (2, (so : Int) + 1)]) r_288_59 rfl rfl rfl ?_
      refine gx_st (L' := [(2, (so : Int)), (2, (o : Int)), (2, (ac : Int)), (0, b0), (0, p0), (0, (k : Int)), (0, (g 1)), x7]) (S' := [(0, (k : Int)), (2, (o : Int)), (2, (so : Int) + 1)]) r_288_60 rfl rfl rfl ?_
      refine gx_st (L' := [(2, (so : Int)), (2, (o : Int)), (2, (ac : Int)), (0, b0), (0, p0), (0, (k : Int)), (0, (g 1)), x7]) (S' := [(2, (ac : Int)), (0, (k : Int)), (2, (o : Int)), (2, (so : Int) + 1)]) r_288_62 rfl rfl rfl ?_
      refine gx_st (L' := [(2, (so : Int)), (2, (o : Int)), (2, (ac : Int)), (0, b0), (0, p0), (0, (k : Int)), (0, (g 1)), x7]) (S' := [(0, (k : Int)), (2, (ac : Int)), (0, (k : Int)), (2, (o : Int)), (2, (so : Int) + 1)]) r_288_63 rfl rfl rfl ?_
      have hk12 : k < 12 := by omega
      have eA : n (ac + 1) k = m (ac + 1) k := hfs (ac + 1) k (by omega)
      refine gx_ci (nx := 68) (S2 := [(0, (k : Int)), (2, (o : Int)), (2, (so : Int) + 1)]) (w_232 hT hac ar_n (h := k) hk12) r_288_65 rfl rfl rfl rfl rfl (rcv_v rfl (tacts_0 hac) (by omega) rfl (by decide)) rfl (by decide) rfl (fun x65 n65 q65 => ?_)
      obtain ⟨e_x65, z_x65⟩ := q65
      have y_x65 := z_x65.symm
      subst y_x65
      rw [e_x65, eA]
      show GX T 4 288 68 [(2, (so : Int)), (2, (o : Int)), (2, (ac : Int)), (0, b0), (0, p0), (0, (k : Int)), (0, (g 1)), x7] [(0, (m (ac + 1) k)), (0, (k : Int)), (2, (o : Int)), (2, (so : Int) + 1)] n (RV (fun m1 => StoryD m1 so w D (m (ac + 1)) s0 nn ∧ FrS so m m1))
      have hs_g : RdS w n (so + 1) g := by rw [e_g]; exact hs
      have hSg : SB w g k := by rw [e_g]; exact hSk
      refine gx_ci (nx := 71) (S2 := []) (pass_x hT ho ir_n hw_n hst.2 hsr.2 hs_g (by omega) hD (h := k) (by omega) hSg (hA k hk12)) r_288_68 rfl rfl rfl rfl rfl (rcv_w rfl (by omega) (tstt_1 hst) (by omega) rfl (by decide)) rfl (by decide) rfl (fun x68 n68 q68 => ?_)
      obtain ⟨v68, s68, f68, w68⟩ := q68
      have r68 : StR n68 so := str_o hsr f68
      have vd : x68 = deedF w D (m (ac + 1)) s0 k := by rw [v68, e_g]; rfl
      have sd : (hourF w D (k : Int) (m (ac + 1) k) g).1 = runF w D (m (ac + 1)) s0 (k + 1) := by rw [e_g]; rfl
      rw [sd] at s68
      show GX T 4 288 71 [(2, (so : Int)), (2, (o : Int)), (2, (ac : Int)), (0, b0), (0, p0), (0, (k : Int)), (0, (g 1)), x7] [(0, x68)] n68 (RV (fun m1 => StoryD m1 so w D (m (ac + 1)) s0 nn ∧ FrS so m m1))
      refine gx_st (L' := [(2, (so : Int)), (2, (o : Int)), (2, (ac : Int)), (0, b0), (0, p0), (0, (k : Int)), (0, (g 1)), (0, x68)]) (S' := []) r_288_71 rfl rfl rfl ?_
      refine gx_st (L' := [(2, (so : Int)), (2, (o : Int)), (2, (ac : Int)), (0, b0), (0, p0), (0, (k : Int)), (0, (g 1)), (0, x68)]) (S' := [(2, (so : Int))]) r_288_73 rfl rfl rfl ?_
      refine gx_st (L' := [(2, (so : Int)), (2, (o : Int)), (2, (ac : Int)), (0, b0), (0, p0), (0, (k : Int)), (0, (g 1)), (0, x68)]) (S' := [(0, (k : Int)), (2, (so : Int))]) r_288_74 rfl rfl rfl ?_
      refine gx_st (L' := [(2, (so : Int)), (2, (o : Int)), (2, (ac : Int)), (0, b0), (0, p0), (0, (k : Int)), (0, (g 1)), (0, x68)]) (S' := [(0, x68), (0, (k : Int)), (2, (so : Int))]) r_288_76 rfl rfl rfl ?_
      refine gx_st (L' := [(2, (so : Int)), (2, (o : Int)), (2, (ac : Int)), (0, b0), (0, p0), (0, (k : Int)), (0, (g 1)), (0, x68)]) (S' := [(0, (g 1)), (0, x68), (0, (k : Int)), (2, (so : Int))]) r_288_78 rfl rfl rfl ?_
      have b12 : ∀ b : Nat, b < 5 → 0 ≤ n68 (so + 12) b ∧ n68 (so + 12) b ≤ 20 := fun b hb => by
        rw [f68 (so + 12) b (fun z => by omega) (by omega) (by omega), ht.2.2.1 b hb]
        have := carN_le (deedF w D (m (ac + 1)) s0) (fun h => runF w D (m (ac + 1)) s0 h 1) (b : Int) k
        omega
      have b10 : 0 ≤ n68 so 10 ∧ n68 so 10 ≤ 20 := by
        rw [f68 so 10 (fun z => by omega) (by omega) (by omega), ht.2.2.2.1]
        have := eatN_le (deedF w D (m (ac + 1)) s0) k
        omega
      refine gx_cv (nx := 83) (S2 := []) (z_289 hT hst r68 s68 hk12 (v := x68) (b0 := g 1) (fun e => hour_3 hw.2.1 hSg.1 (v68.symm.trans e)) b12 b10) r_288_80 rfl rfl rfl rfl rfl (rcv_v rfl (tstt_0 hst) (by omega) rfl (by decide)) rfl (by decide) rfl (fun n80 q80 => ?_)
      have d80 := q80
      have r80 : StR n80 so := str_d r68 d80
      have s80 := rds_d s68 d80
      show GX T 4 288 83 [(2, (so : Int)), (2, (o : Int)), (2, (ac : Int)), (0, b0), (0, p0), (0, (k : Int)), (0, (g 1)), (0, x68)] [] n80 (RV (fun m1 => StoryD m1 so w D (m (ac + 1)) s0 nn ∧ FrS so m m1))
      refine gx_st (L' := [(2, (so : Int)), (2, (o : Int)), (2, (ac : Int)), (0, b0), (0, p0), (0, (k : Int)), (0, (g 1)), (0, x68)]) (S' := [(2, (so : Int))]) r_288_83 rfl rfl rfl ?_
      refine gx_st (L' := [(2, (so : Int)), (2, (o : Int)), (2, (ac : Int)), (0, b0), (0, p0), (0, (k : Int)), (0, (g 1)), (0, x68)]) (S' := [(0, (k : Int)), (2, (so : Int))]) r_288_84 rfl rfl rfl ?_
      refine gx_st (L' := [(2, (so : Int)), (2, (o : Int)), (2, (ac : Int)), (0, b0), (0, p0), (0, (k : Int)), (0, (g 1)), (0, x68)]) (S' := [(0, 1), (0, (k : Int)), (2, (so : Int))]) r_288_86 rfl rfl rfl ?_
      refine gx_ar (L' := [(2, (so : Int)), (2, (o : Int)), (2, (ac : Int)), (0, b0), (0, p0), (0, (k : Int)), (0, (g 1)), (0, x68)]) (S' := [(2, (so : Int))]) (t := 0) (e := w32 ((k : Int) + 1)) (z := (k : Int) + 1) r_288_87 rfl rfl rfl (w32_eq (by omega) (by omega) (by omega)) ?_
      refine gx_cv (nx := 91) (S2 := []) (z_290 hT hst r80 s80 (h := k + 1) (by omega)) r_288_88 rfl rfl rfl rfl rfl (rcv_v rfl (tstt_0 hst) (by omega) rfl (by decide)) rfl (by decide) rfl (fun n88 q88 => ?_)
      obtain ⟨nt88, f88⟩ := q88
      show GX T 4 288 91 [(2, (so : Int)), (2, (o : Int)), (2, (ac : Int)), (0, b0), (0, p0), (0, (k : Int)), (0, (g 1)), (0, x68)] [] n88 (RV (fun m1 => StoryD m1 so w D (m (ac + 1)) s0 nn ∧ FrS so m m1))
      refine gx_li (z := (k : Int) + 1) (L' := [(2, (so : Int)), (2, (o : Int)), (2, (ac : Int)), (0, b0), (0, p0), (0, (k : Int) + 1), (0, (g 1)), (0, x68)]) r_288_91 rfl (w32_eq (by omega) (by omega) (by omega)) rfl ?_
      refine gx_st (L' := [(2, (so : Int)), (2, (o : Int)), (2, (ac : Int)), (0, b0), (0, p0), (0, (k : Int) + 1), (0, (g 1)), (0, x68)]) (S' := []) r_288_94 rfl rfl rfl ?_
      rw [show (k : Int) + 1 = ((k + 1 : Nat) : Int) from rfl]
      refine ih (k + 1) n88 (0, g 1) (0, x68) (by omega) (by omega) (show ¬ ((0 : Nat) = 1) by decide) (show ¬ ((0 : Nat) = 1) by decide) (str_n r80 f88) (frs_tr hfs (frs_tr (frs_o f68) (frs_tr (frs_d d80) (frs_n f88)))) (rds_n s80 f88) (told_s ht f68 (by rw [w68, e_g]) ?_ nt88 f88)
      rw [vd, e_g] at d80
      exact d80
theorem z_288 (hT : TT T) {o : Nat} (ho : IsleT T o) (hor : IsleR m o) {w : Wd} (hw : WD m o w) {so : Nat} (hst : StT T so) {ac : Nat} (hac : ActsT T ac) (hacr : ActsR m ac) (hdo : so + 13 ≤ o ∨ o + 9 ≤ so) (hda : so + 13 ≤ ac ∨ ac + 3 ≤ so) {D : Nat → Nat → Int} (hD : WyD w D) (hA : ∀ h : Nat, h < 12 → 0 ≤ m (ac + 1) h ∧ m (ac + 1) h ≤ 16) {nn : Nat} (hn : w 1 = (nn : Int)) (hn12 : nn ≤ 12) (hsr : StR m so) {b : Nat} {p0 : Int} (hS : SB w (beginF w (b : Int) p0) 0) : GX T 4 288 0 [(2, (so : Int)), (2, (o : Int)), (2, (ac : Int)), (0, (b : Int)), (0, p0), (9, 0), (9, 0), (9, 0)] [] m (RV (fun m1 => StoryD m1 so w D (m (ac + 1)) (beginF w (b : Int) p0) nn ∧ FrS so m m1)) := by
  have ho0 := ho.1
  have hso0 := hst.1.1
  have hac0 := hac.1
  refine gx_st (L' := [(2, (so : Int)), (2, (o : Int)), (2, (ac : Int)), (0, (b : Int)), (0, p0), (9, 0), (9, 0), (9, 0)]) (S' := [(2, (so : Int))]) r_288_0 rfl rfl rfl ?_
  refine gx_gf (x := (so : Int) + 12) 2 r_288_1 (rfl) (tstt_0 hst) ⟨by omega, rfl, by decide, by decide⟩ rfl (fun _ => by omega) (hsr.1.2.2.2.2.2.2.2.2.2) ?_
  refine gx_st (L' := [(2, (so : Int)), (2, (o : Int)), (2, (ac : Int)), (0, (b : Int)), (0, p0), (9, 0), (9, 0), (9, 0)]) (S' := [(0, 0), (2, (so : Int) + 12)]) r_288_4 rfl rfl rfl ?_
  refine gx_cv (nx := 8) (S2 := []) (c_240 (r := so + 12) (n := 5) (tstt_12 hst) (by omega) (by decide) 0) r_288_5 rfl rfl rfl rfl rfl rfl rfl (by decide) rfl (fun n5 q5 => ?_)
  obtain ⟨g1, g2⟩ := q5
  have sr5 : StR n5 so := str_e hsr (fun i _ => g2 so i (by omega)) (fun i _ => g2 (so + 1) i (by omega))
  have fs5 : FrS so m n5 := fun p i x => g2 p i (by omega)
  show GX T 4 288 8 [(2, (so : Int)), (2, (o : Int)), (2, (ac : Int)), (0, (b : Int)), (0, p0), (9, 0), (9, 0), (9, 0)] [] n5 (RV (fun m1 => StoryD m1 so w D (m (ac + 1)) (beginF w (b : Int) p0) nn ∧ FrS so m m1))
  refine gx_st (L' := [(2, (so : Int)), (2, (o : Int)), (2, (ac : Int)), (0, (b : Int)), (0, p0), (9, 0), (9, 0), (9, 0)]) (S' := [(2, (so : Int))]) r_288_8 rfl rfl rfl ?_
  refine gx_st (L' := [(2, (so : Int)), (2, (o : Int)), (2, (ac : Int)), (0, (b : Int)), (0, p0), (9, 0), (9, 0), (9, 0)]) (S' := [(0, 0), (2, (so : Int))]) r_288_9 rfl rfl rfl ?_
  obtain ⟨m1, e_m1⟩ : ∃ z, z = nu_up n5 so 10 0 := ⟨_, rfl⟩
  refine gx_pf (x := 0) 0 r_288_10 (rfl) (tstt_0 hst) ⟨by omega, rfl, by decide, by decide⟩ rfl (fun z => absurd z (by decide)) (fun z => absurd z (by decide)) e_m1.symm ?_
  refine gx_st (L' := [(2, (so : Int)), (2, (o : Int)), (2, (ac : Int)), (0, (b : Int)), (0, p0), (9, 0), (9, 0), (9, 0)]) (S' := [(2, (so : Int))]) r_288_13 rfl rfl rfl ?_
  refine gx_st (L' := [(2, (so : Int)), (2, (o : Int)), (2, (ac : Int)), (0, (b : Int)), (0, p0), (9, 0), (9, 0), (9, 0)]) (S' := [(0, (-1)), (2, (so : Int))]) r_288_14 rfl rfl rfl ?_
  obtain ⟨m2, e_m2⟩ : ∃ z, z = nu_up m1 so 11 (-1) := ⟨_, rfl⟩
  refine gx_pf (x := (-1)) 0 r_288_15 (rfl) (tstt_0 hst) ⟨by omega, rfl, by decide, by decide⟩ rfl (fun z => absurd z (by decide)) (fun z => absurd z (by decide)) e_m2.symm ?_
  refine gx_st (L' := [(2, (so : Int)), (2, (o : Int)), (2, (ac : Int)), (0, (b : Int)), (0, p0), (9, 0), (9, 0), (9, 0)]) (S' := [(2, (so : Int))]) r_288_18 rfl rfl rfl ?_
  refine gx_gf (x := (so : Int) + 1) 2 r_288_19 (rfl) (tstt_0 hst) ⟨by omega, rfl, by decide, by decide⟩ rfl (fun _ => by omega) (by show m2 so 0 = _; rw [e_m2, nu_ne (by decide), e_m1, nu_ne (by decide)]; exact sr5.1.1) ?_
  refine gx_st (L' := [(2, (so : Int)), (2, (o : Int)), (2, (ac : Int)), (0, (b : Int)), (0, p0), (9, 0), (9, 0), (9, 0)]) (S' := [(2, (o : Int)), (2, (so : Int) + 1)]) r_288_22 rfl rfl rfl ?_
  refine gx_st (L' := [(2, (so : Int)), (2, (o : Int)), (2, (ac : Int)), (0, (b : Int)), (0, p0), (9, 0), (9, 0), (9, 0)]) (S' := [(0, (b : Int)), (2, (o : Int)), (2, (so : Int) + 1)]) r_288_23 rfl rfl rfl ?_
  refine gx_st (L' := [(2, (so : Int)), (2, (o : Int)), (2, (ac : Int)), (0, (b : Int)), (0, p0), (9, 0), (9, 0), (9, 0)]) (S' := [(0, p0), (0, (b : Int)), (2, (o : Int)), (2, (so : Int) + 1)]) r_288_24 rfl rfl rfl ?_
  have sr_a : StR m2 so := str_e sr5 (fun i hi => by rw [e_m2, nu_x (by omega), e_m1, nu_x (by omega)]) (fun i _ => by rw [e_m2, nu_x (by omega), e_m1, nu_x (by omega)])
  have fs_a : FrS so m m2 := fun p i x => by rw [e_m2, nu_x (by omega), e_m1, nu_x (by omega)]; exact fs5 p i x
  have a12 : ∀ b : Nat, b < 5 → m2 (so + 12) b = 0 := fun b hb => by rw [e_m2, nu_x (by omega), e_m1, nu_x (by omega)]; exact g1 b hb
  have a10 : m2 so 10 = 0 := by rw [e_m2, nu_ne (by decide), e_m1, nu_at]
  have a11 : m2 so 11 = -1 := by rw [e_m2, nu_at]
  refine gx_cv (nx := 29) (S2 := []) (z_266 hT ho (ir_frs hor fs_a hdo) (wd_frs hw fs_a hdo) hst.2 sr_a.2 (by omega) b p0) r_288_26 rfl rfl rfl rfl rfl (rcv_w rfl (by omega) (tstt_1 hst) (by omega) rfl (by decide)) rfl (by decide) rfl (fun n26 q26 => ?_)
  obtain ⟨s26, f26⟩ := q26
  have r26 : StR n26 so := str_o sr_a f26
  show GX T 4 288 29 [(2, (so : Int)), (2, (o : Int)), (2, (ac : Int)), (0, (b : Int)), (0, p0), (9, 0), (9, 0), (9, 0)] [] n26 (RV (fun m1 => StoryD m1 so w D (m (ac + 1)) (beginF w (b : Int) p0) nn ∧ FrS so m m1))
  refine gx_st (L' := [(2, (so : Int)), (2, (o : Int)), (2, (ac : Int)), (0, (b : Int)), (0, p0), (9, 0), (9, 0), (9, 0)]) (S' := [(2, (so : Int))]) r_288_29 rfl rfl rfl ?_
  refine gx_st (L' := [(2, (so : Int)), (2, (o : Int)), (2, (ac : Int)), (0, (b : Int)), (0, p0), (9, 0), (9, 0), (9, 0)]) (S' := [(0, 0), (2, (so : Int))]) r_288_30 rfl rfl rfl ?_
  refine gx_cv (nx := 34) (S2 := []) (z_290 hT hst r26 s26 (h := 0) (by decide)) r_288_31 rfl rfl rfl rfl rfl (rcv_v rfl (tstt_0 hst) (by omega) rfl (by decide)) rfl (by decide) rfl (fun n31 q31 => ?_)
  obtain ⟨nt31, f31⟩ := q31
  show GX T 4 288 34 [(2, (so : Int)), (2, (o : Int)), (2, (ac : Int)), (0, (b : Int)), (0, p0), (9, 0), (9, 0), (9, 0)] [] n31 (RV (fun m1 => StoryD m1 so w D (m (ac + 1)) (beginF w (b : Int) p0) nn ∧ FrS so m m1))
  refine gx_st (L' := [(2, (so : Int)), (2, (o : Int)), (2, (ac : Int)), (0, (b : Int)), (0, p0), (9, 0), (9, 0), (9, 0)]) (S' := [(0, 0)]) r_288_34 rfl rfl rfl ?_
  refine gx_st (L' := [(2, (so : Int)), (2, (o : Int)), (2, (ac : Int)), (0, (b : Int)), (0, p0), (0, 0), (9, 0), (9, 0)]) (S' := []) r_288_35 rfl rfl rfl ?_
  exact l_288 hT ho hor hw hst hac hacr hdo hda hD hA hn hn12 hS (nn + 1) 0 n31 (9, 0) (9, 0) (by omega) (by omega) (by decide) (by decide) (str_n r26 f31) (frs_tr fs_a (frs_tr (frs_o f26) (frs_n f31))) (rds_n s26 f31) (told_0 nt31 f31 (fun b hb => by rw [f26 (so + 12) b (fun z => by omega) (by omega) (by omega)]; exact a12 b hb) (by rw [f26 so 10 (fun z => by omega) (by omega) (by omega)]; exact a10) (by rw [f26 so 11 (fun z => by omega) (by omega) (by omega)]; exact a11))
end STORY
