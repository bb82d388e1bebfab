/-! the isle of the reference exactly -/
section ISLR
variable {T : List Kd} {X : Nat → Int} {m : Mm}
theorem line_d (hT : TT T) (hx : XOK X) {r : PR} (h : RRs X m r) {l : Int} (hl : m 198 9 = l) (hl1 : 0 ≤ l) (hl2 : l ≤ 100000) {Q : AV → Mm → Prop} (hout : ∀ m1, RRs X m1 (pSemi X r) → Fr [90008, 90009, 90010, 90011, 90012, 90013, 96999] m m1 → m1 198 9 = l + 1 → Q (9, 0) m1) : GX T 7 117 21 [(2, 192)] [] m Q := by
  cases r with
  | error e =>
    have hE : RE X m e.1 e.2 := h
    have hm := hE.1
    have hb : ¬ m 192 12 = 0 := by rw [hE.2.2.1]; exact hE.2.2.2.2
    refine gx_st (L' := [(2, 192)]) (S' := [(2, 192)]) r_117_21 rfl rfl rfl ?_
    refine gx_ci (nx := 25) (S2 := []) (x_104 hT hm) r_117_22 rfl rfl rfl rfl rfl (rcv_v rfl (tk_192 hT) (by decide) rfl (by decide)) rfl (by decide) rfl (fun x22 n22 q22 => ?_)
    obtain rfl := q22.1.symm
    obtain rfl := q22.2.symm
    show GX T 7 117 25 [(2, 192)] [(0, (if m 192 12 = 0 then 1 else 0))] m Q
    refine gx_i0 (P := ¬ (m 192 12 = 0)) r_117_25 (b01_eq) (fun h25 => ?_) (fun h25 => ?_)
    · refine gx_st (L' := [(2, 192)]) (S' := [(2, 192)]) r_117_41 rfl rfl rfl ?_
      refine gx_ci (nx := 45) (S2 := []) (x_104 hT hm) r_117_42 rfl rfl rfl rfl rfl (rcv_v rfl (tk_192 hT) (by decide) rfl (by decide)) rfl (by decide) rfl (fun x42 n42 q42 => ?_)
      obtain rfl := q42.1.symm
      obtain rfl := q42.2.symm
      show GX T 7 117 45 [(2, 192)] [(0, (if m 192 12 = 0 then 1 else 0))] m Q
      refine gx_i0 (P := ¬ (m 192 12 = 0)) r_117_45 (b01_eq) (fun h45 => ?_) (fun h45 => ?_)
      · refine gx_st (L' := [(2, 192)]) (S' := [(2, 192)]) r_117_52 rfl rfl rfl ?_
        refine gx_gf (x := 198) 2 r_117_53 rfl (tk_192 hT) ⟨by decide, rfl, by decide, by decide⟩ rfl (fun _ => by decide) (pr_192_14 hm) ?_
        refine gx_st (L' := [(2, 192)]) (S' := [(0, 9), (2, 198)]) r_117_56 rfl rfl rfl ?_
        refine gx_st (L' := [(2, 192)]) (S' := [(0, 9), (2, 198), (0, 9), (2, 198)]) r_117_58 rfl rfl rfl ?_
        refine gx_ia (n := 9) (x := l) r_117_59 rfl (tk_198 hT) (rfl) ⟨rfl, by decide⟩ (hl) ?_
        refine gx_st (L' := [(2, 192)]) (S' := [(0, 1), (0, l), (0, 9), (2, 198)]) r_117_60 rfl rfl rfl ?_
        refine gx_ar (L' := [(2, 192)]) (S' := [(0, 9), (2, 198)]) (t := 0) (e := w32 (l + 1)) (z := l + 1) r_117_61 rfl rfl rfl (w32_eq (by omega) (by omega) (by omega)) ?_
        obtain ⟨m1, e_m1⟩ : ∃ z, z = nu_up m 198 (9) (l + 1) := ⟨_, rfl⟩
        have h_m1 : Gam m1 := by rw [e_m1]; exact gu_198_9 hm (by omega) (by omega)
        refine gx_is (n := 9) (x := l + 1) r_117_62 rfl (by decide) (tk_198 hT) (rfl) ⟨rfl, by decide⟩ e_m1.symm ?_
        have z := RR_up (X := X) (r := .error e) (i := 9) (x := l + 1) h (by rw [← e_m1]; exact h_m1)
        rw [← e_m1] at z
        exact gx_rt r_117_63 rfl rfl (hout m1 z (by rw [e_m1]; exact Fr_ua rfl rfl) (by rw [e_m1, nu_at]))
      · have h45 := Decidable.not_not.mp h45
        exact absurd h45 hb
    · have h25 := Decidable.not_not.mp h25
      exact absurd h25 hb
  | ok g =>
    have hG : RG X m g.1 g.2 := h
    have hm := hG.1
    have hg : m 192 12 = 0 := hG.2.2.1
    have e9 : l = g.2 9 := hl.symm.trans (hG.2.2.2.2.2.2.2.2 9 (by decide))
    have hout : ∀ m1, RRs X m1 (if nK X g.1 = 3 then .ok (nE X g.1, upw g.2 9 (g.2 9 + 1)) else .error (1, (nS X g.1 : Int))) → Fr [90008, 90009, 90010, 90011, 90012, 90013, 96999] m m1 → m1 198 9 = l + 1 → Q (9, 0) m1 := hout
    refine gx_st (L' := [(2, 192)]) (S' := [(2, 192)]) r_117_21 rfl rfl rfl ?_
    refine gx_ci (nx := 25) (S2 := []) (x_104 hT hm) r_117_22 rfl rfl rfl rfl rfl (rcv_v rfl (tk_192 hT) (by decide) rfl (by decide)) rfl (by decide) rfl (fun x22 n22 q22 => ?_)
    obtain rfl := q22.1.symm
    obtain rfl := q22.2.symm
    show GX T 7 117 25 [(2, 192)] [(0, (if m 192 12 = 0 then 1 else 0))] m Q
    refine gx_i0 (P := ¬ (m 192 12 = 0)) r_117_25 (b01_eq) (fun h25 => ?_) (fun h25 => ?_)
    · exact absurd hg h25
    · have h25 := Decidable.not_not.mp h25
      refine gx_st (L' := [(2, 192)]) (S' := [(2, 192)]) r_117_28 rfl rfl rfl ?_
      refine gx_gf (x := (nK X g.1)) 0 r_117_29 rfl (tk_192 hT) ⟨by decide, rfl, by decide, by decide⟩ rfl (fun z => absurd z (by decide)) (hG.2.2.2.2.2.2.1) ?_
      refine gx_st (L' := [(2, 192)]) (S' := [(0, 3), (0, (nK X g.1))]) r_117_32 rfl rfl rfl ?_
      refine gx_ic (P := (nK X g.1) = 3) r_117_33 (rfl) (fun h33 => ?_) (fun h33 => ?_)
      · refine gx_st (L' := [(2, 192)]) (S' := [(2, 192)]) r_117_41 rfl rfl rfl ?_
        refine gx_ci (nx := 45) (S2 := []) (x_104 hT hm) r_117_42 rfl rfl rfl rfl rfl (rcv_v rfl (tk_192 hT) (by decide) rfl (by decide)) rfl (by decide) rfl (fun x42 n42 q42 => ?_)
        obtain rfl := q42.1.symm
        obtain rfl := q42.2.symm
        show GX T 7 117 45 [(2, 192)] [(0, (if m 192 12 = 0 then 1 else 0))] m Q
        refine gx_i0 (P := ¬ (m 192 12 = 0)) r_117_45 (b01_eq) (fun h45 => ?_) (fun h45 => ?_)
        · exact absurd hg h45
        · have h45 := Decidable.not_not.mp h45
          refine gx_st (L' := [(2, 192)]) (S' := [(2, 192)]) r_117_48 rfl rfl rfl ?_
          refine gx_cv (nx := 52) (S2 := []) (y_103 hT hm hG.2.1 hx hG.2.2.2.2.2.1) r_117_49 rfl rfl rfl rfl rfl (rcv_v rfl (tk_192 hT) (by decide) rfl (by decide)) rfl (by decide) rfl (fun n49 q49 => ?_)
          have f_n49 : Fr [90008, 90009, 90010, 90011, 90012, 90013, 96999] m n49 := Fr_sub q49.2.2.1 (by decide)
          have l_n49 : n49 198 9 = l := (Fr_cell (o := 198) q49.2.2.1 (by decide) (by decide) 9).trans hl
          refine gx_st (L' := [(2, 192)]) (S' := [(2, 192)]) r_117_52 rfl rfl rfl ?_
          refine gx_gf (x := 198) 2 r_117_53 rfl (tk_192 hT) ⟨by decide, rfl, by decide, by decide⟩ rfl (fun _ => by decide) (pr_192_14 q49.1) ?_
          refine gx_st (L' := [(2, 192)]) (S' := [(0, 9), (2, 198)]) r_117_56 rfl rfl rfl ?_
          refine gx_st (L' := [(2, 192)]) (S' := [(0, 9), (2, 198), (0, 9), (2, 198)]) r_117_58 rfl rfl rfl ?_
          refine gx_ia (n := 9) (x := l) r_117_59 rfl (tk_198 hT) (rfl) ⟨rfl, by decide⟩ (l_n49) ?_
          refine gx_st (L' := [(2, 192)]) (S' := [(0, 1), (0, l), (0, 9), (2, 198)]) r_117_60 rfl rfl rfl ?_
          refine gx_ar (L' := [(2, 192)]) (S' := [(0, 9), (2, 198)]) (t := 0) (e := w32 (l + 1)) (z := l + 1) r_117_61 rfl rfl rfl (w32_eq (by omega) (by omega) (by omega)) ?_
          obtain ⟨m1, e_m1⟩ : ∃ z, z = nu_up n49 198 (9) (l + 1) := ⟨_, rfl⟩
          have h_m1 : Gam m1 := by rw [e_m1]; exact gu_198_9 q49.1 (by omega) (by omega)
          refine gx_is (n := 9) (x := l + 1) r_117_62 rfl (by decide) (tk_198 hT) (rfl) ⟨rfl, by decide⟩ e_m1.symm ?_
          have z := RR_up (X := X) (r := .ok (nE X g.1, g.2)) (i := 9) (x := l + 1) (RG_av hG q49) (by rw [← e_m1]; exact h_m1)
          rw [← e_m1] at z
          exact gx_rt r_117_63 rfl rfl (hout m1 (by rw [if_pos (by omega), ← e9]; exact z) (Fr_tr f_n49 (by rw [e_m1]; exact Fr_ua rfl rfl)) (by rw [e_m1, nu_at]))
      · refine gx_st (L' := [(2, 192)]) (S' := [(2, 192)]) r_117_36 rfl rfl rfl ?_
        refine gx_st (L' := [(2, 192)]) (S' := [(0, 1), (2, 192)]) r_117_37 rfl rfl rfl ?_
        refine gx_cv (nx := 41) (S2 := []) (y_105g hT hx hG (k := 1) (by decide) (by decide)) r_117_38 rfl rfl rfl rfl rfl (rcv_v rfl (tk_192 hT) (by decide) rfl (by decide)) rfl (by decide) rfl (fun n38 q38 => ?_)
        have hb_n38 : ¬ n38 192 12 = 0 := by rw [q38.1.2.2.1]; exact q38.1.2.2.2.2
        have f_n38 : Fr [90008, 90009, 90010, 90011, 90012, 90013, 96999] m n38 := Fr_sub q38.2 (by decide)
        have l_n38 : n38 198 9 = l := (Fr_cell (o := 198) q38.2 (by decide) (by decide) 9).trans hl
        refine gx_st (L' := [(2, 192)]) (S' := [(2, 192)]) r_117_41 rfl rfl rfl ?_
        refine gx_ci (nx := 45) (S2 := []) (x_104 hT q38.1.1) r_117_42 rfl rfl rfl rfl rfl (rcv_v rfl (tk_192 hT) (by decide) rfl (by decide)) rfl (by decide) rfl (fun x42 n42 q42 => ?_)
        obtain rfl := q42.1.symm
        obtain rfl := q42.2.symm
        show GX T 7 117 45 [(2, 192)] [(0, (if n38 192 12 = 0 then 1 else 0))] n38 Q
        refine gx_i0 (P := ¬ (n38 192 12 = 0)) r_117_45 (b01_eq) (fun h45 => ?_) (fun h45 => ?_)
        · refine gx_st (L' := [(2, 192)]) (S' := [(2, 192)]) r_117_52 rfl rfl rfl ?_
          refine gx_gf (x := 198) 2 r_117_53 rfl (tk_192 hT) ⟨by decide, rfl, by decide, by decide⟩ rfl (fun _ => by decide) (pr_192_14 q38.1.1) ?_
          refine gx_st (L' := [(2, 192)]) (S' := [(0, 9), (2, 198)]) r_117_56 rfl rfl rfl ?_
          refine gx_st (L' := [(2, 192)]) (S' := [(0, 9), (2, 198), (0, 9), (2, 198)]) r_117_58 rfl rfl rfl ?_
          refine gx_ia (n := 9) (x := l) r_117_59 rfl (tk_198 hT) (rfl) ⟨rfl, by decide⟩ (l_n38) ?_
          refine gx_st (L' := [(2, 192)]) (S' := [(0, 1), (0, l), (0, 9), (2, 198)]) r_117_60 rfl rfl rfl ?_
          refine gx_ar (L' := [(2, 192)]) (S' := [(0, 9), (2, 198)]) (t := 0) (e := w32 (l + 1)) (z := l + 1) r_117_61 rfl rfl rfl (w32_eq (by omega) (by omega) (by omega)) ?_
          obtain ⟨m1, e_m1⟩ : ∃ z, z = nu_up n38 198 (9) (l + 1) := ⟨_, rfl⟩
          have h_m1 : Gam m1 := by rw [e_m1]; exact gu_198_9 q38.1.1 (by omega) (by omega)
          refine gx_is (n := 9) (x := l + 1) r_117_62 rfl (by decide) (tk_198 hT) (rfl) ⟨rfl, by decide⟩ e_m1.symm ?_
          have z := RR_up (X := X) (r := .error (1, (nS X g.1 : Int))) (i := 9) (x := l + 1) q38.1 (by rw [← e_m1]; exact h_m1)
          rw [← e_m1] at z
          exact gx_rt r_117_63 rfl rfl (hout m1 (by rw [if_neg (by omega)]; exact z) (Fr_tr f_n38 (by rw [e_m1]; exact Fr_ua rfl rfl)) (by rw [e_m1, nu_at]))
        · have h45 := Decidable.not_not.mp h45
          exact absurd h45 hb_n38
theorem y_117 (hT : TT T) (hx : XOK X) {p : Nat} {w : Wd} (hG : RG X m p w) (hl1 : 0 ≤ w 9) (hl2 : w 9 ≤ 100000) : GX T 7 117 0 [(2, 192)] [] m (RV (fun m1 => RRs X m1 (pLine X p w) ∧ Fr [90008, 90009, 90010, 90011, 90012, 90013, 96999] m m1 ∧ m1 198 9 = w 9 + 1)) := by
  have hg : m 192 12 = 0 := hG.2.2.1
  have hm := hG.1
  have e9 : m 198 9 = w 9 := hG.2.2.2.2.2.2.2.2 9 (by decide)
  refine gx_st (L' := [(2, 192)]) (S' := [(2, 192)]) r_117_0 rfl rfl rfl ?_
  refine gx_gf (x := 198) 2 r_117_1 rfl (tk_192 hT) ⟨by decide, rfl, by decide, by decide⟩ rfl (fun _ => by decide) (pr_192_14 hm) ?_
  refine gx_st (L' := [(2, 192)]) (S' := [(0, 9), (2, 198)]) r_117_4 rfl rfl rfl ?_
  refine gx_ia (n := 9) (x := (w 9)) r_117_6 rfl (tk_198 hT) (rfl) ⟨rfl, by decide⟩ (e9) ?_
  refine gx_i0 (P := ¬ (w 9) = 0) r_117_7 (rfl) (fun h7 => ?_) (fun h7 => ?_)
  · refine gx_st (L' := [(2, 192)]) (S' := [(2, 192)]) r_117_17 rfl rfl rfl ?_
    refine gx_cv (nx := 21) (S2 := []) (y_116 hT hx hG) r_117_18 rfl rfl rfl rfl rfl (rcv_v rfl (tk_192 hT) (by decide) rfl (by decide)) rfl (by decide) rfl (fun n18 q18 => ?_)
    refine line_d hT hx (m := n18) q18.1 (l := w 9) (q18.2.2.trans e9) (by omega) (by omega) (fun m2 z f2 l2 => ⟨rfl, ?_, Fr_tr q18.2.1 f2, l2⟩)
    unfold pLine
    rw [if_neg (by omega)]
    exact z
  · have h7 := Decidable.not_not.mp h7
    refine gx_st (L' := [(2, 192)]) (S' := [(2, 192)]) r_117_10 rfl rfl rfl ?_
    refine gx_cv (nx := 14) (S2 := []) (y_113 hT hx (r := .ok (p, w)) hG) r_117_11 rfl rfl rfl rfl rfl (rcv_v rfl (tk_192 hT) (by decide) rfl (by decide)) rfl (by decide) rfl (fun n11 q11 => ?_)
    refine gx_st (L' := [(2, 192)]) (S' := []) r_117_14 rfl rfl rfl ?_
    refine line_d hT hx (m := n11) q11.1 (l := w 9) (q11.2.2.trans e9) (by omega) (by omega) (fun m2 z f2 l2 => ⟨rfl, ?_, Fr_tr q11.2.1 f2, l2⟩)
    unfold pLine
    rw [if_pos (by omega)]
    exact z
/-- what stands when the lines are read -/
def RZ (X : Nat → Int) (m : Mm) (r : Except (Int × Int) Wd) : Prop := match r with
  | .ok w => ∃ p, RG X m p w
  | .error e => RE X m e.1 e.2
theorem isl_xe {Q : AV → Mm → Prop} {x : AV} (hT : TT T) {f pl : Int} (hE : RE X m f pl) (hout : GX T 9 118 74 [(2, 192), x] [] m Q) : GX T 9 118 53 [(2, 192), x] [] m Q := by
  have hb : ¬ m 192 12 = 0 := by rw [hE.2.2.1]; exact hE.2.2.2.2
  have hm := hE.1
  refine gx_st (L' := [(2, 192), x]) (S' := [(2, 192)]) r_118_53 rfl rfl rfl ?_
  refine gx_ci (nx := 57) (S2 := []) (x_104 hT hm) r_118_54 rfl rfl rfl rfl rfl (rcv_v rfl (tk_192 hT) (by decide) rfl (by decide)) rfl (by decide) rfl (fun x54 n54 q54 => ?_)
  obtain rfl := q54.1.symm
  obtain rfl := q54.2.symm
  show GX T 9 118 57 [(2, 192), x] [(0, (if m 192 12 = 0 then 1 else 0))] m Q
  refine gx_i0 (P := ¬ (m 192 12 = 0)) r_118_57 (b01_eq) (fun h57 => ?_) (fun h57 => ?_)
  · exact hout
  · have h57 := Decidable.not_not.mp h57
    exact absurd h57 hb
theorem isl_bx {m0 : Mm} {Q : AV → Mm → Prop} {x : AV} {R : Except (Int × Int) Wd} (hT : TT T) (hx : XOK X) (hout : ∀ m, RZ X m R → Fr [90008, 90009, 90010, 90011, 90012, 90013, 96999] m0 m → GX T 9 118 74 [(2, 192), x] [] m Q) : ∀ (N p : Nat) (w : Wd) (m : Mm), 801 - nS X p < N → RG X m p w → Fr [90008, 90009, 90010, 90011, 90012, 90013, 96999] m0 m → 0 ≤ w 9 → w 9 ≤ (nS X p : Int) → pAll X N p w = R → GX T 9 118 53 [(2, 192), x] [] m Q := by
  intro N
  induction N with
  | zero => intro p w m hN; exact absurd hN (Nat.not_lt_zero _)
  | succ N ih =>
    intro p w m hN hG hf hl0 hl hR
    have hm := hG.1
    have hg : m 192 12 = 0 := hG.2.2.1
    have bs := gb_192_9 hm
    rw [hG.2.2.2.2.1] at bs
    refine gx_st (L' := [(2, 192), x]) (S' := [(2, 192)]) r_118_53 rfl rfl rfl ?_
    refine gx_ci (nx := 57) (S2 := []) (x_104 hT hm) r_118_54 rfl rfl rfl rfl rfl (rcv_v rfl (tk_192 hT) (by decide) rfl (by decide)) rfl (by decide) rfl (fun x54 n54 q54 => ?_)
    obtain rfl := q54.1.symm
    obtain rfl := q54.2.symm
    show GX T 9 118 57 [(2, 192), x] [(0, (if m 192 12 = 0 then 1 else 0))] m Q
    refine gx_i0 (P := ¬ (m 192 12 = 0)) r_118_57 (b01_eq) (fun h57 => ?_) (fun h57 => ?_)
    · exact absurd hg h57
    · have h57 := Decidable.not_not.mp h57
      refine gx_st (L' := [(2, 192), x]) (S' := [(2, 192)]) r_118_60 rfl rfl rfl ?_
      refine gx_gf (x := (nK X p)) 0 r_118_61 rfl (tk_192 hT) ⟨by decide, rfl, by decide, by decide⟩ rfl (fun z => absurd z (by decide)) (hG.2.2.2.2.2.2.1) ?_
      refine gx_i0 (P := (nK X p) = 0) r_118_64 (rfl) (fun h64 => ?_) (fun h64 => ?_)
      · refine hout m ?_ hf
        rw [← show (.ok w : Except (Int × Int) Wd) = R from (if_pos (by omega)).symm.trans hR]
        exact ⟨p, hG⟩
      · refine gx_st (L' := [(2, 192), x]) (S' := [(2, 192)]) r_118_67 rfl rfl rfl ?_
        refine gx_cv (nx := 71) (S2 := []) (y_117 hT hx hG hl0 (by omega)) r_118_68 rfl rfl rfl rfl rfl (rcv_v rfl (tk_192 hT) (by decide) rfl (by decide)) rfl (by decide) rfl (fun n68 q68 => ?_)
        refine gx_st (L' := [(2, 192), x]) (S' := []) r_118_71 rfl rfl rfl ?_
        obtain ⟨z1, z2, z3⟩ := q68
        have hR : (match pLine X p w with | .error e => (.error e : Except (Int × Int) Wd) | .ok g => pAll X N g.1 g.2) = R := (if_neg (by omega)).symm.trans hR
        cases e : pLine X p w with
        | error v =>
          rw [e] at z1 hR
          refine isl_xe hT (m := n68) z1 (hout n68 ?_ (Fr_tr hf z2))
          rw [← hR]
          exact z1
        | ok g =>
          rw [e] at z1 hR
          have lt := line_lt hx e
          have l9 : g.2 9 = w 9 + 1 := (z1.2.2.2.2.2.2.2.2 9 (by decide)).symm.trans z3
          exact ih g.1 g.2 n68 (by omega) z1 (Fr_tr hf z2) (by omega) (by omega) hR
set_option maxHeartbeats 1000000 in
theorem y_118 (hT : TT T) (hm : Gam m) (hX : ∀ k : Nat, X k = if (k : Int) < m 192 5 then iand (m 196 k) 255 else -1) (hx : XOK X) : GX T 9 118 0 [(2, 192), (9, 0)] [] m (RI (fun v m1 => (match pAll X 802 0 (fun _ => 0) with
    | .error e => v = -4 ∧ m1 192 12 = e.1 ∧ m1 192 13 = e.2 ∧ ∀ i : Nat, m1 193 i = m 193 i
    | .ok w => v = w 9 ∧ m1 192 12 = 0 ∧ m1 192 13 = -1 ∧ ∀ i : Nat, i < 69 → m1 193 i = w i))) := by
  refine gx_st (L' := [(2, 192), (9, 0)]) (S' := [(2, 192)]) r_118_0 rfl rfl rfl ?_
  refine gx_st (L' := [(2, 192), (9, 0)]) (S' := [(2, 192), (2, 192)]) r_118_1 rfl rfl rfl ?_
  obtain ⟨x2, e_x2⟩ : ∃ z, z = m 192 5 := ⟨_, rfl⟩
  have b_x2 := gb_192_5 hm
  rw [← e_x2] at b_x2
  refine gx_gf (x := x2) 0 r_118_2 rfl (tk_192 hT) ⟨by decide, rfl, by decide, by decide⟩ rfl (fun z => absurd z (by decide)) (e_x2.symm) ?_
  obtain ⟨m1, e_m1⟩ : ∃ z, z = nu_up m 192 7 x2 := ⟨_, rfl⟩
  have h_m1 : Gam m1 := by rw [e_m1]; exact gu_192_7 hm (by omega) (by omega)
  refine gx_pf (x := x2) 0 r_118_5 rfl (tk_192 hT) ⟨by decide, rfl, by decide, by decide⟩ rfl (fun z => absurd z (by decide)) (fun z => absurd z (by decide)) e_m1.symm ?_
  refine gx_st (L' := [(2, 192), (9, 0)]) (S' := [(2, 192)]) r_118_8 rfl rfl rfl ?_
  refine gx_st (L' := [(2, 192), (9, 0)]) (S' := [(0, 0), (2, 192)]) r_118_9 rfl rfl rfl ?_
  obtain ⟨m2, e_m2⟩ : ∃ z, z = nu_up m1 192 5 0 := ⟨_, rfl⟩
  have h_m2 : Gam m2 := by rw [e_m2]; exact gu_192_5 h_m1 (by omega) (by omega)
  refine gx_pf (x := 0) 0 r_118_10 rfl (tk_192 hT) ⟨by decide, rfl, by decide, by decide⟩ rfl (fun z => absurd z (by decide)) (fun z => absurd z (by decide)) e_m2.symm ?_
  refine gx_st (L' := [(2, 192), (9, 0)]) (S' := [(2, 192)]) r_118_13 rfl rfl rfl ?_
  refine gx_st (L' := [(2, 192), (9, 0)]) (S' := [(0, 0), (2, 192)]) r_118_14 rfl rfl rfl ?_
  obtain ⟨m3, e_m3⟩ : ∃ z, z = nu_up m2 192 8 0 := ⟨_, rfl⟩
  have h_m3 : Gam m3 := by rw [e_m3]; exact gu_192_8 h_m2 (by omega) (by omega)
  refine gx_pf (x := 0) 0 r_118_15 rfl (tk_192 hT) ⟨by decide, rfl, by decide, by decide⟩ rfl (fun z => absurd z (by decide)) (fun z => absurd z (by decide)) e_m3.symm ?_
  refine gx_st (L' := [(2, 192), (9, 0)]) (S' := [(2, 192)]) r_118_18 rfl rfl rfl ?_
  refine gx_st (L' := [(2, 192), (9, 0)]) (S' := [(0, 0), (2, 192)]) r_118_19 rfl rfl rfl ?_
  obtain ⟨m4, e_m4⟩ : ∃ z, z = nu_up m3 192 12 0 := ⟨_, rfl⟩
  have h_m4 : Gam m4 := by rw [e_m4]; exact gu_192_12 h_m3 (by omega) (by omega)
  refine gx_pf (x := 0) 0 r_118_20 rfl (tk_192 hT) ⟨by decide, rfl, by decide, by decide⟩ rfl (fun z => absurd z (by decide)) (fun z => absurd z (by decide)) e_m4.symm ?_
  refine gx_st (L' := [(2, 192), (9, 0)]) (S' := [(2, 192)]) r_118_23 rfl rfl rfl ?_
  refine gx_st (L' := [(2, 192), (9, 0)]) (S' := [(0, (-1)), (2, 192)]) r_118_24 rfl rfl rfl ?_
  obtain ⟨m5, e_m5⟩ : ∃ z, z = nu_up m4 192 13 (-1) := ⟨_, rfl⟩
  have h_m5 : Gam m5 := by rw [e_m5]; exact gu_192_13 h_m4 (by omega) (by omega)
  refine gx_pf (x := (-1)) 0 r_118_25 rfl (tk_192 hT) ⟨by decide, rfl, by decide, by decide⟩ rfl (fun z => absurd z (by decide)) (fun z => absurd z (by decide)) e_m5.symm ?_
  refine gx_st (L' := [(2, 192), (9, 0)]) (S' := [(0, 0)]) r_118_28 rfl rfl rfl ?_
  refine gx_st (L' := [(2, 192), (0, 0)]) (S' := []) r_118_29 rfl rfl rfl ?_
  have k12 : m5 192 12 = 0 := by rw [e_m5, nu_ne (by decide), e_m4, nu_at]
  have k13 : m5 192 13 = -1 := by rw [e_m5, nu_at]
  have k8 : m5 192 8 = 0 := by rw [e_m5, nu_ne (by decide), e_m4, nu_ne (by decide), e_m3, nu_at]
  have k7 : m5 192 7 = m 192 5 := by rw [e_m5, nu_ne (by decide), e_m4, nu_ne (by decide), e_m3, nu_ne (by decide), e_m2, nu_ne (by decide), e_m1, nu_at, e_x2]
  have kt : ∀ i, m5 196 i = m 196 i := fun i => by rw [e_m5, nu_no (by decide), e_m4, nu_no (by decide), e_m3, nu_no (by decide), e_m2, nu_no (by decide), e_m1, nu_no (by decide)]
  have kw : ∀ i, m5 193 i = m 193 i := fun i => by rw [e_m5, nu_no (by decide), e_m4, nu_no (by decide), e_m3, nu_no (by decide), e_m2, nu_no (by decide), e_m1, nu_no (by decide)]
  refine isl_a hT (m0 := m5) (fun p1 hp1 fp1 Ip1 => ?_) 70 0 m5 (by omega) (by omega) h_m5 Fr_rf (fun i hi => absurd hi (Nat.not_lt_zero _))
  have hX1 : ∀ k, seeV p1 k = X k := fun k => by
    unfold seeV
    rw [fp1 192 7 rfl, Fr_cell (o := 196) fp1 (by decide) (by decide) k, k7, kt, hX k]
  refine gx_st (L' := [(2, 192), (0, 69)]) (S' := [(2, 192)]) r_118_49 rfl rfl rfl ?_
  refine gx_cv (nx := 53) (S2 := []) (y_103 hT hp1 hX1 hx (p := 0) ((fp1 192 8 rfl).trans k8)) r_118_50 rfl rfl rfl rfl rfl (rcv_v rfl (tk_192 hT) (by decide) rfl (by decide)) rfl (by decide) rfl (fun n50 q50 => ?_)
  have hG : RG X n50 0 (fun _ => 0) := ⟨q50.1, q50.2.1, (q50.2.2.1 192 12 rfl).trans ((fp1 192 12 rfl).trans k12), (q50.2.2.1 192 13 rfl).trans ((fp1 192 13 rfl).trans k13), q50.2.2.2.1, q50.2.2.2.2.1, q50.2.2.2.2.2.1, q50.2.2.2.2.2.2, fun i hi => (Fr_cell (o := 198) q50.2.2.1 (by decide) (by decide) i).trans (Ip1 i hi)⟩
  refine isl_bx hT hx (m0 := n50) (R := pAll X 802 0 (fun _ => 0)) (fun p2 z2 fp2 => ?_) 802 0 (fun _ => 0) n50 (by omega) hG Fr_rf (by decide) (Int.natCast_nonneg _) rfl
  have kw2 : ∀ i, p2 193 i = m 193 i := fun i => (Fr_cell (o := 193) fp2 (by decide) (by decide) i).trans ((Fr_cell (o := 193) q50.2.2.1 (by decide) (by decide) i).trans ((Fr_cell (o := 193) fp1 (by decide) (by decide) i).trans (kw i)))
  revert z2
  generalize pAll X 802 0 (fun _ => 0) = R
  intro z2
  cases R with
  | error e =>
    have hE : RE X p2 e.1 e.2 := z2
    have hb : ¬ p2 192 12 = 0 := by rw [hE.2.2.1]; exact hE.2.2.2.2
    have hm := hE.1
    refine gx_st (L' := [(2, 192), (0, 69)]) (S' := [(2, 192)]) r_118_74 rfl rfl rfl ?_
    refine gx_ci (nx := 78) (S2 := []) (x_104 hT hm) r_118_75 rfl rfl rfl rfl rfl (rcv_v rfl (tk_192 hT) (by decide) rfl (by decide)) rfl (by decide) rfl (fun x75 n75 q75 => ?_)
    obtain rfl := q75.1.symm
    obtain rfl := q75.2.symm
    show GX T 9 118 78 [(2, 192), (0, 69)] [(0, (if p2 192 12 = 0 then 1 else 0))] p2 (RI (fun v m1 => (match (.error e : Except (Int × Int) Wd) with
        | .error e => v = -4 ∧ m1 192 12 = e.1 ∧ m1 192 13 = e.2 ∧ ∀ i : Nat, m1 193 i = m 193 i
        | .ok w => v = w 9 ∧ m1 192 12 = 0 ∧ m1 192 13 = -1 ∧ ∀ i : Nat, i < 69 → m1 193 i = w i)))
    refine gx_i0 (P := p2 192 12 = 0) r_118_78 (b01_ne) (fun h78 => ?_) (fun h78 => ?_)
    · exact absurd h78 hb
    · refine gx_st (L' := [(2, 192), (0, 69)]) (S' := [(0, (-4))]) r_118_81 rfl rfl rfl ?_
      exact gx_rt r_118_83 rfl rfl ⟨_, rfl, rfl, hE.2.2.1, hE.2.2.2.1, kw2⟩
  | ok w =>
    obtain ⟨p, hG⟩ : ∃ p, RG X p2 p w := z2
    have hg : p2 192 12 = 0 := hG.2.2.1
    have hm := hG.1
    refine gx_st (L' := [(2, 192), (0, 69)]) (S' := [(2, 192)]) r_118_74 rfl rfl rfl ?_
    refine gx_ci (nx := 78) (S2 := []) (x_104 hT hm) r_118_75 rfl rfl rfl rfl rfl (rcv_v rfl (tk_192 hT) (by decide) rfl (by decide)) rfl (by decide) rfl (fun x75 n75 q75 => ?_)
    obtain rfl := q75.1.symm
    obtain rfl := q75.2.symm
    show GX T 9 118 78 [(2, 192), (0, 69)] [(0, (if p2 192 12 = 0 then 1 else 0))] p2 (RI (fun v m1 => (match (.ok w : Except (Int × Int) Wd) with
        | .error e => v = -4 ∧ m1 192 12 = e.1 ∧ m1 192 13 = e.2 ∧ ∀ i : Nat, m1 193 i = m 193 i
        | .ok w => v = w 9 ∧ m1 192 12 = 0 ∧ m1 192 13 = -1 ∧ ∀ i : Nat, i < 69 → m1 193 i = w i)))
    refine gx_i0 (P := p2 192 12 = 0) r_118_78 (b01_ne) (fun h78 => ?_) (fun h78 => ?_)
    · refine gx_st (L' := [(2, 192), (0, 69)]) (S' := [(0, 0)]) r_118_84 rfl rfl rfl ?_
      refine gx_st (L' := [(2, 192), (0, 0)]) (S' := []) r_118_85 rfl rfl rfl ?_
      refine isl_c hT (m0 := p2) hm (fun p3 hp3 fp3 Ip3 => ?_) 70 0 p2 (by omega) (by omega) hm Fr_rf (fun i hi => absurd hi (Nat.not_lt_zero _))
      refine gx_st (L' := [(2, 192), (0, 69)]) (S' := [(2, 192)]) r_118_110 rfl rfl rfl ?_
      refine gx_gf (x := 193) 2 r_118_111 rfl (tk_192 hT) ⟨by decide, rfl, by decide, by decide⟩ rfl (fun _ => by decide) (pr_192_1 hp3) ?_
      refine gx_st (L' := [(2, 192), (0, 69)]) (S' := [(0, 9), (2, 193)]) r_118_114 rfl rfl rfl ?_
      obtain ⟨x116, e_x116⟩ : ∃ z, z = p3 193 (9) := ⟨_, rfl⟩
      have b_x116 := gb_193_9 hp3
      rw [← e_x116] at b_x116
      refine gx_ia (n := 9) (x := x116) r_118_116 rfl (tk_193 hT) (rfl) ⟨rfl, by decide⟩ (e_x116.symm) ?_
      have e9 : x116 = w 9 := by rw [e_x116]; exact (Ip3 9 (by decide)).trans (hG.2.2.2.2.2.2.2.2 9 (by decide))
      exact gx_rt r_118_117 rfl rfl ⟨_, rfl, e9, (fp3 192 12 rfl).trans hg, (fp3 192 13 rfl).trans hG.2.2.2.1, fun i hi => (Ip3 i hi).trans (hG.2.2.2.2.2.2.2.2 i hi)⟩
    · exact absurd hg h78
theorem by_in : ∀ n : Nat, n < 256 → 0 ≤ iand ((n : Int) - 128) 255 ∧ iand ((n : Int) - 128) 255 ≤ 255 := by decide +kernel
/-- the text that the reference holds -/
def txR (m : Mm) (k : Nat) : Int := if (k : Int) < m 192 5 then iand (m 196 k) 255 else -1
theorem txR_ok (hm : Gam m) : XOK (txR m) := by
  have b5 := gb_192_5 hm
  refine ⟨fun k => ?_, fun k hk => by unfold txR; rw [if_neg (by omega)]⟩
  unfold txR
  split
  · have bb := gb_196 hm (i := k) (by omega)
    have := by_in (m 196 k + 128).toNat (by omega)
    rw [show ((m 196 k + 128).toNat : Int) - 128 = m 196 k by omega] at this
    omega
  · omega
end ISLR
