/-! the parser of the reference exactly: tokens -/
/-- the reference's token at a place of the text -/
def AVX (X : Nat → Int) (p : Nat) (m m' : Mm) : Prop := Gam m' ∧ (∀ k, seeV m' k = X k) ∧ Fr [90008, 90009, 90010, 90011] m m' ∧ m' 192 9 = (nS X p : Int) ∧ m' 192 8 = (nE X p : Int) ∧ m' 192 10 = nK X p ∧ (nK X p = 2 → m' 192 11 = nV X p)
section TOKR
variable {T : List Kd} {X : Nat → Int}
theorem adv_ax {m0 : Mm} {Q : AV → Mm → Prop} {p : Nat} (hT : TT T) (hX0 : ∀ k, seeV m0 k = X k) (hx : XOK X) (hout : ∀ (m : Mm), Gam m → Fr [90008, 90009, 90010, 90011] m0 m → m 192 8 = (nS X p : Int) → GX T 1 103 39 [(2, 192), (9, 0)] [] m Q) : ∀ (N a : Nat) (m : Mm), 801 - a < N → Gam m → Fr [90008, 90009, 90010, 90011] m0 m → m 192 8 = (a : Int) → scn isBl X a = nS X p → GX T 1 103 0 [(2, 192), (9, 0)] [] m Q := by
  intro N
  induction N with
  | zero => intro a m hN; exact absurd hN (Nat.not_lt_zero _)
  | succ N ih =>
    intro a m hN hm hf ha h0
    have b7_ := gb_192_7 hm
    have b8_ := gb_192_8 hm
    have hxa : seeV m a = X a := (seeV_eq hf).trans (hX0 a)
    refine gx_st (L' := [(2, 192), (9, 0)]) (S' := [(2, 192)]) r_103_0 rfl rfl rfl ?_
    refine gx_st (L' := [(2, 192), (9, 0)]) (S' := [(2, 192), (2, 192)]) r_103_1 rfl rfl rfl ?_
    refine gx_gf (x := (a : Int)) 0 r_103_2 rfl (tk_192 hT) ⟨by decide, rfl, by decide, by decide⟩ rfl (fun z => absurd z (by decide)) (ha) ?_
    refine gx_ci (nx := 8) (S2 := []) (x_102 hT hm (a)) r_103_5 rfl rfl rfl rfl rfl (rcv_v rfl (tk_192 hT) (by decide) rfl (by decide)) rfl (by decide) rfl (fun x5 n5 q5 => ?_)
    obtain ⟨e_x5, z_x5⟩ := q5
    obtain rfl := z_x5.symm
    have b_x5 : -2147483648 ≤ x5 ∧ x5 ≤ 2147483647 := by rw [e_x5]; exact seeV_in
    show GX T 1 103 8 [(2, 192), (9, 0)] [(0, x5)] m Q
    refine gx_st (L' := [(2, 192), (9, 0)]) (S' := [(0, 32), (0, x5)]) r_103_8 rfl rfl rfl ?_
    refine gx_ic (P := x5 = 32) r_103_10 (rfl) (fun h10 => ?_) (fun h10 => ?_)
    · have lt_ : (a : Int) < m 192 7 := seeV_lt (by rw [← e_x5]; omega)
      have sy_ : scn isBl X (a + 1) = nS X p := (scn_y (decide_eq_true (by rw [← hxa, ← e_x5]; omega)) (by omega)).symm.trans h0
      refine gx_st (L' := [(2, 192), (9, 0)]) (S' := [(2, 192)]) r_103_26 rfl rfl rfl ?_
      refine gx_st (L' := [(2, 192), (9, 0)]) (S' := [(2, 192), (2, 192)]) r_103_27 rfl rfl rfl ?_
      refine gx_gf (x := (a : Int)) 0 r_103_28 rfl (tk_192 hT) ⟨by decide, rfl, by decide, by decide⟩ rfl (fun z => absurd z (by decide)) (ha) ?_
      refine gx_st (L' := [(2, 192), (9, 0)]) (S' := [(0, 1), (0, (a : Int)), (2, 192)]) r_103_31 rfl rfl rfl ?_
      refine gx_ar (L' := [(2, 192), (9, 0)]) (S' := [(2, 192)]) (t := 0) (e := w32 ((a : Int) + 1)) (z := (a : Int) + 1) r_103_32 rfl rfl rfl (w32_eq (by omega) (by omega) (by omega)) ?_
      obtain ⟨m1, e_m1⟩ : ∃ z, z = nu_up m 192 8 ((a : Int) + 1) := ⟨_, rfl⟩
      have h_m1 : Gam m1 := by rw [e_m1]; exact gu_192_8 hm (by omega) (by omega)
      have f_m1 : Fr [90008, 90009, 90010, 90011] m0 m1 := Fr_tr hf (by rw [e_m1]; exact Fr_up rfl)
      refine gx_pf (x := (a : Int) + 1) 0 r_103_33 rfl (tk_192 hT) ⟨by decide, rfl, by decide, by decide⟩ rfl (fun z => absurd z (by decide)) (fun z => absurd z (by decide)) e_m1.symm ?_
      refine gx_st (L' := [(2, 192), (9, 0)]) (S' := []) r_103_36 rfl rfl rfl ?_
      exact ih (a + 1) m1 (by omega) h_m1 f_m1 (by rw [e_m1, nu_at]; rfl) sy_
    · refine gx_st (L' := [(2, 192), (9, 0)]) (S' := [(2, 192)]) r_103_13 rfl rfl rfl ?_
      refine gx_st (L' := [(2, 192), (9, 0)]) (S' := [(2, 192), (2, 192)]) r_103_14 rfl rfl rfl ?_
      refine gx_gf (x := (a : Int)) 0 r_103_15 rfl (tk_192 hT) ⟨by decide, rfl, by decide, by decide⟩ rfl (fun z => absurd z (by decide)) (ha) ?_
      refine gx_ci (nx := 21) (S2 := []) (x_102 hT hm (a)) r_103_18 rfl rfl rfl rfl rfl (rcv_v rfl (tk_192 hT) (by decide) rfl (by decide)) rfl (by decide) rfl (fun x18 n18 q18 => ?_)
      obtain ⟨e_x18, z_x18⟩ := q18
      obtain rfl := z_x18.symm
      have b_x18 : -2147483648 ≤ x18 ∧ x18 ≤ 2147483647 := by rw [e_x18]; exact seeV_in
      show GX T 1 103 21 [(2, 192), (9, 0)] [(0, x18)] m Q
      refine gx_st (L' := [(2, 192), (9, 0)]) (S' := [(0, 10), (0, x18)]) r_103_21 rfl rfl rfl ?_
      refine gx_ic (P := ¬ x18 = 10) r_103_23 (rfl) (fun h23 => ?_) (fun h23 => ?_)
      · have sn_ : nS X p = a := h0.symm.trans (scn_n (decide_eq_false (by rw [← hxa, ← e_x5]; omega)))
        exact hout m hm hf (by rw [sn_]; exact ha)
      · have h23 := Decidable.not_not.mp h23
        have lt_ : (a : Int) < m 192 7 := seeV_lt (by rw [← e_x18]; omega)
        have sy_ : scn isBl X (a + 1) = nS X p := (scn_y (decide_eq_true (by rw [← hxa, ← e_x18]; omega)) (by omega)).symm.trans h0
        refine gx_st (L' := [(2, 192), (9, 0)]) (S' := [(2, 192)]) r_103_26 rfl rfl rfl ?_
        refine gx_st (L' := [(2, 192), (9, 0)]) (S' := [(2, 192), (2, 192)]) r_103_27 rfl rfl rfl ?_
        refine gx_gf (x := (a : Int)) 0 r_103_28 rfl (tk_192 hT) ⟨by decide, rfl, by decide, by decide⟩ rfl (fun z => absurd z (by decide)) (ha) ?_
        refine gx_st (L' := [(2, 192), (9, 0)]) (S' := [(0, 1), (0, (a : Int)), (2, 192)]) r_103_31 rfl rfl rfl ?_
        refine gx_ar (L' := [(2, 192), (9, 0)]) (S' := [(2, 192)]) (t := 0) (e := w32 ((a : Int) + 1)) (z := (a : Int) + 1) r_103_32 rfl rfl rfl (w32_eq (by omega) (by omega) (by omega)) ?_
        obtain ⟨m2, e_m2⟩ : ∃ z, z = nu_up m 192 8 ((a : Int) + 1) := ⟨_, rfl⟩
        have h_m2 : Gam m2 := by rw [e_m2]; exact gu_192_8 hm (by omega) (by omega)
        have f_m2 : Fr [90008, 90009, 90010, 90011] m0 m2 := Fr_tr hf (by rw [e_m2]; exact Fr_up rfl)
        refine gx_pf (x := (a : Int) + 1) 0 r_103_33 rfl (tk_192 hT) ⟨by decide, rfl, by decide, by decide⟩ rfl (fun z => absurd z (by decide)) (fun z => absurd z (by decide)) e_m2.symm ?_
        refine gx_st (L' := [(2, 192), (9, 0)]) (S' := []) r_103_36 rfl rfl rfl ?_
        exact ih (a + 1) m2 (by omega) h_m2 f_m2 (by rw [e_m2, nu_at]; rfl) sy_
theorem adv_wx {m0 : Mm} {Q : AV → Mm → Prop} {a e : Nat} {c : Int} (hT : TT T) (hX0 : ∀ k, seeV m0 k = X k) (hx : XOK X) (hout : ∀ (m : Mm), Gam m → Fr [90008, 90009, 90010, 90011] m0 m → m 192 8 = (e : Int) → m 192 9 = (a : Int) → GX T 1 103 117 [(2, 192), (0, c)] [] m Q) : ∀ (N b : Nat) (m : Mm), 801 - b < N → Gam m → Fr [90008, 90009, 90010, 90011] m0 m → m 192 8 = (b : Int) → scn isLt X b = e → m 192 9 = (a : Int) → GX T 1 103 83 [(2, 192), (0, c)] [] m Q := by
  intro N
  induction N with
  | zero => intro b m hN; exact absurd hN (Nat.not_lt_zero _)
  | succ N ih =>
    intro b m hN hm hf hb hs h9
    have b7_ := gb_192_7 hm
    have b8_ := gb_192_8 hm
    have hxb : seeV m b = X b := (seeV_eq hf).trans (hX0 b)
    refine gx_st (L' := [(2, 192), (0, c)]) (S' := [(2, 192)]) r_103_83 rfl rfl rfl ?_
    refine gx_st (L' := [(2, 192), (0, c)]) (S' := [(2, 192), (2, 192)]) r_103_84 rfl rfl rfl ?_
    refine gx_gf (x := (b : Int)) 0 r_103_85 rfl (tk_192 hT) ⟨by decide, rfl, by decide, by decide⟩ rfl (fun z => absurd z (by decide)) (hb) ?_
    refine gx_ci (nx := 91) (S2 := []) (x_102 hT hm (b)) r_103_88 rfl rfl rfl rfl rfl (rcv_v rfl (tk_192 hT) (by decide) rfl (by decide)) rfl (by decide) rfl (fun x88 n88 q88 => ?_)
    obtain ⟨e_x88, z_x88⟩ := q88
    obtain rfl := z_x88.symm
    have b_x88 : -2147483648 ≤ x88 ∧ x88 ≤ 2147483647 := by rw [e_x88]; exact seeV_in
    show GX T 1 103 91 [(2, 192), (0, c)] [(0, x88)] m Q
    refine gx_st (L' := [(2, 192), (0, c)]) (S' := [(1, x88)]) r_103_91 rfl rfl rfl ?_
    refine gx_st (L' := [(2, 192), (0, c)]) (S' := [(1, 97), (1, x88)]) r_103_92 rfl rfl rfl ?_
    refine gx_st (L' := [(2, 192), (0, c)]) (S' := [(1, 122), (1, 97), (1, x88)]) r_103_95 rfl rfl rfl ?_
    refine gx_ci (nx := 101) (S2 := []) (x_86 x88 97 122) r_103_98 rfl rfl rfl rfl rfl rfl rfl (by decide) rfl (fun x98 n98 q98 => ?_)
    obtain rfl := q98.1.symm
    obtain rfl := q98.2.symm
    show GX T 1 103 101 [(2, 192), (0, c)] [(0, (if 97 ≤ x88 ∧ x88 ≤ 122 then 1 else 0))] m Q
    refine gx_i0 (P := ¬ (97 ≤ x88 ∧ x88 ≤ 122)) r_103_101 (b01_eq) (fun h101 => ?_) (fun h101 => ?_)
    · have sn_ : e = b := hs.symm.trans (scn_n (decide_eq_false (by rw [← hxb, ← e_x88]; omega)))
      subst sn_
      exact hout m hm hf hb h9
    · have h101 := Decidable.not_not.mp h101
      have lt_ : (b : Int) < m 192 7 := seeV_lt (by rw [← e_x88]; omega)
      have sy_ : scn isLt X (b + 1) = e := (scn_y (decide_eq_true (by rw [← hxb, ← e_x88]; omega)) (by omega)).symm.trans hs
      refine gx_st (L' := [(2, 192), (0, c)]) (S' := [(2, 192)]) r_103_104 rfl rfl rfl ?_
      refine gx_st (L' := [(2, 192), (0, c)]) (S' := [(2, 192), (2, 192)]) r_103_105 rfl rfl rfl ?_
      refine gx_gf (x := (b : Int)) 0 r_103_106 rfl (tk_192 hT) ⟨by decide, rfl, by decide, by decide⟩ rfl (fun z => absurd z (by decide)) (hb) ?_
      refine gx_st (L' := [(2, 192), (0, c)]) (S' := [(0, 1), (0, (b : Int)), (2, 192)]) r_103_109 rfl rfl rfl ?_
      refine gx_ar (L' := [(2, 192), (0, c)]) (S' := [(2, 192)]) (t := 0) (e := w32 ((b : Int) + 1)) (z := (b : Int) + 1) r_103_110 rfl rfl rfl (w32_eq (by omega) (by omega) (by omega)) ?_
      obtain ⟨m1, e_m1⟩ : ∃ z, z = nu_up m 192 8 ((b : Int) + 1) := ⟨_, rfl⟩
      have h_m1 : Gam m1 := by rw [e_m1]; exact gu_192_8 hm (by omega) (by omega)
      have f_m1 : Fr [90008, 90009, 90010, 90011] m0 m1 := Fr_tr hf (by rw [e_m1]; exact Fr_up rfl)
      refine gx_pf (x := (b : Int) + 1) 0 r_103_111 rfl (tk_192 hT) ⟨by decide, rfl, by decide, by decide⟩ rfl (fun z => absurd z (by decide)) (fun z => absurd z (by decide)) e_m1.symm ?_
      refine gx_st (L' := [(2, 192), (0, c)]) (S' := []) r_103_114 rfl rfl rfl ?_
      exact ih (b + 1) m1 (by omega) h_m1 f_m1 (by rw [e_m1, nu_at]; rfl) sy_ (by rw [e_m1, nu_ne (by decide)]; exact h9)
theorem adv_nx {m0 : Mm} {Q : AV → Mm → Prop} {a e : Nat} {c : Int} (hT : TT T) (hX0 : ∀ k, seeV m0 k = X k) (hx : XOK X) (hout : ∀ (m : Mm), Gam m → Fr [90008, 90009, 90010, 90011] m0 m → m 192 8 = (e : Int) → m 192 9 = (a : Int) → (∃ n : Nat, e = a + n ∧ m 192 11 = vl 99999 X a n) → GX T 1 103 206 [(2, 192), (0, c)] [] m Q) : ∀ (N b : Nat) (m : Mm), 801 - b < N → Gam m → Fr [90008, 90009, 90010, 90011] m0 m → m 192 8 = (b : Int) → scn isDg X b = e → m 192 9 = (a : Int) → 0 ≤ m 192 11 → m 192 11 ≤ 99999 → (∃ n : Nat, b = a + n ∧ m 192 11 = vl 99999 X a n) → GX T 1 103 144 [(2, 192), (0, c)] [] m Q := by
  intro N
  induction N with
  | zero => intro b m hN; exact absurd hN (Nat.not_lt_zero _)
  | succ N ih =>
    intro b m hN hm hf hb hs h9 hv1 hv2 hv3
    have b7_ := gb_192_7 hm
    have b8_ := gb_192_8 hm
    have hxb : seeV m b = X b := (seeV_eq hf).trans (hX0 b)
    refine gx_st (L' := [(2, 192), (0, c)]) (S' := [(2, 192)]) r_103_144 rfl rfl rfl ?_
    refine gx_st (L' := [(2, 192), (0, c)]) (S' := [(2, 192), (2, 192)]) r_103_145 rfl rfl rfl ?_
    refine gx_gf (x := (b : Int)) 0 r_103_146 rfl (tk_192 hT) ⟨by decide, rfl, by decide, by decide⟩ rfl (fun z => absurd z (by decide)) (hb) ?_
    refine gx_ci (nx := 152) (S2 := []) (x_102 hT hm (b)) r_103_149 rfl rfl rfl rfl rfl (rcv_v rfl (tk_192 hT) (by decide) rfl (by decide)) rfl (by decide) rfl (fun x149 n149 q149 => ?_)
    obtain ⟨e_x149, z_x149⟩ := q149
    obtain rfl := z_x149.symm
    have b_x149 : -2147483648 ≤ x149 ∧ x149 ≤ 2147483647 := by rw [e_x149]; exact seeV_in
    show GX T 1 103 152 [(2, 192), (0, c)] [(0, x149)] m Q
    refine gx_st (L' := [(2, 192), (0, c)]) (S' := [(1, x149)]) r_103_152 rfl rfl rfl ?_
    refine gx_st (L' := [(2, 192), (0, c)]) (S' := [(1, 48), (1, x149)]) r_103_153 rfl rfl rfl ?_
    refine gx_st (L' := [(2, 192), (0, c)]) (S' := [(1, 57), (1, 48), (1, x149)]) r_103_156 rfl rfl rfl ?_
    refine gx_ci (nx := 162) (S2 := []) (x_86 x149 48 57) r_103_159 rfl rfl rfl rfl rfl rfl rfl (by decide) rfl (fun x159 n159 q159 => ?_)
    obtain rfl := q159.1.symm
    obtain rfl := q159.2.symm
    show GX T 1 103 162 [(2, 192), (0, c)] [(0, (if 48 ≤ x149 ∧ x149 ≤ 57 then 1 else 0))] m Q
    refine gx_i0 (P := ¬ (48 ≤ x149 ∧ x149 ≤ 57)) r_103_162 (b01_eq) (fun h162 => ?_) (fun h162 => ?_)
    · have sn_ : e = b := hs.symm.trans (scn_n (decide_eq_false (by rw [← hxb, ← e_x149]; omega)))
      subst sn_
      exact hout m hm hf hb h9 hv3
    · have h162 := Decidable.not_not.mp h162
      have lt_ : (b : Int) < m 192 7 := seeV_lt (by rw [← e_x149]; omega)
      have sy_ : scn isDg X (b + 1) = e := (scn_y (decide_eq_true (by rw [← hxb, ← e_x149]; omega)) (by omega)).symm.trans hs
      refine gx_st (L' := [(2, 192), (0, c)]) (S' := [(2, 192)]) r_103_165 rfl rfl rfl ?_
      refine gx_st (L' := [(2, 192), (0, c)]) (S' := [(0, 99999), (2, 192)]) r_103_166 rfl rfl rfl ?_
      refine gx_st (L' := [(2, 192), (0, c)]) (S' := [(0, 10), (0, 99999), (2, 192)]) r_103_168 rfl rfl rfl ?_
      refine gx_st (L' := [(2, 192), (0, c)]) (S' := [(2, 192), (0, 10), (0, 99999), (2, 192)]) r_103_170 rfl rfl rfl ?_
      obtain ⟨x171, e_x171⟩ : ∃ z, z = m 192 11 := ⟨_, rfl⟩
      have b_x171 := gb_192_11 hm
      rw [← e_x171] at b_x171
      refine gx_gf (x := x171) 0 r_103_171 rfl (tk_192 hT) ⟨by decide, rfl, by decide, by decide⟩ rfl (fun z => absurd z (by decide)) (e_x171.symm) ?_
      refine gx_ar (L' := [(2, 192), (0, c)]) (S' := [(0, 99999), (2, 192)]) (t := 0) (e := w32 (10 * x171)) (z := 10 * x171) r_103_174 rfl rfl rfl (w32_eq (by omega) (by omega) (by omega)) ?_
      refine gx_st (L' := [(2, 192), (0, c)]) (S' := [(2, 192), (0, 10 * x171), (0, 99999), (2, 192)]) r_103_175 rfl rfl rfl ?_
      refine gx_st (L' := [(2, 192), (0, c)]) (S' := [(2, 192), (2, 192), (0, 10 * x171), (0, 99999), (2, 192)]) r_103_176 rfl rfl rfl ?_
      refine gx_gf (x := (b : Int)) 0 r_103_177 rfl (tk_192 hT) ⟨by decide, rfl, by decide, by decide⟩ rfl (fun z => absurd z (by decide)) (hb) ?_
      refine gx_ci (nx := 183) (S2 := [(0, 10 * x171), (0, 99999), (2, 192)]) (x_102 hT hm (b)) r_103_180 rfl rfl rfl rfl rfl (rcv_v rfl (tk_192 hT) (by decide) rfl (by decide)) rfl (by decide) rfl (fun x180 n180 q180 => ?_)
      obtain ⟨e_x180, z_x180⟩ := q180
      obtain rfl := z_x180.symm
      have b_x180 : -2147483648 ≤ x180 ∧ x180 ≤ 2147483647 := by rw [e_x180]; exact seeV_in
      show GX T 1 103 183 [(2, 192), (0, c)] [(0, x180), (0, 10 * x171), (0, 99999), (2, 192)] m Q
      refine gx_ar (L' := [(2, 192), (0, c)]) (S' := [(0, 99999), (2, 192)]) (t := 0) (e := w32 ((10 * x171) + x180)) (z := 10 * x171 + x180) r_103_183 rfl rfl rfl (w32_eq (by omega) (by omega) (by omega)) ?_
      refine gx_st (L' := [(2, 192), (0, c)]) (S' := [(0, 48), (0, 10 * x171 + x180), (0, 99999), (2, 192)]) r_103_184 rfl rfl rfl ?_
      refine gx_ar (L' := [(2, 192), (0, c)]) (S' := [(0, 99999), (2, 192)]) (t := 0) (e := w32 ((10 * x171 + x180) - 48)) (z := 10 * x171 + x180 - 48) r_103_186 rfl rfl rfl (w32_eq (by omega) (by omega) (by omega)) ?_
      refine gx_st (L' := [(2, 192), (0, c)]) (S' := [(0, (min 99999 (10 * x171 + x180 - 48))), (2, 192)]) r_103_187 rfl rfl rfl ?_
      obtain ⟨m1, e_m1⟩ : ∃ z, z = nu_up m 192 11 ((min 99999 (10 * x171 + x180 - 48))) := ⟨_, rfl⟩
      have h_m1 : Gam m1 := by rw [e_m1]; exact gu_192_11 hm (by omega) (by omega)
      have f_m1 : Fr [90008, 90009, 90010, 90011] m0 m1 := Fr_tr hf (by rw [e_m1]; exact Fr_up rfl)
      refine gx_pf (x := (min 99999 (10 * x171 + x180 - 48))) 0 r_103_190 rfl (tk_192 hT) ⟨by decide, rfl, by decide, by decide⟩ rfl (fun z => absurd z (by decide)) (fun z => absurd z (by decide)) e_m1.symm ?_
      refine gx_st (L' := [(2, 192), (0, c)]) (S' := [(2, 192)]) r_103_193 rfl rfl rfl ?_
      refine gx_st (L' := [(2, 192), (0, c)]) (S' := [(2, 192), (2, 192)]) r_103_194 rfl rfl rfl ?_
      refine gx_gf (x := (b : Int)) 0 r_103_195 rfl (tk_192 hT) ⟨by decide, rfl, by decide, by decide⟩ rfl (fun z => absurd z (by decide)) (show m1 192 8 = (b : Int) from by rw [e_m1, nu_ne (by decide)]; exact hb) ?_
      refine gx_st (L' := [(2, 192), (0, c)]) (S' := [(0, 1), (0, (b : Int)), (2, 192)]) r_103_198 rfl rfl rfl ?_
      refine gx_ar (L' := [(2, 192), (0, c)]) (S' := [(2, 192)]) (t := 0) (e := w32 ((b : Int) + 1)) (z := (b : Int) + 1) r_103_199 rfl rfl rfl (w32_eq (by omega) (by omega) (by omega)) ?_
      obtain ⟨m2, e_m2⟩ : ∃ z, z = nu_up m1 192 8 ((b : Int) + 1) := ⟨_, rfl⟩
      have h_m2 : Gam m2 := by rw [e_m2]; exact gu_192_8 h_m1 (by omega) (by omega)
      have f_m2 : Fr [90008, 90009, 90010, 90011] m0 m2 := Fr_tr f_m1 (by rw [e_m2]; exact Fr_up rfl)
      refine gx_pf (x := (b : Int) + 1) 0 r_103_200 rfl (tk_192 hT) ⟨by decide, rfl, by decide, by decide⟩ rfl (fun z => absurd z (by decide)) (fun z => absurd z (by decide)) e_m2.symm ?_
      refine gx_st (L' := [(2, 192), (0, c)]) (S' := []) r_103_203 rfl rfl rfl ?_
      exact ih (b + 1) m2 (by omega) h_m2 f_m2 (by rw [e_m2, nu_at]; rfl) sy_ (by rw [e_m2, nu_ne (by decide), e_m1, nu_ne (by decide)]; exact h9) (by rw [e_m2, nu_ne (by decide), e_m1, nu_at]; omega) (by rw [e_m2, nu_ne (by decide), e_m1, nu_at]; omega) (by
        obtain ⟨n, n1, n2⟩ := hv3
        refine ⟨n + 1, by omega, ?_⟩
        rw [e_m2, nu_ne (by decide), e_m1, nu_at, e_x171, n2, e_x180, hxb, n1]
        rfl)
theorem y_103 {m : Mm} (hT : TT T) (hm : Gam m) (hX : ∀ k, seeV m k = X k) (hx : XOK X) {p : Nat} (h8 : m 192 8 = (p : Int)) : GX T 1 103 0 [(2, 192), (9, 0)] [] m (RV (AVX X p m)) := by
  have b8_ := gb_192_8 hm
  refine adv_ax hT hX hx (m0 := m) (p := p) (fun p0 hp0 f0 ha => ?_) (802 - p) p m (by omega) hm Fr_rf h8 rfl
  obtain ⟨a, h_a⟩ : ∃ a, a = nS X p := ⟨_, rfl⟩
  rw [← h_a] at ha
  have b7_ := gb_192_7 hp0
  have b8a := gb_192_8 hp0
  have hX1 : ∀ k, seeV p0 k = X k := fun k => (seeV_eq f0).trans (hX k)
  refine gx_st (L' := [(2, 192), (9, 0)]) (S' := [(2, 192)]) r_103_39 rfl rfl rfl ?_
  refine gx_st (L' := [(2, 192), (9, 0)]) (S' := [(2, 192), (2, 192)]) r_103_40 rfl rfl rfl ?_
  refine gx_gf (x := (a : Int)) 0 r_103_41 rfl (tk_192 hT) ⟨by decide, rfl, by decide, by decide⟩ rfl (fun z => absurd z (by decide)) (ha) ?_
  obtain ⟨m1, e_m1⟩ : ∃ z, z = nu_up p0 192 9 (a : Int) := ⟨_, rfl⟩
  have h_m1 : Gam m1 := by rw [e_m1]; exact gu_192_9 hp0 (by omega) (by omega)
  have f_m1 : Fr [90008, 90009, 90010, 90011] m m1 := Fr_tr f0 (by rw [e_m1]; exact Fr_up rfl)
  refine gx_pf (x := (a : Int)) 0 r_103_44 rfl (tk_192 hT) ⟨by decide, rfl, by decide, by decide⟩ rfl (fun z => absurd z (by decide)) (fun z => absurd z (by decide)) e_m1.symm ?_
  refine gx_st (L' := [(2, 192), (9, 0)]) (S' := [(2, 192)]) r_103_47 rfl rfl rfl ?_
  refine gx_st (L' := [(2, 192), (9, 0)]) (S' := [(2, 192), (2, 192)]) r_103_48 rfl rfl rfl ?_
  refine gx_gf (x := (a : Int)) 0 r_103_49 rfl (tk_192 hT) ⟨by decide, rfl, by decide, by decide⟩ rfl (fun z => absurd z (by decide)) (show m1 192 8 = (a : Int) from by rw [e_m1, nu_ne (by decide)]; exact ha) ?_
  refine gx_ci (nx := 55) (S2 := []) (x_102 hT h_m1 (a)) r_103_52 rfl rfl rfl rfl rfl (rcv_v rfl (tk_192 hT) (by decide) rfl (by decide)) rfl (by decide) rfl (fun x52 n52 q52 => ?_)
  obtain ⟨e_x52, z_x52⟩ := q52
  obtain rfl := z_x52.symm
  have b_x52 : -2147483648 ≤ x52 ∧ x52 ≤ 2147483647 := by rw [e_x52]; exact seeV_in
  show GX T 1 103 55 [(2, 192), (9, 0)] [(0, x52)] m1 (RV (AVX X p m))
  refine gx_st (L' := [(2, 192), (0, x52)]) (S' := []) r_103_55 rfl rfl rfl ?_
  refine gx_st (L' := [(2, 192), (0, x52)]) (S' := [(0, x52)]) r_103_56 rfl rfl rfl ?_
  refine gx_st (L' := [(2, 192), (0, x52)]) (S' := [(0, (-1)), (0, x52)]) r_103_57 rfl rfl rfl ?_
  refine gx_ic (P := ¬ x52 = (-1)) r_103_58 (rfl) (fun h58 => ?_) (fun h58 => ?_)
  · refine gx_st (L' := [(2, 192), (0, x52)]) (S' := [(0, x52)]) r_103_69 rfl rfl rfl ?_
    refine gx_st (L' := [(2, 192), (0, x52)]) (S' := [(1, x52)]) r_103_70 rfl rfl rfl ?_
    refine gx_st (L' := [(2, 192), (0, x52)]) (S' := [(1, 97), (1, x52)]) r_103_71 rfl rfl rfl ?_
    refine gx_st (L' := [(2, 192), (0, x52)]) (S' := [(1, 122), (1, 97), (1, x52)]) r_103_74 rfl rfl rfl ?_
    refine gx_ci (nx := 80) (S2 := []) (x_86 x52 97 122) r_103_77 rfl rfl rfl rfl rfl rfl rfl (by decide) rfl (fun x77 n77 q77 => ?_)
    obtain rfl := q77.1.symm
    obtain rfl := q77.2.symm
    show GX T 1 103 80 [(2, 192), (0, x52)] [(0, (if 97 ≤ x52 ∧ x52 ≤ 122 then 1 else 0))] m1 (RV (AVX X p m))
    refine gx_i0 (P := ¬ (97 ≤ x52 ∧ x52 ≤ 122)) r_103_80 (b01_eq) (fun h80 => ?_) (fun h80 => ?_)
    · refine gx_st (L' := [(2, 192), (0, x52)]) (S' := [(0, x52)]) r_103_125 rfl rfl rfl ?_
      refine gx_st (L' := [(2, 192), (0, x52)]) (S' := [(1, x52)]) r_103_126 rfl rfl rfl ?_
      refine gx_st (L' := [(2, 192), (0, x52)]) (S' := [(1, 48), (1, x52)]) r_103_127 rfl rfl rfl ?_
      refine gx_st (L' := [(2, 192), (0, x52)]) (S' := [(1, 57), (1, 48), (1, x52)]) r_103_130 rfl rfl rfl ?_
      refine gx_ci (nx := 136) (S2 := []) (x_86 x52 48 57) r_103_133 rfl rfl rfl rfl rfl rfl rfl (by decide) rfl (fun x133 n133 q133 => ?_)
      obtain rfl := q133.1.symm
      obtain rfl := q133.2.symm
      show GX T 1 103 136 [(2, 192), (0, x52)] [(0, (if 48 ≤ x52 ∧ x52 ≤ 57 then 1 else 0))] m1 (RV (AVX X p m))
      refine gx_i0 (P := ¬ (48 ≤ x52 ∧ x52 ≤ 57)) r_103_136 (b01_eq) (fun h136 => ?_) (fun h136 => ?_)
      · refine gx_st (L' := [(2, 192), (0, x52)]) (S' := [(2, 192)]) r_103_214 rfl rfl rfl ?_
        refine gx_st (L' := [(2, 192), (0, x52)]) (S' := [(0, x52), (2, 192)]) r_103_215 rfl rfl rfl ?_
        refine gx_st (L' := [(2, 192), (0, x52)]) (S' := [(0, 59), (0, x52), (2, 192)]) r_103_216 rfl rfl rfl ?_
        refine gx_ic (P := ¬ x52 = 59) r_103_218 (rfl) (fun h218 => ?_) (fun h218 => ?_)
        · refine gx_st (L' := [(2, 192), (0, x52)]) (S' := [(0, 4), (2, 192)]) r_103_225 rfl rfl rfl ?_
          obtain ⟨m2, e_m2⟩ : ∃ z, z = nu_up m1 192 10 4 := ⟨_, rfl⟩
          have h_m2 : Gam m2 := by rw [e_m2]; exact gu_192_10 h_m1 (by omega) (by omega)
          have f_m2 : Fr [90008, 90009, 90010, 90011] m m2 := Fr_tr f_m1 (by rw [e_m2]; exact Fr_up rfl)
          refine gx_pf (x := 4) 0 r_103_226 rfl (tk_192 hT) ⟨by decide, rfl, by decide, by decide⟩ rfl (fun z => absurd z (by decide)) (fun z => absurd z (by decide)) e_m2.symm ?_
          have lt_ : (a : Int) < m1 192 7 := seeV_lt (by rw [← e_x52]; omega)
          have lt2_ : m1 192 7 = p0 192 7 := by rw [e_m1, nu_ne (by decide)]
          refine gx_st (L' := [(2, 192), (0, x52)]) (S' := [(2, 192)]) r_103_229 rfl rfl rfl ?_
          refine gx_st (L' := [(2, 192), (0, x52)]) (S' := [(2, 192), (2, 192)]) r_103_230 rfl rfl rfl ?_
          refine gx_gf (x := (a : Int)) 0 r_103_231 rfl (tk_192 hT) ⟨by decide, rfl, by decide, by decide⟩ rfl (fun z => absurd z (by decide)) (show m2 192 8 = (a : Int) from by rw [e_m2, nu_ne (by decide), e_m1, nu_ne (by decide)]; exact ha) ?_
          refine gx_st (L' := [(2, 192), (0, x52)]) (S' := [(0, 1), (0, (a : Int)), (2, 192)]) r_103_234 rfl rfl rfl ?_
          refine gx_ar (L' := [(2, 192), (0, x52)]) (S' := [(2, 192)]) (t := 0) (e := w32 ((a : Int) + 1)) (z := (a : Int) + 1) r_103_235 rfl rfl rfl (w32_eq (by omega) (by omega) (by omega)) ?_
          obtain ⟨m3, e_m3⟩ : ∃ z, z = nu_up m2 192 8 ((a : Int) + 1) := ⟨_, rfl⟩
          have h_m3 : Gam m3 := by rw [e_m3]; exact gu_192_8 h_m2 (by omega) (by omega)
          have f_m3 : Fr [90008, 90009, 90010, 90011] m m3 := Fr_tr f_m2 (by rw [e_m3]; exact Fr_up rfl)
          refine gx_pf (x := (a : Int) + 1) 0 r_103_236 rfl (tk_192 hT) ⟨by decide, rfl, by decide, by decide⟩ rfl (fun z => absurd z (by decide)) (fun z => absurd z (by decide)) e_m3.symm ?_
          have hxa : x52 = X a := by rw [e_x52, show seeV m1 a = seeV p0 a from by unfold seeV; rw [e_m1, nu_ne (by decide), nu_no (by decide)]]; exact hX1 a
          have hk_ : nK X p = 4 := by unfold nK; rw [← h_a, ← hxa]; exact kd_of4 (by omega) (by omega) (by omega) (by omega)
          exact gx_rt r_103_239 rfl rfl ⟨rfl, h_m3, fun k => (seeV_eq f_m3).trans (hX k), f_m3, by rw [e_m3, nu_ne (by decide), e_m2, nu_ne (by decide), e_m1, nu_at, ← h_a], by rw [nE_3 (by omega) (by omega) (by omega), e_m3, nu_at, ← h_a]; rfl, by rw [e_m3, nu_ne (by decide), e_m2, nu_at, hk_], fun z => absurd (hk_.symm.trans z) (by decide)⟩
        · have h218 := Decidable.not_not.mp h218
          refine gx_st (L' := [(2, 192), (0, x52)]) (S' := [(0, 3), (2, 192)]) r_103_221 rfl rfl rfl ?_
          refine gx_st (L' := [(2, 192), (0, x52)]) (S' := [(0, 3), (2, 192)]) r_103_222 rfl rfl rfl ?_
          obtain ⟨m2, e_m2⟩ : ∃ z, z = nu_up m1 192 10 3 := ⟨_, rfl⟩
          have h_m2 : Gam m2 := by rw [e_m2]; exact gu_192_10 h_m1 (by omega) (by omega)
          have f_m2 : Fr [90008, 90009, 90010, 90011] m m2 := Fr_tr f_m1 (by rw [e_m2]; exact Fr_up rfl)
          refine gx_pf (x := 3) 0 r_103_226 rfl (tk_192 hT) ⟨by decide, rfl, by decide, by decide⟩ rfl (fun z => absurd z (by decide)) (fun z => absurd z (by decide)) e_m2.symm ?_
          have lt_ : (a : Int) < m1 192 7 := seeV_lt (by rw [← e_x52]; omega)
          have lt2_ : m1 192 7 = p0 192 7 := by rw [e_m1, nu_ne (by decide)]
          refine gx_st (L' := [(2, 192), (0, x52)]) (S' := [(2, 192)]) r_103_229 rfl rfl rfl ?_
          refine gx_st (L' := [(2, 192), (0, x52)]) (S' := [(2, 192), (2, 192)]) r_103_230 rfl rfl rfl ?_
          refine gx_gf (x := (a : Int)) 0 r_103_231 rfl (tk_192 hT) ⟨by decide, rfl, by decide, by decide⟩ rfl (fun z => absurd z (by decide)) (show m2 192 8 = (a : Int) from by rw [e_m2, nu_ne (by decide), e_m1, nu_ne (by decide)]; exact ha) ?_
          refine gx_st (L' := [(2, 192), (0, x52)]) (S' := [(0, 1), (0, (a : Int)), (2, 192)]) r_103_234 rfl rfl rfl ?_
          refine gx_ar (L' := [(2, 192), (0, x52)]) (S' := [(2, 192)]) (t := 0) (e := w32 ((a : Int) + 1)) (z := (a : Int) + 1) r_103_235 rfl rfl rfl (w32_eq (by omega) (by omega) (by omega)) ?_
          obtain ⟨m3, e_m3⟩ : ∃ z, z = nu_up m2 192 8 ((a : Int) + 1) := ⟨_, rfl⟩
          have h_m3 : Gam m3 := by rw [e_m3]; exact gu_192_8 h_m2 (by omega) (by omega)
          have f_m3 : Fr [90008, 90009, 90010, 90011] m m3 := Fr_tr f_m2 (by rw [e_m3]; exact Fr_up rfl)
          refine gx_pf (x := (a : Int) + 1) 0 r_103_236 rfl (tk_192 hT) ⟨by decide, rfl, by decide, by decide⟩ rfl (fun z => absurd z (by decide)) (fun z => absurd z (by decide)) e_m3.symm ?_
          have hxa : x52 = X a := by rw [e_x52, show seeV m1 a = seeV p0 a from by unfold seeV; rw [e_m1, nu_ne (by decide), nu_no (by decide)]]; exact hX1 a
          have hk_ : nK X p = 3 := by unfold nK; rw [← h_a, ← hxa]; exact (by rw [show x52 = 59 by omega]; rfl)
          exact gx_rt r_103_239 rfl rfl ⟨rfl, h_m3, fun k => (seeV_eq f_m3).trans (hX k), f_m3, by rw [e_m3, nu_ne (by decide), e_m2, nu_ne (by decide), e_m1, nu_at, ← h_a], by rw [nE_3 (by omega) (by omega) (by omega), e_m3, nu_at, ← h_a]; rfl, by rw [e_m3, nu_ne (by decide), e_m2, nu_at, hk_], fun z => absurd (hk_.symm.trans z) (by decide)⟩
      · have h136 := Decidable.not_not.mp h136
        refine gx_st (L' := [(2, 192), (0, x52)]) (S' := [(2, 192)]) r_103_139 rfl rfl rfl ?_
        refine gx_st (L' := [(2, 192), (0, x52)]) (S' := [(0, 0), (2, 192)]) r_103_140 rfl rfl rfl ?_
        obtain ⟨m2, e_m2⟩ : ∃ z, z = nu_up m1 192 11 0 := ⟨_, rfl⟩
        have h_m2 : Gam m2 := by rw [e_m2]; exact gu_192_11 h_m1 (by omega) (by omega)
        have f_m2 : Fr [90008, 90009, 90010, 90011] m m2 := Fr_tr f_m1 (by rw [e_m2]; exact Fr_up rfl)
        refine gx_pf (x := 0) 0 r_103_141 rfl (tk_192 hT) ⟨by decide, rfl, by decide, by decide⟩ rfl (fun z => absurd z (by decide)) (fun z => absurd z (by decide)) e_m2.symm ?_
        have hxa : x52 = X a := by rw [e_x52, show seeV m1 a = seeV p0 a from by unfold seeV; rw [e_m1, nu_ne (by decide), nu_no (by decide)]]; exact hX1 a
        have hk_ : nK X p = 2 := by unfold nK; rw [← h_a, ← hxa]; exact kd_of2 (by omega) (by omega)
        refine adv_nx hT hX hx (m0 := m) (a := a) (e := nE X p) (fun p1 h_p1 f_p1 b_p1 n_p1 v_p1 => ?_) 802 a m2 (by omega) h_m2 f_m2 (by rw [e_m2, nu_ne (by decide), e_m1, nu_ne (by decide)]; exact ha) (by rw [nE_2 hk_, h_a]) (by rw [e_m2, nu_ne (by decide), e_m1, nu_at]) (by rw [e_m2, nu_at]; decide) (by rw [e_m2, nu_at]; decide) ⟨0, rfl, by rw [e_m2, nu_at]; rfl⟩
        refine gx_st (L' := [(2, 192), (0, x52)]) (S' := [(2, 192)]) r_103_206 rfl rfl rfl ?_
        refine gx_st (L' := [(2, 192), (0, x52)]) (S' := [(0, 2), (2, 192)]) r_103_207 rfl rfl rfl ?_
        obtain ⟨m3, e_m3⟩ : ∃ z, z = nu_up p1 192 10 2 := ⟨_, rfl⟩
        have h_m3 : Gam m3 := by rw [e_m3]; exact gu_192_10 h_p1 (by omega) (by omega)
        have f_m3 : Fr [90008, 90009, 90010, 90011] m m3 := Fr_tr f_p1 (by rw [e_m3]; exact Fr_up rfl)
        refine gx_pf (x := 2) 0 r_103_208 rfl (tk_192 hT) ⟨by decide, rfl, by decide, by decide⟩ rfl (fun z => absurd z (by decide)) (fun z => absurd z (by decide)) e_m3.symm ?_
        refine gx_st (L' := [(2, 192), (0, x52)]) (S' := []) r_103_211 rfl rfl rfl ?_
        exact gx_rt r_103_239 rfl rfl ⟨rfl, h_m3, fun k => (seeV_eq f_m3).trans (hX k), f_m3, by rw [e_m3, nu_ne (by decide), ← h_a]; exact n_p1, by rw [e_m3, nu_ne (by decide)]; exact b_p1, by rw [e_m3, nu_at, hk_], fun _ => by
          obtain ⟨n, n1, n2⟩ := v_p1
          rw [e_m3, nu_ne (by decide), n2]
          unfold nV
          rw [← h_a, n1, show a + n - a = n by omega]⟩
    · have h80 := Decidable.not_not.mp h80
      have hxa : x52 = X a := by rw [e_x52, show seeV m1 a = seeV p0 a from by unfold seeV; rw [e_m1, nu_ne (by decide), nu_no (by decide)]]; exact hX1 a
      have hk_ : nK X p = 1 := by unfold nK; rw [← h_a, ← hxa]; exact kd_of1 (by omega) (by omega)
      refine adv_wx hT hX hx (m0 := m) (a := a) (e := nE X p) (fun p1 h_p1 f_p1 b_p1 n_p1 => ?_) 802 a m1 (by omega) h_m1 f_m1 (by rw [e_m1, nu_ne (by decide)]; exact ha) (by rw [nE_1 hk_, h_a]) (by rw [e_m1, nu_at])
      refine gx_st (L' := [(2, 192), (0, x52)]) (S' := [(2, 192)]) r_103_117 rfl rfl rfl ?_
      refine gx_st (L' := [(2, 192), (0, x52)]) (S' := [(0, 1), (2, 192)]) r_103_118 rfl rfl rfl ?_
      obtain ⟨m3, e_m3⟩ : ∃ z, z = nu_up p1 192 10 1 := ⟨_, rfl⟩
      have h_m3 : Gam m3 := by rw [e_m3]; exact gu_192_10 h_p1 (by omega) (by omega)
      have f_m3 : Fr [90008, 90009, 90010, 90011] m m3 := Fr_tr f_p1 (by rw [e_m3]; exact Fr_up rfl)
      refine gx_pf (x := 1) 0 r_103_119 rfl (tk_192 hT) ⟨by decide, rfl, by decide, by decide⟩ rfl (fun z => absurd z (by decide)) (fun z => absurd z (by decide)) e_m3.symm ?_
      refine gx_st (L' := [(2, 192), (0, x52)]) (S' := []) r_103_122 rfl rfl rfl ?_
      exact gx_rt r_103_239 rfl rfl ⟨rfl, h_m3, fun k => (seeV_eq f_m3).trans (hX k), f_m3, by rw [e_m3, nu_ne (by decide), ← h_a]; exact n_p1, by rw [e_m3, nu_ne (by decide)]; exact b_p1, by rw [e_m3, nu_at, hk_], fun z => absurd (hk_.symm.trans z) (by decide)⟩
  · have h58 := Decidable.not_not.mp h58
    refine gx_st (L' := [(2, 192), (0, x52)]) (S' := [(2, 192)]) r_103_61 rfl rfl rfl ?_
    refine gx_st (L' := [(2, 192), (0, x52)]) (S' := [(0, 0), (2, 192)]) r_103_62 rfl rfl rfl ?_
    obtain ⟨m3, e_m3⟩ : ∃ z, z = nu_up m1 192 10 0 := ⟨_, rfl⟩
    have h_m3 : Gam m3 := by rw [e_m3]; exact gu_192_10 h_m1 (by omega) (by omega)
    have f_m3 : Fr [90008, 90009, 90010, 90011] m m3 := Fr_tr f_m1 (by rw [e_m3]; exact Fr_up rfl)
    refine gx_pf (x := 0) 0 r_103_63 rfl (tk_192 hT) ⟨by decide, rfl, by decide, by decide⟩ rfl (fun z => absurd z (by decide)) (fun z => absurd z (by decide)) e_m3.symm ?_
    refine gx_st (L' := [(2, 192), (0, x52)]) (S' := []) r_103_66 rfl rfl rfl ?_
    have hxa : x52 = X a := by rw [e_x52, show seeV m1 a = seeV p0 a from by unfold seeV; rw [e_m1, nu_ne (by decide), nu_no (by decide)]]; exact hX1 a
    have hk_ : nK X p = 0 := by unfold nK; rw [← h_a, ← hxa]; exact (by rw [show x52 = -1 by omega]; rfl)
    exact gx_rt r_103_239 rfl rfl ⟨rfl, h_m3, fun k => (seeV_eq f_m3).trans (hX k), f_m3, by rw [e_m3, nu_ne (by decide), e_m1, nu_at, ← h_a], by rw [nE_0 hk_, e_m3, nu_ne (by decide), e_m1, nu_ne (by decide), ← h_a]; exact ha, by rw [e_m3, nu_at, hk_], fun z => absurd (hk_.symm.trans z) (by decide)⟩
end TOKR
/-- no fault: the token and the world; a fault -/
def RG (X : Nat → Int) (m : Mm) (p : Nat) (w : Wd) : Prop := Gam m ∧ (∀ k, seeV m k = X k) ∧ m 192 12 = 0 ∧ m 192 13 = -1 ∧ m 192 9 = (nS X p : Int) ∧ m 192 8 = (nE X p : Int) ∧ m 192 10 = nK X p ∧ (nK X p = 2 → m 192 11 = nV X p) ∧ ∀ i : Nat, i < 69 → m 198 i = w i
def RE (X : Nat → Int) (m : Mm) (f pl : Int) : Prop := Gam m ∧ (∀ k, seeV m k = X k) ∧ m 192 12 = f ∧ m 192 13 = pl ∧ ¬ f = 0
def RRs (X : Nat → Int) (m : Mm) (r : PR) : Prop := match r with
  | .ok g => RG X m g.1 g.2
  | .error e => RE X m e.1 e.2
def RU (X : Nat → Int) (m : Mm) (v : Int) (r : PV) : Prop := match r with
  | .ok g => v = g.1 ∧ RG X m g.2.1 g.2.2
  | .error e => v = 0 ∧ RE X m e.1 e.2
theorem RR_g {X : Nat → Int} {m : Mm} {r : PR} (h : RRs X m r) : Gam m := by
  cases r with
  | error e => exact h.1
  | ok g => exact h.1
theorem RU_g {X : Nat → Int} {m : Mm} {v : Int} {r : PV} (h : RU X m v r) : Gam m := by
  cases r with
  | error e => exact h.2.1
  | ok g => exact h.2.1
theorem RG_av {X : Nat → Int} {m m1 : Mm} {p : Nat} {w : Wd} (h : RG X m p w) (a : AVX X (nE X p) m m1) : RG X m1 (nE X p) w := by
  obtain ⟨h1, h2, h3, h4, h5, h6, h7, h8, h9⟩ := h
  obtain ⟨a1, a2, a3, a4, a5, a6, a7⟩ := a
  refine ⟨a1, a2, ?_, ?_, a4, a5, a6, a7, fun i hi => ?_⟩
  · rw [a3 192 12 rfl]; exact h3
  · rw [a3 192 13 rfl]; exact h4
  · rw [Fr_cell (o := 198) a3 (by decide) (by decide) i]; exact h9 i hi
/-- a cell of the world is written -/
theorem seeV_198 {m : Mm} {i k : Nat} {x : Int} : seeV (nu_up m 198 i x) k = seeV m k := by
  unfold seeV
  rw [nu_no (by decide), nu_no (by decide)]
theorem RR_up {X : Nat → Int} {m : Mm} {r : PR} {i : Nat} {x : Int} (h : RRs X m r) (hg : Gam (nu_up m 198 i x)) : RRs X (nu_up m 198 i x) (r.bind fun g => .ok (g.1, upw g.2 i x)) := by
  cases r with
  | error e =>
    obtain ⟨h1, h2, h3, h4, h5⟩ := h
    exact ⟨hg, fun k => seeV_198.trans (h2 k), (nu_no (by decide)).trans h3, (nu_no (by decide)).trans h4, h5⟩
  | ok g =>
    obtain ⟨h1, h2, h3, h4, h5, h6, h7, h8, h9⟩ := h
    refine ⟨hg, fun k => seeV_198.trans (h2 k), (nu_no (by decide)).trans h3, (nu_no (by decide)).trans h4, (nu_no (by decide)).trans h5, (nu_no (by decide)).trans h6, (nu_no (by decide)).trans h7, fun z => (nu_no (by decide)).trans (h8 z), fun j hj => ?_⟩
    show nu_up m 198 i x 198 j = upw g.2 i x j
    by_cases e : j = i
    · rw [e, nu_at, upw_at]
    · rw [nu_ne e, upw_ne e]; exact h9 j hj
theorem RU_set {X : Nat → Int} {m : Mm} {v : Int} {r : PV} {i : Nat} (h : RU X m v r) (hg : Gam (nu_up m 198 i v)) : RRs X (nu_up m 198 i v) (pSet i r) := by
  cases r with
  | error e => exact RR_up (r := .error e) h.2 hg
  | ok g =>
    obtain ⟨h1, h2⟩ := h
    have h3 := RR_up (r := .ok (g.2.1, g.2.2)) h2 hg
    rw [show pSet i (.ok g) = .ok (g.2.1, upw g.2.2 i g.1) from rfl, ← h1]
    exact h3
