/-! the parser of the reference exactly: words, numbers, lines -/
section LINR
variable {T : List Kd} {X : Nat → Int} {m : Mm}
theorem RE_fr {W : List Nat} {m m' : Mm} {f pl : Int} (h : RE X m f pl) (hf : Fr W m m') (hw : W.all (fun c => ![90007, 90012, 90013, 94999].contains c) = true) (hg : Gam m') : RE X m' f pl := by
  have hc : ∀ c, ([90007, 90012, 90013, 94999] : List Nat).contains c = true → W.contains c = false := fun c h => all_ct hw h
  obtain ⟨h1, h2, h3, h4, h5⟩ := h
  refine ⟨hg, fun k => ?_, ?_, ?_, h5⟩
  · rw [← h2 k]
    unfold seeV
    rw [hf 192 7 (hc 90007 (by decide)), hf 196 k (hc 94999 (by decide))]
  · rw [hf 192 12 (hc 90012 (by decide))]; exact h3
  · rw [hf 192 13 (hc 90013 (by decide))]; exact h4
theorem seeV_w {m m' : Mm} (h : Fr [90008, 90009, 90010, 90011, 90012, 90013, 96999] m m') (k : Nat) : seeV m' k = seeV m k := by
  unfold seeV
  rw [h 192 7 rfl, Fr_cell (o := 196) h (by decide) (by decide) k]
theorem by_c : ∀ n : Nat, n < 256 → 97 ≤ iand ((n : Int) - 128) 255 → iand ((n : Int) - 128) 255 ≤ 122 → iand ((n : Int) - 128) 255 = (n : Int) - 128 := by decide +kernel
theorem by_127 {b : Int} (h1 : -128 ≤ b) (h2 : b ≤ 127) (h3 : 97 ≤ iand b 255) (h4 : iand b 255 ≤ 122) : iand b 255 = b := by
  have e : ((b + 128).toNat : Int) - 128 = b := by omega
  have := by_c (b + 128).toNat (by omega)
  rw [e] at this
  exact this h3 h4
theorem isW_iff {p : Nat} {w : Wd} (hx : XOK X) (h : RG X m p w) {q n : Nat} (hn : slen q = some n) : IsW m q n ↔ isWd X p q = true := by
  obtain ⟨h1, h2, h3, h4, h5, h6, h7, h8, h9⟩ := h
  have hs := nE_le (X := X) (p := p)
  rw [isWd_t, hn]
  unfold IsW
  rw [h7, h6, h5]
  have hch : nK X p = 1 → ∀ i : Nat, i < nE X p - nS X p → m 196 (nS X p + i) = X (nS X p + i) := by
    intro hk i hi
    have hl := nV_lt hk i hi
    have e := h2 (nS X p + i)
    unfold seeV at e
    by_cases z : ((nS X p + i : Nat) : Int) < m 192 7
    · rw [if_pos z] at e
      have b7 := gb_192_7 h1
      have bb := gb_196 h1 (i := nS X p + i) (by omega)
      rw [← e]
      exact (by_127 bb.1 bb.2 (by omega) (by omega)).symm
    · rw [if_neg z] at e; omega
  constructor
  · rintro ⟨_, a2, a3, a4⟩
    refine ⟨a2, by show nE X p - nS X p = n; omega, fun i hi => ?_⟩
    have hi : i < n := hi
    rw [a4 i hi]
    exact congrArg some (hch a2 i (by omega))
  · rintro ⟨a2, a3, a4⟩
    have a3 : nE X p - nS X p = n := a3
    refine ⟨h3, a2, by omega, fun i hi => ?_⟩
    rw [a4 i hi]
    refine congrArg some ?_
    show X (nS X p + i) = m 196 (((nS X p : Nat) : Int).toNat + i)
    rw [show ((nS X p : Nat) : Int).toNat = nS X p from rfl, hch a2 i (by omega)]
theorem RU_in {v lo hi : Int} {r : PR} (h : RU X m v (pNum X lo hi r)) : v = 0 ∨ (lo ≤ v ∧ v ≤ hi) := by
  cases r with
  | error e => exact Or.inl h.1
  | ok g =>
    have h : RU X m v (if ¬ nK X g.1 = 2 then (.error (1, (nS X g.1 : Int)) : PV) else if lo ≤ nV X g.1 ∧ nV X g.1 ≤ hi then .ok (nV X g.1, nE X g.1, g.2) else .error (2, (nS X g.1 : Int))) := h
    split at h
    · exact Or.inl h.1
    · split at h
      · rename_i h2
        rw [h.1]; exact Or.inr h2
      · exact Or.inl h.1
theorem RU_pl {v : Int} {r : PR} (h : RU X m v (pPl X r)) (hb : ∀ p w, r = .ok (p, w) → w 0 ≤ 7) : 0 ≤ v ∧ v ≤ 6 := by
  cases r with
  | error e => have := h.1; omega
  | ok g =>
    have h2 := RU_in (r := .ok g) (lo := 0) (hi := g.2 0 - 1) h
    have := hb g.1 g.2 rfl
    omega
theorem y_105e (hT : TT T) {f pl : Int} (hE : RE X m f pl) (k : Int) : GX T 1 105 0 [(2, 192), (0, k)] [] m (RV (fun m1 => RE X m1 f pl ∧ Fr [90012, 90013] m m1)) := by
  have hb : ¬ m 192 12 = 0 := by rw [hE.2.2.1]; exact hE.2.2.2.2
  have hm := hE.1
  refine gx_st (L' := [(2, 192), (0, k)]) (S' := [(2, 192)]) r_105_0 rfl rfl rfl ?_
  refine gx_ci (nx := 4) (S2 := []) (x_104 hT hm) r_105_1 rfl rfl rfl rfl rfl (rcv_v rfl (tk_192 hT) (by decide) rfl (by decide)) rfl (by decide) rfl (fun x1 n1 q1 => ?_)
  obtain rfl := q1.1.symm
  obtain rfl := q1.2.symm
  show GX T 1 105 4 [(2, 192), (0, k)] [(0, (if m 192 12 = 0 then 1 else 0))] m (RV (fun m1 => RE X m1 f pl ∧ Fr [90012, 90013] m m1))
  refine gx_i0 (P := m 192 12 = 0) r_105_4 (b01_ne) (fun h4 => ?_) (fun h4 => ?_)
  · exact absurd h4 hb
  · exact gx_rt r_105_7 rfl rfl ⟨rfl, hE, Fr_rf⟩
theorem y_105g (hT : TT T) (hx : XOK X) {p : Nat} {w : Wd} (hG : RG X m p w) {k : Int} (hk1 : 1 ≤ k) (hk2 : k ≤ 3) : GX T 1 105 0 [(2, 192), (0, k)] [] m (RV (fun m1 => RE X m1 k (nS X p : Int) ∧ Fr [90012, 90013] m m1)) := by
  have hg : m 192 12 = 0 := hG.2.2.1
  have hm := hG.1
  have e9 := hG.2.2.2.2.1
  have bs := gb_192_9 hm
  rw [e9] at bs
  refine gx_st (L' := [(2, 192), (0, k)]) (S' := [(2, 192)]) r_105_0 rfl rfl rfl ?_
  refine gx_ci (nx := 4) (S2 := []) (x_104 hT hm) r_105_1 rfl rfl rfl rfl rfl (rcv_v rfl (tk_192 hT) (by decide) rfl (by decide)) rfl (by decide) rfl (fun x1 n1 q1 => ?_)
  obtain rfl := q1.1.symm
  obtain rfl := q1.2.symm
  show GX T 1 105 4 [(2, 192), (0, k)] [(0, (if m 192 12 = 0 then 1 else 0))] m (RV (fun m1 => RE X m1 k (nS X p : Int) ∧ Fr [90012, 90013] m m1))
  refine gx_i0 (P := m 192 12 = 0) r_105_4 (b01_ne) (fun h4 => ?_) (fun h4 => ?_)
  · refine gx_st (L' := [(2, 192), (0, k)]) (S' := [(2, 192)]) r_105_8 rfl rfl rfl ?_
    refine gx_st (L' := [(2, 192), (0, k)]) (S' := [(0, k), (2, 192)]) r_105_9 rfl rfl rfl ?_
    obtain ⟨m1, e_m1⟩ : ∃ z, z = nu_up m 192 12 k := ⟨_, rfl⟩
    have h_m1 : Gam m1 := by rw [e_m1]; exact gu_192_12 hm (by omega) (by omega)
    have f_m1 : Fr [90012, 90013] m m1 := Fr_tr Fr_rf (by rw [e_m1]; exact Fr_up rfl)
    refine gx_pf (x := k) 0 r_105_10 rfl (tk_192 hT) ⟨by decide, rfl, by decide, by decide⟩ rfl (fun z => absurd z (by decide)) (fun z => absurd z (by decide)) e_m1.symm ?_
    refine gx_st (L' := [(2, 192), (0, k)]) (S' := [(2, 192)]) r_105_13 rfl rfl rfl ?_
    refine gx_st (L' := [(2, 192), (0, k)]) (S' := [(2, 192), (2, 192)]) r_105_14 rfl rfl rfl ?_
    refine gx_gf (x := (nS X p : Int)) 0 r_105_15 rfl (tk_192 hT) ⟨by decide, rfl, by decide, by decide⟩ rfl (fun z => absurd z (by decide)) (show m1 192 9 = (nS X p : Int) from by rw [e_m1, nu_ne (by decide)]; exact e9) ?_
    obtain ⟨m2, e_m2⟩ : ∃ z, z = nu_up m1 192 13 (nS X p : Int) := ⟨_, rfl⟩
    have h_m2 : Gam m2 := by rw [e_m2]; exact gu_192_13 h_m1 (by omega) (by omega)
    have f_m2 : Fr [90012, 90013] m m2 := Fr_tr f_m1 (by rw [e_m2]; exact Fr_up rfl)
    refine gx_pf (x := (nS X p : Int)) 0 r_105_18 rfl (tk_192 hT) ⟨by decide, rfl, by decide, by decide⟩ rfl (fun z => absurd z (by decide)) (fun z => absurd z (by decide)) e_m2.symm ?_
    refine gx_rt r_105_21 rfl rfl ⟨rfl, ⟨h_m2, fun k => (seeV_w (Fr_sub f_m2 (by decide)) k).trans (hG.2.1 k), by rw [e_m2, nu_ne (by decide), e_m1, nu_at], ?_, by omega⟩, f_m2⟩
    rw [e_m2, nu_at]
  · exact absurd hg h4
theorem y_105 (hT : TT T) (hx : XOK X) {r : PR} (h : RRs X m r) {k : Int} (hk1 : 1 ≤ k) (hk2 : k ≤ 3) : GX T 1 105 0 [(2, 192), (0, k)] [] m (RV (fun m1 => RRs X m1 (pErr X k r) ∧ Fr [90008, 90009, 90010, 90011, 90012, 90013] m m1)) := by
  cases r with
  | error e => exact gx_imp (y_105e hT h k) (fun v m' ⟨a, b, c⟩ => ⟨a, b, Fr_sub c (by decide)⟩)
  | ok g => exact gx_imp (y_105g hT hx (p := g.1) (w := g.2) h hk1 hk2) (fun v m' ⟨a, b, c⟩ => ⟨a, b, Fr_sub c (by decide)⟩)
theorem y_106e (hT : TT T) {f pl : Int} (hE : RE X m f pl) {o : Int} {q n : Nat} (hq : q < 15) (ho : o = 1000000 + (q : Int)) (hn : slen q = some n) : GX T 1 106 0 [(2, 192), (2, o), (9, 0), (9, 0)] [] m (RI (fun v m1 => v = 0 ∧ m1 = m)) :=
  gx_imp (x_106 hT hE.1 hq ho hn) (fun v m' ⟨x, e, h1, h2⟩ => ⟨x, e, by
    rcases h1 with h1 | h1
    · exact h1.1
    · exfalso; have := h1.2.1; rw [hE.2.2.1] at this; exact hE.2.2.2.2 this, h2⟩)
theorem y_106g (hT : TT T) (hx : XOK X) {p : Nat} {w : Wd} (hG : RG X m p w) {o : Int} {q n : Nat} (hq : q < 15) (ho : o = 1000000 + (q : Int)) (hn : slen q = some n) : GX T 1 106 0 [(2, 192), (2, o), (9, 0), (9, 0)] [] m (RI (fun v m1 => v = (if isWd X p q = true then 1 else 0) ∧ m1 = m)) :=
  gx_imp (x_106 hT hG.1 hq ho hn) (fun v m' ⟨x, e, h1, h2⟩ => ⟨x, e, by
    rcases h1 with h1 | h1
    · rw [if_neg (fun z => h1.2 ((isW_iff hx hG hn).mpr z))]; exact h1.1
    · rw [if_pos ((isW_iff hx hG hn).mp h1.2)]; exact h1.1, h2⟩)
theorem y_107e (hT : TT T) {f pl : Int} (hE : RE X m f pl) {o : Int} {q n : Nat} (hq : q < 15) (ho : o = 1000000 + (q : Int)) (hn : slen q = some n) : GX T 2 107 0 [(2, 192), (2, o), (9, 0)] [] m (RI (fun v m1 => v = 0 ∧ m1 = m)) := by
  refine gx_st (L' := [(2, 192), (2, o), (9, 0)]) (S' := [(2, 192)]) r_107_0 rfl rfl rfl ?_
  refine gx_st (L' := [(2, 192), (2, o), (9, 0)]) (S' := [(2, o), (2, 192)]) r_107_1 rfl rfl rfl ?_
  refine gx_ci (nx := 5) (S2 := []) (y_106e hT hE hq ho hn) r_107_2 rfl rfl rfl rfl rfl (rcv_v rfl (tk_192 hT) (by decide) rfl (by decide)) rfl (by decide) rfl (fun x2 n2 q2 => ?_)
  obtain rfl := q2.1.symm
  obtain rfl := q2.2.symm
  show GX T 2 107 5 [(2, 192), (2, o), (9, 0)] [(0, 0)] m (RI (fun v m1 => v = 0 ∧ m1 = m))
  refine gx_st (L' := [(2, 192), (2, o), (0, 0)]) (S' := []) r_107_5 rfl rfl rfl ?_
  refine gx_st (L' := [(2, 192), (2, o), (0, 0)]) (S' := [(0, 0)]) r_107_6 rfl rfl rfl ?_
  refine gx_i0 (P := 0 = 0) r_107_7 (rfl) (fun h7 => ?_) (fun h7 => ?_)
  · refine gx_st (L' := [(2, 192), (2, o), (0, 0)]) (S' := [(0, 0)]) r_107_14 rfl rfl rfl ?_
    exact gx_rb r_107_15 rfl (Or.inl rfl) ⟨_, rfl, rfl, rfl⟩
  · exact absurd rfl h7
theorem y_107g (hT : TT T) (hx : XOK X) {p : Nat} {w : Wd} (hG : RG X m p w) {o : Int} {q n : Nat} (hq : q < 15) (ho : o = 1000000 + (q : Int)) (hn : slen q = some n) : GX T 2 107 0 [(2, 192), (2, o), (9, 0)] [] m (RI (fun v m1 => (v = 1 ∧ isWd X p q = true ∧ RG X m1 (nE X p) w ∧ Fr [90008, 90009, 90010, 90011, 90012, 90013] m m1) ∨ (v = 0 ∧ isWd X p q = false ∧ m1 = m))) := by
  have hm := hG.1
  refine gx_st (L' := [(2, 192), (2, o), (9, 0)]) (S' := [(2, 192)]) r_107_0 rfl rfl rfl ?_
  refine gx_st (L' := [(2, 192), (2, o), (9, 0)]) (S' := [(2, o), (2, 192)]) r_107_1 rfl rfl rfl ?_
  refine gx_ci (nx := 5) (S2 := []) (y_106g hT hx hG hq ho hn) r_107_2 rfl rfl rfl rfl rfl (rcv_v rfl (tk_192 hT) (by decide) rfl (by decide)) rfl (by decide) rfl (fun x2 n2 q2 => ?_)
  obtain rfl := q2.1.symm
  obtain rfl := q2.2.symm
  show GX T 2 107 5 [(2, 192), (2, o), (9, 0)] [(0, (if isWd X p q = true then 1 else 0))] m (RI (fun v m1 => (v = 1 ∧ isWd X p q = true ∧ RG X m1 (nE X p) w ∧ Fr [90008, 90009, 90010, 90011, 90012, 90013] m m1) ∨ (v = 0 ∧ isWd X p q = false ∧ m1 = m)))
  refine gx_st (L' := [(2, 192), (2, o), (0, (if isWd X p q = true then 1 else 0))]) (S' := []) r_107_5 rfl rfl rfl ?_
  refine gx_st (L' := [(2, 192), (2, o), (0, (if isWd X p q = true then 1 else 0))]) (S' := [(0, (if isWd X p q = true then 1 else 0))]) r_107_6 rfl rfl rfl ?_
  refine gx_i0 (P := ¬ (isWd X p q = true)) r_107_7 (b01_eq) (fun h7 => ?_) (fun h7 => ?_)
  · refine gx_st (L' := [(2, 192), (2, o), (0, (if isWd X p q = true then 1 else 0))]) (S' := [(0, (if isWd X p q = true then 1 else 0))]) r_107_14 rfl rfl rfl ?_
    rw [if_neg h7]
    exact gx_rb r_107_15 rfl (Or.inl rfl) ⟨_, rfl, Or.inr ⟨rfl, by simpa using h7, rfl⟩⟩
  · have h7 := Decidable.not_not.mp h7
    refine gx_st (L' := [(2, 192), (2, o), (0, (if isWd X p q = true then 1 else 0))]) (S' := [(2, 192)]) r_107_10 rfl rfl rfl ?_
    refine gx_cv (nx := 14) (S2 := []) (y_103 hT hm hG.2.1 hx hG.2.2.2.2.2.1) r_107_11 rfl rfl rfl rfl rfl (rcv_v rfl (tk_192 hT) (by decide) rfl (by decide)) rfl (by decide) rfl (fun n11 q11 => ?_)
    refine gx_st (L' := [(2, 192), (2, o), (0, (if isWd X p q = true then 1 else 0))]) (S' := [(0, (if isWd X p q = true then 1 else 0))]) r_107_14 rfl rfl rfl ?_
    rw [if_pos h7]
    exact gx_rb r_107_15 rfl (Or.inr rfl) ⟨_, rfl, Or.inl ⟨rfl, h7, RG_av hG q11, Fr_sub q11.2.2.1 (by decide)⟩⟩
theorem y_108e (hT : TT T) {f pl : Int} (hE : RE X m f pl) {o : Int} {q n : Nat} (hq : q < 15) (ho : o = 1000000 + (q : Int)) (hn : slen q = some n) : GX T 3 108 0 [(2, 192), (2, o)] [] m (RV (fun m1 => RE X m1 f pl ∧ Fr [90008, 90009, 90010, 90011, 90012, 90013] m m1)) := by
  refine gx_st (L' := [(2, 192), (2, o)]) (S' := [(2, 192)]) r_108_0 rfl rfl rfl ?_
  refine gx_st (L' := [(2, 192), (2, o)]) (S' := [(2, o), (2, 192)]) r_108_1 rfl rfl rfl ?_
  refine gx_ci (nx := 5) (S2 := []) (y_107e hT hE hq ho hn) r_108_2 rfl rfl rfl rfl rfl (rcv_v rfl (tk_192 hT) (by decide) rfl (by decide)) rfl (by decide) rfl (fun x2 n2 q2 => ?_)
  obtain rfl := q2.1.symm
  obtain rfl := q2.2.symm
  show GX T 3 108 5 [(2, 192), (2, o)] [(0, 0)] m (RV (fun m1 => RE X m1 f pl ∧ Fr [90008, 90009, 90010, 90011, 90012, 90013] m m1))
  refine gx_i0 (P := ¬ 0 = 0) r_108_5 (rfl) (fun h5 => ?_) (fun h5 => ?_)
  · exact absurd rfl h5
  · have h5 := Decidable.not_not.mp h5
    refine gx_st (L' := [(2, 192), (2, o)]) (S' := [(2, 192)]) r_108_8 rfl rfl rfl ?_
    refine gx_st (L' := [(2, 192), (2, o)]) (S' := [(0, 1), (2, 192)]) r_108_9 rfl rfl rfl ?_
    refine gx_cv (nx := 13) (S2 := []) (y_105e hT hE 1) r_108_10 rfl rfl rfl rfl rfl (rcv_v rfl (tk_192 hT) (by decide) rfl (by decide)) rfl (by decide) rfl (fun n10 q10 => ?_)
    exact gx_rt r_108_13 rfl rfl ⟨rfl, q10.1, Fr_sub q10.2 (by decide)⟩
theorem y_108g (hT : TT T) (hx : XOK X) {p : Nat} {w : Wd} (hG : RG X m p w) {o : Int} {q n : Nat} (hq : q < 15) (ho : o = 1000000 + (q : Int)) (hn : slen q = some n) : GX T 3 108 0 [(2, 192), (2, o)] [] m (RV (fun m1 => RRs X m1 (pNeed X q (.ok (p, w))) ∧ Fr [90008, 90009, 90010, 90011, 90012, 90013] m m1)) := by
  have hm := hG.1
  refine gx_st (L' := [(2, 192), (2, o)]) (S' := [(2, 192)]) r_108_0 rfl rfl rfl ?_
  refine gx_st (L' := [(2, 192), (2, o)]) (S' := [(2, o), (2, 192)]) r_108_1 rfl rfl rfl ?_
  refine gx_ci (nx := 5) (S2 := []) (y_107g hT hx hG hq ho hn) r_108_2 rfl rfl rfl rfl rfl (rcv_v rfl (tk_192 hT) (by decide) rfl (by decide)) rfl (by decide) rfl (fun x2 n2 q2 => ?_)
  show GX T 3 108 5 [(2, 192), (2, o)] [(0, x2)] n2 (RV (fun m1 => RRs X m1 (pNeed X q (.ok (p, w))) ∧ Fr [90008, 90009, 90010, 90011, 90012, 90013] m m1))
  refine gx_i0 (P := ¬ x2 = 0) r_108_5 (rfl) (fun h5 => ?_) (fun h5 => ?_)
  · obtain ⟨-, hw, hz, hf⟩ := q2.resolve_right (fun z => h5 z.1)
    refine gx_rt r_108_13 rfl rfl ⟨rfl, ?_, hf⟩
    show RRs X n2 (if isWd X p q = true then .ok (nE X p, w) else .error (1, (nS X p : Int)))
    rw [if_pos hw]; exact hz
  · have h5 := Decidable.not_not.mp h5
    refine gx_st (L' := [(2, 192), (2, o)]) (S' := [(2, 192)]) r_108_8 rfl rfl rfl ?_
    refine gx_st (L' := [(2, 192), (2, o)]) (S' := [(0, 1), (2, 192)]) r_108_9 rfl rfl rfl ?_
    obtain ⟨-, hw, hz⟩ := q2.resolve_left (fun z => by omega)
    obtain rfl := hz.symm
    refine gx_cv (nx := 13) (S2 := []) (y_105g hT hx hG (k := 1) (by decide) (by decide)) r_108_10 rfl rfl rfl rfl rfl (rcv_v rfl (tk_192 hT) (by decide) rfl (by decide)) rfl (by decide) rfl (fun n10 q10 => ?_)
    refine gx_rt r_108_13 rfl rfl ⟨rfl, ?_, Fr_sub q10.2 (by decide)⟩
    show RRs X n10 (if isWd X p q = true then .ok (nE X p, w) else .error (1, (nS X p : Int)))
    rw [if_neg (by rw [hw]; decide)]; exact q10.1
theorem y_108 (hT : TT T) (hx : XOK X) {r : PR} (h : RRs X m r) {o : Int} {q n : Nat} (hq : q < 15) (ho : o = 1000000 + (q : Int)) (hn : slen q = some n) : GX T 3 108 0 [(2, 192), (2, o)] [] m (RV (fun m1 => RRs X m1 (pNeed X q r) ∧ Fr [90008, 90009, 90010, 90011, 90012, 90013] m m1)) := by
  cases r with
  | error e => exact y_108e hT h hq ho hn
  | ok g => exact y_108g hT hx (p := g.1) (w := g.2) h hq ho hn
theorem y_109e (hT : TT T) {f pl : Int} (hE : RE X m f pl) (lo hi : Int) : GX T 2 109 0 [(2, 192), (0, lo), (0, hi), (9, 0)] [] m (RI (fun v m1 => v = 0 ∧ RE X m1 f pl ∧ Fr [90008, 90009, 90010, 90011, 90012, 90013] m m1)) := by
  have hb : ¬ m 192 12 = 0 := by rw [hE.2.2.1]; exact hE.2.2.2.2
  have hm := hE.1
  refine gx_st (L' := [(2, 192), (0, lo), (0, hi), (9, 0)]) (S' := [(2, 192)]) r_109_0 rfl rfl rfl ?_
  refine gx_ci (nx := 4) (S2 := []) (x_104 hT hm) r_109_1 rfl rfl rfl rfl rfl (rcv_v rfl (tk_192 hT) (by decide) rfl (by decide)) rfl (by decide) rfl (fun x1 n1 q1 => ?_)
  obtain rfl := q1.1.symm
  obtain rfl := q1.2.symm
  show GX T 2 109 4 [(2, 192), (0, lo), (0, hi), (9, 0)] [(0, (if m 192 12 = 0 then 1 else 0))] m (RI (fun v m1 => v = 0 ∧ RE X m1 f pl ∧ Fr [90008, 90009, 90010, 90011, 90012, 90013] m m1))
  refine gx_i0 (P := ¬ (m 192 12 = 0)) r_109_4 (b01_eq) (fun h4 => ?_) (fun h4 => ?_)
  · refine gx_st (L' := [(2, 192), (0, lo), (0, hi), (9, 0)]) (S' := [(2, 192)]) r_109_20 rfl rfl rfl ?_
    refine gx_ci (nx := 24) (S2 := []) (x_104 hT hm) r_109_21 rfl rfl rfl rfl rfl (rcv_v rfl (tk_192 hT) (by decide) rfl (by decide)) rfl (by decide) rfl (fun x21 n21 q21 => ?_)
    obtain rfl := q21.1.symm
    obtain rfl := q21.2.symm
    show GX T 2 109 24 [(2, 192), (0, lo), (0, hi), (9, 0)] [(0, (if m 192 12 = 0 then 1 else 0))] m (RI (fun v m1 => v = 0 ∧ RE X m1 f pl ∧ Fr [90008, 90009, 90010, 90011, 90012, 90013] m m1))
    refine gx_i0 (P := ¬ (m 192 12 = 0)) r_109_24 (b01_eq) (fun h24 => ?_) (fun h24 => ?_)
    · refine gx_st (L' := [(2, 192), (0, lo), (0, hi), (9, 0)]) (S' := [(2, 192)]) r_109_47 rfl rfl rfl ?_
      refine gx_ci (nx := 51) (S2 := []) (x_104 hT hm) r_109_48 rfl rfl rfl rfl rfl (rcv_v rfl (tk_192 hT) (by decide) rfl (by decide)) rfl (by decide) rfl (fun x48 n48 q48 => ?_)
      obtain rfl := q48.1.symm
      obtain rfl := q48.2.symm
      show GX T 2 109 51 [(2, 192), (0, lo), (0, hi), (9, 0)] [(0, (if m 192 12 = 0 then 1 else 0))] m (RI (fun v m1 => v = 0 ∧ RE X m1 f pl ∧ Fr [90008, 90009, 90010, 90011, 90012, 90013] m m1))
      refine gx_i0 (P := m 192 12 = 0) r_109_51 (b01_ne) (fun h51 => ?_) (fun h51 => ?_)
      · exact absurd h51 hb
      · refine gx_st (L' := [(2, 192), (0, lo), (0, hi), (9, 0)]) (S' := [(0, 0)]) r_109_54 rfl rfl rfl ?_
        exact gx_rt r_109_55 rfl rfl ⟨_, rfl, rfl, hE, Fr_rf⟩
    · have h24 := Decidable.not_not.mp h24
      exact absurd h24 hb
  · have h4 := Decidable.not_not.mp h4
    exact absurd h4 hb
theorem y_109g (hT : TT T) (hx : XOK X) {p : Nat} {w : Wd} (hG : RG X m p w) (lo hi : Int) : GX T 2 109 0 [(2, 192), (0, lo), (0, hi), (9, 0)] [] m (RI (fun v m1 => RU X m1 v (pNum X lo hi (.ok (p, w))) ∧ Fr [90008, 90009, 90010, 90011, 90012, 90013] m m1)) := by
  have hg : m 192 12 = 0 := hG.2.2.1
  have hm := hG.1
  refine gx_st (L' := [(2, 192), (0, lo), (0, hi), (9, 0)]) (S' := [(2, 192)]) r_109_0 rfl rfl rfl ?_
  refine gx_ci (nx := 4) (S2 := []) (x_104 hT hm) r_109_1 rfl rfl rfl rfl rfl (rcv_v rfl (tk_192 hT) (by decide) rfl (by decide)) rfl (by decide) rfl (fun x1 n1 q1 => ?_)
  obtain rfl := q1.1.symm
  obtain rfl := q1.2.symm
  show GX T 2 109 4 [(2, 192), (0, lo), (0, hi), (9, 0)] [(0, (if m 192 12 = 0 then 1 else 0))] m (RI (fun v m1 => RU X m1 v (pNum X lo hi (.ok (p, w))) ∧ Fr [90008, 90009, 90010, 90011, 90012, 90013] m m1))
  refine gx_i0 (P := ¬ (m 192 12 = 0)) r_109_4 (b01_eq) (fun h4 => ?_) (fun h4 => ?_)
  · exact absurd hg h4
  · have h4 := Decidable.not_not.mp h4
    refine gx_st (L' := [(2, 192), (0, lo), (0, hi), (9, 0)]) (S' := [(2, 192)]) r_109_7 rfl rfl rfl ?_
    refine gx_gf (x := (nK X p)) 0 r_109_8 rfl (tk_192 hT) ⟨by decide, rfl, by decide, by decide⟩ rfl (fun z => absurd z (by decide)) (hG.2.2.2.2.2.2.1) ?_
    refine gx_st (L' := [(2, 192), (0, lo), (0, hi), (9, 0)]) (S' := [(0, 2), (0, (nK X p))]) r_109_11 rfl rfl rfl ?_
    refine gx_ic (P := (nK X p) = 2) r_109_12 (rfl) (fun h12 => ?_) (fun h12 => ?_)
    · refine gx_st (L' := [(2, 192), (0, lo), (0, hi), (9, 0)]) (S' := [(2, 192)]) r_109_20 rfl rfl rfl ?_
      refine gx_ci (nx := 24) (S2 := []) (x_104 hT hm) r_109_21 rfl rfl rfl rfl rfl (rcv_v rfl (tk_192 hT) (by decide) rfl (by decide)) rfl (by decide) rfl (fun x21 n21 q21 => ?_)
      obtain rfl := q21.1.symm
      obtain rfl := q21.2.symm
      show GX T 2 109 24 [(2, 192), (0, lo), (0, hi), (9, 0)] [(0, (if m 192 12 = 0 then 1 else 0))] m (RI (fun v m1 => RU X m1 v (pNum X lo hi (.ok (p, w))) ∧ Fr [90008, 90009, 90010, 90011, 90012, 90013] m m1))
      refine gx_i0 (P := ¬ (m 192 12 = 0)) r_109_24 (b01_eq) (fun h24 => ?_) (fun h24 => ?_)
      · exact absurd hg h24
      · have h24 := Decidable.not_not.mp h24
        refine gx_st (L' := [(2, 192), (0, lo), (0, hi), (9, 0)]) (S' := [(2, 192)]) r_109_27 rfl rfl rfl ?_
        refine gx_gf (x := (nV X p)) 0 r_109_28 rfl (tk_192 hT) ⟨by decide, rfl, by decide, by decide⟩ rfl (fun z => absurd z (by decide)) (hG.2.2.2.2.2.2.2.1 (by omega)) ?_
        refine gx_st (L' := [(2, 192), (0, lo), (0, hi), (9, 0)]) (S' := [(1, (nV X p))]) r_109_31 rfl rfl rfl ?_
        refine gx_st (L' := [(2, 192), (0, lo), (0, hi), (9, 0)]) (S' := [(0, lo), (1, (nV X p))]) r_109_32 rfl rfl rfl ?_
        refine gx_st (L' := [(2, 192), (0, lo), (0, hi), (9, 0)]) (S' := [(1, lo), (1, (nV X p))]) r_109_33 rfl rfl rfl ?_
        refine gx_st (L' := [(2, 192), (0, lo), (0, hi), (9, 0)]) (S' := [(0, hi), (1, lo), (1, (nV X p))]) r_109_34 rfl rfl rfl ?_
        refine gx_st (L' := [(2, 192), (0, lo), (0, hi), (9, 0)]) (S' := [(1, hi), (1, lo), (1, (nV X p))]) r_109_35 rfl rfl rfl ?_
        refine gx_ci (nx := 39) (S2 := []) (x_86 (nV X p) lo hi) r_109_36 rfl rfl rfl rfl rfl rfl rfl (by decide) rfl (fun x36 n36 q36 => ?_)
        obtain rfl := q36.1.symm
        obtain rfl := q36.2.symm
        show GX T 2 109 39 [(2, 192), (0, lo), (0, hi), (9, 0)] [(0, (if lo ≤ (nV X p) ∧ (nV X p) ≤ hi then 1 else 0))] m (RI (fun v m1 => RU X m1 v (pNum X lo hi (.ok (p, w))) ∧ Fr [90008, 90009, 90010, 90011, 90012, 90013] m m1))
        refine gx_i0 (P := lo ≤ (nV X p) ∧ (nV X p) ≤ hi) r_109_39 (b01_ne) (fun h39 => ?_) (fun h39 => ?_)
        · refine gx_st (L' := [(2, 192), (0, lo), (0, hi), (9, 0)]) (S' := [(2, 192)]) r_109_47 rfl rfl rfl ?_
          refine gx_ci (nx := 51) (S2 := []) (x_104 hT hm) r_109_48 rfl rfl rfl rfl rfl (rcv_v rfl (tk_192 hT) (by decide) rfl (by decide)) rfl (by decide) rfl (fun x48 n48 q48 => ?_)
          obtain rfl := q48.1.symm
          obtain rfl := q48.2.symm
          show GX T 2 109 51 [(2, 192), (0, lo), (0, hi), (9, 0)] [(0, (if m 192 12 = 0 then 1 else 0))] m (RI (fun v m1 => RU X m1 v (pNum X lo hi (.ok (p, w))) ∧ Fr [90008, 90009, 90010, 90011, 90012, 90013] m m1))
          refine gx_i0 (P := m 192 12 = 0) r_109_51 (b01_ne) (fun h51 => ?_) (fun h51 => ?_)
          · refine gx_st (L' := [(2, 192), (0, lo), (0, hi), (9, 0)]) (S' := [(2, 192)]) r_109_56 rfl rfl rfl ?_
            refine gx_gf (x := (nV X p)) 0 r_109_57 rfl (tk_192 hT) ⟨by decide, rfl, by decide, by decide⟩ rfl (fun z => absurd z (by decide)) (hG.2.2.2.2.2.2.2.1 (by omega)) ?_
            refine gx_st (L' := [(2, 192), (0, lo), (0, hi), (0, (nV X p))]) (S' := []) r_109_60 rfl rfl rfl ?_
            refine gx_st (L' := [(2, 192), (0, lo), (0, hi), (0, (nV X p))]) (S' := [(2, 192)]) r_109_61 rfl rfl rfl ?_
            refine gx_cv (nx := 65) (S2 := []) (y_103 hT hm hG.2.1 hx hG.2.2.2.2.2.1) r_109_62 rfl rfl rfl rfl rfl (rcv_v rfl (tk_192 hT) (by decide) rfl (by decide)) rfl (by decide) rfl (fun n62 q62 => ?_)
            refine gx_st (L' := [(2, 192), (0, lo), (0, hi), (0, (nV X p))]) (S' := [(0, (nV X p))]) r_109_65 rfl rfl rfl ?_
            refine gx_rt r_109_66 rfl rfl ⟨_, rfl, ?_, Fr_sub q62.2.2.1 (by decide)⟩
            show RU X n62 (nV X p) (if ¬ nK X p = 2 then (.error (1, (nS X p : Int)) : PV) else if lo ≤ nV X p ∧ nV X p ≤ hi then .ok (nV X p, nE X p, w) else .error (2, (nS X p : Int)))
            rw [if_neg (by omega), if_pos (by omega)]; exact ⟨rfl, RG_av hG q62⟩
          · exact absurd hg h51
        · refine gx_st (L' := [(2, 192), (0, lo), (0, hi), (9, 0)]) (S' := [(2, 192)]) r_109_42 rfl rfl rfl ?_
          refine gx_st (L' := [(2, 192), (0, lo), (0, hi), (9, 0)]) (S' := [(0, 2), (2, 192)]) r_109_43 rfl rfl rfl ?_
          refine gx_cv (nx := 47) (S2 := []) (y_105g hT hx hG (k := 2) (by decide) (by decide)) r_109_44 rfl rfl rfl rfl rfl (rcv_v rfl (tk_192 hT) (by decide) rfl (by decide)) rfl (by decide) rfl (fun n44 q44 => ?_)
          have hb_n44 : ¬ n44 192 12 = 0 := by rw [q44.1.2.2.1]; exact q44.1.2.2.2.2
          refine gx_st (L' := [(2, 192), (0, lo), (0, hi), (9, 0)]) (S' := [(2, 192)]) r_109_47 rfl rfl rfl ?_
          refine gx_ci (nx := 51) (S2 := []) (x_104 hT q44.1.1) r_109_48 rfl rfl rfl rfl rfl (rcv_v rfl (tk_192 hT) (by decide) rfl (by decide)) rfl (by decide) rfl (fun x48 n48 q48 => ?_)
          obtain rfl := q48.1.symm
          obtain rfl := q48.2.symm
          show GX T 2 109 51 [(2, 192), (0, lo), (0, hi), (9, 0)] [(0, (if n44 192 12 = 0 then 1 else 0))] n44 (RI (fun v m1 => RU X m1 v (pNum X lo hi (.ok (p, w))) ∧ Fr [90008, 90009, 90010, 90011, 90012, 90013] m m1))
          refine gx_i0 (P := n44 192 12 = 0) r_109_51 (b01_ne) (fun h51 => ?_) (fun h51 => ?_)
          · exact absurd h51 hb_n44
          · refine gx_st (L' := [(2, 192), (0, lo), (0, hi), (9, 0)]) (S' := [(0, 0)]) r_109_54 rfl rfl rfl ?_
            refine gx_rt r_109_55 rfl rfl ⟨_, rfl, ?_, Fr_sub q44.2 (by decide)⟩
            show RU X n44 0 (if ¬ nK X p = 2 then (.error (1, (nS X p : Int)) : PV) else if lo ≤ nV X p ∧ nV X p ≤ hi then .ok (nV X p, nE X p, w) else .error (2, (nS X p : Int)))
            rw [if_neg (by omega), if_neg (by omega)]; exact ⟨rfl, q44.1⟩
    · refine gx_st (L' := [(2, 192), (0, lo), (0, hi), (9, 0)]) (S' := [(2, 192)]) r_109_15 rfl rfl rfl ?_
      refine gx_st (L' := [(2, 192), (0, lo), (0, hi), (9, 0)]) (S' := [(0, 1), (2, 192)]) r_109_16 rfl rfl rfl ?_
      refine gx_cv (nx := 20) (S2 := []) (y_105g hT hx hG (k := 1) (by decide) (by decide)) r_109_17 rfl rfl rfl rfl rfl (rcv_v rfl (tk_192 hT) (by decide) rfl (by decide)) rfl (by decide) rfl (fun n17 q17 => ?_)
      have hb_n17 : ¬ n17 192 12 = 0 := by rw [q17.1.2.2.1]; exact q17.1.2.2.2.2
      refine gx_st (L' := [(2, 192), (0, lo), (0, hi), (9, 0)]) (S' := [(2, 192)]) r_109_20 rfl rfl rfl ?_
      refine gx_ci (nx := 24) (S2 := []) (x_104 hT q17.1.1) r_109_21 rfl rfl rfl rfl rfl (rcv_v rfl (tk_192 hT) (by decide) rfl (by decide)) rfl (by decide) rfl (fun x21 n21 q21 => ?_)
      obtain rfl := q21.1.symm
      obtain rfl := q21.2.symm
      show GX T 2 109 24 [(2, 192), (0, lo), (0, hi), (9, 0)] [(0, (if n17 192 12 = 0 then 1 else 0))] n17 (RI (fun v m1 => RU X m1 v (pNum X lo hi (.ok (p, w))) ∧ Fr [90008, 90009, 90010, 90011, 90012, 90013] m m1))
      refine gx_i0 (P := ¬ (n17 192 12 = 0)) r_109_24 (b01_eq) (fun h24 => ?_) (fun h24 => ?_)
      · refine gx_st (L' := [(2, 192), (0, lo), (0, hi), (9, 0)]) (S' := [(2, 192)]) r_109_47 rfl rfl rfl ?_
        refine gx_ci (nx := 51) (S2 := []) (x_104 hT q17.1.1) r_109_48 rfl rfl rfl rfl rfl (rcv_v rfl (tk_192 hT) (by decide) rfl (by decide)) rfl (by decide) rfl (fun x48 n48 q48 => ?_)
        obtain rfl := q48.1.symm
        obtain rfl := q48.2.symm
        show GX T 2 109 51 [(2, 192), (0, lo), (0, hi), (9, 0)] [(0, (if n17 192 12 = 0 then 1 else 0))] n17 (RI (fun v m1 => RU X m1 v (pNum X lo hi (.ok (p, w))) ∧ Fr [90008, 90009, 90010, 90011, 90012, 90013] m m1))
        refine gx_i0 (P := n17 192 12 = 0) r_109_51 (b01_ne) (fun h51 => ?_) (fun h51 => ?_)
        · exact absurd h51 hb_n17
        · refine gx_st (L' := [(2, 192), (0, lo), (0, hi), (9, 0)]) (S' := [(0, 0)]) r_109_54 rfl rfl rfl ?_
          refine gx_rt r_109_55 rfl rfl ⟨_, rfl, ?_, Fr_sub q17.2 (by decide)⟩
          show RU X n17 0 (if ¬ nK X p = 2 then (.error (1, (nS X p : Int)) : PV) else if lo ≤ nV X p ∧ nV X p ≤ hi then .ok (nV X p, nE X p, w) else .error (2, (nS X p : Int)))
          rw [if_pos (by omega)]; exact ⟨rfl, q17.1⟩
      · have h24 := Decidable.not_not.mp h24
        exact absurd h24 hb_n17
theorem y_109 (hT : TT T) (hx : XOK X) {r : PR} (h : RRs X m r) (lo hi : Int) : GX T 2 109 0 [(2, 192), (0, lo), (0, hi), (9, 0)] [] m (RI (fun v m1 => RU X m1 v (pNum X lo hi r) ∧ Fr [90008, 90009, 90010, 90011, 90012, 90013] m m1)) := by
  cases r with
  | error e => exact gx_imp (y_109e hT h lo hi) (fun v m' ⟨x, e, a, b, c⟩ => ⟨x, e, ⟨a, b⟩, c⟩)
  | ok g => exact y_109g hT hx (p := g.1) (w := g.2) h lo hi
theorem y_110 (hT : TT T) (hx : XOK X) {r : PR} (h : RRs X m r) {o : Int} {q n : Nat} (hq : q < 15) (ho : o = 1000000 + (q : Int)) (hn : slen q = some n) (lo hi : Int) : GX T 4 110 0 [(2, 192), (2, o), (0, lo), (0, hi)] [] m (RI (fun v m1 => RU X m1 v (pNum X lo hi (pNeed X q r)) ∧ Fr [90008, 90009, 90010, 90011, 90012, 90013] m m1)) := by
  refine gx_st (L' := [(2, 192), (2, o), (0, lo), (0, hi)]) (S' := [(2, 192)]) r_110_0 rfl rfl rfl ?_
  refine gx_st (L' := [(2, 192), (2, o), (0, lo), (0, hi)]) (S' := [(2, o), (2, 192)]) r_110_1 rfl rfl rfl ?_
  refine gx_cv (nx := 5) (S2 := []) (y_108 hT hx h hq ho hn) r_110_2 rfl rfl rfl rfl rfl (rcv_v rfl (tk_192 hT) (by decide) rfl (by decide)) rfl (by decide) rfl (fun n2 q2 => ?_)
  refine gx_st (L' := [(2, 192), (2, o), (0, lo), (0, hi)]) (S' := [(2, 192)]) r_110_5 rfl rfl rfl ?_
  refine gx_st (L' := [(2, 192), (2, o), (0, lo), (0, hi)]) (S' := [(0, lo), (2, 192)]) r_110_6 rfl rfl rfl ?_
  refine gx_st (L' := [(2, 192), (2, o), (0, lo), (0, hi)]) (S' := [(0, hi), (0, lo), (2, 192)]) r_110_7 rfl rfl rfl ?_
  refine gx_ci (nx := 11) (S2 := []) (y_109 hT hx q2.1 lo hi) r_110_8 rfl rfl rfl rfl rfl (rcv_v rfl (tk_192 hT) (by decide) rfl (by decide)) rfl (by decide) rfl (fun x8 n8 q8 => ?_)
  show GX T 4 110 11 [(2, 192), (2, o), (0, lo), (0, hi)] [(0, x8)] n8 (RI (fun v m1 => RU X m1 v (pNum X lo hi (pNeed X q r)) ∧ Fr [90008, 90009, 90010, 90011, 90012, 90013] m m1))
  exact gx_rt r_110_11 rfl rfl ⟨_, rfl, q8.1, Fr_tr q2.2 q8.2⟩
theorem y_112 (hT : TT T) (hx : XOK X) {r : PR} (h : RRs X m r) : GX T 3 112 0 [(2, 192)] [] m (RI (fun v m1 => RU X m1 v (pPl X r) ∧ Fr [90008, 90009, 90010, 90011, 90012, 90013] m m1)) := by
  have hm := RR_g h
  refine gx_st (L' := [(2, 192)]) (S' := [(2, 192)]) r_112_0 rfl rfl rfl ?_
  refine gx_st (L' := [(2, 192)]) (S' := [(0, 0), (2, 192)]) r_112_1 rfl rfl rfl ?_
  refine gx_st (L' := [(2, 192)]) (S' := [(2, 192), (0, 0), (2, 192)]) r_112_2 rfl rfl rfl ?_
  refine gx_gf (x := 198) 2 r_112_3 rfl (tk_192 hT) ⟨by decide, rfl, by decide, by decide⟩ rfl (fun _ => by decide) (pr_192_14 hm) ?_
  refine gx_st (L' := [(2, 192)]) (S' := [(0, 0), (2, 198), (0, 0), (2, 192)]) r_112_6 rfl rfl rfl ?_
  obtain ⟨x7, e_x7⟩ : ∃ z, z = m 198 (0) := ⟨_, rfl⟩
  have b_x7 := gb_198_0 hm
  rw [← e_x7] at b_x7
  refine gx_ia (n := 0) (x := x7) r_112_7 rfl (tk_198 hT) (rfl) ⟨rfl, by decide⟩ (e_x7.symm) ?_
  refine gx_st (L' := [(2, 192)]) (S' := [(0, 1), (0, x7), (0, 0), (2, 192)]) r_112_8 rfl rfl rfl ?_
  refine gx_ar (L' := [(2, 192)]) (S' := [(0, 0), (2, 192)]) (t := 0) (e := w32 (x7 - 1)) (z := x7 - 1) r_112_9 rfl rfl rfl (w32_eq (by omega) (by omega) (by omega)) ?_
  refine gx_ci (nx := 13) (S2 := []) (y_109 hT hx h 0 (x7 - 1)) r_112_10 rfl rfl rfl rfl rfl (rcv_v rfl (tk_192 hT) (by decide) rfl (by decide)) rfl (by decide) rfl (fun x10 n10 q10 => ?_)
  show GX T 3 112 13 [(2, 192)] [(0, x10)] n10 (RI (fun v m1 => RU X m1 v (pPl X r) ∧ Fr [90008, 90009, 90010, 90011, 90012, 90013] m m1))
  refine gx_rt r_112_13 rfl rfl ⟨_, rfl, ?_, q10.2⟩
  cases r with
  | error e => exact q10.1
  | ok g =>
    have e0 : x7 = g.2 0 := by rw [e_x7]; exact h.2.2.2.2.2.2.2.2 0 (by decide)
    rw [e0] at q10
    exact q10.1
theorem RR_fr0 {r : PR} (h : RRs X m r) : ∀ p w, r = .ok (p, w) → w 0 ≤ 7 := by
  intro p w e
  subst e
  have h1 : m 198 0 = w 0 := h.2.2.2.2.2.2.2.2 0 (by decide)
  have h2 := gb_198_0 h.1
  omega
theorem y_113 (hT : TT T) (hx : XOK X) {r : PR} (h : RRs X m r) : GX T 5 113 0 [(2, 192)] [] m (RV (fun m1 => RRs X m1 (pFirst X r) ∧ Fr [90008, 90009, 90010, 90011, 90012, 90013, 96999] m m1 ∧ m1 198 9 = m 198 9)) := by
  have hm := RR_g h
  refine gx_st (L' := [(2, 192)]) (S' := [(2, 192)]) r_113_0 rfl rfl rfl ?_
  refine gx_st (L' := [(2, 192)]) (S' := [(2, 1000005), (2, 192)]) r_113_1 rfl rfl rfl ?_
  refine gx_cv (nx := 6) (S2 := []) (y_108 hT hx h (q := 5) (by decide) rfl sl_5) r_113_3 rfl rfl rfl rfl rfl (rcv_v rfl (tk_192 hT) (by decide) rfl (by decide)) rfl (by decide) rfl (fun n3 q3 => ?_)
  have k9_n3 : n3 198 9 = m 198 9 := (Fr_cell (o := 198) q3.2 (by decide) (by decide) 9).trans rfl
  have f_n3 : Fr [90008, 90009, 90010, 90011, 90012, 90013, 96999] m n3 := Fr_tr Fr_rf (Fr_sub q3.2 (by decide))
  refine gx_st (L' := [(2, 192)]) (S' := [(2, 192)]) r_113_6 rfl rfl rfl ?_
  refine gx_gf (x := 198) 2 r_113_7 rfl (tk_192 hT) ⟨by decide, rfl, by decide, by decide⟩ rfl (fun _ => by decide) (pr_192_14 (RR_g q3.1)) ?_
  refine gx_st (L' := [(2, 192)]) (S' := [(0, 0), (2, 198)]) r_113_10 rfl rfl rfl ?_
  refine gx_st (L' := [(2, 192)]) (S' := [(2, 192), (0, 0), (2, 198)]) r_113_11 rfl rfl rfl ?_
  refine gx_st (L' := [(2, 192)]) (S' := [(2, 1000006), (2, 192), (0, 0), (2, 198)]) r_113_12 rfl rfl rfl ?_
  refine gx_st (L' := [(2, 192)]) (S' := [(0, 2), (2, 1000006), (2, 192), (0, 0), (2, 198)]) r_113_14 rfl rfl rfl ?_
  refine gx_st (L' := [(2, 192)]) (S' := [(0, 7), (0, 2), (2, 1000006), (2, 192), (0, 0), (2, 198)]) r_113_15 rfl rfl rfl ?_
  refine gx_ci (nx := 20) (S2 := [(0, 0), (2, 198)]) (y_110 hT hx q3.1 (q := 6) (by decide) rfl sl_6 2 7) r_113_17 rfl rfl rfl rfl rfl (rcv_v rfl (tk_192 hT) (by decide) rfl (by decide)) rfl (by decide) rfl (fun x17 n17 q17 => ?_)
  show GX T 5 113 20 [(2, 192)] [(0, x17), (0, 0), (2, 198)] n17 (RV (fun m1 => RRs X m1 (pFirst X r) ∧ Fr [90008, 90009, 90010, 90011, 90012, 90013, 96999] m m1 ∧ m1 198 9 = m 198 9))
  have k9_n17 : n17 198 9 = m 198 9 := (Fr_cell (o := 198) q17.2 (by decide) (by decide) 9).trans k9_n3
  have f_n17 : Fr [90008, 90009, 90010, 90011, 90012, 90013, 96999] m n17 := Fr_tr f_n3 (Fr_sub q17.2 (by decide))
  have b_x17 := RU_in q17.1
  obtain ⟨m1, e_m1⟩ : ∃ z, z = nu_up n17 198 (0) x17 := ⟨_, rfl⟩
  have h_m1 : Gam m1 := by rw [e_m1]; exact gu_198_0 (RU_g q17.1) (by omega) (by omega)
  refine gx_is (n := 0) (x := x17) r_113_20 rfl (by decide) (tk_198 hT) (rfl) ⟨rfl, by decide⟩ e_m1.symm ?_
  have r_m1 := RU_set q17.1 (by rw [← e_m1]; exact h_m1)
  rw [← e_m1] at r_m1
  have f_m1 : Fr [90008, 90009, 90010, 90011, 90012, 90013, 96999] m m1 := Fr_tr f_n17 (by rw [e_m1]; exact Fr_ua rfl rfl)
  have k9_m1 : m1 198 9 = m 198 9 := by rw [e_m1, nu_ne (by omega)]; exact k9_n17
  refine gx_st (L' := [(2, 192)]) (S' := [(2, 192)]) r_113_21 rfl rfl rfl ?_
  refine gx_gf (x := 198) 2 r_113_22 rfl (tk_192 hT) ⟨by decide, rfl, by decide, by decide⟩ rfl (fun _ => by decide) (pr_192_14 h_m1) ?_
  refine gx_st (L' := [(2, 192)]) (S' := [(0, 1), (2, 198)]) r_113_25 rfl rfl rfl ?_
  refine gx_st (L' := [(2, 192)]) (S' := [(2, 192), (0, 1), (2, 198)]) r_113_26 rfl rfl rfl ?_
  refine gx_st (L' := [(2, 192)]) (S' := [(2, 1000007), (2, 192), (0, 1), (2, 198)]) r_113_27 rfl rfl rfl ?_
  refine gx_st (L' := [(2, 192)]) (S' := [(0, 1), (2, 1000007), (2, 192), (0, 1), (2, 198)]) r_113_29 rfl rfl rfl ?_
  refine gx_st (L' := [(2, 192)]) (S' := [(0, 12), (0, 1), (2, 1000007), (2, 192), (0, 1), (2, 198)]) r_113_30 rfl rfl rfl ?_
  refine gx_ci (nx := 35) (S2 := [(0, 1), (2, 198)]) (y_110 hT hx r_m1 (q := 7) (by decide) rfl sl_7 1 12) r_113_32 rfl rfl rfl rfl rfl (rcv_v rfl (tk_192 hT) (by decide) rfl (by decide)) rfl (by decide) rfl (fun x32 n32 q32 => ?_)
  show GX T 5 113 35 [(2, 192)] [(0, x32), (0, 1), (2, 198)] n32 (RV (fun m1 => RRs X m1 (pFirst X r) ∧ Fr [90008, 90009, 90010, 90011, 90012, 90013, 96999] m m1 ∧ m1 198 9 = m 198 9))
  have k9_n32 : n32 198 9 = m 198 9 := (Fr_cell (o := 198) q32.2 (by decide) (by decide) 9).trans k9_m1
  have f_n32 : Fr [90008, 90009, 90010, 90011, 90012, 90013, 96999] m n32 := Fr_tr f_m1 (Fr_sub q32.2 (by decide))
  have b_x32 := RU_in q32.1
  obtain ⟨m2, e_m2⟩ : ∃ z, z = nu_up n32 198 (1) x32 := ⟨_, rfl⟩
  have h_m2 : Gam m2 := by rw [e_m2]; exact gu_198_1 (RU_g q32.1) (by omega) (by omega)
  refine gx_is (n := 1) (x := x32) r_113_35 rfl (by decide) (tk_198 hT) (rfl) ⟨rfl, by decide⟩ e_m2.symm ?_
  have r_m2 := RU_set q32.1 (by rw [← e_m2]; exact h_m2)
  rw [← e_m2] at r_m2
  have f_m2 : Fr [90008, 90009, 90010, 90011, 90012, 90013, 96999] m m2 := Fr_tr f_n32 (by rw [e_m2]; exact Fr_ua rfl rfl)
  have k9_m2 : m2 198 9 = m 198 9 := by rw [e_m2, nu_ne (by omega)]; exact k9_n32
  refine gx_st (L' := [(2, 192)]) (S' := [(2, 192)]) r_113_36 rfl rfl rfl ?_
  refine gx_gf (x := 198) 2 r_113_37 rfl (tk_192 hT) ⟨by decide, rfl, by decide, by decide⟩ rfl (fun _ => by decide) (pr_192_14 h_m2) ?_
  refine gx_st (L' := [(2, 192)]) (S' := [(0, 2), (2, 198)]) r_113_40 rfl rfl rfl ?_
  refine gx_st (L' := [(2, 192)]) (S' := [(2, 192), (0, 2), (2, 198)]) r_113_41 rfl rfl rfl ?_
  refine gx_st (L' := [(2, 192)]) (S' := [(2, 1000008), (2, 192), (0, 2), (2, 198)]) r_113_42 rfl rfl rfl ?_
  refine gx_st (L' := [(2, 192)]) (S' := [(0, 1), (2, 1000008), (2, 192), (0, 2), (2, 198)]) r_113_44 rfl rfl rfl ?_
  refine gx_st (L' := [(2, 192)]) (S' := [(0, 20), (0, 1), (2, 1000008), (2, 192), (0, 2), (2, 198)]) r_113_45 rfl rfl rfl ?_
  refine gx_ci (nx := 50) (S2 := [(0, 2), (2, 198)]) (y_110 hT hx r_m2 (q := 8) (by decide) rfl sl_8 1 20) r_113_47 rfl rfl rfl rfl rfl (rcv_v rfl (tk_192 hT) (by decide) rfl (by decide)) rfl (by decide) rfl (fun x47 n47 q47 => ?_)
  show GX T 5 113 50 [(2, 192)] [(0, x47), (0, 2), (2, 198)] n47 (RV (fun m1 => RRs X m1 (pFirst X r) ∧ Fr [90008, 90009, 90010, 90011, 90012, 90013, 96999] m m1 ∧ m1 198 9 = m 198 9))
  have k9_n47 : n47 198 9 = m 198 9 := (Fr_cell (o := 198) q47.2 (by decide) (by decide) 9).trans k9_m2
  have f_n47 : Fr [90008, 90009, 90010, 90011, 90012, 90013, 96999] m n47 := Fr_tr f_m2 (Fr_sub q47.2 (by decide))
  have b_x47 := RU_in q47.1
  obtain ⟨m3, e_m3⟩ : ∃ z, z = nu_up n47 198 (2) x47 := ⟨_, rfl⟩
  have h_m3 : Gam m3 := by rw [e_m3]; exact gu_198_2 (RU_g q47.1) (by omega) (by omega)
  refine gx_is (n := 2) (x := x47) r_113_50 rfl (by decide) (tk_198 hT) (rfl) ⟨rfl, by decide⟩ e_m3.symm ?_
  have r_m3 := RU_set q47.1 (by rw [← e_m3]; exact h_m3)
  rw [← e_m3] at r_m3
  have f_m3 : Fr [90008, 90009, 90010, 90011, 90012, 90013, 96999] m m3 := Fr_tr f_n47 (by rw [e_m3]; exact Fr_ua rfl rfl)
  have k9_m3 : m3 198 9 = m 198 9 := by rw [e_m3, nu_ne (by omega)]; exact k9_n47
  refine gx_st (L' := [(2, 192)]) (S' := [(2, 192)]) r_113_51 rfl rfl rfl ?_
  refine gx_gf (x := 198) 2 r_113_52 rfl (tk_192 hT) ⟨by decide, rfl, by decide, by decide⟩ rfl (fun _ => by decide) (pr_192_14 h_m3) ?_
  refine gx_st (L' := [(2, 192)]) (S' := [(0, 3), (2, 198)]) r_113_55 rfl rfl rfl ?_
  refine gx_st (L' := [(2, 192)]) (S' := [(2, 192), (0, 3), (2, 198)]) r_113_56 rfl rfl rfl ?_
  refine gx_st (L' := [(2, 192)]) (S' := [(2, 1000009), (2, 192), (0, 3), (2, 198)]) r_113_57 rfl rfl rfl ?_
  refine gx_st (L' := [(2, 192)]) (S' := [(0, 0), (2, 1000009), (2, 192), (0, 3), (2, 198)]) r_113_59 rfl rfl rfl ?_
  refine gx_st (L' := [(2, 192)]) (S' := [(0, 10), (0, 0), (2, 1000009), (2, 192), (0, 3), (2, 198)]) r_113_60 rfl rfl rfl ?_
  refine gx_ci (nx := 65) (S2 := [(0, 3), (2, 198)]) (y_110 hT hx r_m3 (q := 9) (by decide) rfl sl_9 0 10) r_113_62 rfl rfl rfl rfl rfl (rcv_v rfl (tk_192 hT) (by decide) rfl (by decide)) rfl (by decide) rfl (fun x62 n62 q62 => ?_)
  show GX T 5 113 65 [(2, 192)] [(0, x62), (0, 3), (2, 198)] n62 (RV (fun m1 => RRs X m1 (pFirst X r) ∧ Fr [90008, 90009, 90010, 90011, 90012, 90013, 96999] m m1 ∧ m1 198 9 = m 198 9))
  have k9_n62 : n62 198 9 = m 198 9 := (Fr_cell (o := 198) q62.2 (by decide) (by decide) 9).trans k9_m3
  have f_n62 : Fr [90008, 90009, 90010, 90011, 90012, 90013, 96999] m n62 := Fr_tr f_m3 (Fr_sub q62.2 (by decide))
  have b_x62 := RU_in q62.1
  obtain ⟨m4, e_m4⟩ : ∃ z, z = nu_up n62 198 (3) x62 := ⟨_, rfl⟩
  have h_m4 : Gam m4 := by rw [e_m4]; exact gu_198_3 (RU_g q62.1) (by omega) (by omega)
  refine gx_is (n := 3) (x := x62) r_113_65 rfl (by decide) (tk_198 hT) (rfl) ⟨rfl, by decide⟩ e_m4.symm ?_
  have r_m4 := RU_set q62.1 (by rw [← e_m4]; exact h_m4)
  rw [← e_m4] at r_m4
  have f_m4 : Fr [90008, 90009, 90010, 90011, 90012, 90013, 96999] m m4 := Fr_tr f_n62 (by rw [e_m4]; exact Fr_ua rfl rfl)
  have k9_m4 : m4 198 9 = m 198 9 := by rw [e_m4, nu_ne (by omega)]; exact k9_n62
  exact gx_rt r_113_66 rfl rfl ⟨rfl, r_m4, f_m4, k9_m4⟩
theorem path_d {m0 : Mm} (hT : TT T) (hx : XOK X) {r r0 : PR} (h : RRs X m r) {c : Nat} (hc9 : c ≤ 9) {Q : AV → Mm → Prop} (hr0 : r0 = (r.bind fun g => if nK X g.1 = 2 ∧ nV X g.1 = g.2 (11 + 2 * c) then .error (2, (nS X g.1 : Int)) else .ok g)) (hout : ∀ m1, RRs X m1 r0 → Fr [90008, 90009, 90010, 90011, 90012, 90013] m m1 → GX T 5 114 61 [(2, 192), (0, 2 * (c : Int) + 11)] [] m1 Q) : GX T 5 114 28 [(2, 192), (0, 2 * (c : Int) + 11)] [] m Q := by
  subst hr0
  cases r with
  | error e =>
    have hE : RE X m e.1 e.2 := h
    have hm := hE.1
    have hb : ¬ m 192 12 = 0 := by rw [hE.2.2.1]; exact hE.2.2.2.2
    refine gx_st (L' := [(2, 192), (0, 2 * (c : Int) + 11)]) (S' := [(2, 192)]) r_114_28 rfl rfl rfl ?_
    refine gx_ci (nx := 32) (S2 := []) (x_104 hT hm) r_114_29 rfl rfl rfl rfl rfl (rcv_v rfl (tk_192 hT) (by decide) rfl (by decide)) rfl (by decide) rfl (fun x29 n29 q29 => ?_)
    obtain rfl := q29.1.symm
    obtain rfl := q29.2.symm
    show GX T 5 114 32 [(2, 192), (0, 2 * (c : Int) + 11)] [(0, (if m 192 12 = 0 then 1 else 0))] m Q
    refine gx_i0 (P := ¬ (m 192 12 = 0)) r_114_32 (b01_eq) (fun h32 => ?_) (fun h32 => ?_)
    · exact hout m h Fr_rf
    · have h32 := Decidable.not_not.mp h32
      exact absurd h32 hb
  | ok g =>
    have hG : RG X m g.1 g.2 := h
    have hm := hG.1
    have hg : m 192 12 = 0 := hG.2.2.1
    have hout : ∀ m1, RRs X m1 (if nK X g.1 = 2 ∧ nV X g.1 = g.2 (11 + 2 * c) then .error (2, (nS X g.1 : Int)) else .ok g) → Fr [90008, 90009, 90010, 90011, 90012, 90013] m m1 → GX T 5 114 61 [(2, 192), (0, 2 * (c : Int) + 11)] [] m1 Q := hout
    refine gx_st (L' := [(2, 192), (0, 2 * (c : Int) + 11)]) (S' := [(2, 192)]) r_114_28 rfl rfl rfl ?_
    refine gx_ci (nx := 32) (S2 := []) (x_104 hT hm) r_114_29 rfl rfl rfl rfl rfl (rcv_v rfl (tk_192 hT) (by decide) rfl (by decide)) rfl (by decide) rfl (fun x29 n29 q29 => ?_)
    obtain rfl := q29.1.symm
    obtain rfl := q29.2.symm
    show GX T 5 114 32 [(2, 192), (0, 2 * (c : Int) + 11)] [(0, (if m 192 12 = 0 then 1 else 0))] m Q
    refine gx_i0 (P := ¬ (m 192 12 = 0)) r_114_32 (b01_eq) (fun h32 => ?_) (fun h32 => ?_)
    · exact absurd hg h32
    · have h32 := Decidable.not_not.mp h32
      refine gx_st (L' := [(2, 192), (0, 2 * (c : Int) + 11)]) (S' := [(2, 192)]) r_114_35 rfl rfl rfl ?_
      refine gx_gf (x := (nK X g.1)) 0 r_114_36 rfl (tk_192 hT) ⟨by decide, rfl, by decide, by decide⟩ rfl (fun z => absurd z (by decide)) (hG.2.2.2.2.2.2.1) ?_
      refine gx_st (L' := [(2, 192), (0, 2 * (c : Int) + 11)]) (S' := [(0, 2), (0, (nK X g.1))]) r_114_39 rfl rfl rfl ?_
      refine gx_ic (P := ¬ (nK X g.1) = 2) r_114_40 (rfl) (fun h40 => ?_) (fun h40 => ?_)
      · exact hout m (by rw [if_neg (by omega)]; exact hG) Fr_rf
      · have h40 := Decidable.not_not.mp h40
        refine gx_st (L' := [(2, 192), (0, 2 * (c : Int) + 11)]) (S' := [(2, 192)]) r_114_43 rfl rfl rfl ?_
        refine gx_gf (x := (nV X g.1)) 0 r_114_44 rfl (tk_192 hT) ⟨by decide, rfl, by decide, by decide⟩ rfl (fun z => absurd z (by decide)) (hG.2.2.2.2.2.2.2.1 (by omega)) ?_
        refine gx_st (L' := [(2, 192), (0, 2 * (c : Int) + 11)]) (S' := [(2, 192), (0, (nV X g.1))]) r_114_47 rfl rfl rfl ?_
        refine gx_gf (x := 198) 2 r_114_48 rfl (tk_192 hT) ⟨by decide, rfl, by decide, by decide⟩ rfl (fun _ => by decide) (pr_192_14 hm) ?_
        refine gx_st (L' := [(2, 192), (0, 2 * (c : Int) + 11)]) (S' := [(0, 2 * (c : Int) + 11), (2, 198), (0, (nV X g.1))]) r_114_51 rfl rfl rfl ?_
        refine gx_ia (n := 11 + 2 * c) (x := (g.2 (11 + 2 * c))) r_114_52 rfl (tk_198 hT) (by omega) ⟨rfl, by omega⟩ (hG.2.2.2.2.2.2.2.2 (11 + 2 * c) (by omega)) ?_
        refine gx_ic (P := ¬ (nV X g.1) = (g.2 (11 + 2 * c))) r_114_53 (rfl) (fun h53 => ?_) (fun h53 => ?_)
        · exact hout m (by rw [if_neg (by omega)]; exact hG) Fr_rf
        · have h53 := Decidable.not_not.mp h53
          refine gx_st (L' := [(2, 192), (0, 2 * (c : Int) + 11)]) (S' := [(2, 192)]) r_114_56 rfl rfl rfl ?_
          refine gx_st (L' := [(2, 192), (0, 2 * (c : Int) + 11)]) (S' := [(0, 2), (2, 192)]) r_114_57 rfl rfl rfl ?_
          refine gx_cv (nx := 61) (S2 := []) (y_105g hT hx hG (k := 2) (by decide) (by decide)) r_114_58 rfl rfl rfl rfl rfl (rcv_v rfl (tk_192 hT) (by decide) rfl (by decide)) rfl (by decide) rfl (fun n57 q57 => ?_)
          exact hout n57 (by rw [if_pos (by omega)]; exact q57.1) (Fr_sub q57.2 (by decide))
theorem y_114 (hT : TT T) (hx : XOK X) {r : PR} (h : RRs X m r) {c : Nat} (hc : m 198 4 = (c : Int)) (hc9 : c ≤ 9) : GX T 5 114 0 [(2, 192), (9, 0)] [] m (RV (fun m1 => RRs X m1 (pPath X c r) ∧ Fr [90008, 90009, 90010, 90011, 90012, 90013, 96999] m m1 ∧ m1 198 9 = m 198 9)) := by
  have hm := RR_g h
  refine gx_st (L' := [(2, 192), (9, 0)]) (S' := [(0, 11)]) r_114_0 rfl rfl rfl ?_
  refine gx_st (L' := [(2, 192), (9, 0)]) (S' := [(0, 2), (0, 11)]) r_114_2 rfl rfl rfl ?_
  refine gx_st (L' := [(2, 192), (9, 0)]) (S' := [(2, 192), (0, 2), (0, 11)]) r_114_3 rfl rfl rfl ?_
  refine gx_gf (x := 198) 2 r_114_4 rfl (tk_192 hT) ⟨by decide, rfl, by decide, by decide⟩ rfl (fun _ => by decide) (pr_192_14 hm) ?_
  refine gx_st (L' := [(2, 192), (9, 0)]) (S' := [(0, 4), (2, 198), (0, 2), (0, 11)]) r_114_7 rfl rfl rfl ?_
  refine gx_ia (n := 4) (x := (c : Int)) r_114_8 rfl (tk_198 hT) (rfl) ⟨rfl, by decide⟩ (hc) ?_
  refine gx_ar (L' := [(2, 192), (9, 0)]) (S' := [(0, 11)]) (t := 0) (e := w32 (2 * (c : Int))) (z := 2 * (c : Int)) r_114_9 rfl rfl rfl (w32_eq (by omega) (by omega) (by omega)) ?_
  refine gx_ar (L' := [(2, 192), (9, 0)]) (S' := []) (t := 0) (e := w32 (11 + (2 * (c : Int)))) (z := 2 * (c : Int) + 11) r_114_10 rfl rfl rfl (w32_eq (by omega) (by omega) (by omega)) ?_
  refine gx_st (L' := [(2, 192), (0, 2 * (c : Int) + 11)]) (S' := []) r_114_11 rfl rfl rfl ?_
  refine gx_st (L' := [(2, 192), (0, 2 * (c : Int) + 11)]) (S' := [(2, 192)]) r_114_12 rfl rfl rfl ?_
  refine gx_gf (x := 198) 2 r_114_13 rfl (tk_192 hT) ⟨by decide, rfl, by decide, by decide⟩ rfl (fun _ => by decide) (pr_192_14 hm) ?_
  refine gx_st (L' := [(2, 192), (0, 2 * (c : Int) + 11)]) (S' := [(0, 2 * (c : Int) + 11), (2, 198)]) r_114_16 rfl rfl rfl ?_
  refine gx_st (L' := [(2, 192), (0, 2 * (c : Int) + 11)]) (S' := [(2, 192), (0, 2 * (c : Int) + 11), (2, 198)]) r_114_17 rfl rfl rfl ?_
  refine gx_ci (nx := 21) (S2 := [(0, 2 * (c : Int) + 11), (2, 198)]) (y_112 hT hx h) r_114_18 rfl rfl rfl rfl rfl (rcv_v rfl (tk_192 hT) (by decide) rfl (by decide)) rfl (by decide) rfl (fun x18 n18 q18 => ?_)
  show GX T 5 114 21 [(2, 192), (0, 2 * (c : Int) + 11)] [(0, x18), (0, 2 * (c : Int) + 11), (2, 198)] n18 (RV (fun m1 => RRs X m1 (pPath X c r) ∧ Fr [90008, 90009, 90010, 90011, 90012, 90013, 96999] m m1 ∧ m1 198 9 = m 198 9))
  have k4_n18 : n18 198 4 = m 198 4 := (Fr_cell (o := 198) q18.2 (by decide) (by decide) 4).trans rfl
  have k9_n18 : n18 198 9 = m 198 9 := (Fr_cell (o := 198) q18.2 (by decide) (by decide) 9).trans rfl
  have f_n18 : Fr [90008, 90009, 90010, 90011, 90012, 90013, 96999] m n18 := Fr_tr Fr_rf (Fr_sub q18.2 (by decide))
  have b_x18 := RU_pl q18.1 (RR_fr0 h)
  obtain ⟨m1, e_m1⟩ : ∃ z, z = nu_up n18 198 (11 + 2 * c) x18 := ⟨_, rfl⟩
  have h_m1 : Gam m1 := by rw [e_m1]; exact gu_198_pa (RU_g q18.1) (k := 2 * c) (by omega) (by omega) (by omega)
  refine gx_is (n := 11 + 2 * c) (x := x18) r_114_21 rfl (by decide) (tk_198 hT) (by omega) ⟨rfl, by omega⟩ e_m1.symm ?_
  have r_m1 := RU_set q18.1 (by rw [← e_m1]; exact h_m1)
  rw [← e_m1] at r_m1
  have f_m1 : Fr [90008, 90009, 90010, 90011, 90012, 90013, 96999] m m1 := Fr_tr f_n18 (by rw [e_m1]; exact Fr_ua rfl rfl)
  have k4_m1 : m1 198 4 = m 198 4 := by rw [e_m1, nu_ne (by omega)]; exact k4_n18
  have k9_m1 : m1 198 9 = m 198 9 := by rw [e_m1, nu_ne (by omega)]; exact k9_n18
  refine gx_st (L' := [(2, 192), (0, 2 * (c : Int) + 11)]) (S' := [(2, 192)]) r_114_22 rfl rfl rfl ?_
  refine gx_st (L' := [(2, 192), (0, 2 * (c : Int) + 11)]) (S' := [(2, 1000010), (2, 192)]) r_114_23 rfl rfl rfl ?_
  refine gx_cv (nx := 28) (S2 := []) (y_108 hT hx r_m1 (q := 10) (by decide) rfl sl_10) r_114_25 rfl rfl rfl rfl rfl (rcv_v rfl (tk_192 hT) (by decide) rfl (by decide)) rfl (by decide) rfl (fun n25 q25 => ?_)
  have k4_n25 : n25 198 4 = m 198 4 := (Fr_cell (o := 198) q25.2 (by decide) (by decide) 4).trans k4_m1
  have k9_n25 : n25 198 9 = m 198 9 := (Fr_cell (o := 198) q25.2 (by decide) (by decide) 9).trans k9_m1
  have f_n25 : Fr [90008, 90009, 90010, 90011, 90012, 90013, 96999] m n25 := Fr_tr f_m1 (Fr_sub q25.2 (by decide))
  refine path_d hT hx (m0 := m) q25.1 hc9 rfl (fun p1 r_p1 f_p1 => ?_)
  have f1_p1 : Fr [90008, 90009, 90010, 90011, 90012, 90013, 96999] m p1 := Fr_tr f_n25 (Fr_sub f_p1 (by decide))
  have k4_p1 : p1 198 4 = m 198 4 := (Fr_cell (o := 198) f_p1 (by decide) (by decide) 4).trans k4_n25
  have k9_p1 : p1 198 9 = m 198 9 := (Fr_cell (o := 198) f_p1 (by decide) (by decide) 9).trans k9_n25
  refine gx_st (L' := [(2, 192), (0, 2 * (c : Int) + 11)]) (S' := [(2, 192)]) r_114_61 rfl rfl rfl ?_
  refine gx_gf (x := 198) 2 r_114_62 rfl (tk_192 hT) ⟨by decide, rfl, by decide, by decide⟩ rfl (fun _ => by decide) (pr_192_14 (RR_g r_p1)) ?_
  refine gx_st (L' := [(2, 192), (0, 2 * (c : Int) + 11)]) (S' := [(0, 2 * (c : Int) + 11), (2, 198)]) r_114_65 rfl rfl rfl ?_
  refine gx_st (L' := [(2, 192), (0, 2 * (c : Int) + 11)]) (S' := [(0, 1), (0, 2 * (c : Int) + 11), (2, 198)]) r_114_66 rfl rfl rfl ?_
  refine gx_ar (L' := [(2, 192), (0, 2 * (c : Int) + 11)]) (S' := [(2, 198)]) (t := 0) (e := w32 ((2 * (c : Int) + 11) + 1)) (z := 2 * (c : Int) + 12) r_114_67 rfl rfl rfl (w32_eq (by omega) (by omega) (by omega)) ?_
  refine gx_st (L' := [(2, 192), (0, 2 * (c : Int) + 11)]) (S' := [(2, 192), (0, 2 * (c : Int) + 12), (2, 198)]) r_114_68 rfl rfl rfl ?_
  refine gx_ci (nx := 72) (S2 := [(0, 2 * (c : Int) + 12), (2, 198)]) (y_112 hT hx r_p1) r_114_69 rfl rfl rfl rfl rfl (rcv_v rfl (tk_192 hT) (by decide) rfl (by decide)) rfl (by decide) rfl (fun x69 n69 q69 => ?_)
  show GX T 5 114 72 [(2, 192), (0, 2 * (c : Int) + 11)] [(0, x69), (0, 2 * (c : Int) + 12), (2, 198)] n69 (RV (fun m1 => RRs X m1 (pPath X c r) ∧ Fr [90008, 90009, 90010, 90011, 90012, 90013, 96999] m m1 ∧ m1 198 9 = m 198 9))
  have k4_n69 : n69 198 4 = m 198 4 := (Fr_cell (o := 198) q69.2 (by decide) (by decide) 4).trans k4_p1
  have k9_n69 : n69 198 9 = m 198 9 := (Fr_cell (o := 198) q69.2 (by decide) (by decide) 9).trans k9_p1
  have f_n69 : Fr [90008, 90009, 90010, 90011, 90012, 90013, 96999] m n69 := Fr_tr f1_p1 (Fr_sub q69.2 (by decide))
  have b_x69 := RU_pl q69.1 (RR_fr0 r_p1)
  obtain ⟨m2, e_m2⟩ : ∃ z, z = nu_up n69 198 (11 + (2 * c + 1)) x69 := ⟨_, rfl⟩
  have h_m2 : Gam m2 := by rw [e_m2]; exact gu_198_pa (RU_g q69.1) (k := 2 * c + 1) (by omega) (by omega) (by omega)
  refine gx_is (n := 11 + (2 * c + 1)) (x := x69) r_114_72 rfl (by decide) (tk_198 hT) (by omega) ⟨rfl, by omega⟩ e_m2.symm ?_
  have r_m2 := RU_set q69.1 (by rw [← e_m2]; exact h_m2)
  rw [← e_m2] at r_m2
  have f_m2 : Fr [90008, 90009, 90010, 90011, 90012, 90013, 96999] m m2 := Fr_tr f_n69 (by rw [e_m2]; exact Fr_ua rfl rfl)
  have k4_m2 : m2 198 4 = m 198 4 := by rw [e_m2, nu_ne (by omega)]; exact k4_n69
  have k9_m2 : m2 198 9 = m 198 9 := by rw [e_m2, nu_ne (by omega)]; exact k9_n69
  refine gx_st (L' := [(2, 192), (0, 2 * (c : Int) + 11)]) (S' := [(2, 192)]) r_114_73 rfl rfl rfl ?_
  refine gx_gf (x := 198) 2 r_114_74 rfl (tk_192 hT) ⟨by decide, rfl, by decide, by decide⟩ rfl (fun _ => by decide) (pr_192_14 h_m2) ?_
  refine gx_st (L' := [(2, 192), (0, 2 * (c : Int) + 11)]) (S' := [(0, 4), (2, 198)]) r_114_77 rfl rfl rfl ?_
  refine gx_st (L' := [(2, 192), (0, 2 * (c : Int) + 11)]) (S' := [(0, 4), (2, 198), (0, 4), (2, 198)]) r_114_78 rfl rfl rfl ?_
  refine gx_ia (n := 4) (x := (c : Int)) r_114_79 rfl (tk_198 hT) (rfl) ⟨rfl, by decide⟩ (k4_m2.trans hc) ?_
  refine gx_st (L' := [(2, 192), (0, 2 * (c : Int) + 11)]) (S' := [(0, 1), (0, (c : Int)), (0, 4), (2, 198)]) r_114_80 rfl rfl rfl ?_
  refine gx_ar (L' := [(2, 192), (0, 2 * (c : Int) + 11)]) (S' := [(0, 4), (2, 198)]) (t := 0) (e := w32 ((c : Int) + 1)) (z := (c : Int) + 1) r_114_81 rfl rfl rfl (w32_eq (by omega) (by omega) (by omega)) ?_
  obtain ⟨m3, e_m3⟩ : ∃ z, z = nu_up m2 198 (4) ((c : Int) + 1) := ⟨_, rfl⟩
  have h_m3 : Gam m3 := by rw [e_m3]; exact gu_198_4 h_m2 (by omega) (by omega)
  refine gx_is (n := 4) (x := (c : Int) + 1) r_114_82 rfl (by decide) (tk_198 hT) (rfl) ⟨rfl, by decide⟩ e_m3.symm ?_
  have z := RR_up (i := 4) (x := (c : Int) + 1) r_m2 (by rw [← e_m3]; exact h_m3)
  rw [← e_m3, show 11 + (2 * c + 1) = 12 + 2 * c by omega] at z
  exact gx_rt r_114_83 rfl rfl ⟨rfl, z, Fr_tr f_m2 (by rw [e_m3]; exact Fr_ua rfl rfl), by rw [e_m3, nu_ne (by decide)]; exact k9_m2⟩
theorem y_115a (hT : TT T) (hx : XOK X) {r : PR} (h : RRs X m r) {c : Nat} (hc : m 198 5 = (c : Int)) (hcm : c ≤ 4) : GX T 5 115 0 [(2, 192), (0, 31), (0, 5), (2, 1000011), (0, 0), (0, 9), (9, 0)] [] m (RV (fun m1 => RRs X m1 (pAt X (31 + 2 * c) 5 11 0 9 c r) ∧ Fr [90008, 90009, 90010, 90011, 90012, 90013, 96999] m m1 ∧ m1 198 9 = m 198 9)) := by
  have hm := RR_g h
  refine gx_st (L' := [(2, 192), (0, 31), (0, 5), (2, 1000011), (0, 0), (0, 9), (9, 0)]) (S' := [(0, 31)]) r_115_0 rfl rfl rfl ?_
  refine gx_st (L' := [(2, 192), (0, 31), (0, 5), (2, 1000011), (0, 0), (0, 9), (9, 0)]) (S' := [(0, 2), (0, 31)]) r_115_1 rfl rfl rfl ?_
  refine gx_st (L' := [(2, 192), (0, 31), (0, 5), (2, 1000011), (0, 0), (0, 9), (9, 0)]) (S' := [(2, 192), (0, 2), (0, 31)]) r_115_2 rfl rfl rfl ?_
  refine gx_gf (x := 198) 2 r_115_3 rfl (tk_192 hT) ⟨by decide, rfl, by decide, by decide⟩ rfl (fun _ => by decide) (pr_192_14 hm) ?_
  refine gx_st (L' := [(2, 192), (0, 31), (0, 5), (2, 1000011), (0, 0), (0, 9), (9, 0)]) (S' := [(0, 5), (2, 198), (0, 2), (0, 31)]) r_115_6 rfl rfl rfl ?_
  refine gx_ia (n := 5) (x := (c : Int)) r_115_7 rfl (tk_198 hT) (rfl) ⟨rfl, by decide⟩ (hc) ?_
  refine gx_ar (L' := [(2, 192), (0, 31), (0, 5), (2, 1000011), (0, 0), (0, 9), (9, 0)]) (S' := [(0, 31)]) (t := 0) (e := w32 (2 * (c : Int))) (z := 2 * (c : Int)) r_115_8 rfl rfl rfl (w32_eq (by omega) (by omega) (by omega)) ?_
  refine gx_ar (L' := [(2, 192), (0, 31), (0, 5), (2, 1000011), (0, 0), (0, 9), (9, 0)]) (S' := []) (t := 0) (e := w32 (31 + (2 * (c : Int)))) (z := 2 * (c : Int) + 31) r_115_9 rfl rfl rfl (w32_eq (by omega) (by omega) (by omega)) ?_
  refine gx_st (L' := [(2, 192), (0, 31), (0, 5), (2, 1000011), (0, 0), (0, 9), (0, 2 * (c : Int) + 31)]) (S' := []) r_115_10 rfl rfl rfl ?_
  refine gx_st (L' := [(2, 192), (0, 31), (0, 5), (2, 1000011), (0, 0), (0, 9), (0, 2 * (c : Int) + 31)]) (S' := [(2, 192)]) r_115_12 rfl rfl rfl ?_
  refine gx_st (L' := [(2, 192), (0, 31), (0, 5), (2, 1000011), (0, 0), (0, 9), (0, 2 * (c : Int) + 31)]) (S' := [(2, 1000014), (2, 192)]) r_115_13 rfl rfl rfl ?_
  refine gx_cv (nx := 18) (S2 := []) (y_108 hT hx h (q := 14) (by decide) rfl sl_14) r_115_15 rfl rfl rfl rfl rfl (rcv_v rfl (tk_192 hT) (by decide) rfl (by decide)) rfl (by decide) rfl (fun n15 q15 => ?_)
  have k5_n15 : n15 198 5 = m 198 5 := (Fr_cell (o := 198) q15.2 (by decide) (by decide) 5).trans rfl
  have k9_n15 : n15 198 9 = m 198 9 := (Fr_cell (o := 198) q15.2 (by decide) (by decide) 9).trans rfl
  have f_n15 : Fr [90008, 90009, 90010, 90011, 90012, 90013, 96999] m n15 := Fr_tr Fr_rf (Fr_sub q15.2 (by decide))
  refine gx_st (L' := [(2, 192), (0, 31), (0, 5), (2, 1000011), (0, 0), (0, 9), (0, 2 * (c : Int) + 31)]) (S' := [(2, 192)]) r_115_18 rfl rfl rfl ?_
  refine gx_gf (x := 198) 2 r_115_19 rfl (tk_192 hT) ⟨by decide, rfl, by decide, by decide⟩ rfl (fun _ => by decide) (pr_192_14 (RR_g q15.1)) ?_
  refine gx_st (L' := [(2, 192), (0, 31), (0, 5), (2, 1000011), (0, 0), (0, 9), (0, 2 * (c : Int) + 31)]) (S' := [(0, 2 * (c : Int) + 31), (2, 198)]) r_115_22 rfl rfl rfl ?_
  refine gx_st (L' := [(2, 192), (0, 31), (0, 5), (2, 1000011), (0, 0), (0, 9), (0, 2 * (c : Int) + 31)]) (S' := [(2, 192), (0, 2 * (c : Int) + 31), (2, 198)]) r_115_24 rfl rfl rfl ?_
  refine gx_ci (nx := 28) (S2 := [(0, 2 * (c : Int) + 31), (2, 198)]) (y_112 hT hx q15.1) r_115_25 rfl rfl rfl rfl rfl (rcv_v rfl (tk_192 hT) (by decide) rfl (by decide)) rfl (by decide) rfl (fun x25 n25 q25 => ?_)
  show GX T 5 115 28 [(2, 192), (0, 31), (0, 5), (2, 1000011), (0, 0), (0, 9), (0, 2 * (c : Int) + 31)] [(0, x25), (0, 2 * (c : Int) + 31), (2, 198)] n25 (RV (fun m1 => RRs X m1 (pAt X (31 + 2 * c) 5 11 0 9 c r) ∧ Fr [90008, 90009, 90010, 90011, 90012, 90013, 96999] m m1 ∧ m1 198 9 = m 198 9))
  have k5_n25 : n25 198 5 = m 198 5 := (Fr_cell (o := 198) q25.2 (by decide) (by decide) 5).trans k5_n15
  have k9_n25 : n25 198 9 = m 198 9 := (Fr_cell (o := 198) q25.2 (by decide) (by decide) 9).trans k9_n15
  have f_n25 : Fr [90008, 90009, 90010, 90011, 90012, 90013, 96999] m n25 := Fr_tr f_n15 (Fr_sub q25.2 (by decide))
  have b_x25 := RU_pl q25.1 (RR_fr0 q15.1)
  obtain ⟨m1, e_m1⟩ : ∃ z, z = nu_up n25 198 (31 + 2 * c) x25 := ⟨_, rfl⟩
  have h_m1 : Gam m1 := by rw [e_m1]; exact gu_198_tp (RU_g q25.1) (k := c) (by omega) (by omega) (by omega)
  refine gx_is (n := 31 + 2 * c) (x := x25) r_115_28 rfl (by decide) (tk_198 hT) (by omega) ⟨rfl, by omega⟩ e_m1.symm ?_
  have r_m1 := RU_set q25.1 (by rw [← e_m1]; exact h_m1)
  rw [← e_m1] at r_m1
  have f_m1 : Fr [90008, 90009, 90010, 90011, 90012, 90013, 96999] m m1 := Fr_tr f_n25 (by rw [e_m1]; exact Fr_ua rfl rfl)
  have k5_m1 : m1 198 5 = m 198 5 := by rw [e_m1, nu_ne (by omega)]; exact k5_n25
  have k9_m1 : m1 198 9 = m 198 9 := by rw [e_m1, nu_ne (by omega)]; exact k9_n25
  refine gx_st (L' := [(2, 192), (0, 31), (0, 5), (2, 1000011), (0, 0), (0, 9), (0, 2 * (c : Int) + 31)]) (S' := [(2, 192)]) r_115_29 rfl rfl rfl ?_
  refine gx_gf (x := 198) 2 r_115_30 rfl (tk_192 hT) ⟨by decide, rfl, by decide, by decide⟩ rfl (fun _ => by decide) (pr_192_14 h_m1) ?_
  refine gx_st (L' := [(2, 192), (0, 31), (0, 5), (2, 1000011), (0, 0), (0, 9), (0, 2 * (c : Int) + 31)]) (S' := [(0, 2 * (c : Int) + 31), (2, 198)]) r_115_33 rfl rfl rfl ?_
  refine gx_st (L' := [(2, 192), (0, 31), (0, 5), (2, 1000011), (0, 0), (0, 9), (0, 2 * (c : Int) + 31)]) (S' := [(0, 1), (0, 2 * (c : Int) + 31), (2, 198)]) r_115_35 rfl rfl rfl ?_
  refine gx_ar (L' := [(2, 192), (0, 31), (0, 5), (2, 1000011), (0, 0), (0, 9), (0, 2 * (c : Int) + 31)]) (S' := [(2, 198)]) (t := 0) (e := w32 ((2 * (c : Int) + 31) + 1)) (z := 2 * (c : Int) + 32) r_115_36 rfl rfl rfl (w32_eq (by omega) (by omega) (by omega)) ?_
  refine gx_st (L' := [(2, 192), (0, 31), (0, 5), (2, 1000011), (0, 0), (0, 9), (0, 2 * (c : Int) + 31)]) (S' := [(2, 192), (0, 2 * (c : Int) + 32), (2, 198)]) r_115_37 rfl rfl rfl ?_
  refine gx_st (L' := [(2, 192), (0, 31), (0, 5), (2, 1000011), (0, 0), (0, 9), (0, 2 * (c : Int) + 31)]) (S' := [(2, 1000011), (2, 192), (0, 2 * (c : Int) + 32), (2, 198)]) r_115_38 rfl rfl rfl ?_
  refine gx_st (L' := [(2, 192), (0, 31), (0, 5), (2, 1000011), (0, 0), (0, 9), (0, 2 * (c : Int) + 31)]) (S' := [(0, 0), (2, 1000011), (2, 192), (0, 2 * (c : Int) + 32), (2, 198)]) r_115_39 rfl rfl rfl ?_
  refine gx_st (L' := [(2, 192), (0, 31), (0, 5), (2, 1000011), (0, 0), (0, 9), (0, 2 * (c : Int) + 31)]) (S' := [(0, 9), (0, 0), (2, 1000011), (2, 192), (0, 2 * (c : Int) + 32), (2, 198)]) r_115_41 rfl rfl rfl ?_
  refine gx_ci (nx := 46) (S2 := [(0, 2 * (c : Int) + 32), (2, 198)]) (y_110 hT hx r_m1 (q := 11) (by decide) rfl sl_11 0 9) r_115_43 rfl rfl rfl rfl rfl (rcv_v rfl (tk_192 hT) (by decide) rfl (by decide)) rfl (by decide) rfl (fun x43 n43 q43 => ?_)
  show GX T 5 115 46 [(2, 192), (0, 31), (0, 5), (2, 1000011), (0, 0), (0, 9), (0, 2 * (c : Int) + 31)] [(0, x43), (0, 2 * (c : Int) + 32), (2, 198)] n43 (RV (fun m1 => RRs X m1 (pAt X (31 + 2 * c) 5 11 0 9 c r) ∧ Fr [90008, 90009, 90010, 90011, 90012, 90013, 96999] m m1 ∧ m1 198 9 = m 198 9))
  have k5_n43 : n43 198 5 = m 198 5 := (Fr_cell (o := 198) q43.2 (by decide) (by decide) 5).trans k5_m1
  have k9_n43 : n43 198 9 = m 198 9 := (Fr_cell (o := 198) q43.2 (by decide) (by decide) 9).trans k9_m1
  have f_n43 : Fr [90008, 90009, 90010, 90011, 90012, 90013, 96999] m n43 := Fr_tr f_m1 (Fr_sub q43.2 (by decide))
  have b_x43 := RU_in q43.1
  obtain ⟨m2, e_m2⟩ : ∃ z, z = nu_up n43 198 (31 + 2 * c + 1) x43 := ⟨_, rfl⟩
  have h_m2 : Gam m2 := by rw [e_m2]; exact (by rw [show 31 + 2 * c + 1 = 32 + 2 * c by omega]; exact gu_198_tf (RU_g q43.1) (k := c) (by omega) (by omega) (by omega))
  refine gx_is (n := 31 + 2 * c + 1) (x := x43) r_115_46 rfl (by decide) (tk_198 hT) (by omega) ⟨rfl, by omega⟩ e_m2.symm ?_
  have r_m2 := RU_set q43.1 (by rw [← e_m2]; exact h_m2)
  rw [← e_m2] at r_m2
  have f_m2 : Fr [90008, 90009, 90010, 90011, 90012, 90013, 96999] m m2 := Fr_tr f_n43 (by rw [e_m2]; exact Fr_ua rfl rfl)
  have k5_m2 : m2 198 5 = m 198 5 := by rw [e_m2, nu_ne (by omega)]; exact k5_n43
  have k9_m2 : m2 198 9 = m 198 9 := by rw [e_m2, nu_ne (by omega)]; exact k9_n43
  refine gx_st (L' := [(2, 192), (0, 31), (0, 5), (2, 1000011), (0, 0), (0, 9), (0, 2 * (c : Int) + 31)]) (S' := [(2, 192)]) r_115_47 rfl rfl rfl ?_
  refine gx_gf (x := 198) 2 r_115_48 rfl (tk_192 hT) ⟨by decide, rfl, by decide, by decide⟩ rfl (fun _ => by decide) (pr_192_14 h_m2) ?_
  refine gx_st (L' := [(2, 192), (0, 31), (0, 5), (2, 1000011), (0, 0), (0, 9), (0, 2 * (c : Int) + 31)]) (S' := [(0, 5), (2, 198)]) r_115_51 rfl rfl rfl ?_
  refine gx_st (L' := [(2, 192), (0, 31), (0, 5), (2, 1000011), (0, 0), (0, 9), (0, 2 * (c : Int) + 31)]) (S' := [(0, 5), (2, 198), (0, 5), (2, 198)]) r_115_52 rfl rfl rfl ?_
  refine gx_ia (n := 5) (x := (c : Int)) r_115_53 rfl (tk_198 hT) (rfl) ⟨rfl, by decide⟩ (k5_m2.trans hc) ?_
  refine gx_st (L' := [(2, 192), (0, 31), (0, 5), (2, 1000011), (0, 0), (0, 9), (0, 2 * (c : Int) + 31)]) (S' := [(0, 1), (0, (c : Int)), (0, 5), (2, 198)]) r_115_54 rfl rfl rfl ?_
  refine gx_ar (L' := [(2, 192), (0, 31), (0, 5), (2, 1000011), (0, 0), (0, 9), (0, 2 * (c : Int) + 31)]) (S' := [(0, 5), (2, 198)]) (t := 0) (e := w32 ((c : Int) + 1)) (z := (c : Int) + 1) r_115_55 rfl rfl rfl (w32_eq (by omega) (by omega) (by omega)) ?_
  obtain ⟨m3, e_m3⟩ : ∃ z, z = nu_up m2 198 (5) ((c : Int) + 1) := ⟨_, rfl⟩
  have h_m3 : Gam m3 := by rw [e_m3]; exact gu_198_5 h_m2 (by omega) (by omega)
  refine gx_is (n := 5) (x := (c : Int) + 1) r_115_56 rfl (by decide) (tk_198 hT) (rfl) ⟨rfl, by decide⟩ e_m3.symm ?_
  have z := RR_up (i := 5) (x := (c : Int) + 1) r_m2 (by rw [← e_m3]; exact h_m3)
  rw [← e_m3] at z
  exact gx_rt r_115_57 rfl rfl ⟨rfl, z, Fr_tr f_m2 (by rw [e_m3]; exact Fr_ua rfl rfl), by rw [e_m3, nu_ne (by decide)]; exact k9_m2⟩
theorem y_115b (hT : TT T) (hx : XOK X) {r : PR} (h : RRs X m r) {c : Nat} (hc : m 198 6 = (c : Int)) (hcm : c ≤ 2) : GX T 5 115 0 [(2, 192), (0, 41), (0, 6), (2, 1000012), (0, 0), (0, 12), (9, 0)] [] m (RV (fun m1 => RRs X m1 (pAt X (41 + 2 * c) 6 12 0 12 c r) ∧ Fr [90008, 90009, 90010, 90011, 90012, 90013, 96999] m m1 ∧ m1 198 9 = m 198 9)) := by
  have hm := RR_g h
  refine gx_st (L' := [(2, 192), (0, 41), (0, 6), (2, 1000012), (0, 0), (0, 12), (9, 0)]) (S' := [(0, 41)]) r_115_0 rfl rfl rfl ?_
  refine gx_st (L' := [(2, 192), (0, 41), (0, 6), (2, 1000012), (0, 0), (0, 12), (9, 0)]) (S' := [(0, 2), (0, 41)]) r_115_1 rfl rfl rfl ?_
  refine gx_st (L' := [(2, 192), (0, 41), (0, 6), (2, 1000012), (0, 0), (0, 12), (9, 0)]) (S' := [(2, 192), (0, 2), (0, 41)]) r_115_2 rfl rfl rfl ?_
  refine gx_gf (x := 198) 2 r_115_3 rfl (tk_192 hT) ⟨by decide, rfl, by decide, by decide⟩ rfl (fun _ => by decide) (pr_192_14 hm) ?_
  refine gx_st (L' := [(2, 192), (0, 41), (0, 6), (2, 1000012), (0, 0), (0, 12), (9, 0)]) (S' := [(0, 6), (2, 198), (0, 2), (0, 41)]) r_115_6 rfl rfl rfl ?_
  refine gx_ia (n := 6) (x := (c : Int)) r_115_7 rfl (tk_198 hT) (rfl) ⟨rfl, by decide⟩ (hc) ?_
  refine gx_ar (L' := [(2, 192), (0, 41), (0, 6), (2, 1000012), (0, 0), (0, 12), (9, 0)]) (S' := [(0, 41)]) (t := 0) (e := w32 (2 * (c : Int))) (z := 2 * (c : Int)) r_115_8 rfl rfl rfl (w32_eq (by omega) (by omega) (by omega)) ?_
  refine gx_ar (L' := [(2, 192), (0, 41), (0, 6), (2, 1000012), (0, 0), (0, 12), (9, 0)]) (S' := []) (t := 0) (e := w32 (41 + (2 * (c : Int)))) (z := 2 * (c : Int) + 41) r_115_9 rfl rfl rfl (w32_eq (by omega) (by omega) (by omega)) ?_
  refine gx_st (L' := [(2, 192), (0, 41), (0, 6), (2, 1000012), (0, 0), (0, 12), (0, 2 * (c : Int) + 41)]) (S' := []) r_115_10 rfl rfl rfl ?_
  refine gx_st (L' := [(2, 192), (0, 41), (0, 6), (2, 1000012), (0, 0), (0, 12), (0, 2 * (c : Int) + 41)]) (S' := [(2, 192)]) r_115_12 rfl rfl rfl ?_
  refine gx_st (L' := [(2, 192), (0, 41), (0, 6), (2, 1000012), (0, 0), (0, 12), (0, 2 * (c : Int) + 41)]) (S' := [(2, 1000014), (2, 192)]) r_115_13 rfl rfl rfl ?_
  refine gx_cv (nx := 18) (S2 := []) (y_108 hT hx h (q := 14) (by decide) rfl sl_14) r_115_15 rfl rfl rfl rfl rfl (rcv_v rfl (tk_192 hT) (by decide) rfl (by decide)) rfl (by decide) rfl (fun n15 q15 => ?_)
  have k6_n15 : n15 198 6 = m 198 6 := (Fr_cell (o := 198) q15.2 (by decide) (by decide) 6).trans rfl
  have k9_n15 : n15 198 9 = m 198 9 := (Fr_cell (o := 198) q15.2 (by decide) (by decide) 9).trans rfl
  have f_n15 : Fr [90008, 90009, 90010, 90011, 90012, 90013, 96999] m n15 := Fr_tr Fr_rf (Fr_sub q15.2 (by decide))
  refine gx_st (L' := [(2, 192), (0, 41), (0, 6), (2, 1000012), (0, 0), (0, 12), (0, 2 * (c : Int) + 41)]) (S' := [(2, 192)]) r_115_18 rfl rfl rfl ?_
  refine gx_gf (x := 198) 2 r_115_19 rfl (tk_192 hT) ⟨by decide, rfl, by decide, by decide⟩ rfl (fun _ => by decide) (pr_192_14 (RR_g q15.1)) ?_
  refine gx_st (L' := [(2, 192), (0, 41), (0, 6), (2, 1000012), (0, 0), (0, 12), (0, 2 * (c : Int) + 41)]) (S' := [(0, 2 * (c : Int) + 41), (2, 198)]) r_115_22 rfl rfl rfl ?_
  refine gx_st (L' := [(2, 192), (0, 41), (0, 6), (2, 1000012), (0, 0), (0, 12), (0, 2 * (c : Int) + 41)]) (S' := [(2, 192), (0, 2 * (c : Int) + 41), (2, 198)]) r_115_24 rfl rfl rfl ?_
  refine gx_ci (nx := 28) (S2 := [(0, 2 * (c : Int) + 41), (2, 198)]) (y_112 hT hx q15.1) r_115_25 rfl rfl rfl rfl rfl (rcv_v rfl (tk_192 hT) (by decide) rfl (by decide)) rfl (by decide) rfl (fun x25 n25 q25 => ?_)
  show GX T 5 115 28 [(2, 192), (0, 41), (0, 6), (2, 1000012), (0, 0), (0, 12), (0, 2 * (c : Int) + 41)] [(0, x25), (0, 2 * (c : Int) + 41), (2, 198)] n25 (RV (fun m1 => RRs X m1 (pAt X (41 + 2 * c) 6 12 0 12 c r) ∧ Fr [90008, 90009, 90010, 90011, 90012, 90013, 96999] m m1 ∧ m1 198 9 = m 198 9))
  have k6_n25 : n25 198 6 = m 198 6 := (Fr_cell (o := 198) q25.2 (by decide) (by decide) 6).trans k6_n15
  have k9_n25 : n25 198 9 = m 198 9 := (Fr_cell (o := 198) q25.2 (by decide) (by decide) 9).trans k9_n15
  have f_n25 : Fr [90008, 90009, 90010, 90011, 90012, 90013, 96999] m n25 := Fr_tr f_n15 (Fr_sub q25.2 (by decide))
  have b_x25 := RU_pl q25.1 (RR_fr0 q15.1)
  obtain ⟨m1, e_m1⟩ : ∃ z, z = nu_up n25 198 (41 + 2 * c) x25 := ⟨_, rfl⟩
  have h_m1 : Gam m1 := by rw [e_m1]; exact gu_198_vp (RU_g q25.1) (k := c) (by omega) (by omega) (by omega)
  refine gx_is (n := 41 + 2 * c) (x := x25) r_115_28 rfl (by decide) (tk_198 hT) (by omega) ⟨rfl, by omega⟩ e_m1.symm ?_
  have r_m1 := RU_set q25.1 (by rw [← e_m1]; exact h_m1)
  rw [← e_m1] at r_m1
  have f_m1 : Fr [90008, 90009, 90010, 90011, 90012, 90013, 96999] m m1 := Fr_tr f_n25 (by rw [e_m1]; exact Fr_ua rfl rfl)
  have k6_m1 : m1 198 6 = m 198 6 := by rw [e_m1, nu_ne (by omega)]; exact k6_n25
  have k9_m1 : m1 198 9 = m 198 9 := by rw [e_m1, nu_ne (by omega)]; exact k9_n25
  refine gx_st (L' := [(2, 192), (0, 41), (0, 6), (2, 1000012), (0, 0), (0, 12), (0, 2 * (c : Int) + 41)]) (S' := [(2, 192)]) r_115_29 rfl rfl rfl ?_
  refine gx_gf (x := 198) 2 r_115_30 rfl (tk_192 hT) ⟨by decide, rfl, by decide, by decide⟩ rfl (fun _ => by decide) (pr_192_14 h_m1) ?_
  refine gx_st (L' := [(2, 192), (0, 41), (0, 6), (2, 1000012), (0, 0), (0, 12), (0, 2 * (c : Int) + 41)]) (S' := [(0, 2 * (c : Int) + 41), (2, 198)]) r_115_33 rfl rfl rfl ?_
  refine gx_st (L' := [(2, 192), (0, 41), (0, 6), (2, 1000012), (0, 0), (0, 12), (0, 2 * (c : Int) + 41)]) (S' := [(0, 1), (0, 2 * (c : Int) + 41), (2, 198)]) r_115_35 rfl rfl rfl ?_
  refine gx_ar (L' := [(2, 192), (0, 41), (0, 6), (2, 1000012), (0, 0), (0, 12), (0, 2 * (c : Int) + 41)]) (S' := [(2, 198)]) (t := 0) (e := w32 ((2 * (c : Int) + 41) + 1)) (z := 2 * (c : Int) + 42) r_115_36 rfl rfl rfl (w32_eq (by omega) (by omega) (by omega)) ?_
  refine gx_st (L' := [(2, 192), (0, 41), (0, 6), (2, 1000012), (0, 0), (0, 12), (0, 2 * (c : Int) + 41)]) (S' := [(2, 192), (0, 2 * (c : Int) + 42), (2, 198)]) r_115_37 rfl rfl rfl ?_
  refine gx_st (L' := [(2, 192), (0, 41), (0, 6), (2, 1000012), (0, 0), (0, 12), (0, 2 * (c : Int) + 41)]) (S' := [(2, 1000012), (2, 192), (0, 2 * (c : Int) + 42), (2, 198)]) r_115_38 rfl rfl rfl ?_
  refine gx_st (L' := [(2, 192), (0, 41), (0, 6), (2, 1000012), (0, 0), (0, 12), (0, 2 * (c : Int) + 41)]) (S' := [(0, 0), (2, 1000012), (2, 192), (0, 2 * (c : Int) + 42), (2, 198)]) r_115_39 rfl rfl rfl ?_
  refine gx_st (L' := [(2, 192), (0, 41), (0, 6), (2, 1000012), (0, 0), (0, 12), (0, 2 * (c : Int) + 41)]) (S' := [(0, 12), (0, 0), (2, 1000012), (2, 192), (0, 2 * (c : Int) + 42), (2, 198)]) r_115_41 rfl rfl rfl ?_
  refine gx_ci (nx := 46) (S2 := [(0, 2 * (c : Int) + 42), (2, 198)]) (y_110 hT hx r_m1 (q := 12) (by decide) rfl sl_12 0 12) r_115_43 rfl rfl rfl rfl rfl (rcv_v rfl (tk_192 hT) (by decide) rfl (by decide)) rfl (by decide) rfl (fun x43 n43 q43 => ?_)
  show GX T 5 115 46 [(2, 192), (0, 41), (0, 6), (2, 1000012), (0, 0), (0, 12), (0, 2 * (c : Int) + 41)] [(0, x43), (0, 2 * (c : Int) + 42), (2, 198)] n43 (RV (fun m1 => RRs X m1 (pAt X (41 + 2 * c) 6 12 0 12 c r) ∧ Fr [90008, 90009, 90010, 90011, 90012, 90013, 96999] m m1 ∧ m1 198 9 = m 198 9))
  have k6_n43 : n43 198 6 = m 198 6 := (Fr_cell (o := 198) q43.2 (by decide) (by decide) 6).trans k6_m1
  have k9_n43 : n43 198 9 = m 198 9 := (Fr_cell (o := 198) q43.2 (by decide) (by decide) 9).trans k9_m1
  have f_n43 : Fr [90008, 90009, 90010, 90011, 90012, 90013, 96999] m n43 := Fr_tr f_m1 (Fr_sub q43.2 (by decide))
  have b_x43 := RU_in q43.1
  obtain ⟨m2, e_m2⟩ : ∃ z, z = nu_up n43 198 (41 + 2 * c + 1) x43 := ⟨_, rfl⟩
  have h_m2 : Gam m2 := by rw [e_m2]; exact (by rw [show 41 + 2 * c + 1 = 42 + 2 * c by omega]; exact gu_198_vr (RU_g q43.1) (k := c) (by omega) (by omega) (by omega))
  refine gx_is (n := 41 + 2 * c + 1) (x := x43) r_115_46 rfl (by decide) (tk_198 hT) (by omega) ⟨rfl, by omega⟩ e_m2.symm ?_
  have r_m2 := RU_set q43.1 (by rw [← e_m2]; exact h_m2)
  rw [← e_m2] at r_m2
  have f_m2 : Fr [90008, 90009, 90010, 90011, 90012, 90013, 96999] m m2 := Fr_tr f_n43 (by rw [e_m2]; exact Fr_ua rfl rfl)
  have k6_m2 : m2 198 6 = m 198 6 := by rw [e_m2, nu_ne (by omega)]; exact k6_n43
  have k9_m2 : m2 198 9 = m 198 9 := by rw [e_m2, nu_ne (by omega)]; exact k9_n43
  refine gx_st (L' := [(2, 192), (0, 41), (0, 6), (2, 1000012), (0, 0), (0, 12), (0, 2 * (c : Int) + 41)]) (S' := [(2, 192)]) r_115_47 rfl rfl rfl ?_
  refine gx_gf (x := 198) 2 r_115_48 rfl (tk_192 hT) ⟨by decide, rfl, by decide, by decide⟩ rfl (fun _ => by decide) (pr_192_14 h_m2) ?_
  refine gx_st (L' := [(2, 192), (0, 41), (0, 6), (2, 1000012), (0, 0), (0, 12), (0, 2 * (c : Int) + 41)]) (S' := [(0, 6), (2, 198)]) r_115_51 rfl rfl rfl ?_
  refine gx_st (L' := [(2, 192), (0, 41), (0, 6), (2, 1000012), (0, 0), (0, 12), (0, 2 * (c : Int) + 41)]) (S' := [(0, 6), (2, 198), (0, 6), (2, 198)]) r_115_52 rfl rfl rfl ?_
  refine gx_ia (n := 6) (x := (c : Int)) r_115_53 rfl (tk_198 hT) (rfl) ⟨rfl, by decide⟩ (k6_m2.trans hc) ?_
  refine gx_st (L' := [(2, 192), (0, 41), (0, 6), (2, 1000012), (0, 0), (0, 12), (0, 2 * (c : Int) + 41)]) (S' := [(0, 1), (0, (c : Int)), (0, 6), (2, 198)]) r_115_54 rfl rfl rfl ?_
  refine gx_ar (L' := [(2, 192), (0, 41), (0, 6), (2, 1000012), (0, 0), (0, 12), (0, 2 * (c : Int) + 41)]) (S' := [(0, 6), (2, 198)]) (t := 0) (e := w32 ((c : Int) + 1)) (z := (c : Int) + 1) r_115_55 rfl rfl rfl (w32_eq (by omega) (by omega) (by omega)) ?_
  obtain ⟨m3, e_m3⟩ : ∃ z, z = nu_up m2 198 (6) ((c : Int) + 1) := ⟨_, rfl⟩
  have h_m3 : Gam m3 := by rw [e_m3]; exact gu_198_6 h_m2 (by omega) (by omega)
  refine gx_is (n := 6) (x := (c : Int) + 1) r_115_56 rfl (by decide) (tk_198 hT) (rfl) ⟨rfl, by decide⟩ e_m3.symm ?_
  have z := RR_up (i := 6) (x := (c : Int) + 1) r_m2 (by rw [← e_m3]; exact h_m3)
  rw [← e_m3] at z
  exact gx_rt r_115_57 rfl rfl ⟨rfl, z, Fr_tr f_m2 (by rw [e_m3]; exact Fr_ua rfl rfl), by rw [e_m3, nu_ne (by decide)]; exact k9_m2⟩
theorem y_115c (hT : TT T) (hx : XOK X) {r : PR} (h : RRs X m r) {c : Nat} (hc : m 198 7 = (c : Int)) (hcm : c ≤ 4) : GX T 5 115 0 [(2, 192), (0, 47), (0, 7), (2, 1000013), (0, 1), (0, 99), (9, 0)] [] m (RV (fun m1 => RRs X m1 (pAt X (47 + 2 * c) 7 13 1 99 c r) ∧ Fr [90008, 90009, 90010, 90011, 90012, 90013, 96999] m m1 ∧ m1 198 9 = m 198 9)) := by
  have hm := RR_g h
  refine gx_st (L' := [(2, 192), (0, 47), (0, 7), (2, 1000013), (0, 1), (0, 99), (9, 0)]) (S' := [(0, 47)]) r_115_0 rfl rfl rfl ?_
  refine gx_st (L' := [(2, 192), (0, 47), (0, 7), (2, 1000013), (0, 1), (0, 99), (9, 0)]) (S' := [(0, 2), (0, 47)]) r_115_1 rfl rfl rfl ?_
  refine gx_st (L' := [(2, 192), (0, 47), (0, 7), (2, 1000013), (0, 1), (0, 99), (9, 0)]) (S' := [(2, 192), (0, 2), (0, 47)]) r_115_2 rfl rfl rfl ?_
  refine gx_gf (x := 198) 2 r_115_3 rfl (tk_192 hT) ⟨by decide, rfl, by decide, by decide⟩ rfl (fun _ => by decide) (pr_192_14 hm) ?_
  refine gx_st (L' := [(2, 192), (0, 47), (0, 7), (2, 1000013), (0, 1), (0, 99), (9, 0)]) (S' := [(0, 7), (2, 198), (0, 2), (0, 47)]) r_115_6 rfl rfl rfl ?_
  refine gx_ia (n := 7) (x := (c : Int)) r_115_7 rfl (tk_198 hT) (rfl) ⟨rfl, by decide⟩ (hc) ?_
  refine gx_ar (L' := [(2, 192), (0, 47), (0, 7), (2, 1000013), (0, 1), (0, 99), (9, 0)]) (S' := [(0, 47)]) (t := 0) (e := w32 (2 * (c : Int))) (z := 2 * (c : Int)) r_115_8 rfl rfl rfl (w32_eq (by omega) (by omega) (by omega)) ?_
  refine gx_ar (L' := [(2, 192), (0, 47), (0, 7), (2, 1000013), (0, 1), (0, 99), (9, 0)]) (S' := []) (t := 0) (e := w32 (47 + (2 * (c : Int)))) (z := 2 * (c : Int) + 47) r_115_9 rfl rfl rfl (w32_eq (by omega) (by omega) (by omega)) ?_
  refine gx_st (L' := [(2, 192), (0, 47), (0, 7), (2, 1000013), (0, 1), (0, 99), (0, 2 * (c : Int) + 47)]) (S' := []) r_115_10 rfl rfl rfl ?_
  refine gx_st (L' := [(2, 192), (0, 47), (0, 7), (2, 1000013), (0, 1), (0, 99), (0, 2 * (c : Int) + 47)]) (S' := [(2, 192)]) r_115_12 rfl rfl rfl ?_
  refine gx_st (L' := [(2, 192), (0, 47), (0, 7), (2, 1000013), (0, 1), (0, 99), (0, 2 * (c : Int) + 47)]) (S' := [(2, 1000014), (2, 192)]) r_115_13 rfl rfl rfl ?_
  refine gx_cv (nx := 18) (S2 := []) (y_108 hT hx h (q := 14) (by decide) rfl sl_14) r_115_15 rfl rfl rfl rfl rfl (rcv_v rfl (tk_192 hT) (by decide) rfl (by decide)) rfl (by decide) rfl (fun n15 q15 => ?_)
  have k7_n15 : n15 198 7 = m 198 7 := (Fr_cell (o := 198) q15.2 (by decide) (by decide) 7).trans rfl
  have k9_n15 : n15 198 9 = m 198 9 := (Fr_cell (o := 198) q15.2 (by decide) (by decide) 9).trans rfl
  have f_n15 : Fr [90008, 90009, 90010, 90011, 90012, 90013, 96999] m n15 := Fr_tr Fr_rf (Fr_sub q15.2 (by decide))
  refine gx_st (L' := [(2, 192), (0, 47), (0, 7), (2, 1000013), (0, 1), (0, 99), (0, 2 * (c : Int) + 47)]) (S' := [(2, 192)]) r_115_18 rfl rfl rfl ?_
  refine gx_gf (x := 198) 2 r_115_19 rfl (tk_192 hT) ⟨by decide, rfl, by decide, by decide⟩ rfl (fun _ => by decide) (pr_192_14 (RR_g q15.1)) ?_
  refine gx_st (L' := [(2, 192), (0, 47), (0, 7), (2, 1000013), (0, 1), (0, 99), (0, 2 * (c : Int) + 47)]) (S' := [(0, 2 * (c : Int) + 47), (2, 198)]) r_115_22 rfl rfl rfl ?_
  refine gx_st (L' := [(2, 192), (0, 47), (0, 7), (2, 1000013), (0, 1), (0, 99), (0, 2 * (c : Int) + 47)]) (S' := [(2, 192), (0, 2 * (c : Int) + 47), (2, 198)]) r_115_24 rfl rfl rfl ?_
  refine gx_ci (nx := 28) (S2 := [(0, 2 * (c : Int) + 47), (2, 198)]) (y_112 hT hx q15.1) r_115_25 rfl rfl rfl rfl rfl (rcv_v rfl (tk_192 hT) (by decide) rfl (by decide)) rfl (by decide) rfl (fun x25 n25 q25 => ?_)
  show GX T 5 115 28 [(2, 192), (0, 47), (0, 7), (2, 1000013), (0, 1), (0, 99), (0, 2 * (c : Int) + 47)] [(0, x25), (0, 2 * (c : Int) + 47), (2, 198)] n25 (RV (fun m1 => RRs X m1 (pAt X (47 + 2 * c) 7 13 1 99 c r) ∧ Fr [90008, 90009, 90010, 90011, 90012, 90013, 96999] m m1 ∧ m1 198 9 = m 198 9))
  have k7_n25 : n25 198 7 = m 198 7 := (Fr_cell (o := 198) q25.2 (by decide) (by decide) 7).trans k7_n15
  have k9_n25 : n25 198 9 = m 198 9 := (Fr_cell (o := 198) q25.2 (by decide) (by decide) 9).trans k9_n15
  have f_n25 : Fr [90008, 90009, 90010, 90011, 90012, 90013, 96999] m n25 := Fr_tr f_n15 (Fr_sub q25.2 (by decide))
  have b_x25 := RU_pl q25.1 (RR_fr0 q15.1)
  obtain ⟨m1, e_m1⟩ : ∃ z, z = nu_up n25 198 (47 + 2 * c) x25 := ⟨_, rfl⟩
  have h_m1 : Gam m1 := by rw [e_m1]; exact gu_198_bp (RU_g q25.1) (k := c) (by omega) (by omega) (by omega)
  refine gx_is (n := 47 + 2 * c) (x := x25) r_115_28 rfl (by decide) (tk_198 hT) (by omega) ⟨rfl, by omega⟩ e_m1.symm ?_
  have r_m1 := RU_set q25.1 (by rw [← e_m1]; exact h_m1)
  rw [← e_m1] at r_m1
  have f_m1 : Fr [90008, 90009, 90010, 90011, 90012, 90013, 96999] m m1 := Fr_tr f_n25 (by rw [e_m1]; exact Fr_ua rfl rfl)
  have k7_m1 : m1 198 7 = m 198 7 := by rw [e_m1, nu_ne (by omega)]; exact k7_n25
  have k9_m1 : m1 198 9 = m 198 9 := by rw [e_m1, nu_ne (by omega)]; exact k9_n25
  refine gx_st (L' := [(2, 192), (0, 47), (0, 7), (2, 1000013), (0, 1), (0, 99), (0, 2 * (c : Int) + 47)]) (S' := [(2, 192)]) r_115_29 rfl rfl rfl ?_
  refine gx_gf (x := 198) 2 r_115_30 rfl (tk_192 hT) ⟨by decide, rfl, by decide, by decide⟩ rfl (fun _ => by decide) (pr_192_14 h_m1) ?_
  refine gx_st (L' := [(2, 192), (0, 47), (0, 7), (2, 1000013), (0, 1), (0, 99), (0, 2 * (c : Int) + 47)]) (S' := [(0, 2 * (c : Int) + 47), (2, 198)]) r_115_33 rfl rfl rfl ?_
  refine gx_st (L' := [(2, 192), (0, 47), (0, 7), (2, 1000013), (0, 1), (0, 99), (0, 2 * (c : Int) + 47)]) (S' := [(0, 1), (0, 2 * (c : Int) + 47), (2, 198)]) r_115_35 rfl rfl rfl ?_
  refine gx_ar (L' := [(2, 192), (0, 47), (0, 7), (2, 1000013), (0, 1), (0, 99), (0, 2 * (c : Int) + 47)]) (S' := [(2, 198)]) (t := 0) (e := w32 ((2 * (c : Int) + 47) + 1)) (z := 2 * (c : Int) + 48) r_115_36 rfl rfl rfl (w32_eq (by omega) (by omega) (by omega)) ?_
  refine gx_st (L' := [(2, 192), (0, 47), (0, 7), (2, 1000013), (0, 1), (0, 99), (0, 2 * (c : Int) + 47)]) (S' := [(2, 192), (0, 2 * (c : Int) + 48), (2, 198)]) r_115_37 rfl rfl rfl ?_
  refine gx_st (L' := [(2, 192), (0, 47), (0, 7), (2, 1000013), (0, 1), (0, 99), (0, 2 * (c : Int) + 47)]) (S' := [(2, 1000013), (2, 192), (0, 2 * (c : Int) + 48), (2, 198)]) r_115_38 rfl rfl rfl ?_
  refine gx_st (L' := [(2, 192), (0, 47), (0, 7), (2, 1000013), (0, 1), (0, 99), (0, 2 * (c : Int) + 47)]) (S' := [(0, 1), (2, 1000013), (2, 192), (0, 2 * (c : Int) + 48), (2, 198)]) r_115_39 rfl rfl rfl ?_
  refine gx_st (L' := [(2, 192), (0, 47), (0, 7), (2, 1000013), (0, 1), (0, 99), (0, 2 * (c : Int) + 47)]) (S' := [(0, 99), (0, 1), (2, 1000013), (2, 192), (0, 2 * (c : Int) + 48), (2, 198)]) r_115_41 rfl rfl rfl ?_
  refine gx_ci (nx := 46) (S2 := [(0, 2 * (c : Int) + 48), (2, 198)]) (y_110 hT hx r_m1 (q := 13) (by decide) rfl sl_13 1 99) r_115_43 rfl rfl rfl rfl rfl (rcv_v rfl (tk_192 hT) (by decide) rfl (by decide)) rfl (by decide) rfl (fun x43 n43 q43 => ?_)
  show GX T 5 115 46 [(2, 192), (0, 47), (0, 7), (2, 1000013), (0, 1), (0, 99), (0, 2 * (c : Int) + 47)] [(0, x43), (0, 2 * (c : Int) + 48), (2, 198)] n43 (RV (fun m1 => RRs X m1 (pAt X (47 + 2 * c) 7 13 1 99 c r) ∧ Fr [90008, 90009, 90010, 90011, 90012, 90013, 96999] m m1 ∧ m1 198 9 = m 198 9))
  have k7_n43 : n43 198 7 = m 198 7 := (Fr_cell (o := 198) q43.2 (by decide) (by decide) 7).trans k7_m1
  have k9_n43 : n43 198 9 = m 198 9 := (Fr_cell (o := 198) q43.2 (by decide) (by decide) 9).trans k9_m1
  have f_n43 : Fr [90008, 90009, 90010, 90011, 90012, 90013, 96999] m n43 := Fr_tr f_m1 (Fr_sub q43.2 (by decide))
  have b_x43 := RU_in q43.1
  obtain ⟨m2, e_m2⟩ : ∃ z, z = nu_up n43 198 (47 + 2 * c + 1) x43 := ⟨_, rfl⟩
  have h_m2 : Gam m2 := by rw [e_m2]; exact (by rw [show 47 + 2 * c + 1 = 48 + 2 * c by omega]; exact gu_198_bs (RU_g q43.1) (k := c) (by omega) (by omega) (by omega))
  refine gx_is (n := 47 + 2 * c + 1) (x := x43) r_115_46 rfl (by decide) (tk_198 hT) (by omega) ⟨rfl, by omega⟩ e_m2.symm ?_
  have r_m2 := RU_set q43.1 (by rw [← e_m2]; exact h_m2)
  rw [← e_m2] at r_m2
  have f_m2 : Fr [90008, 90009, 90010, 90011, 90012, 90013, 96999] m m2 := Fr_tr f_n43 (by rw [e_m2]; exact Fr_ua rfl rfl)
  have k7_m2 : m2 198 7 = m 198 7 := by rw [e_m2, nu_ne (by omega)]; exact k7_n43
  have k9_m2 : m2 198 9 = m 198 9 := by rw [e_m2, nu_ne (by omega)]; exact k9_n43
  refine gx_st (L' := [(2, 192), (0, 47), (0, 7), (2, 1000013), (0, 1), (0, 99), (0, 2 * (c : Int) + 47)]) (S' := [(2, 192)]) r_115_47 rfl rfl rfl ?_
  refine gx_gf (x := 198) 2 r_115_48 rfl (tk_192 hT) ⟨by decide, rfl, by decide, by decide⟩ rfl (fun _ => by decide) (pr_192_14 h_m2) ?_
  refine gx_st (L' := [(2, 192), (0, 47), (0, 7), (2, 1000013), (0, 1), (0, 99), (0, 2 * (c : Int) + 47)]) (S' := [(0, 7), (2, 198)]) r_115_51 rfl rfl rfl ?_
  refine gx_st (L' := [(2, 192), (0, 47), (0, 7), (2, 1000013), (0, 1), (0, 99), (0, 2 * (c : Int) + 47)]) (S' := [(0, 7), (2, 198), (0, 7), (2, 198)]) r_115_52 rfl rfl rfl ?_
  refine gx_ia (n := 7) (x := (c : Int)) r_115_53 rfl (tk_198 hT) (rfl) ⟨rfl, by decide⟩ (k7_m2.trans hc) ?_
  refine gx_st (L' := [(2, 192), (0, 47), (0, 7), (2, 1000013), (0, 1), (0, 99), (0, 2 * (c : Int) + 47)]) (S' := [(0, 1), (0, (c : Int)), (0, 7), (2, 198)]) r_115_54 rfl rfl rfl ?_
  refine gx_ar (L' := [(2, 192), (0, 47), (0, 7), (2, 1000013), (0, 1), (0, 99), (0, 2 * (c : Int) + 47)]) (S' := [(0, 7), (2, 198)]) (t := 0) (e := w32 ((c : Int) + 1)) (z := (c : Int) + 1) r_115_55 rfl rfl rfl (w32_eq (by omega) (by omega) (by omega)) ?_
  obtain ⟨m3, e_m3⟩ : ∃ z, z = nu_up m2 198 (7) ((c : Int) + 1) := ⟨_, rfl⟩
  have h_m3 : Gam m3 := by rw [e_m3]; exact gu_198_7 h_m2 (by omega) (by omega)
  refine gx_is (n := 7) (x := (c : Int) + 1) r_115_56 rfl (by decide) (tk_198 hT) (rfl) ⟨rfl, by decide⟩ e_m3.symm ?_
  have z := RR_up (i := 7) (x := (c : Int) + 1) r_m2 (by rw [← e_m3]; exact h_m3)
  rw [← e_m3] at z
  exact gx_rt r_115_57 rfl rfl ⟨rfl, z, Fr_tr f_m2 (by rw [e_m3]; exact Fr_ua rfl rfl), by rw [e_m3, nu_ne (by decide)]; exact k9_m2⟩
theorem y_116_0 (hT : TT T) (hx : XOK X) {p : Nat} {w : Wd} (hG : RG X m p w) (w0 : isWd X p 0 = true) (w1 : ¬ isWd X p 1 = true) (w2 : ¬ isWd X p 2 = true) (w3 : ¬ isWd X p 3 = true) (w4 : ¬ isWd X p 4 = true) : GX T 6 116 0 [(2, 192), (9, 0), (9, 0)] [] m (RV (fun m1 => RRs X m1 (pNext X p w) ∧ Fr [90008, 90009, 90010, 90011, 90012, 90013, 96999] m m1 ∧ m1 198 9 = m 198 9)) := by
  have hg : m 192 12 = 0 := hG.2.2.1
  have hm := hG.1
  have e4 : m 198 4 = w 4 := hG.2.2.2.2.2.2.2.2 4 (by decide)
  have be4 := gb_198_4 hm
  rw [e4] at be4
  have e5 : m 198 5 = w 5 := hG.2.2.2.2.2.2.2.2 5 (by decide)
  have be5 := gb_198_5 hm
  rw [e5] at be5
  have e6 : m 198 6 = w 6 := hG.2.2.2.2.2.2.2.2 6 (by decide)
  have be6 := gb_198_6 hm
  rw [e6] at be6
  have e7 : m 198 7 = w 7 := hG.2.2.2.2.2.2.2.2 7 (by decide)
  have be7 := gb_198_7 hm
  rw [e7] at be7
  refine gx_st (L' := [(2, 192), (9, 0), (9, 0)]) (S' := [(2, 192)]) r_116_0 rfl rfl rfl ?_
  refine gx_st (L' := [(2, 192), (9, 0), (9, 0)]) (S' := [(2, 1000000), (2, 192)]) r_116_1 rfl rfl rfl ?_
  refine gx_ci (nx := 6) (S2 := []) (y_106g hT hx hG (q := 0) (by decide) rfl sl_0) r_116_3 rfl rfl rfl rfl rfl (rcv_v rfl (tk_192 hT) (by decide) rfl (by decide)) rfl (by decide) rfl (fun x3 n3 q3 => ?_)
  obtain rfl := q3.1.symm
  obtain rfl := q3.2.symm
  show GX T 6 116 6 [(2, 192), (9, 0), (9, 0)] [(0, (if isWd X p 0 = true then 1 else 0))] m (RV (fun m1 => RRs X m1 (pNext X p w) ∧ Fr [90008, 90009, 90010, 90011, 90012, 90013, 96999] m m1 ∧ m1 198 9 = m 198 9))
  refine gx_i0 (P := isWd X p 0 = true) r_116_6 (b01_ne) (fun h6 => ?_) (fun h6 => ?_)
  · refine gx_st (L' := [(2, 192), (9, 0), (9, 0)]) (S' := [(0, 1)]) r_116_45 rfl rfl rfl ?_
    refine gx_st (L' := [(2, 192), (9, 0), (9, 0)]) (S' := [(0, 1)]) r_116_46 rfl rfl rfl ?_
    refine gx_st (L' := [(2, 192), (0, 1), (9, 0)]) (S' := []) r_116_50 rfl rfl rfl ?_
    refine gx_st (L' := [(2, 192), (0, 1), (9, 0)]) (S' := [(0, 1)]) r_116_51 rfl rfl rfl ?_
    refine gx_i0 (P := ¬ 1 = 0) r_116_52 (rfl) (fun h52 => ?_) (fun h52 => ?_)
    · refine gx_st (L' := [(2, 192), (0, 1), (9, 0)]) (S' := [(2, 192)]) r_116_60 rfl rfl rfl ?_
      refine gx_st (L' := [(2, 192), (0, 1), (9, 0)]) (S' := [(2, 1000000), (2, 192)]) r_116_61 rfl rfl rfl ?_
      refine gx_ci (nx := 66) (S2 := []) (y_106g hT hx hG (q := 0) (by decide) rfl sl_0) r_116_63 rfl rfl rfl rfl rfl (rcv_v rfl (tk_192 hT) (by decide) rfl (by decide)) rfl (by decide) rfl (fun x63 n63 q63 => ?_)
      obtain rfl := q63.1.symm
      obtain rfl := q63.2.symm
      show GX T 6 116 66 [(2, 192), (0, 1), (9, 0)] [(0, (if isWd X p 0 = true then 1 else 0))] m (RV (fun m1 => RRs X m1 (pNext X p w) ∧ Fr [90008, 90009, 90010, 90011, 90012, 90013, 96999] m m1 ∧ m1 198 9 = m 198 9))
      refine gx_i0 (P := ¬ (isWd X p 0 = true)) r_116_66 (b01_eq) (fun h66 => ?_) (fun h66 => ?_)
      · exact absurd w0 h66
      · have h66 := Decidable.not_not.mp h66
        refine gx_st (L' := [(2, 192), (0, 1), (9, 0)]) (S' := [(2, 192)]) r_116_69 rfl rfl rfl ?_
        refine gx_gf (x := 198) 2 r_116_70 rfl (tk_192 hT) ⟨by decide, rfl, by decide, by decide⟩ rfl (fun _ => by decide) (pr_192_14 hm) ?_
        refine gx_st (L' := [(2, 192), (0, 1), (9, 0)]) (S' := [(0, 4), (2, 198)]) r_116_73 rfl rfl rfl ?_
        refine gx_ia (n := 4) (x := (w 4)) r_116_74 rfl (tk_198 hT) (rfl) ⟨rfl, by decide⟩ (e4) ?_
        refine gx_st (L' := [(2, 192), (0, 1), (9, 0)]) (S' := [(0, 10), (0, (w 4))]) r_116_75 rfl rfl rfl ?_
        refine gx_ic (P := (w 4) = 10) r_116_77 (rfl) (fun h77 => ?_) (fun h77 => ?_)
        · refine gx_st (L' := [(2, 192), (0, 1), (9, 0)]) (S' := [(2, 192)]) r_116_99 rfl rfl rfl ?_
          refine gx_st (L' := [(2, 192), (0, 1), (9, 0)]) (S' := [(0, 3), (2, 192)]) r_116_100 rfl rfl rfl ?_
          refine gx_cv (nx := 104) (S2 := []) (y_105g hT hx hG (k := 3) (by decide) (by decide)) r_116_101 rfl rfl rfl rfl rfl (rcv_v rfl (tk_192 hT) (by decide) rfl (by decide)) rfl (by decide) rfl (fun n101 q101 => ?_)
          have hb_n101 : ¬ n101 192 12 = 0 := by rw [q101.1.2.2.1]; exact q101.1.2.2.2.2
          refine gx_st (L' := [(2, 192), (0, 1), (9, 0)]) (S' := [(2, 192)]) r_116_104 rfl rfl rfl ?_
          refine gx_st (L' := [(2, 192), (0, 1), (9, 0)]) (S' := [(2, 1000002), (2, 192)]) r_116_105 rfl rfl rfl ?_
          refine gx_ci (nx := 110) (S2 := []) (y_106e hT q101.1 (q := 2) (by decide) rfl sl_2) r_116_107 rfl rfl rfl rfl rfl (rcv_v rfl (tk_192 hT) (by decide) rfl (by decide)) rfl (by decide) rfl (fun x107 n107 q107 => ?_)
          obtain rfl := q107.1.symm
          obtain rfl := q107.2.symm
          show GX T 6 116 110 [(2, 192), (0, 1), (9, 0)] [(0, 0)] n101 (RV (fun m1 => RRs X m1 (pNext X p w) ∧ Fr [90008, 90009, 90010, 90011, 90012, 90013, 96999] m m1 ∧ m1 198 9 = m 198 9))
          refine gx_i0 (P := 0 = 0) r_116_110 (rfl) (fun h110 => ?_) (fun h110 => ?_)
          · refine gx_st (L' := [(2, 192), (0, 1), (9, 0)]) (S' := [(2, 192)]) r_116_124 rfl rfl rfl ?_
            refine gx_st (L' := [(2, 192), (0, 1), (9, 0)]) (S' := [(2, 1000004), (2, 192)]) r_116_125 rfl rfl rfl ?_
            refine gx_ci (nx := 130) (S2 := []) (y_106e hT q101.1 (q := 4) (by decide) rfl sl_4) r_116_127 rfl rfl rfl rfl rfl (rcv_v rfl (tk_192 hT) (by decide) rfl (by decide)) rfl (by decide) rfl (fun x127 n127 q127 => ?_)
            obtain rfl := q127.1.symm
            obtain rfl := q127.2.symm
            show GX T 6 116 130 [(2, 192), (0, 1), (9, 0)] [(0, 0)] n101 (RV (fun m1 => RRs X m1 (pNext X p w) ∧ Fr [90008, 90009, 90010, 90011, 90012, 90013, 96999] m m1 ∧ m1 198 9 = m 198 9))
            refine gx_i0 (P := 0 = 0) r_116_130 (rfl) (fun h130 => ?_) (fun h130 => ?_)
            · refine gx_st (L' := [(2, 192), (0, 1), (9, 0)]) (S' := [(2, 192)]) r_116_149 rfl rfl rfl ?_
              refine gx_ci (nx := 153) (S2 := []) (x_104 hT q101.1.1) r_116_150 rfl rfl rfl rfl rfl (rcv_v rfl (tk_192 hT) (by decide) rfl (by decide)) rfl (by decide) rfl (fun x150 n150 q150 => ?_)
              obtain rfl := q150.1.symm
              obtain rfl := q150.2.symm
              show GX T 6 116 153 [(2, 192), (0, 1), (9, 0)] [(0, (if n101 192 12 = 0 then 1 else 0))] n101 (RV (fun m1 => RRs X m1 (pNext X p w) ∧ Fr [90008, 90009, 90010, 90011, 90012, 90013, 96999] m m1 ∧ m1 198 9 = m 198 9))
              refine gx_i0 (P := n101 192 12 = 0) r_116_153 (b01_ne) (fun h153 => ?_) (fun h153 => ?_)
              · exact absurd h153 hb_n101
              · refine gx_rt r_116_156 rfl rfl ⟨rfl, ?_, Fr_sub q101.2 (by decide), Fr_cell (o := 198) q101.2 (by decide) (by decide) 9⟩
                unfold pNext
                rw [if_pos w0, if_pos (by omega)]
                exact q101.1
            · omega
          · omega
        · refine gx_st (L' := [(2, 192), (0, 1), (9, 0)]) (S' := [(2, 192)]) r_116_80 rfl rfl rfl ?_
          refine gx_st (L' := [(2, 192), (0, 1), (9, 0)]) (S' := [(2, 1000001), (2, 192)]) r_116_81 rfl rfl rfl ?_
          refine gx_ci (nx := 86) (S2 := []) (y_106g hT hx hG (q := 1) (by decide) rfl sl_1) r_116_83 rfl rfl rfl rfl rfl (rcv_v rfl (tk_192 hT) (by decide) rfl (by decide)) rfl (by decide) rfl (fun x83 n83 q83 => ?_)
          obtain rfl := q83.1.symm
          obtain rfl := q83.2.symm
          show GX T 6 116 86 [(2, 192), (0, 1), (9, 0)] [(0, (if isWd X p 1 = true then 1 else 0))] m (RV (fun m1 => RRs X m1 (pNext X p w) ∧ Fr [90008, 90009, 90010, 90011, 90012, 90013, 96999] m m1 ∧ m1 198 9 = m 198 9))
          refine gx_i0 (P := ¬ (isWd X p 1 = true)) r_116_86 (b01_eq) (fun h86 => ?_) (fun h86 => ?_)
          · refine gx_st (L' := [(2, 192), (0, 1), (9, 0)]) (S' := [(2, 192)]) r_116_104 rfl rfl rfl ?_
            refine gx_st (L' := [(2, 192), (0, 1), (9, 0)]) (S' := [(2, 1000002), (2, 192)]) r_116_105 rfl rfl rfl ?_
            refine gx_ci (nx := 110) (S2 := []) (y_106g hT hx hG (q := 2) (by decide) rfl sl_2) r_116_107 rfl rfl rfl rfl rfl (rcv_v rfl (tk_192 hT) (by decide) rfl (by decide)) rfl (by decide) rfl (fun x107 n107 q107 => ?_)
            obtain rfl := q107.1.symm
            obtain rfl := q107.2.symm
            show GX T 6 116 110 [(2, 192), (0, 1), (9, 0)] [(0, (if isWd X p 2 = true then 1 else 0))] m (RV (fun m1 => RRs X m1 (pNext X p w) ∧ Fr [90008, 90009, 90010, 90011, 90012, 90013, 96999] m m1 ∧ m1 198 9 = m 198 9))
            refine gx_i0 (P := ¬ (isWd X p 2 = true)) r_116_110 (b01_eq) (fun h110 => ?_) (fun h110 => ?_)
            · refine gx_st (L' := [(2, 192), (0, 1), (9, 0)]) (S' := [(2, 192)]) r_116_124 rfl rfl rfl ?_
              refine gx_st (L' := [(2, 192), (0, 1), (9, 0)]) (S' := [(2, 1000004), (2, 192)]) r_116_125 rfl rfl rfl ?_
              refine gx_ci (nx := 130) (S2 := []) (y_106g hT hx hG (q := 4) (by decide) rfl sl_4) r_116_127 rfl rfl rfl rfl rfl (rcv_v rfl (tk_192 hT) (by decide) rfl (by decide)) rfl (by decide) rfl (fun x127 n127 q127 => ?_)
              obtain rfl := q127.1.symm
              obtain rfl := q127.2.symm
              show GX T 6 116 130 [(2, 192), (0, 1), (9, 0)] [(0, (if isWd X p 4 = true then 1 else 0))] m (RV (fun m1 => RRs X m1 (pNext X p w) ∧ Fr [90008, 90009, 90010, 90011, 90012, 90013, 96999] m m1 ∧ m1 198 9 = m 198 9))
              refine gx_i0 (P := ¬ (isWd X p 4 = true)) r_116_130 (b01_eq) (fun h130 => ?_) (fun h130 => ?_)
              · refine gx_st (L' := [(2, 192), (0, 1), (9, 0)]) (S' := [(2, 192)]) r_116_149 rfl rfl rfl ?_
                refine gx_ci (nx := 153) (S2 := []) (x_104 hT hm) r_116_150 rfl rfl rfl rfl rfl (rcv_v rfl (tk_192 hT) (by decide) rfl (by decide)) rfl (by decide) rfl (fun x150 n150 q150 => ?_)
                obtain rfl := q150.1.symm
                obtain rfl := q150.2.symm
                show GX T 6 116 153 [(2, 192), (0, 1), (9, 0)] [(0, (if m 192 12 = 0 then 1 else 0))] m (RV (fun m1 => RRs X m1 (pNext X p w) ∧ Fr [90008, 90009, 90010, 90011, 90012, 90013, 96999] m m1 ∧ m1 198 9 = m 198 9))
                refine gx_i0 (P := m 192 12 = 0) r_116_153 (b01_ne) (fun h153 => ?_) (fun h153 => ?_)
                · refine gx_st (L' := [(2, 192), (0, 1), (9, 0)]) (S' := [(2, 192)]) r_116_157 rfl rfl rfl ?_
                  refine gx_st (L' := [(2, 192), (0, 1), (9, 0)]) (S' := [(2, 1000000), (2, 192)]) r_116_158 rfl rfl rfl ?_
                  refine gx_ci (nx := 163) (S2 := []) (y_107g hT hx hG (q := 0) (by decide) rfl sl_0) r_116_160 rfl rfl rfl rfl rfl (rcv_v rfl (tk_192 hT) (by decide) rfl (by decide)) rfl (by decide) rfl (fun x160 n160 q160 => ?_)
                  obtain ⟨e_x160, -, g_n160, f_n160⟩ := q160.resolve_right (fun z => by rw [z.2.1] at w0; exact absurd w0 (by decide))
                  obtain rfl := e_x160.symm
                  show GX T 6 116 163 [(2, 192), (0, 1), (9, 0)] [(0, 1)] n160 (RV (fun m1 => RRs X m1 (pNext X p w) ∧ Fr [90008, 90009, 90010, 90011, 90012, 90013, 96999] m m1 ∧ m1 198 9 = m 198 9))
                  refine gx_i0 (P := 1 = 0) r_116_163 (rfl) (fun h163 => ?_) (fun h163 => ?_)
                  · omega
                  · refine gx_st (L' := [(2, 192), (0, 1), (9, 0)]) (S' := [(2, 192)]) r_116_166 rfl rfl rfl ?_
                    refine gx_cv (nx := 170) (S2 := []) (y_114 hT hx (r := .ok (nE X p, w)) g_n160 (c := (w 4).toNat) (by rw [Fr_cell (o := 198) f_n160 (by decide) (by decide) 4, e4]; omega) (by omega)) r_116_167 rfl rfl rfl rfl rfl (rcv_v rfl (tk_192 hT) (by decide) rfl (by decide)) rfl (by decide) rfl (fun n167 q167 => ?_)
                    refine gx_st (L' := [(2, 192), (0, 1), (9, 0)]) (S' := []) r_116_170 rfl rfl rfl ?_
                    refine gx_rt r_116_275 rfl rfl ⟨rfl, ?_, Fr_tr (Fr_sub f_n160 (by decide)) q167.2.1, q167.2.2.trans (Fr_cell (o := 198) f_n160 (by decide) (by decide) 9)⟩
                    unfold pNext
                    rw [if_pos w0, if_neg (by omega)]
                    exact q167.1
                · exact absurd hg h153
              · have h130 := Decidable.not_not.mp h130
                exact absurd h130 w4
            · have h110 := Decidable.not_not.mp h110
              exact absurd h110 w2
          · have h86 := Decidable.not_not.mp h86
            exact absurd h86 w1
    · have h52 := Decidable.not_not.mp h52
      omega
  · exact absurd w0 h6
theorem y_116_1 (hT : TT T) (hx : XOK X) {p : Nat} {w : Wd} (hG : RG X m p w) (w0 : ¬ isWd X p 0 = true) (w1 : isWd X p 1 = true) (w2 : ¬ isWd X p 2 = true) (w3 : ¬ isWd X p 3 = true) (w4 : ¬ isWd X p 4 = true) : GX T 6 116 0 [(2, 192), (9, 0), (9, 0)] [] m (RV (fun m1 => RRs X m1 (pNext X p w) ∧ Fr [90008, 90009, 90010, 90011, 90012, 90013, 96999] m m1 ∧ m1 198 9 = m 198 9)) := by
  have hg : m 192 12 = 0 := hG.2.2.1
  have hm := hG.1
  have e4 : m 198 4 = w 4 := hG.2.2.2.2.2.2.2.2 4 (by decide)
  have be4 := gb_198_4 hm
  rw [e4] at be4
  have e5 : m 198 5 = w 5 := hG.2.2.2.2.2.2.2.2 5 (by decide)
  have be5 := gb_198_5 hm
  rw [e5] at be5
  have e6 : m 198 6 = w 6 := hG.2.2.2.2.2.2.2.2 6 (by decide)
  have be6 := gb_198_6 hm
  rw [e6] at be6
  have e7 : m 198 7 = w 7 := hG.2.2.2.2.2.2.2.2 7 (by decide)
  have be7 := gb_198_7 hm
  rw [e7] at be7
  refine gx_st (L' := [(2, 192), (9, 0), (9, 0)]) (S' := [(2, 192)]) r_116_0 rfl rfl rfl ?_
  refine gx_st (L' := [(2, 192), (9, 0), (9, 0)]) (S' := [(2, 1000000), (2, 192)]) r_116_1 rfl rfl rfl ?_
  refine gx_ci (nx := 6) (S2 := []) (y_106g hT hx hG (q := 0) (by decide) rfl sl_0) r_116_3 rfl rfl rfl rfl rfl (rcv_v rfl (tk_192 hT) (by decide) rfl (by decide)) rfl (by decide) rfl (fun x3 n3 q3 => ?_)
  obtain rfl := q3.1.symm
  obtain rfl := q3.2.symm
  show GX T 6 116 6 [(2, 192), (9, 0), (9, 0)] [(0, (if isWd X p 0 = true then 1 else 0))] m (RV (fun m1 => RRs X m1 (pNext X p w) ∧ Fr [90008, 90009, 90010, 90011, 90012, 90013, 96999] m m1 ∧ m1 198 9 = m 198 9))
  refine gx_i0 (P := isWd X p 0 = true) r_116_6 (b01_ne) (fun h6 => ?_) (fun h6 => ?_)
  · exact absurd h6 w0
  · refine gx_st (L' := [(2, 192), (9, 0), (9, 0)]) (S' := [(2, 192)]) r_116_9 rfl rfl rfl ?_
    refine gx_st (L' := [(2, 192), (9, 0), (9, 0)]) (S' := [(2, 1000001), (2, 192)]) r_116_10 rfl rfl rfl ?_
    refine gx_ci (nx := 15) (S2 := []) (y_106g hT hx hG (q := 1) (by decide) rfl sl_1) r_116_12 rfl rfl rfl rfl rfl (rcv_v rfl (tk_192 hT) (by decide) rfl (by decide)) rfl (by decide) rfl (fun x12 n12 q12 => ?_)
    obtain rfl := q12.1.symm
    obtain rfl := q12.2.symm
    show GX T 6 116 15 [(2, 192), (9, 0), (9, 0)] [(0, (if isWd X p 1 = true then 1 else 0))] m (RV (fun m1 => RRs X m1 (pNext X p w) ∧ Fr [90008, 90009, 90010, 90011, 90012, 90013, 96999] m m1 ∧ m1 198 9 = m 198 9))
    refine gx_i0 (P := isWd X p 1 = true) r_116_15 (b01_ne) (fun h15 => ?_) (fun h15 => ?_)
    · refine gx_st (L' := [(2, 192), (9, 0), (9, 0)]) (S' := [(0, 1)]) r_116_45 rfl rfl rfl ?_
      refine gx_st (L' := [(2, 192), (9, 0), (9, 0)]) (S' := [(0, 1)]) r_116_46 rfl rfl rfl ?_
      refine gx_st (L' := [(2, 192), (0, 1), (9, 0)]) (S' := []) r_116_50 rfl rfl rfl ?_
      refine gx_st (L' := [(2, 192), (0, 1), (9, 0)]) (S' := [(0, 1)]) r_116_51 rfl rfl rfl ?_
      refine gx_i0 (P := ¬ 1 = 0) r_116_52 (rfl) (fun h52 => ?_) (fun h52 => ?_)
      · refine gx_st (L' := [(2, 192), (0, 1), (9, 0)]) (S' := [(2, 192)]) r_116_60 rfl rfl rfl ?_
        refine gx_st (L' := [(2, 192), (0, 1), (9, 0)]) (S' := [(2, 1000000), (2, 192)]) r_116_61 rfl rfl rfl ?_
        refine gx_ci (nx := 66) (S2 := []) (y_106g hT hx hG (q := 0) (by decide) rfl sl_0) r_116_63 rfl rfl rfl rfl rfl (rcv_v rfl (tk_192 hT) (by decide) rfl (by decide)) rfl (by decide) rfl (fun x63 n63 q63 => ?_)
        obtain rfl := q63.1.symm
        obtain rfl := q63.2.symm
        show GX T 6 116 66 [(2, 192), (0, 1), (9, 0)] [(0, (if isWd X p 0 = true then 1 else 0))] m (RV (fun m1 => RRs X m1 (pNext X p w) ∧ Fr [90008, 90009, 90010, 90011, 90012, 90013, 96999] m m1 ∧ m1 198 9 = m 198 9))
        refine gx_i0 (P := ¬ (isWd X p 0 = true)) r_116_66 (b01_eq) (fun h66 => ?_) (fun h66 => ?_)
        · refine gx_st (L' := [(2, 192), (0, 1), (9, 0)]) (S' := [(2, 192)]) r_116_80 rfl rfl rfl ?_
          refine gx_st (L' := [(2, 192), (0, 1), (9, 0)]) (S' := [(2, 1000001), (2, 192)]) r_116_81 rfl rfl rfl ?_
          refine gx_ci (nx := 86) (S2 := []) (y_106g hT hx hG (q := 1) (by decide) rfl sl_1) r_116_83 rfl rfl rfl rfl rfl (rcv_v rfl (tk_192 hT) (by decide) rfl (by decide)) rfl (by decide) rfl (fun x83 n83 q83 => ?_)
          obtain rfl := q83.1.symm
          obtain rfl := q83.2.symm
          show GX T 6 116 86 [(2, 192), (0, 1), (9, 0)] [(0, (if isWd X p 1 = true then 1 else 0))] m (RV (fun m1 => RRs X m1 (pNext X p w) ∧ Fr [90008, 90009, 90010, 90011, 90012, 90013, 96999] m m1 ∧ m1 198 9 = m 198 9))
          refine gx_i0 (P := ¬ (isWd X p 1 = true)) r_116_86 (b01_eq) (fun h86 => ?_) (fun h86 => ?_)
          · exact absurd w1 h86
          · have h86 := Decidable.not_not.mp h86
            refine gx_st (L' := [(2, 192), (0, 1), (9, 0)]) (S' := [(2, 192)]) r_116_89 rfl rfl rfl ?_
            refine gx_gf (x := 198) 2 r_116_90 rfl (tk_192 hT) ⟨by decide, rfl, by decide, by decide⟩ rfl (fun _ => by decide) (pr_192_14 hm) ?_
            refine gx_st (L' := [(2, 192), (0, 1), (9, 0)]) (S' := [(0, 5), (2, 198)]) r_116_93 rfl rfl rfl ?_
            obtain ⟨x94, e_x94⟩ : ∃ z, z = m 198 (5) := ⟨_, rfl⟩
            have b_x94 := gb_198_5 hm
            rw [← e_x94] at b_x94
            refine gx_ia (n := 5) (x := x94) r_116_94 rfl (tk_198 hT) (rfl) ⟨rfl, by decide⟩ (e_x94.symm) ?_
            refine gx_st (L' := [(2, 192), (0, 1), (9, 0)]) (S' := [(0, 5), (0, x94)]) r_116_95 rfl rfl rfl ?_
            refine gx_ic (P := ¬ x94 = 5) r_116_96 (rfl) (fun h96 => ?_) (fun h96 => ?_)
            · refine gx_st (L' := [(2, 192), (0, 1), (9, 0)]) (S' := [(2, 192)]) r_116_104 rfl rfl rfl ?_
              refine gx_st (L' := [(2, 192), (0, 1), (9, 0)]) (S' := [(2, 1000002), (2, 192)]) r_116_105 rfl rfl rfl ?_
              refine gx_ci (nx := 110) (S2 := []) (y_106g hT hx hG (q := 2) (by decide) rfl sl_2) r_116_107 rfl rfl rfl rfl rfl (rcv_v rfl (tk_192 hT) (by decide) rfl (by decide)) rfl (by decide) rfl (fun x107 n107 q107 => ?_)
              obtain rfl := q107.1.symm
              obtain rfl := q107.2.symm
              show GX T 6 116 110 [(2, 192), (0, 1), (9, 0)] [(0, (if isWd X p 2 = true then 1 else 0))] m (RV (fun m1 => RRs X m1 (pNext X p w) ∧ Fr [90008, 90009, 90010, 90011, 90012, 90013, 96999] m m1 ∧ m1 198 9 = m 198 9))
              refine gx_i0 (P := ¬ (isWd X p 2 = true)) r_116_110 (b01_eq) (fun h110 => ?_) (fun h110 => ?_)
              · refine gx_st (L' := [(2, 192), (0, 1), (9, 0)]) (S' := [(2, 192)]) r_116_124 rfl rfl rfl ?_
                refine gx_st (L' := [(2, 192), (0, 1), (9, 0)]) (S' := [(2, 1000004), (2, 192)]) r_116_125 rfl rfl rfl ?_
                refine gx_ci (nx := 130) (S2 := []) (y_106g hT hx hG (q := 4) (by decide) rfl sl_4) r_116_127 rfl rfl rfl rfl rfl (rcv_v rfl (tk_192 hT) (by decide) rfl (by decide)) rfl (by decide) rfl (fun x127 n127 q127 => ?_)
                obtain rfl := q127.1.symm
                obtain rfl := q127.2.symm
                show GX T 6 116 130 [(2, 192), (0, 1), (9, 0)] [(0, (if isWd X p 4 = true then 1 else 0))] m (RV (fun m1 => RRs X m1 (pNext X p w) ∧ Fr [90008, 90009, 90010, 90011, 90012, 90013, 96999] m m1 ∧ m1 198 9 = m 198 9))
                refine gx_i0 (P := ¬ (isWd X p 4 = true)) r_116_130 (b01_eq) (fun h130 => ?_) (fun h130 => ?_)
                · refine gx_st (L' := [(2, 192), (0, 1), (9, 0)]) (S' := [(2, 192)]) r_116_149 rfl rfl rfl ?_
                  refine gx_ci (nx := 153) (S2 := []) (x_104 hT hm) r_116_150 rfl rfl rfl rfl rfl (rcv_v rfl (tk_192 hT) (by decide) rfl (by decide)) rfl (by decide) rfl (fun x150 n150 q150 => ?_)
                  obtain rfl := q150.1.symm
                  obtain rfl := q150.2.symm
                  show GX T 6 116 153 [(2, 192), (0, 1), (9, 0)] [(0, (if m 192 12 = 0 then 1 else 0))] m (RV (fun m1 => RRs X m1 (pNext X p w) ∧ Fr [90008, 90009, 90010, 90011, 90012, 90013, 96999] m m1 ∧ m1 198 9 = m 198 9))
                  refine gx_i0 (P := m 192 12 = 0) r_116_153 (b01_ne) (fun h153 => ?_) (fun h153 => ?_)
                  · refine gx_st (L' := [(2, 192), (0, 1), (9, 0)]) (S' := [(2, 192)]) r_116_157 rfl rfl rfl ?_
                    refine gx_st (L' := [(2, 192), (0, 1), (9, 0)]) (S' := [(2, 1000000), (2, 192)]) r_116_158 rfl rfl rfl ?_
                    refine gx_ci (nx := 163) (S2 := []) (y_107g hT hx hG (q := 0) (by decide) rfl sl_0) r_116_160 rfl rfl rfl rfl rfl (rcv_v rfl (tk_192 hT) (by decide) rfl (by decide)) rfl (by decide) rfl (fun x160 n160 q160 => ?_)
                    obtain ⟨e_x160, -, z_n160⟩ := q160.resolve_left (fun z => w0 z.2.1)
                    obtain rfl := e_x160.symm
                    obtain rfl := z_n160.symm
                    show GX T 6 116 163 [(2, 192), (0, 1), (9, 0)] [(0, 0)] m (RV (fun m1 => RRs X m1 (pNext X p w) ∧ Fr [90008, 90009, 90010, 90011, 90012, 90013, 96999] m m1 ∧ m1 198 9 = m 198 9))
                    refine gx_i0 (P := 0 = 0) r_116_163 (rfl) (fun h163 => ?_) (fun h163 => ?_)
                    · refine gx_st (L' := [(2, 192), (0, 1), (9, 0)]) (S' := [(2, 192)]) r_116_173 rfl rfl rfl ?_
                      refine gx_st (L' := [(2, 192), (0, 1), (9, 0)]) (S' := [(2, 1000001), (2, 192)]) r_116_174 rfl rfl rfl ?_
                      refine gx_ci (nx := 179) (S2 := []) (y_107g hT hx hG (q := 1) (by decide) rfl sl_1) r_116_176 rfl rfl rfl rfl rfl (rcv_v rfl (tk_192 hT) (by decide) rfl (by decide)) rfl (by decide) rfl (fun x176 n176 q176 => ?_)
                      obtain ⟨e_x176, -, g_n176, f_n176⟩ := q176.resolve_right (fun z => by rw [z.2.1] at w1; exact absurd w1 (by decide))
                      obtain rfl := e_x176.symm
                      show GX T 6 116 179 [(2, 192), (0, 1), (9, 0)] [(0, 1)] n176 (RV (fun m1 => RRs X m1 (pNext X p w) ∧ Fr [90008, 90009, 90010, 90011, 90012, 90013, 96999] m m1 ∧ m1 198 9 = m 198 9))
                      refine gx_i0 (P := 1 = 0) r_116_179 (rfl) (fun h179 => ?_) (fun h179 => ?_)
                      · omega
                      · refine gx_st (L' := [(2, 192), (0, 1), (9, 0)]) (S' := [(2, 192)]) r_116_182 rfl rfl rfl ?_
                        refine gx_st (L' := [(2, 192), (0, 1), (9, 0)]) (S' := [(0, 31), (2, 192)]) r_116_183 rfl rfl rfl ?_
                        refine gx_st (L' := [(2, 192), (0, 1), (9, 0)]) (S' := [(0, 5), (0, 31), (2, 192)]) r_116_185 rfl rfl rfl ?_
                        refine gx_st (L' := [(2, 192), (0, 1), (9, 0)]) (S' := [(2, 1000011), (0, 5), (0, 31), (2, 192)]) r_116_186 rfl rfl rfl ?_
                        refine gx_st (L' := [(2, 192), (0, 1), (9, 0)]) (S' := [(0, 0), (2, 1000011), (0, 5), (0, 31), (2, 192)]) r_116_188 rfl rfl rfl ?_
                        refine gx_st (L' := [(2, 192), (0, 1), (9, 0)]) (S' := [(0, 9), (0, 0), (2, 1000011), (0, 5), (0, 31), (2, 192)]) r_116_189 rfl rfl rfl ?_
                        refine gx_cv (nx := 194) (S2 := []) (y_115a hT hx (r := .ok (nE X p, w)) g_n176 (c := (w 5).toNat) (by rw [Fr_cell (o := 198) f_n176 (by decide) (by decide) 5, e5]; omega) (by omega)) r_116_191 rfl rfl rfl rfl rfl (rcv_v rfl (tk_192 hT) (by decide) rfl (by decide)) rfl (by decide) rfl (fun n191 q191 => ?_)
                        refine gx_st (L' := [(2, 192), (0, 1), (9, 0)]) (S' := []) r_116_194 rfl rfl rfl ?_
                        refine gx_rt r_116_275 rfl rfl ⟨rfl, ?_, Fr_tr (Fr_sub f_n176 (by decide)) q191.2.1, q191.2.2.trans (Fr_cell (o := 198) f_n176 (by decide) (by decide) 9)⟩
                        unfold pNext
                        rw [if_neg w0]
                        rw [if_pos w1, if_neg (by omega)]
                        exact q191.1
                    · omega
                  · exact absurd hg h153
                · have h130 := Decidable.not_not.mp h130
                  exact absurd h130 w4
              · have h110 := Decidable.not_not.mp h110
                exact absurd h110 w2
            · have h96 := Decidable.not_not.mp h96
              refine gx_st (L' := [(2, 192), (0, 1), (9, 0)]) (S' := [(2, 192)]) r_116_99 rfl rfl rfl ?_
              refine gx_st (L' := [(2, 192), (0, 1), (9, 0)]) (S' := [(0, 3), (2, 192)]) r_116_100 rfl rfl rfl ?_
              refine gx_cv (nx := 104) (S2 := []) (y_105g hT hx hG (k := 3) (by decide) (by decide)) r_116_101 rfl rfl rfl rfl rfl (rcv_v rfl (tk_192 hT) (by decide) rfl (by decide)) rfl (by decide) rfl (fun n101 q101 => ?_)
              have hb_n101 : ¬ n101 192 12 = 0 := by rw [q101.1.2.2.1]; exact q101.1.2.2.2.2
              refine gx_st (L' := [(2, 192), (0, 1), (9, 0)]) (S' := [(2, 192)]) r_116_104 rfl rfl rfl ?_
              refine gx_st (L' := [(2, 192), (0, 1), (9, 0)]) (S' := [(2, 1000002), (2, 192)]) r_116_105 rfl rfl rfl ?_
              refine gx_ci (nx := 110) (S2 := []) (y_106e hT q101.1 (q := 2) (by decide) rfl sl_2) r_116_107 rfl rfl rfl rfl rfl (rcv_v rfl (tk_192 hT) (by decide) rfl (by decide)) rfl (by decide) rfl (fun x107 n107 q107 => ?_)
              obtain rfl := q107.1.symm
              obtain rfl := q107.2.symm
              show GX T 6 116 110 [(2, 192), (0, 1), (9, 0)] [(0, 0)] n101 (RV (fun m1 => RRs X m1 (pNext X p w) ∧ Fr [90008, 90009, 90010, 90011, 90012, 90013, 96999] m m1 ∧ m1 198 9 = m 198 9))
              refine gx_i0 (P := 0 = 0) r_116_110 (rfl) (fun h110 => ?_) (fun h110 => ?_)
              · refine gx_st (L' := [(2, 192), (0, 1), (9, 0)]) (S' := [(2, 192)]) r_116_124 rfl rfl rfl ?_
                refine gx_st (L' := [(2, 192), (0, 1), (9, 0)]) (S' := [(2, 1000004), (2, 192)]) r_116_125 rfl rfl rfl ?_
                refine gx_ci (nx := 130) (S2 := []) (y_106e hT q101.1 (q := 4) (by decide) rfl sl_4) r_116_127 rfl rfl rfl rfl rfl (rcv_v rfl (tk_192 hT) (by decide) rfl (by decide)) rfl (by decide) rfl (fun x127 n127 q127 => ?_)
                obtain rfl := q127.1.symm
                obtain rfl := q127.2.symm
                show GX T 6 116 130 [(2, 192), (0, 1), (9, 0)] [(0, 0)] n101 (RV (fun m1 => RRs X m1 (pNext X p w) ∧ Fr [90008, 90009, 90010, 90011, 90012, 90013, 96999] m m1 ∧ m1 198 9 = m 198 9))
                refine gx_i0 (P := 0 = 0) r_116_130 (rfl) (fun h130 => ?_) (fun h130 => ?_)
                · refine gx_st (L' := [(2, 192), (0, 1), (9, 0)]) (S' := [(2, 192)]) r_116_149 rfl rfl rfl ?_
                  refine gx_ci (nx := 153) (S2 := []) (x_104 hT q101.1.1) r_116_150 rfl rfl rfl rfl rfl (rcv_v rfl (tk_192 hT) (by decide) rfl (by decide)) rfl (by decide) rfl (fun x150 n150 q150 => ?_)
                  obtain rfl := q150.1.symm
                  obtain rfl := q150.2.symm
                  show GX T 6 116 153 [(2, 192), (0, 1), (9, 0)] [(0, (if n101 192 12 = 0 then 1 else 0))] n101 (RV (fun m1 => RRs X m1 (pNext X p w) ∧ Fr [90008, 90009, 90010, 90011, 90012, 90013, 96999] m m1 ∧ m1 198 9 = m 198 9))
                  refine gx_i0 (P := n101 192 12 = 0) r_116_153 (b01_ne) (fun h153 => ?_) (fun h153 => ?_)
                  · exact absurd h153 hb_n101
                  · refine gx_rt r_116_156 rfl rfl ⟨rfl, ?_, Fr_sub q101.2 (by decide), Fr_cell (o := 198) q101.2 (by decide) (by decide) 9⟩
                    unfold pNext
                    rw [if_neg w0]
                    rw [if_pos w1, if_pos (by omega)]
                    exact q101.1
                · omega
              · omega
        · have h66 := Decidable.not_not.mp h66
          exact absurd h66 w0
      · have h52 := Decidable.not_not.mp h52
        omega
    · exact absurd w1 h15
theorem y_116_2 (hT : TT T) (hx : XOK X) {p : Nat} {w : Wd} (hG : RG X m p w) (w0 : ¬ isWd X p 0 = true) (w1 : ¬ isWd X p 1 = true) (w2 : isWd X p 2 = true) (w3 : ¬ isWd X p 3 = true) (w4 : ¬ isWd X p 4 = true) : GX T 6 116 0 [(2, 192), (9, 0), (9, 0)] [] m (RV (fun m1 => RRs X m1 (pNext X p w) ∧ Fr [90008, 90009, 90010, 90011, 90012, 90013, 96999] m m1 ∧ m1 198 9 = m 198 9)) := by
  have hg : m 192 12 = 0 := hG.2.2.1
  have hm := hG.1
  have e4 : m 198 4 = w 4 := hG.2.2.2.2.2.2.2.2 4 (by decide)
  have be4 := gb_198_4 hm
  rw [e4] at be4
  have e5 : m 198 5 = w 5 := hG.2.2.2.2.2.2.2.2 5 (by decide)
  have be5 := gb_198_5 hm
  rw [e5] at be5
  have e6 : m 198 6 = w 6 := hG.2.2.2.2.2.2.2.2 6 (by decide)
  have be6 := gb_198_6 hm
  rw [e6] at be6
  have e7 : m 198 7 = w 7 := hG.2.2.2.2.2.2.2.2 7 (by decide)
  have be7 := gb_198_7 hm
  rw [e7] at be7
  refine gx_st (L' := [(2, 192), (9, 0), (9, 0)]) (S' := [(2, 192)]) r_116_0 rfl rfl rfl ?_
  refine gx_st (L' := [(2, 192), (9, 0), (9, 0)]) (S' := [(2, 1000000), (2, 192)]) r_116_1 rfl rfl rfl ?_
  refine gx_ci (nx := 6) (S2 := []) (y_106g hT hx hG (q := 0) (by decide) rfl sl_0) r_116_3 rfl rfl rfl rfl rfl (rcv_v rfl (tk_192 hT) (by decide) rfl (by decide)) rfl (by decide) rfl (fun x3 n3 q3 => ?_)
  obtain rfl := q3.1.symm
  obtain rfl := q3.2.symm
  show GX T 6 116 6 [(2, 192), (9, 0), (9, 0)] [(0, (if isWd X p 0 = true then 1 else 0))] m (RV (fun m1 => RRs X m1 (pNext X p w) ∧ Fr [90008, 90009, 90010, 90011, 90012, 90013, 96999] m m1 ∧ m1 198 9 = m 198 9))
  refine gx_i0 (P := isWd X p 0 = true) r_116_6 (b01_ne) (fun h6 => ?_) (fun h6 => ?_)
  · exact absurd h6 w0
  · refine gx_st (L' := [(2, 192), (9, 0), (9, 0)]) (S' := [(2, 192)]) r_116_9 rfl rfl rfl ?_
    refine gx_st (L' := [(2, 192), (9, 0), (9, 0)]) (S' := [(2, 1000001), (2, 192)]) r_116_10 rfl rfl rfl ?_
    refine gx_ci (nx := 15) (S2 := []) (y_106g hT hx hG (q := 1) (by decide) rfl sl_1) r_116_12 rfl rfl rfl rfl rfl (rcv_v rfl (tk_192 hT) (by decide) rfl (by decide)) rfl (by decide) rfl (fun x12 n12 q12 => ?_)
    obtain rfl := q12.1.symm
    obtain rfl := q12.2.symm
    show GX T 6 116 15 [(2, 192), (9, 0), (9, 0)] [(0, (if isWd X p 1 = true then 1 else 0))] m (RV (fun m1 => RRs X m1 (pNext X p w) ∧ Fr [90008, 90009, 90010, 90011, 90012, 90013, 96999] m m1 ∧ m1 198 9 = m 198 9))
    refine gx_i0 (P := isWd X p 1 = true) r_116_15 (b01_ne) (fun h15 => ?_) (fun h15 => ?_)
    · exact absurd h15 w1
    · refine gx_st (L' := [(2, 192), (9, 0), (9, 0)]) (S' := [(2, 192)]) r_116_18 rfl rfl rfl ?_
      refine gx_st (L' := [(2, 192), (9, 0), (9, 0)]) (S' := [(2, 1000002), (2, 192)]) r_116_19 rfl rfl rfl ?_
      refine gx_ci (nx := 24) (S2 := []) (y_106g hT hx hG (q := 2) (by decide) rfl sl_2) r_116_21 rfl rfl rfl rfl rfl (rcv_v rfl (tk_192 hT) (by decide) rfl (by decide)) rfl (by decide) rfl (fun x21 n21 q21 => ?_)
      obtain rfl := q21.1.symm
      obtain rfl := q21.2.symm
      show GX T 6 116 24 [(2, 192), (9, 0), (9, 0)] [(0, (if isWd X p 2 = true then 1 else 0))] m (RV (fun m1 => RRs X m1 (pNext X p w) ∧ Fr [90008, 90009, 90010, 90011, 90012, 90013, 96999] m m1 ∧ m1 198 9 = m 198 9))
      refine gx_i0 (P := isWd X p 2 = true) r_116_24 (b01_ne) (fun h24 => ?_) (fun h24 => ?_)
      · refine gx_st (L' := [(2, 192), (9, 0), (9, 0)]) (S' := [(0, 1)]) r_116_45 rfl rfl rfl ?_
        refine gx_st (L' := [(2, 192), (9, 0), (9, 0)]) (S' := [(0, 1)]) r_116_46 rfl rfl rfl ?_
        refine gx_st (L' := [(2, 192), (0, 1), (9, 0)]) (S' := []) r_116_50 rfl rfl rfl ?_
        refine gx_st (L' := [(2, 192), (0, 1), (9, 0)]) (S' := [(0, 1)]) r_116_51 rfl rfl rfl ?_
        refine gx_i0 (P := ¬ 1 = 0) r_116_52 (rfl) (fun h52 => ?_) (fun h52 => ?_)
        · refine gx_st (L' := [(2, 192), (0, 1), (9, 0)]) (S' := [(2, 192)]) r_116_60 rfl rfl rfl ?_
          refine gx_st (L' := [(2, 192), (0, 1), (9, 0)]) (S' := [(2, 1000000), (2, 192)]) r_116_61 rfl rfl rfl ?_
          refine gx_ci (nx := 66) (S2 := []) (y_106g hT hx hG (q := 0) (by decide) rfl sl_0) r_116_63 rfl rfl rfl rfl rfl (rcv_v rfl (tk_192 hT) (by decide) rfl (by decide)) rfl (by decide) rfl (fun x63 n63 q63 => ?_)
          obtain rfl := q63.1.symm
          obtain rfl := q63.2.symm
          show GX T 6 116 66 [(2, 192), (0, 1), (9, 0)] [(0, (if isWd X p 0 = true then 1 else 0))] m (RV (fun m1 => RRs X m1 (pNext X p w) ∧ Fr [90008, 90009, 90010, 90011, 90012, 90013, 96999] m m1 ∧ m1 198 9 = m 198 9))
          refine gx_i0 (P := ¬ (isWd X p 0 = true)) r_116_66 (b01_eq) (fun h66 => ?_) (fun h66 => ?_)
          · refine gx_st (L' := [(2, 192), (0, 1), (9, 0)]) (S' := [(2, 192)]) r_116_80 rfl rfl rfl ?_
            refine gx_st (L' := [(2, 192), (0, 1), (9, 0)]) (S' := [(2, 1000001), (2, 192)]) r_116_81 rfl rfl rfl ?_
            refine gx_ci (nx := 86) (S2 := []) (y_106g hT hx hG (q := 1) (by decide) rfl sl_1) r_116_83 rfl rfl rfl rfl rfl (rcv_v rfl (tk_192 hT) (by decide) rfl (by decide)) rfl (by decide) rfl (fun x83 n83 q83 => ?_)
            obtain rfl := q83.1.symm
            obtain rfl := q83.2.symm
            show GX T 6 116 86 [(2, 192), (0, 1), (9, 0)] [(0, (if isWd X p 1 = true then 1 else 0))] m (RV (fun m1 => RRs X m1 (pNext X p w) ∧ Fr [90008, 90009, 90010, 90011, 90012, 90013, 96999] m m1 ∧ m1 198 9 = m 198 9))
            refine gx_i0 (P := ¬ (isWd X p 1 = true)) r_116_86 (b01_eq) (fun h86 => ?_) (fun h86 => ?_)
            · refine gx_st (L' := [(2, 192), (0, 1), (9, 0)]) (S' := [(2, 192)]) r_116_104 rfl rfl rfl ?_
              refine gx_st (L' := [(2, 192), (0, 1), (9, 0)]) (S' := [(2, 1000002), (2, 192)]) r_116_105 rfl rfl rfl ?_
              refine gx_ci (nx := 110) (S2 := []) (y_106g hT hx hG (q := 2) (by decide) rfl sl_2) r_116_107 rfl rfl rfl rfl rfl (rcv_v rfl (tk_192 hT) (by decide) rfl (by decide)) rfl (by decide) rfl (fun x107 n107 q107 => ?_)
              obtain rfl := q107.1.symm
              obtain rfl := q107.2.symm
              show GX T 6 116 110 [(2, 192), (0, 1), (9, 0)] [(0, (if isWd X p 2 = true then 1 else 0))] m (RV (fun m1 => RRs X m1 (pNext X p w) ∧ Fr [90008, 90009, 90010, 90011, 90012, 90013, 96999] m m1 ∧ m1 198 9 = m 198 9))
              refine gx_i0 (P := ¬ (isWd X p 2 = true)) r_116_110 (b01_eq) (fun h110 => ?_) (fun h110 => ?_)
              · exact absurd w2 h110
              · have h110 := Decidable.not_not.mp h110
                refine gx_st (L' := [(2, 192), (0, 1), (9, 0)]) (S' := [(2, 192)]) r_116_113 rfl rfl rfl ?_
                refine gx_gf (x := 198) 2 r_116_114 rfl (tk_192 hT) ⟨by decide, rfl, by decide, by decide⟩ rfl (fun _ => by decide) (pr_192_14 hm) ?_
                refine gx_st (L' := [(2, 192), (0, 1), (9, 0)]) (S' := [(0, 6), (2, 198)]) r_116_117 rfl rfl rfl ?_
                refine gx_ia (n := 6) (x := (w 6)) r_116_119 rfl (tk_198 hT) (rfl) ⟨rfl, by decide⟩ (e6) ?_
                refine gx_st (L' := [(2, 192), (0, 1), (9, 0)]) (S' := [(0, 3), (0, (w 6))]) r_116_120 rfl rfl rfl ?_
                refine gx_ic (P := (w 6) = 3) r_116_121 (rfl) (fun h121 => ?_) (fun h121 => ?_)
                · refine gx_st (L' := [(2, 192), (0, 1), (9, 0)]) (S' := [(2, 192)]) r_116_144 rfl rfl rfl ?_
                  refine gx_st (L' := [(2, 192), (0, 1), (9, 0)]) (S' := [(0, 3), (2, 192)]) r_116_145 rfl rfl rfl ?_
                  refine gx_cv (nx := 149) (S2 := []) (y_105g hT hx hG (k := 3) (by decide) (by decide)) r_116_146 rfl rfl rfl rfl rfl (rcv_v rfl (tk_192 hT) (by decide) rfl (by decide)) rfl (by decide) rfl (fun n146 q146 => ?_)
                  have hb_n146 : ¬ n146 192 12 = 0 := by rw [q146.1.2.2.1]; exact q146.1.2.2.2.2
                  refine gx_st (L' := [(2, 192), (0, 1), (9, 0)]) (S' := [(2, 192)]) r_116_149 rfl rfl rfl ?_
                  refine gx_ci (nx := 153) (S2 := []) (x_104 hT q146.1.1) r_116_150 rfl rfl rfl rfl rfl (rcv_v rfl (tk_192 hT) (by decide) rfl (by decide)) rfl (by decide) rfl (fun x150 n150 q150 => ?_)
                  obtain rfl := q150.1.symm
                  obtain rfl := q150.2.symm
                  show GX T 6 116 153 [(2, 192), (0, 1), (9, 0)] [(0, (if n146 192 12 = 0 then 1 else 0))] n146 (RV (fun m1 => RRs X m1 (pNext X p w) ∧ Fr [90008, 90009, 90010, 90011, 90012, 90013, 96999] m m1 ∧ m1 198 9 = m 198 9))
                  refine gx_i0 (P := n146 192 12 = 0) r_116_153 (b01_ne) (fun h153 => ?_) (fun h153 => ?_)
                  · exact absurd h153 hb_n146
                  · refine gx_rt r_116_156 rfl rfl ⟨rfl, ?_, Fr_sub q146.2 (by decide), Fr_cell (o := 198) q146.2 (by decide) (by decide) 9⟩
                    unfold pNext
                    rw [if_neg w0]
                    rw [if_neg w1]
                    rw [if_pos w2, if_pos (by omega)]
                    exact q146.1
                · refine gx_st (L' := [(2, 192), (0, 1), (9, 0)]) (S' := [(2, 192)]) r_116_124 rfl rfl rfl ?_
                  refine gx_st (L' := [(2, 192), (0, 1), (9, 0)]) (S' := [(2, 1000004), (2, 192)]) r_116_125 rfl rfl rfl ?_
                  refine gx_ci (nx := 130) (S2 := []) (y_106g hT hx hG (q := 4) (by decide) rfl sl_4) r_116_127 rfl rfl rfl rfl rfl (rcv_v rfl (tk_192 hT) (by decide) rfl (by decide)) rfl (by decide) rfl (fun x127 n127 q127 => ?_)
                  obtain rfl := q127.1.symm
                  obtain rfl := q127.2.symm
                  show GX T 6 116 130 [(2, 192), (0, 1), (9, 0)] [(0, (if isWd X p 4 = true then 1 else 0))] m (RV (fun m1 => RRs X m1 (pNext X p w) ∧ Fr [90008, 90009, 90010, 90011, 90012, 90013, 96999] m m1 ∧ m1 198 9 = m 198 9))
                  refine gx_i0 (P := ¬ (isWd X p 4 = true)) r_116_130 (b01_eq) (fun h130 => ?_) (fun h130 => ?_)
                  · refine gx_st (L' := [(2, 192), (0, 1), (9, 0)]) (S' := [(2, 192)]) r_116_149 rfl rfl rfl ?_
                    refine gx_ci (nx := 153) (S2 := []) (x_104 hT hm) r_116_150 rfl rfl rfl rfl rfl (rcv_v rfl (tk_192 hT) (by decide) rfl (by decide)) rfl (by decide) rfl (fun x150 n150 q150 => ?_)
                    obtain rfl := q150.1.symm
                    obtain rfl := q150.2.symm
                    show GX T 6 116 153 [(2, 192), (0, 1), (9, 0)] [(0, (if m 192 12 = 0 then 1 else 0))] m (RV (fun m1 => RRs X m1 (pNext X p w) ∧ Fr [90008, 90009, 90010, 90011, 90012, 90013, 96999] m m1 ∧ m1 198 9 = m 198 9))
                    refine gx_i0 (P := m 192 12 = 0) r_116_153 (b01_ne) (fun h153 => ?_) (fun h153 => ?_)
                    · refine gx_st (L' := [(2, 192), (0, 1), (9, 0)]) (S' := [(2, 192)]) r_116_157 rfl rfl rfl ?_
                      refine gx_st (L' := [(2, 192), (0, 1), (9, 0)]) (S' := [(2, 1000000), (2, 192)]) r_116_158 rfl rfl rfl ?_
                      refine gx_ci (nx := 163) (S2 := []) (y_107g hT hx hG (q := 0) (by decide) rfl sl_0) r_116_160 rfl rfl rfl rfl rfl (rcv_v rfl (tk_192 hT) (by decide) rfl (by decide)) rfl (by decide) rfl (fun x160 n160 q160 => ?_)
                      obtain ⟨e_x160, -, z_n160⟩ := q160.resolve_left (fun z => w0 z.2.1)
                      obtain rfl := e_x160.symm
                      obtain rfl := z_n160.symm
                      show GX T 6 116 163 [(2, 192), (0, 1), (9, 0)] [(0, 0)] m (RV (fun m1 => RRs X m1 (pNext X p w) ∧ Fr [90008, 90009, 90010, 90011, 90012, 90013, 96999] m m1 ∧ m1 198 9 = m 198 9))
                      refine gx_i0 (P := 0 = 0) r_116_163 (rfl) (fun h163 => ?_) (fun h163 => ?_)
                      · refine gx_st (L' := [(2, 192), (0, 1), (9, 0)]) (S' := [(2, 192)]) r_116_173 rfl rfl rfl ?_
                        refine gx_st (L' := [(2, 192), (0, 1), (9, 0)]) (S' := [(2, 1000001), (2, 192)]) r_116_174 rfl rfl rfl ?_
                        refine gx_ci (nx := 179) (S2 := []) (y_107g hT hx hG (q := 1) (by decide) rfl sl_1) r_116_176 rfl rfl rfl rfl rfl (rcv_v rfl (tk_192 hT) (by decide) rfl (by decide)) rfl (by decide) rfl (fun x176 n176 q176 => ?_)
                        obtain ⟨e_x176, -, z_n176⟩ := q176.resolve_left (fun z => w1 z.2.1)
                        obtain rfl := e_x176.symm
                        obtain rfl := z_n176.symm
                        show GX T 6 116 179 [(2, 192), (0, 1), (9, 0)] [(0, 0)] m (RV (fun m1 => RRs X m1 (pNext X p w) ∧ Fr [90008, 90009, 90010, 90011, 90012, 90013, 96999] m m1 ∧ m1 198 9 = m 198 9))
                        refine gx_i0 (P := 0 = 0) r_116_179 (rfl) (fun h179 => ?_) (fun h179 => ?_)
                        · refine gx_st (L' := [(2, 192), (0, 1), (9, 0)]) (S' := [(2, 192)]) r_116_197 rfl rfl rfl ?_
                          refine gx_st (L' := [(2, 192), (0, 1), (9, 0)]) (S' := [(2, 1000002), (2, 192)]) r_116_198 rfl rfl rfl ?_
                          refine gx_ci (nx := 203) (S2 := []) (y_107g hT hx hG (q := 2) (by decide) rfl sl_2) r_116_200 rfl rfl rfl rfl rfl (rcv_v rfl (tk_192 hT) (by decide) rfl (by decide)) rfl (by decide) rfl (fun x200 n200 q200 => ?_)
                          obtain ⟨e_x200, -, g_n200, f_n200⟩ := q200.resolve_right (fun z => by rw [z.2.1] at w2; exact absurd w2 (by decide))
                          obtain rfl := e_x200.symm
                          show GX T 6 116 203 [(2, 192), (0, 1), (9, 0)] [(0, 1)] n200 (RV (fun m1 => RRs X m1 (pNext X p w) ∧ Fr [90008, 90009, 90010, 90011, 90012, 90013, 96999] m m1 ∧ m1 198 9 = m 198 9))
                          refine gx_i0 (P := 1 = 0) r_116_203 (rfl) (fun h203 => ?_) (fun h203 => ?_)
                          · omega
                          · refine gx_st (L' := [(2, 192), (0, 1), (9, 0)]) (S' := [(2, 192)]) r_116_206 rfl rfl rfl ?_
                            refine gx_st (L' := [(2, 192), (0, 1), (9, 0)]) (S' := [(0, 41), (2, 192)]) r_116_207 rfl rfl rfl ?_
                            refine gx_st (L' := [(2, 192), (0, 1), (9, 0)]) (S' := [(0, 6), (0, 41), (2, 192)]) r_116_209 rfl rfl rfl ?_
                            refine gx_st (L' := [(2, 192), (0, 1), (9, 0)]) (S' := [(2, 1000012), (0, 6), (0, 41), (2, 192)]) r_116_211 rfl rfl rfl ?_
                            refine gx_st (L' := [(2, 192), (0, 1), (9, 0)]) (S' := [(0, 0), (2, 1000012), (0, 6), (0, 41), (2, 192)]) r_116_213 rfl rfl rfl ?_
                            refine gx_st (L' := [(2, 192), (0, 1), (9, 0)]) (S' := [(0, 12), (0, 0), (2, 1000012), (0, 6), (0, 41), (2, 192)]) r_116_214 rfl rfl rfl ?_
                            refine gx_cv (nx := 219) (S2 := []) (y_115b hT hx (r := .ok (nE X p, w)) g_n200 (c := (w 6).toNat) (by rw [Fr_cell (o := 198) f_n200 (by decide) (by decide) 6, e6]; omega) (by omega)) r_116_216 rfl rfl rfl rfl rfl (rcv_v rfl (tk_192 hT) (by decide) rfl (by decide)) rfl (by decide) rfl (fun n216 q216 => ?_)
                            refine gx_st (L' := [(2, 192), (0, 1), (9, 0)]) (S' := []) r_116_219 rfl rfl rfl ?_
                            refine gx_rt r_116_275 rfl rfl ⟨rfl, ?_, Fr_tr (Fr_sub f_n200 (by decide)) q216.2.1, q216.2.2.trans (Fr_cell (o := 198) f_n200 (by decide) (by decide) 9)⟩
                            unfold pNext
                            rw [if_neg w0]
                            rw [if_neg w1]
                            rw [if_pos w2, if_neg (by omega)]
                            exact q216.1
                        · omega
                      · omega
                    · exact absurd hg h153
                  · have h130 := Decidable.not_not.mp h130
                    exact absurd h130 w4
            · have h86 := Decidable.not_not.mp h86
              exact absurd h86 w1
          · have h66 := Decidable.not_not.mp h66
            exact absurd h66 w0
        · have h52 := Decidable.not_not.mp h52
          omega
      · exact absurd w2 h24
theorem y_116_3 (hT : TT T) (hx : XOK X) {p : Nat} {w : Wd} (hG : RG X m p w) (w0 : ¬ isWd X p 0 = true) (w1 : ¬ isWd X p 1 = true) (w2 : ¬ isWd X p 2 = true) (w3 : isWd X p 3 = true) (w4 : ¬ isWd X p 4 = true) : GX T 6 116 0 [(2, 192), (9, 0), (9, 0)] [] m (RV (fun m1 => RRs X m1 (pNext X p w) ∧ Fr [90008, 90009, 90010, 90011, 90012, 90013, 96999] m m1 ∧ m1 198 9 = m 198 9)) := by
  have hg : m 192 12 = 0 := hG.2.2.1
  have hm := hG.1
  have e4 : m 198 4 = w 4 := hG.2.2.2.2.2.2.2.2 4 (by decide)
  have be4 := gb_198_4 hm
  rw [e4] at be4
  have e5 : m 198 5 = w 5 := hG.2.2.2.2.2.2.2.2 5 (by decide)
  have be5 := gb_198_5 hm
  rw [e5] at be5
  have e6 : m 198 6 = w 6 := hG.2.2.2.2.2.2.2.2 6 (by decide)
  have be6 := gb_198_6 hm
  rw [e6] at be6
  have e7 : m 198 7 = w 7 := hG.2.2.2.2.2.2.2.2 7 (by decide)
  have be7 := gb_198_7 hm
  rw [e7] at be7
  refine gx_st (L' := [(2, 192), (9, 0), (9, 0)]) (S' := [(2, 192)]) r_116_0 rfl rfl rfl ?_
  refine gx_st (L' := [(2, 192), (9, 0), (9, 0)]) (S' := [(2, 1000000), (2, 192)]) r_116_1 rfl rfl rfl ?_
  refine gx_ci (nx := 6) (S2 := []) (y_106g hT hx hG (q := 0) (by decide) rfl sl_0) r_116_3 rfl rfl rfl rfl rfl (rcv_v rfl (tk_192 hT) (by decide) rfl (by decide)) rfl (by decide) rfl (fun x3 n3 q3 => ?_)
  obtain rfl := q3.1.symm
  obtain rfl := q3.2.symm
  show GX T 6 116 6 [(2, 192), (9, 0), (9, 0)] [(0, (if isWd X p 0 = true then 1 else 0))] m (RV (fun m1 => RRs X m1 (pNext X p w) ∧ Fr [90008, 90009, 90010, 90011, 90012, 90013, 96999] m m1 ∧ m1 198 9 = m 198 9))
  refine gx_i0 (P := isWd X p 0 = true) r_116_6 (b01_ne) (fun h6 => ?_) (fun h6 => ?_)
  · exact absurd h6 w0
  · refine gx_st (L' := [(2, 192), (9, 0), (9, 0)]) (S' := [(2, 192)]) r_116_9 rfl rfl rfl ?_
    refine gx_st (L' := [(2, 192), (9, 0), (9, 0)]) (S' := [(2, 1000001), (2, 192)]) r_116_10 rfl rfl rfl ?_
    refine gx_ci (nx := 15) (S2 := []) (y_106g hT hx hG (q := 1) (by decide) rfl sl_1) r_116_12 rfl rfl rfl rfl rfl (rcv_v rfl (tk_192 hT) (by decide) rfl (by decide)) rfl (by decide) rfl (fun x12 n12 q12 => ?_)
    obtain rfl := q12.1.symm
    obtain rfl := q12.2.symm
    show GX T 6 116 15 [(2, 192), (9, 0), (9, 0)] [(0, (if isWd X p 1 = true then 1 else 0))] m (RV (fun m1 => RRs X m1 (pNext X p w) ∧ Fr [90008, 90009, 90010, 90011, 90012, 90013, 96999] m m1 ∧ m1 198 9 = m 198 9))
    refine gx_i0 (P := isWd X p 1 = true) r_116_15 (b01_ne) (fun h15 => ?_) (fun h15 => ?_)
    · exact absurd h15 w1
    · refine gx_st (L' := [(2, 192), (9, 0), (9, 0)]) (S' := [(2, 192)]) r_116_18 rfl rfl rfl ?_
      refine gx_st (L' := [(2, 192), (9, 0), (9, 0)]) (S' := [(2, 1000002), (2, 192)]) r_116_19 rfl rfl rfl ?_
      refine gx_ci (nx := 24) (S2 := []) (y_106g hT hx hG (q := 2) (by decide) rfl sl_2) r_116_21 rfl rfl rfl rfl rfl (rcv_v rfl (tk_192 hT) (by decide) rfl (by decide)) rfl (by decide) rfl (fun x21 n21 q21 => ?_)
      obtain rfl := q21.1.symm
      obtain rfl := q21.2.symm
      show GX T 6 116 24 [(2, 192), (9, 0), (9, 0)] [(0, (if isWd X p 2 = true then 1 else 0))] m (RV (fun m1 => RRs X m1 (pNext X p w) ∧ Fr [90008, 90009, 90010, 90011, 90012, 90013, 96999] m m1 ∧ m1 198 9 = m 198 9))
      refine gx_i0 (P := isWd X p 2 = true) r_116_24 (b01_ne) (fun h24 => ?_) (fun h24 => ?_)
      · exact absurd h24 w2
      · refine gx_st (L' := [(2, 192), (9, 0), (9, 0)]) (S' := [(2, 192)]) r_116_27 rfl rfl rfl ?_
        refine gx_st (L' := [(2, 192), (9, 0), (9, 0)]) (S' := [(2, 1000003), (2, 192)]) r_116_28 rfl rfl rfl ?_
        refine gx_ci (nx := 33) (S2 := []) (y_106g hT hx hG (q := 3) (by decide) rfl sl_3) r_116_30 rfl rfl rfl rfl rfl (rcv_v rfl (tk_192 hT) (by decide) rfl (by decide)) rfl (by decide) rfl (fun x30 n30 q30 => ?_)
        obtain rfl := q30.1.symm
        obtain rfl := q30.2.symm
        show GX T 6 116 33 [(2, 192), (9, 0), (9, 0)] [(0, (if isWd X p 3 = true then 1 else 0))] m (RV (fun m1 => RRs X m1 (pNext X p w) ∧ Fr [90008, 90009, 90010, 90011, 90012, 90013, 96999] m m1 ∧ m1 198 9 = m 198 9))
        refine gx_i0 (P := isWd X p 3 = true) r_116_33 (b01_ne) (fun h33 => ?_) (fun h33 => ?_)
        · refine gx_st (L' := [(2, 192), (9, 0), (9, 0)]) (S' := [(0, 1)]) r_116_45 rfl rfl rfl ?_
          refine gx_st (L' := [(2, 192), (9, 0), (9, 0)]) (S' := [(0, 1)]) r_116_46 rfl rfl rfl ?_
          refine gx_st (L' := [(2, 192), (0, 1), (9, 0)]) (S' := []) r_116_50 rfl rfl rfl ?_
          refine gx_st (L' := [(2, 192), (0, 1), (9, 0)]) (S' := [(0, 1)]) r_116_51 rfl rfl rfl ?_
          refine gx_i0 (P := ¬ 1 = 0) r_116_52 (rfl) (fun h52 => ?_) (fun h52 => ?_)
          · refine gx_st (L' := [(2, 192), (0, 1), (9, 0)]) (S' := [(2, 192)]) r_116_60 rfl rfl rfl ?_
            refine gx_st (L' := [(2, 192), (0, 1), (9, 0)]) (S' := [(2, 1000000), (2, 192)]) r_116_61 rfl rfl rfl ?_
            refine gx_ci (nx := 66) (S2 := []) (y_106g hT hx hG (q := 0) (by decide) rfl sl_0) r_116_63 rfl rfl rfl rfl rfl (rcv_v rfl (tk_192 hT) (by decide) rfl (by decide)) rfl (by decide) rfl (fun x63 n63 q63 => ?_)
            obtain rfl := q63.1.symm
            obtain rfl := q63.2.symm
            show GX T 6 116 66 [(2, 192), (0, 1), (9, 0)] [(0, (if isWd X p 0 = true then 1 else 0))] m (RV (fun m1 => RRs X m1 (pNext X p w) ∧ Fr [90008, 90009, 90010, 90011, 90012, 90013, 96999] m m1 ∧ m1 198 9 = m 198 9))
            refine gx_i0 (P := ¬ (isWd X p 0 = true)) r_116_66 (b01_eq) (fun h66 => ?_) (fun h66 => ?_)
            · refine gx_st (L' := [(2, 192), (0, 1), (9, 0)]) (S' := [(2, 192)]) r_116_80 rfl rfl rfl ?_
              refine gx_st (L' := [(2, 192), (0, 1), (9, 0)]) (S' := [(2, 1000001), (2, 192)]) r_116_81 rfl rfl rfl ?_
              refine gx_ci (nx := 86) (S2 := []) (y_106g hT hx hG (q := 1) (by decide) rfl sl_1) r_116_83 rfl rfl rfl rfl rfl (rcv_v rfl (tk_192 hT) (by decide) rfl (by decide)) rfl (by decide) rfl (fun x83 n83 q83 => ?_)
              obtain rfl := q83.1.symm
              obtain rfl := q83.2.symm
              show GX T 6 116 86 [(2, 192), (0, 1), (9, 0)] [(0, (if isWd X p 1 = true then 1 else 0))] m (RV (fun m1 => RRs X m1 (pNext X p w) ∧ Fr [90008, 90009, 90010, 90011, 90012, 90013, 96999] m m1 ∧ m1 198 9 = m 198 9))
              refine gx_i0 (P := ¬ (isWd X p 1 = true)) r_116_86 (b01_eq) (fun h86 => ?_) (fun h86 => ?_)
              · refine gx_st (L' := [(2, 192), (0, 1), (9, 0)]) (S' := [(2, 192)]) r_116_104 rfl rfl rfl ?_
                refine gx_st (L' := [(2, 192), (0, 1), (9, 0)]) (S' := [(2, 1000002), (2, 192)]) r_116_105 rfl rfl rfl ?_
                refine gx_ci (nx := 110) (S2 := []) (y_106g hT hx hG (q := 2) (by decide) rfl sl_2) r_116_107 rfl rfl rfl rfl rfl (rcv_v rfl (tk_192 hT) (by decide) rfl (by decide)) rfl (by decide) rfl (fun x107 n107 q107 => ?_)
                obtain rfl := q107.1.symm
                obtain rfl := q107.2.symm
                show GX T 6 116 110 [(2, 192), (0, 1), (9, 0)] [(0, (if isWd X p 2 = true then 1 else 0))] m (RV (fun m1 => RRs X m1 (pNext X p w) ∧ Fr [90008, 90009, 90010, 90011, 90012, 90013, 96999] m m1 ∧ m1 198 9 = m 198 9))
                refine gx_i0 (P := ¬ (isWd X p 2 = true)) r_116_110 (b01_eq) (fun h110 => ?_) (fun h110 => ?_)
                · refine gx_st (L' := [(2, 192), (0, 1), (9, 0)]) (S' := [(2, 192)]) r_116_124 rfl rfl rfl ?_
                  refine gx_st (L' := [(2, 192), (0, 1), (9, 0)]) (S' := [(2, 1000004), (2, 192)]) r_116_125 rfl rfl rfl ?_
                  refine gx_ci (nx := 130) (S2 := []) (y_106g hT hx hG (q := 4) (by decide) rfl sl_4) r_116_127 rfl rfl rfl rfl rfl (rcv_v rfl (tk_192 hT) (by decide) rfl (by decide)) rfl (by decide) rfl (fun x127 n127 q127 => ?_)
                  obtain rfl := q127.1.symm
                  obtain rfl := q127.2.symm
                  show GX T 6 116 130 [(2, 192), (0, 1), (9, 0)] [(0, (if isWd X p 4 = true then 1 else 0))] m (RV (fun m1 => RRs X m1 (pNext X p w) ∧ Fr [90008, 90009, 90010, 90011, 90012, 90013, 96999] m m1 ∧ m1 198 9 = m 198 9))
                  refine gx_i0 (P := ¬ (isWd X p 4 = true)) r_116_130 (b01_eq) (fun h130 => ?_) (fun h130 => ?_)
                  · refine gx_st (L' := [(2, 192), (0, 1), (9, 0)]) (S' := [(2, 192)]) r_116_149 rfl rfl rfl ?_
                    refine gx_ci (nx := 153) (S2 := []) (x_104 hT hm) r_116_150 rfl rfl rfl rfl rfl (rcv_v rfl (tk_192 hT) (by decide) rfl (by decide)) rfl (by decide) rfl (fun x150 n150 q150 => ?_)
                    obtain rfl := q150.1.symm
                    obtain rfl := q150.2.symm
                    show GX T 6 116 153 [(2, 192), (0, 1), (9, 0)] [(0, (if m 192 12 = 0 then 1 else 0))] m (RV (fun m1 => RRs X m1 (pNext X p w) ∧ Fr [90008, 90009, 90010, 90011, 90012, 90013, 96999] m m1 ∧ m1 198 9 = m 198 9))
                    refine gx_i0 (P := m 192 12 = 0) r_116_153 (b01_ne) (fun h153 => ?_) (fun h153 => ?_)
                    · refine gx_st (L' := [(2, 192), (0, 1), (9, 0)]) (S' := [(2, 192)]) r_116_157 rfl rfl rfl ?_
                      refine gx_st (L' := [(2, 192), (0, 1), (9, 0)]) (S' := [(2, 1000000), (2, 192)]) r_116_158 rfl rfl rfl ?_
                      refine gx_ci (nx := 163) (S2 := []) (y_107g hT hx hG (q := 0) (by decide) rfl sl_0) r_116_160 rfl rfl rfl rfl rfl (rcv_v rfl (tk_192 hT) (by decide) rfl (by decide)) rfl (by decide) rfl (fun x160 n160 q160 => ?_)
                      obtain ⟨e_x160, -, z_n160⟩ := q160.resolve_left (fun z => w0 z.2.1)
                      obtain rfl := e_x160.symm
                      obtain rfl := z_n160.symm
                      show GX T 6 116 163 [(2, 192), (0, 1), (9, 0)] [(0, 0)] m (RV (fun m1 => RRs X m1 (pNext X p w) ∧ Fr [90008, 90009, 90010, 90011, 90012, 90013, 96999] m m1 ∧ m1 198 9 = m 198 9))
                      refine gx_i0 (P := 0 = 0) r_116_163 (rfl) (fun h163 => ?_) (fun h163 => ?_)
                      · refine gx_st (L' := [(2, 192), (0, 1), (9, 0)]) (S' := [(2, 192)]) r_116_173 rfl rfl rfl ?_
                        refine gx_st (L' := [(2, 192), (0, 1), (9, 0)]) (S' := [(2, 1000001), (2, 192)]) r_116_174 rfl rfl rfl ?_
                        refine gx_ci (nx := 179) (S2 := []) (y_107g hT hx hG (q := 1) (by decide) rfl sl_1) r_116_176 rfl rfl rfl rfl rfl (rcv_v rfl (tk_192 hT) (by decide) rfl (by decide)) rfl (by decide) rfl (fun x176 n176 q176 => ?_)
                        obtain ⟨e_x176, -, z_n176⟩ := q176.resolve_left (fun z => w1 z.2.1)
                        obtain rfl := e_x176.symm
                        obtain rfl := z_n176.symm
                        show GX T 6 116 179 [(2, 192), (0, 1), (9, 0)] [(0, 0)] m (RV (fun m1 => RRs X m1 (pNext X p w) ∧ Fr [90008, 90009, 90010, 90011, 90012, 90013, 96999] m m1 ∧ m1 198 9 = m 198 9))
                        refine gx_i0 (P := 0 = 0) r_116_179 (rfl) (fun h179 => ?_) (fun h179 => ?_)
                        · refine gx_st (L' := [(2, 192), (0, 1), (9, 0)]) (S' := [(2, 192)]) r_116_197 rfl rfl rfl ?_
                          refine gx_st (L' := [(2, 192), (0, 1), (9, 0)]) (S' := [(2, 1000002), (2, 192)]) r_116_198 rfl rfl rfl ?_
                          refine gx_ci (nx := 203) (S2 := []) (y_107g hT hx hG (q := 2) (by decide) rfl sl_2) r_116_200 rfl rfl rfl rfl rfl (rcv_v rfl (tk_192 hT) (by decide) rfl (by decide)) rfl (by decide) rfl (fun x200 n200 q200 => ?_)
                          obtain ⟨e_x200, -, z_n200⟩ := q200.resolve_left (fun z => w2 z.2.1)
                          obtain rfl := e_x200.symm
                          obtain rfl := z_n200.symm
                          show GX T 6 116 203 [(2, 192), (0, 1), (9, 0)] [(0, 0)] m (RV (fun m1 => RRs X m1 (pNext X p w) ∧ Fr [90008, 90009, 90010, 90011, 90012, 90013, 96999] m m1 ∧ m1 198 9 = m 198 9))
                          refine gx_i0 (P := 0 = 0) r_116_203 (rfl) (fun h203 => ?_) (fun h203 => ?_)
                          · refine gx_st (L' := [(2, 192), (0, 1), (9, 0)]) (S' := [(2, 192)]) r_116_222 rfl rfl rfl ?_
                            refine gx_st (L' := [(2, 192), (0, 1), (9, 0)]) (S' := [(2, 1000004), (2, 192)]) r_116_223 rfl rfl rfl ?_
                            refine gx_ci (nx := 228) (S2 := []) (y_107g hT hx hG (q := 4) (by decide) rfl sl_4) r_116_225 rfl rfl rfl rfl rfl (rcv_v rfl (tk_192 hT) (by decide) rfl (by decide)) rfl (by decide) rfl (fun x225 n225 q225 => ?_)
                            obtain ⟨e_x225, -, z_n225⟩ := q225.resolve_left (fun z => w4 z.2.1)
                            obtain rfl := e_x225.symm
                            obtain rfl := z_n225.symm
                            show GX T 6 116 228 [(2, 192), (0, 1), (9, 0)] [(0, 0)] m (RV (fun m1 => RRs X m1 (pNext X p w) ∧ Fr [90008, 90009, 90010, 90011, 90012, 90013, 96999] m m1 ∧ m1 198 9 = m 198 9))
                            refine gx_i0 (P := 0 = 0) r_116_228 (rfl) (fun h228 => ?_) (fun h228 => ?_)
                            · refine gx_st (L' := [(2, 192), (0, 1), (9, 0)]) (S' := [(2, 192)]) r_116_247 rfl rfl rfl ?_
                              refine gx_cv (nx := 251) (S2 := []) (y_103 hT hm hG.2.1 hx hG.2.2.2.2.2.1) r_116_248 rfl rfl rfl rfl rfl (rcv_v rfl (tk_192 hT) (by decide) rfl (by decide)) rfl (by decide) rfl (fun n248 q248 => ?_)
                              have r0 : RRs X n248 (.ok (nE X p, w)) := RG_av hG q248
                              have k9_n248 : n248 198 9 = m 198 9 := (Fr_cell (o := 198) q248.2.2.1 (by decide) (by decide) 9).trans rfl
                              have f_n248 : Fr [90008, 90009, 90010, 90011, 90012, 90013, 96999] m n248 := Fr_tr Fr_rf (Fr_sub q248.2.2.1 (by decide))
                              refine gx_st (L' := [(2, 192), (0, 1), (9, 0)]) (S' := [(2, 192)]) r_116_251 rfl rfl rfl ?_
                              refine gx_st (L' := [(2, 192), (0, 1), (9, 0)]) (S' := [(2, 1000014), (2, 192)]) r_116_252 rfl rfl rfl ?_
                              refine gx_cv (nx := 257) (S2 := []) (y_108 hT hx r0 (q := 14) (by decide) rfl sl_14) r_116_254 rfl rfl rfl rfl rfl (rcv_v rfl (tk_192 hT) (by decide) rfl (by decide)) rfl (by decide) rfl (fun n254 q254 => ?_)
                              have k9_n254 : n254 198 9 = m 198 9 := (Fr_cell (o := 198) q254.2 (by decide) (by decide) 9).trans k9_n248
                              have f_n254 : Fr [90008, 90009, 90010, 90011, 90012, 90013, 96999] m n254 := Fr_tr f_n248 (Fr_sub q254.2 (by decide))
                              refine gx_st (L' := [(2, 192), (0, 1), (9, 0)]) (S' := [(2, 192)]) r_116_257 rfl rfl rfl ?_
                              refine gx_ci (nx := 261) (S2 := []) (y_112 hT hx q254.1) r_116_258 rfl rfl rfl rfl rfl (rcv_v rfl (tk_192 hT) (by decide) rfl (by decide)) rfl (by decide) rfl (fun x258 n258 q258 => ?_)
                              show GX T 6 116 261 [(2, 192), (0, 1), (9, 0)] [(0, x258)] n258 (RV (fun m1 => RRs X m1 (pNext X p w) ∧ Fr [90008, 90009, 90010, 90011, 90012, 90013, 96999] m m1 ∧ m1 198 9 = m 198 9))
                              have k9_n258 : n258 198 9 = m 198 9 := (Fr_cell (o := 198) q258.2 (by decide) (by decide) 9).trans k9_n254
                              have f_n258 : Fr [90008, 90009, 90010, 90011, 90012, 90013, 96999] m n258 := Fr_tr f_n254 (Fr_sub q258.2 (by decide))
                              have b_x258 := RU_pl q258.1 (RR_fr0 q254.1)
                              refine gx_st (L' := [(2, 192), (0, 1), (0, x258)]) (S' := []) r_116_261 rfl rfl rfl ?_
                              refine gx_st (L' := [(2, 192), (0, 1), (0, x258)]) (S' := [(2, 192)]) r_116_262 rfl rfl rfl ?_
                              refine gx_gf (x := 198) 2 r_116_263 rfl (tk_192 hT) ⟨by decide, rfl, by decide, by decide⟩ rfl (fun _ => by decide) (pr_192_14 (RU_g q258.1)) ?_
                              refine gx_st (L' := [(2, 192), (0, 1), (0, x258)]) (S' := [(0, 10), (2, 198)]) r_116_266 rfl rfl rfl ?_
                              refine gx_st (L' := [(2, 192), (0, 1), (0, x258)]) (S' := [(0, 10), (2, 198), (0, 10), (2, 198)]) r_116_268 rfl rfl rfl ?_
                              obtain ⟨x269, e_x269⟩ : ∃ z, z = n258 198 (10) := ⟨_, rfl⟩
                              have b_x269 := gb_198_10 (RU_g q258.1)
                              rw [← e_x269] at b_x269
                              refine gx_ia (n := 10) (x := x269) r_116_269 rfl (tk_198 hT) (rfl) ⟨rfl, by decide⟩ (e_x269.symm) ?_
                              refine gx_st (L' := [(2, 192), (0, 1), (0, x258)]) (S' := [(0, 1), (0, x269), (0, 10), (2, 198)]) r_116_270 rfl rfl rfl ?_
                              refine gx_st (L' := [(2, 192), (0, 1), (0, x258)]) (S' := [(0, x258), (0, 1), (0, x269), (0, 10), (2, 198)]) r_116_271 rfl rfl rfl ?_
                              refine gx_st (L' := [(2, 192), (0, 1), (0, x258)]) (S' := [(0, (ishl 1 x258)), (0, x269), (0, 10), (2, 198)]) r_116_272 rfl rfl rfl ?_
                              have b273 : -2147483648 ≤ (ishl 1 x258) ∧ (ishl 1 x258) ≤ 2147483647 := i32_in _
                              refine gx_st (L' := [(2, 192), (0, 1), (0, x258)]) (S' := [(0, (ior x269 (ishl 1 x258))), (0, 10), (2, 198)]) r_116_273 rfl rfl rfl ?_
                              have b274 : -2147483648 ≤ (ior x269 (ishl 1 x258)) ∧ (ior x269 (ishl 1 x258)) ≤ 2147483647 := i32_in _
                              obtain ⟨m1, e_m1⟩ : ∃ z, z = nu_up n258 198 (10) ((ior x269 (ishl 1 x258))) := ⟨_, rfl⟩
                              have h_m1 : Gam m1 := by rw [e_m1]; exact gu_198_10 (RU_g q258.1) (by omega) (by omega)
                              refine gx_is (n := 10) (x := (ior x269 (ishl 1 x258))) r_116_274 rfl (by decide) (tk_198 hT) (rfl) ⟨rfl, by decide⟩ e_m1.symm ?_
                              have f9 : Fr [90008, 90009, 90010, 90011, 90012, 90013, 96999] m m1 := Fr_tr f_n258 (by rw [e_m1]; exact Fr_ua rfl rfl)
                              have k9 : m1 198 9 = m 198 9 := by rw [e_m1, nu_ne (by decide)]; exact k9_n258
                              have fin : RRs X m1 (pBrook X (.ok (nE X p, w))) := by
                                unfold pBrook
                                have ru := q258.1
                                revert ru
                                generalize pPl X (pNeed X 14 (.ok (nE X p, w))) = r2
                                intro ru
                                cases r2 with
                                | error e =>
                                  have z := RR_up (X := X) (r := .error e) (i := 10) (x := (ior x269 (ishl 1 x258))) ru.2 (by rw [← e_m1]; exact h_m1)
                                  rw [← e_m1] at z
                                  exact z
                                | ok g =>
                                  have z := RR_up (X := X) (r := .ok (g.2.1, g.2.2)) (i := 10) (x := (ior x269 (ishl 1 x258))) ru.2 (by rw [← e_m1]; exact h_m1)
                                  rw [← e_m1] at z
                                  have e1 : x269 = g.2.2 10 := e_x269.trans (ru.2.2.2.2.2.2.2.2.2 10 (by decide))
                                  have e2 : x258 = g.1 := ru.1
                                  rw [e1, e2] at z
                                  exact z
                              refine gx_rt r_116_275 rfl rfl ⟨rfl, ?_, f9, k9⟩
                              unfold pNext
                              rw [if_neg w0]
                              rw [if_neg w1]
                              rw [if_neg w2]
                              rw [if_neg w4]
                              rw [if_pos w3]
                              exact fin
                            · omega
                          · omega
                        · omega
                      · omega
                    · exact absurd hg h153
                  · have h130 := Decidable.not_not.mp h130
                    exact absurd h130 w4
                · have h110 := Decidable.not_not.mp h110
                  exact absurd h110 w2
              · have h86 := Decidable.not_not.mp h86
                exact absurd h86 w1
            · have h66 := Decidable.not_not.mp h66
              exact absurd h66 w0
          · have h52 := Decidable.not_not.mp h52
            omega
        · exact absurd w3 h33
theorem y_116_4 (hT : TT T) (hx : XOK X) {p : Nat} {w : Wd} (hG : RG X m p w) (w0 : ¬ isWd X p 0 = true) (w1 : ¬ isWd X p 1 = true) (w2 : ¬ isWd X p 2 = true) (w3 : ¬ isWd X p 3 = true) (w4 : isWd X p 4 = true) : GX T 6 116 0 [(2, 192), (9, 0), (9, 0)] [] m (RV (fun m1 => RRs X m1 (pNext X p w) ∧ Fr [90008, 90009, 90010, 90011, 90012, 90013, 96999] m m1 ∧ m1 198 9 = m 198 9)) := by
  have hg : m 192 12 = 0 := hG.2.2.1
  have hm := hG.1
  have e4 : m 198 4 = w 4 := hG.2.2.2.2.2.2.2.2 4 (by decide)
  have be4 := gb_198_4 hm
  rw [e4] at be4
  have e5 : m 198 5 = w 5 := hG.2.2.2.2.2.2.2.2 5 (by decide)
  have be5 := gb_198_5 hm
  rw [e5] at be5
  have e6 : m 198 6 = w 6 := hG.2.2.2.2.2.2.2.2 6 (by decide)
  have be6 := gb_198_6 hm
  rw [e6] at be6
  have e7 : m 198 7 = w 7 := hG.2.2.2.2.2.2.2.2 7 (by decide)
  have be7 := gb_198_7 hm
  rw [e7] at be7
  refine gx_st (L' := [(2, 192), (9, 0), (9, 0)]) (S' := [(2, 192)]) r_116_0 rfl rfl rfl ?_
  refine gx_st (L' := [(2, 192), (9, 0), (9, 0)]) (S' := [(2, 1000000), (2, 192)]) r_116_1 rfl rfl rfl ?_
  refine gx_ci (nx := 6) (S2 := []) (y_106g hT hx hG (q := 0) (by decide) rfl sl_0) r_116_3 rfl rfl rfl rfl rfl (rcv_v rfl (tk_192 hT) (by decide) rfl (by decide)) rfl (by decide) rfl (fun x3 n3 q3 => ?_)
  obtain rfl := q3.1.symm
  obtain rfl := q3.2.symm
  show GX T 6 116 6 [(2, 192), (9, 0), (9, 0)] [(0, (if isWd X p 0 = true then 1 else 0))] m (RV (fun m1 => RRs X m1 (pNext X p w) ∧ Fr [90008, 90009, 90010, 90011, 90012, 90013, 96999] m m1 ∧ m1 198 9 = m 198 9))
  refine gx_i0 (P := isWd X p 0 = true) r_116_6 (b01_ne) (fun h6 => ?_) (fun h6 => ?_)
  · exact absurd h6 w0
  · refine gx_st (L' := [(2, 192), (9, 0), (9, 0)]) (S' := [(2, 192)]) r_116_9 rfl rfl rfl ?_
    refine gx_st (L' := [(2, 192), (9, 0), (9, 0)]) (S' := [(2, 1000001), (2, 192)]) r_116_10 rfl rfl rfl ?_
    refine gx_ci (nx := 15) (S2 := []) (y_106g hT hx hG (q := 1) (by decide) rfl sl_1) r_116_12 rfl rfl rfl rfl rfl (rcv_v rfl (tk_192 hT) (by decide) rfl (by decide)) rfl (by decide) rfl (fun x12 n12 q12 => ?_)
    obtain rfl := q12.1.symm
    obtain rfl := q12.2.symm
    show GX T 6 116 15 [(2, 192), (9, 0), (9, 0)] [(0, (if isWd X p 1 = true then 1 else 0))] m (RV (fun m1 => RRs X m1 (pNext X p w) ∧ Fr [90008, 90009, 90010, 90011, 90012, 90013, 96999] m m1 ∧ m1 198 9 = m 198 9))
    refine gx_i0 (P := isWd X p 1 = true) r_116_15 (b01_ne) (fun h15 => ?_) (fun h15 => ?_)
    · exact absurd h15 w1
    · refine gx_st (L' := [(2, 192), (9, 0), (9, 0)]) (S' := [(2, 192)]) r_116_18 rfl rfl rfl ?_
      refine gx_st (L' := [(2, 192), (9, 0), (9, 0)]) (S' := [(2, 1000002), (2, 192)]) r_116_19 rfl rfl rfl ?_
      refine gx_ci (nx := 24) (S2 := []) (y_106g hT hx hG (q := 2) (by decide) rfl sl_2) r_116_21 rfl rfl rfl rfl rfl (rcv_v rfl (tk_192 hT) (by decide) rfl (by decide)) rfl (by decide) rfl (fun x21 n21 q21 => ?_)
      obtain rfl := q21.1.symm
      obtain rfl := q21.2.symm
      show GX T 6 116 24 [(2, 192), (9, 0), (9, 0)] [(0, (if isWd X p 2 = true then 1 else 0))] m (RV (fun m1 => RRs X m1 (pNext X p w) ∧ Fr [90008, 90009, 90010, 90011, 90012, 90013, 96999] m m1 ∧ m1 198 9 = m 198 9))
      refine gx_i0 (P := isWd X p 2 = true) r_116_24 (b01_ne) (fun h24 => ?_) (fun h24 => ?_)
      · exact absurd h24 w2
      · refine gx_st (L' := [(2, 192), (9, 0), (9, 0)]) (S' := [(2, 192)]) r_116_27 rfl rfl rfl ?_
        refine gx_st (L' := [(2, 192), (9, 0), (9, 0)]) (S' := [(2, 1000003), (2, 192)]) r_116_28 rfl rfl rfl ?_
        refine gx_ci (nx := 33) (S2 := []) (y_106g hT hx hG (q := 3) (by decide) rfl sl_3) r_116_30 rfl rfl rfl rfl rfl (rcv_v rfl (tk_192 hT) (by decide) rfl (by decide)) rfl (by decide) rfl (fun x30 n30 q30 => ?_)
        obtain rfl := q30.1.symm
        obtain rfl := q30.2.symm
        show GX T 6 116 33 [(2, 192), (9, 0), (9, 0)] [(0, (if isWd X p 3 = true then 1 else 0))] m (RV (fun m1 => RRs X m1 (pNext X p w) ∧ Fr [90008, 90009, 90010, 90011, 90012, 90013, 96999] m m1 ∧ m1 198 9 = m 198 9))
        refine gx_i0 (P := isWd X p 3 = true) r_116_33 (b01_ne) (fun h33 => ?_) (fun h33 => ?_)
        · exact absurd h33 w3
        · refine gx_st (L' := [(2, 192), (9, 0), (9, 0)]) (S' := [(2, 192)]) r_116_36 rfl rfl rfl ?_
          refine gx_st (L' := [(2, 192), (9, 0), (9, 0)]) (S' := [(2, 1000004), (2, 192)]) r_116_37 rfl rfl rfl ?_
          refine gx_ci (nx := 42) (S2 := []) (y_106g hT hx hG (q := 4) (by decide) rfl sl_4) r_116_39 rfl rfl rfl rfl rfl (rcv_v rfl (tk_192 hT) (by decide) rfl (by decide)) rfl (by decide) rfl (fun x39 n39 q39 => ?_)
          obtain rfl := q39.1.symm
          obtain rfl := q39.2.symm
          show GX T 6 116 42 [(2, 192), (9, 0), (9, 0)] [(0, (if isWd X p 4 = true then 1 else 0))] m (RV (fun m1 => RRs X m1 (pNext X p w) ∧ Fr [90008, 90009, 90010, 90011, 90012, 90013, 96999] m m1 ∧ m1 198 9 = m 198 9))
          refine gx_i0 (P := ¬ (isWd X p 4 = true)) r_116_42 (b01_eq) (fun h42 => ?_) (fun h42 => ?_)
          · exact absurd w4 h42
          · have h42 := Decidable.not_not.mp h42
            refine gx_st (L' := [(2, 192), (9, 0), (9, 0)]) (S' := [(0, 1)]) r_116_45 rfl rfl rfl ?_
            refine gx_st (L' := [(2, 192), (9, 0), (9, 0)]) (S' := [(0, 1)]) r_116_46 rfl rfl rfl ?_
            refine gx_st (L' := [(2, 192), (0, 1), (9, 0)]) (S' := []) r_116_50 rfl rfl rfl ?_
            refine gx_st (L' := [(2, 192), (0, 1), (9, 0)]) (S' := [(0, 1)]) r_116_51 rfl rfl rfl ?_
            refine gx_i0 (P := ¬ 1 = 0) r_116_52 (rfl) (fun h52 => ?_) (fun h52 => ?_)
            · refine gx_st (L' := [(2, 192), (0, 1), (9, 0)]) (S' := [(2, 192)]) r_116_60 rfl rfl rfl ?_
              refine gx_st (L' := [(2, 192), (0, 1), (9, 0)]) (S' := [(2, 1000000), (2, 192)]) r_116_61 rfl rfl rfl ?_
              refine gx_ci (nx := 66) (S2 := []) (y_106g hT hx hG (q := 0) (by decide) rfl sl_0) r_116_63 rfl rfl rfl rfl rfl (rcv_v rfl (tk_192 hT) (by decide) rfl (by decide)) rfl (by decide) rfl (fun x63 n63 q63 => ?_)
              obtain rfl := q63.1.symm
              obtain rfl := q63.2.symm
              show GX T 6 116 66 [(2, 192), (0, 1), (9, 0)] [(0, (if isWd X p 0 = true then 1 else 0))] m (RV (fun m1 => RRs X m1 (pNext X p w) ∧ Fr [90008, 90009, 90010, 90011, 90012, 90013, 96999] m m1 ∧ m1 198 9 = m 198 9))
              refine gx_i0 (P := ¬ (isWd X p 0 = true)) r_116_66 (b01_eq) (fun h66 => ?_) (fun h66 => ?_)
              · refine gx_st (L' := [(2, 192), (0, 1), (9, 0)]) (S' := [(2, 192)]) r_116_80 rfl rfl rfl ?_
                refine gx_st (L' := [(2, 192), (0, 1), (9, 0)]) (S' := [(2, 1000001), (2, 192)]) r_116_81 rfl rfl rfl ?_
                refine gx_ci (nx := 86) (S2 := []) (y_106g hT hx hG (q := 1) (by decide) rfl sl_1) r_116_83 rfl rfl rfl rfl rfl (rcv_v rfl (tk_192 hT) (by decide) rfl (by decide)) rfl (by decide) rfl (fun x83 n83 q83 => ?_)
                obtain rfl := q83.1.symm
                obtain rfl := q83.2.symm
                show GX T 6 116 86 [(2, 192), (0, 1), (9, 0)] [(0, (if isWd X p 1 = true then 1 else 0))] m (RV (fun m1 => RRs X m1 (pNext X p w) ∧ Fr [90008, 90009, 90010, 90011, 90012, 90013, 96999] m m1 ∧ m1 198 9 = m 198 9))
                refine gx_i0 (P := ¬ (isWd X p 1 = true)) r_116_86 (b01_eq) (fun h86 => ?_) (fun h86 => ?_)
                · refine gx_st (L' := [(2, 192), (0, 1), (9, 0)]) (S' := [(2, 192)]) r_116_104 rfl rfl rfl ?_
                  refine gx_st (L' := [(2, 192), (0, 1), (9, 0)]) (S' := [(2, 1000002), (2, 192)]) r_116_105 rfl rfl rfl ?_
                  refine gx_ci (nx := 110) (S2 := []) (y_106g hT hx hG (q := 2) (by decide) rfl sl_2) r_116_107 rfl rfl rfl rfl rfl (rcv_v rfl (tk_192 hT) (by decide) rfl (by decide)) rfl (by decide) rfl (fun x107 n107 q107 => ?_)
                  obtain rfl := q107.1.symm
                  obtain rfl := q107.2.symm
                  show GX T 6 116 110 [(2, 192), (0, 1), (9, 0)] [(0, (if isWd X p 2 = true then 1 else 0))] m (RV (fun m1 => RRs X m1 (pNext X p w) ∧ Fr [90008, 90009, 90010, 90011, 90012, 90013, 96999] m m1 ∧ m1 198 9 = m 198 9))
                  refine gx_i0 (P := ¬ (isWd X p 2 = true)) r_116_110 (b01_eq) (fun h110 => ?_) (fun h110 => ?_)
                  · refine gx_st (L' := [(2, 192), (0, 1), (9, 0)]) (S' := [(2, 192)]) r_116_124 rfl rfl rfl ?_
                    refine gx_st (L' := [(2, 192), (0, 1), (9, 0)]) (S' := [(2, 1000004), (2, 192)]) r_116_125 rfl rfl rfl ?_
                    refine gx_ci (nx := 130) (S2 := []) (y_106g hT hx hG (q := 4) (by decide) rfl sl_4) r_116_127 rfl rfl rfl rfl rfl (rcv_v rfl (tk_192 hT) (by decide) rfl (by decide)) rfl (by decide) rfl (fun x127 n127 q127 => ?_)
                    obtain rfl := q127.1.symm
                    obtain rfl := q127.2.symm
                    show GX T 6 116 130 [(2, 192), (0, 1), (9, 0)] [(0, (if isWd X p 4 = true then 1 else 0))] m (RV (fun m1 => RRs X m1 (pNext X p w) ∧ Fr [90008, 90009, 90010, 90011, 90012, 90013, 96999] m m1 ∧ m1 198 9 = m 198 9))
                    refine gx_i0 (P := ¬ (isWd X p 4 = true)) r_116_130 (b01_eq) (fun h130 => ?_) (fun h130 => ?_)
                    · exact absurd w4 h130
                    · have h130 := Decidable.not_not.mp h130
                      refine gx_st (L' := [(2, 192), (0, 1), (9, 0)]) (S' := [(2, 192)]) r_116_133 rfl rfl rfl ?_
                      refine gx_gf (x := 198) 2 r_116_134 rfl (tk_192 hT) ⟨by decide, rfl, by decide, by decide⟩ rfl (fun _ => by decide) (pr_192_14 hm) ?_
                      refine gx_st (L' := [(2, 192), (0, 1), (9, 0)]) (S' := [(0, 7), (2, 198)]) r_116_137 rfl rfl rfl ?_
                      obtain ⟨x139, e_x139⟩ : ∃ z, z = m 198 (7) := ⟨_, rfl⟩
                      have b_x139 := gb_198_7 hm
                      rw [← e_x139] at b_x139
                      refine gx_ia (n := 7) (x := x139) r_116_139 rfl (tk_198 hT) (rfl) ⟨rfl, by decide⟩ (e_x139.symm) ?_
                      refine gx_st (L' := [(2, 192), (0, 1), (9, 0)]) (S' := [(0, 5), (0, x139)]) r_116_140 rfl rfl rfl ?_
                      refine gx_ic (P := ¬ x139 = 5) r_116_141 (rfl) (fun h141 => ?_) (fun h141 => ?_)
                      · refine gx_st (L' := [(2, 192), (0, 1), (9, 0)]) (S' := [(2, 192)]) r_116_149 rfl rfl rfl ?_
                        refine gx_ci (nx := 153) (S2 := []) (x_104 hT hm) r_116_150 rfl rfl rfl rfl rfl (rcv_v rfl (tk_192 hT) (by decide) rfl (by decide)) rfl (by decide) rfl (fun x150 n150 q150 => ?_)
                        obtain rfl := q150.1.symm
                        obtain rfl := q150.2.symm
                        show GX T 6 116 153 [(2, 192), (0, 1), (9, 0)] [(0, (if m 192 12 = 0 then 1 else 0))] m (RV (fun m1 => RRs X m1 (pNext X p w) ∧ Fr [90008, 90009, 90010, 90011, 90012, 90013, 96999] m m1 ∧ m1 198 9 = m 198 9))
                        refine gx_i0 (P := m 192 12 = 0) r_116_153 (b01_ne) (fun h153 => ?_) (fun h153 => ?_)
                        · refine gx_st (L' := [(2, 192), (0, 1), (9, 0)]) (S' := [(2, 192)]) r_116_157 rfl rfl rfl ?_
                          refine gx_st (L' := [(2, 192), (0, 1), (9, 0)]) (S' := [(2, 1000000), (2, 192)]) r_116_158 rfl rfl rfl ?_
                          refine gx_ci (nx := 163) (S2 := []) (y_107g hT hx hG (q := 0) (by decide) rfl sl_0) r_116_160 rfl rfl rfl rfl rfl (rcv_v rfl (tk_192 hT) (by decide) rfl (by decide)) rfl (by decide) rfl (fun x160 n160 q160 => ?_)
                          obtain ⟨e_x160, -, z_n160⟩ := q160.resolve_left (fun z => w0 z.2.1)
                          obtain rfl := e_x160.symm
                          obtain rfl := z_n160.symm
                          show GX T 6 116 163 [(2, 192), (0, 1), (9, 0)] [(0, 0)] m (RV (fun m1 => RRs X m1 (pNext X p w) ∧ Fr [90008, 90009, 90010, 90011, 90012, 90013, 96999] m m1 ∧ m1 198 9 = m 198 9))
                          refine gx_i0 (P := 0 = 0) r_116_163 (rfl) (fun h163 => ?_) (fun h163 => ?_)
                          · refine gx_st (L' := [(2, 192), (0, 1), (9, 0)]) (S' := [(2, 192)]) r_116_173 rfl rfl rfl ?_
                            refine gx_st (L' := [(2, 192), (0, 1), (9, 0)]) (S' := [(2, 1000001), (2, 192)]) r_116_174 rfl rfl rfl ?_
                            refine gx_ci (nx := 179) (S2 := []) (y_107g hT hx hG (q := 1) (by decide) rfl sl_1) r_116_176 rfl rfl rfl rfl rfl (rcv_v rfl (tk_192 hT) (by decide) rfl (by decide)) rfl (by decide) rfl (fun x176 n176 q176 => ?_)
                            obtain ⟨e_x176, -, z_n176⟩ := q176.resolve_left (fun z => w1 z.2.1)
                            obtain rfl := e_x176.symm
                            obtain rfl := z_n176.symm
                            show GX T 6 116 179 [(2, 192), (0, 1), (9, 0)] [(0, 0)] m (RV (fun m1 => RRs X m1 (pNext X p w) ∧ Fr [90008, 90009, 90010, 90011, 90012, 90013, 96999] m m1 ∧ m1 198 9 = m 198 9))
                            refine gx_i0 (P := 0 = 0) r_116_179 (rfl) (fun h179 => ?_) (fun h179 => ?_)
                            · refine gx_st (L' := [(2, 192), (0, 1), (9, 0)]) (S' := [(2, 192)]) r_116_197 rfl rfl rfl ?_
                              refine gx_st (L' := [(2, 192), (0, 1), (9, 0)]) (S' := [(2, 1000002), (2, 192)]) r_116_198 rfl rfl rfl ?_
                              refine gx_ci (nx := 203) (S2 := []) (y_107g hT hx hG (q := 2) (by decide) rfl sl_2) r_116_200 rfl rfl rfl rfl rfl (rcv_v rfl (tk_192 hT) (by decide) rfl (by decide)) rfl (by decide) rfl (fun x200 n200 q200 => ?_)
                              obtain ⟨e_x200, -, z_n200⟩ := q200.resolve_left (fun z => w2 z.2.1)
                              obtain rfl := e_x200.symm
                              obtain rfl := z_n200.symm
                              show GX T 6 116 203 [(2, 192), (0, 1), (9, 0)] [(0, 0)] m (RV (fun m1 => RRs X m1 (pNext X p w) ∧ Fr [90008, 90009, 90010, 90011, 90012, 90013, 96999] m m1 ∧ m1 198 9 = m 198 9))
                              refine gx_i0 (P := 0 = 0) r_116_203 (rfl) (fun h203 => ?_) (fun h203 => ?_)
                              · refine gx_st (L' := [(2, 192), (0, 1), (9, 0)]) (S' := [(2, 192)]) r_116_222 rfl rfl rfl ?_
                                refine gx_st (L' := [(2, 192), (0, 1), (9, 0)]) (S' := [(2, 1000004), (2, 192)]) r_116_223 rfl rfl rfl ?_
                                refine gx_ci (nx := 228) (S2 := []) (y_107g hT hx hG (q := 4) (by decide) rfl sl_4) r_116_225 rfl rfl rfl rfl rfl (rcv_v rfl (tk_192 hT) (by decide) rfl (by decide)) rfl (by decide) rfl (fun x225 n225 q225 => ?_)
                                obtain ⟨e_x225, -, g_n225, f_n225⟩ := q225.resolve_right (fun z => by rw [z.2.1] at w4; exact absurd w4 (by decide))
                                obtain rfl := e_x225.symm
                                show GX T 6 116 228 [(2, 192), (0, 1), (9, 0)] [(0, 1)] n225 (RV (fun m1 => RRs X m1 (pNext X p w) ∧ Fr [90008, 90009, 90010, 90011, 90012, 90013, 96999] m m1 ∧ m1 198 9 = m 198 9))
                                refine gx_i0 (P := 1 = 0) r_116_228 (rfl) (fun h228 => ?_) (fun h228 => ?_)
                                · omega
                                · refine gx_st (L' := [(2, 192), (0, 1), (9, 0)]) (S' := [(2, 192)]) r_116_231 rfl rfl rfl ?_
                                  refine gx_st (L' := [(2, 192), (0, 1), (9, 0)]) (S' := [(0, 47), (2, 192)]) r_116_232 rfl rfl rfl ?_
                                  refine gx_st (L' := [(2, 192), (0, 1), (9, 0)]) (S' := [(0, 7), (0, 47), (2, 192)]) r_116_234 rfl rfl rfl ?_
                                  refine gx_st (L' := [(2, 192), (0, 1), (9, 0)]) (S' := [(2, 1000013), (0, 7), (0, 47), (2, 192)]) r_116_236 rfl rfl rfl ?_
                                  refine gx_st (L' := [(2, 192), (0, 1), (9, 0)]) (S' := [(0, 1), (2, 1000013), (0, 7), (0, 47), (2, 192)]) r_116_238 rfl rfl rfl ?_
                                  refine gx_st (L' := [(2, 192), (0, 1), (9, 0)]) (S' := [(0, 99), (0, 1), (2, 1000013), (0, 7), (0, 47), (2, 192)]) r_116_239 rfl rfl rfl ?_
                                  refine gx_cv (nx := 244) (S2 := []) (y_115c hT hx (r := .ok (nE X p, w)) g_n225 (c := (w 7).toNat) (by rw [Fr_cell (o := 198) f_n225 (by decide) (by decide) 7, e7]; omega) (by omega)) r_116_241 rfl rfl rfl rfl rfl (rcv_v rfl (tk_192 hT) (by decide) rfl (by decide)) rfl (by decide) rfl (fun n241 q241 => ?_)
                                  refine gx_st (L' := [(2, 192), (0, 1), (9, 0)]) (S' := []) r_116_244 rfl rfl rfl ?_
                                  refine gx_rt r_116_275 rfl rfl ⟨rfl, ?_, Fr_tr (Fr_sub f_n225 (by decide)) q241.2.1, q241.2.2.trans (Fr_cell (o := 198) f_n225 (by decide) (by decide) 9)⟩
                                  unfold pNext
                                  rw [if_neg w0]
                                  rw [if_neg w1]
                                  rw [if_neg w2]
                                  rw [if_pos w4, if_neg (by omega)]
                                  exact q241.1
                              · omega
                            · omega
                          · omega
                        · exact absurd hg h153
                      · have h141 := Decidable.not_not.mp h141
                        refine gx_st (L' := [(2, 192), (0, 1), (9, 0)]) (S' := [(2, 192)]) r_116_144 rfl rfl rfl ?_
                        refine gx_st (L' := [(2, 192), (0, 1), (9, 0)]) (S' := [(0, 3), (2, 192)]) r_116_145 rfl rfl rfl ?_
                        refine gx_cv (nx := 149) (S2 := []) (y_105g hT hx hG (k := 3) (by decide) (by decide)) r_116_146 rfl rfl rfl rfl rfl (rcv_v rfl (tk_192 hT) (by decide) rfl (by decide)) rfl (by decide) rfl (fun n146 q146 => ?_)
                        have hb_n146 : ¬ n146 192 12 = 0 := by rw [q146.1.2.2.1]; exact q146.1.2.2.2.2
                        refine gx_st (L' := [(2, 192), (0, 1), (9, 0)]) (S' := [(2, 192)]) r_116_149 rfl rfl rfl ?_
                        refine gx_ci (nx := 153) (S2 := []) (x_104 hT q146.1.1) r_116_150 rfl rfl rfl rfl rfl (rcv_v rfl (tk_192 hT) (by decide) rfl (by decide)) rfl (by decide) rfl (fun x150 n150 q150 => ?_)
                        obtain rfl := q150.1.symm
                        obtain rfl := q150.2.symm
                        show GX T 6 116 153 [(2, 192), (0, 1), (9, 0)] [(0, (if n146 192 12 = 0 then 1 else 0))] n146 (RV (fun m1 => RRs X m1 (pNext X p w) ∧ Fr [90008, 90009, 90010, 90011, 90012, 90013, 96999] m m1 ∧ m1 198 9 = m 198 9))
                        refine gx_i0 (P := n146 192 12 = 0) r_116_153 (b01_ne) (fun h153 => ?_) (fun h153 => ?_)
                        · exact absurd h153 hb_n146
                        · refine gx_rt r_116_156 rfl rfl ⟨rfl, ?_, Fr_sub q146.2 (by decide), Fr_cell (o := 198) q146.2 (by decide) (by decide) 9⟩
                          unfold pNext
                          rw [if_neg w0]
                          rw [if_neg w1]
                          rw [if_neg w2]
                          rw [if_pos w4, if_pos (by omega)]
                          exact q146.1
                  · have h110 := Decidable.not_not.mp h110
                    exact absurd h110 w2
                · have h86 := Decidable.not_not.mp h86
                  exact absurd h86 w1
              · have h66 := Decidable.not_not.mp h66
                exact absurd h66 w0
            · have h52 := Decidable.not_not.mp h52
              omega
theorem y_116_n (hT : TT T) (hx : XOK X) {p : Nat} {w : Wd} (hG : RG X m p w) (w0 : ¬ isWd X p 0 = true) (w1 : ¬ isWd X p 1 = true) (w2 : ¬ isWd X p 2 = true) (w3 : ¬ isWd X p 3 = true) (w4 : ¬ isWd X p 4 = true) : GX T 6 116 0 [(2, 192), (9, 0), (9, 0)] [] m (RV (fun m1 => RRs X m1 (pNext X p w) ∧ Fr [90008, 90009, 90010, 90011, 90012, 90013, 96999] m m1 ∧ m1 198 9 = m 198 9)) := by
  have hg : m 192 12 = 0 := hG.2.2.1
  have hm := hG.1
  have e4 : m 198 4 = w 4 := hG.2.2.2.2.2.2.2.2 4 (by decide)
  have be4 := gb_198_4 hm
  rw [e4] at be4
  have e5 : m 198 5 = w 5 := hG.2.2.2.2.2.2.2.2 5 (by decide)
  have be5 := gb_198_5 hm
  rw [e5] at be5
  have e6 : m 198 6 = w 6 := hG.2.2.2.2.2.2.2.2 6 (by decide)
  have be6 := gb_198_6 hm
  rw [e6] at be6
  have e7 : m 198 7 = w 7 := hG.2.2.2.2.2.2.2.2 7 (by decide)
  have be7 := gb_198_7 hm
  rw [e7] at be7
  refine gx_st (L' := [(2, 192), (9, 0), (9, 0)]) (S' := [(2, 192)]) r_116_0 rfl rfl rfl ?_
  refine gx_st (L' := [(2, 192), (9, 0), (9, 0)]) (S' := [(2, 1000000), (2, 192)]) r_116_1 rfl rfl rfl ?_
  refine gx_ci (nx := 6) (S2 := []) (y_106g hT hx hG (q := 0) (by decide) rfl sl_0) r_116_3 rfl rfl rfl rfl rfl (rcv_v rfl (tk_192 hT) (by decide) rfl (by decide)) rfl (by decide) rfl (fun x3 n3 q3 => ?_)
  obtain rfl := q3.1.symm
  obtain rfl := q3.2.symm
  show GX T 6 116 6 [(2, 192), (9, 0), (9, 0)] [(0, (if isWd X p 0 = true then 1 else 0))] m (RV (fun m1 => RRs X m1 (pNext X p w) ∧ Fr [90008, 90009, 90010, 90011, 90012, 90013, 96999] m m1 ∧ m1 198 9 = m 198 9))
  refine gx_i0 (P := isWd X p 0 = true) r_116_6 (b01_ne) (fun h6 => ?_) (fun h6 => ?_)
  · exact absurd h6 w0
  · refine gx_st (L' := [(2, 192), (9, 0), (9, 0)]) (S' := [(2, 192)]) r_116_9 rfl rfl rfl ?_
    refine gx_st (L' := [(2, 192), (9, 0), (9, 0)]) (S' := [(2, 1000001), (2, 192)]) r_116_10 rfl rfl rfl ?_
    refine gx_ci (nx := 15) (S2 := []) (y_106g hT hx hG (q := 1) (by decide) rfl sl_1) r_116_12 rfl rfl rfl rfl rfl (rcv_v rfl (tk_192 hT) (by decide) rfl (by decide)) rfl (by decide) rfl (fun x12 n12 q12 => ?_)
    obtain rfl := q12.1.symm
    obtain rfl := q12.2.symm
    show GX T 6 116 15 [(2, 192), (9, 0), (9, 0)] [(0, (if isWd X p 1 = true then 1 else 0))] m (RV (fun m1 => RRs X m1 (pNext X p w) ∧ Fr [90008, 90009, 90010, 90011, 90012, 90013, 96999] m m1 ∧ m1 198 9 = m 198 9))
    refine gx_i0 (P := isWd X p 1 = true) r_116_15 (b01_ne) (fun h15 => ?_) (fun h15 => ?_)
    · exact absurd h15 w1
    · refine gx_st (L' := [(2, 192), (9, 0), (9, 0)]) (S' := [(2, 192)]) r_116_18 rfl rfl rfl ?_
      refine gx_st (L' := [(2, 192), (9, 0), (9, 0)]) (S' := [(2, 1000002), (2, 192)]) r_116_19 rfl rfl rfl ?_
      refine gx_ci (nx := 24) (S2 := []) (y_106g hT hx hG (q := 2) (by decide) rfl sl_2) r_116_21 rfl rfl rfl rfl rfl (rcv_v rfl (tk_192 hT) (by decide) rfl (by decide)) rfl (by decide) rfl (fun x21 n21 q21 => ?_)
      obtain rfl := q21.1.symm
      obtain rfl := q21.2.symm
      show GX T 6 116 24 [(2, 192), (9, 0), (9, 0)] [(0, (if isWd X p 2 = true then 1 else 0))] m (RV (fun m1 => RRs X m1 (pNext X p w) ∧ Fr [90008, 90009, 90010, 90011, 90012, 90013, 96999] m m1 ∧ m1 198 9 = m 198 9))
      refine gx_i0 (P := isWd X p 2 = true) r_116_24 (b01_ne) (fun h24 => ?_) (fun h24 => ?_)
      · exact absurd h24 w2
      · refine gx_st (L' := [(2, 192), (9, 0), (9, 0)]) (S' := [(2, 192)]) r_116_27 rfl rfl rfl ?_
        refine gx_st (L' := [(2, 192), (9, 0), (9, 0)]) (S' := [(2, 1000003), (2, 192)]) r_116_28 rfl rfl rfl ?_
        refine gx_ci (nx := 33) (S2 := []) (y_106g hT hx hG (q := 3) (by decide) rfl sl_3) r_116_30 rfl rfl rfl rfl rfl (rcv_v rfl (tk_192 hT) (by decide) rfl (by decide)) rfl (by decide) rfl (fun x30 n30 q30 => ?_)
        obtain rfl := q30.1.symm
        obtain rfl := q30.2.symm
        show GX T 6 116 33 [(2, 192), (9, 0), (9, 0)] [(0, (if isWd X p 3 = true then 1 else 0))] m (RV (fun m1 => RRs X m1 (pNext X p w) ∧ Fr [90008, 90009, 90010, 90011, 90012, 90013, 96999] m m1 ∧ m1 198 9 = m 198 9))
        refine gx_i0 (P := isWd X p 3 = true) r_116_33 (b01_ne) (fun h33 => ?_) (fun h33 => ?_)
        · exact absurd h33 w3
        · refine gx_st (L' := [(2, 192), (9, 0), (9, 0)]) (S' := [(2, 192)]) r_116_36 rfl rfl rfl ?_
          refine gx_st (L' := [(2, 192), (9, 0), (9, 0)]) (S' := [(2, 1000004), (2, 192)]) r_116_37 rfl rfl rfl ?_
          refine gx_ci (nx := 42) (S2 := []) (y_106g hT hx hG (q := 4) (by decide) rfl sl_4) r_116_39 rfl rfl rfl rfl rfl (rcv_v rfl (tk_192 hT) (by decide) rfl (by decide)) rfl (by decide) rfl (fun x39 n39 q39 => ?_)
          obtain rfl := q39.1.symm
          obtain rfl := q39.2.symm
          show GX T 6 116 42 [(2, 192), (9, 0), (9, 0)] [(0, (if isWd X p 4 = true then 1 else 0))] m (RV (fun m1 => RRs X m1 (pNext X p w) ∧ Fr [90008, 90009, 90010, 90011, 90012, 90013, 96999] m m1 ∧ m1 198 9 = m 198 9))
          refine gx_i0 (P := ¬ (isWd X p 4 = true)) r_116_42 (b01_eq) (fun h42 => ?_) (fun h42 => ?_)
          · refine gx_st (L' := [(2, 192), (9, 0), (9, 0)]) (S' := [(0, 0)]) r_116_49 rfl rfl rfl ?_
            refine gx_st (L' := [(2, 192), (0, 0), (9, 0)]) (S' := []) r_116_50 rfl rfl rfl ?_
            refine gx_st (L' := [(2, 192), (0, 0), (9, 0)]) (S' := [(0, 0)]) r_116_51 rfl rfl rfl ?_
            refine gx_i0 (P := ¬ 0 = 0) r_116_52 (rfl) (fun h52 => ?_) (fun h52 => ?_)
            · omega
            · have h52 := Decidable.not_not.mp h52
              refine gx_st (L' := [(2, 192), (0, 0), (9, 0)]) (S' := [(2, 192)]) r_116_55 rfl rfl rfl ?_
              refine gx_st (L' := [(2, 192), (0, 0), (9, 0)]) (S' := [(0, 1), (2, 192)]) r_116_56 rfl rfl rfl ?_
              refine gx_cv (nx := 60) (S2 := []) (y_105g hT hx hG (k := 1) (by decide) (by decide)) r_116_57 rfl rfl rfl rfl rfl (rcv_v rfl (tk_192 hT) (by decide) rfl (by decide)) rfl (by decide) rfl (fun n57 q57 => ?_)
              have hb_n57 : ¬ n57 192 12 = 0 := by rw [q57.1.2.2.1]; exact q57.1.2.2.2.2
              refine gx_st (L' := [(2, 192), (0, 0), (9, 0)]) (S' := [(2, 192)]) r_116_60 rfl rfl rfl ?_
              refine gx_st (L' := [(2, 192), (0, 0), (9, 0)]) (S' := [(2, 1000000), (2, 192)]) r_116_61 rfl rfl rfl ?_
              refine gx_ci (nx := 66) (S2 := []) (y_106e hT q57.1 (q := 0) (by decide) rfl sl_0) r_116_63 rfl rfl rfl rfl rfl (rcv_v rfl (tk_192 hT) (by decide) rfl (by decide)) rfl (by decide) rfl (fun x63 n63 q63 => ?_)
              obtain rfl := q63.1.symm
              obtain rfl := q63.2.symm
              show GX T 6 116 66 [(2, 192), (0, 0), (9, 0)] [(0, 0)] n57 (RV (fun m1 => RRs X m1 (pNext X p w) ∧ Fr [90008, 90009, 90010, 90011, 90012, 90013, 96999] m m1 ∧ m1 198 9 = m 198 9))
              refine gx_i0 (P := 0 = 0) r_116_66 (rfl) (fun h66 => ?_) (fun h66 => ?_)
              · refine gx_st (L' := [(2, 192), (0, 0), (9, 0)]) (S' := [(2, 192)]) r_116_80 rfl rfl rfl ?_
                refine gx_st (L' := [(2, 192), (0, 0), (9, 0)]) (S' := [(2, 1000001), (2, 192)]) r_116_81 rfl rfl rfl ?_
                refine gx_ci (nx := 86) (S2 := []) (y_106e hT q57.1 (q := 1) (by decide) rfl sl_1) r_116_83 rfl rfl rfl rfl rfl (rcv_v rfl (tk_192 hT) (by decide) rfl (by decide)) rfl (by decide) rfl (fun x83 n83 q83 => ?_)
                obtain rfl := q83.1.symm
                obtain rfl := q83.2.symm
                show GX T 6 116 86 [(2, 192), (0, 0), (9, 0)] [(0, 0)] n57 (RV (fun m1 => RRs X m1 (pNext X p w) ∧ Fr [90008, 90009, 90010, 90011, 90012, 90013, 96999] m m1 ∧ m1 198 9 = m 198 9))
                refine gx_i0 (P := 0 = 0) r_116_86 (rfl) (fun h86 => ?_) (fun h86 => ?_)
                · refine gx_st (L' := [(2, 192), (0, 0), (9, 0)]) (S' := [(2, 192)]) r_116_104 rfl rfl rfl ?_
                  refine gx_st (L' := [(2, 192), (0, 0), (9, 0)]) (S' := [(2, 1000002), (2, 192)]) r_116_105 rfl rfl rfl ?_
                  refine gx_ci (nx := 110) (S2 := []) (y_106e hT q57.1 (q := 2) (by decide) rfl sl_2) r_116_107 rfl rfl rfl rfl rfl (rcv_v rfl (tk_192 hT) (by decide) rfl (by decide)) rfl (by decide) rfl (fun x107 n107 q107 => ?_)
                  obtain rfl := q107.1.symm
                  obtain rfl := q107.2.symm
                  show GX T 6 116 110 [(2, 192), (0, 0), (9, 0)] [(0, 0)] n57 (RV (fun m1 => RRs X m1 (pNext X p w) ∧ Fr [90008, 90009, 90010, 90011, 90012, 90013, 96999] m m1 ∧ m1 198 9 = m 198 9))
                  refine gx_i0 (P := 0 = 0) r_116_110 (rfl) (fun h110 => ?_) (fun h110 => ?_)
                  · refine gx_st (L' := [(2, 192), (0, 0), (9, 0)]) (S' := [(2, 192)]) r_116_124 rfl rfl rfl ?_
                    refine gx_st (L' := [(2, 192), (0, 0), (9, 0)]) (S' := [(2, 1000004), (2, 192)]) r_116_125 rfl rfl rfl ?_
                    refine gx_ci (nx := 130) (S2 := []) (y_106e hT q57.1 (q := 4) (by decide) rfl sl_4) r_116_127 rfl rfl rfl rfl rfl (rcv_v rfl (tk_192 hT) (by decide) rfl (by decide)) rfl (by decide) rfl (fun x127 n127 q127 => ?_)
                    obtain rfl := q127.1.symm
                    obtain rfl := q127.2.symm
                    show GX T 6 116 130 [(2, 192), (0, 0), (9, 0)] [(0, 0)] n57 (RV (fun m1 => RRs X m1 (pNext X p w) ∧ Fr [90008, 90009, 90010, 90011, 90012, 90013, 96999] m m1 ∧ m1 198 9 = m 198 9))
                    refine gx_i0 (P := 0 = 0) r_116_130 (rfl) (fun h130 => ?_) (fun h130 => ?_)
                    · refine gx_st (L' := [(2, 192), (0, 0), (9, 0)]) (S' := [(2, 192)]) r_116_149 rfl rfl rfl ?_
                      refine gx_ci (nx := 153) (S2 := []) (x_104 hT q57.1.1) r_116_150 rfl rfl rfl rfl rfl (rcv_v rfl (tk_192 hT) (by decide) rfl (by decide)) rfl (by decide) rfl (fun x150 n150 q150 => ?_)
                      obtain rfl := q150.1.symm
                      obtain rfl := q150.2.symm
                      show GX T 6 116 153 [(2, 192), (0, 0), (9, 0)] [(0, (if n57 192 12 = 0 then 1 else 0))] n57 (RV (fun m1 => RRs X m1 (pNext X p w) ∧ Fr [90008, 90009, 90010, 90011, 90012, 90013, 96999] m m1 ∧ m1 198 9 = m 198 9))
                      refine gx_i0 (P := n57 192 12 = 0) r_116_153 (b01_ne) (fun h153 => ?_) (fun h153 => ?_)
                      · exact absurd h153 hb_n57
                      · refine gx_rt r_116_156 rfl rfl ⟨rfl, ?_, Fr_sub q57.2 (by decide), Fr_cell (o := 198) q57.2 (by decide) (by decide) 9⟩
                        unfold pNext
                        rw [if_neg w0]
                        rw [if_neg w1]
                        rw [if_neg w2]
                        rw [if_neg w4]
                        rw [if_neg w3]
                        exact q57.1
                    · omega
                  · omega
                · omega
              · omega
          · have h42 := Decidable.not_not.mp h42
            exact absurd h42 w4
theorem y_116 (hT : TT T) (hx : XOK X) {p : Nat} {w : Wd} (hG : RG X m p w) : GX T 6 116 0 [(2, 192), (9, 0), (9, 0)] [] m (RV (fun m1 => RRs X m1 (pNext X p w) ∧ Fr [90008, 90009, 90010, 90011, 90012, 90013, 96999] m m1 ∧ m1 198 9 = m 198 9)) := by
  have nw : ∀ a b, a < 5 → b < 5 → ¬ a = b → isWd X p a = true → ¬ isWd X p b = true := fun a b ha hb hab h => by rw [wd_ne ha hb hab h]; decide
  by_cases w0 : isWd X p 0 = true
  · exact y_116_0 hT hx hG w0 (nw 0 1 (by decide) (by decide) (by decide) w0) (nw 0 2 (by decide) (by decide) (by decide) w0) (nw 0 3 (by decide) (by decide) (by decide) w0) (nw 0 4 (by decide) (by decide) (by decide) w0)
  by_cases w1 : isWd X p 1 = true
  · exact y_116_1 hT hx hG (nw 1 0 (by decide) (by decide) (by decide) w1) w1 (nw 1 2 (by decide) (by decide) (by decide) w1) (nw 1 3 (by decide) (by decide) (by decide) w1) (nw 1 4 (by decide) (by decide) (by decide) w1)
  by_cases w2 : isWd X p 2 = true
  · exact y_116_2 hT hx hG (nw 2 0 (by decide) (by decide) (by decide) w2) (nw 2 1 (by decide) (by decide) (by decide) w2) w2 (nw 2 3 (by decide) (by decide) (by decide) w2) (nw 2 4 (by decide) (by decide) (by decide) w2)
  by_cases w3 : isWd X p 3 = true
  · exact y_116_3 hT hx hG (nw 3 0 (by decide) (by decide) (by decide) w3) (nw 3 1 (by decide) (by decide) (by decide) w3) (nw 3 2 (by decide) (by decide) (by decide) w3) w3 (nw 3 4 (by decide) (by decide) (by decide) w3)
  by_cases w4 : isWd X p 4 = true
  · exact y_116_4 hT hx hG (nw 4 0 (by decide) (by decide) (by decide) w4) (nw 4 1 (by decide) (by decide) (by decide) w4) (nw 4 2 (by decide) (by decide) (by decide) w4) (nw 4 3 (by decide) (by decide) (by decide) w4) w4
  exact y_116_n hT hx hG w0 w1 w2 w3 w4
end LINR
