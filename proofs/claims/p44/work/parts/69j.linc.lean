/-! the parser of the class exactly: words, numbers, lines -/
theorem r_309_0 : row 309 0 = some (.aload_n 0, 1, 0, 0, 0, 0) := rfl
theorem r_309_1 : row 309 1 = some (.aload_n 1, 2, 0, 0, 0, 0) := rfl
theorem r_309_2 : row 309 2 = some (.invokevirtual 63, 5, 314, 1, 0, 3021) := rfl
theorem r_309_5 : row 309 5 = some (.ifCond .eq 10, 8, 15, 0, 0, 0) := rfl
theorem r_309_8 : row 309 8 = some (.aload_n 0, 9, 0, 0, 0, 0) := rfl
theorem r_309_9 : row 309 9 = some (.invokevirtual 45, 12, 312, 0, 0, 2237) := rfl
theorem r_309_12 : row 309 12 = some (.goto 8, 15, 20, 0, 0, 0) := rfl
theorem r_309_15 : row 309 15 = some (.aload_n 0, 16, 0, 0, 0, 0) := rfl
theorem r_309_16 : row 309 16 = some (.iconst 1, 17, 1, 0, 0, 0) := rfl
theorem r_309_17 : row 309 17 = some (.invokevirtual 94, 20, 307, 1, 0, 3073) := rfl
theorem r_309_20 : row 309 20 = some (.return_, 21, 0, 0, 0, 0) := rfl
section LINC
variable {T : List Kd} {X : Nat → Int} {m : Mm}
theorem gq_o2c : gq0 (2, 2, 0) (2, 2) := (gq_2 rfl).mpr ⟨rfl, by decide, by decide, by decide⟩
theorem gq_o13c : gq0 (2, 13, 0) (2, 13) := (gq_2 rfl).mpr ⟨rfl, by decide, by decide, by decide⟩
def CC (X : Nat → Int) (m : Mm) : Prop := Gam m ∧ PinR m ∧ CXt X m
def CR (X : Nat → Int) (m : Mm) (r : PR) : Prop := CC X m ∧ (match r with
  | .ok g => m 2 2 = 0 ∧ m 2 3 = -1 ∧ g.1 ≤ 800 ∧ CT X m g.1
  | .error e => m 2 2 = e.1 ∧ m 2 3 = e.2 ∧ ¬ e.1 = 0 ∧ ∃ p, p ≤ 800 ∧ CT X m p)
def CU (X : Nat → Int) (m : Mm) (v : Int) (r : PV) : Prop := match r with
  | .ok g => v = g.1 ∧ CR X m (.ok (g.2.1, g.2.2))
  | .error e => v = 0 ∧ CR X m (.error e)
def pAdv (X : Nat → Int) (r : PR) : PR := r.bind fun g => .ok (nE X g.1, g.2)
def pNumU (X : Nat → Int) (lo hi u : Int) (r : PR) : PV := r.bind fun g => if ¬ nK X g.1 = 2 then .error (1, (nS X g.1 : Int)) else if lo ≤ nV X g.1 ∧ nV X g.1 ≤ hi ∧ ¬ nV X g.1 = u then .ok (nV X g.1, nE X g.1, g.2) else .error (2, (nS X g.1 : Int))
theorem CC_fr {W : List Nat} {m m' : Mm} (h : CC X m) (hf : Fr W m m') (hg : Gam m') (h1 : W.contains 2001 = false) (h2 : W.contains 3999 = false) (hw : pinC.all (fun c => !W.contains c) = true) : CC X m' := ⟨hg, PinR_fr hf hw h.2.1, CXt_fr h.2.2 hf h1 h2⟩
theorem CT_fr {W : List Nat} {m m' : Mm} {p : Nat} (h : CT X m p) (hf : Fr W m m') (h4 : W.contains 2004 = false) (h5 : W.contains 2005 = false) (h6 : W.contains 2006 = false) : CT X m' p := by
  unfold CT at *
  rw [hf 2 4 h4, hf 2 5 h5, hf 2 6 h6]; exact h
theorem CR_p {r : PR} (h : CR X m r) : ∃ p, p ≤ 800 ∧ CT X m p ∧ ∀ g, r = .ok g → g.1 = p := by
  cases r with
  | ok g => exact ⟨g.1, h.2.2.2.1, h.2.2.2.2, fun g2 e => by cases e; rfl⟩
  | error e => obtain ⟨p, h1, h2⟩ := h.2.2.2.2; exact ⟨p, h1, h2, fun g2 e => by cases e⟩
theorem need_t {r : PR} {p q : Nat} (hp : ∀ g, r = .ok g → g.1 = p) (h : isWd X p q = true) : pNeed X q r = pAdv X r := by
  cases r with
  | ok g => have := hp g rfl; subst this; exact if_pos h
  | error e => rfl
theorem need_f {r : PR} {p q : Nat} (hp : ∀ g, r = .ok g → g.1 = p) (h : ¬ isWd X p q = true) : pNeed X q r = pErr X 1 r := by
  cases r with
  | ok g => have := hp g rfl; subst this; exact if_neg h
  | error e => rfl
theorem z_307e (hT : TT T) {f k : Int} (h2 : m 2 2 = f) (hf : ¬ f = 0) : GX T 0 307 0 [(2, 2), (0, k)] [] m (RV (fun m1 => m1 = m)) := by
  refine gx_st (L' := [(2, 2), (0, k)]) (S' := [(2, 2)]) r_307_0 rfl rfl rfl ?_
  refine gx_gf (x := f) 0 r_307_1 (rfl) (ty_2 hT) ⟨by decide, rfl, by decide, by decide⟩ rfl (fun z => absurd z (by decide)) (h2) ?_
  refine gx_i0 (P := ¬ f = 0) r_307_4 (rfl) (fun h4 => ?_) (fun h4 => ?_)
  · exact gx_rt r_307_20 rfl rfl ⟨rfl, rfl⟩
  · have h4 := Decidable.not_not.mp h4
    exact absurd h4 hf
theorem z_307g (hT : TT T) {k s : Int} (h2 : m 2 2 = 0) (h5 : m 2 5 = s) : GX T 0 307 0 [(2, 2), (0, k)] [] m (RV (fun m1 => m1 2 2 = k ∧ m1 2 3 = s)) := by
  refine gx_st (L' := [(2, 2), (0, k)]) (S' := [(2, 2)]) r_307_0 rfl rfl rfl ?_
  refine gx_gf (x := 0) 0 r_307_1 (rfl) (ty_2 hT) ⟨by decide, rfl, by decide, by decide⟩ rfl (fun z => absurd z (by decide)) (h2) ?_
  refine gx_i0 (P := ¬ 0 = 0) r_307_4 (rfl) (fun h4 => ?_) (fun h4 => ?_)
  · omega
  · have h4 := Decidable.not_not.mp h4
    refine gx_st (L' := [(2, 2), (0, k)]) (S' := [(2, 2)]) r_307_7 rfl rfl rfl ?_
    refine gx_st (L' := [(2, 2), (0, k)]) (S' := [(0, k), (2, 2)]) r_307_8 rfl rfl rfl ?_
    obtain ⟨m1, e_m1⟩ : ∃ z, z = nu_up m 2 2 k := ⟨_, rfl⟩
    refine gx_pf (x := k) 0 r_307_9 (rfl) (ty_2 hT) ⟨by decide, rfl, by decide, by decide⟩ rfl (fun z => absurd z (by decide)) (fun z => absurd z (by decide)) e_m1.symm ?_
    refine gx_st (L' := [(2, 2), (0, k)]) (S' := [(2, 2)]) r_307_12 rfl rfl rfl ?_
    refine gx_st (L' := [(2, 2), (0, k)]) (S' := [(2, 2), (2, 2)]) r_307_13 rfl rfl rfl ?_
    refine gx_gf (x := s) 0 r_307_14 (rfl) (ty_2 hT) ⟨by decide, rfl, by decide, by decide⟩ rfl (fun z => absurd z (by decide)) (by show m1 2 5 = _; rw [e_m1, nu_ne (by decide)]; exact h5) ?_
    obtain ⟨m2, e_m2⟩ : ∃ z, z = nu_up m1 2 3 s := ⟨_, rfl⟩
    refine gx_pf (x := s) 0 r_307_17 (rfl) (ty_2 hT) ⟨by decide, rfl, by decide, by decide⟩ rfl (fun z => absurd z (by decide)) (fun z => absurd z (by decide)) e_m2.symm ?_
    exact gx_rt r_307_20 rfl rfl ⟨rfl, by rw [e_m2, nu_ne (by decide), e_m1, nu_at], by rw [e_m2, nu_at]⟩
theorem k_307 (hT : TT T) {r : PR} (h : CR X m r) {k : Int} (hk1 : 1 ≤ k) (hk2 : k ≤ 3) : GX T 0 307 0 [(2, 2), (0, k)] [] m (RV (fun m1 => CR X m1 (pErr X k r) ∧ Fr [2002, 2003] m m1)) := by
  have hz := x_307 hT h.1.1 hk1 hk2
  cases r with
  | error e =>
    refine gx_imp (gx_av (z_307e hT (k := k) h.2.1 h.2.2.2.1) hz) (fun v m' ⟨e0, a, b⟩ => ⟨e0, ?_, b.2.1⟩)
    subst a; exact h
  | ok g =>
    refine gx_imp (gx_av (z_307g hT (k := k) (s := (nS X g.1 : Int)) h.2.1 h.2.2.2.2.2.1) hz) (fun v m' ⟨e0, a, b⟩ => ⟨e0, ⟨CC_fr h.1 b.2.1 b.1 (by decide) (by decide) (by decide), a.1, a.2, (fun z => by have z : k = 0 := z; omega), g.1, h.2.2.2.1, CT_fr h.2.2.2.2 b.2.1 (by decide) (by decide) (by decide)⟩, b.2.1⟩)
set_option maxRecDepth 100000 in
theorem cu_166 : conL[166]? = some (312, [(2, 2, 0)], (9, 0, 0), [2004, 2005, 2006], 2) := rfl
theorem pu_166 (hT : TT T) : ConH T (312, [(2, 2, 0)], (9, 0, 0), [2004, 2005, 2006], 2) := fun args m => ((all_con hT 166).1 (by decide)) _ cu_166 args m
theorem k_312 (hT : TT T) (hx : XOK X) {r : PR} (h : CR X m r) : GX T 2 312 0 [(2, 2), (9, 0)] [] m (RV (fun m1 => CR X m1 (pAdv X r) ∧ Fr [2004, 2005, 2006] m m1)) := by
  have hz := gx_hv (args := [(2, 2)]) (pu_166 hT) ⟨gq_o2c, trivial⟩ h.1.1 rfl
  cases r with
  | error e =>
    refine gx_imp (gx_av (z_312e hT h.2.1 h.2.2.2.1) hz) (fun v m' ⟨e0, a, b⟩ => ⟨e0, ?_, b.2⟩)
    subst a; exact h
  | ok g =>
    have h8 := nE_hi hx h.2.2.2.1
    refine gx_imp (gx_av (z_312 hT h.1.2.1 h.1.2.2 hx h.2.1 h.2.2.2.2.2.2 h8) hz) (fun v m' ⟨e0, a, b⟩ => ⟨e0, ⟨CC_fr h.1 b.2 b.1 (by decide) (by decide) (by decide), (b.2 2 2 rfl).trans h.2.1, (b.2 2 3 rfl).trans h.2.2.1, h8, a⟩, b.2⟩)
theorem k_309 (hT : TT T) (hx : XOK X) {r : PR} (h : CR X m r) {o : Int} {q n : Nat} (hq : q < 15) (ho : o = 1000000 + (q : Int)) (hn : slen q = some n) : GX T 3 309 0 [(2, 2), (2, o)] [] m (RV (fun m1 => CR X m1 (pNeed X q r) ∧ Fr [2002, 2003, 2004, 2005, 2006] m m1)) := by
  obtain ⟨p, hp8, ht, hp⟩ := CR_p h
  refine gx_st (L' := [(2, 2), (2, o)]) (S' := [(2, 2)]) r_309_0 rfl rfl rfl ?_
  refine gx_st (L' := [(2, 2), (2, o)]) (S' := [(2, o), (2, 2)]) r_309_1 rfl rfl rfl ?_
  refine gx_ci (nx := 5) (S2 := []) (z_314 hT h.1.2.1 h.1.2.2 ht (nE_hi hx hp8) hq ho hn) r_309_2 rfl rfl rfl rfl rfl (rcv_v rfl (ty_2 hT) (by decide) rfl (by decide)) rfl (by decide) rfl (fun x2 n2 q2 => ?_)
  obtain rfl := q2.1.symm
  obtain rfl := q2.2.symm
  show GX T 3 309 5 [(2, 2), (2, o)] [(0, (if isWd X p q = true then 1 else 0))] m (RV (fun m1 => CR X m1 (pNeed X q r) ∧ Fr [2002, 2003, 2004, 2005, 2006] m m1))
  refine gx_i0 (P := ¬ (isWd X p q = true)) r_309_5 (b01_eq) (fun h5 => ?_) (fun h5 => ?_)
  · refine gx_st (L' := [(2, 2), (2, o)]) (S' := [(2, 2)]) r_309_15 rfl rfl rfl ?_
    refine gx_st (L' := [(2, 2), (2, o)]) (S' := [(0, 1), (2, 2)]) r_309_16 rfl rfl rfl ?_
    refine gx_cv (nx := 20) (S2 := []) (k_307 hT h (k := 1) (by decide) (by decide)) r_309_17 rfl rfl rfl rfl rfl (rcv_v rfl (ty_2 hT) (by decide) rfl (by decide)) rfl (by decide) rfl (fun n17 q17 => ?_)
    exact gx_rt r_309_20 rfl rfl ⟨rfl, by rw [need_f hp h5]; exact q17.1, Fr_sub q17.2 (by decide)⟩
  · have h5 := Decidable.not_not.mp h5
    refine gx_st (L' := [(2, 2), (2, o)]) (S' := [(2, 2)]) r_309_8 rfl rfl rfl ?_
    refine gx_cv (nx := 12) (S2 := []) (k_312 hT hx h) r_309_9 rfl rfl rfl rfl rfl (rcv_v rfl (ty_2 hT) (by decide) rfl (by decide)) rfl (by decide) rfl (fun n9 q9 => ?_)
    refine gx_st (L' := [(2, 2), (2, o)]) (S' := []) r_309_12 rfl rfl rfl ?_
    exact gx_rt r_309_20 rfl rfl ⟨rfl, by rw [need_t hp h5]; exact q9.1, Fr_sub q9.2 (by decide)⟩
set_option maxRecDepth 100000 in
theorem cu_3 : conL[3]? = some (315, [(2, 2, 0)], (0, (-2147483648), 1000000), [], 1) := rfl
theorem pu_3 (hT : TT T) : ConH T (315, [(2, 2, 0)], (0, (-2147483648), 1000000), [], 1) := fun args m => ((all_con hT 3).1 (by decide)) _ cu_3 args m
theorem k_310a (hT : TT T) (hx : XOK X) {r : PR} (h : CR X m r) {lo hi u : Int} (hh : hi ≤ 1000) (hu : u ≤ 1000) {p : Nat} (hp8 : p ≤ 800) (ht : CT X m p) (hp : ∀ g, r = .ok g → g.1 = p) (hk : nK X p = 2) : GX T 3 310 0 [(2, 2), (0, lo), (0, hi), (0, u), (9, 0)] [] m (RI (fun v m1 => CU X m1 v (pNumU X lo hi u r) ∧ Fr [2002, 2003, 2004, 2005, 2006] m m1)) := by
  obtain ⟨V, h_V⟩ : ∃ V, V = vl 1000000 X (nS X p) (nE X p - nS X p) := ⟨_, rfl⟩
  have bV := vl_in (C := 1000000) (by decide) _ (nV_dg hk)
  rw [← h_V] at bV
  refine gx_st (L' := [(2, 2), (0, lo), (0, hi), (0, u), (9, 0)]) (S' := [(2, 2)]) r_310_0 rfl rfl rfl ?_
  refine gx_gf (x := (nK X p)) 0 r_310_1 (rfl) (ty_2 hT) ⟨by decide, rfl, by decide, by decide⟩ rfl (fun z => absurd z (by decide)) (ht.1) ?_
  refine gx_st (L' := [(2, 2), (0, lo), (0, hi), (0, u), (9, 0)]) (S' := [(0, 2), (0, (nK X p))]) r_310_4 rfl rfl rfl ?_
  refine gx_ic (P := (nK X p) = 2) r_310_5 (rfl) (fun h5 => ?_) (fun h5 => ?_)
  · refine gx_st (L' := [(2, 2), (0, lo), (0, hi), (0, u), (9, 0)]) (S' := [(2, 2)]) r_310_13 rfl rfl rfl ?_
    refine gx_ci (nx := 17) (S2 := []) (z_315 hT h.1.2.1 h.1.2.2 ht hk (nE_hi hx hp8)) r_310_14 rfl rfl rfl rfl rfl (rcv_v rfl (ty_2 hT) (by decide) rfl (by decide)) rfl (by decide) rfl (fun x14 n14 q14 => ?_)
    obtain rfl := q14.1.symm
    obtain rfl := q14.2.symm
    rw [← h_V]
    show GX T 3 310 17 [(2, 2), (0, lo), (0, hi), (0, u), (9, 0)] [(0, V)] m (RI (fun v m1 => CU X m1 v (pNumU X lo hi u r) ∧ Fr [2002, 2003, 2004, 2005, 2006] m m1))
    refine gx_st (L' := [(2, 2), (0, lo), (0, hi), (0, u), (0, V)]) (S' := []) r_310_17 rfl rfl rfl ?_
    refine gx_st (L' := [(2, 2), (0, lo), (0, hi), (0, u), (0, V)]) (S' := [(0, V)]) r_310_19 rfl rfl rfl ?_
    refine gx_st (L' := [(2, 2), (0, lo), (0, hi), (0, u), (0, V)]) (S' := [(0, lo), (0, V)]) r_310_21 rfl rfl rfl ?_
    refine gx_ic (P := V < lo) r_310_22 (rfl) (fun h22 => ?_) (fun h22 => ?_)
    · refine gx_st (L' := [(2, 2), (0, lo), (0, hi), (0, u), (0, V)]) (S' := [(2, 2)]) r_310_37 rfl rfl rfl ?_
      refine gx_st (L' := [(2, 2), (0, lo), (0, hi), (0, u), (0, V)]) (S' := [(0, 2), (2, 2)]) r_310_38 rfl rfl rfl ?_
      refine gx_cv (nx := 42) (S2 := []) (k_307 hT h (k := 2) (by decide) (by decide)) r_310_39 rfl rfl rfl rfl rfl (rcv_v rfl (ty_2 hT) (by decide) rfl (by decide)) rfl (by decide) rfl (fun n39 q39 => ?_)
      have f_n39 : Fr [2002, 2003, 2004, 2005, 2006] m n39 := Fr_tr Fr_rf (Fr_sub q39.2 (by decide))
      refine gx_st (L' := [(2, 2), (0, lo), (0, hi), (0, u), (0, V)]) (S' := [(2, 2)]) r_310_42 rfl rfl rfl ?_
      refine gx_cv (nx := 46) (S2 := []) (k_312 hT hx q39.1) r_310_43 rfl rfl rfl rfl rfl (rcv_v rfl (ty_2 hT) (by decide) rfl (by decide)) rfl (by decide) rfl (fun n43 q43 => ?_)
      have f_n43 : Fr [2002, 2003, 2004, 2005, 2006] m n43 := Fr_tr f_n39 (Fr_sub q43.2 (by decide))
      refine gx_st (L' := [(2, 2), (0, lo), (0, hi), (0, u), (0, V)]) (S' := [(2, 2)]) r_310_46 rfl rfl rfl ?_
      obtain ⟨x47, e_x47⟩ : ∃ z, z = n43 2 2 := ⟨_, rfl⟩
      refine gx_gf (x := x47) 0 r_310_47 (rfl) (ty_2 hT) ⟨by decide, rfl, by decide, by decide⟩ rfl (fun z => absurd z (by decide)) (e_x47.symm) ?_
      refine gx_i0 (P := ¬ x47 = 0) r_310_50 (rfl) (fun h50 => ?_) (fun h50 => ?_)
      · refine gx_st (L' := [(2, 2), (0, lo), (0, hi), (0, u), (0, V)]) (S' := [(0, 0)]) r_310_58 rfl rfl rfl ?_
        refine gx_rt r_310_59 rfl rfl ⟨_, rfl, ?_, f_n43⟩
        have cr := q43.1
        cases r with
        | error e => exact ⟨rfl, cr⟩
        | ok g =>
          have e1 := hp g rfl
          show CU X n43 0 (if ¬ nK X g.1 = 2 then (.error (1, (nS X g.1 : Int)) : PV) else if lo ≤ nV X g.1 ∧ nV X g.1 ≤ hi ∧ ¬ nV X g.1 = u then .ok (nV X g.1, nE X g.1, g.2) else .error (2, (nS X g.1 : Int)))
          have vv := nV_eq hk
          rw [if_neg (by rw [e1]; omega), if_neg (by rw [e1]; omega)]
          exact ⟨rfl, cr⟩
      · have h50 := Decidable.not_not.mp h50
        refine gx_st (L' := [(2, 2), (0, lo), (0, hi), (0, u), (0, V)]) (S' := [(0, V)]) r_310_53 rfl rfl rfl ?_
        refine gx_st (L' := [(2, 2), (0, lo), (0, hi), (0, u), (0, V)]) (S' := [(0, V)]) r_310_55 rfl rfl rfl ?_
        refine gx_rt r_310_59 rfl rfl ⟨_, rfl, ?_, f_n43⟩
        have cr := q43.1
        cases r with
        | error e =>
          exfalso
          have c1 : n43 2 2 = e.1 := cr.2.1
          exact cr.2.2.2.1 (by show e.1 = 0; omega)
        | ok g =>
          exfalso
          have c1 : n43 2 2 = 2 := cr.2.1
          omega
    · refine gx_st (L' := [(2, 2), (0, lo), (0, hi), (0, u), (0, V)]) (S' := [(0, V)]) r_310_25 rfl rfl rfl ?_
      refine gx_st (L' := [(2, 2), (0, lo), (0, hi), (0, u), (0, V)]) (S' := [(0, hi), (0, V)]) r_310_27 rfl rfl rfl ?_
      refine gx_ic (P := hi < V) r_310_28 (rfl) (fun h28 => ?_) (fun h28 => ?_)
      · refine gx_st (L' := [(2, 2), (0, lo), (0, hi), (0, u), (0, V)]) (S' := [(2, 2)]) r_310_37 rfl rfl rfl ?_
        refine gx_st (L' := [(2, 2), (0, lo), (0, hi), (0, u), (0, V)]) (S' := [(0, 2), (2, 2)]) r_310_38 rfl rfl rfl ?_
        refine gx_cv (nx := 42) (S2 := []) (k_307 hT h (k := 2) (by decide) (by decide)) r_310_39 rfl rfl rfl rfl rfl (rcv_v rfl (ty_2 hT) (by decide) rfl (by decide)) rfl (by decide) rfl (fun n39 q39 => ?_)
        have f_n39 : Fr [2002, 2003, 2004, 2005, 2006] m n39 := Fr_tr Fr_rf (Fr_sub q39.2 (by decide))
        refine gx_st (L' := [(2, 2), (0, lo), (0, hi), (0, u), (0, V)]) (S' := [(2, 2)]) r_310_42 rfl rfl rfl ?_
        refine gx_cv (nx := 46) (S2 := []) (k_312 hT hx q39.1) r_310_43 rfl rfl rfl rfl rfl (rcv_v rfl (ty_2 hT) (by decide) rfl (by decide)) rfl (by decide) rfl (fun n43 q43 => ?_)
        have f_n43 : Fr [2002, 2003, 2004, 2005, 2006] m n43 := Fr_tr f_n39 (Fr_sub q43.2 (by decide))
        refine gx_st (L' := [(2, 2), (0, lo), (0, hi), (0, u), (0, V)]) (S' := [(2, 2)]) r_310_46 rfl rfl rfl ?_
        obtain ⟨x47, e_x47⟩ : ∃ z, z = n43 2 2 := ⟨_, rfl⟩
        refine gx_gf (x := x47) 0 r_310_47 (rfl) (ty_2 hT) ⟨by decide, rfl, by decide, by decide⟩ rfl (fun z => absurd z (by decide)) (e_x47.symm) ?_
        refine gx_i0 (P := ¬ x47 = 0) r_310_50 (rfl) (fun h50 => ?_) (fun h50 => ?_)
        · refine gx_st (L' := [(2, 2), (0, lo), (0, hi), (0, u), (0, V)]) (S' := [(0, 0)]) r_310_58 rfl rfl rfl ?_
          refine gx_rt r_310_59 rfl rfl ⟨_, rfl, ?_, f_n43⟩
          have cr := q43.1
          cases r with
          | error e => exact ⟨rfl, cr⟩
          | ok g =>
            have e1 := hp g rfl
            show CU X n43 0 (if ¬ nK X g.1 = 2 then (.error (1, (nS X g.1 : Int)) : PV) else if lo ≤ nV X g.1 ∧ nV X g.1 ≤ hi ∧ ¬ nV X g.1 = u then .ok (nV X g.1, nE X g.1, g.2) else .error (2, (nS X g.1 : Int)))
            have vv := nV_eq hk
            rw [if_neg (by rw [e1]; omega), if_neg (by rw [e1]; omega)]
            exact ⟨rfl, cr⟩
        · have h50 := Decidable.not_not.mp h50
          refine gx_st (L' := [(2, 2), (0, lo), (0, hi), (0, u), (0, V)]) (S' := [(0, V)]) r_310_53 rfl rfl rfl ?_
          refine gx_st (L' := [(2, 2), (0, lo), (0, hi), (0, u), (0, V)]) (S' := [(0, V)]) r_310_55 rfl rfl rfl ?_
          refine gx_rt r_310_59 rfl rfl ⟨_, rfl, ?_, f_n43⟩
          have cr := q43.1
          cases r with
          | error e =>
            exfalso
            have c1 : n43 2 2 = e.1 := cr.2.1
            exact cr.2.2.2.1 (by show e.1 = 0; omega)
          | ok g =>
            exfalso
            have c1 : n43 2 2 = 2 := cr.2.1
            omega
      · refine gx_st (L' := [(2, 2), (0, lo), (0, hi), (0, u), (0, V)]) (S' := [(0, V)]) r_310_31 rfl rfl rfl ?_
        refine gx_st (L' := [(2, 2), (0, lo), (0, hi), (0, u), (0, V)]) (S' := [(0, u), (0, V)]) r_310_33 rfl rfl rfl ?_
        refine gx_ic (P := ¬ V = u) r_310_34 (rfl) (fun h34 => ?_) (fun h34 => ?_)
        · refine gx_st (L' := [(2, 2), (0, lo), (0, hi), (0, u), (0, V)]) (S' := [(2, 2)]) r_310_42 rfl rfl rfl ?_
          refine gx_cv (nx := 46) (S2 := []) (k_312 hT hx h) r_310_43 rfl rfl rfl rfl rfl (rcv_v rfl (ty_2 hT) (by decide) rfl (by decide)) rfl (by decide) rfl (fun n43 q43 => ?_)
          have f_n43 : Fr [2002, 2003, 2004, 2005, 2006] m n43 := Fr_tr Fr_rf (Fr_sub q43.2 (by decide))
          refine gx_st (L' := [(2, 2), (0, lo), (0, hi), (0, u), (0, V)]) (S' := [(2, 2)]) r_310_46 rfl rfl rfl ?_
          obtain ⟨x47, e_x47⟩ : ∃ z, z = n43 2 2 := ⟨_, rfl⟩
          refine gx_gf (x := x47) 0 r_310_47 (rfl) (ty_2 hT) ⟨by decide, rfl, by decide, by decide⟩ rfl (fun z => absurd z (by decide)) (e_x47.symm) ?_
          refine gx_i0 (P := ¬ x47 = 0) r_310_50 (rfl) (fun h50 => ?_) (fun h50 => ?_)
          · refine gx_st (L' := [(2, 2), (0, lo), (0, hi), (0, u), (0, V)]) (S' := [(0, 0)]) r_310_58 rfl rfl rfl ?_
            refine gx_rt r_310_59 rfl rfl ⟨_, rfl, ?_, f_n43⟩
            have cr := q43.1
            cases r with
            | error e => exact ⟨rfl, cr⟩
            | ok g =>
              exfalso
              have c1 : n43 2 2 = 0 := cr.2.1
              omega
          · have h50 := Decidable.not_not.mp h50
            refine gx_st (L' := [(2, 2), (0, lo), (0, hi), (0, u), (0, V)]) (S' := [(0, V)]) r_310_53 rfl rfl rfl ?_
            refine gx_st (L' := [(2, 2), (0, lo), (0, hi), (0, u), (0, V)]) (S' := [(0, V)]) r_310_55 rfl rfl rfl ?_
            refine gx_rt r_310_59 rfl rfl ⟨_, rfl, ?_, f_n43⟩
            have cr := q43.1
            cases r with
            | error e =>
              exfalso
              have c1 : n43 2 2 = e.1 := cr.2.1
              exact cr.2.2.2.1 (by show e.1 = 0; omega)
            | ok g =>
              have e1 := hp g rfl
              have vv := nV_eq hk
              show CU X n43 V (if ¬ nK X g.1 = 2 then (.error (1, (nS X g.1 : Int)) : PV) else if lo ≤ nV X g.1 ∧ nV X g.1 ≤ hi ∧ ¬ nV X g.1 = u then .ok (nV X g.1, nE X g.1, g.2) else .error (2, (nS X g.1 : Int)))
              rw [e1, if_neg (by omega), if_pos (by omega)]
              rw [← e1] at vv ⊢
              exact ⟨by rw [e1] at vv ⊢; omega, cr⟩
        · have h34 := Decidable.not_not.mp h34
          refine gx_st (L' := [(2, 2), (0, lo), (0, hi), (0, u), (0, V)]) (S' := [(2, 2)]) r_310_37 rfl rfl rfl ?_
          refine gx_st (L' := [(2, 2), (0, lo), (0, hi), (0, u), (0, V)]) (S' := [(0, 2), (2, 2)]) r_310_38 rfl rfl rfl ?_
          refine gx_cv (nx := 42) (S2 := []) (k_307 hT h (k := 2) (by decide) (by decide)) r_310_39 rfl rfl rfl rfl rfl (rcv_v rfl (ty_2 hT) (by decide) rfl (by decide)) rfl (by decide) rfl (fun n39 q39 => ?_)
          have f_n39 : Fr [2002, 2003, 2004, 2005, 2006] m n39 := Fr_tr Fr_rf (Fr_sub q39.2 (by decide))
          refine gx_st (L' := [(2, 2), (0, lo), (0, hi), (0, u), (0, V)]) (S' := [(2, 2)]) r_310_42 rfl rfl rfl ?_
          refine gx_cv (nx := 46) (S2 := []) (k_312 hT hx q39.1) r_310_43 rfl rfl rfl rfl rfl (rcv_v rfl (ty_2 hT) (by decide) rfl (by decide)) rfl (by decide) rfl (fun n43 q43 => ?_)
          have f_n43 : Fr [2002, 2003, 2004, 2005, 2006] m n43 := Fr_tr f_n39 (Fr_sub q43.2 (by decide))
          refine gx_st (L' := [(2, 2), (0, lo), (0, hi), (0, u), (0, V)]) (S' := [(2, 2)]) r_310_46 rfl rfl rfl ?_
          obtain ⟨x47, e_x47⟩ : ∃ z, z = n43 2 2 := ⟨_, rfl⟩
          refine gx_gf (x := x47) 0 r_310_47 (rfl) (ty_2 hT) ⟨by decide, rfl, by decide, by decide⟩ rfl (fun z => absurd z (by decide)) (e_x47.symm) ?_
          refine gx_i0 (P := ¬ x47 = 0) r_310_50 (rfl) (fun h50 => ?_) (fun h50 => ?_)
          · refine gx_st (L' := [(2, 2), (0, lo), (0, hi), (0, u), (0, V)]) (S' := [(0, 0)]) r_310_58 rfl rfl rfl ?_
            refine gx_rt r_310_59 rfl rfl ⟨_, rfl, ?_, f_n43⟩
            have cr := q43.1
            cases r with
            | error e => exact ⟨rfl, cr⟩
            | ok g =>
              have e1 := hp g rfl
              show CU X n43 0 (if ¬ nK X g.1 = 2 then (.error (1, (nS X g.1 : Int)) : PV) else if lo ≤ nV X g.1 ∧ nV X g.1 ≤ hi ∧ ¬ nV X g.1 = u then .ok (nV X g.1, nE X g.1, g.2) else .error (2, (nS X g.1 : Int)))
              have vv := nV_eq hk
              rw [if_neg (by rw [e1]; omega), if_neg (by rw [e1]; omega)]
              exact ⟨rfl, cr⟩
          · have h50 := Decidable.not_not.mp h50
            refine gx_st (L' := [(2, 2), (0, lo), (0, hi), (0, u), (0, V)]) (S' := [(0, V)]) r_310_53 rfl rfl rfl ?_
            refine gx_st (L' := [(2, 2), (0, lo), (0, hi), (0, u), (0, V)]) (S' := [(0, V)]) r_310_55 rfl rfl rfl ?_
            refine gx_rt r_310_59 rfl rfl ⟨_, rfl, ?_, f_n43⟩
            have cr := q43.1
            cases r with
            | error e =>
              exfalso
              have c1 : n43 2 2 = e.1 := cr.2.1
              exact cr.2.2.2.1 (by show e.1 = 0; omega)
            | ok g =>
              exfalso
              have c1 : n43 2 2 = 2 := cr.2.1
              omega
  · exact absurd hk h5
theorem k_310b (hT : TT T) (hx : XOK X) {r : PR} (h : CR X m r) {lo hi u : Int} (hh : hi ≤ 1000) (hu : u ≤ 1000) {p : Nat} (hp8 : p ≤ 800) (ht : CT X m p) (hp : ∀ g, r = .ok g → g.1 = p) (hk : ¬ nK X p = 2) : GX T 3 310 0 [(2, 2), (0, lo), (0, hi), (0, u), (9, 0)] [] m (RI (fun v m1 => CU X m1 v (pNumU X lo hi u r) ∧ Fr [2002, 2003, 2004, 2005, 2006] m m1)) := by
  refine gx_st (L' := [(2, 2), (0, lo), (0, hi), (0, u), (9, 0)]) (S' := [(2, 2)]) r_310_0 rfl rfl rfl ?_
  refine gx_gf (x := (nK X p)) 0 r_310_1 (rfl) (ty_2 hT) ⟨by decide, rfl, by decide, by decide⟩ rfl (fun z => absurd z (by decide)) (ht.1) ?_
  refine gx_st (L' := [(2, 2), (0, lo), (0, hi), (0, u), (9, 0)]) (S' := [(0, 2), (0, (nK X p))]) r_310_4 rfl rfl rfl ?_
  refine gx_ic (P := (nK X p) = 2) r_310_5 (rfl) (fun h5 => ?_) (fun h5 => ?_)
  · exact absurd h5 hk
  · refine gx_st (L' := [(2, 2), (0, lo), (0, hi), (0, u), (9, 0)]) (S' := [(2, 2)]) r_310_8 rfl rfl rfl ?_
    refine gx_st (L' := [(2, 2), (0, lo), (0, hi), (0, u), (9, 0)]) (S' := [(0, 1), (2, 2)]) r_310_9 rfl rfl rfl ?_
    refine gx_cv (nx := 13) (S2 := []) (k_307 hT h (k := 1) (by decide) (by decide)) r_310_10 rfl rfl rfl rfl rfl (rcv_v rfl (ty_2 hT) (by decide) rfl (by decide)) rfl (by decide) rfl (fun n10 q10 => ?_)
    have f_n10 : Fr [2002, 2003, 2004, 2005, 2006] m n10 := Fr_tr Fr_rf (Fr_sub q10.2 (by decide))
    refine gx_st (L' := [(2, 2), (0, lo), (0, hi), (0, u), (9, 0)]) (S' := [(2, 2)]) r_310_13 rfl rfl rfl ?_
    refine gx_ci (nx := 17) (S2 := []) (gx_hi (args := [(2, 2)]) (pu_3 hT) ⟨gq_o2c, trivial⟩ q10.1.1.1 rfl) r_310_14 rfl rfl rfl rfl rfl (rcv_v rfl (ty_2 hT) (by decide) rfl (by decide)) rfl (by decide) rfl (fun x14 n14 q14 => ?_)
    obtain rfl := (Fr_nil q14.2.2.2).symm
    have b_x14 := And.intro q14.1 q14.2.1
    show GX T 3 310 17 [(2, 2), (0, lo), (0, hi), (0, u), (9, 0)] [(0, x14)] n10 (RI (fun v m1 => CU X m1 v (pNumU X lo hi u r) ∧ Fr [2002, 2003, 2004, 2005, 2006] m m1))
    refine gx_st (L' := [(2, 2), (0, lo), (0, hi), (0, u), (0, x14)]) (S' := []) r_310_17 rfl rfl rfl ?_
    refine gx_st (L' := [(2, 2), (0, lo), (0, hi), (0, u), (0, x14)]) (S' := [(0, x14)]) r_310_19 rfl rfl rfl ?_
    refine gx_st (L' := [(2, 2), (0, lo), (0, hi), (0, u), (0, x14)]) (S' := [(0, lo), (0, x14)]) r_310_21 rfl rfl rfl ?_
    refine gx_ic (P := x14 < lo) r_310_22 (rfl) (fun h22 => ?_) (fun h22 => ?_)
    · refine gx_st (L' := [(2, 2), (0, lo), (0, hi), (0, u), (0, x14)]) (S' := [(2, 2)]) r_310_37 rfl rfl rfl ?_
      refine gx_st (L' := [(2, 2), (0, lo), (0, hi), (0, u), (0, x14)]) (S' := [(0, 2), (2, 2)]) r_310_38 rfl rfl rfl ?_
      refine gx_cv (nx := 42) (S2 := []) (k_307 hT q10.1 (k := 2) (by decide) (by decide)) r_310_39 rfl rfl rfl rfl rfl (rcv_v rfl (ty_2 hT) (by decide) rfl (by decide)) rfl (by decide) rfl (fun n39 q39 => ?_)
      have f_n39 : Fr [2002, 2003, 2004, 2005, 2006] m n39 := Fr_tr f_n10 (Fr_sub q39.2 (by decide))
      refine gx_st (L' := [(2, 2), (0, lo), (0, hi), (0, u), (0, x14)]) (S' := [(2, 2)]) r_310_42 rfl rfl rfl ?_
      refine gx_cv (nx := 46) (S2 := []) (k_312 hT hx q39.1) r_310_43 rfl rfl rfl rfl rfl (rcv_v rfl (ty_2 hT) (by decide) rfl (by decide)) rfl (by decide) rfl (fun n43 q43 => ?_)
      have f_n43 : Fr [2002, 2003, 2004, 2005, 2006] m n43 := Fr_tr f_n39 (Fr_sub q43.2 (by decide))
      refine gx_st (L' := [(2, 2), (0, lo), (0, hi), (0, u), (0, x14)]) (S' := [(2, 2)]) r_310_46 rfl rfl rfl ?_
      obtain ⟨x47, e_x47⟩ : ∃ z, z = n43 2 2 := ⟨_, rfl⟩
      refine gx_gf (x := x47) 0 r_310_47 (rfl) (ty_2 hT) ⟨by decide, rfl, by decide, by decide⟩ rfl (fun z => absurd z (by decide)) (e_x47.symm) ?_
      refine gx_i0 (P := ¬ x47 = 0) r_310_50 (rfl) (fun h50 => ?_) (fun h50 => ?_)
      · refine gx_st (L' := [(2, 2), (0, lo), (0, hi), (0, u), (0, x14)]) (S' := [(0, 0)]) r_310_58 rfl rfl rfl ?_
        refine gx_rt r_310_59 rfl rfl ⟨_, rfl, ?_, f_n43⟩
        have cr := q43.1
        cases r with
        | error e => exact ⟨rfl, cr⟩
        | ok g =>
          have e1 := hp g rfl
          show CU X n43 0 (if ¬ nK X g.1 = 2 then (.error (1, (nS X g.1 : Int)) : PV) else if lo ≤ nV X g.1 ∧ nV X g.1 ≤ hi ∧ ¬ nV X g.1 = u then .ok (nV X g.1, nE X g.1, g.2) else .error (2, (nS X g.1 : Int)))
          rw [if_pos (by rw [e1]; exact hk)]
          exact ⟨rfl, cr⟩
      · have h50 := Decidable.not_not.mp h50
        refine gx_st (L' := [(2, 2), (0, lo), (0, hi), (0, u), (0, x14)]) (S' := [(0, x14)]) r_310_53 rfl rfl rfl ?_
        refine gx_st (L' := [(2, 2), (0, lo), (0, hi), (0, u), (0, x14)]) (S' := [(0, x14)]) r_310_55 rfl rfl rfl ?_
        refine gx_rt r_310_59 rfl rfl ⟨_, rfl, ?_, f_n43⟩
        have cr := q43.1
        cases r with
        | error e =>
          exfalso
          have c1 : n43 2 2 = e.1 := cr.2.1
          exact cr.2.2.2.1 (by show e.1 = 0; omega)
        | ok g =>
          exfalso
          have c1 : n43 2 2 = 1 := cr.2.1
          omega
    · refine gx_st (L' := [(2, 2), (0, lo), (0, hi), (0, u), (0, x14)]) (S' := [(0, x14)]) r_310_25 rfl rfl rfl ?_
      refine gx_st (L' := [(2, 2), (0, lo), (0, hi), (0, u), (0, x14)]) (S' := [(0, hi), (0, x14)]) r_310_27 rfl rfl rfl ?_
      refine gx_ic (P := hi < x14) r_310_28 (rfl) (fun h28 => ?_) (fun h28 => ?_)
      · refine gx_st (L' := [(2, 2), (0, lo), (0, hi), (0, u), (0, x14)]) (S' := [(2, 2)]) r_310_37 rfl rfl rfl ?_
        refine gx_st (L' := [(2, 2), (0, lo), (0, hi), (0, u), (0, x14)]) (S' := [(0, 2), (2, 2)]) r_310_38 rfl rfl rfl ?_
        refine gx_cv (nx := 42) (S2 := []) (k_307 hT q10.1 (k := 2) (by decide) (by decide)) r_310_39 rfl rfl rfl rfl rfl (rcv_v rfl (ty_2 hT) (by decide) rfl (by decide)) rfl (by decide) rfl (fun n39 q39 => ?_)
        have f_n39 : Fr [2002, 2003, 2004, 2005, 2006] m n39 := Fr_tr f_n10 (Fr_sub q39.2 (by decide))
        refine gx_st (L' := [(2, 2), (0, lo), (0, hi), (0, u), (0, x14)]) (S' := [(2, 2)]) r_310_42 rfl rfl rfl ?_
        refine gx_cv (nx := 46) (S2 := []) (k_312 hT hx q39.1) r_310_43 rfl rfl rfl rfl rfl (rcv_v rfl (ty_2 hT) (by decide) rfl (by decide)) rfl (by decide) rfl (fun n43 q43 => ?_)
        have f_n43 : Fr [2002, 2003, 2004, 2005, 2006] m n43 := Fr_tr f_n39 (Fr_sub q43.2 (by decide))
        refine gx_st (L' := [(2, 2), (0, lo), (0, hi), (0, u), (0, x14)]) (S' := [(2, 2)]) r_310_46 rfl rfl rfl ?_
        obtain ⟨x47, e_x47⟩ : ∃ z, z = n43 2 2 := ⟨_, rfl⟩
        refine gx_gf (x := x47) 0 r_310_47 (rfl) (ty_2 hT) ⟨by decide, rfl, by decide, by decide⟩ rfl (fun z => absurd z (by decide)) (e_x47.symm) ?_
        refine gx_i0 (P := ¬ x47 = 0) r_310_50 (rfl) (fun h50 => ?_) (fun h50 => ?_)
        · refine gx_st (L' := [(2, 2), (0, lo), (0, hi), (0, u), (0, x14)]) (S' := [(0, 0)]) r_310_58 rfl rfl rfl ?_
          refine gx_rt r_310_59 rfl rfl ⟨_, rfl, ?_, f_n43⟩
          have cr := q43.1
          cases r with
          | error e => exact ⟨rfl, cr⟩
          | ok g =>
            have e1 := hp g rfl
            show CU X n43 0 (if ¬ nK X g.1 = 2 then (.error (1, (nS X g.1 : Int)) : PV) else if lo ≤ nV X g.1 ∧ nV X g.1 ≤ hi ∧ ¬ nV X g.1 = u then .ok (nV X g.1, nE X g.1, g.2) else .error (2, (nS X g.1 : Int)))
            rw [if_pos (by rw [e1]; exact hk)]
            exact ⟨rfl, cr⟩
        · have h50 := Decidable.not_not.mp h50
          refine gx_st (L' := [(2, 2), (0, lo), (0, hi), (0, u), (0, x14)]) (S' := [(0, x14)]) r_310_53 rfl rfl rfl ?_
          refine gx_st (L' := [(2, 2), (0, lo), (0, hi), (0, u), (0, x14)]) (S' := [(0, x14)]) r_310_55 rfl rfl rfl ?_
          refine gx_rt r_310_59 rfl rfl ⟨_, rfl, ?_, f_n43⟩
          have cr := q43.1
          cases r with
          | error e =>
            exfalso
            have c1 : n43 2 2 = e.1 := cr.2.1
            exact cr.2.2.2.1 (by show e.1 = 0; omega)
          | ok g =>
            exfalso
            have c1 : n43 2 2 = 1 := cr.2.1
            omega
      · refine gx_st (L' := [(2, 2), (0, lo), (0, hi), (0, u), (0, x14)]) (S' := [(0, x14)]) r_310_31 rfl rfl rfl ?_
        refine gx_st (L' := [(2, 2), (0, lo), (0, hi), (0, u), (0, x14)]) (S' := [(0, u), (0, x14)]) r_310_33 rfl rfl rfl ?_
        refine gx_ic (P := ¬ x14 = u) r_310_34 (rfl) (fun h34 => ?_) (fun h34 => ?_)
        · refine gx_st (L' := [(2, 2), (0, lo), (0, hi), (0, u), (0, x14)]) (S' := [(2, 2)]) r_310_42 rfl rfl rfl ?_
          refine gx_cv (nx := 46) (S2 := []) (k_312 hT hx q10.1) r_310_43 rfl rfl rfl rfl rfl (rcv_v rfl (ty_2 hT) (by decide) rfl (by decide)) rfl (by decide) rfl (fun n43 q43 => ?_)
          have f_n43 : Fr [2002, 2003, 2004, 2005, 2006] m n43 := Fr_tr f_n10 (Fr_sub q43.2 (by decide))
          refine gx_st (L' := [(2, 2), (0, lo), (0, hi), (0, u), (0, x14)]) (S' := [(2, 2)]) r_310_46 rfl rfl rfl ?_
          obtain ⟨x47, e_x47⟩ : ∃ z, z = n43 2 2 := ⟨_, rfl⟩
          refine gx_gf (x := x47) 0 r_310_47 (rfl) (ty_2 hT) ⟨by decide, rfl, by decide, by decide⟩ rfl (fun z => absurd z (by decide)) (e_x47.symm) ?_
          refine gx_i0 (P := ¬ x47 = 0) r_310_50 (rfl) (fun h50 => ?_) (fun h50 => ?_)
          · refine gx_st (L' := [(2, 2), (0, lo), (0, hi), (0, u), (0, x14)]) (S' := [(0, 0)]) r_310_58 rfl rfl rfl ?_
            refine gx_rt r_310_59 rfl rfl ⟨_, rfl, ?_, f_n43⟩
            have cr := q43.1
            cases r with
            | error e => exact ⟨rfl, cr⟩
            | ok g =>
              have e1 := hp g rfl
              show CU X n43 0 (if ¬ nK X g.1 = 2 then (.error (1, (nS X g.1 : Int)) : PV) else if lo ≤ nV X g.1 ∧ nV X g.1 ≤ hi ∧ ¬ nV X g.1 = u then .ok (nV X g.1, nE X g.1, g.2) else .error (2, (nS X g.1 : Int)))
              rw [if_pos (by rw [e1]; exact hk)]
              exact ⟨rfl, cr⟩
          · have h50 := Decidable.not_not.mp h50
            refine gx_st (L' := [(2, 2), (0, lo), (0, hi), (0, u), (0, x14)]) (S' := [(0, x14)]) r_310_53 rfl rfl rfl ?_
            refine gx_st (L' := [(2, 2), (0, lo), (0, hi), (0, u), (0, x14)]) (S' := [(0, x14)]) r_310_55 rfl rfl rfl ?_
            refine gx_rt r_310_59 rfl rfl ⟨_, rfl, ?_, f_n43⟩
            have cr := q43.1
            cases r with
            | error e =>
              exfalso
              have c1 : n43 2 2 = e.1 := cr.2.1
              exact cr.2.2.2.1 (by show e.1 = 0; omega)
            | ok g =>
              exfalso
              have c1 : n43 2 2 = 1 := cr.2.1
              omega
        · have h34 := Decidable.not_not.mp h34
          refine gx_st (L' := [(2, 2), (0, lo), (0, hi), (0, u), (0, x14)]) (S' := [(2, 2)]) r_310_37 rfl rfl rfl ?_
          refine gx_st (L' := [(2, 2), (0, lo), (0, hi), (0, u), (0, x14)]) (S' := [(0, 2), (2, 2)]) r_310_38 rfl rfl rfl ?_
          refine gx_cv (nx := 42) (S2 := []) (k_307 hT q10.1 (k := 2) (by decide) (by decide)) r_310_39 rfl rfl rfl rfl rfl (rcv_v rfl (ty_2 hT) (by decide) rfl (by decide)) rfl (by decide) rfl (fun n39 q39 => ?_)
          have f_n39 : Fr [2002, 2003, 2004, 2005, 2006] m n39 := Fr_tr f_n10 (Fr_sub q39.2 (by decide))
          refine gx_st (L' := [(2, 2), (0, lo), (0, hi), (0, u), (0, x14)]) (S' := [(2, 2)]) r_310_42 rfl rfl rfl ?_
          refine gx_cv (nx := 46) (S2 := []) (k_312 hT hx q39.1) r_310_43 rfl rfl rfl rfl rfl (rcv_v rfl (ty_2 hT) (by decide) rfl (by decide)) rfl (by decide) rfl (fun n43 q43 => ?_)
          have f_n43 : Fr [2002, 2003, 2004, 2005, 2006] m n43 := Fr_tr f_n39 (Fr_sub q43.2 (by decide))
          refine gx_st (L' := [(2, 2), (0, lo), (0, hi), (0, u), (0, x14)]) (S' := [(2, 2)]) r_310_46 rfl rfl rfl ?_
          obtain ⟨x47, e_x47⟩ : ∃ z, z = n43 2 2 := ⟨_, rfl⟩
          refine gx_gf (x := x47) 0 r_310_47 (rfl) (ty_2 hT) ⟨by decide, rfl, by decide, by decide⟩ rfl (fun z => absurd z (by decide)) (e_x47.symm) ?_
          refine gx_i0 (P := ¬ x47 = 0) r_310_50 (rfl) (fun h50 => ?_) (fun h50 => ?_)
          · refine gx_st (L' := [(2, 2), (0, lo), (0, hi), (0, u), (0, x14)]) (S' := [(0, 0)]) r_310_58 rfl rfl rfl ?_
            refine gx_rt r_310_59 rfl rfl ⟨_, rfl, ?_, f_n43⟩
            have cr := q43.1
            cases r with
            | error e => exact ⟨rfl, cr⟩
            | ok g =>
              have e1 := hp g rfl
              show CU X n43 0 (if ¬ nK X g.1 = 2 then (.error (1, (nS X g.1 : Int)) : PV) else if lo ≤ nV X g.1 ∧ nV X g.1 ≤ hi ∧ ¬ nV X g.1 = u then .ok (nV X g.1, nE X g.1, g.2) else .error (2, (nS X g.1 : Int)))
              rw [if_pos (by rw [e1]; exact hk)]
              exact ⟨rfl, cr⟩
          · have h50 := Decidable.not_not.mp h50
            refine gx_st (L' := [(2, 2), (0, lo), (0, hi), (0, u), (0, x14)]) (S' := [(0, x14)]) r_310_53 rfl rfl rfl ?_
            refine gx_st (L' := [(2, 2), (0, lo), (0, hi), (0, u), (0, x14)]) (S' := [(0, x14)]) r_310_55 rfl rfl rfl ?_
            refine gx_rt r_310_59 rfl rfl ⟨_, rfl, ?_, f_n43⟩
            have cr := q43.1
            cases r with
            | error e =>
              exfalso
              have c1 : n43 2 2 = e.1 := cr.2.1
              exact cr.2.2.2.1 (by show e.1 = 0; omega)
            | ok g =>
              exfalso
              have c1 : n43 2 2 = 1 := cr.2.1
              omega
theorem k_310 (hT : TT T) (hx : XOK X) {r : PR} (h : CR X m r) {lo hi u : Int} (hh : hi ≤ 1000) (hu : u ≤ 1000) : GX T 3 310 0 [(2, 2), (0, lo), (0, hi), (0, u), (9, 0)] [] m (RI (fun v m1 => CU X m1 v (pNumU X lo hi u r) ∧ Fr [2002, 2003, 2004, 2005, 2006] m m1)) := by
  obtain ⟨p, hp8, ht, hp⟩ := CR_p h
  by_cases hk : nK X p = 2
  · exact k_310a hT hx h hh hu hp8 ht hp hk
  · exact k_310b hT hx h hh hu hp8 ht hp hk
theorem numU_eq {lo hi : Int} {r : PR} (hl : 0 ≤ lo) : pNumU X lo hi (-1) r = pNum X lo hi r := by
  cases r with
  | error e => rfl
  | ok g =>
    show (if ¬ nK X g.1 = 2 then (.error (1, (nS X g.1 : Int)) : PV) else if lo ≤ nV X g.1 ∧ nV X g.1 ≤ hi ∧ ¬ nV X g.1 = -1 then .ok (nV X g.1, nE X g.1, g.2) else .error (2, (nS X g.1 : Int))) = (if ¬ nK X g.1 = 2 then (.error (1, (nS X g.1 : Int)) : PV) else if lo ≤ nV X g.1 ∧ nV X g.1 ≤ hi then .ok (nV X g.1, nE X g.1, g.2) else .error (2, (nS X g.1 : Int)))
    by_cases hk : nK X g.1 = 2
    · rw [if_neg (not_not_intro hk), if_neg (not_not_intro hk)]
      have := nV_in hk
      by_cases c : lo ≤ nV X g.1 ∧ nV X g.1 ≤ hi
      · rw [if_pos ⟨c.1, c.2, by omega⟩, if_pos c]
      · rw [if_neg (fun z => c ⟨z.1, z.2.1⟩), if_neg c]
    · rw [if_pos hk, if_pos hk]
/-- with what holds of memory and world where there is no fault -/
def CD (P : Mm → Wd → Prop) (X : Nat → Int) (m : Mm) (r : PR) : Prop := CR X m r ∧ ∀ g, r = .ok g → P m g.2
def CV (P : Mm → Wd → Prop) (X : Nat → Int) (m : Mm) (v : Int) (r : PV) : Prop := CU X m v r ∧ ∀ g, r = .ok g → P m g.2.2
/-- it doesn't speak of the tape's own fields -/
def Ind (P : Mm → Wd → Prop) : Prop := ∀ (m m' : Mm) (w : Wd), (∀ o i : Nat, ¬ o = 2 → o < 213 → i < 900 → m' o i = m o i) → P m w → P m' w
theorem uq_2c : ∀ n : Nat, n < 213 → tyO n = 2 → n = 2 := by decide +kernel
theorem fr_c2 {W : List Nat} {m m' : Mm} (h : Fr W m m') (hW : W.all (fun c => decide (2000 ≤ c ∧ c < 3000)) = true) : ∀ o i : Nat, ¬ o = 2 → o < 213 → i < 900 → m' o i = m o i := by
  intro o i h2 ho hi
  refine h o i ?_
  cases e : W.contains (tyO o * 1000 + (if (tyK (tyO o)).1 < 100 then i else 999)) with
  | false => rfl
  | true =>
    exfalso
    have h3 := of_decide_eq_true (List.all_eq_true.mp hW _ (List.contains_iff_mem.mp e))
    have h4 : tyO o = 2 := by
      by_cases c : (tyK (tyO o)).1 < 100
      · rw [if_pos c] at h3; omega
      · rw [if_neg c] at h3; omega
    exact h2 (uq_2c o ho h4)
theorem need_w {q : Nat} {r : PR} {g : Nat × Wd} (h : pNeed X q r = .ok g) : ∃ g0, r = .ok g0 ∧ g0.2 = g.2 := by
  cases r with
  | error e => cases h
  | ok z =>
    have h : (if isWd X z.1 q = true then (.ok (nE X z.1, z.2) : PR) else .error (1, (nS X z.1 : Int))) = .ok g := h
    split at h
    · cases h; exact ⟨z, rfl, rfl⟩
    · cases h
theorem numU_w {lo hi u : Int} {r : PR} {g : Int × Nat × Wd} (h : pNumU X lo hi u r = .ok g) : (∃ g0, r = .ok g0 ∧ g0.2 = g.2.2) ∧ lo ≤ g.1 ∧ g.1 ≤ hi ∧ ¬ g.1 = u := by
  cases r with
  | error e => cases h
  | ok z =>
    have h : (if ¬ nK X z.1 = 2 then (.error (1, (nS X z.1 : Int)) : PV) else if lo ≤ nV X z.1 ∧ nV X z.1 ≤ hi ∧ ¬ nV X z.1 = u then .ok (nV X z.1, nE X z.1, z.2) else .error (2, (nS X z.1 : Int))) = .ok g := h
    split at h
    · cases h
    · split at h
      · rename_i c
        cases h; exact ⟨⟨z, rfl, rfl⟩, c⟩
      · cases h
theorem d_309 {P : Mm → Wd → Prop} (hP : Ind P) (hT : TT T) (hx : XOK X) {r : PR} (h : CD P X m r) {o : Int} {q n : Nat} (hq : q < 15) (ho : o = 1000000 + (q : Int)) (hn : slen q = some n) : GX T 3 309 0 [(2, 2), (2, o)] [] m (RV (fun m1 => CD P X m1 (pNeed X q r) ∧ Fr [2002, 2003, 2004, 2005, 2006] m m1)) :=
  gx_imp (k_309 hT hx h.1 hq ho hn) (fun v m' ⟨e, a, b⟩ => ⟨e, ⟨a, fun g hg => by
    obtain ⟨g0, e0, e1⟩ := need_w hg
    rw [← e1]
    exact hP m m' g0.2 (fr_c2 b (by decide)) (h.2 g0 e0)⟩, b⟩)
theorem d_310 {P : Mm → Wd → Prop} (hP : Ind P) (hT : TT T) (hx : XOK X) {r : PR} (h : CR X m r) {lo hi u : Int} (hh : hi ≤ 1000) (hu : u ≤ 1000) (hd : ∀ g, r = .ok g → P m g.2) : GX T 3 310 0 [(2, 2), (0, lo), (0, hi), (0, u), (9, 0)] [] m (RI (fun v m1 => (CV P X m1 v (pNumU X lo hi u r) ∧ (v = 0 ∨ (lo ≤ v ∧ v ≤ hi ∧ ¬ v = u))) ∧ Fr [2002, 2003, 2004, 2005, 2006] m m1)) :=
  gx_imp (k_310 hT hx h hh hu) (fun v m' ⟨x, e, a, b⟩ => ⟨x, e, ⟨⟨a, fun g hg => by
    obtain ⟨⟨g0, e0, e1⟩, -⟩ := numU_w hg
    rw [← e1]
    exact hP m m' g0.2 (fr_c2 b (by decide)) (hd g0 e0)⟩, by
      cases hr : pNumU X lo hi u r with
      | error z => rw [hr] at a; exact Or.inl a.1
      | ok g => rw [hr] at a; have a1 : x = g.1 := a.1; rw [a1]; exact Or.inr (numU_w hr).2⟩, b⟩)
theorem d_312 {P : Mm → Wd → Prop} (hP : Ind P) (hT : TT T) (hx : XOK X) {r : PR} (h : CD P X m r) : GX T 2 312 0 [(2, 2), (9, 0)] [] m (RV (fun m1 => CD P X m1 (pAdv X r) ∧ Fr [2004, 2005, 2006] m m1)) :=
  gx_imp (k_312 hT hx h.1) (fun v m' ⟨e, a, b⟩ => ⟨e, ⟨a, fun g hg => by
    cases r with
    | error z => cases hg
    | ok z => cases hg; exact hP m m' z.2 (fr_c2 b (by decide)) (h.2 z rfl)⟩, b⟩)
theorem d_307 {P : Mm → Wd → Prop} (hT : TT T) {r : PR} (h : CD P X m r) {k : Int} (hk1 : 1 ≤ k) (hk2 : k ≤ 3) : GX T 0 307 0 [(2, 2), (0, k)] [] m (RV (fun m1 => CD P X m1 (pErr X k r) ∧ Fr [2002, 2003] m m1)) :=
  gx_imp (k_307 hT h.1 hk1 hk2) (fun v m' ⟨e, a, b⟩ => ⟨e, ⟨a, fun g hg => by
    cases r with
    | error z => cases hg
    | ok z => cases hg⟩, b⟩)
/-- what is written and told in the world alike -/
theorem CD_put {P P' : Mm → Wd → Prop} {v : Int} {r : PV} {i : Nat} (h : CV P X m v r) {m1 : Mm} (hc : CC X m1) (h2 : ∀ i, m1 2 i = m 2 i) (hP : ∀ w, P m w → P' m1 (upw w i v)) : CD P' X m1 (pSet i r) := by
  obtain ⟨a, b⟩ := h
  cases r with
  | error e =>
    refine ⟨⟨hc, ?_⟩, fun g hg => by cases hg⟩
    obtain ⟨p, c1, c2⟩ := a.2.2.2.2.2
    exact ⟨(h2 2).trans a.2.2.1, (h2 3).trans a.2.2.2.1, a.2.2.2.2.1, p, c1, by unfold CT at *; rw [h2 4, h2 5, h2 6]; exact c2⟩
  | ok g =>
    have a1 : v = g.1 := a.1
    refine ⟨⟨hc, (h2 2).trans a.2.2.1, (h2 3).trans a.2.2.2.1, a.2.2.2.2.1, by have c2 := a.2.2.2.2.2; unfold CT at *; rw [h2 4, h2 5, h2 6]; exact c2⟩, fun g2 hg => ?_⟩
    cases hg
    have := hP g.2.2 (b g rfl)
    rw [a1] at this
    exact this
theorem CD_up {P P' : Mm → Wd → Prop} {r : PR} {i : Nat} {x : Int} (h : CD P X m r) {m1 : Mm} (hc : CC X m1) (h2 : ∀ i, m1 2 i = m 2 i) (hP : ∀ w, P m w → P' m1 (upw w i x)) : CD P' X m1 (r.bind fun g => .ok (g.1, upw g.2 i x)) := by
  obtain ⟨a, b⟩ := h
  cases r with
  | error e =>
    refine ⟨⟨hc, ?_⟩, fun g hg => by cases hg⟩
    obtain ⟨p, c1, c2⟩ := a.2.2.2.2
    exact ⟨(h2 2).trans a.2.1, (h2 3).trans a.2.2.1, a.2.2.2.1, p, c1, by unfold CT at *; rw [h2 4, h2 5, h2 6]; exact c2⟩
  | ok g =>
    refine ⟨⟨hc, (h2 2).trans a.2.1, (h2 3).trans a.2.2.1, a.2.2.2.1, by have c2 := a.2.2.2.2; unfold CT at *; rw [h2 4, h2 5, h2 6]; exact c2⟩, fun g2 hg => ?_⟩
    cases hg
    exact hP g.2 (b g rfl)
theorem CD_mono {P P' : Mm → Wd → Prop} {r : PR} (h : CD P X m r) (hP : ∀ w, P m w → P' m w) : CD P' X m r := ⟨h.1, fun g hg => hP g.2 (h.2 g hg)⟩
end LINC
