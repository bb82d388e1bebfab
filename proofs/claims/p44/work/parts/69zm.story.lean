/-! the story told anew -/
theorem r_75_0 : row 75 0 = some (.aload_n 0, 1, 0, 0, 0, 0) := rfl
theorem r_75_1 : row 75 1 = some (.iconst 0, 2, 0, 0, 0, 0) := rfl
theorem r_75_2 : row 75 2 = some (.putfield 89, 5, 9, 15, 3, 2173) := rfl
theorem r_75_5 : row 75 5 = some (.aload_n 0, 6, 0, 0, 0, 0) := rfl
theorem r_75_6 : row 75 6 = some (.getfield 39, 9, 9, 5, 2, 2163) := rfl
theorem r_75_9 : row 75 9 = some (.aload_n 0, 10, 0, 0, 0, 0) := rfl
theorem r_75_10 : row 75 10 = some (.getfield 19, 13, 9, 1, 2, 2159) := rfl
theorem r_75_13 : row 75 13 = some (.aload_n 0, 14, 0, 0, 0, 0) := rfl
theorem r_75_14 : row 75 14 = some (.getfield 29, 17, 9, 3, 2, 2161) := rfl
theorem r_75_17 : row 75 17 = some (.iconst 0, 18, 0, 0, 0, 0) := rfl
theorem r_75_18 : row 75 18 = some (.aload_n 0, 19, 0, 0, 0, 0) := rfl
theorem r_75_19 : row 75 19 = some (.getfield 19, 22, 9, 1, 2, 2159) := rfl
theorem r_75_22 : row 75 22 = some (.iconst 0, 23, 0, 0, 0, 0) := rfl
theorem r_75_23 : row 75 23 = some (.invokevirtual 155, 26, 258, 1, 10, 3166) := rfl
theorem r_75_26 : row 75 26 = some (.invokevirtual 255, 29, 288, 4, 10, 3170) := rfl
theorem r_75_29 : row 75 29 = some (.return_, 30, 0, 0, 0, 0) := rfl
theorem gx_all {T : List Kd} {d d2 j pc : Nat} {L S : List AV} {m : Mm} {X : Type} {Q0 : AV → Mm → Prop} {Q : X → AV → Mm → Prop} (h0 : GX T d j pc L S m Q0) (h : ∀ x : X, GX T d2 j pc L S m (Q x)) : GX T d j pc L S m (fun v m1 => Q0 v m1 ∧ ∀ x : X, Q x v m1) := by
  obtain ⟨v, m1, r1, q1⟩ := h0
  refine ⟨v, m1, r1, q1, fun x => ?_⟩
  obtain ⟨v2, m2, r2, q2⟩ := h x
  have e := Rn_det r1 r2
  injection e with e1 e2
  injection e2 with e3 e4
  subst e1 e4
  exact q2
/-- weight and fruit of a world are within bounds -/
def WBf (w : Nat → Int) : Prop := (0 ≤ w 2 ∧ w 2 ≤ 20) ∧ ∀ t : Nat, t < 5 → (t : Int) < w 5 → 0 ≤ w (32 + 2 * t) ∧ w (32 + 2 * t) ≤ 9
/-- the class's story tells the ride on its isle with its acts -/
def StoryX (m : Mm) : Prop := 0 < m 4 0 → ∀ (w : Nat → Int) (D : Nat → Nat → Int), WD m 4 w → WBf w → WyD w D → (∀ h : Nat, h < 12 → 0 ≤ m 23 h ∧ m 23 h ≤ 16) → StoryD m 28 w D (m 23) (beginF w 0 (w 47)) (w 1).toNat
theorem storyx_e {m m1 : Mm} (h : StoryX m) (e1 : ∀ p i : Nat, 4 ≤ p → p ≤ 12 → i < 900 → m1 p i = m p i) (e2 : ∀ i : Nat, m1 23 i = m 23 i) (e0 : ∀ i : Nat, 10 ≤ i → i ≤ 13 → m1 28 i = m 28 i) (e3 : ∀ p i : Nat, 32 ≤ p → p ≤ 40 → m1 p i = m p i) : StoryX m1 := by
  intro h0 w D hw hb hD hA
  rw [e1 4 0 (by decide) (by decide) (by decide)] at h0
  have q := h h0 w D (WD_eq hw (fun p i p1 p2 hi => (e1 p i p1 p2 hi).symm)) hb hD (fun k hk => by rw [← e2 k]; exact hA k hk)
  rw [show m1 23 = m 23 from funext e2]
  exact story_e q e0 e3
/-- a frame that leaves isle, acts and story -/
def nS_ (W : List Nat) : Bool := W.all (fun c => decide (c < 1000 * 4 ∨ 1000 * 13 ≤ c)) && !W.contains 23999 && !W.contains 28010 && !W.contains 28011 && !W.contains 28012 && !W.contains 28013 && W.all (fun c => decide (c < 1000 * 32 ∨ 1000 * 41 ≤ c))
theorem ty_so : ∀ p : Nat, p < 41 → 32 ≤ p → tyO p = p ∧ ¬ (tyK (tyO p)).1 < 100 := by decide +kernel
theorem ct_f {W : List Nat} {c : Nat} (h : (!W.contains c) = true) : W.contains c = false := by revert h; cases W.contains c <;> decide
theorem storyx_fr {W : List Nat} {m m1 : Mm} (f : Fr W m m1) (hW : nS_ W = true) (h : StoryX m) : StoryX m1 := by
  unfold nS_ at hW
  rw [Bool.and_eq_true, Bool.and_eq_true, Bool.and_eq_true, Bool.and_eq_true, Bool.and_eq_true, Bool.and_eq_true] at hW
  obtain ⟨⟨⟨⟨⟨⟨h1, h2⟩, h3⟩, h4⟩, h5⟩, h6⟩, h7⟩ := hW
  refine storyx_e h (fr_4 f h1) (fun i => f 23 i (ct_f h2)) (fun i i1 i2 => ?_) (fun p i p1 p2 => ?_)
  · have hi : i = 10 ∨ i = 11 ∨ i = 12 ∨ i = 13 := by omega
    rcases hi with rfl | rfl | rfl | rfl
    · exact f 28 10 (ct_f h3)
    · exact f 28 11 (ct_f h4)
    · exact f 28 12 (ct_f h5)
    · exact f 28 13 (ct_f h6)
  · obtain ⟨t1, t2⟩ := ty_so p (by omega) p1
    refine f p i ?_
    rw [if_neg t2, t1]
    cases e : W.contains (p * 1000 + 999) with
    | false => rfl
    | true =>
      exfalso
      have h3 := of_decide_eq_true (List.all_eq_true.mp h7 _ (List.contains_iff_mem.mp e))
      omega
theorem begin_eq {w : Wd} {x y : Int} (h : 0 < w 7 → x = y) : beginF w 0 x = beginF w 0 y := by
  unfold beginF
  by_cases c : 0 < w 7
  · rw [h c]
  · simp only [if_neg c]
section TELLX
variable {T : List Kd} {m : Mm}
theorem stT_28 (hT : TT T) : StT T 28 := ⟨StoryT_of hT rfl, RideT_of hT rfl⟩
theorem stR_28 (hp : PinR m) : StR m 28 := ⟨StoryR_of hp rfl, RideR_of hp rfl⟩
theorem tell_x (hT : TT T) (hm : Gam m) (hp : PinR m) : GX T 12 288 0 [(2, 28), (2, 4), (2, 22), (0, 0), (0, m 9 0), (9, 0), (9, 0), (9, 0)] [] m (RV (fun m1 => (Gam m1 ∧ Fr [28010, 28011, 28012, 28013, 29000, 29001, 29002, 29003, 29004, 29005, 29006, 29007, 30999, 31999, 32999, 33999, 34999, 35999, 36999, 37999, 38999, 39999, 40999] m m1) ∧ StoryX m1)) := by
  have c := gx_hv (T := T) (args := [(2, 28), (2, 4), (2, 22), (0, 0), (0, m 9 0)]) (pu_276 hT) ⟨gq_o28y2, gq_o4y2, gq_o22y2, gq_any (by decide) (by decide), gq_any (gu_i (hm 9 (by decide) (by decide) 0 (by decide)) rfl).1 (gu_i (hm 9 (by decide) (by decide) 0 (by decide)) rfl).2, trivial⟩ hm rfl
  refine gx_imp (gx_all (gx_d c (by decide)) (X := (Nat → Int) × (Nat → Nat → Int)) (d2 := 12) (Q := fun x => RV (fun m1 => WD m 4 x.1 → WBf x.1 → WyD x.1 x.2 → (∀ h : Nat, h < 12 → 0 ≤ m 23 h ∧ m 23 h ≤ 16) → StoryD m1 28 x.1 x.2 (m 23) (beginF x.1 0 (x.1 47)) (x.1 1).toNat ∧ FrS 28 m m1)) (fun x => ?_)) (fun v m1 ⟨⟨e, g, f⟩, z⟩ => ⟨e, ⟨g, f⟩, fun h0 w D hw hb hD hA => ?_⟩)
  · by_cases k : WD m 4 x.1 ∧ WBf x.1 ∧ WyD x.1 x.2 ∧ ∀ h : Nat, h < 12 → 0 ≤ m 23 h ∧ m 23 h ≤ 16
    · obtain ⟨hw, hb, hD, hA⟩ := k
      have h12 : 0 ≤ m 4 2 ∧ m 4 2 ≤ 12 := (gc_0 rfl).mp (hm 4 (by decide) (by decide) 2 (by decide))
      have e2 : m 4 2 = x.1 1 := hw.1.2.2.1
      have hw0 := hw.2.1.1
      have h9 : 0 < x.1 7 → m 9 0 = x.1 47 ∧ 0 ≤ x.1 47 ∧ x.1 47 < x.1 0 := fun k0 => ⟨(wd_bear hw (b := 0) k0).1, (hw.2.2.2.2.2 0 (by decide) k0).1, (hw.2.2.2.2.2 0 (by decide) k0).2.1⟩
      have e := begin_eq (w := x.1) (x := m 9 0) (y := x.1 47) (fun k0 => (h9 k0).1)
      have hS : SB x.1 (beginF x.1 ((0 : Nat) : Int) (m 9 0)) 0 := sb_begin hb.1 hb.2 (by decide) (fun k0 => by have := h9 k0; omega)
      refine gx_imp (gx_d (z_288 hT (IsleT_of hT rfl) (IsleR_of hp rfl) hw (stT_28 hT) (ActsT_of hT rfl) (ActsR_of hp rfl) (by decide) (by decide) hD hA (nn := (x.1 1).toNat) (by omega) (by omega) (stR_28 hp) hS) (by decide)) (fun v m1 ⟨u1, u2, u3⟩ => ⟨u1, fun _ _ _ _ => ⟨?_, u3⟩⟩)
      rw [← e]; exact u2
    · exact gx_imp (gx_d c (by decide)) (fun v m1 ⟨u1, _⟩ => ⟨u1, fun a b c d => absurd ⟨a, b, c, d⟩ k⟩)
  · have f4 : ∀ p i : Nat, 4 ≤ p → p ≤ 12 → i < 900 → m1 p i = m p i := fr_4 f (by decide)
    have f23 : m1 23 = m 23 := funext (fun i => f 23 i rfl)
    rw [f23] at hA ⊢
    exact ((z (w, D)).2 (WD_eq hw (fun p i p1 p2 hi => (f4 p i p1 p2 hi).symm)) hb hD hA).1
theorem t_75 (hT : TT T) (hm : Gam m) (hp : PinR m) : GX T 13 75 0 [(2, 1)] [] m (RV (fun m1 => StoryX m1)) := by
  refine gx_st (L' := [(2, 1)]) (S' := [(2, 1)]) r_75_0 rfl rfl rfl ?_
  refine gx_st (L' := [(2, 1)]) (S' := [(0, 0), (2, 1)]) r_75_1 rfl rfl rfl ?_
  obtain ⟨m1, e_m1⟩ : ∃ z, z = nu_up m 1 15 0 := ⟨_, rfl⟩
  refine gx_pf (x := 0) 0 r_75_2 (rfl) (ty_1 hT) ⟨by decide, rfl, by decide, by decide⟩ rfl (fun _ => by omega) (fun z => absurd z (by decide)) e_m1.symm ?_
  have g_m1 : Gam m1 := by rw [e_m1]; exact gu_1_15 hm (by decide) (by decide)
  have p_m1 : PinR m1 := by rw [e_m1]; exact PinR_up hp rfl
  refine gx_st (L' := [(2, 1)]) (S' := [(2, 1)]) r_75_5 rfl rfl rfl ?_
  refine gx_gf (x := 28) 2 r_75_6 (rfl) (ty_1 hT) ⟨by decide, rfl, by decide, by decide⟩ rfl (fun _ => by omega) (pin_at p_m1 (t := 28) rfl (by decide)) ?_
  refine gx_st (L' := [(2, 1)]) (S' := [(2, 1), (2, 28)]) r_75_9 rfl rfl rfl ?_
  refine gx_gf (x := 4) 2 r_75_10 (rfl) (ty_1 hT) ⟨by decide, rfl, by decide, by decide⟩ rfl (fun _ => by omega) (pin_at p_m1 (t := 4) rfl (by decide)) ?_
  refine gx_st (L' := [(2, 1)]) (S' := [(2, 1), (2, 4), (2, 28)]) r_75_13 rfl rfl rfl ?_
  refine gx_gf (x := 22) 2 r_75_14 (rfl) (ty_1 hT) ⟨by decide, rfl, by decide, by decide⟩ rfl (fun _ => by omega) (pin_at p_m1 (t := 22) rfl (by decide)) ?_
  refine gx_st (L' := [(2, 1)]) (S' := [(0, 0), (2, 22), (2, 4), (2, 28)]) r_75_17 rfl rfl rfl ?_
  refine gx_st (L' := [(2, 1)]) (S' := [(2, 1), (0, 0), (2, 22), (2, 4), (2, 28)]) r_75_18 rfl rfl rfl ?_
  refine gx_gf (x := 4) 2 r_75_19 (rfl) (ty_1 hT) ⟨by decide, rfl, by decide, by decide⟩ rfl (fun _ => by omega) (pin_at p_m1 (t := 4) rfl (by decide)) ?_
  refine gx_st (L' := [(2, 1)]) (S' := [(0, 0), (2, 4), (0, 0), (2, 22), (2, 4), (2, 28)]) r_75_22 rfl rfl rfl ?_
  refine gx_ci (nx := 26) (S2 := [(0, 0), (2, 22), (2, 4), (2, 28)]) (z_258 hT p_m1 (k := 0) (by decide)) r_75_23 rfl rfl rfl rfl rfl (rcv_v rfl (ty_4 hT) (by decide) rfl (by decide)) rfl (by decide) rfl (fun x23 n23 q23 => ?_)
  obtain ⟨e_x23, z_x23⟩ := q23
  have y_x23 := z_x23.symm
  subst y_x23
  rw [e_x23]
  show GX T 13 75 26 [(2, 1)] [(0, (m1 9 0)), (0, 0), (2, 22), (2, 4), (2, 28)] m1 (RV (fun m1 => StoryX m1))
  refine gx_cv (nx := 29) (S2 := []) (tell_x hT g_m1 p_m1) r_75_26 rfl rfl rfl rfl rfl (rcv_v rfl (ty_28 hT) (by decide) rfl (by decide)) rfl (by decide) rfl (fun n26 q26 => ?_)
  have pn_n26 : PinR n26 := PinR_fr q26.1.2 (by decide) p_m1
  have sx : StoryX n26 := q26.2
  exact gx_rt r_75_29 rfl rfl ⟨rfl, sx⟩
theorem u_75 (hT : TT T) (hm : Gam m) (hp : PinR m) : GX T 13 75 0 [(2, 1)] [] m (RV (fun m1 => StoryX m1 ∧ Gam m1 ∧ Fr [1015, 28010, 28011, 28012, 28013, 29000, 29001, 29002, 29003, 29004, 29005, 29006, 29007, 30999, 31999, 32999, 33999, 34999, 35999, 36999, 37999, 38999, 39999, 40999] m m1)) := gx_av (t_75 hT hm hp) (gx_hv (args := [(2, 1)]) (pu_277 hT) ⟨gq_o1y2, trivial⟩ hm rfl)
theorem t_76 (hT : TT T) (hm : Gam m) (hp : PinR m) {h : Nat} (hh : h < 12) {a : Int} (ha : -2147483648 ≤ a ∧ a ≤ 2147483647) : GX T 13 76 0 [(2, 1), (0, (h : Int)), (0, a)] [] m (RI (fun _ m1 => StoryX m → StoryX m1)) := by
  refine gx_st (L' := [(2, 1), (0, (h : Int)), (0, a)]) (S' := [(2, 1)]) r_76_0 rfl rfl rfl ?_
  refine gx_gf (x := 22) 2 r_76_1 (rfl) (ty_1 hT) ⟨by decide, rfl, by decide, by decide⟩ rfl (fun _ => by omega) (pin_at hp (t := 22) rfl (by decide)) ?_
  refine gx_st (L' := [(2, 1), (0, (h : Int)), (0, a)]) (S' := [(0, (h : Int)), (2, 22)]) r_76_4 rfl rfl rfl ?_
  refine gx_ci (nx := 8) (S2 := []) (z_232 hT hp hh) r_76_5 rfl rfl rfl rfl rfl (rcv_v rfl (ty_22 hT) (by decide) rfl (by decide)) rfl (by decide) rfl (fun x5 n5 q5 => ?_)
  obtain rfl := q5.1.symm
  obtain rfl := q5.2.symm
  show GX T 13 76 8 [(2, 1), (0, (h : Int)), (0, a)] [(0, (m 23 h))] m (RI (fun _ m1 => StoryX m → StoryX m1))
  refine gx_i0 (P := (m 23 h) = 0) r_76_8 (rfl) (fun h8 => ?_) (fun h8 => ?_)
  · refine gx_st (L' := [(2, 1), (0, (h : Int)), (0, a)]) (S' := [(2, 1)]) r_76_14 rfl rfl rfl ?_
    refine gx_gf (x := 22) 2 r_76_15 (rfl) (ty_1 hT) ⟨by decide, rfl, by decide, by decide⟩ rfl (fun _ => by omega) (pin_at hp (t := 22) rfl (by decide)) ?_
    refine gx_st (L' := [(2, 1), (0, (h : Int)), (0, a)]) (S' := [(0, (h : Int)), (2, 22)]) r_76_18 rfl rfl rfl ?_
    refine gx_st (L' := [(2, 1), (0, (h : Int)), (0, a)]) (S' := [(0, a), (0, (h : Int)), (2, 22)]) r_76_19 rfl rfl rfl ?_
    refine gx_cv (nx := 23) (S2 := []) (gx_hv (args := [(2, 22), (0, (h : Int)), (0, a)]) (pu_545 hT) ⟨gq_o22y2, gq_any (by omega) (by omega), gq_any ha.1 ha.2, trivial⟩ hm rfl) r_76_20 rfl rfl rfl rfl rfl (rcv_v rfl (ty_22 hT) (by decide) rfl (by decide)) rfl (by decide) rfl (fun n20 q20 => ?_)
    have pn_n20 : PinR n20 := PinR_fr q20.2 (by decide) hp
    refine gx_st (L' := [(2, 1), (0, (h : Int)), (0, a)]) (S' := [(2, 1)]) r_76_23 rfl rfl rfl ?_
    refine gx_gf (x := 28) 2 r_76_24 (rfl) (ty_1 hT) ⟨by decide, rfl, by decide, by decide⟩ rfl (fun _ => by omega) (pin_at pn_n20 (t := 28) rfl (by decide)) ?_
    refine gx_st (L' := [(2, 1), (0, (h : Int)), (0, a)]) (S' := [(2, 1), (2, 28)]) r_76_27 rfl rfl rfl ?_
    refine gx_gf (x := 4) 2 r_76_28 (rfl) (ty_1 hT) ⟨by decide, rfl, by decide, by decide⟩ rfl (fun _ => by omega) (pin_at pn_n20 (t := 4) rfl (by decide)) ?_
    refine gx_st (L' := [(2, 1), (0, (h : Int)), (0, a)]) (S' := [(2, 1), (2, 4), (2, 28)]) r_76_31 rfl rfl rfl ?_
    refine gx_gf (x := 22) 2 r_76_32 (rfl) (ty_1 hT) ⟨by decide, rfl, by decide, by decide⟩ rfl (fun _ => by omega) (pin_at pn_n20 (t := 22) rfl (by decide)) ?_
    refine gx_st (L' := [(2, 1), (0, (h : Int)), (0, a)]) (S' := [(0, 0), (2, 22), (2, 4), (2, 28)]) r_76_35 rfl rfl rfl ?_
    refine gx_st (L' := [(2, 1), (0, (h : Int)), (0, a)]) (S' := [(2, 1), (0, 0), (2, 22), (2, 4), (2, 28)]) r_76_36 rfl rfl rfl ?_
    refine gx_gf (x := 4) 2 r_76_37 (rfl) (ty_1 hT) ⟨by decide, rfl, by decide, by decide⟩ rfl (fun _ => by omega) (pin_at pn_n20 (t := 4) rfl (by decide)) ?_
    refine gx_st (L' := [(2, 1), (0, (h : Int)), (0, a)]) (S' := [(0, 0), (2, 4), (0, 0), (2, 22), (2, 4), (2, 28)]) r_76_40 rfl rfl rfl ?_
    refine gx_ci (nx := 44) (S2 := [(0, 0), (2, 22), (2, 4), (2, 28)]) (z_258 hT pn_n20 (k := 0) (by decide)) r_76_41 rfl rfl rfl rfl rfl (rcv_v rfl (ty_4 hT) (by decide) rfl (by decide)) rfl (by decide) rfl (fun x41 n41 q41 => ?_)
    obtain ⟨e_x41, z_x41⟩ := q41
    have y_x41 := z_x41.symm
    subst y_x41
    rw [e_x41]
    show GX T 13 76 44 [(2, 1), (0, (h : Int)), (0, a)] [(0, (n20 9 0)), (0, 0), (2, 22), (2, 4), (2, 28)] n20 (RI (fun _ m1 => StoryX m → StoryX m1))
    refine gx_cv (nx := 47) (S2 := []) (tell_x hT q20.1 pn_n20) r_76_44 rfl rfl rfl rfl rfl (rcv_v rfl (ty_28 hT) (by decide) rfl (by decide)) rfl (by decide) rfl (fun n44 q44 => ?_)
    have pn_n44 : PinR n44 := PinR_fr q44.1.2 (by decide) pn_n20
    have sx : StoryX n44 := q44.2
    refine gx_st (L' := [(2, 1), (0, (h : Int)), (0, a)]) (S' := [(2, 1)]) r_76_47 rfl rfl rfl ?_
    refine gx_gf (x := 28) 2 r_76_48 (rfl) (ty_1 hT) ⟨by decide, rfl, by decide, by decide⟩ rfl (fun _ => by omega) (pin_at pn_n44 (t := 28) rfl (by decide)) ?_
    refine gx_gf (x := 39) 2 r_76_51 (rfl) (ty_28 hT) ⟨by decide, rfl, by decide, by decide⟩ rfl (fun _ => by omega) (pin_at pn_n44 (t := 39) rfl (by decide)) ?_
    refine gx_st (L' := [(2, 1), (0, (h : Int)), (0, a)]) (S' := [(0, (h : Int)), (2, 39)]) r_76_54 rfl rfl rfl ?_
    refine gx_ci (nx := 58) (S2 := []) (c_237 (r := 39) (n := 12) (ty_39 hT) (by decide) (by decide) hh) r_76_55 rfl rfl rfl rfl rfl rfl rfl (by decide) rfl (fun x55 n55 q55 => ?_)
    obtain rfl := q55.1.symm
    obtain rfl := q55.2.symm
    show GX T 13 76 58 [(2, 1), (0, (h : Int)), (0, a)] [(0, (n44 39 h))] n44 (RI (fun _ m1 => StoryX m → StoryX m1))
    exact gx_rt r_76_58 rfl rfl ⟨_, rfl, fun _ => sx⟩
  · refine gx_st (L' := [(2, 1), (0, (h : Int)), (0, a)]) (S' := [(0, (-5))]) r_76_11 rfl rfl rfl ?_
    exact gx_rt r_76_13 rfl rfl ⟨_, rfl, fun z => z⟩
theorem t_59 (hT : TT T) (hm : Gam m) (hp : PinR m) (h42 : m 4 2 ≤ 12) (t : Int) : GX T 14 59 0 [(2, 1), (0, t)] [] m (RI (fun _ m1 => StoryX m → StoryX m1)) := by
  refine gx_st (L' := [(2, 1), (0, t)]) (S' := [(2, 1)]) r_59_0 rfl rfl rfl ?_
  refine gx_st (L' := [(2, 1), (0, t)]) (S' := [(0, t), (2, 1)]) r_59_1 rfl rfl rfl ?_
  refine gx_ci (nx := 5) (S2 := []) (x_73 hT hp t) r_59_2 rfl rfl rfl rfl rfl (rcv_v rfl (ty_1 hT) (by decide) rfl (by decide)) rfl (by decide) rfl (fun x2 n2 q2 => ?_)
  obtain rfl := q2.1.symm
  obtain rfl := q2.2.symm
  show GX T 14 59 5 [(2, 1), (0, t)] [(0, (if 0 ≤ t ∧ t < m 4 2 then 1 else 0))] m (RI (fun _ m1 => StoryX m → StoryX m1))
  refine gx_i0 (P := ¬ (0 ≤ t ∧ t < m 4 2)) r_59_5 (b01_eq) (fun h5 => ?_) (fun h5 => ?_)
  · refine gx_st (L' := [(2, 1), (0, t)]) (S' := [(0, (-2))]) r_59_17 rfl rfl rfl ?_
    exact gx_rt r_59_19 rfl rfl ⟨_, rfl, fun z => z⟩
  · have h5 := Decidable.not_not.mp h5
    obtain ⟨hh, hia⟩ : ∃ i : Nat, t = (i : Int) := ⟨t.toNat, by omega⟩
    have hh12 : hh < 12 := by omega
    rw [hia]
    refine gx_st (L' := [(2, 1), (0, (hh : Int))]) (S' := [(2, 1)]) r_59_8 rfl rfl rfl ?_
    refine gx_st (L' := [(2, 1), (0, (hh : Int))]) (S' := [(0, (hh : Int)), (2, 1)]) r_59_9 rfl rfl rfl ?_
    refine gx_st (L' := [(2, 1), (0, (hh : Int))]) (S' := [(0, 1), (0, (hh : Int)), (2, 1)]) r_59_10 rfl rfl rfl ?_
    refine gx_ci (nx := 14) (S2 := []) (t_76 hT hm hp (h := hh) hh12 (a := 1) ⟨by omega, by omega⟩) r_59_11 rfl rfl rfl rfl rfl (rcv_v rfl (ty_1 hT) (by decide) rfl (by decide)) rfl (by decide) rfl (fun x11 n11 q11 => ?_)
    show GX T 14 59 14 [(2, 1), (0, (hh : Int))] [(0, x11)] n11 (RI (fun _ m1 => StoryX m → StoryX m1))
    have sq := q11
    show GX T 14 59 14 [(2, 1), (0, (hh : Int))] [(0, x11)] n11 (RI (fun _ m1 => StoryX m → StoryX m1))
    refine gx_st (L' := [(2, 1), (0, (hh : Int))]) (S' := [(0, x11)]) r_59_14 rfl rfl rfl ?_
    exact gx_rt r_59_19 rfl rfl ⟨_, rfl, sq⟩
theorem t_61 (hT : TT T) (hm : Gam m) (hp : PinR m) (h42 : m 4 2 ≤ 12) (t : Int) : GX T 14 61 0 [(2, 1), (0, t)] [] m (RI (fun _ m1 => StoryX m → StoryX m1)) := by
  refine gx_st (L' := [(2, 1), (0, t)]) (S' := [(2, 1)]) r_61_0 rfl rfl rfl ?_
  refine gx_st (L' := [(2, 1), (0, t)]) (S' := [(0, t), (2, 1)]) r_61_1 rfl rfl rfl ?_
  refine gx_ci (nx := 5) (S2 := []) (x_73 hT hp t) r_61_2 rfl rfl rfl rfl rfl (rcv_v rfl (ty_1 hT) (by decide) rfl (by decide)) rfl (by decide) rfl (fun x2 n2 q2 => ?_)
  obtain rfl := q2.1.symm
  obtain rfl := q2.2.symm
  show GX T 14 61 5 [(2, 1), (0, t)] [(0, (if 0 ≤ t ∧ t < m 4 2 then 1 else 0))] m (RI (fun _ m1 => StoryX m → StoryX m1))
  refine gx_i0 (P := ¬ (0 ≤ t ∧ t < m 4 2)) r_61_5 (b01_eq) (fun h5 => ?_) (fun h5 => ?_)
  · refine gx_st (L' := [(2, 1), (0, t)]) (S' := [(0, (-2))]) r_61_17 rfl rfl rfl ?_
    exact gx_rt r_61_19 rfl rfl ⟨_, rfl, fun z => z⟩
  · have h5 := Decidable.not_not.mp h5
    obtain ⟨hh, hia⟩ : ∃ i : Nat, t = (i : Int) := ⟨t.toNat, by omega⟩
    have hh12 : hh < 12 := by omega
    rw [hia]
    refine gx_st (L' := [(2, 1), (0, (hh : Int))]) (S' := [(2, 1)]) r_61_8 rfl rfl rfl ?_
    refine gx_st (L' := [(2, 1), (0, (hh : Int))]) (S' := [(0, (hh : Int)), (2, 1)]) r_61_9 rfl rfl rfl ?_
    refine gx_st (L' := [(2, 1), (0, (hh : Int))]) (S' := [(0, 2), (0, (hh : Int)), (2, 1)]) r_61_10 rfl rfl rfl ?_
    refine gx_ci (nx := 14) (S2 := []) (t_76 hT hm hp (h := hh) hh12 (a := 2) ⟨by omega, by omega⟩) r_61_11 rfl rfl rfl rfl rfl (rcv_v rfl (ty_1 hT) (by decide) rfl (by decide)) rfl (by decide) rfl (fun x11 n11 q11 => ?_)
    show GX T 14 61 14 [(2, 1), (0, (hh : Int))] [(0, x11)] n11 (RI (fun _ m1 => StoryX m → StoryX m1))
    have sq := q11
    show GX T 14 61 14 [(2, 1), (0, (hh : Int))] [(0, x11)] n11 (RI (fun _ m1 => StoryX m → StoryX m1))
    refine gx_st (L' := [(2, 1), (0, (hh : Int))]) (S' := [(0, x11)]) r_61_14 rfl rfl rfl ?_
    exact gx_rt r_61_19 rfl rfl ⟨_, rfl, sq⟩
theorem t_60 (hT : TT T) (hm : Gam m) (hp : PinR m) (h42 : m 4 2 ≤ 12) (h41 : m 4 1 ≤ 7) (t p : Int) : GX T 14 60 0 [(2, 1), (0, t), (0, p)] [] m (RI (fun _ m1 => StoryX m → StoryX m1)) := by
  refine gx_st (L' := [(2, 1), (0, t), (0, p)]) (S' := [(2, 1)]) r_60_0 rfl rfl rfl ?_
  refine gx_st (L' := [(2, 1), (0, t), (0, p)]) (S' := [(0, t), (2, 1)]) r_60_1 rfl rfl rfl ?_
  refine gx_ci (nx := 5) (S2 := []) (x_73 hT hp t) r_60_2 rfl rfl rfl rfl rfl (rcv_v rfl (ty_1 hT) (by decide) rfl (by decide)) rfl (by decide) rfl (fun x2 n2 q2 => ?_)
  obtain rfl := q2.1.symm
  obtain rfl := q2.2.symm
  show GX T 14 60 5 [(2, 1), (0, t), (0, p)] [(0, (if 0 ≤ t ∧ t < m 4 2 then 1 else 0))] m (RI (fun _ m1 => StoryX m → StoryX m1))
  refine gx_i0 (P := ¬ (0 ≤ t ∧ t < m 4 2)) r_60_5 (b01_eq) (fun h5 => ?_) (fun h5 => ?_)
  · refine gx_st (L' := [(2, 1), (0, t), (0, p)]) (S' := [(0, (-2))]) r_60_28 rfl rfl rfl ?_
    exact gx_rt r_60_30 rfl rfl ⟨_, rfl, fun z => z⟩
  · have h5 := Decidable.not_not.mp h5
    refine gx_st (L' := [(2, 1), (0, t), (0, p)]) (S' := [(2, 1)]) r_60_8 rfl rfl rfl ?_
    refine gx_st (L' := [(2, 1), (0, t), (0, p)]) (S' := [(0, p), (2, 1)]) r_60_9 rfl rfl rfl ?_
    refine gx_ci (nx := 13) (S2 := []) (x_72 hT hp p) r_60_10 rfl rfl rfl rfl rfl (rcv_v rfl (ty_1 hT) (by decide) rfl (by decide)) rfl (by decide) rfl (fun x10 n10 q10 => ?_)
    obtain rfl := q10.1.symm
    obtain rfl := q10.2.symm
    show GX T 14 60 13 [(2, 1), (0, t), (0, p)] [(0, (if 0 ≤ p ∧ p < m 4 1 then 1 else 0))] m (RI (fun _ m1 => StoryX m → StoryX m1))
    refine gx_i0 (P := ¬ (0 ≤ p ∧ p < m 4 1)) r_60_13 (b01_eq) (fun h13 => ?_) (fun h13 => ?_)
    · refine gx_st (L' := [(2, 1), (0, t), (0, p)]) (S' := [(0, (-2))]) r_60_28 rfl rfl rfl ?_
      exact gx_rt r_60_30 rfl rfl ⟨_, rfl, fun z => z⟩
    · have h13 := Decidable.not_not.mp h13
      obtain ⟨hh, hia⟩ : ∃ i : Nat, t = (i : Int) := ⟨t.toNat, by omega⟩
      have hh12 : hh < 12 := by omega
      rw [hia]
      refine gx_st (L' := [(2, 1), (0, (hh : Int)), (0, p)]) (S' := [(2, 1)]) r_60_16 rfl rfl rfl ?_
      refine gx_st (L' := [(2, 1), (0, (hh : Int)), (0, p)]) (S' := [(0, (hh : Int)), (2, 1)]) r_60_17 rfl rfl rfl ?_
      refine gx_st (L' := [(2, 1), (0, (hh : Int)), (0, p)]) (S' := [(0, 10), (0, (hh : Int)), (2, 1)]) r_60_18 rfl rfl rfl ?_
      refine gx_st (L' := [(2, 1), (0, (hh : Int)), (0, p)]) (S' := [(0, p), (0, 10), (0, (hh : Int)), (2, 1)]) r_60_20 rfl rfl rfl ?_
      refine gx_ar (L' := [(2, 1), (0, (hh : Int)), (0, p)]) (S' := [(0, (hh : Int)), (2, 1)]) (t := 0) (e := w32 (10 + p)) (z := p + 10) r_60_21 rfl rfl rfl (w32_eq (by omega) (by omega) (by omega)) ?_
      refine gx_ci (nx := 25) (S2 := []) (t_76 hT hm hp (h := hh) hh12 (a := (p + 10)) ⟨by omega, by omega⟩) r_60_22 rfl rfl rfl rfl rfl (rcv_v rfl (ty_1 hT) (by decide) rfl (by decide)) rfl (by decide) rfl (fun x22 n22 q22 => ?_)
      show GX T 14 60 25 [(2, 1), (0, (hh : Int)), (0, p)] [(0, x22)] n22 (RI (fun _ m1 => StoryX m → StoryX m1))
      have sq := q22
      show GX T 14 60 25 [(2, 1), (0, (hh : Int)), (0, p)] [(0, x22)] n22 (RI (fun _ m1 => StoryX m → StoryX m1))
      refine gx_st (L' := [(2, 1), (0, (hh : Int)), (0, p)]) (S' := [(0, x22)]) r_60_25 rfl rfl rfl ?_
      exact gx_rt r_60_30 rfl rfl ⟨_, rfl, sq⟩
theorem t_62 (hT : TT T) (hm : Gam m) (hp : PinR m) : GX T 13 62 0 [(2, 1)] [] m (RI (fun _ m1 => StoryX m → StoryX m1)) := by
  refine gx_st (L' := [(2, 1)]) (S' := [(2, 1)]) r_62_0 rfl rfl rfl ?_
  refine gx_gf (x := 4) 2 r_62_1 (rfl) (ty_1 hT) ⟨by decide, rfl, by decide, by decide⟩ rfl (fun _ => by omega) (pin_at hp (t := 4) rfl (by decide)) ?_
  refine gx_ci (nx := 7) (S2 := []) (x_252 hT) r_62_4 rfl rfl rfl rfl rfl (rcv_v rfl (ty_4 hT) (by decide) rfl (by decide)) rfl (by decide) rfl (fun x4 n4 q4 => ?_)
  obtain rfl := q4.1.symm
  obtain rfl := q4.2.symm
  show GX T 13 62 7 [(2, 1)] [(0, (if 0 < m 4 0 then 1 else 0))] m (RI (fun _ m1 => StoryX m → StoryX m1))
  refine gx_i0 (P := 0 < m 4 0) r_62_7 (b01_ne) (fun h7 => ?_) (fun h7 => ?_)
  · refine gx_st (L' := [(2, 1)]) (S' := [(2, 1)]) r_62_13 rfl rfl rfl ?_
    refine gx_gf (x := 22) 2 r_62_14 (rfl) (ty_1 hT) ⟨by decide, rfl, by decide, by decide⟩ rfl (fun _ => by omega) (pin_at hp (t := 22) rfl (by decide)) ?_
    refine gx_gf (x := (m 22 2)) 0 r_62_17 (rfl) (ty_22 hT) ⟨by decide, rfl, by decide, by decide⟩ rfl (fun z => absurd z (by decide)) (rfl) ?_
    refine gx_i0 (P := ¬ (m 22 2) = 0) r_62_20 (rfl) (fun h20 => ?_) (fun h20 => ?_)
    · refine gx_st (L' := [(2, 1)]) (S' := [(2, 1)]) r_62_26 rfl rfl rfl ?_
      refine gx_gf (x := 22) 2 r_62_27 (rfl) (ty_1 hT) ⟨by decide, rfl, by decide, by decide⟩ rfl (fun _ => by omega) (pin_at hp (t := 22) rfl (by decide)) ?_
      refine gx_cv (nx := 33) (S2 := []) (gx_hv (args := [(2, 22)]) (pu_552 hT) ⟨gq_o22y2, trivial⟩ hm rfl) r_62_30 rfl rfl rfl rfl rfl (rcv_v rfl (ty_22 hT) (by decide) rfl (by decide)) rfl (by decide) rfl (fun n30 q30 => ?_)
      have pn_n30 : PinR n30 := PinR_fr q30.2 (by decide) hp
      refine gx_st (L' := [(2, 1)]) (S' := [(2, 1)]) r_62_33 rfl rfl rfl ?_
      refine gx_gf (x := 28) 2 r_62_34 (rfl) (ty_1 hT) ⟨by decide, rfl, by decide, by decide⟩ rfl (fun _ => by omega) (pin_at pn_n30 (t := 28) rfl (by decide)) ?_
      refine gx_st (L' := [(2, 1)]) (S' := [(2, 1), (2, 28)]) r_62_37 rfl rfl rfl ?_
      refine gx_gf (x := 4) 2 r_62_38 (rfl) (ty_1 hT) ⟨by decide, rfl, by decide, by decide⟩ rfl (fun _ => by omega) (pin_at pn_n30 (t := 4) rfl (by decide)) ?_
      refine gx_st (L' := [(2, 1)]) (S' := [(2, 1), (2, 4), (2, 28)]) r_62_41 rfl rfl rfl ?_
      refine gx_gf (x := 22) 2 r_62_42 (rfl) (ty_1 hT) ⟨by decide, rfl, by decide, by decide⟩ rfl (fun _ => by omega) (pin_at pn_n30 (t := 22) rfl (by decide)) ?_
      refine gx_st (L' := [(2, 1)]) (S' := [(0, 0), (2, 22), (2, 4), (2, 28)]) r_62_45 rfl rfl rfl ?_
      refine gx_st (L' := [(2, 1)]) (S' := [(2, 1), (0, 0), (2, 22), (2, 4), (2, 28)]) r_62_46 rfl rfl rfl ?_
      refine gx_gf (x := 4) 2 r_62_47 (rfl) (ty_1 hT) ⟨by decide, rfl, by decide, by decide⟩ rfl (fun _ => by omega) (pin_at pn_n30 (t := 4) rfl (by decide)) ?_
      refine gx_st (L' := [(2, 1)]) (S' := [(0, 0), (2, 4), (0, 0), (2, 22), (2, 4), (2, 28)]) r_62_50 rfl rfl rfl ?_
      refine gx_ci (nx := 54) (S2 := [(0, 0), (2, 22), (2, 4), (2, 28)]) (z_258 hT pn_n30 (k := 0) (by decide)) r_62_51 rfl rfl rfl rfl rfl (rcv_v rfl (ty_4 hT) (by decide) rfl (by decide)) rfl (by decide) rfl (fun x51 n51 q51 => ?_)
      obtain ⟨e_x51, z_x51⟩ := q51
      have y_x51 := z_x51.symm
      subst y_x51
      rw [e_x51]
      show GX T 13 62 54 [(2, 1)] [(0, (n30 9 0)), (0, 0), (2, 22), (2, 4), (2, 28)] n30 (RI (fun _ m1 => StoryX m → StoryX m1))
      refine gx_cv (nx := 57) (S2 := []) (tell_x hT q30.1 pn_n30) r_62_54 rfl rfl rfl rfl rfl (rcv_v rfl (ty_28 hT) (by decide) rfl (by decide)) rfl (by decide) rfl (fun n54 q54 => ?_)
      have pn_n54 : PinR n54 := PinR_fr q54.1.2 (by decide) pn_n30
      have sx : StoryX n54 := q54.2
      refine gx_st (L' := [(2, 1)]) (S' := [(2, 1)]) r_62_57 rfl rfl rfl ?_
      refine gx_gf (x := 22) 2 r_62_58 (rfl) (ty_1 hT) ⟨by decide, rfl, by decide, by decide⟩ rfl (fun _ => by omega) (pin_at pn_n54 (t := 22) rfl (by decide)) ?_
      refine gx_gf (x := (n54 22 2)) 0 r_62_61 (rfl) (ty_22 hT) ⟨by decide, rfl, by decide, by decide⟩ rfl (fun z => absurd z (by decide)) (rfl) ?_
      exact gx_rt r_62_64 rfl rfl ⟨_, rfl, fun _ => sx⟩
    · have h20 := Decidable.not_not.mp h20
      refine gx_st (L' := [(2, 1)]) (S' := [(0, (-5))]) r_62_23 rfl rfl rfl ?_
      exact gx_rt r_62_25 rfl rfl ⟨_, rfl, fun z => z⟩
  · refine gx_st (L' := [(2, 1)]) (S' := [(0, (-2))]) r_62_10 rfl rfl rfl ?_
    exact gx_rt r_62_12 rfl rfl ⟨_, rfl, fun z => z⟩
theorem t_63 (hT : TT T) (hm : Gam m) (hp : PinR m) : GX T 13 63 0 [(2, 1), (9, 0)] [] m (RI (fun _ m1 => StoryX m → StoryX m1)) := by
  refine gx_st (L' := [(2, 1), (9, 0)]) (S' := [(2, 1)]) r_63_0 rfl rfl rfl ?_
  refine gx_gf (x := 4) 2 r_63_1 (rfl) (ty_1 hT) ⟨by decide, rfl, by decide, by decide⟩ rfl (fun _ => by omega) (pin_at hp (t := 4) rfl (by decide)) ?_
  refine gx_ci (nx := 7) (S2 := []) (x_252 hT) r_63_4 rfl rfl rfl rfl rfl (rcv_v rfl (ty_4 hT) (by decide) rfl (by decide)) rfl (by decide) rfl (fun x4 n4 q4 => ?_)
  obtain rfl := q4.1.symm
  obtain rfl := q4.2.symm
  show GX T 13 63 7 [(2, 1), (9, 0)] [(0, (if 0 < m 4 0 then 1 else 0))] m (RI (fun _ m1 => StoryX m → StoryX m1))
  refine gx_i0 (P := 0 < m 4 0) r_63_7 (b01_ne) (fun h7 => ?_) (fun h7 => ?_)
  · refine gx_st (L' := [(2, 1), (9, 0)]) (S' := [(2, 1)]) r_63_13 rfl rfl rfl ?_
    refine gx_gf (x := 22) 2 r_63_14 (rfl) (ty_1 hT) ⟨by decide, rfl, by decide, by decide⟩ rfl (fun _ => by omega) (pin_at hp (t := 22) rfl (by decide)) ?_
    refine gx_gf (x := (m 22 2)) 0 r_63_17 (rfl) (ty_22 hT) ⟨by decide, rfl, by decide, by decide⟩ rfl (fun z => absurd z (by decide)) (rfl) ?_
    refine gx_st (L' := [(2, 1), (0, (m 22 2))]) (S' := []) r_63_20 rfl rfl rfl ?_
    refine gx_st (L' := [(2, 1), (0, (m 22 2))]) (S' := [(2, 1)]) r_63_21 rfl rfl rfl ?_
    refine gx_gf (x := 22) 2 r_63_22 (rfl) (ty_1 hT) ⟨by decide, rfl, by decide, by decide⟩ rfl (fun _ => by omega) (pin_at hp (t := 22) rfl (by decide)) ?_
    refine gx_cv (nx := 28) (S2 := []) (gx_hv (args := [(2, 22)]) (pu_234 hT) ⟨gq_o22y2, trivial⟩ hm rfl) r_63_25 rfl rfl rfl rfl rfl (rcv_v rfl (ty_22 hT) (by decide) rfl (by decide)) rfl (by decide) rfl (fun n25 q25 => ?_)
    have pn_n25 : PinR n25 := PinR_fr q25.2 (by decide) hp
    refine gx_st (L' := [(2, 1), (0, (m 22 2))]) (S' := [(2, 1)]) r_63_28 rfl rfl rfl ?_
    refine gx_gf (x := 28) 2 r_63_29 (rfl) (ty_1 hT) ⟨by decide, rfl, by decide, by decide⟩ rfl (fun _ => by omega) (pin_at pn_n25 (t := 28) rfl (by decide)) ?_
    refine gx_st (L' := [(2, 1), (0, (m 22 2))]) (S' := [(2, 1), (2, 28)]) r_63_32 rfl rfl rfl ?_
    refine gx_gf (x := 4) 2 r_63_33 (rfl) (ty_1 hT) ⟨by decide, rfl, by decide, by decide⟩ rfl (fun _ => by omega) (pin_at pn_n25 (t := 4) rfl (by decide)) ?_
    refine gx_st (L' := [(2, 1), (0, (m 22 2))]) (S' := [(2, 1), (2, 4), (2, 28)]) r_63_36 rfl rfl rfl ?_
    refine gx_gf (x := 22) 2 r_63_37 (rfl) (ty_1 hT) ⟨by decide, rfl, by decide, by decide⟩ rfl (fun _ => by omega) (pin_at pn_n25 (t := 22) rfl (by decide)) ?_
    refine gx_st (L' := [(2, 1), (0, (m 22 2))]) (S' := [(0, 0), (2, 22), (2, 4), (2, 28)]) r_63_40 rfl rfl rfl ?_
    refine gx_st (L' := [(2, 1), (0, (m 22 2))]) (S' := [(2, 1), (0, 0), (2, 22), (2, 4), (2, 28)]) r_63_41 rfl rfl rfl ?_
    refine gx_gf (x := 4) 2 r_63_42 (rfl) (ty_1 hT) ⟨by decide, rfl, by decide, by decide⟩ rfl (fun _ => by omega) (pin_at pn_n25 (t := 4) rfl (by decide)) ?_
    refine gx_st (L' := [(2, 1), (0, (m 22 2))]) (S' := [(0, 0), (2, 4), (0, 0), (2, 22), (2, 4), (2, 28)]) r_63_45 rfl rfl rfl ?_
    refine gx_ci (nx := 49) (S2 := [(0, 0), (2, 22), (2, 4), (2, 28)]) (z_258 hT pn_n25 (k := 0) (by decide)) r_63_46 rfl rfl rfl rfl rfl (rcv_v rfl (ty_4 hT) (by decide) rfl (by decide)) rfl (by decide) rfl (fun x46 n46 q46 => ?_)
    obtain ⟨e_x46, z_x46⟩ := q46
    have y_x46 := z_x46.symm
    subst y_x46
    rw [e_x46]
    show GX T 13 63 49 [(2, 1), (0, (m 22 2))] [(0, (n25 9 0)), (0, 0), (2, 22), (2, 4), (2, 28)] n25 (RI (fun _ m1 => StoryX m → StoryX m1))
    refine gx_cv (nx := 52) (S2 := []) (tell_x hT q25.1 pn_n25) r_63_49 rfl rfl rfl rfl rfl (rcv_v rfl (ty_28 hT) (by decide) rfl (by decide)) rfl (by decide) rfl (fun n49 q49 => ?_)
    have pn_n49 : PinR n49 := PinR_fr q49.1.2 (by decide) pn_n25
    have sx : StoryX n49 := q49.2
    refine gx_st (L' := [(2, 1), (0, (m 22 2))]) (S' := [(0, (m 22 2))]) r_63_52 rfl rfl rfl ?_
    exact gx_rt r_63_53 rfl rfl ⟨_, rfl, fun _ => sx⟩
  · refine gx_st (L' := [(2, 1), (9, 0)]) (S' := [(0, (-2))]) r_63_10 rfl rfl rfl ?_
    exact gx_rt r_63_12 rfl rfl ⟨_, rfl, fun z => z⟩
theorem t_64 (hT : TT T) (hm : Gam m) (hp : PinR m) (a b : Int) (h46 : m 4 6 ≤ 5) : GX T 14 64 0 [(2, 1), (0, a), (0, b), (9, 0)] [] m (RI (fun _ m1 => StoryX m → StoryX m1)) := by
  refine gx_st (L' := [(2, 1), (0, a), (0, b), (9, 0)]) (S' := [(0, a)]) r_64_0 rfl rfl rfl ?_
  refine gx_st (L' := [(2, 1), (0, a), (0, b), (9, 0)]) (S' := [(2, 1), (0, a)]) r_64_1 rfl rfl rfl ?_
  refine gx_gf (x := 4) 2 r_64_2 (rfl) (ty_1 hT) ⟨by decide, rfl, by decide, by decide⟩ rfl (fun _ => by omega) (pin_at hp (t := 4) rfl (by decide)) ?_
  refine gx_gf (x := (m 4 6)) 0 r_64_5 (rfl) (ty_4 hT) ⟨by decide, rfl, by decide, by decide⟩ rfl (fun z => absurd z (by decide)) (rfl) ?_
  refine gx_ci (nx := 11) (S2 := []) (x_71 a (m 4 6)) r_64_8 rfl rfl rfl rfl rfl rfl rfl (by decide) rfl (fun x8 n8 q8 => ?_)
  obtain rfl := q8.1.symm
  obtain rfl := q8.2.symm
  show GX T 14 64 11 [(2, 1), (0, a), (0, b), (9, 0)] [(0, (if 0 ≤ a ∧ a < (m 4 6) then 1 else 0))] m (RI (fun _ m1 => StoryX m → StoryX m1))
  refine gx_i0 (P := ¬ (0 ≤ a ∧ a < (m 4 6))) r_64_11 (b01_eq) (fun h11 => ?_) (fun h11 => ?_)
  · refine gx_st (L' := [(2, 1), (0, a), (0, b), (9, 0)]) (S' := [(0, (-2))]) r_64_23 rfl rfl rfl ?_
    exact gx_rt r_64_25 rfl rfl ⟨_, rfl, fun z => z⟩
  · have h11 := Decidable.not_not.mp h11
    refine gx_st (L' := [(2, 1), (0, a), (0, b), (9, 0)]) (S' := [(0, b)]) r_64_14 rfl rfl rfl ?_
    refine gx_st (L' := [(2, 1), (0, a), (0, b), (9, 0)]) (S' := [(0, 10), (0, b)]) r_64_15 rfl rfl rfl ?_
    refine gx_ci (nx := 20) (S2 := []) (x_71 b 10) r_64_17 rfl rfl rfl rfl rfl rfl rfl (by decide) rfl (fun x17 n17 q17 => ?_)
    obtain rfl := q17.1.symm
    obtain rfl := q17.2.symm
    show GX T 14 64 20 [(2, 1), (0, a), (0, b), (9, 0)] [(0, (if 0 ≤ b ∧ b < 10 then 1 else 0))] m (RI (fun _ m1 => StoryX m → StoryX m1))
    refine gx_i0 (P := 0 ≤ b ∧ b < 10) r_64_20 (b01_ne) (fun h20 => ?_) (fun h20 => ?_)
    · refine gx_st (L' := [(2, 1), (0, a), (0, b), (9, 0)]) (S' := [(2, 1)]) r_64_26 rfl rfl rfl ?_
      refine gx_gf (x := 22) 2 r_64_27 (rfl) (ty_1 hT) ⟨by decide, rfl, by decide, by decide⟩ rfl (fun _ => by omega) (pin_at hp (t := 22) rfl (by decide)) ?_
      refine gx_gf (x := (m 22 2)) 0 r_64_30 (rfl) (ty_22 hT) ⟨by decide, rfl, by decide, by decide⟩ rfl (fun z => absurd z (by decide)) (rfl) ?_
      refine gx_i0 (P := (m 22 2) ≤ 0) r_64_33 (rfl) (fun h33 => ?_) (fun h33 => ?_)
      · refine gx_st (L' := [(2, 1), (0, a), (0, b), (9, 0)]) (S' := [(2, 1)]) r_64_39 rfl rfl rfl ?_
        obtain ⟨ii, hia⟩ : ∃ i : Nat, a = (i : Int) := ⟨a.toNat, by omega⟩
        rw [hia]
        refine gx_gf (x := 4) 2 r_64_40 (rfl) (ty_1 hT) ⟨by decide, rfl, by decide, by decide⟩ rfl (fun _ => by omega) (pin_at hp (t := 4) rfl (by decide)) ?_
        refine gx_gf (x := 6) 2 r_64_43 (rfl) (ty_4 hT) ⟨by decide, rfl, by decide, by decide⟩ rfl (fun _ => by omega) (pin_at hp (t := 6) rfl (by decide)) ?_
        refine gx_st (L' := [(2, 1), (0, (ii : Int)), (0, b), (9, 0)]) (S' := [(0, (ii : Int)), (2, 6)]) r_64_46 rfl rfl rfl ?_
        refine gx_ci (nx := 50) (S2 := []) (c_237 (r := 6) (n := 5) (ty_6 hT) (by decide) (by decide) (k := ii) (by omega)) r_64_47 rfl rfl rfl rfl rfl rfl rfl (by decide) rfl (fun x47 n47 q47 => ?_)
        obtain rfl := q47.1.symm
        obtain rfl := q47.2.symm
        show GX T 14 64 50 [(2, 1), (0, (ii : Int)), (0, b), (9, 0)] [(0, (m 6 ii))] m (RI (fun _ m1 => StoryX m → StoryX m1))
        refine gx_st (L' := [(2, 1), (0, (ii : Int)), (0, b), (0, (m 6 ii))]) (S' := []) r_64_50 rfl rfl rfl ?_
        refine gx_st (L' := [(2, 1), (0, (ii : Int)), (0, b), (0, (m 6 ii))]) (S' := [(2, 1)]) r_64_51 rfl rfl rfl ?_
        refine gx_gf (x := 4) 2 r_64_52 (rfl) (ty_1 hT) ⟨by decide, rfl, by decide, by decide⟩ rfl (fun _ => by omega) (pin_at hp (t := 4) rfl (by decide)) ?_
        refine gx_gf (x := 6) 2 r_64_55 (rfl) (ty_4 hT) ⟨by decide, rfl, by decide, by decide⟩ rfl (fun _ => by omega) (pin_at hp (t := 6) rfl (by decide)) ?_
        refine gx_st (L' := [(2, 1), (0, (ii : Int)), (0, b), (0, (m 6 ii))]) (S' := [(0, (ii : Int)), (2, 6)]) r_64_58 rfl rfl rfl ?_
        refine gx_st (L' := [(2, 1), (0, (ii : Int)), (0, b), (0, (m 6 ii))]) (S' := [(0, b), (0, (ii : Int)), (2, 6)]) r_64_59 rfl rfl rfl ?_
        refine gx_cv (nx := 63) (S2 := []) (gx_hv (args := [(2, 6), (0, (ii : Int)), (0, b)]) (pu_556 hT) ⟨gq_o6y2, gq_any (by omega) (by omega), gq_any (by omega) (by omega), trivial⟩ hm rfl) r_64_60 rfl rfl rfl rfl rfl rfl rfl (by decide) rfl (fun n60 q60 => ?_)
        have pn_n60 : PinR n60 := PinR_fr q60.2 (by decide) hp
        refine gx_st (L' := [(2, 1), (0, (ii : Int)), (0, b), (0, (m 6 ii))]) (S' := [(2, 1)]) r_64_63 rfl rfl rfl ?_
        refine gx_cv (nx := 67) (S2 := []) (u_75 hT q60.1 pn_n60) r_64_64 rfl rfl rfl rfl rfl (rcv_v rfl (ty_1 hT) (by decide) rfl (by decide)) rfl (by decide) rfl (fun n64 q64 => ?_)
        have sx : StoryX n64 := q64.1
        have pin_sx : PinR n64 := PinR_fr q64.2.2 (by decide) pn_n60
        show GX T 14 64 67 [(2, 1), (0, (ii : Int)), (0, b), (0, (m 6 ii))] [] n64 (RI (fun _ m1 => StoryX m → StoryX m1))
        refine gx_st (L' := [(2, 1), (0, (ii : Int)), (0, b), (0, (m 6 ii))]) (S' := [(0, (m 6 ii))]) r_64_67 rfl rfl rfl ?_
        exact gx_rt r_64_68 rfl rfl ⟨_, rfl, fun _ => sx⟩
      · refine gx_st (L' := [(2, 1), (0, a), (0, b), (9, 0)]) (S' := [(0, (-5))]) r_64_36 rfl rfl rfl ?_
        exact gx_rt r_64_38 rfl rfl ⟨_, rfl, fun z => z⟩
    · refine gx_st (L' := [(2, 1), (0, a), (0, b), (9, 0)]) (S' := [(0, (-2))]) r_64_23 rfl rfl rfl ?_
      exact gx_rt r_64_25 rfl rfl ⟨_, rfl, fun z => z⟩
theorem t_67 (hT : TT T) (hm : Gam m) (hp : PinR m) (a : Int) : GX T 14 67 0 [(2, 1), (0, a)] [] m (RI (fun _ m1 => StoryX m → StoryX m1)) := by
  refine gx_st (L' := [(2, 1), (0, a)]) (S' := [(0, a)]) r_67_0 rfl rfl rfl ?_
  refine gx_st (L' := [(2, 1), (0, a)]) (S' := [(2, 1), (0, a)]) r_67_1 rfl rfl rfl ?_
  refine gx_gf (x := 154) 2 r_67_2 (rfl) (ty_1 hT) ⟨by decide, rfl, by decide, by decide⟩ rfl (fun _ => by omega) (pin_at hp (t := 154) rfl (by decide)) ?_
  refine gx_al r_67_5 (rfl) (ty_154 hT) ⟨by decide, by decide, by decide⟩ ?_
  show GX T 14 67 6 [(2, 1), (0, a)] [(0, 3), (0, a)] m (RI (fun _ m1 => StoryX m → StoryX m1))
  refine gx_ci (nx := 9) (S2 := []) (x_71 a 3) r_67_6 rfl rfl rfl rfl rfl rfl rfl (by decide) rfl (fun x6 n6 q6 => ?_)
  obtain rfl := q6.1.symm
  obtain rfl := q6.2.symm
  show GX T 14 67 9 [(2, 1), (0, a)] [(0, (if 0 ≤ a ∧ a < 3 then 1 else 0))] m (RI (fun _ m1 => StoryX m → StoryX m1))
  refine gx_i0 (P := ¬ (0 ≤ a ∧ a < 3)) r_67_9 (b01_eq) (fun h9 => ?_) (fun h9 => ?_)
  · refine gx_st (L' := [(2, 1), (0, a)]) (S' := [(0, (-2))]) r_67_24 rfl rfl rfl ?_
    exact gx_rt r_67_26 rfl rfl ⟨_, rfl, fun z => z⟩
  · have h9 := Decidable.not_not.mp h9
    refine gx_st (L' := [(2, 1), (0, a)]) (S' := [(0, a)]) r_67_12 rfl rfl rfl ?_
    refine gx_st (L' := [(2, 1), (0, a)]) (S' := [(2, 1), (0, a)]) r_67_13 rfl rfl rfl ?_
    refine gx_gf (x := 155) 2 r_67_14 (rfl) (ty_1 hT) ⟨by decide, rfl, by decide, by decide⟩ rfl (fun _ => by omega) (pin_at hp (t := 155) rfl (by decide)) ?_
    refine gx_al r_67_17 (rfl) (ty_155 hT) ⟨by decide, by decide, by decide⟩ ?_
    show GX T 14 67 18 [(2, 1), (0, a)] [(0, 3), (0, a)] m (RI (fun _ m1 => StoryX m → StoryX m1))
    refine gx_ci (nx := 21) (S2 := []) (x_71 a 3) r_67_18 rfl rfl rfl rfl rfl rfl rfl (by decide) rfl (fun x18 n18 q18 => ?_)
    obtain rfl := q18.1.symm
    obtain rfl := q18.2.symm
    show GX T 14 67 21 [(2, 1), (0, a)] [(0, (if 0 ≤ a ∧ a < 3 then 1 else 0))] m (RI (fun _ m1 => StoryX m → StoryX m1))
    refine gx_i0 (P := 0 ≤ a ∧ a < 3) r_67_21 (b01_ne) (fun h21 => ?_) (fun h21 => ?_)
    · refine gx_st (L' := [(2, 1), (0, a)]) (S' := [(2, 1)]) r_67_27 rfl rfl rfl ?_
      refine gx_gf (x := (m 1 14)) 0 r_67_28 (rfl) (ty_1 hT) ⟨by decide, rfl, by decide, by decide⟩ rfl (fun z => absurd z (by decide)) (rfl) ?_
      refine gx_st (L' := [(2, 1), (0, a)]) (S' := [(0, a), (0, (m 1 14))]) r_67_31 rfl rfl rfl ?_
      refine gx_ci (nx := 35) (S2 := []) (x_242 (m 1 14) a) r_67_32 rfl rfl rfl rfl rfl rfl rfl (by decide) rfl (fun x32 n32 q32 => ?_)
      obtain rfl := q32.1.symm
      obtain rfl := q32.2.symm
      show GX T 14 67 35 [(2, 1), (0, a)] [(0, (if 0 ≤ a ∧ a < 32 ∧ iand (ishr (m 1 14) a) 1 = 1 then 1 else 0))] m (RI (fun _ m1 => StoryX m → StoryX m1))
      refine gx_i0 (P := 0 ≤ a ∧ a < 32 ∧ iand (ishr (m 1 14) a) 1 = 1) r_67_35 (b01_ne) (fun h35 => ?_) (fun h35 => ?_)
      · obtain ⟨ii, hia⟩ : ∃ i : Nat, a = (i : Int) := ⟨a.toNat, by omega⟩
        have hi : ii < 3 := by omega
        obtain ⟨o, h_o⟩ : ∃ o : Nat, o = 156 + 12 * ii := ⟨_, rfl⟩
        obtain ⟨p, h_p⟩ : ∃ o : Nat, o = 165 + 12 * ii := ⟨_, rfl⟩
        have ho : IsleT T o := IsleT_of hT (by rw [h_o]; exact (isl_i2 ii hi).1)
        have hq : ActsT T p := ActsT_of hT (by rw [h_p]; exact (isl_i2 ii hi).2)
        have hor : IsleR m o := IsleR_of hp (by rw [h_o]; exact (isl_i2 ii hi).1)
        have hqr : ActsR m p := ActsR_of hp (by rw [h_p]; exact (isl_i2 ii hi).2)
        have ho0 := ho.1
        have hq0 := hq.1
        rw [hia]
        refine gx_st (L' := [(2, 1), (0, (ii : Int))]) (S' := [(2, 1)]) r_67_41 rfl rfl rfl ?_
        refine gx_gf (x := 4) 2 r_67_42 (rfl) (ty_1 hT) ⟨by decide, rfl, by decide, by decide⟩ rfl (fun _ => by omega) (pin_at hp (t := 4) rfl (by decide)) ?_
        refine gx_st (L' := [(2, 1), (0, (ii : Int))]) (S' := [(2, 1), (2, 4)]) r_67_45 rfl rfl rfl ?_
        refine gx_gf (x := 154) 2 r_67_46 (rfl) (ty_1 hT) ⟨by decide, rfl, by decide, by decide⟩ rfl (fun _ => by omega) (pin_at hp (t := 154) rfl (by decide)) ?_
        refine gx_st (L' := [(2, 1), (0, (ii : Int))]) (S' := [(0, (ii : Int)), (2, 154), (2, 4)]) r_67_49 rfl rfl rfl ?_
        refine gx_aa (n := ii) (x := (o : Int)) r_67_50 (rfl) (by omega) (ty_154 hT) (by omega) ⟨by decide, by decide, by omega⟩ ((by rw [h_o]; exact pin_at hp (ke_i2 ii hi).1 (by omega))) (by omega) ?_
        refine gx_cv (nx := 54) (S2 := []) (gx_av (z_254 (o := 4) (s := o) (IsleT_of hT rfl) ho (IsleR_of hp rfl) hor (Or.inl (by omega))) (gx_hv (args := [(2, 4), (2, (o : Int))]) (pu_588 hT) ⟨gq_o4y2, gq_kx hi h_o, trivial⟩ hm rfl)) r_67_51 rfl rfl rfl rfl rfl (rcv_v rfl (ty_4 hT) (by decide) rfl (by decide)) rfl (by decide) rfl (fun n51 q51 => ?_)
        obtain ⟨⟨i1, i2, i3⟩, ig, iF⟩ := q51
        have pI : PinR n51 := PinR_fr iF (by decide) hp
        have aR : ActsR n51 22 := ActsR_of pI rfl
        have bR : ActsR n51 p := ActsR_of pI (by rw [h_p]; exact (isl_i2 ii hi).2)
        refine gx_st (L' := [(2, 1), (0, (ii : Int))]) (S' := [(2, 1)]) r_67_54 rfl rfl rfl ?_
        refine gx_gf (x := 22) 2 r_67_55 (rfl) (ty_1 hT) ⟨by decide, rfl, by decide, by decide⟩ rfl (fun _ => by omega) (pin_at pI (t := 22) rfl (by decide)) ?_
        refine gx_st (L' := [(2, 1), (0, (ii : Int))]) (S' := [(2, 1), (2, 22)]) r_67_58 rfl rfl rfl ?_
        refine gx_gf (x := 155) 2 r_67_59 (rfl) (ty_1 hT) ⟨by decide, rfl, by decide, by decide⟩ rfl (fun _ => by omega) (pin_at pI (t := 155) rfl (by decide)) ?_
        refine gx_st (L' := [(2, 1), (0, (ii : Int))]) (S' := [(0, (ii : Int)), (2, 155), (2, 22)]) r_67_62 rfl rfl rfl ?_
        refine gx_aa (n := ii) (x := (p : Int)) r_67_63 (rfl) (by omega) (ty_155 hT) (by omega) ⟨by decide, by decide, by omega⟩ ((by rw [h_p]; exact pin_at pI (ke_i2 ii hi).2 (by omega))) (by omega) ?_
        refine gx_cv (nx := 67) (S2 := []) (gx_av (z_236 (o := 22) (s := p) (ActsT_of hT rfl) hq aR bR (Or.inl (by omega))) (gx_hv (args := [(2, 22), (2, (p : Int))]) (pu_591 hT) ⟨gq_o22y2, gq_kz hi h_p, trivial⟩ ig rfl)) r_67_64 rfl rfl rfl rfl rfl (rcv_v rfl (ty_22 hT) (by decide) rfl (by decide)) rfl (by decide) rfl (fun n64 q64 => ?_)
        obtain ⟨⟨a1, a2, a3, a4⟩, ag, aF⟩ := q64
        have pA : PinR n64 := PinR_fr aF (by decide) pI
        refine gx_st (L' := [(2, 1), (0, (ii : Int))]) (S' := [(2, 1)]) r_67_67 rfl rfl rfl ?_
        refine gx_cv (nx := 71) (S2 := []) (u_75 hT ag pA) r_67_68 rfl rfl rfl rfl rfl (rcv_v rfl (ty_1 hT) (by decide) rfl (by decide)) rfl (by decide) rfl (fun n68 q68 => ?_)
        have sx : StoryX n68 := q68.1
        have pin_sx : PinR n68 := PinR_fr q68.2.2 (by decide) pA
        show GX T 14 67 71 [(2, 1), (0, (ii : Int))] [] n68 (RI (fun _ m1 => StoryX m → StoryX m1))
        refine gx_st (L' := [(2, 1), (0, (ii : Int))]) (S' := [(0, 0)]) r_67_71 rfl rfl rfl ?_
        exact gx_rt r_67_72 rfl rfl ⟨_, rfl, fun _ => sx⟩
      · refine gx_st (L' := [(2, 1), (0, a)]) (S' := [(0, (-6))]) r_67_38 rfl rfl rfl ?_
        exact gx_rt r_67_40 rfl rfl ⟨_, rfl, fun z => z⟩
    · refine gx_st (L' := [(2, 1), (0, a)]) (S' := [(0, (-2))]) r_67_24 rfl rfl rfl ?_
      exact gx_rt r_67_26 rfl rfl ⟨_, rfl, fun z => z⟩
theorem gq_o2z : gq0 (2, 2, 0) (2, 2) := (gq_2 rfl).mpr ⟨rfl, by decide, by decide, by decide⟩
theorem gq_o13z : gq0 (2, 13, 0) (2, 13) := (gq_2 rfl).mpr ⟨rfl, by decide, by decide, by decide⟩
theorem t_3 (hT : TT T) (hm : Gam m) (hp : PinR m) : GX T 14 3 0 [(2, 1), (9, 0)] [] m (RI (fun _ m1 => StoryX m → StoryX m1)) := by
  refine gx_st (L' := [(2, 1), (9, 0)]) (S' := [(2, 1)]) r_3_0 rfl rfl rfl ?_
  refine gx_gf (x := 2) 2 r_3_1 (rfl) (ty_1 hT) ⟨by decide, rfl, by decide, by decide⟩ rfl (fun _ => by omega) (pin_at hp (t := 2) rfl (by decide)) ?_
  refine gx_st (L' := [(2, 1), (9, 0)]) (S' := [(2, 1), (2, 2)]) r_3_4 rfl rfl rfl ?_
  refine gx_gf (x := 13) 2 r_3_5 (rfl) (ty_1 hT) ⟨by decide, rfl, by decide, by decide⟩ rfl (fun _ => by omega) (pin_at hp (t := 13) rfl (by decide)) ?_
  refine gx_ci (nx := 11) (S2 := []) (gx_hi (args := [(2, 2), (2, 13)]) (pu_223 hT) ⟨gq_o2z, gq_o13z, trivial⟩ hm rfl) r_3_8 rfl rfl rfl rfl rfl (rcv_v rfl (ty_2 hT) (by decide) rfl (by decide)) rfl (by decide) rfl (fun x8 n8 q8 => ?_)
  show GX T 14 3 11 [(2, 1), (9, 0)] [(0, x8)] n8 (RI (fun _ m1 => StoryX m → StoryX m1))
  have pn_n8 : PinR n8 := PinR_fr q8.2.2.2 (by decide) hp
  refine gx_st (L' := [(2, 1), (0, x8)]) (S' := []) r_3_11 rfl rfl rfl ?_
  refine gx_st (L' := [(2, 1), (0, x8)]) (S' := [(2, 1)]) r_3_12 rfl rfl rfl ?_
  refine gx_gf (x := 2) 2 r_3_13 (rfl) (ty_1 hT) ⟨by decide, rfl, by decide, by decide⟩ rfl (fun _ => by omega) (pin_at pn_n8 (t := 2) rfl (by decide)) ?_
  refine gx_st (L' := [(2, 1), (0, x8)]) (S' := [(0, 0), (2, 2)]) r_3_16 rfl rfl rfl ?_
  obtain ⟨m1, e_m1⟩ : ∃ z, z = nu_up n8 2 1 0 := ⟨_, rfl⟩
  have g_m1 : Gam m1 := by rw [e_m1]; exact gu_2_1 q8.2.2.1 (by decide) (by decide)
  have p_m1 : PinR m1 := by rw [e_m1]; exact PinR_up pn_n8 rfl
  refine gx_pf (x := 0) 0 r_3_17 (rfl) (ty_2 hT) ⟨by decide, rfl, by decide, by decide⟩ rfl (fun z => absurd z (by decide)) (fun z => absurd z (by decide)) e_m1.symm ?_
  refine gx_st (L' := [(2, 1), (0, x8)]) (S' := [(0, x8)]) r_3_20 rfl rfl rfl ?_
  refine gx_i0 (P := ¬ x8 = 0) r_3_21 (rfl) (fun h21 => ?_) (fun h21 => ?_)
  · refine gx_st (L' := [(2, 1), (0, x8)]) (S' := [(2, 1)]) r_3_27 rfl rfl rfl ?_
    refine gx_gf (x := 4) 2 r_3_28 (rfl) (ty_1 hT) ⟨by decide, rfl, by decide, by decide⟩ rfl (fun _ => by omega) (pin_at p_m1 (t := 4) rfl (by decide)) ?_
    refine gx_st (L' := [(2, 1), (0, x8)]) (S' := [(2, 1), (2, 4)]) r_3_31 rfl rfl rfl ?_
    refine gx_gf (x := 13) 2 r_3_32 (rfl) (ty_1 hT) ⟨by decide, rfl, by decide, by decide⟩ rfl (fun _ => by omega) (pin_at p_m1 (t := 13) rfl (by decide)) ?_
    refine gx_cv (nx := 38) (S2 := []) (gx_hv (args := [(2, 4), (2, 13)]) (pu_232 hT) ⟨gq_o4y2, gq_o13z, trivial⟩ g_m1 rfl) r_3_35 rfl rfl rfl rfl rfl (rcv_v rfl (ty_4 hT) (by decide) rfl (by decide)) rfl (by decide) rfl (fun n35 q35 => ?_)
    have pn_n35 : PinR n35 := PinR_fr q35.2 (by decide) p_m1
    refine gx_st (L' := [(2, 1), (0, x8)]) (S' := [(2, 1)]) r_3_38 rfl rfl rfl ?_
    refine gx_gf (x := 22) 2 r_3_39 (rfl) (ty_1 hT) ⟨by decide, rfl, by decide, by decide⟩ rfl (fun _ => by omega) (pin_at pn_n35 (t := 22) rfl (by decide)) ?_
    refine gx_cv (nx := 45) (S2 := []) (gx_hv (args := [(2, 22)]) (pu_234 hT) ⟨gq_o22y2, trivial⟩ q35.1 rfl) r_3_42 rfl rfl rfl rfl rfl (rcv_v rfl (ty_22 hT) (by decide) rfl (by decide)) rfl (by decide) rfl (fun n42 q42 => ?_)
    have pn_n42 : PinR n42 := PinR_fr q42.2 (by decide) pn_n35
    refine gx_st (L' := [(2, 1), (0, x8)]) (S' := [(2, 1)]) r_3_45 rfl rfl rfl ?_
    refine gx_cv (nx := 49) (S2 := []) (u_75 hT q42.1 pn_n42) r_3_46 rfl rfl rfl rfl rfl (rcv_v rfl (ty_1 hT) (by decide) rfl (by decide)) rfl (by decide) rfl (fun n46 q46 => ?_)
    have sx : StoryX n46 := q46.1
    have pin_sx : PinR n46 := PinR_fr q46.2.2 (by decide) pn_n42
    show GX T 14 3 49 [(2, 1), (0, x8)] [] n46 (RI (fun _ m1 => StoryX m → StoryX m1))
    refine gx_st (L' := [(2, 1), (0, x8)]) (S' := [(2, 1)]) r_3_49 rfl rfl rfl ?_
    refine gx_gf (x := 4) 2 r_3_50 (rfl) (ty_1 hT) ⟨by decide, rfl, by decide, by decide⟩ rfl (fun _ => by omega) (pin_at pin_sx (t := 4) rfl (by decide)) ?_
    refine gx_gf (x := (n46 4 0)) 0 r_3_53 (rfl) (ty_4 hT) ⟨by decide, rfl, by decide, by decide⟩ rfl (fun z => absurd z (by decide)) (rfl) ?_
    exact gx_rt r_3_56 rfl rfl ⟨_, rfl, fun _ => sx⟩
  · have h21 := Decidable.not_not.mp h21
    refine gx_st (L' := [(2, 1), (0, x8)]) (S' := [(0, (-4))]) r_3_24 rfl rfl rfl ?_
    exact gx_rt r_3_26 rfl rfl ⟨_, rfl, fun z => storyx_fr (W := [2001]) (by rw [e_m1]; exact Fr_up rfl) (by decide) (storyx_fr q8.2.2.2 (by decide) z)⟩
end TELLX
