/-! the reference's ride exactly -/
theorem hour_s3 (w s : Wd) (D : Nat → Nat → Int) (h a : Int) (hB : WB w) (hS : SBw w s) : (hourF w D h a s).1 3 = s 3 ∨ (hourF w D h a s).1 3 = h + 3 := by
  have car : ∀ (g : Int), ¬ s 1 = -1 → carF w s g 3 = s 3 := fun g hb1 => by
    rcases hS with z | ⟨b, p, hb, hb7, hp, hpn⟩
    · exact absurd z hb1
    · by_cases c : s (6 + b) + s 2 ≤ w (48 + 2 * b)
      · rw [car_lo hb c, upw_ne (by omega), upw_ne (by decide)]
      · by_cases d : strongF w g (ior (s 5) (ishl 1 (b : Int))) = -1
        · rw [car_no hb c d, over_ne (by decide) (by decide) (by decide), upw_ne (by decide), upw_ne (by omega), upw_ne (by decide)]
        · rw [car_ch hb c d, upw_ne (by decide), upw_ne (by decide), upw_ne (by omega), upw_ne (by decide)]
  by_cases hb1 : s 1 = -1
  · rw [hour_0 hb1]; exact Or.inl rfl
  have go : (goF w D h s).1 3 = s 3 := by
    unfold goF
    by_cases c : h < s 3
    · rw [if_pos c]
    · rw [if_neg c]
      by_cases d : steerF w D (s 0).toNat s = -1
      · rw [if_pos d]
      · rw [if_neg d]
        by_cases e : w (31 + 2 * (steerF w D (s 0).toNat s).toNat) = s 0
        · rw [if_pos e]
          rcases hS with z | ⟨b, p, hb, hb7, hp, hpn⟩
          · exact absurd z hb1
          · show eatF s (steerF w D (s 0).toNat s).toNat 3 = s 3
            rw [eat_b hb, upw_ne (by omega), upw_ne (by decide), upw_ne (by omega)]
        · rw [if_neg e]; exact car _ hb1
  by_cases hc : canF w D h a s = true
  · by_cases h2 : a = 2
    · rw [hour_th hb1 hc h2]; exact Or.inl (over_ne (s := s) (k := 1) (j := 3) (by decide) (by decide) (by decide))
    · by_cases h10 : 10 ≤ a
      · rw [hour_ca hb1 hc h2 h10]; exact Or.inl (car _ hb1)
      · by_cases h1 : a = 1
        · rw [hour_of hb1 hc h1, go_sl (show h < offF w h s 3 by unfold offF; rw [upw_at]; omega)]
          exact Or.inr (by show offF w h s 3 = h + 3; unfold offF; rw [upw_at])
        · exact absurd hc (can_no h1 h2 (by omega))
  · rw [hour_go hb1 hc]; exact Or.inl go
theorem run_3 {w s0 : Wd} {D : Nat → Nat → Int} {A : Nat → Int} (hB : WB w) (hP : WP w) (hD : WyD w D) (hA : ∀ h : Nat, h < 12 → 0 ≤ A h ∧ A h ≤ 16) (h0 : SB w s0 0) (h3 : s0 3 ≤ 20) : ∀ k : Nat, k ≤ 12 → runF w D A s0 k 3 ≤ 20 := by
  intro k
  induction k with
  | zero => intro _; exact h3
  | succ k ih =>
    intro hk
    have z := ih (by omega)
    have y : runF w D A s0 (k + 1) 3 = runF w D A s0 k 3 ∨ runF w D A s0 (k + 1) 3 = (k : Int) + 3 := hour_s3 w (runF w D A s0 k) D (k : Int) (A k) hB (sb_run hB hP hD hA h0 k (by omega)).1
    omega
/-- fruit goes only where he eats, and he eats only where there is fruit -/
theorem car_u {w s : Wd} {g : Int} {t : Nat} (hB : WB w) (hS : SBw w s) (hb1 : ¬ s 1 = -1) (ht5 : t < 5) : carF w s g (11 + t) = s (11 + t) := by
  rcases hS with z | ⟨b, p, hb, hb7, hp, hpn⟩
  · exact absurd z hb1
  have b7 := hB.2.2.2.2.1
  by_cases c : s (6 + b) + s 2 ≤ w (48 + 2 * b)
  · rw [car_lo hb c, upw_ne (by omega), upw_ne (by omega)]
  · by_cases d : strongF w g (ior (s 5) (ishl 1 (b : Int))) = -1
    · rw [car_no hb c d]
      unfold overF
      by_cases e : 11 + t = 16
      · omega
      · rw [upw_ne (by omega), upw_ne (by omega), upw_ne e, upw_ne (by omega), upw_ne (by omega), upw_ne (by omega)]
    · rw [car_ch hb c d, upw_ne (by omega), upw_ne (by omega), upw_ne (by omega), upw_ne (by omega)]
theorem nt_hour {nt : Int} {w s : Wd} {D : Nat → Nat → Int} {h a : Int} (hB : WB w) (hS : SBw w s) (hnt : NtS nt w s) : NtS nt w (hourF w D h a s).1 := by
  intro t ht h5
  have b5 := hB.2.2.1
  have b7 := hB.2.2.2.2.1
  have t5 : t < 5 := by omega
  have z := hnt t ht h5
  by_cases hb1 : s 1 = -1
  · rw [hour_0 hb1]; exact z
  by_cases hc : canF w D h a s = true
  · by_cases h2 : a = 2
    · rw [hour_th hb1 hc h2]
      show overF s 1 (11 + t) = 0
      rw [over_ne (by omega) (by omega) (by omega)]; exact z
    · by_cases h10 : 10 ≤ a
      · rw [hour_ca hb1 hc h2 h10]; exact (car_u hB hS hb1 t5).trans z
      · by_cases h1 : a = 1
        · rw [hour_of hb1 hc h1, go_sl (show h < offF w h s 3 by unfold offF; rw [upw_at]; omega)]
          show offF w h s (11 + t) = 0
          unfold offF
          rw [upw_ne (by omega), upw_ne (by omega)]; exact z
        · exact absurd hc (can_no h1 h2 (by omega))
  · rw [hour_go hb1 hc]
    unfold goF
    by_cases c : h < s 3
    · rw [if_pos c]; exact z
    · rw [if_neg c]
      rcases steer_ok w D (s 0).toNat s with d | ⟨t3, t31, t32, t33, t34⟩
      · rw [if_pos d]; exact z
      · rw [if_neg (by omega), t31, Int.toNat_natCast]
        by_cases e : w (31 + 2 * t3) = s 0
        · rw [if_pos e]
          rcases hS with z2 | ⟨b, p, hb, hb7, hp, hpn⟩
          · exact absurd z2 hb1
          · show eatF s t3 (11 + t) = 0
            have hne : ¬ t = t3 := fun q => by rw [q] at z; omega
            rw [eat_b hb, upw_ne (by omega), upw_ne (by omega), upw_ne (by omega)]; exact z
        · rw [if_neg e]; exact (car_u hB hS hb1 t5).trans z
theorem nt_run {nt : Int} {w s0 : Wd} {D : Nat → Nat → Int} {A : Nat → Int} (hB : WB w) (hP : WP w) (hD : WyD w D) (hA : ∀ h : Nat, h < 12 → 0 ≤ A h ∧ A h ≤ 16) (h0 : SB w s0 0) (hnt : NtS nt w s0) : ∀ k : Nat, k ≤ 12 → NtS nt w (runF w D A s0 k) := by
  intro k
  induction k with
  | zero => intro _; exact hnt
  | succ k ih => intro hk; exact nt_hour hB (sb_run hB hP hD hA h0 k (by omega)).1 (ih (by omega))
/-- the reference's rows tell the ride -/
def RunP (nt : Int) (m : Mm) (w : Wd) (D : Nat → Nat → Int) (A : Nat → Int) (s0 : Wd) (k : Nat) : Prop := (∀ h : Nat, h ≤ k → RowR nt m h (runF w D A s0 h)) ∧ (∀ h : Nat, h < k → m 201 h = deedF w D A s0 h) ∧ m 192 21 = endF (fun h => runF w D A s0 h 1) k ∧ m 192 22 = runF w D A s0 k 16 ∧ ∀ b : Nat, b < 5 → m 204 b = ((carN (deedF w D A s0) (fun h => runF w D A s0 h 1) (b : Int) k : Nat) : Int)
theorem runp_s {nt : Int} {m m1 : Mm} {w s0 : Wd} {D : Nat → Nat → Int} {A : Nat → Int} {k : Nat} (r : RunP nt m w D A s0 k) (p : HourP nt m m1 k (runF w D A s0 k) (runF w D A s0 (k + 1)) (deedF w D A s0 k)) : RunP nt m1 w D A s0 (k + 1) := by
  obtain ⟨r1, r2, r3, r4, r5⟩ := r
  obtain ⟨p1, p2, p3, p4, p5, p6⟩ := p
  refine ⟨fun h hh => ?_, fun h hh => ?_, ?_, p4, fun b hb => ?_⟩
  · by_cases c : h = k + 1
    · rw [c]; exact p1
    · exact row_e (r1 h (by omega)) (fun i i1 i2 => p6 200 i (by omega) (by omega) (by omega) (by omega) (by omega))
  · by_cases c : h = k
    · rw [c]; exact p2
    · rw [p6 201 h (by omega) (by omega) (by omega) (by omega) (by omega)]; exact r2 h (by omega)
  · rw [p3, r3]; rfl
  · rw [p5 b hb, r5 b hb]
    show _ = (((if deedF w D A s0 k = 3 ∧ runF w D A s0 k 1 = (b : Int) then carN (deedF w D A s0) (fun h => runF w D A s0 h 1) (b : Int) k + 1 else carN (deedF w D A s0) (fun h => runF w D A s0 h 1) (b : Int) k : Nat)) : Int)
    split <;> omega
/-- a first state of the reference -/
def BegS (w s0 : Wd) (x y : Int) : Prop := s0 0 = x ∧ s0 1 = y ∧ s0 2 = w 2 ∧ s0 3 = 0 ∧ s0 4 = 0 ∧ s0 5 = 0 ∧ (∀ b : Nat, b < 5 → s0 (6 + b) = 0) ∧ (∀ t : Nat, t < 5 → s0 (11 + t) = w (32 + 2 * t)) ∧ s0 16 = -1
theorem begS_of (w : Wd) (b p : Int) : BegS w (beginF w b p) (if b < w 7 then p else -1) (if b < w 7 then b else -1) := ⟨rfl, rfl, rfl, rfl, rfl, rfl, fun _ h => begin_t h, fun _ h => begin_u h, rfl⟩
/-- what the reference's runs leave as it was -/
def FrG (m m1 : Mm) : Prop := ∀ p i : Nat, ¬ (200 ≤ p ∧ p ≤ 202) → ¬ p = 204 → ¬ (p = 192 ∧ (i = 21 ∨ i = 22)) → m1 p i = m p i
theorem frg_tr {a b c : Mm} (h1 : FrG a b) (h2 : FrG b c) : FrG a c := fun p i x y z => (h2 p i x y z).trans (h1 p i x y z)
theorem frg_h {nt v : Int} {a b : Mm} {h : Nat} {s s2 : Wd} (p : HourP nt a b h s s2 v) : FrG a b := fun q i x y z => p.2.2.2.2.2 q i (by omega) (by omega) (by omega) y z
theorem pin_g {m m1 : Mm} (hp : PinR m) (f : FrG m m1) : PinR m1 := fun o i hq => by
  have e : ∀ o : Nat, ((200 ≤ o ∧ o ≤ 202) ∨ o = 204) → pinF o i = 0 := fun o ho => by
    rcases ho with z | z
    · have : o = 200 ∨ o = 201 ∨ o = 202 := by omega
      rcases this with rfl | rfl | rfl <;> rfl
    · rw [z]; rfl
  rw [f o i (fun z => hq (e o (Or.inl z))) (fun z => hq (e o (Or.inr z))) (fun z => by
    rw [z.1] at hq
    rcases z.2 with y | y <;> rw [y] at hq <;> exact hq rfl)]
  exact hp o i hq
section RUNR
variable {T : List Kd} {m : Mm}
theorem y_134 (hT : TT T) (hp : PinR m) {w : Wd} {nt : Int} (hE : EW nt m w) {s0 : Wd} {x y : Int} (hs : BegS w s0 x y) : GX T 1 134 0 [(2, 192), (0, x), (0, y), (9, 0)] [] m (RV (fun m1 => RowR nt m1 0 s0 ∧ ∀ p i : Nat, ¬ (p = 200 ∧ i < 16) → m1 p i = m p i)) := by
  refine gx_st (L' := [(2, 192), (0, x), (0, y), (9, 0)]) (S' := [(2, 192)]) r_134_0 rfl rfl rfl ?_
  refine gx_st (L' := [(2, 192), (0, x), (0, y), (9, 0)]) (S' := [(0, 0), (2, 192)]) r_134_1 rfl rfl rfl ?_
  refine gx_st (L' := [(2, 192), (0, x), (0, y), (9, 0)]) (S' := [(0, 0), (0, 0), (2, 192)]) r_134_2 rfl rfl rfl ?_
  refine gx_st (L' := [(2, 192), (0, x), (0, y), (9, 0)]) (S' := [(0, x), (0, 0), (0, 0), (2, 192)]) r_134_3 rfl rfl rfl ?_
  refine gx_cv (nx := 7) (S2 := []) (l_132 hT hp (h := 0) (k := 0) (i := 0) (by omega) (by omega) x) r_134_4 rfl rfl rfl rfl rfl (rcv_v rfl (ty_192 hT) (by decide) rfl (by decide)) rfl (by decide) rfl (fun n4_1 q4_1 => ?_)
  have e_n4_1 : n4_1 = nu_up m 200 0 x := q4_1
  show GX T 1 134 7 [(2, 192), (0, x), (0, y), (9, 0)] [] n4_1 (RV (fun m1 => RowR nt m1 0 s0 ∧ ∀ p i : Nat, ¬ (p = 200 ∧ i < 16) → m1 p i = m p i))
  refine gx_st (L' := [(2, 192), (0, x), (0, y), (9, 0)]) (S' := [(2, 192)]) r_134_7 rfl rfl rfl ?_
  refine gx_st (L' := [(2, 192), (0, x), (0, y), (9, 0)]) (S' := [(0, 0), (2, 192)]) r_134_8 rfl rfl rfl ?_
  refine gx_st (L' := [(2, 192), (0, x), (0, y), (9, 0)]) (S' := [(0, 1), (0, 0), (2, 192)]) r_134_9 rfl rfl rfl ?_
  refine gx_st (L' := [(2, 192), (0, x), (0, y), (9, 0)]) (S' := [(0, y), (0, 1), (0, 0), (2, 192)]) r_134_10 rfl rfl rfl ?_
  have pp_n4_1 : PinR n4_1 := by rw [e_n4_1]; exact PinR_up hp rfl
  refine gx_cv (nx := 14) (S2 := []) (l_132 hT pp_n4_1 (h := 0) (k := 1) (i := 1) (by omega) (by omega) y) r_134_11 rfl rfl rfl rfl rfl (rcv_v rfl (ty_192 hT) (by decide) rfl (by decide)) rfl (by decide) rfl (fun n11_2 q11_2 => ?_)
  have e_n11_2 : n11_2 = nu_up n4_1 200 1 y := q11_2
  show GX T 1 134 14 [(2, 192), (0, x), (0, y), (9, 0)] [] n11_2 (RV (fun m1 => RowR nt m1 0 s0 ∧ ∀ p i : Nat, ¬ (p = 200 ∧ i < 16) → m1 p i = m p i))
  refine gx_st (L' := [(2, 192), (0, x), (0, y), (9, 0)]) (S' := [(2, 192)]) r_134_14 rfl rfl rfl ?_
  refine gx_st (L' := [(2, 192), (0, x), (0, y), (9, 0)]) (S' := [(0, 0), (2, 192)]) r_134_15 rfl rfl rfl ?_
  refine gx_st (L' := [(2, 192), (0, x), (0, y), (9, 0)]) (S' := [(0, 2), (0, 0), (2, 192)]) r_134_16 rfl rfl rfl ?_
  refine gx_st (L' := [(2, 192), (0, x), (0, y), (9, 0)]) (S' := [(2, 192), (0, 2), (0, 0), (2, 192)]) r_134_17 rfl rfl rfl ?_
  refine gx_gf (x := (m 192 26)) 0 r_134_18 (rfl) (ty_192 hT) ⟨by decide, rfl, by decide, by decide⟩ rfl (fun z => absurd z (by decide)) (by show n11_2 192 26 = _; rw [e_n11_2, nu_no (by decide), e_n4_1, nu_no (by decide)]) ?_
  refine gx_i0 (P := ¬ (m 192 26) = 0) r_134_21 (rfl) (fun h21 => ?_) (fun h21 => ?_)
  · refine gx_st (L' := [(2, 192), (0, x), (0, y), (9, 0)]) (S' := [(2, 192), (0, 2), (0, 0), (2, 192)]) r_134_33 rfl rfl rfl ?_
    refine gx_gf (x := (m 192 26)) 0 r_134_34 (rfl) (ty_192 hT) ⟨by decide, rfl, by decide, by decide⟩ rfl (fun z => absurd z (by decide)) (by show n11_2 192 26 = _; rw [e_n11_2, nu_no (by decide), e_n4_1, nu_no (by decide)]) ?_
    have pp_n11_2 : PinR n11_2 := by rw [e_n11_2, e_n4_1]; exact PinR_up (PinR_up hp rfl) rfl
    refine gx_cv (nx := 40) (S2 := []) (l_132 hT pp_n11_2 (h := 0) (k := 2) (i := 2) (by omega) (by omega) (m 192 26)) r_134_37 rfl rfl rfl rfl rfl (rcv_v rfl (ty_192 hT) (by decide) rfl (by decide)) rfl (by decide) rfl (fun n37_3 q37_3 => ?_)
    have e_n37_3 : n37_3 = nu_up n11_2 200 2 (m 192 26) := q37_3
    show GX T 1 134 40 [(2, 192), (0, x), (0, y), (9, 0)] [] n37_3 (RV (fun m1 => RowR nt m1 0 s0 ∧ ∀ p i : Nat, ¬ (p = 200 ∧ i < 16) → m1 p i = m p i))
    refine gx_st (L' := [(2, 192), (0, x), (0, y), (9, 0)]) (S' := [(2, 192)]) r_134_40 rfl rfl rfl ?_
    refine gx_st (L' := [(2, 192), (0, x), (0, y), (9, 0)]) (S' := [(0, 0), (2, 192)]) r_134_41 rfl rfl rfl ?_
    refine gx_st (L' := [(2, 192), (0, x), (0, y), (9, 0)]) (S' := [(0, 3), (0, 0), (2, 192)]) r_134_42 rfl rfl rfl ?_
    refine gx_st (L' := [(2, 192), (0, x), (0, y), (9, 0)]) (S' := [(0, 0), (0, 3), (0, 0), (2, 192)]) r_134_43 rfl rfl rfl ?_
    have pp_n37_3 : PinR n37_3 := by rw [e_n37_3, e_n11_2, e_n4_1]; exact PinR_up (PinR_up (PinR_up hp rfl) rfl) rfl
    refine gx_cv (nx := 47) (S2 := []) (l_132 hT pp_n37_3 (h := 0) (k := 3) (i := 3) (by omega) (by omega) 0) r_134_44 rfl rfl rfl rfl rfl (rcv_v rfl (ty_192 hT) (by decide) rfl (by decide)) rfl (by decide) rfl (fun n44_4 q44_4 => ?_)
    have e_n44_4 : n44_4 = nu_up n37_3 200 3 0 := q44_4
    show GX T 1 134 47 [(2, 192), (0, x), (0, y), (9, 0)] [] n44_4 (RV (fun m1 => RowR nt m1 0 s0 ∧ ∀ p i : Nat, ¬ (p = 200 ∧ i < 16) → m1 p i = m p i))
    refine gx_st (L' := [(2, 192), (0, x), (0, y), (9, 0)]) (S' := [(2, 192)]) r_134_47 rfl rfl rfl ?_
    refine gx_st (L' := [(2, 192), (0, x), (0, y), (9, 0)]) (S' := [(0, 0), (2, 192)]) r_134_48 rfl rfl rfl ?_
    refine gx_st (L' := [(2, 192), (0, x), (0, y), (9, 0)]) (S' := [(0, 4), (0, 0), (2, 192)]) r_134_49 rfl rfl rfl ?_
    refine gx_st (L' := [(2, 192), (0, x), (0, y), (9, 0)]) (S' := [(0, 0), (0, 4), (0, 0), (2, 192)]) r_134_50 rfl rfl rfl ?_
    have pp_n44_4 : PinR n44_4 := by rw [e_n44_4, e_n37_3, e_n11_2, e_n4_1]; exact PinR_up (PinR_up (PinR_up (PinR_up hp rfl) rfl) rfl) rfl
    refine gx_cv (nx := 54) (S2 := []) (l_132 hT pp_n44_4 (h := 0) (k := 4) (i := 4) (by omega) (by omega) 0) r_134_51 rfl rfl rfl rfl rfl (rcv_v rfl (ty_192 hT) (by decide) rfl (by decide)) rfl (by decide) rfl (fun n51_5 q51_5 => ?_)
    have e_n51_5 : n51_5 = nu_up n44_4 200 4 0 := q51_5
    show GX T 1 134 54 [(2, 192), (0, x), (0, y), (9, 0)] [] n51_5 (RV (fun m1 => RowR nt m1 0 s0 ∧ ∀ p i : Nat, ¬ (p = 200 ∧ i < 16) → m1 p i = m p i))
    refine gx_st (L' := [(2, 192), (0, x), (0, y), (9, 0)]) (S' := [(2, 192)]) r_134_54 rfl rfl rfl ?_
    refine gx_st (L' := [(2, 192), (0, x), (0, y), (9, 0)]) (S' := [(0, 0), (2, 192)]) r_134_55 rfl rfl rfl ?_
    refine gx_st (L' := [(2, 192), (0, x), (0, y), (9, 0)]) (S' := [(0, 5), (0, 0), (2, 192)]) r_134_56 rfl rfl rfl ?_
    refine gx_st (L' := [(2, 192), (0, x), (0, y), (9, 0)]) (S' := [(0, 0), (0, 5), (0, 0), (2, 192)]) r_134_57 rfl rfl rfl ?_
    have pp_n51_5 : PinR n51_5 := by rw [e_n51_5, e_n44_4, e_n37_3, e_n11_2, e_n4_1]; exact PinR_up (PinR_up (PinR_up (PinR_up (PinR_up hp rfl) rfl) rfl) rfl) rfl
    refine gx_cv (nx := 61) (S2 := []) (l_132 hT pp_n51_5 (h := 0) (k := 5) (i := 5) (by omega) (by omega) 0) r_134_58 rfl rfl rfl rfl rfl (rcv_v rfl (ty_192 hT) (by decide) rfl (by decide)) rfl (by decide) rfl (fun n58_6 q58_6 => ?_)
    have e_n58_6 : n58_6 = nu_up n51_5 200 5 0 := q58_6
    show GX T 1 134 61 [(2, 192), (0, x), (0, y), (9, 0)] [] n58_6 (RV (fun m1 => RowR nt m1 0 s0 ∧ ∀ p i : Nat, ¬ (p = 200 ∧ i < 16) → m1 p i = m p i))
    refine gx_st (L' := [(2, 192), (0, x), (0, y), (9, 0)]) (S' := [(0, 0)]) r_134_61 rfl rfl rfl ?_
    refine gx_st (L' := [(2, 192), (0, x), (0, y), (0, 0)]) (S' := []) r_134_62 rfl rfl rfl ?_
    refine gx_st (L' := [(2, 192), (0, x), (0, y), (0, 0)]) (S' := [(0, 0)]) r_134_63 rfl rfl rfl ?_
    refine gx_st (L' := [(2, 192), (0, x), (0, y), (0, 0)]) (S' := [(0, 5), (0, 0)]) r_134_64 rfl rfl rfl ?_
    refine gx_ic (P := 5 ≤ 0) r_134_65 (rfl) (fun h65 => ?_) (fun h65 => ?_)
    · omega
    · refine gx_st (L' := [(2, 192), (0, x), (0, y), (0, 0)]) (S' := [(2, 192)]) r_134_68 rfl rfl rfl ?_
      refine gx_st (L' := [(2, 192), (0, x), (0, y), (0, 0)]) (S' := [(0, 0), (2, 192)]) r_134_69 rfl rfl rfl ?_
      refine gx_st (L' := [(2, 192), (0, x), (0, y), (0, 0)]) (S' := [(0, 6), (0, 0), (2, 192)]) r_134_70 rfl rfl rfl ?_
      refine gx_st (L' := [(2, 192), (0, x), (0, y), (0, 0)]) (S' := [(0, 0), (0, 6), (0, 0), (2, 192)]) r_134_72 rfl rfl rfl ?_
      refine gx_ar (L' := [(2, 192), (0, x), (0, y), (0, 0)]) (S' := [(0, 0), (2, 192)]) (t := 0) (e := w32 (6 + 0)) (z := 6) r_134_73 rfl rfl rfl (w32_eq (by omega) (by omega) (by omega)) ?_
      refine gx_st (L' := [(2, 192), (0, x), (0, y), (0, 0)]) (S' := [(0, 0), (0, 6), (0, 0), (2, 192)]) r_134_74 rfl rfl rfl ?_
      have pp_n58_6 : PinR n58_6 := by rw [e_n58_6, e_n51_5, e_n44_4, e_n37_3, e_n11_2, e_n4_1]; exact PinR_up (PinR_up (PinR_up (PinR_up (PinR_up (PinR_up hp rfl) rfl) rfl) rfl) rfl) rfl
      refine gx_cv (nx := 78) (S2 := []) (l_132 hT pp_n58_6 (h := 0) (k := 6) (i := 6) (by omega) (by omega) 0) r_134_75 rfl rfl rfl rfl rfl (rcv_v rfl (ty_192 hT) (by decide) rfl (by decide)) rfl (by decide) rfl (fun n75_7 q75_7 => ?_)
      have e_n75_7 : n75_7 = nu_up n58_6 200 6 0 := q75_7
      show GX T 1 134 78 [(2, 192), (0, x), (0, y), (0, 0)] [] n75_7 (RV (fun m1 => RowR nt m1 0 s0 ∧ ∀ p i : Nat, ¬ (p = 200 ∧ i < 16) → m1 p i = m p i))
      refine gx_li (z := 1) (L' := [(2, 192), (0, x), (0, y), (0, 1)]) r_134_78 rfl (w32_eq (by omega) (by omega) (by omega)) rfl ?_
      refine gx_st (L' := [(2, 192), (0, x), (0, y), (0, 1)]) (S' := []) r_134_81 rfl rfl rfl ?_
      refine gx_st (L' := [(2, 192), (0, x), (0, y), (0, 1)]) (S' := [(0, 1)]) r_134_63 rfl rfl rfl ?_
      refine gx_st (L' := [(2, 192), (0, x), (0, y), (0, 1)]) (S' := [(0, 5), (0, 1)]) r_134_64 rfl rfl rfl ?_
      refine gx_ic (P := 5 ≤ 1) r_134_65 (rfl) (fun h65 => ?_) (fun h65 => ?_)
      · omega
      · refine gx_st (L' := [(2, 192), (0, x), (0, y), (0, 1)]) (S' := [(2, 192)]) r_134_68 rfl rfl rfl ?_
        refine gx_st (L' := [(2, 192), (0, x), (0, y), (0, 1)]) (S' := [(0, 0), (2, 192)]) r_134_69 rfl rfl rfl ?_
        refine gx_st (L' := [(2, 192), (0, x), (0, y), (0, 1)]) (S' := [(0, 6), (0, 0), (2, 192)]) r_134_70 rfl rfl rfl ?_
        refine gx_st (L' := [(2, 192), (0, x), (0, y), (0, 1)]) (S' := [(0, 1), (0, 6), (0, 0), (2, 192)]) r_134_72 rfl rfl rfl ?_
        refine gx_ar (L' := [(2, 192), (0, x), (0, y), (0, 1)]) (S' := [(0, 0), (2, 192)]) (t := 0) (e := w32 (6 + 1)) (z := 7) r_134_73 rfl rfl rfl (w32_eq (by omega) (by omega) (by omega)) ?_
        refine gx_st (L' := [(2, 192), (0, x), (0, y), (0, 1)]) (S' := [(0, 0), (0, 7), (0, 0), (2, 192)]) r_134_74 rfl rfl rfl ?_
        have pp_n75_7 : PinR n75_7 := by rw [e_n75_7, e_n58_6, e_n51_5, e_n44_4, e_n37_3, e_n11_2, e_n4_1]; exact PinR_up (PinR_up (PinR_up (PinR_up (PinR_up (PinR_up (PinR_up hp rfl) rfl) rfl) rfl) rfl) rfl) rfl
        refine gx_cv (nx := 78) (S2 := []) (l_132 hT pp_n75_7 (h := 0) (k := 7) (i := 7) (by omega) (by omega) 0) r_134_75 rfl rfl rfl rfl rfl (rcv_v rfl (ty_192 hT) (by decide) rfl (by decide)) rfl (by decide) rfl (fun n75_8 q75_8 => ?_)
        have e_n75_8 : n75_8 = nu_up n75_7 200 7 0 := q75_8
        show GX T 1 134 78 [(2, 192), (0, x), (0, y), (0, 1)] [] n75_8 (RV (fun m1 => RowR nt m1 0 s0 ∧ ∀ p i : Nat, ¬ (p = 200 ∧ i < 16) → m1 p i = m p i))
        refine gx_li (z := 2) (L' := [(2, 192), (0, x), (0, y), (0, 2)]) r_134_78 rfl (w32_eq (by omega) (by omega) (by omega)) rfl ?_
        refine gx_st (L' := [(2, 192), (0, x), (0, y), (0, 2)]) (S' := []) r_134_81 rfl rfl rfl ?_
        refine gx_st (L' := [(2, 192), (0, x), (0, y), (0, 2)]) (S' := [(0, 2)]) r_134_63 rfl rfl rfl ?_
        refine gx_st (L' := [(2, 192), (0, x), (0, y), (0, 2)]) (S' := [(0, 5), (0, 2)]) r_134_64 rfl rfl rfl ?_
        refine gx_ic (P := 5 ≤ 2) r_134_65 (rfl) (fun h65 => ?_) (fun h65 => ?_)
        · omega
        · refine gx_st (L' := [(2, 192), (0, x), (0, y), (0, 2)]) (S' := [(2, 192)]) r_134_68 rfl rfl rfl ?_
          refine gx_st (L' := [(2, 192), (0, x), (0, y), (0, 2)]) (S' := [(0, 0), (2, 192)]) r_134_69 rfl rfl rfl ?_
          refine gx_st (L' := [(2, 192), (0, x), (0, y), (0, 2)]) (S' := [(0, 6), (0, 0), (2, 192)]) r_134_70 rfl rfl rfl ?_
          refine gx_st (L' := [(2, 192), (0, x), (0, y), (0, 2)]) (S' := [(0, 2), (0, 6), (0, 0), (2, 192)]) r_134_72 rfl rfl rfl ?_
          refine gx_ar (L' := [(2, 192), (0, x), (0, y), (0, 2)]) (S' := [(0, 0), (2, 192)]) (t := 0) (e := w32 (6 + 2)) (z := 8) r_134_73 rfl rfl rfl (w32_eq (by omega) (by omega) (by omega)) ?_
          refine gx_st (L' := [(2, 192), (0, x), (0, y), (0, 2)]) (S' := [(0, 0), (0, 8), (0, 0), (2, 192)]) r_134_74 rfl rfl rfl ?_
          have pp_n75_8 : PinR n75_8 := by rw [e_n75_8, e_n75_7, e_n58_6, e_n51_5, e_n44_4, e_n37_3, e_n11_2, e_n4_1]; exact PinR_up (PinR_up (PinR_up (PinR_up (PinR_up (PinR_up (PinR_up (PinR_up hp rfl) rfl) rfl) rfl) rfl) rfl) rfl) rfl
          refine gx_cv (nx := 78) (S2 := []) (l_132 hT pp_n75_8 (h := 0) (k := 8) (i := 8) (by omega) (by omega) 0) r_134_75 rfl rfl rfl rfl rfl (rcv_v rfl (ty_192 hT) (by decide) rfl (by decide)) rfl (by decide) rfl (fun n75_9 q75_9 => ?_)
          have e_n75_9 : n75_9 = nu_up n75_8 200 8 0 := q75_9
          show GX T 1 134 78 [(2, 192), (0, x), (0, y), (0, 2)] [] n75_9 (RV (fun m1 => RowR nt m1 0 s0 ∧ ∀ p i : Nat, ¬ (p = 200 ∧ i < 16) → m1 p i = m p i))
          refine gx_li (z := 3) (L' := [(2, 192), (0, x), (0, y), (0, 3)]) r_134_78 rfl (w32_eq (by omega) (by omega) (by omega)) rfl ?_
          refine gx_st (L' := [(2, 192), (0, x), (0, y), (0, 3)]) (S' := []) r_134_81 rfl rfl rfl ?_
          refine gx_st (L' := [(2, 192), (0, x), (0, y), (0, 3)]) (S' := [(0, 3)]) r_134_63 rfl rfl rfl ?_
          refine gx_st (L' := [(2, 192), (0, x), (0, y), (0, 3)]) (S' := [(0, 5), (0, 3)]) r_134_64 rfl rfl rfl ?_
          refine gx_ic (P := 5 ≤ 3) r_134_65 (rfl) (fun h65 => ?_) (fun h65 => ?_)
          · omega
          · refine gx_st (L' := [(2, 192), (0, x), (0, y), (0, 3)]) (S' := [(2, 192)]) r_134_68 rfl rfl rfl ?_
            refine gx_st (L' := [(2, 192), (0, x), (0, y), (0, 3)]) (S' := [(0, 0), (2, 192)]) r_134_69 rfl rfl rfl ?_
            refine gx_st (L' := [(2, 192), (0, x), (0, y), (0, 3)]) (S' := [(0, 6), (0, 0), (2, 192)]) r_134_70 rfl rfl rfl ?_
            refine gx_st (L' := [(2, 192), (0, x), (0, y), (0, 3)]) (S' := [(0, 3), (0, 6), (0, 0), (2, 192)]) r_134_72 rfl rfl rfl ?_
            refine gx_ar (L' := [(2, 192), (0, x), (0, y), (0, 3)]) (S' := [(0, 0), (2, 192)]) (t := 0) (e := w32 (6 + 3)) (z := 9) r_134_73 rfl rfl rfl (w32_eq (by omega) (by omega) (by omega)) ?_
            refine gx_st (L' := [(2, 192), (0, x), (0, y), (0, 3)]) (S' := [(0, 0), (0, 9), (0, 0), (2, 192)]) r_134_74 rfl rfl rfl ?_
            have pp_n75_9 : PinR n75_9 := by rw [e_n75_9, e_n75_8, e_n75_7, e_n58_6, e_n51_5, e_n44_4, e_n37_3, e_n11_2, e_n4_1]; exact PinR_up (PinR_up (PinR_up (PinR_up (PinR_up (PinR_up (PinR_up (PinR_up (PinR_up hp rfl) rfl) rfl) rfl) rfl) rfl) rfl) rfl) rfl
            refine gx_cv (nx := 78) (S2 := []) (l_132 hT pp_n75_9 (h := 0) (k := 9) (i := 9) (by omega) (by omega) 0) r_134_75 rfl rfl rfl rfl rfl (rcv_v rfl (ty_192 hT) (by decide) rfl (by decide)) rfl (by decide) rfl (fun n75_10 q75_10 => ?_)
            have e_n75_10 : n75_10 = nu_up n75_9 200 9 0 := q75_10
            show GX T 1 134 78 [(2, 192), (0, x), (0, y), (0, 3)] [] n75_10 (RV (fun m1 => RowR nt m1 0 s0 ∧ ∀ p i : Nat, ¬ (p = 200 ∧ i < 16) → m1 p i = m p i))
            refine gx_li (z := 4) (L' := [(2, 192), (0, x), (0, y), (0, 4)]) r_134_78 rfl (w32_eq (by omega) (by omega) (by omega)) rfl ?_
            refine gx_st (L' := [(2, 192), (0, x), (0, y), (0, 4)]) (S' := []) r_134_81 rfl rfl rfl ?_
            refine gx_st (L' := [(2, 192), (0, x), (0, y), (0, 4)]) (S' := [(0, 4)]) r_134_63 rfl rfl rfl ?_
            refine gx_st (L' := [(2, 192), (0, x), (0, y), (0, 4)]) (S' := [(0, 5), (0, 4)]) r_134_64 rfl rfl rfl ?_
            refine gx_ic (P := 5 ≤ 4) r_134_65 (rfl) (fun h65 => ?_) (fun h65 => ?_)
            · omega
            · refine gx_st (L' := [(2, 192), (0, x), (0, y), (0, 4)]) (S' := [(2, 192)]) r_134_68 rfl rfl rfl ?_
              refine gx_st (L' := [(2, 192), (0, x), (0, y), (0, 4)]) (S' := [(0, 0), (2, 192)]) r_134_69 rfl rfl rfl ?_
              refine gx_st (L' := [(2, 192), (0, x), (0, y), (0, 4)]) (S' := [(0, 6), (0, 0), (2, 192)]) r_134_70 rfl rfl rfl ?_
              refine gx_st (L' := [(2, 192), (0, x), (0, y), (0, 4)]) (S' := [(0, 4), (0, 6), (0, 0), (2, 192)]) r_134_72 rfl rfl rfl ?_
              refine gx_ar (L' := [(2, 192), (0, x), (0, y), (0, 4)]) (S' := [(0, 0), (2, 192)]) (t := 0) (e := w32 (6 + 4)) (z := 10) r_134_73 rfl rfl rfl (w32_eq (by omega) (by omega) (by omega)) ?_
              refine gx_st (L' := [(2, 192), (0, x), (0, y), (0, 4)]) (S' := [(0, 0), (0, 10), (0, 0), (2, 192)]) r_134_74 rfl rfl rfl ?_
              have pp_n75_10 : PinR n75_10 := by rw [e_n75_10, e_n75_9, e_n75_8, e_n75_7, e_n58_6, e_n51_5, e_n44_4, e_n37_3, e_n11_2, e_n4_1]; exact PinR_up (PinR_up (PinR_up (PinR_up (PinR_up (PinR_up (PinR_up (PinR_up (PinR_up (PinR_up hp rfl) rfl) rfl) rfl) rfl) rfl) rfl) rfl) rfl) rfl
              refine gx_cv (nx := 78) (S2 := []) (l_132 hT pp_n75_10 (h := 0) (k := 10) (i := 10) (by omega) (by omega) 0) r_134_75 rfl rfl rfl rfl rfl (rcv_v rfl (ty_192 hT) (by decide) rfl (by decide)) rfl (by decide) rfl (fun n75_11 q75_11 => ?_)
              have e_n75_11 : n75_11 = nu_up n75_10 200 10 0 := q75_11
              show GX T 1 134 78 [(2, 192), (0, x), (0, y), (0, 4)] [] n75_11 (RV (fun m1 => RowR nt m1 0 s0 ∧ ∀ p i : Nat, ¬ (p = 200 ∧ i < 16) → m1 p i = m p i))
              refine gx_li (z := 5) (L' := [(2, 192), (0, x), (0, y), (0, 5)]) r_134_78 rfl (w32_eq (by omega) (by omega) (by omega)) rfl ?_
              refine gx_st (L' := [(2, 192), (0, x), (0, y), (0, 5)]) (S' := []) r_134_81 rfl rfl rfl ?_
              refine gx_st (L' := [(2, 192), (0, x), (0, y), (0, 5)]) (S' := [(0, 5)]) r_134_63 rfl rfl rfl ?_
              refine gx_st (L' := [(2, 192), (0, x), (0, y), (0, 5)]) (S' := [(0, 5), (0, 5)]) r_134_64 rfl rfl rfl ?_
              refine gx_ic (P := 5 ≤ 5) r_134_65 (rfl) (fun h65 => ?_) (fun h65 => ?_)
              · refine gx_st (L' := [(2, 192), (0, x), (0, y), (0, 5)]) (S' := [(0, 0)]) r_134_84 rfl rfl rfl ?_
                refine gx_st (L' := [(2, 192), (0, x), (0, y), (0, 0)]) (S' := []) r_134_85 rfl rfl rfl ?_
                refine gx_st (L' := [(2, 192), (0, x), (0, y), (0, 0)]) (S' := [(0, 0)]) r_134_86 rfl rfl rfl ?_
                refine gx_st (L' := [(2, 192), (0, x), (0, y), (0, 0)]) (S' := [(0, 5), (0, 0)]) r_134_87 rfl rfl rfl ?_
                refine gx_ic (P := 5 ≤ 0) r_134_88 (rfl) (fun h88 => ?_) (fun h88 => ?_)
                · omega
                · refine gx_st (L' := [(2, 192), (0, x), (0, y), (0, 0)]) (S' := [(2, 192)]) r_134_91 rfl rfl rfl ?_
                  refine gx_st (L' := [(2, 192), (0, x), (0, y), (0, 0)]) (S' := [(0, 0), (2, 192)]) r_134_92 rfl rfl rfl ?_
                  refine gx_st (L' := [(2, 192), (0, x), (0, y), (0, 0)]) (S' := [(0, 11), (0, 0), (2, 192)]) r_134_93 rfl rfl rfl ?_
                  refine gx_st (L' := [(2, 192), (0, x), (0, y), (0, 0)]) (S' := [(0, 0), (0, 11), (0, 0), (2, 192)]) r_134_95 rfl rfl rfl ?_
                  refine gx_ar (L' := [(2, 192), (0, x), (0, y), (0, 0)]) (S' := [(0, 0), (2, 192)]) (t := 0) (e := w32 (11 + 0)) (z := 11) r_134_96 rfl rfl rfl (w32_eq (by omega) (by omega) (by omega)) ?_
                  refine gx_st (L' := [(2, 192), (0, x), (0, y), (0, 0)]) (S' := [(2, 192), (0, 11), (0, 0), (2, 192)]) r_134_97 rfl rfl rfl ?_
                  refine gx_gf (x := 193) 2 r_134_98 (rfl) (ty_192 hT) ⟨by decide, rfl, by decide, by decide⟩ rfl (fun _ => by omega) (by show n75_11 192 1 = _; rw [e_n75_11, nu_no (by decide), e_n75_10, nu_no (by decide), e_n75_9, nu_no (by decide), e_n75_8, nu_no (by decide), e_n75_7, nu_no (by decide), e_n58_6, nu_no (by decide), e_n51_5, nu_no (by decide), e_n44_4, nu_no (by decide), e_n37_3, nu_no (by decide), e_n11_2, nu_no (by decide), e_n4_1, nu_no (by decide)]; exact pin_at hp (t := 193) rfl (by decide)) ?_
                  refine gx_st (L' := [(2, 192), (0, x), (0, y), (0, 0)]) (S' := [(0, 31), (2, 193), (0, 11), (0, 0), (2, 192)]) r_134_101 rfl rfl rfl ?_
                  refine gx_st (L' := [(2, 192), (0, x), (0, y), (0, 0)]) (S' := [(0, 2), (0, 31), (2, 193), (0, 11), (0, 0), (2, 192)]) r_134_103 rfl rfl rfl ?_
                  refine gx_st (L' := [(2, 192), (0, x), (0, y), (0, 0)]) (S' := [(0, 0), (0, 2), (0, 31), (2, 193), (0, 11), (0, 0), (2, 192)]) r_134_104 rfl rfl rfl ?_
                  refine gx_ar (L' := [(2, 192), (0, x), (0, y), (0, 0)]) (S' := [(0, 31), (2, 193), (0, 11), (0, 0), (2, 192)]) (t := 0) (e := w32 (2 * 0)) (z := 0) r_134_105 rfl rfl rfl (w32_eq (by omega) (by omega) (by omega)) ?_
                  refine gx_ar (L' := [(2, 192), (0, x), (0, y), (0, 0)]) (S' := [(2, 193), (0, 11), (0, 0), (2, 192)]) (t := 0) (e := w32 (31 + 0)) (z := 31) r_134_106 rfl rfl rfl (w32_eq (by omega) (by omega) (by omega)) ?_
                  refine gx_st (L' := [(2, 192), (0, x), (0, y), (0, 0)]) (S' := [(0, 1), (0, 31), (2, 193), (0, 11), (0, 0), (2, 192)]) r_134_107 rfl rfl rfl ?_
                  refine gx_ar (L' := [(2, 192), (0, x), (0, y), (0, 0)]) (S' := [(2, 193), (0, 11), (0, 0), (2, 192)]) (t := 0) (e := w32 (31 + 1)) (z := 32) r_134_108 rfl rfl rfl (w32_eq (by omega) (by omega) (by omega)) ?_
                  refine gx_ia (n := 32) (x := (m 193 32)) r_134_109 (rfl) (ty_193 hT) (rfl) ⟨rfl, by decide⟩ (by show n75_11 193 32 = _; rw [e_n75_11, nu_no (by decide), e_n75_10, nu_no (by decide), e_n75_9, nu_no (by decide), e_n75_8, nu_no (by decide), e_n75_7, nu_no (by decide), e_n58_6, nu_no (by decide), e_n51_5, nu_no (by decide), e_n44_4, nu_no (by decide), e_n37_3, nu_no (by decide), e_n11_2, nu_no (by decide), e_n4_1, nu_no (by decide)]) ?_
                  have pp_n75_11 : PinR n75_11 := by rw [e_n75_11, e_n75_10, e_n75_9, e_n75_8, e_n75_7, e_n58_6, e_n51_5, e_n44_4, e_n37_3, e_n11_2, e_n4_1]; exact PinR_up (PinR_up (PinR_up (PinR_up (PinR_up (PinR_up (PinR_up (PinR_up (PinR_up (PinR_up (PinR_up hp rfl) rfl) rfl) rfl) rfl) rfl) rfl) rfl) rfl) rfl) rfl
                  refine gx_cv (nx := 113) (S2 := []) (l_132 hT pp_n75_11 (h := 0) (k := 11) (i := 11) (by omega) (by omega) (m 193 32)) r_134_110 rfl rfl rfl rfl rfl (rcv_v rfl (ty_192 hT) (by decide) rfl (by decide)) rfl (by decide) rfl (fun n110_12 q110_12 => ?_)
                  have e_n110_12 : n110_12 = nu_up n75_11 200 11 (m 193 32) := q110_12
                  show GX T 1 134 113 [(2, 192), (0, x), (0, y), (0, 0)] [] n110_12 (RV (fun m1 => RowR nt m1 0 s0 ∧ ∀ p i : Nat, ¬ (p = 200 ∧ i < 16) → m1 p i = m p i))
                  refine gx_li (z := 1) (L' := [(2, 192), (0, x), (0, y), (0, 1)]) r_134_113 rfl (w32_eq (by omega) (by omega) (by omega)) rfl ?_
                  refine gx_st (L' := [(2, 192), (0, x), (0, y), (0, 1)]) (S' := []) r_134_116 rfl rfl rfl ?_
                  refine gx_st (L' := [(2, 192), (0, x), (0, y), (0, 1)]) (S' := [(0, 1)]) r_134_86 rfl rfl rfl ?_
                  refine gx_st (L' := [(2, 192), (0, x), (0, y), (0, 1)]) (S' := [(0, 5), (0, 1)]) r_134_87 rfl rfl rfl ?_
                  refine gx_ic (P := 5 ≤ 1) r_134_88 (rfl) (fun h88 => ?_) (fun h88 => ?_)
                  · omega
                  · refine gx_st (L' := [(2, 192), (0, x), (0, y), (0, 1)]) (S' := [(2, 192)]) r_134_91 rfl rfl rfl ?_
                    refine gx_st (L' := [(2, 192), (0, x), (0, y), (0, 1)]) (S' := [(0, 0), (2, 192)]) r_134_92 rfl rfl rfl ?_
                    refine gx_st (L' := [(2, 192), (0, x), (0, y), (0, 1)]) (S' := [(0, 11), (0, 0), (2, 192)]) r_134_93 rfl rfl rfl ?_
                    refine gx_st (L' := [(2, 192), (0, x), (0, y), (0, 1)]) (S' := [(0, 1), (0, 11), (0, 0), (2, 192)]) r_134_95 rfl rfl rfl ?_
                    refine gx_ar (L' := [(2, 192), (0, x), (0, y), (0, 1)]) (S' := [(0, 0), (2, 192)]) (t := 0) (e := w32 (11 + 1)) (z := 12) r_134_96 rfl rfl rfl (w32_eq (by omega) (by omega) (by omega)) ?_
                    refine gx_st (L' := [(2, 192), (0, x), (0, y), (0, 1)]) (S' := [(2, 192), (0, 12), (0, 0), (2, 192)]) r_134_97 rfl rfl rfl ?_
                    refine gx_gf (x := 193) 2 r_134_98 (rfl) (ty_192 hT) ⟨by decide, rfl, by decide, by decide⟩ rfl (fun _ => by omega) (by show n110_12 192 1 = _; rw [e_n110_12, nu_no (by decide), e_n75_11, nu_no (by decide), e_n75_10, nu_no (by decide), e_n75_9, nu_no (by decide), e_n75_8, nu_no (by decide), e_n75_7, nu_no (by decide), e_n58_6, nu_no (by decide), e_n51_5, nu_no (by decide), e_n44_4, nu_no (by decide), e_n37_3, nu_no (by decide), e_n11_2, nu_no (by decide), e_n4_1, nu_no (by decide)]; exact pin_at hp (t := 193) rfl (by decide)) ?_
                    refine gx_st (L' := [(2, 192), (0, x), (0, y), (0, 1)]) (S' := [(0, 31), (2, 193), (0, 12), (0, 0), (2, 192)]) r_134_101 rfl rfl rfl ?_
                    refine gx_st (L' := [(2, 192), (0, x), (0, y), (0, 1)]) (S' := [(0, 2), (0, 31), (2, 193), (0, 12), (0, 0), (2, 192)]) r_134_103 rfl rfl rfl ?_
                    refine gx_st (L' := [(2, 192), (0, x), (0, y), (0, 1)]) (S' := [(0, 1), (0, 2), (0, 31), (2, 193), (0, 12), (0, 0), (2, 192)]) r_134_104 rfl rfl rfl ?_
                    refine gx_ar (L' := [(2, 192), (0, x), (0, y), (0, 1)]) (S' := [(0, 31), (2, 193), (0, 12), (0, 0), (2, 192)]) (t := 0) (e := w32 (2 * 1)) (z := 2) r_134_105 rfl rfl rfl (w32_eq (by omega) (by omega) (by omega)) ?_
                    refine gx_ar (L' := [(2, 192), (0, x), (0, y), (0, 1)]) (S' := [(2, 193), (0, 12), (0, 0), (2, 192)]) (t := 0) (e := w32 (31 + 2)) (z := 33) r_134_106 rfl rfl rfl (w32_eq (by omega) (by omega) (by omega)) ?_
                    refine gx_st (L' := [(2, 192), (0, x), (0, y), (0, 1)]) (S' := [(0, 1), (0, 33), (2, 193), (0, 12), (0, 0), (2, 192)]) r_134_107 rfl rfl rfl ?_
                    refine gx_ar (L' := [(2, 192), (0, x), (0, y), (0, 1)]) (S' := [(2, 193), (0, 12), (0, 0), (2, 192)]) (t := 0) (e := w32 (33 + 1)) (z := 34) r_134_108 rfl rfl rfl (w32_eq (by omega) (by omega) (by omega)) ?_
                    refine gx_ia (n := 34) (x := (m 193 34)) r_134_109 (rfl) (ty_193 hT) (rfl) ⟨rfl, by decide⟩ (by show n110_12 193 34 = _; rw [e_n110_12, nu_no (by decide), e_n75_11, nu_no (by decide), e_n75_10, nu_no (by decide), e_n75_9, nu_no (by decide), e_n75_8, nu_no (by decide), e_n75_7, nu_no (by decide), e_n58_6, nu_no (by decide), e_n51_5, nu_no (by decide), e_n44_4, nu_no (by decide), e_n37_3, nu_no (by decide), e_n11_2, nu_no (by decide), e_n4_1, nu_no (by decide)]) ?_
                    have pp_n110_12 : PinR n110_12 := by rw [e_n110_12, e_n75_11, e_n75_10, e_n75_9, e_n75_8, e_n75_7, e_n58_6, e_n51_5, e_n44_4, e_n37_3, e_n11_2, e_n4_1]; exact PinR_up (PinR_up (PinR_up (PinR_up (PinR_up (PinR_up (PinR_up (PinR_up (PinR_up (PinR_up (PinR_up (PinR_up hp rfl) rfl) rfl) rfl) rfl) rfl) rfl) rfl) rfl) rfl) rfl) rfl
                    refine gx_cv (nx := 113) (S2 := []) (l_132 hT pp_n110_12 (h := 0) (k := 12) (i := 12) (by omega) (by omega) (m 193 34)) r_134_110 rfl rfl rfl rfl rfl (rcv_v rfl (ty_192 hT) (by decide) rfl (by decide)) rfl (by decide) rfl (fun n110_13 q110_13 => ?_)
                    have e_n110_13 : n110_13 = nu_up n110_12 200 12 (m 193 34) := q110_13
                    show GX T 1 134 113 [(2, 192), (0, x), (0, y), (0, 1)] [] n110_13 (RV (fun m1 => RowR nt m1 0 s0 ∧ ∀ p i : Nat, ¬ (p = 200 ∧ i < 16) → m1 p i = m p i))
                    refine gx_li (z := 2) (L' := [(2, 192), (0, x), (0, y), (0, 2)]) r_134_113 rfl (w32_eq (by omega) (by omega) (by omega)) rfl ?_
                    refine gx_st (L' := [(2, 192), (0, x), (0, y), (0, 2)]) (S' := []) r_134_116 rfl rfl rfl ?_
                    refine gx_st (L' := [(2, 192), (0, x), (0, y), (0, 2)]) (S' := [(0, 2)]) r_134_86 rfl rfl rfl ?_
                    refine gx_st (L' := [(2, 192), (0, x), (0, y), (0, 2)]) (S' := [(0, 5), (0, 2)]) r_134_87 rfl rfl rfl ?_
                    refine gx_ic (P := 5 ≤ 2) r_134_88 (rfl) (fun h88 => ?_) (fun h88 => ?_)
                    · omega
                    · refine gx_st (L' := [(2, 192), (0, x), (0, y), (0, 2)]) (S' := [(2, 192)]) r_134_91 rfl rfl rfl ?_
                      refine gx_st (L' := [(2, 192), (0, x), (0, y), (0, 2)]) (S' := [(0, 0), (2, 192)]) r_134_92 rfl rfl rfl ?_
                      refine gx_st (L' := [(2, 192), (0, x), (0, y), (0, 2)]) (S' := [(0, 11), (0, 0), (2, 192)]) r_134_93 rfl rfl rfl ?_
                      refine gx_st (L' := [(2, 192), (0, x), (0, y), (0, 2)]) (S' := [(0, 2), (0, 11), (0, 0), (2, 192)]) r_134_95 rfl rfl rfl ?_
                      refine gx_ar (L' := [(2, 192), (0, x), (0, y), (0, 2)]) (S' := [(0, 0), (2, 192)]) (t := 0) (e := w32 (11 + 2)) (z := 13) r_134_96 rfl rfl rfl (w32_eq (by omega) (by omega) (by omega)) ?_
                      refine gx_st (L' := [(2, 192), (0, x), (0, y), (0, 2)]) (S' := [(2, 192), (0, 13), (0, 0), (2, 192)]) r_134_97 rfl rfl rfl ?_
                      refine gx_gf (x := 193) 2 r_134_98 (rfl) (ty_192 hT) ⟨by decide, rfl, by decide, by decide⟩ rfl (fun _ => by omega) (by show n110_13 192 1 = _; rw [e_n110_13, nu_no (by decide), e_n110_12, nu_no (by decide), e_n75_11, nu_no (by decide), e_n75_10, nu_no (by decide), e_n75_9, nu_no (by decide), e_n75_8, nu_no (by decide), e_n75_7, nu_no (by decide), e_n58_6, nu_no (by decide), e_n51_5, nu_no (by decide), e_n44_4, nu_no (by decide), e_n37_3, nu_no (by decide), e_n11_2, nu_no (by decide), e_n4_1, nu_no (by decide)]; exact pin_at hp (t := 193) rfl (by decide)) ?_
                      refine gx_st (L' := [(2, 192), (0, x), (0, y), (0, 2)]) (S' := [(0, 31), (2, 193), (0, 13), (0, 0), (2, 192)]) r_134_101 rfl rfl rfl ?_
                      refine gx_st (L' := [(2, 192), (0, x), (0, y), (0, 2)]) (S' := [(0, 2), (0, 31), (2, 193), (0, 13), (0, 0), (2, 192)]) r_134_103 rfl rfl rfl ?_
                      refine gx_st (L' := [(2, 192), (0, x), (0, y), (0, 2)]) (S' := [(0, 2), (0, 2), (0, 31), (2, 193), (0, 13), (0, 0), (2, 192)]) r_134_104 rfl rfl rfl ?_
                      refine gx_ar (L' := [(2, 192), (0, x), (0, y), (0, 2)]) (S' := [(0, 31), (2, 193), (0, 13), (0, 0), (2, 192)]) (t := 0) (e := w32 (2 * 2)) (z := 4) r_134_105 rfl rfl rfl (w32_eq (by omega) (by omega) (by omega)) ?_
                      refine gx_ar (L' := [(2, 192), (0, x), (0, y), (0, 2)]) (S' := [(2, 193), (0, 13), (0, 0), (2, 192)]) (t := 0) (e := w32 (31 + 4)) (z := 35) r_134_106 rfl rfl rfl (w32_eq (by omega) (by omega) (by omega)) ?_
                      refine gx_st (L' := [(2, 192), (0, x), (0, y), (0, 2)]) (S' := [(0, 1), (0, 35), (2, 193), (0, 13), (0, 0), (2, 192)]) r_134_107 rfl rfl rfl ?_
                      refine gx_ar (L' := [(2, 192), (0, x), (0, y), (0, 2)]) (S' := [(2, 193), (0, 13), (0, 0), (2, 192)]) (t := 0) (e := w32 (35 + 1)) (z := 36) r_134_108 rfl rfl rfl (w32_eq (by omega) (by omega) (by omega)) ?_
                      refine gx_ia (n := 36) (x := (m 193 36)) r_134_109 (rfl) (ty_193 hT) (rfl) ⟨rfl, by decide⟩ (by show n110_13 193 36 = _; rw [e_n110_13, nu_no (by decide), e_n110_12, nu_no (by decide), e_n75_11, nu_no (by decide), e_n75_10, nu_no (by decide), e_n75_9, nu_no (by decide), e_n75_8, nu_no (by decide), e_n75_7, nu_no (by decide), e_n58_6, nu_no (by decide), e_n51_5, nu_no (by decide), e_n44_4, nu_no (by decide), e_n37_3, nu_no (by decide), e_n11_2, nu_no (by decide), e_n4_1, nu_no (by decide)]) ?_
                      have pp_n110_13 : PinR n110_13 := by rw [e_n110_13, e_n110_12, e_n75_11, e_n75_10, e_n75_9, e_n75_8, e_n75_7, e_n58_6, e_n51_5, e_n44_4, e_n37_3, e_n11_2, e_n4_1]; exact PinR_up (PinR_up (PinR_up (PinR_up (PinR_up (PinR_up (PinR_up (PinR_up (PinR_up (PinR_up (PinR_up (PinR_up (PinR_up hp rfl) rfl) rfl) rfl) rfl) rfl) rfl) rfl) rfl) rfl) rfl) rfl) rfl
                      refine gx_cv (nx := 113) (S2 := []) (l_132 hT pp_n110_13 (h := 0) (k := 13) (i := 13) (by omega) (by omega) (m 193 36)) r_134_110 rfl rfl rfl rfl rfl (rcv_v rfl (ty_192 hT) (by decide) rfl (by decide)) rfl (by decide) rfl (fun n110_14 q110_14 => ?_)
                      have e_n110_14 : n110_14 = nu_up n110_13 200 13 (m 193 36) := q110_14
                      show GX T 1 134 113 [(2, 192), (0, x), (0, y), (0, 2)] [] n110_14 (RV (fun m1 => RowR nt m1 0 s0 ∧ ∀ p i : Nat, ¬ (p = 200 ∧ i < 16) → m1 p i = m p i))
                      refine gx_li (z := 3) (L' := [(2, 192), (0, x), (0, y), (0, 3)]) r_134_113 rfl (w32_eq (by omega) (by omega) (by omega)) rfl ?_
                      refine gx_st (L' := [(2, 192), (0, x), (0, y), (0, 3)]) (S' := []) r_134_116 rfl rfl rfl ?_
                      refine gx_st (L' := [(2, 192), (0, x), (0, y), (0, 3)]) (S' := [(0, 3)]) r_134_86 rfl rfl rfl ?_
                      refine gx_st (L' := [(2, 192), (0, x), (0, y), (0, 3)]) (S' := [(0, 5), (0, 3)]) r_134_87 rfl rfl rfl ?_
                      refine gx_ic (P := 5 ≤ 3) r_134_88 (rfl) (fun h88 => ?_) (fun h88 => ?_)
                      · omega
                      · refine gx_st (L' := [(2, 192), (0, x), (0, y), (0, 3)]) (S' := [(2, 192)]) r_134_91 rfl rfl rfl ?_
                        refine gx_st (L' := [(2, 192), (0, x), (0, y), (0, 3)]) (S' := [(0, 0), (2, 192)]) r_134_92 rfl rfl rfl ?_
                        refine gx_st (L' := [(2, 192), (0, x), (0, y), (0, 3)]) (S' := [(0, 11), (0, 0), (2, 192)]) r_134_93 rfl rfl rfl ?_
                        refine gx_st (L' := [(2, 192), (0, x), (0, y), (0, 3)]) (S' := [(0, 3), (0, 11), (0, 0), (2, 192)]) r_134_95 rfl rfl rfl ?_
                        refine gx_ar (L' := [(2, 192), (0, x), (0, y), (0, 3)]) (S' := [(0, 0), (2, 192)]) (t := 0) (e := w32 (11 + 3)) (z := 14) r_134_96 rfl rfl rfl (w32_eq (by omega) (by omega) (by omega)) ?_
                        refine gx_st (L' := [(2, 192), (0, x), (0, y), (0, 3)]) (S' := [(2, 192), (0, 14), (0, 0), (2, 192)]) r_134_97 rfl rfl rfl ?_
                        refine gx_gf (x := 193) 2 r_134_98 (rfl) (ty_192 hT) ⟨by decide, rfl, by decide, by decide⟩ rfl (fun _ => by omega) (by show n110_14 192 1 = _; rw [e_n110_14, nu_no (by decide), e_n110_13, nu_no (by decide), e_n110_12, nu_no (by decide), e_n75_11, nu_no (by decide), e_n75_10, nu_no (by decide), e_n75_9, nu_no (by decide), e_n75_8, nu_no (by decide), e_n75_7, nu_no (by decide), e_n58_6, nu_no (by decide), e_n51_5, nu_no (by decide), e_n44_4, nu_no (by decide), e_n37_3, nu_no (by decide), e_n11_2, nu_no (by decide), e_n4_1, nu_no (by decide)]; exact pin_at hp (t := 193) rfl (by decide)) ?_
                        refine gx_st (L' := [(2, 192), (0, x), (0, y), (0, 3)]) (S' := [(0, 31), (2, 193), (0, 14), (0, 0), (2, 192)]) r_134_101 rfl rfl rfl ?_
                        refine gx_st (L' := [(2, 192), (0, x), (0, y), (0, 3)]) (S' := [(0, 2), (0, 31), (2, 193), (0, 14), (0, 0), (2, 192)]) r_134_103 rfl rfl rfl ?_
                        refine gx_st (L' := [(2, 192), (0, x), (0, y), (0, 3)]) (S' := [(0, 3), (0, 2), (0, 31), (2, 193), (0, 14), (0, 0), (2, 192)]) r_134_104 rfl rfl rfl ?_
                        refine gx_ar (L' := [(2, 192), (0, x), (0, y), (0, 3)]) (S' := [(0, 31), (2, 193), (0, 14), (0, 0), (2, 192)]) (t := 0) (e := w32 (2 * 3)) (z := 6) r_134_105 rfl rfl rfl (w32_eq (by omega) (by omega) (by omega)) ?_
                        refine gx_ar (L' := [(2, 192), (0, x), (0, y), (0, 3)]) (S' := [(2, 193), (0, 14), (0, 0), (2, 192)]) (t := 0) (e := w32 (31 + 6)) (z := 37) r_134_106 rfl rfl rfl (w32_eq (by omega) (by omega) (by omega)) ?_
                        refine gx_st (L' := [(2, 192), (0, x), (0, y), (0, 3)]) (S' := [(0, 1), (0, 37), (2, 193), (0, 14), (0, 0), (2, 192)]) r_134_107 rfl rfl rfl ?_
                        refine gx_ar (L' := [(2, 192), (0, x), (0, y), (0, 3)]) (S' := [(2, 193), (0, 14), (0, 0), (2, 192)]) (t := 0) (e := w32 (37 + 1)) (z := 38) r_134_108 rfl rfl rfl (w32_eq (by omega) (by omega) (by omega)) ?_
                        refine gx_ia (n := 38) (x := (m 193 38)) r_134_109 (rfl) (ty_193 hT) (rfl) ⟨rfl, by decide⟩ (by show n110_14 193 38 = _; rw [e_n110_14, nu_no (by decide), e_n110_13, nu_no (by decide), e_n110_12, nu_no (by decide), e_n75_11, nu_no (by decide), e_n75_10, nu_no (by decide), e_n75_9, nu_no (by decide), e_n75_8, nu_no (by decide), e_n75_7, nu_no (by decide), e_n58_6, nu_no (by decide), e_n51_5, nu_no (by decide), e_n44_4, nu_no (by decide), e_n37_3, nu_no (by decide), e_n11_2, nu_no (by decide), e_n4_1, nu_no (by decide)]) ?_
                        have pp_n110_14 : PinR n110_14 := by rw [e_n110_14, e_n110_13, e_n110_12, e_n75_11, e_n75_10, e_n75_9, e_n75_8, e_n75_7, e_n58_6, e_n51_5, e_n44_4, e_n37_3, e_n11_2, e_n4_1]; exact PinR_up (PinR_up (PinR_up (PinR_up (PinR_up (PinR_up (PinR_up (PinR_up (PinR_up (PinR_up (PinR_up (PinR_up (PinR_up (PinR_up hp rfl) rfl) rfl) rfl) rfl) rfl) rfl) rfl) rfl) rfl) rfl) rfl) rfl) rfl
                        refine gx_cv (nx := 113) (S2 := []) (l_132 hT pp_n110_14 (h := 0) (k := 14) (i := 14) (by omega) (by omega) (m 193 38)) r_134_110 rfl rfl rfl rfl rfl (rcv_v rfl (ty_192 hT) (by decide) rfl (by decide)) rfl (by decide) rfl (fun n110_15 q110_15 => ?_)
                        have e_n110_15 : n110_15 = nu_up n110_14 200 14 (m 193 38) := q110_15
                        show GX T 1 134 113 [(2, 192), (0, x), (0, y), (0, 3)] [] n110_15 (RV (fun m1 => RowR nt m1 0 s0 ∧ ∀ p i : Nat, ¬ (p = 200 ∧ i < 16) → m1 p i = m p i))
                        refine gx_li (z := 4) (L' := [(2, 192), (0, x), (0, y), (0, 4)]) r_134_113 rfl (w32_eq (by omega) (by omega) (by omega)) rfl ?_
                        refine gx_st (L' := [(2, 192), (0, x), (0, y), (0, 4)]) (S' := []) r_134_116 rfl rfl rfl ?_
                        refine gx_st (L' := [(2, 192), (0, x), (0, y), (0, 4)]) (S' := [(0, 4)]) r_134_86 rfl rfl rfl ?_
                        refine gx_st (L' := [(2, 192), (0, x), (0, y), (0, 4)]) (S' := [(0, 5), (0, 4)]) r_134_87 rfl rfl rfl ?_
                        refine gx_ic (P := 5 ≤ 4) r_134_88 (rfl) (fun h88 => ?_) (fun h88 => ?_)
                        · omega
                        · refine gx_st (L' := [(2, 192), (0, x), (0, y), (0, 4)]) (S' := [(2, 192)]) r_134_91 rfl rfl rfl ?_
                          refine gx_st (L' := [(2, 192), (0, x), (0, y), (0, 4)]) (S' := [(0, 0), (2, 192)]) r_134_92 rfl rfl rfl ?_
                          refine gx_st (L' := [(2, 192), (0, x), (0, y), (0, 4)]) (S' := [(0, 11), (0, 0), (2, 192)]) r_134_93 rfl rfl rfl ?_
                          refine gx_st (L' := [(2, 192), (0, x), (0, y), (0, 4)]) (S' := [(0, 4), (0, 11), (0, 0), (2, 192)]) r_134_95 rfl rfl rfl ?_
                          refine gx_ar (L' := [(2, 192), (0, x), (0, y), (0, 4)]) (S' := [(0, 0), (2, 192)]) (t := 0) (e := w32 (11 + 4)) (z := 15) r_134_96 rfl rfl rfl (w32_eq (by omega) (by omega) (by omega)) ?_
                          refine gx_st (L' := [(2, 192), (0, x), (0, y), (0, 4)]) (S' := [(2, 192), (0, 15), (0, 0), (2, 192)]) r_134_97 rfl rfl rfl ?_
                          refine gx_gf (x := 193) 2 r_134_98 (rfl) (ty_192 hT) ⟨by decide, rfl, by decide, by decide⟩ rfl (fun _ => by omega) (by show n110_15 192 1 = _; rw [e_n110_15, nu_no (by decide), e_n110_14, nu_no (by decide), e_n110_13, nu_no (by decide), e_n110_12, nu_no (by decide), e_n75_11, nu_no (by decide), e_n75_10, nu_no (by decide), e_n75_9, nu_no (by decide), e_n75_8, nu_no (by decide), e_n75_7, nu_no (by decide), e_n58_6, nu_no (by decide), e_n51_5, nu_no (by decide), e_n44_4, nu_no (by decide), e_n37_3, nu_no (by decide), e_n11_2, nu_no (by decide), e_n4_1, nu_no (by decide)]; exact pin_at hp (t := 193) rfl (by decide)) ?_
                          refine gx_st (L' := [(2, 192), (0, x), (0, y), (0, 4)]) (S' := [(0, 31), (2, 193), (0, 15), (0, 0), (2, 192)]) r_134_101 rfl rfl rfl ?_
                          refine gx_st (L' := [(2, 192), (0, x), (0, y), (0, 4)]) (S' := [(0, 2), (0, 31), (2, 193), (0, 15), (0, 0), (2, 192)]) r_134_103 rfl rfl rfl ?_
                          refine gx_st (L' := [(2, 192), (0, x), (0, y), (0, 4)]) (S' := [(0, 4), (0, 2), (0, 31), (2, 193), (0, 15), (0, 0), (2, 192)]) r_134_104 rfl rfl rfl ?_
                          refine gx_ar (L' := [(2, 192), (0, x), (0, y), (0, 4)]) (S' := [(0, 31), (2, 193), (0, 15), (0, 0), (2, 192)]) (t := 0) (e := w32 (2 * 4)) (z := 8) r_134_105 rfl rfl rfl (w32_eq (by omega) (by omega) (by omega)) ?_
                          refine gx_ar (L' := [(2, 192), (0, x), (0, y), (0, 4)]) (S' := [(2, 193), (0, 15), (0, 0), (2, 192)]) (t := 0) (e := w32 (31 + 8)) (z := 39) r_134_106 rfl rfl rfl (w32_eq (by omega) (by omega) (by omega)) ?_
                          refine gx_st (L' := [(2, 192), (0, x), (0, y), (0, 4)]) (S' := [(0, 1), (0, 39), (2, 193), (0, 15), (0, 0), (2, 192)]) r_134_107 rfl rfl rfl ?_
                          refine gx_ar (L' := [(2, 192), (0, x), (0, y), (0, 4)]) (S' := [(2, 193), (0, 15), (0, 0), (2, 192)]) (t := 0) (e := w32 (39 + 1)) (z := 40) r_134_108 rfl rfl rfl (w32_eq (by omega) (by omega) (by omega)) ?_
                          refine gx_ia (n := 40) (x := (m 193 40)) r_134_109 (rfl) (ty_193 hT) (rfl) ⟨rfl, by decide⟩ (by show n110_15 193 40 = _; rw [e_n110_15, nu_no (by decide), e_n110_14, nu_no (by decide), e_n110_13, nu_no (by decide), e_n110_12, nu_no (by decide), e_n75_11, nu_no (by decide), e_n75_10, nu_no (by decide), e_n75_9, nu_no (by decide), e_n75_8, nu_no (by decide), e_n75_7, nu_no (by decide), e_n58_6, nu_no (by decide), e_n51_5, nu_no (by decide), e_n44_4, nu_no (by decide), e_n37_3, nu_no (by decide), e_n11_2, nu_no (by decide), e_n4_1, nu_no (by decide)]) ?_
                          have pp_n110_15 : PinR n110_15 := by rw [e_n110_15, e_n110_14, e_n110_13, e_n110_12, e_n75_11, e_n75_10, e_n75_9, e_n75_8, e_n75_7, e_n58_6, e_n51_5, e_n44_4, e_n37_3, e_n11_2, e_n4_1]; exact PinR_up (PinR_up (PinR_up (PinR_up (PinR_up (PinR_up (PinR_up (PinR_up (PinR_up (PinR_up (PinR_up (PinR_up (PinR_up (PinR_up (PinR_up hp rfl) rfl) rfl) rfl) rfl) rfl) rfl) rfl) rfl) rfl) rfl) rfl) rfl) rfl) rfl
                          refine gx_cv (nx := 113) (S2 := []) (l_132 hT pp_n110_15 (h := 0) (k := 15) (i := 15) (by omega) (by omega) (m 193 40)) r_134_110 rfl rfl rfl rfl rfl (rcv_v rfl (ty_192 hT) (by decide) rfl (by decide)) rfl (by decide) rfl (fun n110_16 q110_16 => ?_)
                          have e_n110_16 : n110_16 = nu_up n110_15 200 15 (m 193 40) := q110_16
                          show GX T 1 134 113 [(2, 192), (0, x), (0, y), (0, 4)] [] n110_16 (RV (fun m1 => RowR nt m1 0 s0 ∧ ∀ p i : Nat, ¬ (p = 200 ∧ i < 16) → m1 p i = m p i))
                          refine gx_li (z := 5) (L' := [(2, 192), (0, x), (0, y), (0, 5)]) r_134_113 rfl (w32_eq (by omega) (by omega) (by omega)) rfl ?_
                          refine gx_st (L' := [(2, 192), (0, x), (0, y), (0, 5)]) (S' := []) r_134_116 rfl rfl rfl ?_
                          refine gx_st (L' := [(2, 192), (0, x), (0, y), (0, 5)]) (S' := [(0, 5)]) r_134_86 rfl rfl rfl ?_
                          refine gx_st (L' := [(2, 192), (0, x), (0, y), (0, 5)]) (S' := [(0, 5), (0, 5)]) r_134_87 rfl rfl rfl ?_
                          refine gx_ic (P := 5 ≤ 5) r_134_88 (rfl) (fun h88 => ?_) (fun h88 => ?_)
                          · have u0 : n110_16 200 0 = s0 0 := by rw [e_n110_16, nu_ne (by decide), e_n110_15, nu_ne (by decide), e_n110_14, nu_ne (by decide), e_n110_13, nu_ne (by decide), e_n110_12, nu_ne (by decide), e_n75_11, nu_ne (by decide), e_n75_10, nu_ne (by decide), e_n75_9, nu_ne (by decide), e_n75_8, nu_ne (by decide), e_n75_7, nu_ne (by decide), e_n58_6, nu_ne (by decide), e_n51_5, nu_ne (by decide), e_n44_4, nu_ne (by decide), e_n37_3, nu_ne (by decide), e_n11_2, nu_ne (by decide), e_n4_1, nu_at]; exact (hs.1).symm
                            have u1 : n110_16 200 1 = s0 1 := by rw [e_n110_16, nu_ne (by decide), e_n110_15, nu_ne (by decide), e_n110_14, nu_ne (by decide), e_n110_13, nu_ne (by decide), e_n110_12, nu_ne (by decide), e_n75_11, nu_ne (by decide), e_n75_10, nu_ne (by decide), e_n75_9, nu_ne (by decide), e_n75_8, nu_ne (by decide), e_n75_7, nu_ne (by decide), e_n58_6, nu_ne (by decide), e_n51_5, nu_ne (by decide), e_n44_4, nu_ne (by decide), e_n37_3, nu_ne (by decide), e_n11_2, nu_at]; exact (hs.2.1).symm
                            have u2 : n110_16 200 2 = s0 2 := by rw [e_n110_16, nu_ne (by decide), e_n110_15, nu_ne (by decide), e_n110_14, nu_ne (by decide), e_n110_13, nu_ne (by decide), e_n110_12, nu_ne (by decide), e_n75_11, nu_ne (by decide), e_n75_10, nu_ne (by decide), e_n75_9, nu_ne (by decide), e_n75_8, nu_ne (by decide), e_n75_7, nu_ne (by decide), e_n58_6, nu_ne (by decide), e_n51_5, nu_ne (by decide), e_n44_4, nu_ne (by decide), e_n37_3, nu_at]; exact (by rw [hs.2.2.1, ← hE.2.1]; rw [if_neg (by omega)])
                            have u4 : n110_16 200 4 = s0 4 := by rw [e_n110_16, nu_ne (by decide), e_n110_15, nu_ne (by decide), e_n110_14, nu_ne (by decide), e_n110_13, nu_ne (by decide), e_n110_12, nu_ne (by decide), e_n75_11, nu_ne (by decide), e_n75_10, nu_ne (by decide), e_n75_9, nu_ne (by decide), e_n75_8, nu_ne (by decide), e_n75_7, nu_ne (by decide), e_n58_6, nu_ne (by decide), e_n51_5, nu_at]; exact (hs.2.2.2.2.1).symm
                            have u5 : n110_16 200 5 = s0 5 := by rw [e_n110_16, nu_ne (by decide), e_n110_15, nu_ne (by decide), e_n110_14, nu_ne (by decide), e_n110_13, nu_ne (by decide), e_n110_12, nu_ne (by decide), e_n75_11, nu_ne (by decide), e_n75_10, nu_ne (by decide), e_n75_9, nu_ne (by decide), e_n75_8, nu_ne (by decide), e_n75_7, nu_ne (by decide), e_n58_6, nu_at]; exact (hs.2.2.2.2.2.1).symm
                            have u3 : n110_16 200 3 = 0 := by rw [e_n110_16, nu_ne (by decide), e_n110_15, nu_ne (by decide), e_n110_14, nu_ne (by decide), e_n110_13, nu_ne (by decide), e_n110_12, nu_ne (by decide), e_n75_11, nu_ne (by decide), e_n75_10, nu_ne (by decide), e_n75_9, nu_ne (by decide), e_n75_8, nu_ne (by decide), e_n75_7, nu_ne (by decide), e_n58_6, nu_ne (by decide), e_n51_5, nu_ne (by decide), e_n44_4, nu_at]
                            have ut0 : n110_16 200 6 = 0 := by rw [e_n110_16, nu_ne (by decide), e_n110_15, nu_ne (by decide), e_n110_14, nu_ne (by decide), e_n110_13, nu_ne (by decide), e_n110_12, nu_ne (by decide), e_n75_11, nu_ne (by decide), e_n75_10, nu_ne (by decide), e_n75_9, nu_ne (by decide), e_n75_8, nu_ne (by decide), e_n75_7, nu_at]
                            have uf0 : n110_16 200 11 = m 193 32 := by rw [e_n110_16, nu_ne (by decide), e_n110_15, nu_ne (by decide), e_n110_14, nu_ne (by decide), e_n110_13, nu_ne (by decide), e_n110_12, nu_at]
                            have ut1 : n110_16 200 7 = 0 := by rw [e_n110_16, nu_ne (by decide), e_n110_15, nu_ne (by decide), e_n110_14, nu_ne (by decide), e_n110_13, nu_ne (by decide), e_n110_12, nu_ne (by decide), e_n75_11, nu_ne (by decide), e_n75_10, nu_ne (by decide), e_n75_9, nu_ne (by decide), e_n75_8, nu_at]
                            have uf1 : n110_16 200 12 = m 193 34 := by rw [e_n110_16, nu_ne (by decide), e_n110_15, nu_ne (by decide), e_n110_14, nu_ne (by decide), e_n110_13, nu_at]
                            have ut2 : n110_16 200 8 = 0 := by rw [e_n110_16, nu_ne (by decide), e_n110_15, nu_ne (by decide), e_n110_14, nu_ne (by decide), e_n110_13, nu_ne (by decide), e_n110_12, nu_ne (by decide), e_n75_11, nu_ne (by decide), e_n75_10, nu_ne (by decide), e_n75_9, nu_at]
                            have uf2 : n110_16 200 13 = m 193 36 := by rw [e_n110_16, nu_ne (by decide), e_n110_15, nu_ne (by decide), e_n110_14, nu_at]
                            have ut3 : n110_16 200 9 = 0 := by rw [e_n110_16, nu_ne (by decide), e_n110_15, nu_ne (by decide), e_n110_14, nu_ne (by decide), e_n110_13, nu_ne (by decide), e_n110_12, nu_ne (by decide), e_n75_11, nu_ne (by decide), e_n75_10, nu_at]
                            have uf3 : n110_16 200 14 = m 193 38 := by rw [e_n110_16, nu_ne (by decide), e_n110_15, nu_at]
                            have ut4 : n110_16 200 10 = 0 := by rw [e_n110_16, nu_ne (by decide), e_n110_15, nu_ne (by decide), e_n110_14, nu_ne (by decide), e_n110_13, nu_ne (by decide), e_n110_12, nu_ne (by decide), e_n75_11, nu_at]
                            have uf4 : n110_16 200 15 = m 193 40 := by rw [e_n110_16, nu_at]
                            have r : RowR nt n110_16 0 s0 := by
                              refine ⟨⟨fun k hk h3 => ?_, fun b hb => ?_, fun t ht hn => ?_⟩, fun _ => ?_⟩
                              · have hk6 : k = 0 ∨ k = 1 ∨ k = 2 ∨ k = 4 ∨ k = 5 := by omega
                                rcases hk6 with rfl | rfl | rfl | rfl | rfl
                                · exact u0
                                · exact u1
                                · exact u2
                                · exact u4
                                · exact u5
                              · rw [hs.2.2.2.2.2.2.1 b hb]
                                have hk6 : b = 0 ∨ b = 1 ∨ b = 2 ∨ b = 3 ∨ b = 4 := by omega
                                rcases hk6 with rfl | rfl | rfl | rfl | rfl
                                · exact ut0
                                · exact ut1
                                · exact ut2
                                · exact ut3
                                · exact ut4
                              · rw [hs.2.2.2.2.2.2.2.1 t ht, ← hE.2.2.2.2.2.1 t ht hn]
                                have hk6 : t = 0 ∨ t = 1 ∨ t = 2 ∨ t = 3 ∨ t = 4 := by omega
                                rcases hk6 with rfl | rfl | rfl | rfl | rfl
                                · exact uf0
                                · exact uf1
                                · exact uf2
                                · exact uf3
                                · exact uf4
                              · show n110_16 200 3 = max 0 (s0 3 - ((0 : Nat) : Int))
                                rw [u3, hs.2.2.2.1]; decide
                            exact gx_rt r_134_119 rfl rfl ⟨rfl, r, fun p i x => by rw [e_n110_16, nu_x (by omega), e_n110_15, nu_x (by omega), e_n110_14, nu_x (by omega), e_n110_13, nu_x (by omega), e_n110_12, nu_x (by omega), e_n75_11, nu_x (by omega), e_n75_10, nu_x (by omega), e_n75_9, nu_x (by omega), e_n75_8, nu_x (by omega), e_n75_7, nu_x (by omega), e_n58_6, nu_x (by omega), e_n51_5, nu_x (by omega), e_n44_4, nu_x (by omega), e_n37_3, nu_x (by omega), e_n11_2, nu_x (by omega), e_n4_1, nu_x (by omega)]⟩
                          · omega
              · omega
  · have h21 := Decidable.not_not.mp h21
    refine gx_st (L' := [(2, 192), (0, x), (0, y), (9, 0)]) (S' := [(2, 192), (0, 2), (0, 0), (2, 192)]) r_134_24 rfl rfl rfl ?_
    refine gx_gf (x := 193) 2 r_134_25 (rfl) (ty_192 hT) ⟨by decide, rfl, by decide, by decide⟩ rfl (fun _ => by omega) (by show n11_2 192 1 = _; rw [e_n11_2, nu_no (by decide), e_n4_1, nu_no (by decide)]; exact pin_at hp (t := 193) rfl (by decide)) ?_
    refine gx_st (L' := [(2, 192), (0, x), (0, y), (9, 0)]) (S' := [(0, 2), (2, 193), (0, 2), (0, 0), (2, 192)]) r_134_28 rfl rfl rfl ?_
    refine gx_ia (n := 2) (x := (m 193 2)) r_134_29 (rfl) (ty_193 hT) (rfl) ⟨rfl, by decide⟩ (by show n11_2 193 2 = _; rw [e_n11_2, nu_no (by decide), e_n4_1, nu_no (by decide)]) ?_
    refine gx_st (L' := [(2, 192), (0, x), (0, y), (9, 0)]) (S' := [(0, (m 193 2)), (0, 2), (0, 0), (2, 192)]) r_134_30 rfl rfl rfl ?_
    have pp_n11_2 : PinR n11_2 := by rw [e_n11_2, e_n4_1]; exact PinR_up (PinR_up hp rfl) rfl
    refine gx_cv (nx := 40) (S2 := []) (l_132 hT pp_n11_2 (h := 0) (k := 2) (i := 2) (by omega) (by omega) (m 193 2)) r_134_37 rfl rfl rfl rfl rfl (rcv_v rfl (ty_192 hT) (by decide) rfl (by decide)) rfl (by decide) rfl (fun n37_17 q37_17 => ?_)
    have e_n37_17 : n37_17 = nu_up n11_2 200 2 (m 193 2) := q37_17
    show GX T 1 134 40 [(2, 192), (0, x), (0, y), (9, 0)] [] n37_17 (RV (fun m1 => RowR nt m1 0 s0 ∧ ∀ p i : Nat, ¬ (p = 200 ∧ i < 16) → m1 p i = m p i))
    refine gx_st (L' := [(2, 192), (0, x), (0, y), (9, 0)]) (S' := [(2, 192)]) r_134_40 rfl rfl rfl ?_
    refine gx_st (L' := [(2, 192), (0, x), (0, y), (9, 0)]) (S' := [(0, 0), (2, 192)]) r_134_41 rfl rfl rfl ?_
    refine gx_st (L' := [(2, 192), (0, x), (0, y), (9, 0)]) (S' := [(0, 3), (0, 0), (2, 192)]) r_134_42 rfl rfl rfl ?_
    refine gx_st (L' := [(2, 192), (0, x), (0, y), (9, 0)]) (S' := [(0, 0), (0, 3), (0, 0), (2, 192)]) r_134_43 rfl rfl rfl ?_
    have pp_n37_17 : PinR n37_17 := by rw [e_n37_17, e_n11_2, e_n4_1]; exact PinR_up (PinR_up (PinR_up hp rfl) rfl) rfl
    refine gx_cv (nx := 47) (S2 := []) (l_132 hT pp_n37_17 (h := 0) (k := 3) (i := 3) (by omega) (by omega) 0) r_134_44 rfl rfl rfl rfl rfl (rcv_v rfl (ty_192 hT) (by decide) rfl (by decide)) rfl (by decide) rfl (fun n44_18 q44_18 => ?_)
    have e_n44_18 : n44_18 = nu_up n37_17 200 3 0 := q44_18
    show GX T 1 134 47 [(2, 192), (0, x), (0, y), (9, 0)] [] n44_18 (RV (fun m1 => RowR nt m1 0 s0 ∧ ∀ p i : Nat, ¬ (p = 200 ∧ i < 16) → m1 p i = m p i))
    refine gx_st (L' := [(2, 192), (0, x), (0, y), (9, 0)]) (S' := [(2, 192)]) r_134_47 rfl rfl rfl ?_
    refine gx_st (L' := [(2, 192), (0, x), (0, y), (9, 0)]) (S' := [(0, 0), (2, 192)]) r_134_48 rfl rfl rfl ?_
    refine gx_st (L' := [(2, 192), (0, x), (0, y), (9, 0)]) (S' := [(0, 4), (0, 0), (2, 192)]) r_134_49 rfl rfl rfl ?_
    refine gx_st (L' := [(2, 192), (0, x), (0, y), (9, 0)]) (S' := [(0, 0), (0, 4), (0, 0), (2, 192)]) r_134_50 rfl rfl rfl ?_
    have pp_n44_18 : PinR n44_18 := by rw [e_n44_18, e_n37_17, e_n11_2, e_n4_1]; exact PinR_up (PinR_up (PinR_up (PinR_up hp rfl) rfl) rfl) rfl
    refine gx_cv (nx := 54) (S2 := []) (l_132 hT pp_n44_18 (h := 0) (k := 4) (i := 4) (by omega) (by omega) 0) r_134_51 rfl rfl rfl rfl rfl (rcv_v rfl (ty_192 hT) (by decide) rfl (by decide)) rfl (by decide) rfl (fun n51_19 q51_19 => ?_)
    have e_n51_19 : n51_19 = nu_up n44_18 200 4 0 := q51_19
    show GX T 1 134 54 [(2, 192), (0, x), (0, y), (9, 0)] [] n51_19 (RV (fun m1 => RowR nt m1 0 s0 ∧ ∀ p i : Nat, ¬ (p = 200 ∧ i < 16) → m1 p i = m p i))
    refine gx_st (L' := [(2, 192), (0, x), (0, y), (9, 0)]) (S' := [(2, 192)]) r_134_54 rfl rfl rfl ?_
    refine gx_st (L' := [(2, 192), (0, x), (0, y), (9, 0)]) (S' := [(0, 0), (2, 192)]) r_134_55 rfl rfl rfl ?_
    refine gx_st (L' := [(2, 192), (0, x), (0, y), (9, 0)]) (S' := [(0, 5), (0, 0), (2, 192)]) r_134_56 rfl rfl rfl ?_
    refine gx_st (L' := [(2, 192), (0, x), (0, y), (9, 0)]) (S' := [(0, 0), (0, 5), (0, 0), (2, 192)]) r_134_57 rfl rfl rfl ?_
    have pp_n51_19 : PinR n51_19 := by rw [e_n51_19, e_n44_18, e_n37_17, e_n11_2, e_n4_1]; exact PinR_up (PinR_up (PinR_up (PinR_up (PinR_up hp rfl) rfl) rfl) rfl) rfl
    refine gx_cv (nx := 61) (S2 := []) (l_132 hT pp_n51_19 (h := 0) (k := 5) (i := 5) (by omega) (by omega) 0) r_134_58 rfl rfl rfl rfl rfl (rcv_v rfl (ty_192 hT) (by decide) rfl (by decide)) rfl (by decide) rfl (fun n58_20 q58_20 => ?_)
    have e_n58_20 : n58_20 = nu_up n51_19 200 5 0 := q58_20
    show GX T 1 134 61 [(2, 192), (0, x), (0, y), (9, 0)] [] n58_20 (RV (fun m1 => RowR nt m1 0 s0 ∧ ∀ p i : Nat, ¬ (p = 200 ∧ i < 16) → m1 p i = m p i))
    refine gx_st (L' := [(2, 192), (0, x), (0, y), (9, 0)]) (S' := [(0, 0)]) r_134_61 rfl rfl rfl ?_
    refine gx_st (L' := [(2, 192), (0, x), (0, y), (0, 0)]) (S' := []) r_134_62 rfl rfl rfl ?_
    refine gx_st (L' := [(2, 192), (0, x), (0, y), (0, 0)]) (S' := [(0, 0)]) r_134_63 rfl rfl rfl ?_
    refine gx_st (L' := [(2, 192), (0, x), (0, y), (0, 0)]) (S' := [(0, 5), (0, 0)]) r_134_64 rfl rfl rfl ?_
    refine gx_ic (P := 5 ≤ 0) r_134_65 (rfl) (fun h65 => ?_) (fun h65 => ?_)
    · omega
    · refine gx_st (L' := [(2, 192), (0, x), (0, y), (0, 0)]) (S' := [(2, 192)]) r_134_68 rfl rfl rfl ?_
      refine gx_st (L' := [(2, 192), (0, x), (0, y), (0, 0)]) (S' := [(0, 0), (2, 192)]) r_134_69 rfl rfl rfl ?_
      refine gx_st (L' := [(2, 192), (0, x), (0, y), (0, 0)]) (S' := [(0, 6), (0, 0), (2, 192)]) r_134_70 rfl rfl rfl ?_
      refine gx_st (L' := [(2, 192), (0, x), (0, y), (0, 0)]) (S' := [(0, 0), (0, 6), (0, 0), (2, 192)]) r_134_72 rfl rfl rfl ?_
      refine gx_ar (L' := [(2, 192), (0, x), (0, y), (0, 0)]) (S' := [(0, 0), (2, 192)]) (t := 0) (e := w32 (6 + 0)) (z := 6) r_134_73 rfl rfl rfl (w32_eq (by omega) (by omega) (by omega)) ?_
      refine gx_st (L' := [(2, 192), (0, x), (0, y), (0, 0)]) (S' := [(0, 0), (0, 6), (0, 0), (2, 192)]) r_134_74 rfl rfl rfl ?_
      have pp_n58_20 : PinR n58_20 := by rw [e_n58_20, e_n51_19, e_n44_18, e_n37_17, e_n11_2, e_n4_1]; exact PinR_up (PinR_up (PinR_up (PinR_up (PinR_up (PinR_up hp rfl) rfl) rfl) rfl) rfl) rfl
      refine gx_cv (nx := 78) (S2 := []) (l_132 hT pp_n58_20 (h := 0) (k := 6) (i := 6) (by omega) (by omega) 0) r_134_75 rfl rfl rfl rfl rfl (rcv_v rfl (ty_192 hT) (by decide) rfl (by decide)) rfl (by decide) rfl (fun n75_21 q75_21 => ?_)
      have e_n75_21 : n75_21 = nu_up n58_20 200 6 0 := q75_21
      show GX T 1 134 78 [(2, 192), (0, x), (0, y), (0, 0)] [] n75_21 (RV (fun m1 => RowR nt m1 0 s0 ∧ ∀ p i : Nat, ¬ (p = 200 ∧ i < 16) → m1 p i = m p i))
      refine gx_li (z := 1) (L' := [(2, 192), (0, x), (0, y), (0, 1)]) r_134_78 rfl (w32_eq (by omega) (by omega) (by omega)) rfl ?_
      refine gx_st (L' := [(2, 192), (0, x), (0, y), (0, 1)]) (S' := []) r_134_81 rfl rfl rfl ?_
      refine gx_st (L' := [(2, 192), (0, x), (0, y), (0, 1)]) (S' := [(0, 1)]) r_134_63 rfl rfl rfl ?_
      refine gx_st (L' := [(2, 192), (0, x), (0, y), (0, 1)]) (S' := [(0, 5), (0, 1)]) r_134_64 rfl rfl rfl ?_
      refine gx_ic (P := 5 ≤ 1) r_134_65 (rfl) (fun h65 => ?_) (fun h65 => ?_)
      · omega
      · refine gx_st (L' := [(2, 192), (0, x), (0, y), (0, 1)]) (S' := [(2, 192)]) r_134_68 rfl rfl rfl ?_
        refine gx_st (L' := [(2, 192), (0, x), (0, y), (0, 1)]) (S' := [(0, 0), (2, 192)]) r_134_69 rfl rfl rfl ?_
        refine gx_st (L' := [(2, 192), (0, x), (0, y), (0, 1)]) (S' := [(0, 6), (0, 0), (2, 192)]) r_134_70 rfl rfl rfl ?_
        refine gx_st (L' := [(2, 192), (0, x), (0, y), (0, 1)]) (S' := [(0, 1), (0, 6), (0, 0), (2, 192)]) r_134_72 rfl rfl rfl ?_
        refine gx_ar (L' := [(2, 192), (0, x), (0, y), (0, 1)]) (S' := [(0, 0), (2, 192)]) (t := 0) (e := w32 (6 + 1)) (z := 7) r_134_73 rfl rfl rfl (w32_eq (by omega) (by omega) (by omega)) ?_
        refine gx_st (L' := [(2, 192), (0, x), (0, y), (0, 1)]) (S' := [(0, 0), (0, 7), (0, 0), (2, 192)]) r_134_74 rfl rfl rfl ?_
        have pp_n75_21 : PinR n75_21 := by rw [e_n75_21, e_n58_20, e_n51_19, e_n44_18, e_n37_17, e_n11_2, e_n4_1]; exact PinR_up (PinR_up (PinR_up (PinR_up (PinR_up (PinR_up (PinR_up hp rfl) rfl) rfl) rfl) rfl) rfl) rfl
        refine gx_cv (nx := 78) (S2 := []) (l_132 hT pp_n75_21 (h := 0) (k := 7) (i := 7) (by omega) (by omega) 0) r_134_75 rfl rfl rfl rfl rfl (rcv_v rfl (ty_192 hT) (by decide) rfl (by decide)) rfl (by decide) rfl (fun n75_22 q75_22 => ?_)
        have e_n75_22 : n75_22 = nu_up n75_21 200 7 0 := q75_22
        show GX T 1 134 78 [(2, 192), (0, x), (0, y), (0, 1)] [] n75_22 (RV (fun m1 => RowR nt m1 0 s0 ∧ ∀ p i : Nat, ¬ (p = 200 ∧ i < 16) → m1 p i = m p i))
        refine gx_li (z := 2) (L' := [(2, 192), (0, x), (0, y), (0, 2)]) r_134_78 rfl (w32_eq (by omega) (by omega) (by omega)) rfl ?_
        refine gx_st (L' := [(2, 192), (0, x), (0, y), (0, 2)]) (S' := []) r_134_81 rfl rfl rfl ?_
        refine gx_st (L' := [(2, 192), (0, x), (0, y), (0, 2)]) (S' := [(0, 2)]) r_134_63 rfl rfl rfl ?_
        refine gx_st (L' := [(2, 192), (0, x), (0, y), (0, 2)]) (S' := [(0, 5), (0, 2)]) r_134_64 rfl rfl rfl ?_
        refine gx_ic (P := 5 ≤ 2) r_134_65 (rfl) (fun h65 => ?_) (fun h65 => ?_)
        · omega
        · refine gx_st (L' := [(2, 192), (0, x), (0, y), (0, 2)]) (S' := [(2, 192)]) r_134_68 rfl rfl rfl ?_
          refine gx_st (L' := [(2, 192), (0, x), (0, y), (0, 2)]) (S' := [(0, 0), (2, 192)]) r_134_69 rfl rfl rfl ?_
          refine gx_st (L' := [(2, 192), (0, x), (0, y), (0, 2)]) (S' := [(0, 6), (0, 0), (2, 192)]) r_134_70 rfl rfl rfl ?_
          refine gx_st (L' := [(2, 192), (0, x), (0, y), (0, 2)]) (S' := [(0, 2), (0, 6), (0, 0), (2, 192)]) r_134_72 rfl rfl rfl ?_
          refine gx_ar (L' := [(2, 192), (0, x), (0, y), (0, 2)]) (S' := [(0, 0), (2, 192)]) (t := 0) (e := w32 (6 + 2)) (z := 8) r_134_73 rfl rfl rfl (w32_eq (by omega) (by omega) (by omega)) ?_
          refine gx_st (L' := [(2, 192), (0, x), (0, y), (0, 2)]) (S' := [(0, 0), (0, 8), (0, 0), (2, 192)]) r_134_74 rfl rfl rfl ?_
          have pp_n75_22 : PinR n75_22 := by rw [e_n75_22, e_n75_21, e_n58_20, e_n51_19, e_n44_18, e_n37_17, e_n11_2, e_n4_1]; exact PinR_up (PinR_up (PinR_up (PinR_up (PinR_up (PinR_up (PinR_up (PinR_up hp rfl) rfl) rfl) rfl) rfl) rfl) rfl) rfl
          refine gx_cv (nx := 78) (S2 := []) (l_132 hT pp_n75_22 (h := 0) (k := 8) (i := 8) (by omega) (by omega) 0) r_134_75 rfl rfl rfl rfl rfl (rcv_v rfl (ty_192 hT) (by decide) rfl (by decide)) rfl (by decide) rfl (fun n75_23 q75_23 => ?_)
          have e_n75_23 : n75_23 = nu_up n75_22 200 8 0 := q75_23
          show GX T 1 134 78 [(2, 192), (0, x), (0, y), (0, 2)] [] n75_23 (RV (fun m1 => RowR nt m1 0 s0 ∧ ∀ p i : Nat, ¬ (p = 200 ∧ i < 16) → m1 p i = m p i))
          refine gx_li (z := 3) (L' := [(2, 192), (0, x), (0, y), (0, 3)]) r_134_78 rfl (w32_eq (by omega) (by omega) (by omega)) rfl ?_
          refine gx_st (L' := [(2, 192), (0, x), (0, y), (0, 3)]) (S' := []) r_134_81 rfl rfl rfl ?_
          refine gx_st (L' := [(2, 192), (0, x), (0, y), (0, 3)]) (S' := [(0, 3)]) r_134_63 rfl rfl rfl ?_
          refine gx_st (L' := [(2, 192), (0, x), (0, y), (0, 3)]) (S' := [(0, 5), (0, 3)]) r_134_64 rfl rfl rfl ?_
          refine gx_ic (P := 5 ≤ 3) r_134_65 (rfl) (fun h65 => ?_) (fun h65 => ?_)
          · omega
          · refine gx_st (L' := [(2, 192), (0, x), (0, y), (0, 3)]) (S' := [(2, 192)]) r_134_68 rfl rfl rfl ?_
            refine gx_st (L' := [(2, 192), (0, x), (0, y), (0, 3)]) (S' := [(0, 0), (2, 192)]) r_134_69 rfl rfl rfl ?_
            refine gx_st (L' := [(2, 192), (0, x), (0, y), (0, 3)]) (S' := [(0, 6), (0, 0), (2, 192)]) r_134_70 rfl rfl rfl ?_
            refine gx_st (L' := [(2, 192), (0, x), (0, y), (0, 3)]) (S' := [(0, 3), (0, 6), (0, 0), (2, 192)]) r_134_72 rfl rfl rfl ?_
            refine gx_ar (L' := [(2, 192), (0, x), (0, y), (0, 3)]) (S' := [(0, 0), (2, 192)]) (t := 0) (e := w32 (6 + 3)) (z := 9) r_134_73 rfl rfl rfl (w32_eq (by omega) (by omega) (by omega)) ?_
            refine gx_st (L' := [(2, 192), (0, x), (0, y), (0, 3)]) (S' := [(0, 0), (0, 9), (0, 0), (2, 192)]) r_134_74 rfl rfl rfl ?_
            have pp_n75_23 : PinR n75_23 := by rw [e_n75_23, e_n75_22, e_n75_21, e_n58_20, e_n51_19, e_n44_18, e_n37_17, e_n11_2, e_n4_1]; exact PinR_up (PinR_up (PinR_up (PinR_up (PinR_up (PinR_up (PinR_up (PinR_up (PinR_up hp rfl) rfl) rfl) rfl) rfl) rfl) rfl) rfl) rfl
            refine gx_cv (nx := 78) (S2 := []) (l_132 hT pp_n75_23 (h := 0) (k := 9) (i := 9) (by omega) (by omega) 0) r_134_75 rfl rfl rfl rfl rfl (rcv_v rfl (ty_192 hT) (by decide) rfl (by decide)) rfl (by decide) rfl (fun n75_24 q75_24 => ?_)
            have e_n75_24 : n75_24 = nu_up n75_23 200 9 0 := q75_24
            show GX T 1 134 78 [(2, 192), (0, x), (0, y), (0, 3)] [] n75_24 (RV (fun m1 => RowR nt m1 0 s0 ∧ ∀ p i : Nat, ¬ (p = 200 ∧ i < 16) → m1 p i = m p i))
            refine gx_li (z := 4) (L' := [(2, 192), (0, x), (0, y), (0, 4)]) r_134_78 rfl (w32_eq (by omega) (by omega) (by omega)) rfl ?_
            refine gx_st (L' := [(2, 192), (0, x), (0, y), (0, 4)]) (S' := []) r_134_81 rfl rfl rfl ?_
            refine gx_st (L' := [(2, 192), (0, x), (0, y), (0, 4)]) (S' := [(0, 4)]) r_134_63 rfl rfl rfl ?_
            refine gx_st (L' := [(2, 192), (0, x), (0, y), (0, 4)]) (S' := [(0, 5), (0, 4)]) r_134_64 rfl rfl rfl ?_
            refine gx_ic (P := 5 ≤ 4) r_134_65 (rfl) (fun h65 => ?_) (fun h65 => ?_)
            · omega
            · refine gx_st (L' := [(2, 192), (0, x), (0, y), (0, 4)]) (S' := [(2, 192)]) r_134_68 rfl rfl rfl ?_
              refine gx_st (L' := [(2, 192), (0, x), (0, y), (0, 4)]) (S' := [(0, 0), (2, 192)]) r_134_69 rfl rfl rfl ?_
              refine gx_st (L' := [(2, 192), (0, x), (0, y), (0, 4)]) (S' := [(0, 6), (0, 0), (2, 192)]) r_134_70 rfl rfl rfl ?_
              refine gx_st (L' := [(2, 192), (0, x), (0, y), (0, 4)]) (S' := [(0, 4), (0, 6), (0, 0), (2, 192)]) r_134_72 rfl rfl rfl ?_
              refine gx_ar (L' := [(2, 192), (0, x), (0, y), (0, 4)]) (S' := [(0, 0), (2, 192)]) (t := 0) (e := w32 (6 + 4)) (z := 10) r_134_73 rfl rfl rfl (w32_eq (by omega) (by omega) (by omega)) ?_
              refine gx_st (L' := [(2, 192), (0, x), (0, y), (0, 4)]) (S' := [(0, 0), (0, 10), (0, 0), (2, 192)]) r_134_74 rfl rfl rfl ?_
              have pp_n75_24 : PinR n75_24 := by rw [e_n75_24, e_n75_23, e_n75_22, e_n75_21, e_n58_20, e_n51_19, e_n44_18, e_n37_17, e_n11_2, e_n4_1]; exact PinR_up (PinR_up (PinR_up (PinR_up (PinR_up (PinR_up (PinR_up (PinR_up (PinR_up (PinR_up hp rfl) rfl) rfl) rfl) rfl) rfl) rfl) rfl) rfl) rfl
              refine gx_cv (nx := 78) (S2 := []) (l_132 hT pp_n75_24 (h := 0) (k := 10) (i := 10) (by omega) (by omega) 0) r_134_75 rfl rfl rfl rfl rfl (rcv_v rfl (ty_192 hT) (by decide) rfl (by decide)) rfl (by decide) rfl (fun n75_25 q75_25 => ?_)
              have e_n75_25 : n75_25 = nu_up n75_24 200 10 0 := q75_25
              show GX T 1 134 78 [(2, 192), (0, x), (0, y), (0, 4)] [] n75_25 (RV (fun m1 => RowR nt m1 0 s0 ∧ ∀ p i : Nat, ¬ (p = 200 ∧ i < 16) → m1 p i = m p i))
              refine gx_li (z := 5) (L' := [(2, 192), (0, x), (0, y), (0, 5)]) r_134_78 rfl (w32_eq (by omega) (by omega) (by omega)) rfl ?_
              refine gx_st (L' := [(2, 192), (0, x), (0, y), (0, 5)]) (S' := []) r_134_81 rfl rfl rfl ?_
              refine gx_st (L' := [(2, 192), (0, x), (0, y), (0, 5)]) (S' := [(0, 5)]) r_134_63 rfl rfl rfl ?_
              refine gx_st (L' := [(2, 192), (0, x), (0, y), (0, 5)]) (S' := [(0, 5), (0, 5)]) r_134_64 rfl rfl rfl ?_
              refine gx_ic (P := 5 ≤ 5) r_134_65 (rfl) (fun h65 => ?_) (fun h65 => ?_)
              · refine gx_st (L' := [(2, 192), (0, x), (0, y), (0, 5)]) (S' := [(0, 0)]) r_134_84 rfl rfl rfl ?_
                refine gx_st (L' := [(2, 192), (0, x), (0, y), (0, 0)]) (S' := []) r_134_85 rfl rfl rfl ?_
                refine gx_st (L' := [(2, 192), (0, x), (0, y), (0, 0)]) (S' := [(0, 0)]) r_134_86 rfl rfl rfl ?_
                refine gx_st (L' := [(2, 192), (0, x), (0, y), (0, 0)]) (S' := [(0, 5), (0, 0)]) r_134_87 rfl rfl rfl ?_
                refine gx_ic (P := 5 ≤ 0) r_134_88 (rfl) (fun h88 => ?_) (fun h88 => ?_)
                · omega
                · refine gx_st (L' := [(2, 192), (0, x), (0, y), (0, 0)]) (S' := [(2, 192)]) r_134_91 rfl rfl rfl ?_
                  refine gx_st (L' := [(2, 192), (0, x), (0, y), (0, 0)]) (S' := [(0, 0), (2, 192)]) r_134_92 rfl rfl rfl ?_
                  refine gx_st (L' := [(2, 192), (0, x), (0, y), (0, 0)]) (S' := [(0, 11), (0, 0), (2, 192)]) r_134_93 rfl rfl rfl ?_
                  refine gx_st (L' := [(2, 192), (0, x), (0, y), (0, 0)]) (S' := [(0, 0), (0, 11), (0, 0), (2, 192)]) r_134_95 rfl rfl rfl ?_
                  refine gx_ar (L' := [(2, 192), (0, x), (0, y), (0, 0)]) (S' := [(0, 0), (2, 192)]) (t := 0) (e := w32 (11 + 0)) (z := 11) r_134_96 rfl rfl rfl (w32_eq (by omega) (by omega) (by omega)) ?_
                  refine gx_st (L' := [(2, 192), (0, x), (0, y), (0, 0)]) (S' := [(2, 192), (0, 11), (0, 0), (2, 192)]) r_134_97 rfl rfl rfl ?_
                  refine gx_gf (x := 193) 2 r_134_98 (rfl) (ty_192 hT) ⟨by decide, rfl, by decide, by decide⟩ rfl (fun _ => by omega) (by show n75_25 192 1 = _; rw [e_n75_25, nu_no (by decide), e_n75_24, nu_no (by decide), e_n75_23, nu_no (by decide), e_n75_22, nu_no (by decide), e_n75_21, nu_no (by decide), e_n58_20, nu_no (by decide), e_n51_19, nu_no (by decide), e_n44_18, nu_no (by decide), e_n37_17, nu_no (by decide), e_n11_2, nu_no (by decide), e_n4_1, nu_no (by decide)]; exact pin_at hp (t := 193) rfl (by decide)) ?_
                  refine gx_st (L' := [(2, 192), (0, x), (0, y), (0, 0)]) (S' := [(0, 31), (2, 193), (0, 11), (0, 0), (2, 192)]) r_134_101 rfl rfl rfl ?_
                  refine gx_st (L' := [(2, 192), (0, x), (0, y), (0, 0)]) (S' := [(0, 2), (0, 31), (2, 193), (0, 11), (0, 0), (2, 192)]) r_134_103 rfl rfl rfl ?_
                  refine gx_st (L' := [(2, 192), (0, x), (0, y), (0, 0)]) (S' := [(0, 0), (0, 2), (0, 31), (2, 193), (0, 11), (0, 0), (2, 192)]) r_134_104 rfl rfl rfl ?_
                  refine gx_ar (L' := [(2, 192), (0, x), (0, y), (0, 0)]) (S' := [(0, 31), (2, 193), (0, 11), (0, 0), (2, 192)]) (t := 0) (e := w32 (2 * 0)) (z := 0) r_134_105 rfl rfl rfl (w32_eq (by omega) (by omega) (by omega)) ?_
                  refine gx_ar (L' := [(2, 192), (0, x), (0, y), (0, 0)]) (S' := [(2, 193), (0, 11), (0, 0), (2, 192)]) (t := 0) (e := w32 (31 + 0)) (z := 31) r_134_106 rfl rfl rfl (w32_eq (by omega) (by omega) (by omega)) ?_
                  refine gx_st (L' := [(2, 192), (0, x), (0, y), (0, 0)]) (S' := [(0, 1), (0, 31), (2, 193), (0, 11), (0, 0), (2, 192)]) r_134_107 rfl rfl rfl ?_
                  refine gx_ar (L' := [(2, 192), (0, x), (0, y), (0, 0)]) (S' := [(2, 193), (0, 11), (0, 0), (2, 192)]) (t := 0) (e := w32 (31 + 1)) (z := 32) r_134_108 rfl rfl rfl (w32_eq (by omega) (by omega) (by omega)) ?_
                  refine gx_ia (n := 32) (x := (m 193 32)) r_134_109 (rfl) (ty_193 hT) (rfl) ⟨rfl, by decide⟩ (by show n75_25 193 32 = _; rw [e_n75_25, nu_no (by decide), e_n75_24, nu_no (by decide), e_n75_23, nu_no (by decide), e_n75_22, nu_no (by decide), e_n75_21, nu_no (by decide), e_n58_20, nu_no (by decide), e_n51_19, nu_no (by decide), e_n44_18, nu_no (by decide), e_n37_17, nu_no (by decide), e_n11_2, nu_no (by decide), e_n4_1, nu_no (by decide)]) ?_
                  have pp_n75_25 : PinR n75_25 := by rw [e_n75_25, e_n75_24, e_n75_23, e_n75_22, e_n75_21, e_n58_20, e_n51_19, e_n44_18, e_n37_17, e_n11_2, e_n4_1]; exact PinR_up (PinR_up (PinR_up (PinR_up (PinR_up (PinR_up (PinR_up (PinR_up (PinR_up (PinR_up (PinR_up hp rfl) rfl) rfl) rfl) rfl) rfl) rfl) rfl) rfl) rfl) rfl
                  refine gx_cv (nx := 113) (S2 := []) (l_132 hT pp_n75_25 (h := 0) (k := 11) (i := 11) (by omega) (by omega) (m 193 32)) r_134_110 rfl rfl rfl rfl rfl (rcv_v rfl (ty_192 hT) (by decide) rfl (by decide)) rfl (by decide) rfl (fun n110_26 q110_26 => ?_)
                  have e_n110_26 : n110_26 = nu_up n75_25 200 11 (m 193 32) := q110_26
                  show GX T 1 134 113 [(2, 192), (0, x), (0, y), (0, 0)] [] n110_26 (RV (fun m1 => RowR nt m1 0 s0 ∧ ∀ p i : Nat, ¬ (p = 200 ∧ i < 16) → m1 p i = m p i))
                  refine gx_li (z := 1) (L' := [(2, 192), (0, x), (0, y), (0, 1)]) r_134_113 rfl (w32_eq (by omega) (by omega) (by omega)) rfl ?_
                  refine gx_st (L' := [(2, 192), (0, x), (0, y), (0, 1)]) (S' := []) r_134_116 rfl rfl rfl ?_
                  refine gx_st (L' := [(2, 192), (0, x), (0, y), (0, 1)]) (S' := [(0, 1)]) r_134_86 rfl rfl rfl ?_
                  refine gx_st (L' := [(2, 192), (0, x), (0, y), (0, 1)]) (S' := [(0, 5), (0, 1)]) r_134_87 rfl rfl rfl ?_
                  refine gx_ic (P := 5 ≤ 1) r_134_88 (rfl) (fun h88 => ?_) (fun h88 => ?_)
                  · omega
                  · refine gx_st (L' := [(2, 192), (0, x), (0, y), (0, 1)]) (S' := [(2, 192)]) r_134_91 rfl rfl rfl ?_
                    refine gx_st (L' := [(2, 192), (0, x), (0, y), (0, 1)]) (S' := [(0, 0), (2, 192)]) r_134_92 rfl rfl rfl ?_
                    refine gx_st (L' := [(2, 192), (0, x), (0, y), (0, 1)]) (S' := [(0, 11), (0, 0), (2, 192)]) r_134_93 rfl rfl rfl ?_
                    refine gx_st (L' := [(2, 192), (0, x), (0, y), (0, 1)]) (S' := [(0, 1), (0, 11), (0, 0), (2, 192)]) r_134_95 rfl rfl rfl ?_
                    refine gx_ar (L' := [(2, 192), (0, x), (0, y), (0, 1)]) (S' := [(0, 0), (2, 192)]) (t := 0) (e := w32 (11 + 1)) (z := 12) r_134_96 rfl rfl rfl (w32_eq (by omega) (by omega) (by omega)) ?_
                    refine gx_st (L' := [(2, 192), (0, x), (0, y), (0, 1)]) (S' := [(2, 192), (0, 12), (0, 0), (2, 192)]) r_134_97 rfl rfl rfl ?_
                    refine gx_gf (x := 193) 2 r_134_98 (rfl) (ty_192 hT) ⟨by decide, rfl, by decide, by decide⟩ rfl (fun _ => by omega) (by show n110_26 192 1 = _; rw [e_n110_26, nu_no (by decide), e_n75_25, nu_no (by decide), e_n75_24, nu_no (by decide), e_n75_23, nu_no (by decide), e_n75_22, nu_no (by decide), e_n75_21, nu_no (by decide), e_n58_20, nu_no (by decide), e_n51_19, nu_no (by decide), e_n44_18, nu_no (by decide), e_n37_17, nu_no (by decide), e_n11_2, nu_no (by decide), e_n4_1, nu_no (by decide)]; exact pin_at hp (t := 193) rfl (by decide)) ?_
                    refine gx_st (L' := [(2, 192), (0, x), (0, y), (0, 1)]) (S' := [(0, 31), (2, 193), (0, 12), (0, 0), (2, 192)]) r_134_101 rfl rfl rfl ?_
                    refine gx_st (L' := [(2, 192), (0, x), (0, y), (0, 1)]) (S' := [(0, 2), (0, 31), (2, 193), (0, 12), (0, 0), (2, 192)]) r_134_103 rfl rfl rfl ?_
                    refine gx_st (L' := [(2, 192), (0, x), (0, y), (0, 1)]) (S' := [(0, 1), (0, 2), (0, 31), (2, 193), (0, 12), (0, 0), (2, 192)]) r_134_104 rfl rfl rfl ?_
                    refine gx_ar (L' := [(2, 192), (0, x), (0, y), (0, 1)]) (S' := [(0, 31), (2, 193), (0, 12), (0, 0), (2, 192)]) (t := 0) (e := w32 (2 * 1)) (z := 2) r_134_105 rfl rfl rfl (w32_eq (by omega) (by omega) (by omega)) ?_
                    refine gx_ar (L' := [(2, 192), (0, x), (0, y), (0, 1)]) (S' := [(2, 193), (0, 12), (0, 0), (2, 192)]) (t := 0) (e := w32 (31 + 2)) (z := 33) r_134_106 rfl rfl rfl (w32_eq (by omega) (by omega) (by omega)) ?_
                    refine gx_st (L' := [(2, 192), (0, x), (0, y), (0, 1)]) (S' := [(0, 1), (0, 33), (2, 193), (0, 12), (0, 0), (2, 192)]) r_134_107 rfl rfl rfl ?_
                    refine gx_ar (L' := [(2, 192), (0, x), (0, y), (0, 1)]) (S' := [(2, 193), (0, 12), (0, 0), (2, 192)]) (t := 0) (e := w32 (33 + 1)) (z := 34) r_134_108 rfl rfl rfl (w32_eq (by omega) (by omega) (by omega)) ?_
                    refine gx_ia (n := 34) (x := (m 193 34)) r_134_109 (rfl) (ty_193 hT) (rfl) ⟨rfl, by decide⟩ (by show n110_26 193 34 = _; rw [e_n110_26, nu_no (by decide), e_n75_25, nu_no (by decide), e_n75_24, nu_no (by decide), e_n75_23, nu_no (by decide), e_n75_22, nu_no (by decide), e_n75_21, nu_no (by decide), e_n58_20, nu_no (by decide), e_n51_19, nu_no (by decide), e_n44_18, nu_no (by decide), e_n37_17, nu_no (by decide), e_n11_2, nu_no (by decide), e_n4_1, nu_no (by decide)]) ?_
                    have pp_n110_26 : PinR n110_26 := by rw [e_n110_26, e_n75_25, e_n75_24, e_n75_23, e_n75_22, e_n75_21, e_n58_20, e_n51_19, e_n44_18, e_n37_17, e_n11_2, e_n4_1]; exact PinR_up (PinR_up (PinR_up (PinR_up (PinR_up (PinR_up (PinR_up (PinR_up (PinR_up (PinR_up (PinR_up (PinR_up hp rfl) rfl) rfl) rfl) rfl) rfl) rfl) rfl) rfl) rfl) rfl) rfl
                    refine gx_cv (nx := 113) (S2 := []) (l_132 hT pp_n110_26 (h := 0) (k := 12) (i := 12) (by omega) (by omega) (m 193 34)) r_134_110 rfl rfl rfl rfl rfl (rcv_v rfl (ty_192 hT) (by decide) rfl (by decide)) rfl (by decide) rfl (fun n110_27 q110_27 => ?_)
                    have e_n110_27 : n110_27 = nu_up n110_26 200 12 (m 193 34) := q110_27
                    show GX T 1 134 113 [(2, 192), (0, x), (0, y), (0, 1)] [] n110_27 (RV (fun m1 => RowR nt m1 0 s0 ∧ ∀ p i : Nat, ¬ (p = 200 ∧ i < 16) → m1 p i = m p i))
                    refine gx_li (z := 2) (L' := [(2, 192), (0, x), (0, y), (0, 2)]) r_134_113 rfl (w32_eq (by omega) (by omega) (by omega)) rfl ?_
                    refine gx_st (L' := [(2, 192), (0, x), (0, y), (0, 2)]) (S' := []) r_134_116 rfl rfl rfl ?_
                    refine gx_st (L' := [(2, 192), (0, x), (0, y), (0, 2)]) (S' := [(0, 2)]) r_134_86 rfl rfl rfl ?_
                    refine gx_st (L' := [(2, 192), (0, x), (0, y), (0, 2)]) (S' := [(0, 5), (0, 2)]) r_134_87 rfl rfl rfl ?_
                    refine gx_ic (P := 5 ≤ 2) r_134_88 (rfl) (fun h88 => ?_) (fun h88 => ?_)
                    · omega
                    · refine gx_st (L' := [(2, 192), (0, x), (0, y), (0, 2)]) (S' := [(2, 192)]) r_134_91 rfl rfl rfl ?_
                      refine gx_st (L' := [(2, 192), (0, x), (0, y), (0, 2)]) (S' := [(0, 0), (2, 192)]) r_134_92 rfl rfl rfl ?_
                      refine gx_st (L' := [(2, 192), (0, x), (0, y), (0, 2)]) (S' := [(0, 11), (0, 0), (2, 192)]) r_134_93 rfl rfl rfl ?_
                      refine gx_st (L' := [(2, 192), (0, x), (0, y), (0, 2)]) (S' := [(0, 2), (0, 11), (0, 0), (2, 192)]) r_134_95 rfl rfl rfl ?_
                      refine gx_ar (L' := [(2, 192), (0, x), (0, y), (0, 2)]) (S' := [(0, 0), (2, 192)]) (t := 0) (e := w32 (11 + 2)) (z := 13) r_134_96 rfl rfl rfl (w32_eq (by omega) (by omega) (by omega)) ?_
                      refine gx_st (L' := [(2, 192), (0, x), (0, y), (0, 2)]) (S' := [(2, 192), (0, 13), (0, 0), (2, 192)]) r_134_97 rfl rfl rfl ?_
                      refine gx_gf (x := 193) 2 r_134_98 (rfl) (ty_192 hT) ⟨by decide, rfl, by decide, by decide⟩ rfl (fun _ => by omega) (by show n110_27 192 1 = _; rw [e_n110_27, nu_no (by decide), e_n110_26, nu_no (by decide), e_n75_25, nu_no (by decide), e_n75_24, nu_no (by decide), e_n75_23, nu_no (by decide), e_n75_22, nu_no (by decide), e_n75_21, nu_no (by decide), e_n58_20, nu_no (by decide), e_n51_19, nu_no (by decide), e_n44_18, nu_no (by decide), e_n37_17, nu_no (by decide), e_n11_2, nu_no (by decide), e_n4_1, nu_no (by decide)]; exact pin_at hp (t := 193) rfl (by decide)) ?_
                      refine gx_st (L' := [(2, 192), (0, x), (0, y), (0, 2)]) (S' := [(0, 31), (2, 193), (0, 13), (0, 0), (2, 192)]) r_134_101 rfl rfl rfl ?_
                      refine gx_st (L' := [(2, 192), (0, x), (0, y), (0, 2)]) (S' := [(0, 2), (0, 31), (2, 193), (0, 13), (0, 0), (2, 192)]) r_134_103 rfl rfl rfl ?_
                      refine gx_st (L' := [(2, 192), (0, x), (0, y), (0, 2)]) (S' := [(0, 2), (0, 2), (0, 31), (2, 193), (0, 13), (0, 0), (2, 192)]) r_134_104 rfl rfl rfl ?_
                      refine gx_ar (L' := [(2, 192), (0, x), (0, y), (0, 2)]) (S' := [(0, 31), (2, 193), (0, 13), (0, 0), (2, 192)]) (t := 0) (e := w32 (2 * 2)) (z := 4) r_134_105 rfl rfl rfl (w32_eq (by omega) (by omega) (by omega)) ?_
                      refine gx_ar (L' := [(2, 192), (0, x), (0, y), (0, 2)]) (S' := [(2, 193), (0, 13), (0, 0), (2, 192)]) (t := 0) (e := w32 (31 + 4)) (z := 35) r_134_106 rfl rfl rfl (w32_eq (by omega) (by omega) (by omega)) ?_
                      refine gx_st (L' := [(2, 192), (0, x), (0, y), (0, 2)]) (S' := [(0, 1), (0, 35), (2, 193), (0, 13), (0, 0), (2, 192)]) r_134_107 rfl rfl rfl ?_
                      refine gx_ar (L' := [(2, 192), (0, x), (0, y), (0, 2)]) (S' := [(2, 193), (0, 13), (0, 0), (2, 192)]) (t := 0) (e := w32 (35 + 1)) (z := 36) r_134_108 rfl rfl rfl (w32_eq (by omega) (by omega) (by omega)) ?_
                      refine gx_ia (n := 36) (x := (m 193 36)) r_134_109 (rfl) (ty_193 hT) (rfl) ⟨rfl, by decide⟩ (by show n110_27 193 36 = _; rw [e_n110_27, nu_no (by decide), e_n110_26, nu_no (by decide), e_n75_25, nu_no (by decide), e_n75_24, nu_no (by decide), e_n75_23, nu_no (by decide), e_n75_22, nu_no (by decide), e_n75_21, nu_no (by decide), e_n58_20, nu_no (by decide), e_n51_19, nu_no (by decide), e_n44_18, nu_no (by decide), e_n37_17, nu_no (by decide), e_n11_2, nu_no (by decide), e_n4_1, nu_no (by decide)]) ?_
                      have pp_n110_27 : PinR n110_27 := by rw [e_n110_27, e_n110_26, e_n75_25, e_n75_24, e_n75_23, e_n75_22, e_n75_21, e_n58_20, e_n51_19, e_n44_18, e_n37_17, e_n11_2, e_n4_1]; exact PinR_up (PinR_up (PinR_up (PinR_up (PinR_up (PinR_up (PinR_up (PinR_up (PinR_up (PinR_up (PinR_up (PinR_up (PinR_up hp rfl) rfl) rfl) rfl) rfl) rfl) rfl) rfl) rfl) rfl) rfl) rfl) rfl
                      refine gx_cv (nx := 113) (S2 := []) (l_132 hT pp_n110_27 (h := 0) (k := 13) (i := 13) (by omega) (by omega) (m 193 36)) r_134_110 rfl rfl rfl rfl rfl (rcv_v rfl (ty_192 hT) (by decide) rfl (by decide)) rfl (by decide) rfl (fun n110_28 q110_28 => ?_)
                      have e_n110_28 : n110_28 = nu_up n110_27 200 13 (m 193 36) := q110_28
                      show GX T 1 134 113 [(2, 192), (0, x), (0, y), (0, 2)] [] n110_28 (RV (fun m1 => RowR nt m1 0 s0 ∧ ∀ p i : Nat, ¬ (p = 200 ∧ i < 16) → m1 p i = m p i))
                      refine gx_li (z := 3) (L' := [(2, 192), (0, x), (0, y), (0, 3)]) r_134_113 rfl (w32_eq (by omega) (by omega) (by omega)) rfl ?_
                      refine gx_st (L' := [(2, 192), (0, x), (0, y), (0, 3)]) (S' := []) r_134_116 rfl rfl rfl ?_
                      refine gx_st (L' := [(2, 192), (0, x), (0, y), (0, 3)]) (S' := [(0, 3)]) r_134_86 rfl rfl rfl ?_
                      refine gx_st (L' := [(2, 192), (0, x), (0, y), (0, 3)]) (S' := [(0, 5), (0, 3)]) r_134_87 rfl rfl rfl ?_
                      refine gx_ic (P := 5 ≤ 3) r_134_88 (rfl) (fun h88 => ?_) (fun h88 => ?_)
                      · omega
                      · refine gx_st (L' := [(2, 192), (0, x), (0, y), (0, 3)]) (S' := [(2, 192)]) r_134_91 rfl rfl rfl ?_
                        refine gx_st (L' := [(2, 192), (0, x), (0, y), (0, 3)]) (S' := [(0, 0), (2, 192)]) r_134_92 rfl rfl rfl ?_
                        refine gx_st (L' := [(2, 192), (0, x), (0, y), (0, 3)]) (S' := [(0, 11), (0, 0), (2, 192)]) r_134_93 rfl rfl rfl ?_
                        refine gx_st (L' := [(2, 192), (0, x), (0, y), (0, 3)]) (S' := [(0, 3), (0, 11), (0, 0), (2, 192)]) r_134_95 rfl rfl rfl ?_
                        refine gx_ar (L' := [(2, 192), (0, x), (0, y), (0, 3)]) (S' := [(0, 0), (2, 192)]) (t := 0) (e := w32 (11 + 3)) (z := 14) r_134_96 rfl rfl rfl (w32_eq (by omega) (by omega) (by omega)) ?_
                        refine gx_st (L' := [(2, 192), (0, x), (0, y), (0, 3)]) (S' := [(2, 192), (0, 14), (0, 0), (2, 192)]) r_134_97 rfl rfl rfl ?_
                        refine gx_gf (x := 193) 2 r_134_98 (rfl) (ty_192 hT) ⟨by decide, rfl, by decide, by decide⟩ rfl (fun _ => by omega) (by show n110_28 192 1 = _; rw [e_n110_28, nu_no (by decide), e_n110_27, nu_no (by decide), e_n110_26, nu_no (by decide), e_n75_25, nu_no (by decide), e_n75_24, nu_no (by decide), e_n75_23, nu_no (by decide), e_n75_22, nu_no (by decide), e_n75_21, nu_no (by decide), e_n58_20, nu_no (by decide), e_n51_19, nu_no (by decide), e_n44_18, nu_no (by decide), e_n37_17, nu_no (by decide), e_n11_2, nu_no (by decide), e_n4_1, nu_no (by decide)]; exact pin_at hp (t := 193) rfl (by decide)) ?_
                        refine gx_st (L' := [(2, 192), (0, x), (0, y), (0, 3)]) (S' := [(0, 31), (2, 193), (0, 14), (0, 0), (2, 192)]) r_134_101 rfl rfl rfl ?_
                        refine gx_st (L' := [(2, 192), (0, x), (0, y), (0, 3)]) (S' := [(0, 2), (0, 31), (2, 193), (0, 14), (0, 0), (2, 192)]) r_134_103 rfl rfl rfl ?_
                        refine gx_st (L' := [(2, 192), (0, x), (0, y), (0, 3)]) (S' := [(0, 3), (0, 2), (0, 31), (2, 193), (0, 14), (0, 0), (2, 192)]) r_134_104 rfl rfl rfl ?_
                        refine gx_ar (L' := [(2, 192), (0, x), (0, y), (0, 3)]) (S' := [(0, 31), (2, 193), (0, 14), (0, 0), (2, 192)]) (t := 0) (e := w32 (2 * 3)) (z := 6) r_134_105 rfl rfl rfl (w32_eq (by omega) (by omega) (by omega)) ?_
                        refine gx_ar (L' := [(2, 192), (0, x), (0, y), (0, 3)]) (S' := [(2, 193), (0, 14), (0, 0), (2, 192)]) (t := 0) (e := w32 (31 + 6)) (z := 37) r_134_106 rfl rfl rfl (w32_eq (by omega) (by omega) (by omega)) ?_
                        refine gx_st (L' := [(2, 192), (0, x), (0, y), (0, 3)]) (S' := [(0, 1), (0, 37), (2, 193), (0, 14), (0, 0), (2, 192)]) r_134_107 rfl rfl rfl ?_
                        refine gx_ar (L' := [(2, 192), (0, x), (0, y), (0, 3)]) (S' := [(2, 193), (0, 14), (0, 0), (2, 192)]) (t := 0) (e := w32 (37 + 1)) (z := 38) r_134_108 rfl rfl rfl (w32_eq (by omega) (by omega) (by omega)) ?_
                        refine gx_ia (n := 38) (x := (m 193 38)) r_134_109 (rfl) (ty_193 hT) (rfl) ⟨rfl, by decide⟩ (by show n110_28 193 38 = _; rw [e_n110_28, nu_no (by decide), e_n110_27, nu_no (by decide), e_n110_26, nu_no (by decide), e_n75_25, nu_no (by decide), e_n75_24, nu_no (by decide), e_n75_23, nu_no (by decide), e_n75_22, nu_no (by decide), e_n75_21, nu_no (by decide), e_n58_20, nu_no (by decide), e_n51_19, nu_no (by decide), e_n44_18, nu_no (by decide), e_n37_17, nu_no (by decide), e_n11_2, nu_no (by decide), e_n4_1, nu_no (by decide)]) ?_
                        have pp_n110_28 : PinR n110_28 := by rw [e_n110_28, e_n110_27, e_n110_26, e_n75_25, e_n75_24, e_n75_23, e_n75_22, e_n75_21, e_n58_20, e_n51_19, e_n44_18, e_n37_17, e_n11_2, e_n4_1]; exact PinR_up (PinR_up (PinR_up (PinR_up (PinR_up (PinR_up (PinR_up (PinR_up (PinR_up (PinR_up (PinR_up (PinR_up (PinR_up (PinR_up hp rfl) rfl) rfl) rfl) rfl) rfl) rfl) rfl) rfl) rfl) rfl) rfl) rfl) rfl
                        refine gx_cv (nx := 113) (S2 := []) (l_132 hT pp_n110_28 (h := 0) (k := 14) (i := 14) (by omega) (by omega) (m 193 38)) r_134_110 rfl rfl rfl rfl rfl (rcv_v rfl (ty_192 hT) (by decide) rfl (by decide)) rfl (by decide) rfl (fun n110_29 q110_29 => ?_)
                        have e_n110_29 : n110_29 = nu_up n110_28 200 14 (m 193 38) := q110_29
                        show GX T 1 134 113 [(2, 192), (0, x), (0, y), (0, 3)] [] n110_29 (RV (fun m1 => RowR nt m1 0 s0 ∧ ∀ p i : Nat, ¬ (p = 200 ∧ i < 16) → m1 p i = m p i))
                        refine gx_li (z := 4) (L' := [(2, 192), (0, x), (0, y), (0, 4)]) r_134_113 rfl (w32_eq (by omega) (by omega) (by omega)) rfl ?_
                        refine gx_st (L' := [(2, 192), (0, x), (0, y), (0, 4)]) (S' := []) r_134_116 rfl rfl rfl ?_
                        refine gx_st (L' := [(2, 192), (0, x), (0, y), (0, 4)]) (S' := [(0, 4)]) r_134_86 rfl rfl rfl ?_
                        refine gx_st (L' := [(2, 192), (0, x), (0, y), (0, 4)]) (S' := [(0, 5), (0, 4)]) r_134_87 rfl rfl rfl ?_
                        refine gx_ic (P := 5 ≤ 4) r_134_88 (rfl) (fun h88 => ?_) (fun h88 => ?_)
                        · omega
                        · refine gx_st (L' := [(2, 192), (0, x), (0, y), (0, 4)]) (S' := [(2, 192)]) r_134_91 rfl rfl rfl ?_
                          refine gx_st (L' := [(2, 192), (0, x), (0, y), (0, 4)]) (S' := [(0, 0), (2, 192)]) r_134_92 rfl rfl rfl ?_
                          refine gx_st (L' := [(2, 192), (0, x), (0, y), (0, 4)]) (S' := [(0, 11), (0, 0), (2, 192)]) r_134_93 rfl rfl rfl ?_
                          refine gx_st (L' := [(2, 192), (0, x), (0, y), (0, 4)]) (S' := [(0, 4), (0, 11), (0, 0), (2, 192)]) r_134_95 rfl rfl rfl ?_
                          refine gx_ar (L' := [(2, 192), (0, x), (0, y), (0, 4)]) (S' := [(0, 0), (2, 192)]) (t := 0) (e := w32 (11 + 4)) (z := 15) r_134_96 rfl rfl rfl (w32_eq (by omega) (by omega) (by omega)) ?_
                          refine gx_st (L' := [(2, 192), (0, x), (0, y), (0, 4)]) (S' := [(2, 192), (0, 15), (0, 0), (2, 192)]) r_134_97 rfl rfl rfl ?_
                          refine gx_gf (x := 193) 2 r_134_98 (rfl) (ty_192 hT) ⟨by decide, rfl, by decide, by decide⟩ rfl (fun _ => by omega) (by show n110_29 192 1 = _; rw [e_n110_29, nu_no (by decide), e_n110_28, nu_no (by decide), e_n110_27, nu_no (by decide), e_n110_26, nu_no (by decide), e_n75_25, nu_no (by decide), e_n75_24, nu_no (by decide), e_n75_23, nu_no (by decide), e_n75_22, nu_no (by decide), e_n75_21, nu_no (by decide), e_n58_20, nu_no (by decide), e_n51_19, nu_no (by decide), e_n44_18, nu_no (by decide), e_n37_17, nu_no (by decide), e_n11_2, nu_no (by decide), e_n4_1, nu_no (by decide)]; exact pin_at hp (t := 193) rfl (by decide)) ?_
                          refine gx_st (L' := [(2, 192), (0, x), (0, y), (0, 4)]) (S' := [(0, 31), (2, 193), (0, 15), (0, 0), (2, 192)]) r_134_101 rfl rfl rfl ?_
                          refine gx_st (L' := [(2, 192), (0, x), (0, y), (0, 4)]) (S' := [(0, 2), (0, 31), (2, 193), (0, 15), (0, 0), (2, 192)]) r_134_103 rfl rfl rfl ?_
                          refine gx_st (L' := [(2, 192), (0, x), (0, y), (0, 4)]) (S' := [(0, 4), (0, 2), (0, 31), (2, 193), (0, 15), (0, 0), (2, 192)]) r_134_104 rfl rfl rfl ?_
                          refine gx_ar (L' := [(2, 192), (0, x), (0, y), (0, 4)]) (S' := [(0, 31), (2, 193), (0, 15), (0, 0), (2, 192)]) (t := 0) (e := w32 (2 * 4)) (z := 8) r_134_105 rfl rfl rfl (w32_eq (by omega) (by omega) (by omega)) ?_
                          refine gx_ar (L' := [(2, 192), (0, x), (0, y), (0, 4)]) (S' := [(2, 193), (0, 15), (0, 0), (2, 192)]) (t := 0) (e := w32 (31 + 8)) (z := 39) r_134_106 rfl rfl rfl (w32_eq (by omega) (by omega) (by omega)) ?_
                          refine gx_st (L' := [(2, 192), (0, x), (0, y), (0, 4)]) (S' := [(0, 1), (0, 39), (2, 193), (0, 15), (0, 0), (2, 192)]) r_134_107 rfl rfl rfl ?_
                          refine gx_ar (L' := [(2, 192), (0, x), (0, y), (0, 4)]) (S' := [(2, 193), (0, 15), (0, 0), (2, 192)]) (t := 0) (e := w32 (39 + 1)) (z := 40) r_134_108 rfl rfl rfl (w32_eq (by omega) (by omega) (by omega)) ?_
                          refine gx_ia (n := 40) (x := (m 193 40)) r_134_109 (rfl) (ty_193 hT) (rfl) ⟨rfl, by decide⟩ (by show n110_29 193 40 = _; rw [e_n110_29, nu_no (by decide), e_n110_28, nu_no (by decide), e_n110_27, nu_no (by decide), e_n110_26, nu_no (by decide), e_n75_25, nu_no (by decide), e_n75_24, nu_no (by decide), e_n75_23, nu_no (by decide), e_n75_22, nu_no (by decide), e_n75_21, nu_no (by decide), e_n58_20, nu_no (by decide), e_n51_19, nu_no (by decide), e_n44_18, nu_no (by decide), e_n37_17, nu_no (by decide), e_n11_2, nu_no (by decide), e_n4_1, nu_no (by decide)]) ?_
                          have pp_n110_29 : PinR n110_29 := by rw [e_n110_29, e_n110_28, e_n110_27, e_n110_26, e_n75_25, e_n75_24, e_n75_23, e_n75_22, e_n75_21, e_n58_20, e_n51_19, e_n44_18, e_n37_17, e_n11_2, e_n4_1]; exact PinR_up (PinR_up (PinR_up (PinR_up (PinR_up (PinR_up (PinR_up (PinR_up (PinR_up (PinR_up (PinR_up (PinR_up (PinR_up (PinR_up (PinR_up hp rfl) rfl) rfl) rfl) rfl) rfl) rfl) rfl) rfl) rfl) rfl) rfl) rfl) rfl) rfl
                          refine gx_cv (nx := 113) (S2 := []) (l_132 hT pp_n110_29 (h := 0) (k := 15) (i := 15) (by omega) (by omega) (m 193 40)) r_134_110 rfl rfl rfl rfl rfl (rcv_v rfl (ty_192 hT) (by decide) rfl (by decide)) rfl (by decide) rfl (fun n110_30 q110_30 => ?_)
                          have e_n110_30 : n110_30 = nu_up n110_29 200 15 (m 193 40) := q110_30
                          show GX T 1 134 113 [(2, 192), (0, x), (0, y), (0, 4)] [] n110_30 (RV (fun m1 => RowR nt m1 0 s0 ∧ ∀ p i : Nat, ¬ (p = 200 ∧ i < 16) → m1 p i = m p i))
                          refine gx_li (z := 5) (L' := [(2, 192), (0, x), (0, y), (0, 5)]) r_134_113 rfl (w32_eq (by omega) (by omega) (by omega)) rfl ?_
                          refine gx_st (L' := [(2, 192), (0, x), (0, y), (0, 5)]) (S' := []) r_134_116 rfl rfl rfl ?_
                          refine gx_st (L' := [(2, 192), (0, x), (0, y), (0, 5)]) (S' := [(0, 5)]) r_134_86 rfl rfl rfl ?_
                          refine gx_st (L' := [(2, 192), (0, x), (0, y), (0, 5)]) (S' := [(0, 5), (0, 5)]) r_134_87 rfl rfl rfl ?_
                          refine gx_ic (P := 5 ≤ 5) r_134_88 (rfl) (fun h88 => ?_) (fun h88 => ?_)
                          · have u0 : n110_30 200 0 = s0 0 := by rw [e_n110_30, nu_ne (by decide), e_n110_29, nu_ne (by decide), e_n110_28, nu_ne (by decide), e_n110_27, nu_ne (by decide), e_n110_26, nu_ne (by decide), e_n75_25, nu_ne (by decide), e_n75_24, nu_ne (by decide), e_n75_23, nu_ne (by decide), e_n75_22, nu_ne (by decide), e_n75_21, nu_ne (by decide), e_n58_20, nu_ne (by decide), e_n51_19, nu_ne (by decide), e_n44_18, nu_ne (by decide), e_n37_17, nu_ne (by decide), e_n11_2, nu_ne (by decide), e_n4_1, nu_at]; exact (hs.1).symm
                            have u1 : n110_30 200 1 = s0 1 := by rw [e_n110_30, nu_ne (by decide), e_n110_29, nu_ne (by decide), e_n110_28, nu_ne (by decide), e_n110_27, nu_ne (by decide), e_n110_26, nu_ne (by decide), e_n75_25, nu_ne (by decide), e_n75_24, nu_ne (by decide), e_n75_23, nu_ne (by decide), e_n75_22, nu_ne (by decide), e_n75_21, nu_ne (by decide), e_n58_20, nu_ne (by decide), e_n51_19, nu_ne (by decide), e_n44_18, nu_ne (by decide), e_n37_17, nu_ne (by decide), e_n11_2, nu_at]; exact (hs.2.1).symm
                            have u2 : n110_30 200 2 = s0 2 := by rw [e_n110_30, nu_ne (by decide), e_n110_29, nu_ne (by decide), e_n110_28, nu_ne (by decide), e_n110_27, nu_ne (by decide), e_n110_26, nu_ne (by decide), e_n75_25, nu_ne (by decide), e_n75_24, nu_ne (by decide), e_n75_23, nu_ne (by decide), e_n75_22, nu_ne (by decide), e_n75_21, nu_ne (by decide), e_n58_20, nu_ne (by decide), e_n51_19, nu_ne (by decide), e_n44_18, nu_ne (by decide), e_n37_17, nu_at]; exact (by rw [hs.2.2.1, ← hE.2.1]; rw [if_pos (by omega)])
                            have u4 : n110_30 200 4 = s0 4 := by rw [e_n110_30, nu_ne (by decide), e_n110_29, nu_ne (by decide), e_n110_28, nu_ne (by decide), e_n110_27, nu_ne (by decide), e_n110_26, nu_ne (by decide), e_n75_25, nu_ne (by decide), e_n75_24, nu_ne (by decide), e_n75_23, nu_ne (by decide), e_n75_22, nu_ne (by decide), e_n75_21, nu_ne (by decide), e_n58_20, nu_ne (by decide), e_n51_19, nu_at]; exact (hs.2.2.2.2.1).symm
                            have u5 : n110_30 200 5 = s0 5 := by rw [e_n110_30, nu_ne (by decide), e_n110_29, nu_ne (by decide), e_n110_28, nu_ne (by decide), e_n110_27, nu_ne (by decide), e_n110_26, nu_ne (by decide), e_n75_25, nu_ne (by decide), e_n75_24, nu_ne (by decide), e_n75_23, nu_ne (by decide), e_n75_22, nu_ne (by decide), e_n75_21, nu_ne (by decide), e_n58_20, nu_at]; exact (hs.2.2.2.2.2.1).symm
                            have u3 : n110_30 200 3 = 0 := by rw [e_n110_30, nu_ne (by decide), e_n110_29, nu_ne (by decide), e_n110_28, nu_ne (by decide), e_n110_27, nu_ne (by decide), e_n110_26, nu_ne (by decide), e_n75_25, nu_ne (by decide), e_n75_24, nu_ne (by decide), e_n75_23, nu_ne (by decide), e_n75_22, nu_ne (by decide), e_n75_21, nu_ne (by decide), e_n58_20, nu_ne (by decide), e_n51_19, nu_ne (by decide), e_n44_18, nu_at]
                            have ut0 : n110_30 200 6 = 0 := by rw [e_n110_30, nu_ne (by decide), e_n110_29, nu_ne (by decide), e_n110_28, nu_ne (by decide), e_n110_27, nu_ne (by decide), e_n110_26, nu_ne (by decide), e_n75_25, nu_ne (by decide), e_n75_24, nu_ne (by decide), e_n75_23, nu_ne (by decide), e_n75_22, nu_ne (by decide), e_n75_21, nu_at]
                            have uf0 : n110_30 200 11 = m 193 32 := by rw [e_n110_30, nu_ne (by decide), e_n110_29, nu_ne (by decide), e_n110_28, nu_ne (by decide), e_n110_27, nu_ne (by decide), e_n110_26, nu_at]
                            have ut1 : n110_30 200 7 = 0 := by rw [e_n110_30, nu_ne (by decide), e_n110_29, nu_ne (by decide), e_n110_28, nu_ne (by decide), e_n110_27, nu_ne (by decide), e_n110_26, nu_ne (by decide), e_n75_25, nu_ne (by decide), e_n75_24, nu_ne (by decide), e_n75_23, nu_ne (by decide), e_n75_22, nu_at]
                            have uf1 : n110_30 200 12 = m 193 34 := by rw [e_n110_30, nu_ne (by decide), e_n110_29, nu_ne (by decide), e_n110_28, nu_ne (by decide), e_n110_27, nu_at]
                            have ut2 : n110_30 200 8 = 0 := by rw [e_n110_30, nu_ne (by decide), e_n110_29, nu_ne (by decide), e_n110_28, nu_ne (by decide), e_n110_27, nu_ne (by decide), e_n110_26, nu_ne (by decide), e_n75_25, nu_ne (by decide), e_n75_24, nu_ne (by decide), e_n75_23, nu_at]
                            have uf2 : n110_30 200 13 = m 193 36 := by rw [e_n110_30, nu_ne (by decide), e_n110_29, nu_ne (by decide), e_n110_28, nu_at]
                            have ut3 : n110_30 200 9 = 0 := by rw [e_n110_30, nu_ne (by decide), e_n110_29, nu_ne (by decide), e_n110_28, nu_ne (by decide), e_n110_27, nu_ne (by decide), e_n110_26, nu_ne (by decide), e_n75_25, nu_ne (by decide), e_n75_24, nu_at]
                            have uf3 : n110_30 200 14 = m 193 38 := by rw [e_n110_30, nu_ne (by decide), e_n110_29, nu_at]
                            have ut4 : n110_30 200 10 = 0 := by rw [e_n110_30, nu_ne (by decide), e_n110_29, nu_ne (by decide), e_n110_28, nu_ne (by decide), e_n110_27, nu_ne (by decide), e_n110_26, nu_ne (by decide), e_n75_25, nu_at]
                            have uf4 : n110_30 200 15 = m 193 40 := by rw [e_n110_30, nu_at]
                            have r : RowR nt n110_30 0 s0 := by
                              refine ⟨⟨fun k hk h3 => ?_, fun b hb => ?_, fun t ht hn => ?_⟩, fun _ => ?_⟩
                              · have hk6 : k = 0 ∨ k = 1 ∨ k = 2 ∨ k = 4 ∨ k = 5 := by omega
                                rcases hk6 with rfl | rfl | rfl | rfl | rfl
                                · exact u0
                                · exact u1
                                · exact u2
                                · exact u4
                                · exact u5
                              · rw [hs.2.2.2.2.2.2.1 b hb]
                                have hk6 : b = 0 ∨ b = 1 ∨ b = 2 ∨ b = 3 ∨ b = 4 := by omega
                                rcases hk6 with rfl | rfl | rfl | rfl | rfl
                                · exact ut0
                                · exact ut1
                                · exact ut2
                                · exact ut3
                                · exact ut4
                              · rw [hs.2.2.2.2.2.2.2.1 t ht, ← hE.2.2.2.2.2.1 t ht hn]
                                have hk6 : t = 0 ∨ t = 1 ∨ t = 2 ∨ t = 3 ∨ t = 4 := by omega
                                rcases hk6 with rfl | rfl | rfl | rfl | rfl
                                · exact uf0
                                · exact uf1
                                · exact uf2
                                · exact uf3
                                · exact uf4
                              · show n110_30 200 3 = max 0 (s0 3 - ((0 : Nat) : Int))
                                rw [u3, hs.2.2.2.1]; decide
                            exact gx_rt r_134_119 rfl rfl ⟨rfl, r, fun p i x => by rw [e_n110_30, nu_x (by omega), e_n110_29, nu_x (by omega), e_n110_28, nu_x (by omega), e_n110_27, nu_x (by omega), e_n110_26, nu_x (by omega), e_n75_25, nu_x (by omega), e_n75_24, nu_x (by omega), e_n75_23, nu_x (by omega), e_n75_22, nu_x (by omega), e_n75_21, nu_x (by omega), e_n58_20, nu_x (by omega), e_n51_19, nu_x (by omega), e_n44_18, nu_x (by omega), e_n37_17, nu_x (by omega), e_n11_2, nu_x (by omega), e_n4_1, nu_x (by omega)]⟩
                          · omega
              · omega
theorem gf_l (hT : TT T) (hp : PinR m) {w : Wd} (hB : WB w) {nt : Int} (hE : EW nt m w) (hP : WP w) {D : Nat → Nat → Int} (eD : ∀ a b : Nat, a < 7 → b < 7 → m 199 (7 * a + b) = D a b) (hD : WyD w D) (hA : ∀ h : Nat, h < 12 → 0 ≤ m 203 h ∧ m 203 h ≤ 16) {n : Nat} (hn : w 1 = (n : Int)) (hn12 : n ≤ 12) {s0 : Wd} (hS : SB w s0 0) (h3 : s0 3 ≤ 20) (hnt : NtS nt w s0) {x y : Int} : ∀ (N k : Nat) (p : Mm), n - k < N → k ≤ n → FrG m p → RunP nt p w D (m 203) s0 k → GX T 6 144 38 [(2, 192), (0, x), (0, y), (0, (k : Int))] [] p (RV (fun m1 => RunP nt m1 w D (m 203) s0 n ∧ FrG m m1)) := by
  intro N
  induction N with
  | zero => intro k p hN; exact absurd hN (Nat.not_lt_zero _)
  | succ N ih =>
    intro k p hN hk hf hr
    have pp : PinR p := pin_g hp hf
    have ep : EW nt p w := ew_e hE (fun i => hf 193 i (by omega) (by omega) (by omega)) (fun i _ _ => hf 192 i (by omega) (by omega) (by omega))
    refine gx_st (L' := [(2, 192), (0, x), (0, y), (0, (k : Int))]) (S' := [(0, (k : Int))]) r_144_38 rfl rfl rfl ?_
    refine gx_st (L' := [(2, 192), (0, x), (0, y), (0, (k : Int))]) (S' := [(2, 192), (0, (k : Int))]) r_144_39 rfl rfl rfl ?_
    refine gx_gf (x := 193) 2 r_144_40 (rfl) (ty_192 hT) ⟨by decide, rfl, by decide, by decide⟩ rfl (fun _ => by omega) (pin_at pp (t := 193) rfl (by decide)) ?_
    refine gx_st (L' := [(2, 192), (0, x), (0, y), (0, (k : Int))]) (S' := [(0, 1), (2, 193), (0, (k : Int))]) r_144_43 rfl rfl rfl ?_
    refine gx_ia (n := 1) (x := (n : Int)) r_144_44 (rfl) (ty_193 hT) (rfl) ⟨rfl, by decide⟩ ((ep.1 1 (by decide) (by decide) (by decide)).trans hn) ?_
    refine gx_ic (P := (n : Int) ≤ (k : Int)) r_144_45 (rfl) (fun h45 => ?_) (fun h45 => ?_)
    · have hkn : k = n := by omega
      rw [hkn] at hr
      exact gx_rt r_144_65 rfl rfl ⟨rfl, hr, hf⟩
    · refine gx_st (L' := [(2, 192), (0, x), (0, y), (0, (k : Int))]) (S' := [(2, 192)]) r_144_48 rfl rfl rfl ?_
      refine gx_st (L' := [(2, 192), (0, x), (0, y), (0, (k : Int))]) (S' := [(0, (k : Int)), (2, 192)]) r_144_49 rfl rfl rfl ?_
      refine gx_st (L' := [(2, 192), (0, x), (0, y), (0, (k : Int))]) (S' := [(2, 192), (0, (k : Int)), (2, 192)]) r_144_50 rfl rfl rfl ?_
      refine gx_gf (x := 203) 2 r_144_51 (rfl) (ty_192 hT) ⟨by decide, rfl, by decide, by decide⟩ rfl (fun _ => by omega) (pin_at pp (t := 203) rfl (by decide)) ?_
      refine gx_st (L' := [(2, 192), (0, x), (0, y), (0, (k : Int))]) (S' := [(0, (k : Int)), (2, 203), (0, (k : Int)), (2, 192)]) r_144_54 rfl rfl rfl ?_
      refine gx_ia (n := k) (x := (m 203 k)) r_144_55 (rfl) (ty_203 hT) (by omega) ⟨rfl, by omega⟩ (hf 203 k (by omega) (by omega) (by omega)) ?_
      have hk12 : k < 12 := by omega
      have hSk := sb_run hB hP hD hA hS k (by omega)
      have z2 := hSk.2.1
      have z6 := hSk.2.2.1
      have c20 : ∀ c : Nat, c < 5 → 0 ≤ p 204 c ∧ p 204 c ≤ 20 := fun c hc => by
        rw [hr.2.2.2.2 c hc]
        have := carN_le (deedF w D (m 203) s0) (fun h => runF w D (m 203) s0 h 1) (c : Int) k
        omega
      refine gx_cv (nx := 59) (S2 := []) (y_142 hT pp hB ep hP (fun a b ha hb => (hf 199 (7 * a + b) (by omega) (by omega) (by omega)).trans (eD a b ha hb)) hD hk12 (hr.1 k (Nat.le_refl _)) hr.2.2.2.1 hSk.1 (by omega) (by have := run_3 hB hP hD hA hS h3 k (by omega); omega) (fun b hb => by have := z6 b hb; omega) hSk.2.2.2 (nt_run hB hP hD hA hS hnt k (by omega)) c20 (hA k hk12)) r_144_56 rfl rfl rfl rfl rfl (rcv_v rfl (ty_192 hT) (by decide) rfl (by decide)) rfl (by decide) rfl (fun n56 q56 => ?_)
      have hq := q56
      show GX T 6 144 59 [(2, 192), (0, x), (0, y), (0, (k : Int))] [] n56 (RV (fun m1 => RunP nt m1 w D (m 203) s0 n ∧ FrG m m1))
      refine gx_li (z := (k : Int) + 1) (L' := [(2, 192), (0, x), (0, y), (0, (k : Int) + 1)]) r_144_59 rfl (w32_eq (by omega) (by omega) (by omega)) rfl ?_
      refine gx_st (L' := [(2, 192), (0, x), (0, y), (0, (k : Int) + 1)]) (S' := []) r_144_62 rfl rfl rfl ?_
      rw [show (k : Int) + 1 = ((k + 1 : Nat) : Int) from rfl]
      exact ih (k + 1) n56 (by omega) (by omega) (frg_tr hf (frg_h hq)) (runp_s hr hq)
theorem y_144 (hT : TT T) (hp : PinR m) {w : Wd} (hB : WB w) {nt : Int} (hE : EW nt m w) (hP : WP w) {D : Nat → Nat → Int} (eD : ∀ a b : Nat, a < 7 → b < 7 → m 199 (7 * a + b) = D a b) (hD : WyD w D) (hA : ∀ h : Nat, h < 12 → 0 ≤ m 203 h ∧ m 203 h ≤ 16) {n : Nat} (hn : w 1 = (n : Int)) (hn12 : n ≤ 12) {s0 : Wd} (hS : SB w s0 0) (h3 : s0 3 ≤ 20) (hnt : NtS nt w s0) {x y : Int} (hs : BegS w s0 x y) : GX T 6 144 0 [(2, 192), (0, x), (0, y), (9, 0)] [] m (RV (fun m1 => RunP nt m1 w D (m 203) s0 n ∧ FrG m m1)) := by
  refine gx_st (L' := [(2, 192), (0, x), (0, y), (9, 0)]) (S' := [(2, 192)]) r_144_0 rfl rfl rfl ?_
  refine gx_st (L' := [(2, 192), (0, x), (0, y), (9, 0)]) (S' := [(0, (-1)), (2, 192)]) r_144_1 rfl rfl rfl ?_
  obtain ⟨m1, e_m1⟩ : ∃ z, z = nu_up m 192 21 (-1) := ⟨_, rfl⟩
  refine gx_pf (x := (-1)) 0 r_144_2 (rfl) (ty_192 hT) ⟨by decide, rfl, by decide, by decide⟩ rfl (fun z => absurd z (by decide)) (fun z => absurd z (by decide)) e_m1.symm ?_
  refine gx_st (L' := [(2, 192), (0, x), (0, y), (9, 0)]) (S' := [(2, 192)]) r_144_5 rfl rfl rfl ?_
  refine gx_st (L' := [(2, 192), (0, x), (0, y), (9, 0)]) (S' := [(0, (-1)), (2, 192)]) r_144_6 rfl rfl rfl ?_
  obtain ⟨m2, e_m2⟩ : ∃ z, z = nu_up m1 192 22 (-1) := ⟨_, rfl⟩
  refine gx_pf (x := (-1)) 0 r_144_7 (rfl) (ty_192 hT) ⟨by decide, rfl, by decide, by decide⟩ rfl (fun z => absurd z (by decide)) (fun z => absurd z (by decide)) e_m2.symm ?_
  refine gx_st (L' := [(2, 192), (0, x), (0, y), (9, 0)]) (S' := [(0, 0)]) r_144_10 rfl rfl rfl ?_
  refine gx_st (L' := [(2, 192), (0, x), (0, y), (0, 0)]) (S' := []) r_144_11 rfl rfl rfl ?_
  refine gx_st (L' := [(2, 192), (0, x), (0, y), (0, 0)]) (S' := [(0, 0)]) r_144_12 rfl rfl rfl ?_
  refine gx_st (L' := [(2, 192), (0, x), (0, y), (0, 0)]) (S' := [(0, 5), (0, 0)]) r_144_13 rfl rfl rfl ?_
  refine gx_ic (P := 5 ≤ 0) r_144_14 (rfl) (fun h14 => ?_) (fun h14 => ?_)
  · omega
  · refine gx_st (L' := [(2, 192), (0, x), (0, y), (0, 0)]) (S' := [(2, 192)]) r_144_17 rfl rfl rfl ?_
    refine gx_gf (x := 204) 2 r_144_18 (rfl) (ty_192 hT) ⟨by decide, rfl, by decide, by decide⟩ rfl (fun _ => by omega) (by show m2 192 20 = _; rw [e_m2, nu_ne (by decide), e_m1, nu_ne (by decide)]; exact pin_at hp (t := 204) rfl (by decide)) ?_
    refine gx_st (L' := [(2, 192), (0, x), (0, y), (0, 0)]) (S' := [(0, 0), (2, 204)]) r_144_21 rfl rfl rfl ?_
    refine gx_st (L' := [(2, 192), (0, x), (0, y), (0, 0)]) (S' := [(0, 0), (0, 0), (2, 204)]) r_144_22 rfl rfl rfl ?_
    obtain ⟨m3, e_m3⟩ : ∃ z, z = nu_up m2 204 0 0 := ⟨_, rfl⟩
    refine gx_is (n := 0) (x := 0) r_144_23 (rfl) (by omega) (ty_204 hT) (rfl) ⟨rfl, by decide⟩ e_m3.symm ?_
    refine gx_li (z := 1) (L' := [(2, 192), (0, x), (0, y), (0, 1)]) r_144_24 rfl (w32_eq (by omega) (by omega) (by omega)) rfl ?_
    refine gx_st (L' := [(2, 192), (0, x), (0, y), (0, 1)]) (S' := []) r_144_27 rfl rfl rfl ?_
    refine gx_st (L' := [(2, 192), (0, x), (0, y), (0, 1)]) (S' := [(0, 1)]) r_144_12 rfl rfl rfl ?_
    refine gx_st (L' := [(2, 192), (0, x), (0, y), (0, 1)]) (S' := [(0, 5), (0, 1)]) r_144_13 rfl rfl rfl ?_
    refine gx_ic (P := 5 ≤ 1) r_144_14 (rfl) (fun h14 => ?_) (fun h14 => ?_)
    · omega
    · refine gx_st (L' := [(2, 192), (0, x), (0, y), (0, 1)]) (S' := [(2, 192)]) r_144_17 rfl rfl rfl ?_
      refine gx_gf (x := 204) 2 r_144_18 (rfl) (ty_192 hT) ⟨by decide, rfl, by decide, by decide⟩ rfl (fun _ => by omega) (by show m3 192 20 = _; rw [e_m3, nu_no (by decide), e_m2, nu_ne (by decide), e_m1, nu_ne (by decide)]; exact pin_at hp (t := 204) rfl (by decide)) ?_
      refine gx_st (L' := [(2, 192), (0, x), (0, y), (0, 1)]) (S' := [(0, 1), (2, 204)]) r_144_21 rfl rfl rfl ?_
      refine gx_st (L' := [(2, 192), (0, x), (0, y), (0, 1)]) (S' := [(0, 0), (0, 1), (2, 204)]) r_144_22 rfl rfl rfl ?_
      obtain ⟨m4, e_m4⟩ : ∃ z, z = nu_up m3 204 1 0 := ⟨_, rfl⟩
      refine gx_is (n := 1) (x := 0) r_144_23 (rfl) (by omega) (ty_204 hT) (rfl) ⟨rfl, by decide⟩ e_m4.symm ?_
      refine gx_li (z := 2) (L' := [(2, 192), (0, x), (0, y), (0, 2)]) r_144_24 rfl (w32_eq (by omega) (by omega) (by omega)) rfl ?_
      refine gx_st (L' := [(2, 192), (0, x), (0, y), (0, 2)]) (S' := []) r_144_27 rfl rfl rfl ?_
      refine gx_st (L' := [(2, 192), (0, x), (0, y), (0, 2)]) (S' := [(0, 2)]) r_144_12 rfl rfl rfl ?_
      refine gx_st (L' := [(2, 192), (0, x), (0, y), (0, 2)]) (S' := [(0, 5), (0, 2)]) r_144_13 rfl rfl rfl ?_
      refine gx_ic (P := 5 ≤ 2) r_144_14 (rfl) (fun h14 => ?_) (fun h14 => ?_)
      · omega
      · refine gx_st (L' := [(2, 192), (0, x), (0, y), (0, 2)]) (S' := [(2, 192)]) r_144_17 rfl rfl rfl ?_
        refine gx_gf (x := 204) 2 r_144_18 (rfl) (ty_192 hT) ⟨by decide, rfl, by decide, by decide⟩ rfl (fun _ => by omega) (by show m4 192 20 = _; rw [e_m4, nu_no (by decide), e_m3, nu_no (by decide), e_m2, nu_ne (by decide), e_m1, nu_ne (by decide)]; exact pin_at hp (t := 204) rfl (by decide)) ?_
        refine gx_st (L' := [(2, 192), (0, x), (0, y), (0, 2)]) (S' := [(0, 2), (2, 204)]) r_144_21 rfl rfl rfl ?_
        refine gx_st (L' := [(2, 192), (0, x), (0, y), (0, 2)]) (S' := [(0, 0), (0, 2), (2, 204)]) r_144_22 rfl rfl rfl ?_
        obtain ⟨m5, e_m5⟩ : ∃ z, z = nu_up m4 204 2 0 := ⟨_, rfl⟩
        refine gx_is (n := 2) (x := 0) r_144_23 (rfl) (by omega) (ty_204 hT) (rfl) ⟨rfl, by decide⟩ e_m5.symm ?_
        refine gx_li (z := 3) (L' := [(2, 192), (0, x), (0, y), (0, 3)]) r_144_24 rfl (w32_eq (by omega) (by omega) (by omega)) rfl ?_
        refine gx_st (L' := [(2, 192), (0, x), (0, y), (0, 3)]) (S' := []) r_144_27 rfl rfl rfl ?_
        refine gx_st (L' := [(2, 192), (0, x), (0, y), (0, 3)]) (S' := [(0, 3)]) r_144_12 rfl rfl rfl ?_
        refine gx_st (L' := [(2, 192), (0, x), (0, y), (0, 3)]) (S' := [(0, 5), (0, 3)]) r_144_13 rfl rfl rfl ?_
        refine gx_ic (P := 5 ≤ 3) r_144_14 (rfl) (fun h14 => ?_) (fun h14 => ?_)
        · omega
        · refine gx_st (L' := [(2, 192), (0, x), (0, y), (0, 3)]) (S' := [(2, 192)]) r_144_17 rfl rfl rfl ?_
          refine gx_gf (x := 204) 2 r_144_18 (rfl) (ty_192 hT) ⟨by decide, rfl, by decide, by decide⟩ rfl (fun _ => by omega) (by show m5 192 20 = _; rw [e_m5, nu_no (by decide), e_m4, nu_no (by decide), e_m3, nu_no (by decide), e_m2, nu_ne (by decide), e_m1, nu_ne (by decide)]; exact pin_at hp (t := 204) rfl (by decide)) ?_
          refine gx_st (L' := [(2, 192), (0, x), (0, y), (0, 3)]) (S' := [(0, 3), (2, 204)]) r_144_21 rfl rfl rfl ?_
          refine gx_st (L' := [(2, 192), (0, x), (0, y), (0, 3)]) (S' := [(0, 0), (0, 3), (2, 204)]) r_144_22 rfl rfl rfl ?_
          obtain ⟨m6, e_m6⟩ : ∃ z, z = nu_up m5 204 3 0 := ⟨_, rfl⟩
          refine gx_is (n := 3) (x := 0) r_144_23 (rfl) (by omega) (ty_204 hT) (rfl) ⟨rfl, by decide⟩ e_m6.symm ?_
          refine gx_li (z := 4) (L' := [(2, 192), (0, x), (0, y), (0, 4)]) r_144_24 rfl (w32_eq (by omega) (by omega) (by omega)) rfl ?_
          refine gx_st (L' := [(2, 192), (0, x), (0, y), (0, 4)]) (S' := []) r_144_27 rfl rfl rfl ?_
          refine gx_st (L' := [(2, 192), (0, x), (0, y), (0, 4)]) (S' := [(0, 4)]) r_144_12 rfl rfl rfl ?_
          refine gx_st (L' := [(2, 192), (0, x), (0, y), (0, 4)]) (S' := [(0, 5), (0, 4)]) r_144_13 rfl rfl rfl ?_
          refine gx_ic (P := 5 ≤ 4) r_144_14 (rfl) (fun h14 => ?_) (fun h14 => ?_)
          · omega
          · refine gx_st (L' := [(2, 192), (0, x), (0, y), (0, 4)]) (S' := [(2, 192)]) r_144_17 rfl rfl rfl ?_
            refine gx_gf (x := 204) 2 r_144_18 (rfl) (ty_192 hT) ⟨by decide, rfl, by decide, by decide⟩ rfl (fun _ => by omega) (by show m6 192 20 = _; rw [e_m6, nu_no (by decide), e_m5, nu_no (by decide), e_m4, nu_no (by decide), e_m3, nu_no (by decide), e_m2, nu_ne (by decide), e_m1, nu_ne (by decide)]; exact pin_at hp (t := 204) rfl (by decide)) ?_
            refine gx_st (L' := [(2, 192), (0, x), (0, y), (0, 4)]) (S' := [(0, 4), (2, 204)]) r_144_21 rfl rfl rfl ?_
            refine gx_st (L' := [(2, 192), (0, x), (0, y), (0, 4)]) (S' := [(0, 0), (0, 4), (2, 204)]) r_144_22 rfl rfl rfl ?_
            obtain ⟨m7, e_m7⟩ : ∃ z, z = nu_up m6 204 4 0 := ⟨_, rfl⟩
            refine gx_is (n := 4) (x := 0) r_144_23 (rfl) (by omega) (ty_204 hT) (rfl) ⟨rfl, by decide⟩ e_m7.symm ?_
            refine gx_li (z := 5) (L' := [(2, 192), (0, x), (0, y), (0, 5)]) r_144_24 rfl (w32_eq (by omega) (by omega) (by omega)) rfl ?_
            refine gx_st (L' := [(2, 192), (0, x), (0, y), (0, 5)]) (S' := []) r_144_27 rfl rfl rfl ?_
            refine gx_st (L' := [(2, 192), (0, x), (0, y), (0, 5)]) (S' := [(0, 5)]) r_144_12 rfl rfl rfl ?_
            refine gx_st (L' := [(2, 192), (0, x), (0, y), (0, 5)]) (S' := [(0, 5), (0, 5)]) r_144_13 rfl rfl rfl ?_
            refine gx_ic (P := 5 ≤ 5) r_144_14 (rfl) (fun h14 => ?_) (fun h14 => ?_)
            · refine gx_st (L' := [(2, 192), (0, x), (0, y), (0, 5)]) (S' := [(2, 192)]) r_144_30 rfl rfl rfl ?_
              refine gx_st (L' := [(2, 192), (0, x), (0, y), (0, 5)]) (S' := [(0, x), (2, 192)]) r_144_31 rfl rfl rfl ?_
              refine gx_st (L' := [(2, 192), (0, x), (0, y), (0, 5)]) (S' := [(0, y), (0, x), (2, 192)]) r_144_32 rfl rfl rfl ?_
              have fg : FrG m m7 := fun p i x1 x2 x3 => by rw [e_m7, nu_x (by omega), e_m6, nu_x (by omega), e_m5, nu_x (by omega), e_m4, nu_x (by omega), e_m3, nu_x (by omega), e_m2, nu_x (by omega), e_m1, nu_x (by omega)]
              have pg : PinR m7 := pin_g hp fg
              have eg : EW nt m7 w := ew_e hE (fun i => fg 193 i (by omega) (by omega) (by omega)) (fun i _ _ => fg 192 i (by omega) (by omega) (by omega))
              have g21 : m7 192 21 = -1 := by rw [e_m7, nu_no (by decide), e_m6, nu_no (by decide), e_m5, nu_no (by decide), e_m4, nu_no (by decide), e_m3, nu_no (by decide), e_m2, nu_ne (by decide), e_m1, nu_at]
              have g22 : m7 192 22 = -1 := by rw [e_m7, nu_no (by decide), e_m6, nu_no (by decide), e_m5, nu_no (by decide), e_m4, nu_no (by decide), e_m3, nu_no (by decide), e_m2, nu_at]
              have gc0 : m7 204 0 = 0 := by rw [e_m7, nu_ne (by decide), e_m6, nu_ne (by decide), e_m5, nu_ne (by decide), e_m4, nu_ne (by decide), e_m3, nu_at]
              have gc1 : m7 204 1 = 0 := by rw [e_m7, nu_ne (by decide), e_m6, nu_ne (by decide), e_m5, nu_ne (by decide), e_m4, nu_at]
              have gc2 : m7 204 2 = 0 := by rw [e_m7, nu_ne (by decide), e_m6, nu_ne (by decide), e_m5, nu_at]
              have gc3 : m7 204 3 = 0 := by rw [e_m7, nu_ne (by decide), e_m6, nu_at]
              have gc4 : m7 204 4 = 0 := by rw [e_m7, nu_at]
              refine gx_cv (nx := 36) (S2 := []) (y_134 hT pg eg hs) r_144_33 rfl rfl rfl rfl rfl (rcv_v rfl (ty_192 hT) (by decide) rfl (by decide)) rfl (by decide) rfl (fun n33 q33 => ?_)
              obtain ⟨r0, f0⟩ := q33
              show GX T 6 144 36 [(2, 192), (0, x), (0, y), (0, 5)] [] n33 (RV (fun m1 => RunP nt m1 w D (m 203) s0 n ∧ FrG m m1))
              refine gx_st (L' := [(2, 192), (0, x), (0, y), (0, 5)]) (S' := [(0, 0)]) r_144_36 rfl rfl rfl ?_
              refine gx_st (L' := [(2, 192), (0, x), (0, y), (0, 0)]) (S' := []) r_144_37 rfl rfl rfl ?_
              refine gf_l hT hp hB hE hP eD hD hA hn hn12 hS h3 hnt (n + 1) 0 n33 (by omega) (by omega) (frg_tr fg (fun p i x1 _ _ => f0 p i (by omega))) ⟨fun h hh => ?_, fun h hh => absurd hh (Nat.not_lt_zero _), ?_, ?_, fun b hb => ?_⟩
              · have e : h = 0 := by omega
                rw [e]; exact r0
              · rw [f0 192 21 (by omega)]; exact g21
              · rw [f0 192 22 (by omega), g22]; exact hs.2.2.2.2.2.2.2.2.symm
              · rw [f0 204 b (by omega)]
                have hk6 : b = 0 ∨ b = 1 ∨ b = 2 ∨ b = 3 ∨ b = 4 := by omega
                rcases hk6 with rfl | rfl | rfl | rfl | rfl
                · exact gc0
                · exact gc1
                · exact gc2
                · exact gc3
                · exact gc4
            · omega
theorem y_145 (hT : TT T) (hp : PinR m) {w : Wd} (hB : WB w) {nt : Int} (hE : EW nt m w) (hP : WP w) {D : Nat → Nat → Int} (eD : ∀ a b : Nat, a < 7 → b < 7 → m 199 (7 * a + b) = D a b) (hD : WyD w D) (hA : ∀ h : Nat, h < 12 → 0 ≤ m 203 h ∧ m 203 h ≤ 16) {n : Nat} (hn : w 1 = (n : Int)) (hn12 : n ≤ 12) (hS : SB w (beginF w 0 (w 47)) 0) (hnt : NtS nt w (beginF w 0 (w 47))) : GX T 7 145 0 [(2, 192), (9, 0)] [] m (RV (fun m1 => RunP nt m1 w D (m 203) (beginF w 0 (w 47)) n ∧ FrG m m1)) := by
  refine gx_st (L' := [(2, 192), (9, 0)]) (S' := [(2, 192)]) r_145_0 rfl rfl rfl ?_
  refine gx_gf (x := 193) 2 r_145_1 (rfl) (ty_192 hT) ⟨by decide, rfl, by decide, by decide⟩ rfl (fun _ => by omega) (pin_at hp (t := 193) rfl (by decide)) ?_
  refine gx_st (L' := [(2, 192), (9, 0)]) (S' := [(0, 7), (2, 193)]) r_145_4 rfl rfl rfl ?_
  refine gx_ia (n := 7) (x := (w 7)) r_145_6 (rfl) (ty_193 hT) (rfl) ⟨rfl, by decide⟩ (hE.1 7 (by decide) (by decide) (by decide)) ?_
  refine gx_i0 (P := (w 7) ≤ 0) r_145_7 (rfl) (fun h7 => ?_) (fun h7 => ?_)
  · refine gx_st (L' := [(2, 192), (9, 0)]) (S' := [(0, 0)]) r_145_14 rfl rfl rfl ?_
    refine gx_st (L' := [(2, 192), (0, 0)]) (S' := []) r_145_15 rfl rfl rfl ?_
    have hs0 := begS_of w 0 (w 47)
    have h3 : beginF w 0 (w 47) 3 ≤ 20 := (show (0 : Int) ≤ 20 by decide)
    have hs2 : BegS w (beginF w 0 (w 47)) (-1) (-1) := by rw [if_neg (by omega), if_neg (by omega)] at hs0; exact hs0
    refine gx_st (L' := [(2, 192), (0, 0)]) (S' := [(2, 192)]) r_145_16 rfl rfl rfl ?_
    refine gx_st (L' := [(2, 192), (0, 0)]) (S' := [(0, 0), (2, 192)]) r_145_17 rfl rfl rfl ?_
    refine gx_i0 (P := 0 = 0) r_145_18 (rfl) (fun h18 => ?_) (fun h18 => ?_)
    · refine gx_st (L' := [(2, 192), (0, 0)]) (S' := [(0, (-1)), (2, 192)]) r_145_29 rfl rfl rfl ?_
      refine gx_st (L' := [(2, 192), (0, 0)]) (S' := [(0, 0), (0, (-1)), (2, 192)]) r_145_30 rfl rfl rfl ?_
      refine gx_i0 (P := 0 = 0) r_145_31 (rfl) (fun h31 => ?_) (fun h31 => ?_)
      · refine gx_st (L' := [(2, 192), (0, 0)]) (S' := [(0, (-1)), (0, (-1)), (2, 192)]) r_145_38 rfl rfl rfl ?_
        refine gx_cv (nx := 42) (S2 := []) (y_144 hT hp hB hE hP eD hD hA hn hn12 hS h3 hnt (x := (-1)) (y := (-1)) hs2) r_145_39 rfl rfl rfl rfl rfl (rcv_v rfl (ty_192 hT) (by decide) rfl (by decide)) rfl (by decide) rfl (fun n39 q39 => ?_)
        have hq := q39
        show GX T 7 145 42 [(2, 192), (0, 0)] [] n39 (RV (fun m1 => RunP nt m1 w D (m 203) (beginF w 0 (w 47)) n ∧ FrG m m1))
        exact gx_rt r_145_42 rfl rfl ⟨rfl, hq⟩
      · omega
    · omega
  · refine gx_st (L' := [(2, 192), (9, 0)]) (S' := [(0, 1)]) r_145_10 rfl rfl rfl ?_
    refine gx_st (L' := [(2, 192), (9, 0)]) (S' := [(0, 1)]) r_145_11 rfl rfl rfl ?_
    refine gx_st (L' := [(2, 192), (0, 1)]) (S' := []) r_145_15 rfl rfl rfl ?_
    have hs0 := begS_of w 0 (w 47)
    have h3 : beginF w 0 (w 47) 3 ≤ 20 := (show (0 : Int) ≤ 20 by decide)
    have hs1 : BegS w (beginF w 0 (w 47)) (w (47 + 2 * 0)) 0 := by rw [if_pos (by omega), if_pos (by omega)] at hs0; exact hs0
    refine gx_st (L' := [(2, 192), (0, 1)]) (S' := [(2, 192)]) r_145_16 rfl rfl rfl ?_
    refine gx_st (L' := [(2, 192), (0, 1)]) (S' := [(0, 1), (2, 192)]) r_145_17 rfl rfl rfl ?_
    refine gx_i0 (P := 1 = 0) r_145_18 (rfl) (fun h18 => ?_) (fun h18 => ?_)
    · omega
    · refine gx_st (L' := [(2, 192), (0, 1)]) (S' := [(2, 192), (2, 192)]) r_145_21 rfl rfl rfl ?_
      refine gx_st (L' := [(2, 192), (0, 1)]) (S' := [(0, 0), (2, 192), (2, 192)]) r_145_22 rfl rfl rfl ?_
      refine gx_ci (nx := 26) (S2 := [(2, 192)]) (l_99 hT hp (k := 0) (by decide)) r_145_23 rfl rfl rfl rfl rfl (rcv_v rfl (ty_192 hT) (by decide) rfl (by decide)) rfl (by decide) rfl (fun x23 n23 q23 => ?_)
      obtain ⟨e_x23, z_x23⟩ := q23
      obtain rfl := z_x23.symm
      rw [e_x23, (hE.2.2.2.2.2.2.2.2 0 (by decide)).1]
      show GX T 7 145 26 [(2, 192), (0, 1)] [(0, (w (47 + 2 * 0))), (2, 192)] m (RV (fun m1 => RunP nt m1 w D (m 203) (beginF w 0 (w 47)) n ∧ FrG m m1))
      refine gx_st (L' := [(2, 192), (0, 1)]) (S' := [(0, (w (47 + 2 * 0))), (2, 192)]) r_145_26 rfl rfl rfl ?_
      refine gx_st (L' := [(2, 192), (0, 1)]) (S' := [(0, 1), (0, (w (47 + 2 * 0))), (2, 192)]) r_145_30 rfl rfl rfl ?_
      refine gx_i0 (P := 1 = 0) r_145_31 (rfl) (fun h31 => ?_) (fun h31 => ?_)
      · omega
      · refine gx_st (L' := [(2, 192), (0, 1)]) (S' := [(0, 0), (0, (w (47 + 2 * 0))), (2, 192)]) r_145_34 rfl rfl rfl ?_
        refine gx_st (L' := [(2, 192), (0, 1)]) (S' := [(0, 0), (0, (w (47 + 2 * 0))), (2, 192)]) r_145_35 rfl rfl rfl ?_
        refine gx_cv (nx := 42) (S2 := []) (y_144 hT hp hB hE hP eD hD hA hn hn12 hS h3 hnt (x := (w (47 + 2 * 0))) (y := 0) hs1) r_145_39 rfl rfl rfl rfl rfl (rcv_v rfl (ty_192 hT) (by decide) rfl (by decide)) rfl (by decide) rfl (fun n39 q39 => ?_)
        have hq := q39
        show GX T 7 145 42 [(2, 192), (0, 1)] [] n39 (RV (fun m1 => RunP nt m1 w D (m 203) (beginF w 0 (w 47)) n ∧ FrG m m1))
        exact gx_rt r_145_42 rfl rfl ⟨rfl, hq⟩
end RUNR
