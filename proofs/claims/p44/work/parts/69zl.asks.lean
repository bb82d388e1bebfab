/-! the reference asked -/
theorem ior_0 {x : Int} (h : -2147483648 ≤ x ∧ x ≤ 2147483647) : ior x 0 = x := by
  show (BitVec.ofInt 32 x ||| BitVec.ofInt 32 0).toInt = x
  rw [show BitVec.ofInt 32 0 = 0#32 from rfl, BitVec.or_zero, BitVec.toInt_ofInt]
  exact Int.bmod_eq_of_le (by omega) (by omega)
/-- the cells of a world that an isle tells, and nothing else -/
def pw (w : Nat → Int) : Nat → Int := fun i => if i < 57 ∧ ¬ i = 8 then w i else 0
theorem pw_at {w : Nat → Int} {i : Nat} (h : i < 57) (h8 : ¬ i = 8) : pw w i = w i := if_pos ⟨h, h8⟩
theorem pw_ag (w : Nat → Int) : AgW w (pw w) := fun _ h h8 => pw_at h h8
theorem pw_eq {w w2 : Nat → Int} (e : AgW w w2) : pw w2 = pw w := funext fun i => by
  unfold pw
  by_cases c : i < 57 ∧ ¬ i = 8
  · rw [if_pos c, if_pos c]; exact e i c.1 c.2
  · rw [if_neg c, if_neg c]
theorem wyD_w {w w2 : Nat → Int} {D : Nat → Nat → Int} (e : AgW w w2) (h : WyD w D) : WyD w2 D := by
  unfold WyD at h ⊢
  rw [adjW_w e, e 0 (by decide) (by decide)]; exact h
theorem wyD_pw {w : Nat → Int} {D : Nat → Nat → Int} : WyD (pw w) D ↔ WyD w D := ⟨wyD_w (fun i h h8 => (pw_at h h8).symm), wyD_w (pw_ag w)⟩
/-- nothing is taken away, nothing put in its place -/
def AsF (m : Mm) : Prop := m 192 23 = -1 ∧ m 192 24 = -1 ∧ m 192 25 = 0 ∧ m 192 26 = 0 ∧ m 192 27 = -1
/-- the acts by the hour -/
def ActA (m : Mm) (w : Nat → Int) : Prop := (∀ i : Nat, i < 12 → (i : Int) < w 8 → ∀ h : Nat, h < 12 → w (57 + i) / 100 = (h : Int) → m 203 h = w (57 + i) % 100) ∧ (∀ h : Nat, h < 12 → ¬ HasA w (h : Int) → m 203 h = 0)
theorem ew_as {m : Mm} (hm : Gam m) (h : AsF m) : EW (-1) m (pw (m 193)) := by
  obtain ⟨a, b, c, d, e⟩ := h
  have g10 := gb_193_10 hm
  refine ⟨fun i x y z => (pw_at (by omega) z).symm, ?_, ?_, fun t ht => (pw_at (by omega) (by omega)).symm, a, fun t ht _ => (pw_at (by omega) (by omega)).symm, fun t ht z => by omega, fun v hv => ⟨(pw_at (by omega) (by omega)).symm, fun _ => (pw_at (by omega) (by omega)).symm, fun z => by omega⟩, fun b hb => ⟨(pw_at (by omega) (by omega)).symm, ?_⟩⟩
  · rw [d, if_pos rfl]; exact (pw_at (by decide) (by decide)).symm
  · rw [c, ior_0 g10]; exact (pw_at (by decide) (by decide)).symm
  · rw [e, if_neg (by omega)]; exact (pw_at (by omega) (by omega)).symm
/-- both sides' acts by the hour are the same -/
theorem acts_eq {m m1 : Mm} {w : Nat → Int} (r : IsA m 22 w) (h : ActA m1 w) : ∀ k : Nat, k < 12 → m1 203 k = m 23 k := by
  intro k hk
  by_cases c : HasA w (k : Int)
  · obtain ⟨i, i1, i2, i3⟩ := c
    rw [h.1 i i1 i2 k hk i3]; exact (r.2.2.1 i i1 i2 k hk i3).symm
  · rw [h.2 k hk c]; exact (r.2.2.2 k hk c).symm
theorem acts_in {m : Mm} {w : Nat → Int} (k : WOK w) (h : ActA m w) : ∀ q : Nat, q < 12 → 0 ≤ m 203 q ∧ m 203 q ≤ 16 := by
  intro q hq
  by_cases c : HasA w (q : Int)
  · obtain ⟨i, i1, i2, i3⟩ := c
    rw [h.1 i i1 i2 q hq i3]
    have := k.2.1 i i1 i2
    omega
  · rw [h.2 q hq c]; decide
-- the acts may be told by any row that is the same as far as the hours go
theorem run_cA {w s0 : Wd} {D : Nat → Nat → Int} {A B : Nat → Int} : ∀ k : Nat, (∀ h : Nat, h < k → A h = B h) → runF w D A s0 k = runF w D B s0 k := by
  intro k
  induction k with
  | zero => intro _; rfl
  | succ k ih =>
    intro e
    show (hourF w D (k : Int) (A k) (runF w D A s0 k)).1 = (hourF w D (k : Int) (B k) (runF w D B s0 k)).1
    rw [ih (fun h hh => e h (by omega)), e k (by omega)]
theorem deed_cA {w s0 : Wd} {D : Nat → Nat → Int} {A B : Nat → Int} {k : Nat} (e : ∀ h : Nat, h ≤ k → A h = B h) : deedF w D A s0 k = deedF w D B s0 k := by
  unfold deedF
  rw [run_cA k (fun h hh => e h (by omega)), e k (Nat.le_refl _)]
theorem car_cA {f f2 g g2 : Nat → Int} {b : Int} : ∀ k : Nat, (∀ h : Nat, h < k → f h = f2 h ∧ g h = g2 h) → carN f g b k = carN f2 g2 b k := by
  intro k
  induction k with
  | zero => intro _; rfl
  | succ k ih =>
    intro e
    show (if f k = 3 ∧ g k = b then carN f g b k + 1 else carN f g b k) = (if f2 k = 3 ∧ g2 k = b then carN f2 g2 b k + 1 else carN f2 g2 b k)
    rw [ih (fun h hh => e h (by omega)), (e k (by omega)).1, (e k (by omega)).2]
theorem eat_cA {f f2 : Nat → Int} : ∀ k : Nat, (∀ h : Nat, h < k → f h = f2 h) → eatN f k = eatN f2 k := by
  intro k
  induction k with
  | zero => intro _; rfl
  | succ k ih =>
    intro e
    show (if f k = 2 then eatN f k + 1 else eatN f k) = (if f2 k = 2 then eatN f2 k + 1 else eatN f2 k)
    rw [ih (fun h hh => e h (by omega)), e k (by omega)]
theorem end_cA {g g2 : Nat → Int} : ∀ k : Nat, (∀ h : Nat, h ≤ k → g h = g2 h) → endF g k = endF g2 k := by
  intro k
  induction k with
  | zero => intro _; rfl
  | succ k ih =>
    intro e
    show (if ¬ g k = -1 ∧ g (k + 1) = -1 then (k : Int) else endF g k) = (if ¬ g2 k = -1 ∧ g2 (k + 1) = -1 then (k : Int) else endF g2 k)
    rw [ih (fun h hh => e h (by omega)), e k (by omega), e (k + 1) (Nat.le_refl _)]
theorem runp_cA {nt : Int} {m : Mm} {w s0 : Wd} {D : Nat → Nat → Int} {A B : Nat → Int} {n : Nat} (r : RunP nt m w D A s0 n) (e : ∀ h : Nat, h < n → A h = B h) : RunP nt m w D B s0 n := by
  obtain ⟨r1, r2, r3, r4, r5⟩ := r
  have q : ∀ h : Nat, h ≤ n → runF w D A s0 h = runF w D B s0 h := fun h hh => run_cA h (fun i hi => e i (by omega))
  refine ⟨fun h hh => by rw [← q h hh]; exact r1 h hh, fun h hh => by rw [r2 h hh]; exact deed_cA (fun i hi => e i (by omega)), by rw [r3]; exact end_cA n (fun h hh => by rw [q h hh]), by rw [r4, q n (Nat.le_refl _)], fun b hb => ?_⟩
  rw [r5 b hb, car_cA n (fun h hh => ⟨deed_cA (fun i hi => e i (by omega)), by rw [q h (by omega)]⟩)]
theorem runp_e {nt : Int} {m m1 : Mm} {w s0 : Wd} {D : Nat → Nat → Int} {A : Nat → Int} {n : Nat} (r : RunP nt m w D A s0 n) (e0 : ∀ i : Nat, m1 200 i = m 200 i) (e1 : ∀ i : Nat, m1 201 i = m 201 i) (e4 : ∀ i : Nat, m1 204 i = m 204 i) (e2 : m1 192 21 = m 192 21) (e3 : m1 192 22 = m 192 22) : RunP nt m1 w D A s0 n :=
  ⟨fun h hh => row_e (r.1 h hh) (fun i _ _ => e0 i), fun h hh => (e1 h).trans (r.2.1 h hh), e2.trans r.2.2.1, e3.trans r.2.2.2.1, fun b hb => (e4 b).trans (r.2.2.2.2 b hb)⟩
/-- what the reference has when it was asked: the ride as the world and the acts tell -/
def AskR (m m1 : Mm) : Prop := ∃ D : Nat → Nat → Int, WyD (m 193) D ∧ ActA m1 (m 193) ∧ RunP (-1) m1 (pw (m 193)) D (m1 203) (beginF (pw (m 193)) 0 (pw (m 193) 47)) (m 193 1).toNat
section ASKR
variable {T : List Kd} {m : Mm}
theorem as_l {p0 : Mm} {c : Nat} (hT : TT T) (hp : PinR p0) (hc : p0 193 8 = (c : Int)) (hc12 : c ≤ 12) (hb : ∀ k : Nat, k < 12 → 0 ≤ p0 193 (57 + k) ∧ p0 193 (57 + k) ≤ 1199) (hw : WOK (p0 193)) {Q : AV → Mm → Prop} (hout : ∀ p : Mm, (∀ q i : Nat, ¬ q = 203 → p q i = p0 q i) → ActA p (p0 193) → Q (9, 0) p) : ∀ (N k : Nat) (p : Mm), c - k < N → k ≤ c → (∀ q i : Nat, ¬ q = 203 → p q i = p0 q i) → (∀ i : Nat, i < k → ∀ h : Nat, h < 12 → p0 193 (57 + i) / 100 = (h : Int) → p 203 h = p0 193 (57 + i) % 100) → (∀ h : Nat, h < 12 → (∀ i : Nat, i < k → ¬ p0 193 (57 + i) / 100 = (h : Int)) → p 203 h = 0) → GX T 3 143 82 [(2, 192), (0, (k : Int))] [] p Q := by
  intro N
  induction N with
  | zero => intro k p hN; exact absurd hN (Nat.not_lt_zero _)
  | succ N ih =>
    intro k p hN hk hf i1 i2
    have pp : PinR p := fun o i hq => (hf o i (fun z => by rw [z] at hq; exact hq rfl)).trans (hp o i hq)
    refine gx_st (L' := [(2, 192), (0, (k : Int))]) (S' := [(0, (k : Int))]) r_143_82 rfl rfl rfl ?_
    refine gx_st (L' := [(2, 192), (0, (k : Int))]) (S' := [(2, 192), (0, (k : Int))]) r_143_83 rfl rfl rfl ?_
    refine gx_gf (x := 193) 2 r_143_84 (rfl) (ty_192 hT) ⟨by decide, rfl, by decide, by decide⟩ rfl (fun _ => by omega) (pin_at pp (t := 193) rfl (by decide)) ?_
    refine gx_st (L' := [(2, 192), (0, (k : Int))]) (S' := [(0, 8), (2, 193), (0, (k : Int))]) r_143_87 rfl rfl rfl ?_
    refine gx_ia (n := 8) (x := (c : Int)) r_143_89 (rfl) (ty_193 hT) (rfl) ⟨rfl, by decide⟩ ((hf 193 8 (by decide)).trans hc) ?_
    refine gx_ic (P := (c : Int) ≤ (k : Int)) r_143_90 (rfl) (fun h90 => ?_) (fun h90 => ?_)
    · have hkc : k = c := by omega
      rw [hkc] at i1 i2
      exact gx_rt r_143_128 rfl rfl (hout p hf ⟨fun i x1 x2 h hh e => i1 i (by omega) h hh e, fun h hh x => i2 h hh (fun i hi e => x ⟨i, by omega, by omega, e⟩)⟩)
    · have hk12 : k < 12 := by omega
      have ba := hb k hk12
      obtain ⟨a, hav⟩ : ∃ a : Nat, p0 193 (57 + k) = (a : Int) := ⟨(p0 193 (57 + k)).toNat, by omega⟩
      have hq : (a : Int) / 100 = ((a / 100 : Nat) : Int) := by omega
      refine gx_st (L' := [(2, 192), (0, (k : Int))]) (S' := [(2, 192)]) r_143_93 rfl rfl rfl ?_
      refine gx_gf (x := 203) 2 r_143_94 (rfl) (ty_192 hT) ⟨by decide, rfl, by decide, by decide⟩ rfl (fun _ => by omega) (pin_at pp (t := 203) rfl (by decide)) ?_
      refine gx_st (L' := [(2, 192), (0, (k : Int))]) (S' := [(2, 192), (2, 203)]) r_143_97 rfl rfl rfl ?_
      refine gx_gf (x := 193) 2 r_143_98 (rfl) (ty_192 hT) ⟨by decide, rfl, by decide, by decide⟩ rfl (fun _ => by omega) (pin_at pp (t := 193) rfl (by decide)) ?_
      refine gx_st (L' := [(2, 192), (0, (k : Int))]) (S' := [(0, 57), (2, 193), (2, 203)]) r_143_101 rfl rfl rfl ?_
      refine gx_st (L' := [(2, 192), (0, (k : Int))]) (S' := [(0, (k : Int)), (0, 57), (2, 193), (2, 203)]) r_143_103 rfl rfl rfl ?_
      refine gx_ar (L' := [(2, 192), (0, (k : Int))]) (S' := [(2, 193), (2, 203)]) (t := 0) (e := w32 (57 + (k : Int))) (z := (k : Int) + 57) r_143_104 rfl rfl rfl (w32_eq (by omega) (by omega) (by omega)) ?_
      refine gx_ia (n := 57 + k) (x := (a : Int)) r_143_105 (rfl) (ty_193 hT) (by omega) ⟨rfl, by omega⟩ ((hf 193 (57 + k) (by decide)).trans hav) ?_
      refine gx_st (L' := [(2, 192), (0, (k : Int))]) (S' := [(0, 100), (0, (a : Int)), (2, 203)]) r_143_106 rfl rfl rfl ?_
      refine gx_dv (z := ((a : Int) / 100)) r_143_108 (by decide) (w32_td (by omega) rfl (by omega) (by omega)) ?_
      refine gx_st (L' := [(2, 192), (0, (k : Int))]) (S' := [(2, 192), (0, ((a : Int) / 100)), (2, 203)]) r_143_109 rfl rfl rfl ?_
      refine gx_gf (x := 193) 2 r_143_110 (rfl) (ty_192 hT) ⟨by decide, rfl, by decide, by decide⟩ rfl (fun _ => by omega) (pin_at pp (t := 193) rfl (by decide)) ?_
      refine gx_st (L' := [(2, 192), (0, (k : Int))]) (S' := [(0, 57), (2, 193), (0, ((a : Int) / 100)), (2, 203)]) r_143_113 rfl rfl rfl ?_
      refine gx_st (L' := [(2, 192), (0, (k : Int))]) (S' := [(0, (k : Int)), (0, 57), (2, 193), (0, ((a : Int) / 100)), (2, 203)]) r_143_115 rfl rfl rfl ?_
      refine gx_ar (L' := [(2, 192), (0, (k : Int))]) (S' := [(2, 193), (0, ((a : Int) / 100)), (2, 203)]) (t := 0) (e := w32 (57 + (k : Int))) (z := (k : Int) + 57) r_143_116 rfl rfl rfl (w32_eq (by omega) (by omega) (by omega)) ?_
      refine gx_ia (n := 57 + k) (x := (a : Int)) r_143_117 (rfl) (ty_193 hT) (by omega) ⟨rfl, by omega⟩ ((hf 193 (57 + k) (by decide)).trans hav) ?_
      refine gx_st (L' := [(2, 192), (0, (k : Int))]) (S' := [(0, 100), (0, (a : Int)), (0, ((a : Int) / 100)), (2, 203)]) r_143_118 rfl rfl rfl ?_
      refine gx_rm (z := ((a : Int) % 100)) r_143_120 (by decide) (tm_eq (by omega) rfl) ?_
      obtain ⟨m1, e_m1⟩ : ∃ z, z = nu_up p 203 (a / 100) (((a : Int) % 100)) := ⟨_, rfl⟩
      refine gx_is (n := a / 100) (x := ((a : Int) % 100)) r_143_121 (rfl) (by omega) (ty_203 hT) (by omega) ⟨rfl, by omega⟩ e_m1.symm ?_
      refine gx_li (z := (k : Int) + 1) (L' := [(2, 192), (0, (k : Int) + 1)]) r_143_122 rfl (w32_eq (by omega) (by omega) (by omega)) rfl ?_
      refine gx_st (L' := [(2, 192), (0, (k : Int) + 1)]) (S' := []) r_143_125 rfl rfl rfl ?_
      rw [show (k : Int) + 1 = ((k + 1 : Nat) : Int) from rfl]
      refine ih (k + 1) m1 (by omega) (by omega) (fun q i x => by rw [e_m1, nu_no x]; exact hf q i x) (fun i hi h hh e => ?_) (fun h hh e => ?_)
      · rw [e_m1]
        by_cases ei : i = k
        · rw [ei, hav] at e ⊢
          have eh : h = a / 100 := by omega
          rw [eh, nu_at]
        · have ne : ¬ h = a / 100 := fun z => by
            have y := hw.2.2 i k (by omega) hk12 (by omega)
            rw [hav] at y
            omega
          rw [nu_ne ne]
          exact i1 i (by omega) h hh e
      · have ne : ¬ h = a / 100 := fun z => by
          have y := e k (by omega)
          rw [hav] at y
          omega
        rw [e_m1, nu_ne ne]
        exact i2 h hh (fun i hi => e i (by omega))
theorem v_143 (hT : TT T) (hp : PinR m) (hm : Gam m) (hx : Ext m) : GX T 3 143 0 [(2, 192), (9, 0)] [] m (RV (fun m1 => AsF m1 ∧ ActA m1 (m 193))) := by
  refine gx_st (L' := [(2, 192), (9, 0)]) (S' := [(2, 192)]) r_143_0 rfl rfl rfl ?_
  refine gx_cv (nx := 4) (S2 := []) (x_124 hT hm hx) r_143_1 rfl rfl rfl rfl rfl (rcv_v rfl (ty_192 hT) (by decide) rfl (by decide)) rfl (by decide) rfl (fun n1 q1 => ?_)
  obtain ⟨hm1, hx1, f1, _⟩ := q1
  have hp1 : PinR n1 := PinR_fr f1 (by decide) hp
  have e193 : ∀ i : Nat, n1 193 i = m 193 i := Fr_cell (o := 193) f1 (by decide) (by decide)
  show GX T 3 143 4 [(2, 192), (9, 0)] [] n1 (RV (fun m1 => AsF m1 ∧ ActA m1 (m 193)))
  refine gx_st (L' := [(2, 192), (9, 0)]) (S' := [(2, 192)]) r_143_4 rfl rfl rfl ?_
  refine gx_st (L' := [(2, 192), (9, 0)]) (S' := [(0, (-1)), (2, 192)]) r_143_5 rfl rfl rfl ?_
  obtain ⟨m1, e_m1⟩ : ∃ z, z = nu_up n1 192 23 (-1) := ⟨_, rfl⟩
  refine gx_pf (x := (-1)) 0 r_143_6 (rfl) (ty_192 hT) ⟨by decide, rfl, by decide, by decide⟩ rfl (fun z => absurd z (by decide)) (fun z => absurd z (by decide)) e_m1.symm ?_
  refine gx_st (L' := [(2, 192), (9, 0)]) (S' := [(2, 192)]) r_143_9 rfl rfl rfl ?_
  refine gx_st (L' := [(2, 192), (9, 0)]) (S' := [(0, (-1)), (2, 192)]) r_143_10 rfl rfl rfl ?_
  obtain ⟨m2, e_m2⟩ : ∃ z, z = nu_up m1 192 24 (-1) := ⟨_, rfl⟩
  refine gx_pf (x := (-1)) 0 r_143_11 (rfl) (ty_192 hT) ⟨by decide, rfl, by decide, by decide⟩ rfl (fun z => absurd z (by decide)) (fun z => absurd z (by decide)) e_m2.symm ?_
  refine gx_st (L' := [(2, 192), (9, 0)]) (S' := [(2, 192)]) r_143_14 rfl rfl rfl ?_
  refine gx_st (L' := [(2, 192), (9, 0)]) (S' := [(0, 0), (2, 192)]) r_143_15 rfl rfl rfl ?_
  obtain ⟨m3, e_m3⟩ : ∃ z, z = nu_up m2 192 25 0 := ⟨_, rfl⟩
  refine gx_pf (x := 0) 0 r_143_16 (rfl) (ty_192 hT) ⟨by decide, rfl, by decide, by decide⟩ rfl (fun z => absurd z (by decide)) (fun z => absurd z (by decide)) e_m3.symm ?_
  refine gx_st (L' := [(2, 192), (9, 0)]) (S' := [(2, 192)]) r_143_19 rfl rfl rfl ?_
  refine gx_st (L' := [(2, 192), (9, 0)]) (S' := [(0, 0), (2, 192)]) r_143_20 rfl rfl rfl ?_
  obtain ⟨m4, e_m4⟩ : ∃ z, z = nu_up m3 192 26 0 := ⟨_, rfl⟩
  refine gx_pf (x := 0) 0 r_143_21 (rfl) (ty_192 hT) ⟨by decide, rfl, by decide, by decide⟩ rfl (fun z => absurd z (by decide)) (fun z => absurd z (by decide)) e_m4.symm ?_
  refine gx_st (L' := [(2, 192), (9, 0)]) (S' := [(2, 192)]) r_143_24 rfl rfl rfl ?_
  refine gx_st (L' := [(2, 192), (9, 0)]) (S' := [(0, (-1)), (2, 192)]) r_143_25 rfl rfl rfl ?_
  obtain ⟨m5, e_m5⟩ : ∃ z, z = nu_up m4 192 27 (-1) := ⟨_, rfl⟩
  refine gx_pf (x := (-1)) 0 r_143_26 (rfl) (ty_192 hT) ⟨by decide, rfl, by decide, by decide⟩ rfl (fun z => absurd z (by decide)) (fun z => absurd z (by decide)) e_m5.symm ?_
  refine gx_st (L' := [(2, 192), (9, 0)]) (S' := [(2, 192)]) r_143_29 rfl rfl rfl ?_
  refine gx_st (L' := [(2, 192), (9, 0)]) (S' := [(0, (-1)), (2, 192)]) r_143_30 rfl rfl rfl ?_
  obtain ⟨m6, e_m6⟩ : ∃ z, z = nu_up m5 192 21 (-1) := ⟨_, rfl⟩
  refine gx_pf (x := (-1)) 0 r_143_31 (rfl) (ty_192 hT) ⟨by decide, rfl, by decide, by decide⟩ rfl (fun z => absurd z (by decide)) (fun z => absurd z (by decide)) e_m6.symm ?_
  refine gx_st (L' := [(2, 192), (9, 0)]) (S' := [(2, 192)]) r_143_34 rfl rfl rfl ?_
  refine gx_st (L' := [(2, 192), (9, 0)]) (S' := [(0, (-1)), (2, 192)]) r_143_35 rfl rfl rfl ?_
  obtain ⟨m7, e_m7⟩ : ∃ z, z = nu_up m6 192 22 (-1) := ⟨_, rfl⟩
  refine gx_pf (x := (-1)) 0 r_143_36 (rfl) (ty_192 hT) ⟨by decide, rfl, by decide, by decide⟩ rfl (fun z => absurd z (by decide)) (fun z => absurd z (by decide)) e_m7.symm ?_
  refine gx_st (L' := [(2, 192), (9, 0)]) (S' := [(0, 0)]) r_143_39 rfl rfl rfl ?_
  refine gx_st (L' := [(2, 192), (0, 0)]) (S' := []) r_143_40 rfl rfl rfl ?_
  refine gx_st (L' := [(2, 192), (0, 0)]) (S' := [(0, 0)]) r_143_41 rfl rfl rfl ?_
  refine gx_st (L' := [(2, 192), (0, 0)]) (S' := [(0, 5), (0, 0)]) r_143_42 rfl rfl rfl ?_
  refine gx_ic (P := 5 ≤ 0) r_143_43 (rfl) (fun h43 => ?_) (fun h43 => ?_)
  · omega
  · refine gx_st (L' := [(2, 192), (0, 0)]) (S' := [(2, 192)]) r_143_46 rfl rfl rfl ?_
    refine gx_gf (x := 204) 2 r_143_47 (rfl) (ty_192 hT) ⟨by decide, rfl, by decide, by decide⟩ rfl (fun _ => by omega) (by show m7 192 20 = _; rw [e_m7, nu_ne (by decide), e_m6, nu_ne (by decide), e_m5, nu_ne (by decide), e_m4, nu_ne (by decide), e_m3, nu_ne (by decide), e_m2, nu_ne (by decide), e_m1, nu_ne (by decide)]; exact pin_at hp1 (t := 204) rfl (by decide)) ?_
    refine gx_st (L' := [(2, 192), (0, 0)]) (S' := [(0, 0), (2, 204)]) r_143_50 rfl rfl rfl ?_
    refine gx_st (L' := [(2, 192), (0, 0)]) (S' := [(0, 0), (0, 0), (2, 204)]) r_143_51 rfl rfl rfl ?_
    obtain ⟨m8, e_m8⟩ : ∃ z, z = nu_up m7 204 0 0 := ⟨_, rfl⟩
    refine gx_is (n := 0) (x := 0) r_143_52 (rfl) (by omega) (ty_204 hT) (rfl) ⟨rfl, by decide⟩ e_m8.symm ?_
    refine gx_li (z := 1) (L' := [(2, 192), (0, 1)]) r_143_53 rfl (w32_eq (by omega) (by omega) (by omega)) rfl ?_
    refine gx_st (L' := [(2, 192), (0, 1)]) (S' := []) r_143_56 rfl rfl rfl ?_
    refine gx_st (L' := [(2, 192), (0, 1)]) (S' := [(0, 1)]) r_143_41 rfl rfl rfl ?_
    refine gx_st (L' := [(2, 192), (0, 1)]) (S' := [(0, 5), (0, 1)]) r_143_42 rfl rfl rfl ?_
    refine gx_ic (P := 5 ≤ 1) r_143_43 (rfl) (fun h43 => ?_) (fun h43 => ?_)
    · omega
    · refine gx_st (L' := [(2, 192), (0, 1)]) (S' := [(2, 192)]) r_143_46 rfl rfl rfl ?_
      refine gx_gf (x := 204) 2 r_143_47 (rfl) (ty_192 hT) ⟨by decide, rfl, by decide, by decide⟩ rfl (fun _ => by omega) (by show m8 192 20 = _; rw [e_m8, nu_no (by decide), e_m7, nu_ne (by decide), e_m6, nu_ne (by decide), e_m5, nu_ne (by decide), e_m4, nu_ne (by decide), e_m3, nu_ne (by decide), e_m2, nu_ne (by decide), e_m1, nu_ne (by decide)]; exact pin_at hp1 (t := 204) rfl (by decide)) ?_
      refine gx_st (L' := [(2, 192), (0, 1)]) (S' := [(0, 1), (2, 204)]) r_143_50 rfl rfl rfl ?_
      refine gx_st (L' := [(2, 192), (0, 1)]) (S' := [(0, 0), (0, 1), (2, 204)]) r_143_51 rfl rfl rfl ?_
      obtain ⟨m9, e_m9⟩ : ∃ z, z = nu_up m8 204 1 0 := ⟨_, rfl⟩
      refine gx_is (n := 1) (x := 0) r_143_52 (rfl) (by omega) (ty_204 hT) (rfl) ⟨rfl, by decide⟩ e_m9.symm ?_
      refine gx_li (z := 2) (L' := [(2, 192), (0, 2)]) r_143_53 rfl (w32_eq (by omega) (by omega) (by omega)) rfl ?_
      refine gx_st (L' := [(2, 192), (0, 2)]) (S' := []) r_143_56 rfl rfl rfl ?_
      refine gx_st (L' := [(2, 192), (0, 2)]) (S' := [(0, 2)]) r_143_41 rfl rfl rfl ?_
      refine gx_st (L' := [(2, 192), (0, 2)]) (S' := [(0, 5), (0, 2)]) r_143_42 rfl rfl rfl ?_
      refine gx_ic (P := 5 ≤ 2) r_143_43 (rfl) (fun h43 => ?_) (fun h43 => ?_)
      · omega
      · refine gx_st (L' := [(2, 192), (0, 2)]) (S' := [(2, 192)]) r_143_46 rfl rfl rfl ?_
        refine gx_gf (x := 204) 2 r_143_47 (rfl) (ty_192 hT) ⟨by decide, rfl, by decide, by decide⟩ rfl (fun _ => by omega) (by show m9 192 20 = _; rw [e_m9, nu_no (by decide), e_m8, nu_no (by decide), e_m7, nu_ne (by decide), e_m6, nu_ne (by decide), e_m5, nu_ne (by decide), e_m4, nu_ne (by decide), e_m3, nu_ne (by decide), e_m2, nu_ne (by decide), e_m1, nu_ne (by decide)]; exact pin_at hp1 (t := 204) rfl (by decide)) ?_
        refine gx_st (L' := [(2, 192), (0, 2)]) (S' := [(0, 2), (2, 204)]) r_143_50 rfl rfl rfl ?_
        refine gx_st (L' := [(2, 192), (0, 2)]) (S' := [(0, 0), (0, 2), (2, 204)]) r_143_51 rfl rfl rfl ?_
        obtain ⟨m10, e_m10⟩ : ∃ z, z = nu_up m9 204 2 0 := ⟨_, rfl⟩
        refine gx_is (n := 2) (x := 0) r_143_52 (rfl) (by omega) (ty_204 hT) (rfl) ⟨rfl, by decide⟩ e_m10.symm ?_
        refine gx_li (z := 3) (L' := [(2, 192), (0, 3)]) r_143_53 rfl (w32_eq (by omega) (by omega) (by omega)) rfl ?_
        refine gx_st (L' := [(2, 192), (0, 3)]) (S' := []) r_143_56 rfl rfl rfl ?_
        refine gx_st (L' := [(2, 192), (0, 3)]) (S' := [(0, 3)]) r_143_41 rfl rfl rfl ?_
        refine gx_st (L' := [(2, 192), (0, 3)]) (S' := [(0, 5), (0, 3)]) r_143_42 rfl rfl rfl ?_
        refine gx_ic (P := 5 ≤ 3) r_143_43 (rfl) (fun h43 => ?_) (fun h43 => ?_)
        · omega
        · refine gx_st (L' := [(2, 192), (0, 3)]) (S' := [(2, 192)]) r_143_46 rfl rfl rfl ?_
          refine gx_gf (x := 204) 2 r_143_47 (rfl) (ty_192 hT) ⟨by decide, rfl, by decide, by decide⟩ rfl (fun _ => by omega) (by show m10 192 20 = _; rw [e_m10, nu_no (by decide), e_m9, nu_no (by decide), e_m8, nu_no (by decide), e_m7, nu_ne (by decide), e_m6, nu_ne (by decide), e_m5, nu_ne (by decide), e_m4, nu_ne (by decide), e_m3, nu_ne (by decide), e_m2, nu_ne (by decide), e_m1, nu_ne (by decide)]; exact pin_at hp1 (t := 204) rfl (by decide)) ?_
          refine gx_st (L' := [(2, 192), (0, 3)]) (S' := [(0, 3), (2, 204)]) r_143_50 rfl rfl rfl ?_
          refine gx_st (L' := [(2, 192), (0, 3)]) (S' := [(0, 0), (0, 3), (2, 204)]) r_143_51 rfl rfl rfl ?_
          obtain ⟨m11, e_m11⟩ : ∃ z, z = nu_up m10 204 3 0 := ⟨_, rfl⟩
          refine gx_is (n := 3) (x := 0) r_143_52 (rfl) (by omega) (ty_204 hT) (rfl) ⟨rfl, by decide⟩ e_m11.symm ?_
          refine gx_li (z := 4) (L' := [(2, 192), (0, 4)]) r_143_53 rfl (w32_eq (by omega) (by omega) (by omega)) rfl ?_
          refine gx_st (L' := [(2, 192), (0, 4)]) (S' := []) r_143_56 rfl rfl rfl ?_
          refine gx_st (L' := [(2, 192), (0, 4)]) (S' := [(0, 4)]) r_143_41 rfl rfl rfl ?_
          refine gx_st (L' := [(2, 192), (0, 4)]) (S' := [(0, 5), (0, 4)]) r_143_42 rfl rfl rfl ?_
          refine gx_ic (P := 5 ≤ 4) r_143_43 (rfl) (fun h43 => ?_) (fun h43 => ?_)
          · omega
          · refine gx_st (L' := [(2, 192), (0, 4)]) (S' := [(2, 192)]) r_143_46 rfl rfl rfl ?_
            refine gx_gf (x := 204) 2 r_143_47 (rfl) (ty_192 hT) ⟨by decide, rfl, by decide, by decide⟩ rfl (fun _ => by omega) (by show m11 192 20 = _; rw [e_m11, nu_no (by decide), e_m10, nu_no (by decide), e_m9, nu_no (by decide), e_m8, nu_no (by decide), e_m7, nu_ne (by decide), e_m6, nu_ne (by decide), e_m5, nu_ne (by decide), e_m4, nu_ne (by decide), e_m3, nu_ne (by decide), e_m2, nu_ne (by decide), e_m1, nu_ne (by decide)]; exact pin_at hp1 (t := 204) rfl (by decide)) ?_
            refine gx_st (L' := [(2, 192), (0, 4)]) (S' := [(0, 4), (2, 204)]) r_143_50 rfl rfl rfl ?_
            refine gx_st (L' := [(2, 192), (0, 4)]) (S' := [(0, 0), (0, 4), (2, 204)]) r_143_51 rfl rfl rfl ?_
            obtain ⟨m12, e_m12⟩ : ∃ z, z = nu_up m11 204 4 0 := ⟨_, rfl⟩
            refine gx_is (n := 4) (x := 0) r_143_52 (rfl) (by omega) (ty_204 hT) (rfl) ⟨rfl, by decide⟩ e_m12.symm ?_
            refine gx_li (z := 5) (L' := [(2, 192), (0, 5)]) r_143_53 rfl (w32_eq (by omega) (by omega) (by omega)) rfl ?_
            refine gx_st (L' := [(2, 192), (0, 5)]) (S' := []) r_143_56 rfl rfl rfl ?_
            refine gx_st (L' := [(2, 192), (0, 5)]) (S' := [(0, 5)]) r_143_41 rfl rfl rfl ?_
            refine gx_st (L' := [(2, 192), (0, 5)]) (S' := [(0, 5), (0, 5)]) r_143_42 rfl rfl rfl ?_
            refine gx_ic (P := 5 ≤ 5) r_143_43 (rfl) (fun h43 => ?_) (fun h43 => ?_)
            · refine gx_st (L' := [(2, 192), (0, 5)]) (S' := [(0, 0)]) r_143_59 rfl rfl rfl ?_
              refine gx_st (L' := [(2, 192), (0, 0)]) (S' := []) r_143_60 rfl rfl rfl ?_
              refine gx_st (L' := [(2, 192), (0, 0)]) (S' := [(0, 0)]) r_143_61 rfl rfl rfl ?_
              refine gx_st (L' := [(2, 192), (0, 0)]) (S' := [(0, 12), (0, 0)]) r_143_62 rfl rfl rfl ?_
              refine gx_ic (P := 12 ≤ 0) r_143_64 (rfl) (fun h64 => ?_) (fun h64 => ?_)
              · omega
              · refine gx_st (L' := [(2, 192), (0, 0)]) (S' := [(2, 192)]) r_143_67 rfl rfl rfl ?_
                refine gx_gf (x := 203) 2 r_143_68 (rfl) (ty_192 hT) ⟨by decide, rfl, by decide, by decide⟩ rfl (fun _ => by omega) (by show m12 192 19 = _; rw [e_m12, nu_no (by decide), e_m11, nu_no (by decide), e_m10, nu_no (by decide), e_m9, nu_no (by decide), e_m8, nu_no (by decide), e_m7, nu_ne (by decide), e_m6, nu_ne (by decide), e_m5, nu_ne (by decide), e_m4, nu_ne (by decide), e_m3, nu_ne (by decide), e_m2, nu_ne (by decide), e_m1, nu_ne (by decide)]; exact pin_at hp1 (t := 203) rfl (by decide)) ?_
                refine gx_st (L' := [(2, 192), (0, 0)]) (S' := [(0, 0), (2, 203)]) r_143_71 rfl rfl rfl ?_
                refine gx_st (L' := [(2, 192), (0, 0)]) (S' := [(0, 0), (0, 0), (2, 203)]) r_143_72 rfl rfl rfl ?_
                obtain ⟨m13, e_m13⟩ : ∃ z, z = nu_up m12 203 0 0 := ⟨_, rfl⟩
                refine gx_is (n := 0) (x := 0) r_143_73 (rfl) (by omega) (ty_203 hT) (rfl) ⟨rfl, by decide⟩ e_m13.symm ?_
                refine gx_li (z := 1) (L' := [(2, 192), (0, 1)]) r_143_74 rfl (w32_eq (by omega) (by omega) (by omega)) rfl ?_
                refine gx_st (L' := [(2, 192), (0, 1)]) (S' := []) r_143_77 rfl rfl rfl ?_
                refine gx_st (L' := [(2, 192), (0, 1)]) (S' := [(0, 1)]) r_143_61 rfl rfl rfl ?_
                refine gx_st (L' := [(2, 192), (0, 1)]) (S' := [(0, 12), (0, 1)]) r_143_62 rfl rfl rfl ?_
                refine gx_ic (P := 12 ≤ 1) r_143_64 (rfl) (fun h64 => ?_) (fun h64 => ?_)
                · omega
                · refine gx_st (L' := [(2, 192), (0, 1)]) (S' := [(2, 192)]) r_143_67 rfl rfl rfl ?_
                  refine gx_gf (x := 203) 2 r_143_68 (rfl) (ty_192 hT) ⟨by decide, rfl, by decide, by decide⟩ rfl (fun _ => by omega) (by show m13 192 19 = _; rw [e_m13, nu_no (by decide), e_m12, nu_no (by decide), e_m11, nu_no (by decide), e_m10, nu_no (by decide), e_m9, nu_no (by decide), e_m8, nu_no (by decide), e_m7, nu_ne (by decide), e_m6, nu_ne (by decide), e_m5, nu_ne (by decide), e_m4, nu_ne (by decide), e_m3, nu_ne (by decide), e_m2, nu_ne (by decide), e_m1, nu_ne (by decide)]; exact pin_at hp1 (t := 203) rfl (by decide)) ?_
                  refine gx_st (L' := [(2, 192), (0, 1)]) (S' := [(0, 1), (2, 203)]) r_143_71 rfl rfl rfl ?_
                  refine gx_st (L' := [(2, 192), (0, 1)]) (S' := [(0, 0), (0, 1), (2, 203)]) r_143_72 rfl rfl rfl ?_
                  obtain ⟨m14, e_m14⟩ : ∃ z, z = nu_up m13 203 1 0 := ⟨_, rfl⟩
                  refine gx_is (n := 1) (x := 0) r_143_73 (rfl) (by omega) (ty_203 hT) (rfl) ⟨rfl, by decide⟩ e_m14.symm ?_
                  refine gx_li (z := 2) (L' := [(2, 192), (0, 2)]) r_143_74 rfl (w32_eq (by omega) (by omega) (by omega)) rfl ?_
                  refine gx_st (L' := [(2, 192), (0, 2)]) (S' := []) r_143_77 rfl rfl rfl ?_
                  refine gx_st (L' := [(2, 192), (0, 2)]) (S' := [(0, 2)]) r_143_61 rfl rfl rfl ?_
                  refine gx_st (L' := [(2, 192), (0, 2)]) (S' := [(0, 12), (0, 2)]) r_143_62 rfl rfl rfl ?_
                  refine gx_ic (P := 12 ≤ 2) r_143_64 (rfl) (fun h64 => ?_) (fun h64 => ?_)
                  · omega
                  · refine gx_st (L' := [(2, 192), (0, 2)]) (S' := [(2, 192)]) r_143_67 rfl rfl rfl ?_
                    refine gx_gf (x := 203) 2 r_143_68 (rfl) (ty_192 hT) ⟨by decide, rfl, by decide, by decide⟩ rfl (fun _ => by omega) (by show m14 192 19 = _; rw [e_m14, nu_no (by decide), e_m13, nu_no (by decide), e_m12, nu_no (by decide), e_m11, nu_no (by decide), e_m10, nu_no (by decide), e_m9, nu_no (by decide), e_m8, nu_no (by decide), e_m7, nu_ne (by decide), e_m6, nu_ne (by decide), e_m5, nu_ne (by decide), e_m4, nu_ne (by decide), e_m3, nu_ne (by decide), e_m2, nu_ne (by decide), e_m1, nu_ne (by decide)]; exact pin_at hp1 (t := 203) rfl (by decide)) ?_
                    refine gx_st (L' := [(2, 192), (0, 2)]) (S' := [(0, 2), (2, 203)]) r_143_71 rfl rfl rfl ?_
                    refine gx_st (L' := [(2, 192), (0, 2)]) (S' := [(0, 0), (0, 2), (2, 203)]) r_143_72 rfl rfl rfl ?_
                    obtain ⟨m15, e_m15⟩ : ∃ z, z = nu_up m14 203 2 0 := ⟨_, rfl⟩
                    refine gx_is (n := 2) (x := 0) r_143_73 (rfl) (by omega) (ty_203 hT) (rfl) ⟨rfl, by decide⟩ e_m15.symm ?_
                    refine gx_li (z := 3) (L' := [(2, 192), (0, 3)]) r_143_74 rfl (w32_eq (by omega) (by omega) (by omega)) rfl ?_
                    refine gx_st (L' := [(2, 192), (0, 3)]) (S' := []) r_143_77 rfl rfl rfl ?_
                    refine gx_st (L' := [(2, 192), (0, 3)]) (S' := [(0, 3)]) r_143_61 rfl rfl rfl ?_
                    refine gx_st (L' := [(2, 192), (0, 3)]) (S' := [(0, 12), (0, 3)]) r_143_62 rfl rfl rfl ?_
                    refine gx_ic (P := 12 ≤ 3) r_143_64 (rfl) (fun h64 => ?_) (fun h64 => ?_)
                    · omega
                    · refine gx_st (L' := [(2, 192), (0, 3)]) (S' := [(2, 192)]) r_143_67 rfl rfl rfl ?_
                      refine gx_gf (x := 203) 2 r_143_68 (rfl) (ty_192 hT) ⟨by decide, rfl, by decide, by decide⟩ rfl (fun _ => by omega) (by show m15 192 19 = _; rw [e_m15, nu_no (by decide), e_m14, nu_no (by decide), e_m13, nu_no (by decide), e_m12, nu_no (by decide), e_m11, nu_no (by decide), e_m10, nu_no (by decide), e_m9, nu_no (by decide), e_m8, nu_no (by decide), e_m7, nu_ne (by decide), e_m6, nu_ne (by decide), e_m5, nu_ne (by decide), e_m4, nu_ne (by decide), e_m3, nu_ne (by decide), e_m2, nu_ne (by decide), e_m1, nu_ne (by decide)]; exact pin_at hp1 (t := 203) rfl (by decide)) ?_
                      refine gx_st (L' := [(2, 192), (0, 3)]) (S' := [(0, 3), (2, 203)]) r_143_71 rfl rfl rfl ?_
                      refine gx_st (L' := [(2, 192), (0, 3)]) (S' := [(0, 0), (0, 3), (2, 203)]) r_143_72 rfl rfl rfl ?_
                      obtain ⟨m16, e_m16⟩ : ∃ z, z = nu_up m15 203 3 0 := ⟨_, rfl⟩
                      refine gx_is (n := 3) (x := 0) r_143_73 (rfl) (by omega) (ty_203 hT) (rfl) ⟨rfl, by decide⟩ e_m16.symm ?_
                      refine gx_li (z := 4) (L' := [(2, 192), (0, 4)]) r_143_74 rfl (w32_eq (by omega) (by omega) (by omega)) rfl ?_
                      refine gx_st (L' := [(2, 192), (0, 4)]) (S' := []) r_143_77 rfl rfl rfl ?_
                      refine gx_st (L' := [(2, 192), (0, 4)]) (S' := [(0, 4)]) r_143_61 rfl rfl rfl ?_
                      refine gx_st (L' := [(2, 192), (0, 4)]) (S' := [(0, 12), (0, 4)]) r_143_62 rfl rfl rfl ?_
                      refine gx_ic (P := 12 ≤ 4) r_143_64 (rfl) (fun h64 => ?_) (fun h64 => ?_)
                      · omega
                      · refine gx_st (L' := [(2, 192), (0, 4)]) (S' := [(2, 192)]) r_143_67 rfl rfl rfl ?_
                        refine gx_gf (x := 203) 2 r_143_68 (rfl) (ty_192 hT) ⟨by decide, rfl, by decide, by decide⟩ rfl (fun _ => by omega) (by show m16 192 19 = _; rw [e_m16, nu_no (by decide), e_m15, nu_no (by decide), e_m14, nu_no (by decide), e_m13, nu_no (by decide), e_m12, nu_no (by decide), e_m11, nu_no (by decide), e_m10, nu_no (by decide), e_m9, nu_no (by decide), e_m8, nu_no (by decide), e_m7, nu_ne (by decide), e_m6, nu_ne (by decide), e_m5, nu_ne (by decide), e_m4, nu_ne (by decide), e_m3, nu_ne (by decide), e_m2, nu_ne (by decide), e_m1, nu_ne (by decide)]; exact pin_at hp1 (t := 203) rfl (by decide)) ?_
                        refine gx_st (L' := [(2, 192), (0, 4)]) (S' := [(0, 4), (2, 203)]) r_143_71 rfl rfl rfl ?_
                        refine gx_st (L' := [(2, 192), (0, 4)]) (S' := [(0, 0), (0, 4), (2, 203)]) r_143_72 rfl rfl rfl ?_
                        obtain ⟨m17, e_m17⟩ : ∃ z, z = nu_up m16 203 4 0 := ⟨_, rfl⟩
                        refine gx_is (n := 4) (x := 0) r_143_73 (rfl) (by omega) (ty_203 hT) (rfl) ⟨rfl, by decide⟩ e_m17.symm ?_
                        refine gx_li (z := 5) (L' := [(2, 192), (0, 5)]) r_143_74 rfl (w32_eq (by omega) (by omega) (by omega)) rfl ?_
                        refine gx_st (L' := [(2, 192), (0, 5)]) (S' := []) r_143_77 rfl rfl rfl ?_
                        refine gx_st (L' := [(2, 192), (0, 5)]) (S' := [(0, 5)]) r_143_61 rfl rfl rfl ?_
                        refine gx_st (L' := [(2, 192), (0, 5)]) (S' := [(0, 12), (0, 5)]) r_143_62 rfl rfl rfl ?_
                        refine gx_ic (P := 12 ≤ 5) r_143_64 (rfl) (fun h64 => ?_) (fun h64 => ?_)
                        · omega
                        · refine gx_st (L' := [(2, 192), (0, 5)]) (S' := [(2, 192)]) r_143_67 rfl rfl rfl ?_
                          refine gx_gf (x := 203) 2 r_143_68 (rfl) (ty_192 hT) ⟨by decide, rfl, by decide, by decide⟩ rfl (fun _ => by omega) (by show m17 192 19 = _; rw [e_m17, nu_no (by decide), e_m16, nu_no (by decide), e_m15, nu_no (by decide), e_m14, nu_no (by decide), e_m13, nu_no (by decide), e_m12, nu_no (by decide), e_m11, nu_no (by decide), e_m10, nu_no (by decide), e_m9, nu_no (by decide), e_m8, nu_no (by decide), e_m7, nu_ne (by decide), e_m6, nu_ne (by decide), e_m5, nu_ne (by decide), e_m4, nu_ne (by decide), e_m3, nu_ne (by decide), e_m2, nu_ne (by decide), e_m1, nu_ne (by decide)]; exact pin_at hp1 (t := 203) rfl (by decide)) ?_
                          refine gx_st (L' := [(2, 192), (0, 5)]) (S' := [(0, 5), (2, 203)]) r_143_71 rfl rfl rfl ?_
                          refine gx_st (L' := [(2, 192), (0, 5)]) (S' := [(0, 0), (0, 5), (2, 203)]) r_143_72 rfl rfl rfl ?_
                          obtain ⟨m18, e_m18⟩ : ∃ z, z = nu_up m17 203 5 0 := ⟨_, rfl⟩
                          refine gx_is (n := 5) (x := 0) r_143_73 (rfl) (by omega) (ty_203 hT) (rfl) ⟨rfl, by decide⟩ e_m18.symm ?_
                          refine gx_li (z := 6) (L' := [(2, 192), (0, 6)]) r_143_74 rfl (w32_eq (by omega) (by omega) (by omega)) rfl ?_
                          refine gx_st (L' := [(2, 192), (0, 6)]) (S' := []) r_143_77 rfl rfl rfl ?_
                          refine gx_st (L' := [(2, 192), (0, 6)]) (S' := [(0, 6)]) r_143_61 rfl rfl rfl ?_
                          refine gx_st (L' := [(2, 192), (0, 6)]) (S' := [(0, 12), (0, 6)]) r_143_62 rfl rfl rfl ?_
                          refine gx_ic (P := 12 ≤ 6) r_143_64 (rfl) (fun h64 => ?_) (fun h64 => ?_)
                          · omega
                          · refine gx_st (L' := [(2, 192), (0, 6)]) (S' := [(2, 192)]) r_143_67 rfl rfl rfl ?_
                            refine gx_gf (x := 203) 2 r_143_68 (rfl) (ty_192 hT) ⟨by decide, rfl, by decide, by decide⟩ rfl (fun _ => by omega) (by show m18 192 19 = _; rw [e_m18, nu_no (by decide), e_m17, nu_no (by decide), e_m16, nu_no (by decide), e_m15, nu_no (by decide), e_m14, nu_no (by decide), e_m13, nu_no (by decide), e_m12, nu_no (by decide), e_m11, nu_no (by decide), e_m10, nu_no (by decide), e_m9, nu_no (by decide), e_m8, nu_no (by decide), e_m7, nu_ne (by decide), e_m6, nu_ne (by decide), e_m5, nu_ne (by decide), e_m4, nu_ne (by decide), e_m3, nu_ne (by decide), e_m2, nu_ne (by decide), e_m1, nu_ne (by decide)]; exact pin_at hp1 (t := 203) rfl (by decide)) ?_
                            refine gx_st (L' := [(2, 192), (0, 6)]) (S' := [(0, 6), (2, 203)]) r_143_71 rfl rfl rfl ?_
                            refine gx_st (L' := [(2, 192), (0, 6)]) (S' := [(0, 0), (0, 6), (2, 203)]) r_143_72 rfl rfl rfl ?_
                            obtain ⟨m19, e_m19⟩ : ∃ z, z = nu_up m18 203 6 0 := ⟨_, rfl⟩
                            refine gx_is (n := 6) (x := 0) r_143_73 (rfl) (by omega) (ty_203 hT) (rfl) ⟨rfl, by decide⟩ e_m19.symm ?_
                            refine gx_li (z := 7) (L' := [(2, 192), (0, 7)]) r_143_74 rfl (w32_eq (by omega) (by omega) (by omega)) rfl ?_
                            refine gx_st (L' := [(2, 192), (0, 7)]) (S' := []) r_143_77 rfl rfl rfl ?_
                            refine gx_st (L' := [(2, 192), (0, 7)]) (S' := [(0, 7)]) r_143_61 rfl rfl rfl ?_
                            refine gx_st (L' := [(2, 192), (0, 7)]) (S' := [(0, 12), (0, 7)]) r_143_62 rfl rfl rfl ?_
                            refine gx_ic (P := 12 ≤ 7) r_143_64 (rfl) (fun h64 => ?_) (fun h64 => ?_)
                            · omega
                            · refine gx_st (L' := [(2, 192), (0, 7)]) (S' := [(2, 192)]) r_143_67 rfl rfl rfl ?_
                              refine gx_gf (x := 203) 2 r_143_68 (rfl) (ty_192 hT) ⟨by decide, rfl, by decide, by decide⟩ rfl (fun _ => by omega) (by show m19 192 19 = _; rw [e_m19, nu_no (by decide), e_m18, nu_no (by decide), e_m17, nu_no (by decide), e_m16, nu_no (by decide), e_m15, nu_no (by decide), e_m14, nu_no (by decide), e_m13, nu_no (by decide), e_m12, nu_no (by decide), e_m11, nu_no (by decide), e_m10, nu_no (by decide), e_m9, nu_no (by decide), e_m8, nu_no (by decide), e_m7, nu_ne (by decide), e_m6, nu_ne (by decide), e_m5, nu_ne (by decide), e_m4, nu_ne (by decide), e_m3, nu_ne (by decide), e_m2, nu_ne (by decide), e_m1, nu_ne (by decide)]; exact pin_at hp1 (t := 203) rfl (by decide)) ?_
                              refine gx_st (L' := [(2, 192), (0, 7)]) (S' := [(0, 7), (2, 203)]) r_143_71 rfl rfl rfl ?_
                              refine gx_st (L' := [(2, 192), (0, 7)]) (S' := [(0, 0), (0, 7), (2, 203)]) r_143_72 rfl rfl rfl ?_
                              obtain ⟨m20, e_m20⟩ : ∃ z, z = nu_up m19 203 7 0 := ⟨_, rfl⟩
                              refine gx_is (n := 7) (x := 0) r_143_73 (rfl) (by omega) (ty_203 hT) (rfl) ⟨rfl, by decide⟩ e_m20.symm ?_
                              refine gx_li (z := 8) (L' := [(2, 192), (0, 8)]) r_143_74 rfl (w32_eq (by omega) (by omega) (by omega)) rfl ?_
                              refine gx_st (L' := [(2, 192), (0, 8)]) (S' := []) r_143_77 rfl rfl rfl ?_
                              refine gx_st (L' := [(2, 192), (0, 8)]) (S' := [(0, 8)]) r_143_61 rfl rfl rfl ?_
                              refine gx_st (L' := [(2, 192), (0, 8)]) (S' := [(0, 12), (0, 8)]) r_143_62 rfl rfl rfl ?_
                              refine gx_ic (P := 12 ≤ 8) r_143_64 (rfl) (fun h64 => ?_) (fun h64 => ?_)
                              · omega
                              · refine gx_st (L' := [(2, 192), (0, 8)]) (S' := [(2, 192)]) r_143_67 rfl rfl rfl ?_
                                refine gx_gf (x := 203) 2 r_143_68 (rfl) (ty_192 hT) ⟨by decide, rfl, by decide, by decide⟩ rfl (fun _ => by omega) (by show m20 192 19 = _; rw [e_m20, nu_no (by decide), e_m19, nu_no (by decide), e_m18, nu_no (by decide), e_m17, nu_no (by decide), e_m16, nu_no (by decide), e_m15, nu_no (by decide), e_m14, nu_no (by decide), e_m13, nu_no (by decide), e_m12, nu_no (by decide), e_m11, nu_no (by decide), e_m10, nu_no (by decide), e_m9, nu_no (by decide), e_m8, nu_no (by decide), e_m7, nu_ne (by decide), e_m6, nu_ne (by decide), e_m5, nu_ne (by decide), e_m4, nu_ne (by decide), e_m3, nu_ne (by decide), e_m2, nu_ne (by decide), e_m1, nu_ne (by decide)]; exact pin_at hp1 (t := 203) rfl (by decide)) ?_
                                refine gx_st (L' := [(2, 192), (0, 8)]) (S' := [(0, 8), (2, 203)]) r_143_71 rfl rfl rfl ?_
                                refine gx_st (L' := [(2, 192), (0, 8)]) (S' := [(0, 0), (0, 8), (2, 203)]) r_143_72 rfl rfl rfl ?_
                                obtain ⟨m21, e_m21⟩ : ∃ z, z = nu_up m20 203 8 0 := ⟨_, rfl⟩
                                refine gx_is (n := 8) (x := 0) r_143_73 (rfl) (by omega) (ty_203 hT) (rfl) ⟨rfl, by decide⟩ e_m21.symm ?_
                                refine gx_li (z := 9) (L' := [(2, 192), (0, 9)]) r_143_74 rfl (w32_eq (by omega) (by omega) (by omega)) rfl ?_
                                refine gx_st (L' := [(2, 192), (0, 9)]) (S' := []) r_143_77 rfl rfl rfl ?_
                                refine gx_st (L' := [(2, 192), (0, 9)]) (S' := [(0, 9)]) r_143_61 rfl rfl rfl ?_
                                refine gx_st (L' := [(2, 192), (0, 9)]) (S' := [(0, 12), (0, 9)]) r_143_62 rfl rfl rfl ?_
                                refine gx_ic (P := 12 ≤ 9) r_143_64 (rfl) (fun h64 => ?_) (fun h64 => ?_)
                                · omega
                                · refine gx_st (L' := [(2, 192), (0, 9)]) (S' := [(2, 192)]) r_143_67 rfl rfl rfl ?_
                                  refine gx_gf (x := 203) 2 r_143_68 (rfl) (ty_192 hT) ⟨by decide, rfl, by decide, by decide⟩ rfl (fun _ => by omega) (by show m21 192 19 = _; rw [e_m21, nu_no (by decide), e_m20, nu_no (by decide), e_m19, nu_no (by decide), e_m18, nu_no (by decide), e_m17, nu_no (by decide), e_m16, nu_no (by decide), e_m15, nu_no (by decide), e_m14, nu_no (by decide), e_m13, nu_no (by decide), e_m12, nu_no (by decide), e_m11, nu_no (by decide), e_m10, nu_no (by decide), e_m9, nu_no (by decide), e_m8, nu_no (by decide), e_m7, nu_ne (by decide), e_m6, nu_ne (by decide), e_m5, nu_ne (by decide), e_m4, nu_ne (by decide), e_m3, nu_ne (by decide), e_m2, nu_ne (by decide), e_m1, nu_ne (by decide)]; exact pin_at hp1 (t := 203) rfl (by decide)) ?_
                                  refine gx_st (L' := [(2, 192), (0, 9)]) (S' := [(0, 9), (2, 203)]) r_143_71 rfl rfl rfl ?_
                                  refine gx_st (L' := [(2, 192), (0, 9)]) (S' := [(0, 0), (0, 9), (2, 203)]) r_143_72 rfl rfl rfl ?_
                                  obtain ⟨m22, e_m22⟩ : ∃ z, z = nu_up m21 203 9 0 := ⟨_, rfl⟩
                                  refine gx_is (n := 9) (x := 0) r_143_73 (rfl) (by omega) (ty_203 hT) (rfl) ⟨rfl, by decide⟩ e_m22.symm ?_
                                  refine gx_li (z := 10) (L' := [(2, 192), (0, 10)]) r_143_74 rfl (w32_eq (by omega) (by omega) (by omega)) rfl ?_
                                  refine gx_st (L' := [(2, 192), (0, 10)]) (S' := []) r_143_77 rfl rfl rfl ?_
                                  refine gx_st (L' := [(2, 192), (0, 10)]) (S' := [(0, 10)]) r_143_61 rfl rfl rfl ?_
                                  refine gx_st (L' := [(2, 192), (0, 10)]) (S' := [(0, 12), (0, 10)]) r_143_62 rfl rfl rfl ?_
                                  refine gx_ic (P := 12 ≤ 10) r_143_64 (rfl) (fun h64 => ?_) (fun h64 => ?_)
                                  · omega
                                  · refine gx_st (L' := [(2, 192), (0, 10)]) (S' := [(2, 192)]) r_143_67 rfl rfl rfl ?_
                                    refine gx_gf (x := 203) 2 r_143_68 (rfl) (ty_192 hT) ⟨by decide, rfl, by decide, by decide⟩ rfl (fun _ => by omega) (by show m22 192 19 = _; rw [e_m22, nu_no (by decide), e_m21, nu_no (by decide), e_m20, nu_no (by decide), e_m19, nu_no (by decide), e_m18, nu_no (by decide), e_m17, nu_no (by decide), e_m16, nu_no (by decide), e_m15, nu_no (by decide), e_m14, nu_no (by decide), e_m13, nu_no (by decide), e_m12, nu_no (by decide), e_m11, nu_no (by decide), e_m10, nu_no (by decide), e_m9, nu_no (by decide), e_m8, nu_no (by decide), e_m7, nu_ne (by decide), e_m6, nu_ne (by decide), e_m5, nu_ne (by decide), e_m4, nu_ne (by decide), e_m3, nu_ne (by decide), e_m2, nu_ne (by decide), e_m1, nu_ne (by decide)]; exact pin_at hp1 (t := 203) rfl (by decide)) ?_
                                    refine gx_st (L' := [(2, 192), (0, 10)]) (S' := [(0, 10), (2, 203)]) r_143_71 rfl rfl rfl ?_
                                    refine gx_st (L' := [(2, 192), (0, 10)]) (S' := [(0, 0), (0, 10), (2, 203)]) r_143_72 rfl rfl rfl ?_
                                    obtain ⟨m23, e_m23⟩ : ∃ z, z = nu_up m22 203 10 0 := ⟨_, rfl⟩
                                    refine gx_is (n := 10) (x := 0) r_143_73 (rfl) (by omega) (ty_203 hT) (rfl) ⟨rfl, by decide⟩ e_m23.symm ?_
                                    refine gx_li (z := 11) (L' := [(2, 192), (0, 11)]) r_143_74 rfl (w32_eq (by omega) (by omega) (by omega)) rfl ?_
                                    refine gx_st (L' := [(2, 192), (0, 11)]) (S' := []) r_143_77 rfl rfl rfl ?_
                                    refine gx_st (L' := [(2, 192), (0, 11)]) (S' := [(0, 11)]) r_143_61 rfl rfl rfl ?_
                                    refine gx_st (L' := [(2, 192), (0, 11)]) (S' := [(0, 12), (0, 11)]) r_143_62 rfl rfl rfl ?_
                                    refine gx_ic (P := 12 ≤ 11) r_143_64 (rfl) (fun h64 => ?_) (fun h64 => ?_)
                                    · omega
                                    · refine gx_st (L' := [(2, 192), (0, 11)]) (S' := [(2, 192)]) r_143_67 rfl rfl rfl ?_
                                      refine gx_gf (x := 203) 2 r_143_68 (rfl) (ty_192 hT) ⟨by decide, rfl, by decide, by decide⟩ rfl (fun _ => by omega) (by show m23 192 19 = _; rw [e_m23, nu_no (by decide), e_m22, nu_no (by decide), e_m21, nu_no (by decide), e_m20, nu_no (by decide), e_m19, nu_no (by decide), e_m18, nu_no (by decide), e_m17, nu_no (by decide), e_m16, nu_no (by decide), e_m15, nu_no (by decide), e_m14, nu_no (by decide), e_m13, nu_no (by decide), e_m12, nu_no (by decide), e_m11, nu_no (by decide), e_m10, nu_no (by decide), e_m9, nu_no (by decide), e_m8, nu_no (by decide), e_m7, nu_ne (by decide), e_m6, nu_ne (by decide), e_m5, nu_ne (by decide), e_m4, nu_ne (by decide), e_m3, nu_ne (by decide), e_m2, nu_ne (by decide), e_m1, nu_ne (by decide)]; exact pin_at hp1 (t := 203) rfl (by decide)) ?_
                                      refine gx_st (L' := [(2, 192), (0, 11)]) (S' := [(0, 11), (2, 203)]) r_143_71 rfl rfl rfl ?_
                                      refine gx_st (L' := [(2, 192), (0, 11)]) (S' := [(0, 0), (0, 11), (2, 203)]) r_143_72 rfl rfl rfl ?_
                                      obtain ⟨m24, e_m24⟩ : ∃ z, z = nu_up m23 203 11 0 := ⟨_, rfl⟩
                                      refine gx_is (n := 11) (x := 0) r_143_73 (rfl) (by omega) (ty_203 hT) (rfl) ⟨rfl, by decide⟩ e_m24.symm ?_
                                      refine gx_li (z := 12) (L' := [(2, 192), (0, 12)]) r_143_74 rfl (w32_eq (by omega) (by omega) (by omega)) rfl ?_
                                      refine gx_st (L' := [(2, 192), (0, 12)]) (S' := []) r_143_77 rfl rfl rfl ?_
                                      refine gx_st (L' := [(2, 192), (0, 12)]) (S' := [(0, 12)]) r_143_61 rfl rfl rfl ?_
                                      refine gx_st (L' := [(2, 192), (0, 12)]) (S' := [(0, 12), (0, 12)]) r_143_62 rfl rfl rfl ?_
                                      refine gx_ic (P := 12 ≤ 12) r_143_64 (rfl) (fun h64 => ?_) (fun h64 => ?_)
                                      · refine gx_st (L' := [(2, 192), (0, 12)]) (S' := [(0, 0)]) r_143_80 rfl rfl rfl ?_
                                        refine gx_st (L' := [(2, 192), (0, 0)]) (S' := []) r_143_81 rfl rfl rfl ?_
                                        have pq : PinR m24 := by rw [e_m24, e_m23, e_m22, e_m21, e_m20, e_m19, e_m18, e_m17, e_m16, e_m15, e_m14, e_m13, e_m12, e_m11, e_m10, e_m9, e_m8, e_m7, e_m6, e_m5, e_m4, e_m3, e_m2, e_m1]; exact PinR_up (PinR_up (PinR_up (PinR_up (PinR_up (PinR_up (PinR_up (PinR_up (PinR_up (PinR_up (PinR_up (PinR_up (PinR_up (PinR_up (PinR_up (PinR_up (PinR_up (PinR_up (PinR_up (PinR_up (PinR_up (PinR_up (PinR_up (PinR_up hp1 rfl) rfl) rfl) rfl) rfl) rfl) rfl) rfl) rfl) rfl) rfl) rfl) rfl) rfl) rfl) rfl) rfl) rfl) rfl) rfl) rfl) rfl) rfl) rfl
                                        have eq : ∀ i : Nat, m24 193 i = m 193 i := fun i => by rw [e_m24, nu_no (by decide), e_m23, nu_no (by decide), e_m22, nu_no (by decide), e_m21, nu_no (by decide), e_m20, nu_no (by decide), e_m19, nu_no (by decide), e_m18, nu_no (by decide), e_m17, nu_no (by decide), e_m16, nu_no (by decide), e_m15, nu_no (by decide), e_m14, nu_no (by decide), e_m13, nu_no (by decide), e_m12, nu_no (by decide), e_m11, nu_no (by decide), e_m10, nu_no (by decide), e_m9, nu_no (by decide), e_m8, nu_no (by decide), e_m7, nu_no (by decide), e_m6, nu_no (by decide), e_m5, nu_no (by decide), e_m4, nu_no (by decide), e_m3, nu_no (by decide), e_m2, nu_no (by decide), e_m1, nu_no (by decide)]; exact e193 i
                                        have er : m24 193 = m 193 := funext eq
                                        have z0 : m24 203 0 = 0 := by rw [e_m24, nu_ne (by decide), e_m23, nu_ne (by decide), e_m22, nu_ne (by decide), e_m21, nu_ne (by decide), e_m20, nu_ne (by decide), e_m19, nu_ne (by decide), e_m18, nu_ne (by decide), e_m17, nu_ne (by decide), e_m16, nu_ne (by decide), e_m15, nu_ne (by decide), e_m14, nu_ne (by decide), e_m13, nu_at]
                                        have z1 : m24 203 1 = 0 := by rw [e_m24, nu_ne (by decide), e_m23, nu_ne (by decide), e_m22, nu_ne (by decide), e_m21, nu_ne (by decide), e_m20, nu_ne (by decide), e_m19, nu_ne (by decide), e_m18, nu_ne (by decide), e_m17, nu_ne (by decide), e_m16, nu_ne (by decide), e_m15, nu_ne (by decide), e_m14, nu_at]
                                        have z2 : m24 203 2 = 0 := by rw [e_m24, nu_ne (by decide), e_m23, nu_ne (by decide), e_m22, nu_ne (by decide), e_m21, nu_ne (by decide), e_m20, nu_ne (by decide), e_m19, nu_ne (by decide), e_m18, nu_ne (by decide), e_m17, nu_ne (by decide), e_m16, nu_ne (by decide), e_m15, nu_at]
                                        have z3 : m24 203 3 = 0 := by rw [e_m24, nu_ne (by decide), e_m23, nu_ne (by decide), e_m22, nu_ne (by decide), e_m21, nu_ne (by decide), e_m20, nu_ne (by decide), e_m19, nu_ne (by decide), e_m18, nu_ne (by decide), e_m17, nu_ne (by decide), e_m16, nu_at]
                                        have z4 : m24 203 4 = 0 := by rw [e_m24, nu_ne (by decide), e_m23, nu_ne (by decide), e_m22, nu_ne (by decide), e_m21, nu_ne (by decide), e_m20, nu_ne (by decide), e_m19, nu_ne (by decide), e_m18, nu_ne (by decide), e_m17, nu_at]
                                        have z5 : m24 203 5 = 0 := by rw [e_m24, nu_ne (by decide), e_m23, nu_ne (by decide), e_m22, nu_ne (by decide), e_m21, nu_ne (by decide), e_m20, nu_ne (by decide), e_m19, nu_ne (by decide), e_m18, nu_at]
                                        have z6 : m24 203 6 = 0 := by rw [e_m24, nu_ne (by decide), e_m23, nu_ne (by decide), e_m22, nu_ne (by decide), e_m21, nu_ne (by decide), e_m20, nu_ne (by decide), e_m19, nu_at]
                                        have z7 : m24 203 7 = 0 := by rw [e_m24, nu_ne (by decide), e_m23, nu_ne (by decide), e_m22, nu_ne (by decide), e_m21, nu_ne (by decide), e_m20, nu_at]
                                        have z8 : m24 203 8 = 0 := by rw [e_m24, nu_ne (by decide), e_m23, nu_ne (by decide), e_m22, nu_ne (by decide), e_m21, nu_at]
                                        have z9 : m24 203 9 = 0 := by rw [e_m24, nu_ne (by decide), e_m23, nu_ne (by decide), e_m22, nu_at]
                                        have z10 : m24 203 10 = 0 := by rw [e_m24, nu_ne (by decide), e_m23, nu_at]
                                        have z11 : m24 203 11 = 0 := by rw [e_m24, nu_at]
                                        have b8 := gb_193_8 hm
                                        have zz : ∀ h : Nat, h < 12 → m24 203 h = 0 := fun h hh => by
                                          have hh2 : h = 0 ∨ h = 1 ∨ h = 2 ∨ h = 3 ∨ h = 4 ∨ h = 5 ∨ h = 6 ∨ h = 7 ∨ h = 8 ∨ h = 9 ∨ h = 10 ∨ h = 11 := by omega
                                          rcases hh2 with rfl | rfl | rfl | rfl | rfl | rfl | rfl | rfl | rfl | rfl | rfl | rfl
                                          · exact z0
                                          · exact z1
                                          · exact z2
                                          · exact z3
                                          · exact z4
                                          · exact z5
                                          · exact z6
                                          · exact z7
                                          · exact z8
                                          · exact z9
                                          · exact z10
                                          · exact z11
                                        refine as_l (p0 := m24) (c := (m 193 8).toNat) hT pq (by rw [eq]; omega) (by omega) (fun k hk => by rw [eq]; exact gb_193_ac hm hk) (by rw [er]; exact hx.1) (fun p f z => ⟨rfl, ⟨(f 192 23 (by decide)).trans (by rw [e_m24, nu_no (by decide), e_m23, nu_no (by decide), e_m22, nu_no (by decide), e_m21, nu_no (by decide), e_m20, nu_no (by decide), e_m19, nu_no (by decide), e_m18, nu_no (by decide), e_m17, nu_no (by decide), e_m16, nu_no (by decide), e_m15, nu_no (by decide), e_m14, nu_no (by decide), e_m13, nu_no (by decide), e_m12, nu_no (by decide), e_m11, nu_no (by decide), e_m10, nu_no (by decide), e_m9, nu_no (by decide), e_m8, nu_no (by decide), e_m7, nu_ne (by decide), e_m6, nu_ne (by decide), e_m5, nu_ne (by decide), e_m4, nu_ne (by decide), e_m3, nu_ne (by decide), e_m2, nu_ne (by decide), e_m1, nu_at]), (f 192 24 (by decide)).trans (by rw [e_m24, nu_no (by decide), e_m23, nu_no (by decide), e_m22, nu_no (by decide), e_m21, nu_no (by decide), e_m20, nu_no (by decide), e_m19, nu_no (by decide), e_m18, nu_no (by decide), e_m17, nu_no (by decide), e_m16, nu_no (by decide), e_m15, nu_no (by decide), e_m14, nu_no (by decide), e_m13, nu_no (by decide), e_m12, nu_no (by decide), e_m11, nu_no (by decide), e_m10, nu_no (by decide), e_m9, nu_no (by decide), e_m8, nu_no (by decide), e_m7, nu_ne (by decide), e_m6, nu_ne (by decide), e_m5, nu_ne (by decide), e_m4, nu_ne (by decide), e_m3, nu_ne (by decide), e_m2, nu_at]), (f 192 25 (by decide)).trans (by rw [e_m24, nu_no (by decide), e_m23, nu_no (by decide), e_m22, nu_no (by decide), e_m21, nu_no (by decide), e_m20, nu_no (by decide), e_m19, nu_no (by decide), e_m18, nu_no (by decide), e_m17, nu_no (by decide), e_m16, nu_no (by decide), e_m15, nu_no (by decide), e_m14, nu_no (by decide), e_m13, nu_no (by decide), e_m12, nu_no (by decide), e_m11, nu_no (by decide), e_m10, nu_no (by decide), e_m9, nu_no (by decide), e_m8, nu_no (by decide), e_m7, nu_ne (by decide), e_m6, nu_ne (by decide), e_m5, nu_ne (by decide), e_m4, nu_ne (by decide), e_m3, nu_at]), (f 192 26 (by decide)).trans (by rw [e_m24, nu_no (by decide), e_m23, nu_no (by decide), e_m22, nu_no (by decide), e_m21, nu_no (by decide), e_m20, nu_no (by decide), e_m19, nu_no (by decide), e_m18, nu_no (by decide), e_m17, nu_no (by decide), e_m16, nu_no (by decide), e_m15, nu_no (by decide), e_m14, nu_no (by decide), e_m13, nu_no (by decide), e_m12, nu_no (by decide), e_m11, nu_no (by decide), e_m10, nu_no (by decide), e_m9, nu_no (by decide), e_m8, nu_no (by decide), e_m7, nu_ne (by decide), e_m6, nu_ne (by decide), e_m5, nu_ne (by decide), e_m4, nu_at]), (f 192 27 (by decide)).trans (by rw [e_m24, nu_no (by decide), e_m23, nu_no (by decide), e_m22, nu_no (by decide), e_m21, nu_no (by decide), e_m20, nu_no (by decide), e_m19, nu_no (by decide), e_m18, nu_no (by decide), e_m17, nu_no (by decide), e_m16, nu_no (by decide), e_m15, nu_no (by decide), e_m14, nu_no (by decide), e_m13, nu_no (by decide), e_m12, nu_no (by decide), e_m11, nu_no (by decide), e_m10, nu_no (by decide), e_m9, nu_no (by decide), e_m8, nu_no (by decide), e_m7, nu_ne (by decide), e_m6, nu_ne (by decide), e_m5, nu_at])⟩, by rw [← er]; exact z⟩) ((m 193 8).toNat + 1) 0 m24 (by omega) (by omega) (fun _ _ _ => rfl) (fun i hi => absurd hi (Nat.not_lt_zero _)) (fun h hh _ => zz h hh)
                                      · omega
            · omega
theorem y_143 (hT : TT T) (hp : PinR m) (hm : Gam m) (hx : Ext m) : GX T 3 143 0 [(2, 192), (9, 0)] [] m (RV (fun m1 => (AsF m1 ∧ ActA m1 (m 193)) ∧ Gam m1 ∧ Ext m1 ∧ Fr [90021, 90022, 90023, 90024, 90025, 90026, 90027, 97999, 101999, 102999] m m1 ∧ FS m1)) := gx_av (v_143 hT hp hm hx) (x_143 hT hm hx)
theorem sb_ask (hm : Gam m) (wp : WP (pw (m 193))) : SB (pw (m 193)) (beginF (pw (m 193)) 0 (pw (m 193) 47)) 0 := by
  have h2 := gb_193_2 hm
  have h7 := gb_193_7 hm
  refine sb_begin (by rw [pw_at (by decide) (by decide)]; exact h2) (fun t ht _ => by rw [pw_at (by omega) (by omega)]; exact gb_193_tf hm ht) (by decide) (fun z => ?_)
  have y := wp.2.2 0 (by decide) z
  exact ⟨y.1, y.2.1⟩
theorem y_146 (hT : TT T) (h136 : ConH T cn_136) (hp : PinR m) (hm : Gam m) (hx : Ext m) (wb : WB (pw (m 193))) (wp : WP (pw (m 193))) : GX T 10 146 0 [(2, 192)] [] m (RI (fun v m1 => v = (if 0 < m 193 9 then 1 else 0) ∧ AskR m m1 ∧ PinR m1 ∧ Gam m1 ∧ Ext m1 ∧ Fr [90021, 90022, 90023, 90024, 90025, 90026, 90027, 97999, 98999, 99999, 100999, 101999, 102999] m m1 ∧ FS m1)) := by
  refine gx_st (L' := [(2, 192)]) (S' := [(2, 192)]) r_146_0 rfl rfl rfl ?_
  refine gx_cv (nx := 4) (S2 := []) (y_143 hT hp hm hx) r_146_1 rfl rfl rfl rfl rfl (rcv_v rfl (ty_192 hT) (by decide) rfl (by decide)) rfl (by decide) rfl (fun n1 q1 => ?_)
  obtain ⟨⟨a1, a2⟩, gm1, gx1, f1, fs1⟩ := q1
  have hp1 : PinR n1 := PinR_fr f1 (by decide) hp
  have e193 : n1 193 = m 193 := funext (Fr_cell (o := 193) f1 (by decide) (by decide))
  show GX T 10 146 4 [(2, 192)] [] n1 (RI (fun v m1 => v = (if 0 < m 193 9 then 1 else 0) ∧ AskR m m1 ∧ PinR m1 ∧ Gam m1 ∧ Ext m1 ∧ Fr [90021, 90022, 90023, 90024, 90025, 90026, 90027, 97999, 98999, 99999, 100999, 101999, 102999] m m1 ∧ FS m1))
  refine gx_st (L' := [(2, 192)]) (S' := [(2, 192)]) r_146_4 rfl rfl rfl ?_
  have wb := wb
  have hw1 : WyD (pw (m 193)) (fun a b => n1 199 (7 * a + b)) := by
    rw [wyD_pw, ← e193]; exact fs1
  have h1 := gb_193_1 hm
  have ea := ew_as gm1 a1
  rw [e193] at ea
  have hq2 := gb_193_2 hm
  have hSB : SB (pw (m 193)) (beginF (pw (m 193)) 0 (pw (m 193) 47)) 0 := sb_ask hm wp
  have hin := acts_in hx.1 a2
  refine gx_cv (nx := 8) (S2 := []) (gx_av (y_145 hT hp1 wb ea wp (D := fun a b => n1 199 (7 * a + b)) (fun _ _ _ _ => rfl) hw1 hin (n := (m 193 1).toNat) (by rw [pw_at (by decide) (by decide)]; omega) (by omega) hSB (fun t ht _ => by omega)) (x_145 hT h136 gm1 gx1 fs1)) r_146_5 rfl rfl rfl rfl rfl (rcv_v rfl (ty_192 hT) (by decide) rfl (by decide)) rfl (by decide) rfl (fun n5 q5 => ?_)
  obtain ⟨⟨r2, fg2⟩, gm2, gx2, f2, fs2⟩ := q5
  have e203 : n5 203 = n1 203 := funext (fun i => fg2 203 i (by omega) (by omega) (by omega))
  have hp2 : PinR n5 := pin_g hp1 fg2
  show GX T 10 146 8 [(2, 192)] [] n5 (RI (fun v m1 => v = (if 0 < m 193 9 then 1 else 0) ∧ AskR m m1 ∧ PinR m1 ∧ Gam m1 ∧ Ext m1 ∧ Fr [90021, 90022, 90023, 90024, 90025, 90026, 90027, 97999, 98999, 99999, 100999, 101999, 102999] m m1 ∧ FS m1))
  refine gx_st (L' := [(2, 192)]) (S' := [(2, 192)]) r_146_8 rfl rfl rfl ?_
  have e9 : n5 193 9 = m 193 9 := (fg2 193 9 (by omega) (by omega) (by omega)).trans (congrFun e193 9)
  refine gx_ci (nx := 12) (S2 := []) (x_90 hT gm2) r_146_9 rfl rfl rfl rfl rfl (rcv_v rfl (ty_192 hT) (by decide) rfl (by decide)) rfl (by decide) rfl (fun x9 n9 q9 => ?_)
  obtain ⟨e_x9, z_x9⟩ := q9
  obtain rfl := z_x9.symm
  rw [e_x9, e9]
  show GX T 10 146 12 [(2, 192)] [(0, (if 0 < m 193 9 then 1 else 0))] n5 (RI (fun v m1 => v = (if 0 < m 193 9 then 1 else 0) ∧ AskR m m1 ∧ PinR m1 ∧ Gam m1 ∧ Ext m1 ∧ Fr [90021, 90022, 90023, 90024, 90025, 90026, 90027, 97999, 98999, 99999, 100999, 101999, 102999] m m1 ∧ FS m1))
  exact gx_rb r_146_12 rfl (by split <;> omega) ⟨_, rfl, rfl, ⟨fun a b => n1 199 (7 * a + b), wyD_pw.mp hw1, ⟨by rw [e203]; exact a2.1, by rw [e203]; exact a2.2⟩, by rw [e203]; exact r2⟩, hp2, gm2, gx2, Fr_tr (Fr_sub f1 (by decide)) (Fr_sub f2 (by decide)), fs2⟩
end ASKR
