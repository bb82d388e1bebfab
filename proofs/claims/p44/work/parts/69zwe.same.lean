/-! states that agree but for how a ride ended -/
def SW16 (s t : Wd) : Prop := ∀ i : Nat, ¬ i = 16 → s i = t i
theorem sw_rf {s : Wd} : SW16 s s := fun _ _ => rfl
theorem sw_upw {s t : Wd} (e : SW16 s t) {k : Nat} {x y : Int} (h : x = y) : SW16 (upw s k x) (upw t k y) := fun i hi => by
  by_cases c : i = k
  · rw [c, upw_at, upw_at, h]
  · rw [upw_ne c, upw_ne c]; exact e i hi
theorem sw_at {s t : Wd} (e : SW16 s t) (x y : Int) : SW16 (upw s 16 x) (upw t 16 y) := fun i hi => by
  rw [upw_ne hi, upw_ne hi]; exact e i hi
theorem sw_16 (s : Wd) (x : Int) : SW16 (upw s 16 x) s := fun i hi => upw_ne hi
theorem sw_over {s t : Wd} (e : SW16 s t) (k : Int) : SW16 (overF s k) (overF t k) := sw_upw (sw_upw (sw_upw e rfl) rfl) rfl
theorem sw_can {w s t : Wd} {D : Nat → Nat → Int} {h a : Int} (e : SW16 s t) : canF w D h a s = canF w D h a t := by
  unfold canF
  rw [e 0 (by decide), e 1 (by decide), e 3 (by decide), e 4 (by decide)]
theorem sw_steer {w s t : Wd} {D : Nat → Nat → Int} {p : Nat} (h5 : w 5 ≤ 5) (e : SW16 s t) : steerF w D p s = steerF w D p t := by
  unfold steerF
  refine BestOf_eq (bestF_of _ _ _) (bestF_of _ _ _) (fun i hi => ?_) (fun i hi _ => rfl)
  show (decide (0 < s (11 + i)) && decide (D p (w (31 + 2 * i)).toNat < FAR)) = true ↔ (decide (0 < t (11 + i)) && decide (D p (w (31 + 2 * i)).toNat < FAR)) = true
  rw [e (11 + i) (by omega)]
theorem sw_eat {s t : Wd} (e : SW16 s t) {b k : Nat} (hb : s 1 = (b : Int)) (hb5 : b < 5) (hk : k < 5) : SW16 (eatF s k) (eatF t k) := by
  rw [eat_b hb, eat_b ((e 1 (by decide)).symm.trans hb)]
  refine sw_upw (sw_upw (sw_upw e ?_) ?_) ?_
  · rw [e (11 + k) (by omega)]
  · rw [e 2 (by decide)]
  · rw [e (6 + b) (by omega)]
theorem sw_car {w s t : Wd} (e : SW16 s t) {b : Nat} (hb : s 1 = (b : Int)) (hb5 : b < 5) (g : Int) : SW16 (carF w s g) (carF w t g) := by
  have hb2 := (e 1 (by decide)).symm.trans hb
  have e6 := e (6 + b) (by omega)
  have e2 := e 2 (by decide)
  have e5 := e 5 (by decide)
  by_cases c : s (6 + b) + s 2 ≤ w (48 + 2 * b)
  · rw [car_lo hb c, car_lo hb2 (by rw [← e6, ← e2]; exact c)]
    exact sw_upw (sw_upw e rfl) (by rw [e6, e2])
  · have c2 : ¬ t (6 + b) + t 2 ≤ w (48 + 2 * b) := by rw [← e6, ← e2]; exact c
    by_cases d : strongF w g (ior (s 5) (ishl 1 (b : Int))) = -1
    · rw [car_no hb c d, car_no hb2 c2 (by rw [← e5]; exact d)]
      exact sw_over (sw_upw (sw_upw (sw_upw e rfl) (by rw [e6, e2])) (by rw [e5])) 0
    · rw [car_ch hb c d, car_ch hb2 c2 (by rw [← e5]; exact d)]
      exact sw_upw (sw_upw (sw_upw (sw_upw e rfl) (by rw [e6, e2])) (by rw [e5])) (by rw [e5])
theorem sw_off {w s t : Wd} {h : Int} (e : SW16 s t) : SW16 (offF w h s) (offF w h t) := by
  unfold offF
  exact sw_upw (sw_upw e (by rw [e 4 (by decide), e 0 (by decide)])) rfl
theorem sw_go {w s t : Wd} {D : Nat → Nat → Int} {h : Int} (hB : WB w) (e : SW16 s t) (hS : SBw w s) (hb : ¬ s 1 = -1) : SW16 (goF w D h s).1 (goF w D h t).1 ∧ (goF w D h s).2 = (goF w D h t).2 := by
  have h7 := hB.2.2.2.2.1
  have h5 := hB.2.2.1
  rcases hS with z | ⟨b, p, hb1, hb7, hp, hpn⟩
  · exact absurd z hb
  have hp2 := (e 0 (by decide)).symm.trans hp
  by_cases c : h < s 3
  · rw [go_sl c, go_sl (by rw [← e 3 (by decide)]; exact c)]
    exact ⟨e, rfl⟩
  · have c2 : ¬ h < t 3 := by rw [← e 3 (by decide)]; exact c
    have es := sw_steer (D := D) (p := p) h5.2 e
    rcases steer_ok w D p s with z | ⟨k, k1, k2, k3, k4⟩
    · rw [go_sta hp c z, go_sta hp2 c2 (by rw [← es]; exact z)]
      exact ⟨e, rfl⟩
    · have k5 : steerF w D p t = (k : Int) := by rw [← es]; exact k1
      obtain ⟨g, hg⟩ : ∃ g : Int, w (31 + 2 * k) = g := ⟨_, rfl⟩
      by_cases ee : w (31 + 2 * k) = (p : Int)
      · have x : ∀ u : Wd, u 0 = (p : Int) → ¬ h < u 3 → steerF w D p u = (k : Int) → goF w D h u = (eatF u k, 2) := fun u u1 u2 u3 => by
          unfold goF
          rw [if_neg u2, u1, show ((p : Nat) : Int).toNat = p from rfl, u3, if_neg (by omega), show ((k : Nat) : Int).toNat = k from rfl, if_pos ee]
        rw [x s hp c k1, x t hp2 c2 k5]
        exact ⟨sw_eat e hb1 (by omega) (by omega), rfl⟩
      · have x : ∀ u : Wd, u 0 = (p : Int) → ¬ h < u 3 → steerF w D p u = (k : Int) → goF w D h u = (carF w u (stepF w D p (w (31 + 2 * k)).toNat), 3) := fun u u1 u2 u3 => by
          unfold goF
          rw [if_neg u2, u1, show ((p : Nat) : Int).toNat = p from rfl, u3, if_neg (by omega), show ((k : Nat) : Int).toNat = k from rfl, if_neg ee]
        rw [x s hp c k1, x t hp2 c2 k5]
        exact ⟨sw_car e hb1 (by omega) _, rfl⟩
theorem sbw_sw {w s t : Wd} (e : SW16 s t) (h : SBw w s) : SBw w t := by
  rcases h with z | ⟨b, p, h1, h2, h3, h4⟩
  · exact Or.inl ((e 1 (by decide)).symm.trans z)
  · exact Or.inr ⟨b, p, (e 1 (by decide)).symm.trans h1, h2, (e 0 (by decide)).symm.trans h3, h4⟩
theorem sw_hour {w s t : Wd} {D : Nat → Nat → Int} {h a : Int} (hB : WB w) (e : SW16 s t) (hS : SBw w s) : SW16 (hourF w D h a s).1 (hourF w D h a t).1 ∧ (hourF w D h a s).2 = (hourF w D h a t).2 := by
  have e1 := e 1 (by decide)
  by_cases hb : s 1 = -1
  · rw [hour_0 hb, hour_0 (e1.symm.trans hb)]
    exact ⟨e, rfl⟩
  have hb2 : ¬ t 1 = -1 := fun z => hb (e1.trans z)
  have ec := sw_can (w := w) (D := D) (h := h) (a := a) e
  have h7 := hB.2.2.2.2.1
  by_cases c : canF w D h a s = true
  · have c2 : canF w D h a t = true := by rw [← ec]; exact c
    by_cases a2 : a = 2
    · rw [hour_th hb c a2, hour_th hb2 c2 a2]
      exact ⟨sw_over e 1, rfl⟩
    · by_cases a10 : 10 ≤ a
      · rw [hour_ca hb c a2 a10, hour_ca hb2 c2 a2 a10]
        rcases hS with z | ⟨b, p, hb1, hb7, hp, hpn⟩
        · exact absurd z hb
        · exact ⟨sw_car e hb1 (by omega) _, rfl⟩
      · by_cases a1 : a = 1
        · rw [hour_of hb c a1, hour_of hb2 c2 a1]
          have e3 : offF w h s 3 = h + 3 := by unfold offF; rw [upw_at]
          have e4 : offF w h t 3 = h + 3 := by unfold offF; rw [upw_at]
          rw [go_sl (by rw [e3]; omega), go_sl (by rw [e4]; omega)]
          exact ⟨sw_off e, rfl⟩
        · by_cases a0 : a = 0
          · exact absurd c (can_a0 a0)
          · exact absurd c (fun z => by
              unfold canF at z
              rw [if_neg hb, if_neg a0, if_neg a1] at z
              by_cases d : ¬ h < s 3
              · rw [if_pos d] at z; exact absurd z (by decide)
              · rw [if_neg d, if_neg a2, Bool.and_eq_true, decide_eq_true_eq] at z
                exact a10 z.1)
  · have c2 : ¬ canF w D h a t = true := by rw [← ec]; exact c
    rw [hour_go hb c, hour_go hb2 c2]
    exact sw_go hB e hS hb
theorem sw_ok {w s t : Wd} {D : Nat → Nat → Int} {h a : Nat} (e : SW16 s t) : okH w D h a s = okH w D h a t := by
  unfold okH
  rw [sw_can e]
