/-! least ways: the sums behind layWays -/
theorem nu_at {m : Mm} {o i : Nat} {x : Int} : nu_up m o i x o i = x := by unfold nu_up; rw [if_pos rfl, if_pos rfl]
theorem nu_ne {m : Mm} {o i j : Nat} {x : Int} (h : ¬ j = i) : nu_up m o i x o j = m o j := by unfold nu_up; rw [if_pos rfl, if_neg h]
theorem nu_no {m : Mm} {o p i j : Nat} {x : Int} (h : ¬ p = o) : nu_up m o i x p j = m p j := by unfold nu_up; rw [if_neg h]
/-- path i < k of a world joins a and b -/
def jn (w : Nat → Int) (k a b : Nat) : Prop := ∃ i : Nat, i < k ∧ ((w (11 + 2 * i) = a ∧ w (12 + 2 * i) = b) ∨ (w (11 + 2 * i) = b ∧ w (12 + 2 * i) = a))
def W0 (w : Nat → Int) (k : Nat) (D : Nat → Nat → Int) : Prop := ∀ a b : Nat, a < 7 → b < 7 → (a = b → D a b = 0) ∧ (jn w k a b → D a b = 1) ∧ (¬ a = b → ¬ jn w k a b → D a b = FAR)
theorem W0_st {w : Nat → Int} {k p q : Nat} {D D' : Nat → Nat → Int} (h : W0 w k D) (hp : w (11 + 2 * k) = (p : Int)) (hq : w (12 + 2 * k) = (q : Int)) (hpq : ¬ p = q) (h1 : ∀ a b : Nat, a < 7 → b < 7 → ((a = p ∧ b = q) ∨ (a = q ∧ b = p)) → D' a b = 1) (h2 : ∀ a b : Nat, a < 7 → b < 7 → ¬ ((a = p ∧ b = q) ∨ (a = q ∧ b = p)) → D' a b = D a b) : W0 w (k + 1) D' := by
  intro a b ha hb
  by_cases e : (a = p ∧ b = q) ∨ (a = q ∧ b = p)
  · refine ⟨fun z => by omega, fun _ => h1 a b ha hb e, fun _ z => absurd ⟨k, Nat.lt_succ_self k, ?_⟩ z⟩
    rw [hp, hq]
    omega
  · rw [h2 a b ha hb e]
    obtain ⟨g1, g2, g3⟩ := h a b ha hb
    refine ⟨g1, fun ⟨i, hi, z⟩ => g2 ⟨i, ?_, z⟩, fun z1 z2 => g3 z1 (fun ⟨i, hi, z⟩ => z2 ⟨i, by omega, z⟩)⟩
    by_cases hik : i = k
    · subst hik
      rw [hp, hq] at z
      omega
    · omega
def Wk (n : Nat) (adj : Nat → Nat → Prop) (k : Nat) (D : Nat → Nat → Int) : Prop :=
  (∀ a : Nat, a < 7 → D a a = 0) ∧ (∀ a b : Nat, a < 7 → b < 7 → ¬ a = b → 1 ≤ D a b ∧ D a b ≤ FAR) ∧ (∀ a b : Nat, a < 7 → b < 7 → adj a b → D a b = 1) ∧ (∀ a b c : Nat, a < n → b < n → c < n → c < k → D a b ≤ D a c + D c b)
    ∧ (∀ a b : Nat, a < 7 → b < 7 → ¬ a = b → D a b < FAR → ∃ c : Nat, c < 7 ∧ adj a c ∧ (c = b ∨ (c < k ∧ c < n)) ∧ D c b = D a b - 1) ∧ (∀ a b : Nat, a < 7 → b < 7 → ¬ a = b → D a b < FAR → (n ≤ a ∨ n ≤ b) → adj a b)
theorem Wk_0 {w : Nat → Int} {N n : Nat} {D : Nat → Nat → Int} (h : W0 w N D) : Wk n (jn w N) 0 D := by
  refine ⟨fun a ha => (h a a ha ha).1 rfl, fun a b ha hb hab => ?_, fun a b ha hb hj => (h a b ha hb).2.1 hj, fun a b c _ _ _ hc => absurd hc (Nat.not_lt_zero _), fun a b ha hb hab hlt => ?_, fun a b ha hb hab hlt _ => ?_⟩
  · obtain ⟨_, g2, g3⟩ := h a b ha hb
    unfold FAR at *
    by_cases e : jn w N a b
    · rw [g2 e]; omega
    · rw [g3 hab e]; omega
  · obtain ⟨_, g2, g3⟩ := h a b ha hb
    by_cases e : jn w N a b
    · refine ⟨b, hb, e, Or.inl rfl, ?_⟩
      rw [g2 e, (h b b hb hb).1 rfl]; rfl
    · have := g3 hab e
      omega
  · obtain ⟨_, g2, g3⟩ := h a b ha hb
    by_cases e : jn w N a b
    · exact e
    · have := g3 hab e
      omega
theorem Wk_st {n k : Nat} {adj : Nat → Nat → Prop} {D D' : Nat → Nat → Int} (h : Wk n adj k D) (hn : n ≤ 7) (hk : k < n) (h1 : ∀ a b : Nat, a < 7 → b < 7 → (a < n ∧ b < n) → D' a b = min (D a b) (D a k + D k b)) (h2 : ∀ a b : Nat, a < 7 → b < 7 → ¬ (a < n ∧ b < n) → D' a b = D a b) : Wk n adj (k + 1) D' := by
  obtain ⟨i0, i1, i2, i3, i4, i5⟩ := h
  have kk := i0 k (by omega)
  have nn : ∀ a b : Nat, a < 7 → b < 7 → 0 ≤ D a b := fun a b ha hb => by
    by_cases e : a = b
    · subst e; rw [i0 a ha]; omega
    · have := i1 a b ha hb e; omega
  have le : ∀ a b : Nat, a < 7 → b < 7 → D' a b ≤ D a b := fun a b ha hb => by
    by_cases e : a < n ∧ b < n
    · rw [h1 a b ha hb e]; omega
    · rw [h2 a b ha hb e]; omega
  have j0 : ∀ a : Nat, a < 7 → D' a a = 0 := fun a ha => by
    have := i0 a ha
    by_cases e : a < n ∧ a < n
    · rw [h1 a a ha ha e]
      have := nn a k ha (by omega)
      have := nn k a (by omega) ha
      omega
    · rw [h2 a a ha ha e]; exact this
  have j1 : ∀ a b : Nat, a < 7 → b < 7 → ¬ a = b → 1 ≤ D' a b ∧ D' a b ≤ FAR := fun a b ha hb hab => by
    have g := i1 a b ha hb hab
    refine ⟨?_, Int.le_trans (le a b ha hb) g.2⟩
    by_cases e : a < n ∧ b < n
    · rw [h1 a b ha hb e]
      have p1 := nn a k ha (by omega)
      have p2 := nn k b (by omega) hb
      by_cases e1 : a = k
      · have := i1 k b (by omega) hb (by omega)
        omega
      · have := i1 a k ha (by omega) e1
        omega
    · rw [h2 a b ha hb e]; exact g.1
  have j2 : ∀ a b : Nat, a < 7 → b < 7 → adj a b → D' a b = 1 := fun a b ha hb hj => by
    have g := i2 a b ha hb hj
    have hab : ¬ a = b := fun e => by
      subst e
      have := i0 a ha
      omega
    have := j1 a b ha hb hab
    have := le a b ha hb
    omega
  have j3 : ∀ a b c : Nat, a < n → b < n → c < n → c < k + 1 → D' a b ≤ D' a c + D' c b := fun a b c ha hb hc hck => by
    have r1 := h1 a b (by omega) (by omega) ⟨ha, hb⟩
    have r2 := h1 a c (by omega) (by omega) ⟨ha, hc⟩
    have r3 := h1 c b (by omega) (by omega) ⟨hc, hb⟩
    have p1 := nn c k (by omega) (by omega)
    have p2 := nn k c (by omega) (by omega)
    by_cases e : c = k
    · subst e
      omega
    · have t1 := i3 a b c ha hb hc (by omega)
      have t2 := i3 a k c ha hk hc (by omega)
      have t3 := i3 k b c hk hb hc (by omega)
      omega
  refine ⟨j0, j1, j2, j3, fun a b ha hb hab hlt => ?_, fun a b ha hb hab hlt hor => ?_⟩
  · by_cases e : a < n ∧ b < n
    · have r1 := h1 a b ha hb e
      have key : ∀ c : Nat, c < 7 → adj a c → c < k + 1 → c < n → D' c b ≤ D' a b - 1 → D' c b = D' a b - 1 := fun c hc7 hj hc hcn hle => by
        have t := j3 a b c e.1 e.2 hcn hc
        rw [j2 a c ha hc7 hj] at t
        omega
      by_cases e2 : D' a b = D a b
      · obtain ⟨c, c1, c2, c3, c4⟩ := i4 a b ha hb hab (by omega)
        refine ⟨c, c1, c2, ?_, ?_⟩
        · omega
        · rcases c3 with c3 | c3
          · subst c3
            have := i0 c c1
            have := j0 c c1
            omega
          · have := le c b c1 hb
            exact key c c1 c2 (by omega) c3.2 (by omega)
      · have e3 : D' a b = D a k + D k b := by omega
        have hak : ¬ a = k := fun z => by subst z; omega
        have nk := nn k b (by omega) hb
        obtain ⟨c, c1, c2, c3, c4⟩ := i4 a k ha (by omega) hak (by omega)
        have hcn : c < n := by omega
        have hl : D' c b ≤ D' a b - 1 := by
          rw [h1 c b c1 hb ⟨hcn, e.2⟩]
          omega
        exact ⟨c, c1, c2, Or.inr ⟨by omega, hcn⟩, key c c1 c2 (by omega) hcn hl⟩
    · have r := h2 a b ha hb e
      have hj := i5 a b ha hb hab (by omega) (by omega)
      refine ⟨b, hb, hj, Or.inl rfl, ?_⟩
      rw [j2 a b ha hb hj, j0 b hb]; rfl
  · rw [h2 a b ha hb (by omega)] at hlt
    exact i5 a b ha hb hab hlt hor
theorem jn_adj {w : Nat → Int} {N a b : Nat} (hN : w 4 = (N : Int)) (h10 : N ≤ 10) : jn w N a b ↔ adjW w a b := by
  constructor
  · rintro ⟨i, hi, h⟩
    exact ⟨i, by omega, by omega, h⟩
  · rintro ⟨i, h1, h2, h⟩
    exact ⟨i, by omega, h⟩
theorem Wk_end {w : Nat → Int} {N n : Nat} {D : Nat → Nat → Int} (hN : w 4 = (N : Int)) (h10 : N ≤ 10) (hn : n ≤ 7) (h : Wk n (jn w N) n D) : Wy (n : Int) (adjW w) D := by
  obtain ⟨i0, i1, i2, i3, i4, i5⟩ := h
  refine ⟨i0, fun a b ha hb hab => (i1 a b ha hb hab).1, fun a b ha hb hj => i2 a b ha hb ((jn_adj hN h10).mpr hj), fun a b c ha hb hc => i3 a b c (by omega) (by omega) (by omega) (by omega), fun a b ha hb hab hlt => ?_⟩
  obtain ⟨c, c1, c2, -, c4⟩ := i4 a b ha hb hab hlt
  exact ⟨c, c1, (jn_adj hN h10).mp c2, c4⟩
theorem Fr_ua {W : List Nat} {m : Mm} {o i : Nat} {x : Int} (hk : decide ((tyK (tyO o)).1 < 100) = false) (hw : W.contains (tyO o * 1000 + 999) = true) : Fr W m (nu_up m o i x) := Fr_up (by rw [if_neg (of_decide_eq_false hk)]; exact hw)
