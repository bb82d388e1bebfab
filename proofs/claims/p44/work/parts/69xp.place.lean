/-! the places that a text tells are places of the isle -/
theorem need_ok {X : Nat → Int} {q : Nat} {r : PR} {g : Nat × Wd} (h : pNeed X q r = .ok g) : ∃ p, r = .ok (p, g.2) := by
  cases r with
  | error e => cases h
  | ok a =>
    have h' : (if isWd X a.1 q = true then (.ok (nE X a.1, a.2) : PR) else .error (1, (nS X a.1 : Int))) = .ok g := h
    by_cases c : isWd X a.1 q = true
    · rw [if_pos c] at h'; cases h'; exact ⟨a.1, rfl⟩
    · rw [if_neg c] at h'; cases h'
theorem num_ok {X : Nat → Int} {lo hi : Int} {r : PR} {g : Int × Nat × Wd} (h : pNum X lo hi r = .ok g) : (∃ p, r = .ok (p, g.2.2)) ∧ lo ≤ g.1 ∧ g.1 ≤ hi := by
  cases r with
  | error e => cases h
  | ok a =>
    have h' : (if ¬ nK X a.1 = 2 then (.error (1, (nS X a.1 : Int)) : PV) else if lo ≤ nV X a.1 ∧ nV X a.1 ≤ hi then .ok (nV X a.1, nE X a.1, a.2) else .error (2, (nS X a.1 : Int))) = .ok g := h
    by_cases c : nK X a.1 = 2
    · rw [if_neg (not_not_intro c)] at h'
      by_cases d : lo ≤ nV X a.1 ∧ nV X a.1 ≤ hi
      · rw [if_pos d] at h'; cases h'; exact ⟨⟨a.1, rfl⟩, d⟩
      · rw [if_neg d] at h'; cases h'
    · rw [if_pos c] at h'; cases h'
theorem pl_ok {X : Nat → Int} {r : PR} {g : Int × Nat × Wd} (h : pPl X r = .ok g) : (∃ p, r = .ok (p, g.2.2)) ∧ 0 ≤ g.1 ∧ g.1 ≤ g.2.2 0 - 1 := by
  cases r with
  | error e => cases h
  | ok a =>
    have h' : pNum X 0 (a.2 0 - 1) (.ok a) = .ok g := h
    obtain ⟨⟨p, e⟩, h1, h2⟩ := num_ok h'
    cases e
    exact ⟨⟨p, rfl⟩, h1, h2⟩
theorem set_ok {i : Nat} {r : PV} {g : Nat × Wd} (h : pSet i r = .ok g) : ∃ x q w, r = .ok (x, q, w) ∧ g.2 = upw w i x := by
  cases r with
  | error e => cases h
  | ok a =>
    have h' : (.ok (a.2.1, upw a.2.2 i a.1) : PR) = .ok g := h
    cases h'
    exact ⟨a.1, a.2.1, a.2.2, rfl, rfl⟩
theorem bind_ok {r : PR} {f : Nat × Wd → PR} {g : Nat × Wd} (h : r.bind f = .ok g) : ∃ a, r = .ok a ∧ f a = .ok g := by
  cases r with
  | error e => cases h
  | ok a => exact ⟨a, rfl, h⟩
theorem bindV_ok {r : PV} {f : Int × Nat × Wd → PR} {g : Nat × Wd} (h : r.bind f = .ok g) : ∃ a, r = .ok a ∧ f a = .ok g := by
  cases r with
  | error e => cases h
  | ok a => exact ⟨a, rfl, h⟩
theorem at_ok {X : Nat → Int} {k many q c s : Nat} {lo hi : Int} {w : Wd} {g : Nat × Wd} (h : pAt X k many q lo hi c (.ok (s, w)) = .ok g) : ∃ v x, 0 ≤ v ∧ v ≤ w 0 - 1 ∧ (lo ≤ x ∧ x ≤ hi) ∧ g.2 = upw (upw (upw w k v) (k + 1) x) many ((c : Int) + 1) := by
  obtain ⟨a, h1, h2⟩ := bind_ok h
  obtain ⟨x, q1, w1, h3, h4⟩ := set_ok h1
  obtain ⟨⟨p1, h5⟩, x1, x2⟩ := num_ok h3
  obtain ⟨p2, h6⟩ := need_ok h5
  obtain ⟨v, q2, w2, h7, h8⟩ := set_ok h6
  obtain ⟨⟨p3, h9⟩, b1, b2⟩ := pl_ok h7
  obtain ⟨p4, h10⟩ := need_ok h9
  have e2 : w2 = w := by
    have h11 : (.ok (s, w) : PR) = .ok (p4, w2) := h10
    cases h11; rfl
  have h8' : w1 = upw w2 k v := h8
  have b1' : 0 ≤ v := b1
  have b2' : v ≤ w2 0 - 1 := b2
  have h12 : (.ok (a.1, upw a.2 many ((c : Int) + 1)) : PR) = .ok g := h2
  cases h12
  refine ⟨v, x, b1', by rw [← e2]; exact b2', ⟨x1, x2⟩, ?_⟩
  show upw a.2 many ((c : Int) + 1) = _
  rw [h4, h8', e2]
/-- trees, vines and bearers stand at places -/
def WP (w : Wd) : Prop := (∀ t : Nat, t < 5 → (t : Int) < w 5 → 0 ≤ w (31 + 2 * t) ∧ w (31 + 2 * t) < w 0) ∧ (∀ t : Nat, t < 3 → (t : Int) < w 6 → 0 ≤ w (41 + 2 * t) ∧ w (41 + 2 * t) < w 0) ∧ (∀ t : Nat, t < 5 → (t : Int) < w 7 → 0 ≤ w (47 + 2 * t) ∧ w (47 + 2 * t) < w 0 ∧ 1 ≤ w (48 + 2 * t) ∧ w (48 + 2 * t) ≤ 99)
/-- what every line keeps -/
def PWd (w : Wd) : Prop := WP w ∧ (0 ≤ w 5 ∧ w 5 ≤ 5) ∧ (0 ≤ w 6 ∧ w 6 ≤ 3) ∧ (0 ≤ w 7 ∧ w 7 ≤ 5) ∧ (0 ≤ w 9 ∧ 0 ≤ w 4 ∧ w 4 ≤ 10) ∧ (w 9 = 0 → w 5 = 0 ∧ w 6 = 0 ∧ w 7 = 0)
theorem WP_eq {w w' : Wd} (h : WP w) (e : ∀ i : Nat, (i = 0 ∨ (5 ≤ i ∧ i ≤ 7) ∨ (31 ≤ i ∧ i < 57)) → w' i = w i) : WP w' := by
  obtain ⟨h1, h2, h3⟩ := h
  refine ⟨fun t a b => ?_, fun t a b => ?_, fun t a b => ?_⟩
  · rw [e 5 (by omega)] at b
    rw [e 0 (by omega), e (31 + 2 * t) (by omega)]; exact h1 t a b
  · rw [e 6 (by omega)] at b
    rw [e 0 (by omega), e (41 + 2 * t) (by omega)]; exact h2 t a b
  · rw [e 7 (by omega)] at b
    rw [e 0 (by omega), e (47 + 2 * t) (by omega), e (48 + 2 * t) (by omega)]; exact h3 t a b
theorem WP_0 {w : Wd} (h5 : w 5 = 0) (h6 : w 6 = 0) (h7 : w 7 = 0) : WP w := ⟨fun t _ b => by omega, fun t _ b => by omega, fun t _ b => by omega⟩
/-- what a line keeps before its sign -/
def PW0 (w w' : Wd) : Prop := WP w' ∧ (0 ≤ w' 5 ∧ w' 5 ≤ 5) ∧ (0 ≤ w' 6 ∧ w' 6 ≤ 3) ∧ (0 ≤ w' 7 ∧ w' 7 ≤ 5) ∧ w' 9 = w 9 ∧ 0 ≤ w' 4 ∧ w' 4 ≤ 10
theorem pw_first {X : Nat → Int} {p : Nat} {w : Wd} {g : Nat × Wd} (hw : PWd w) (h9 : w 9 = 0) (h : pFirst X (.ok (p, w)) = .ok g) : PW0 w g.2 := by
  obtain ⟨x3, q3, w3, a3, e3⟩ := set_ok h
  obtain ⟨⟨p3, b3⟩, -, -⟩ := num_ok a3
  obtain ⟨p3', c3⟩ := need_ok b3
  obtain ⟨x2, q2, w2, a2, e2⟩ := set_ok c3
  obtain ⟨⟨p2, b2⟩, -, -⟩ := num_ok a2
  obtain ⟨p2', c2⟩ := need_ok b2
  obtain ⟨x1, q1, w1, a1, e1⟩ := set_ok c2
  obtain ⟨⟨p1, b1⟩, -, -⟩ := num_ok a1
  obtain ⟨p1', c1⟩ := need_ok b1
  obtain ⟨x0, q0, w0, a0, e0⟩ := set_ok c1
  obtain ⟨⟨p0, b0⟩, -, -⟩ := num_ok a0
  obtain ⟨p0', c0⟩ := need_ok b0
  obtain ⟨p0'', d0⟩ := need_ok c0
  have f0 : w0 = w := by
    have z : (.ok (p, w) : PR) = .ok (p0'', w0) := d0
    cases z; rfl
  have f1 : w1 = upw w0 0 x0 := e0
  have f2 : w2 = upw w1 1 x1 := e1
  have f3 : w3 = upw w2 2 x2 := e2
  have f4 : g.2 = upw w3 3 x3 := e3
  have z : ∀ i : Nat, 4 ≤ i → g.2 i = w i := fun i hi => by rw [f4, upw_ne (by omega), f3, upw_ne (by omega), f2, upw_ne (by omega), f1, upw_ne (by omega), f0]
  obtain ⟨-, -, -, -, ⟨-, b4⟩, h0⟩ := hw
  obtain ⟨k5, k6, k7⟩ := h0 h9
  have g5 := (z 5 (by decide)).trans k5
  have g6 := (z 6 (by decide)).trans k6
  have g7 := (z 7 (by decide)).trans k7
  exact ⟨WP_0 g5 g6 g7, ⟨by omega, by omega⟩, ⟨by omega, by omega⟩, ⟨by omega, by omega⟩, z 9 (by decide), by rw [z 4 (by decide)]; exact b4⟩
theorem pw_next {X : Nat → Int} {p : Nat} {w : Wd} {g : Nat × Wd} (hw : PWd w) (h : pNext X p w = .ok g) : PW0 w g.2 := by
  obtain ⟨hp, b5, b6, b7, ⟨-, b4⟩, -⟩ := hw
  unfold pNext at h
  by_cases c0 : isWd X p 0 = true
  · rw [if_pos c0] at h
    by_cases d : w 4 = 10
    · rw [if_pos d] at h; cases h
    · rw [if_neg d] at h
      obtain ⟨a, h1, h2⟩ := bind_ok h
      obtain ⟨y, q1, w1, h3, h4⟩ := set_ok h1
      obtain ⟨⟨p1, h5⟩, -, -⟩ := pl_ok h3
      obtain ⟨a2, h6, h7⟩ := bind_ok h5
      obtain ⟨p2, h8⟩ := need_ok h6
      obtain ⟨x, q2, w2, h9, h10⟩ := set_ok h8
      obtain ⟨⟨p3, h11⟩, -, -⟩ := pl_ok h9
      have e2 : w2 = w := by
        have z : (.ok (nE X p, w) : PR) = .ok (p3, w2) := h11
        cases z; rfl
      have e3 : a2.2 = upw w2 (11 + 2 * (w 4).toNat) x := h10
      have e4 : w1 = a2.2 := by
        have z : (if nK X a2.1 = 2 ∧ nV X a2.1 = a2.2 (11 + 2 * (w 4).toNat) then (.error (2, (nS X a2.1 : Int)) : PR) else .ok a2) = .ok (p1, w1) := h7
        by_cases c : nK X a2.1 = 2 ∧ nV X a2.1 = a2.2 (11 + 2 * (w 4).toNat)
        · rw [if_pos c] at z; cases z
        · rw [if_neg c] at z; cases z; rfl
      have e5 : a.2 = upw w1 (12 + 2 * (w 4).toNat) y := h4
      have e6 : g.2 = upw a.2 4 (((w 4).toNat : Int) + 1) := by
        have z : (.ok (a.1, upw a.2 4 (((w 4).toNat : Int) + 1)) : PR) = .ok g := h2
        cases z; rfl
      have z2 : ∀ i : Nat, (i = 0 ∨ (5 ≤ i ∧ i < 11) ∨ 31 ≤ i) → g.2 i = w i := fun i hi => by rw [e6, upw_ne (by omega), e5, upw_ne (by omega), e4, e3, upw_ne (by omega), e2]
      have z4 : g.2 4 = ((w 4).toNat : Int) + 1 := by rw [e6, upw_at]
      exact ⟨WP_eq hp (fun i hi => z2 i (by omega)), by rw [z2 5 (by omega)]; exact b5, by rw [z2 6 (by omega)]; exact b6, by rw [z2 7 (by omega)]; exact b7, z2 9 (by omega), by omega⟩
  · rw [if_neg c0] at h
    by_cases c1 : isWd X p 1 = true
    · rw [if_pos c1] at h
      by_cases d : w 5 = 5
      · rw [if_pos d] at h; cases h
      · rw [if_neg d] at h
        obtain ⟨v, x, v1, v2, xb, e⟩ := at_ok h
        obtain ⟨c, hc⟩ : ∃ c : Nat, w 5 = (c : Int) := ⟨(w 5).toNat, by omega⟩
        rw [show (w 5).toNat = c by omega] at e
        have z : ∀ i : Nat, ¬ i = 5 → ¬ i = 31 + 2 * c → ¬ i = 31 + 2 * c + 1 → g.2 i = w i := fun i i1 i2 i3 => by rw [e, upw_ne i1, upw_ne i3, upw_ne i2]
        have z5 : g.2 5 = (c : Int) + 1 := by rw [e, upw_at]
        have zv : g.2 (31 + 2 * c) = v := by rw [e, upw_ne (by omega), upw_ne (by omega), upw_at]
        refine ⟨⟨fun t a b => ?_, fun t a b => ?_, fun t a b => ?_⟩, by omega, by rw [z 6 (by omega) (by omega) (by omega)]; exact b6, by rw [z 7 (by omega) (by omega) (by omega)]; exact b7, z 9 (by omega) (by omega) (by omega), by rw [z 4 (by omega) (by omega) (by omega)]; exact b4⟩
        · rw [z5] at b
          rw [z 0 (by omega) (by omega) (by omega)]
          by_cases q : t = c
          · rw [q, zv]; omega
          · rw [z (31 + 2 * t) (by omega) (by omega) (by omega)]; exact hp.1 t a (by omega)
        · rw [z 6 (by omega) (by omega) (by omega)] at b
          rw [z 0 (by omega) (by omega) (by omega), z (41 + 2 * t) (by omega) (by omega) (by omega)]; exact hp.2.1 t a b
        · rw [z 7 (by omega) (by omega) (by omega)] at b
          rw [z 0 (by omega) (by omega) (by omega), z (47 + 2 * t) (by omega) (by omega) (by omega), z (48 + 2 * t) (by omega) (by omega) (by omega)]; exact hp.2.2 t a b
    · rw [if_neg c1] at h
      by_cases c2 : isWd X p 2 = true
      · rw [if_pos c2] at h
        by_cases d : w 6 = 3
        · rw [if_pos d] at h; cases h
        · rw [if_neg d] at h
          obtain ⟨v, x, v1, v2, xb, e⟩ := at_ok h
          obtain ⟨c, hc⟩ : ∃ c : Nat, w 6 = (c : Int) := ⟨(w 6).toNat, by omega⟩
          rw [show (w 6).toNat = c by omega] at e
          have z : ∀ i : Nat, ¬ i = 6 → ¬ i = 41 + 2 * c → ¬ i = 41 + 2 * c + 1 → g.2 i = w i := fun i i1 i2 i3 => by rw [e, upw_ne i1, upw_ne i3, upw_ne i2]
          have z5 : g.2 6 = (c : Int) + 1 := by rw [e, upw_at]
          have zv : g.2 (41 + 2 * c) = v := by rw [e, upw_ne (by omega), upw_ne (by omega), upw_at]
          refine ⟨⟨fun t a b => ?_, fun t a b => ?_, fun t a b => ?_⟩, by rw [z 5 (by omega) (by omega) (by omega)]; exact b5, by omega, by rw [z 7 (by omega) (by omega) (by omega)]; exact b7, z 9 (by omega) (by omega) (by omega), by rw [z 4 (by omega) (by omega) (by omega)]; exact b4⟩
          · rw [z 5 (by omega) (by omega) (by omega)] at b
            rw [z 0 (by omega) (by omega) (by omega), z (31 + 2 * t) (by omega) (by omega) (by omega)]; exact hp.1 t a b
          · rw [z5] at b
            rw [z 0 (by omega) (by omega) (by omega)]
            by_cases q : t = c
            · rw [q, zv]; omega
            · rw [z (41 + 2 * t) (by omega) (by omega) (by omega)]; exact hp.2.1 t a (by omega)
          · rw [z 7 (by omega) (by omega) (by omega)] at b
            rw [z 0 (by omega) (by omega) (by omega), z (47 + 2 * t) (by omega) (by omega) (by omega), z (48 + 2 * t) (by omega) (by omega) (by omega)]; exact hp.2.2 t a b
      · rw [if_neg c2] at h
        by_cases c4 : isWd X p 4 = true
        · rw [if_pos c4] at h
          by_cases d : w 7 = 5
          · rw [if_pos d] at h; cases h
          · rw [if_neg d] at h
            obtain ⟨v, x, v1, v2, xb, e⟩ := at_ok h
            obtain ⟨c, hc⟩ : ∃ c : Nat, w 7 = (c : Int) := ⟨(w 7).toNat, by omega⟩
            rw [show (w 7).toNat = c by omega] at e
            have z : ∀ i : Nat, ¬ i = 7 → ¬ i = 47 + 2 * c → ¬ i = 47 + 2 * c + 1 → g.2 i = w i := fun i i1 i2 i3 => by rw [e, upw_ne i1, upw_ne i3, upw_ne i2]
            have z5 : g.2 7 = (c : Int) + 1 := by rw [e, upw_at]
            have zv : g.2 (47 + 2 * c) = v := by rw [e, upw_ne (by omega), upw_ne (by omega), upw_at]
            have zx : g.2 (48 + 2 * c) = x := by rw [show 48 + 2 * c = 47 + 2 * c + 1 by omega, e, upw_ne (by omega), upw_at]
            refine ⟨⟨fun t a b => ?_, fun t a b => ?_, fun t a b => ?_⟩, by rw [z 5 (by omega) (by omega) (by omega)]; exact b5, by rw [z 6 (by omega) (by omega) (by omega)]; exact b6, by omega, z 9 (by omega) (by omega) (by omega), by rw [z 4 (by omega) (by omega) (by omega)]; exact b4⟩
            · rw [z 5 (by omega) (by omega) (by omega)] at b
              rw [z 0 (by omega) (by omega) (by omega), z (31 + 2 * t) (by omega) (by omega) (by omega)]; exact hp.1 t a b
            · rw [z 6 (by omega) (by omega) (by omega)] at b
              rw [z 0 (by omega) (by omega) (by omega), z (41 + 2 * t) (by omega) (by omega) (by omega)]; exact hp.2.1 t a b
            · rw [z5] at b
              rw [z 0 (by omega) (by omega) (by omega)]
              by_cases q : t = c
              · rw [q, zv, zx]; omega
              · rw [z (47 + 2 * t) (by omega) (by omega) (by omega), z (48 + 2 * t) (by omega) (by omega) (by omega)]; exact hp.2.2 t a (by omega)
        · rw [if_neg c4] at h
          by_cases c3 : isWd X p 3 = true
          · rw [if_pos c3] at h
            obtain ⟨a, h1, h2⟩ := bindV_ok h
            obtain ⟨⟨p1, h3⟩, -, -⟩ := pl_ok h1
            obtain ⟨p2, h4⟩ := need_ok h3
            have e1 : a.2.2 = w := by
              have z : (.ok (nE X p, w) : PR) = .ok (p2, a.2.2) := h4
              cases z; rfl
            have e2 : g.2 = upw a.2.2 10 (ior (a.2.2 10) (ishl 1 a.1)) := by
              have z : (.ok (a.2.1, upw a.2.2 10 (ior (a.2.2 10) (ishl 1 a.1))) : PR) = .ok g := h2
              cases z; rfl
            have z : ∀ i : Nat, ¬ i = 10 → g.2 i = w i := fun i hi => by rw [e2, upw_ne hi, e1]
            exact ⟨WP_eq hp (fun i hi => z i (by omega)), by rw [z 5 (by omega)]; exact b5, by rw [z 6 (by omega)]; exact b6, by rw [z 7 (by omega)]; exact b7, z 9 (by omega), by rw [z 4 (by omega)]; exact b4⟩
          · rw [if_neg c3] at h; cases h
theorem pw_line {X : Nat → Int} {p : Nat} {w : Wd} {g : Nat × Wd} (hw : PWd w) (h : pLine X p w = .ok g) : PWd g.2 := by
  obtain ⟨a, h1, h2⟩ := bind_ok h
  have ha : PW0 w a.2 := by
    by_cases c : w 9 = 0
    · rw [if_pos c] at h1; exact pw_first hw c h1
    · rw [if_neg c] at h1; exact pw_next hw h1
  have h3 : (if nK X a.1 = 3 then (.ok (nE X a.1, upw a.2 9 (a.2 9 + 1)) : PR) else .error (1, (nS X a.1 : Int))) = .ok g := h2
  by_cases c : nK X a.1 = 3
  · rw [if_pos c] at h3
    cases h3
    show PWd (upw a.2 9 (a.2 9 + 1))
    obtain ⟨k1, k2, k3, k4, k5⟩ := ha
    have h9 := hw.2.2.2.2.1.1
    refine ⟨WP_eq k1 (fun i hi => upw_ne (by omega)), by rw [show upw a.2 9 (a.2 9 + 1) 5 = a.2 5 from upw_ne (by decide)]; exact k2, by rw [show upw a.2 9 (a.2 9 + 1) 6 = a.2 6 from upw_ne (by decide)]; exact k3, by rw [show upw a.2 9 (a.2 9 + 1) 7 = a.2 7 from upw_ne (by decide)]; exact k4, ?_, fun z => ?_⟩
    · rw [show upw a.2 9 (a.2 9 + 1) 9 = a.2 9 + 1 from upw_at, show upw a.2 9 (a.2 9 + 1) 4 = a.2 4 from upw_ne (by decide)]; omega
    · rw [show upw a.2 9 (a.2 9 + 1) 9 = a.2 9 + 1 from upw_at] at z; omega
  · rw [if_neg c] at h3; cases h3
theorem pall_w {X : Nat → Int} : ∀ (N p : Nat) (w w' : Wd), PWd w → pAll X N p w = .ok w' → PWd w' := by
  intro N
  induction N with
  | zero => intro p w w' h e; cases e; exact h
  | succ N ih =>
    intro p w w' h e
    unfold pAll at e
    by_cases c : nK X p = 0
    · rw [if_pos c] at e; cases e; exact h
    · rw [if_neg c] at e
      cases d : pLine X p w with
      | error x => rw [d] at e; cases e
      | ok g =>
        rw [d] at e
        exact ih g.1 g.2 w' (pw_line h d) e
