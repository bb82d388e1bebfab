/-! the hunt: rows of acts that throw him in an hour -/
/-- lists one behind another -/
def catL {β : Type} (g : Nat → List β) : Nat → List β
  | 0 => []
  | k + 1 => catL g k ++ g k
theorem catL_nil {β : Type} {g : Nat → List β} : ∀ k : Nat, (∀ i : Nat, i < k → g i = []) → catL g k = [] := by
  intro k
  induction k with
  | zero => intro _; rfl
  | succ k ih =>
    intro e
    show catL g k ++ g k = []
    rw [ih (fun i hi => e i (by omega)), e k (by omega)]; rfl
theorem catL_ne {β : Type} {g : Nat → List β} {k : Nat} (h : ¬ catL g k = []) : ∃ i : Nat, i < k ∧ ¬ g i = [] := by
  apply Classical.byContradiction
  intro z
  refine h (catL_nil k (fun i hi => ?_))
  apply Classical.byContradiction
  intro y
  exact z ⟨i, hi, y⟩
theorem catL_c {β : Type} {g f : Nat → List β} : ∀ k : Nat, (∀ i : Nat, i < k → g i = f i) → catL g k = catL f k := by
  intro k
  induction k with
  | zero => intro _; rfl
  | succ k ih =>
    intro e
    show catL g k ++ g k = catL f k ++ f k
    rw [ih (fun i hi => e i (by omega)), e k (by omega)]
/-- an act that is tried -/
def okH (w : Wd) (D : Nat → Nat → Int) (h a : Nat) (s : Wd) : Bool := decide (a = 0) || canF w D (h : Int) (a : Int) s
theorem okH_0 {w : Wd} {D : Nat → Nat → Int} {h : Nat} {s : Wd} : okH w D h 0 s = true := by unfold okH; rfl
theorem okH_c {w : Wd} {D : Nat → Nat → Int} {h a : Nat} {s : Wd} (ha : ¬ a = 0) : okH w D h a s = canF w D (h : Int) (a : Int) s := by
  unfold okH
  rw [decide_eq_false ha, Bool.false_or]
/-- the rows that begin with an act: R tells those from the state behind it -/
def altH (w : Wd) (D : Nat → Nat → Int) (L h : Nat) (s : Wd) (R : Wd → List (List Int)) (a : Nat) : List (List Int) :=
  if okH w D h a s = true then (if a = 2 then (if h = L then [[2]] else []) else if h = L then [] else (R (hourF w D (h : Int) (a : Int) s).1).map (fun r => (a : Int) :: r)) else []
/-- all rows of acts from hour h on that throw him in hour L, in their order -/
def rowsH (w : Wd) (D : Nat → Nat → Int) (np L : Nat) : Nat → Nat → Wd → List (List Int)
  | 0, _, _ => []
  | f + 1, h, s => if s 1 = -1 ∨ L < h then [] else catL (altH w D L h s (fun q => rowsH w D np L f (h + 1) q)) (10 + np)
theorem rowsH_s {w : Wd} {D : Nat → Nat → Int} {np L f h : Nat} {s : Wd} (hb : ¬ s 1 = -1) (hL : h ≤ L) : rowsH w D np L (f + 1) h s = catL (altH w D L h s (fun q => rowsH w D np L f (h + 1) q)) (10 + np) := if_neg (fun z => by omega)
theorem rowsH_no {w : Wd} {D : Nat → Nat → Int} {np L f h : Nat} {s : Wd} (h1 : s 1 = -1 ∨ L < h) : rowsH w D np L f h s = [] := by
  cases f with
  | zero => rfl
  | succ f => exact if_pos h1
theorem altH_no {w : Wd} {D : Nat → Nat → Int} {L h a : Nat} {s : Wd} {R : Wd → List (List Int)} (h1 : ¬ okH w D h a s = true) : altH w D L h s R a = [] := if_neg h1
theorem altH_th {w : Wd} {D : Nat → Nat → Int} {L h a : Nat} {s : Wd} {R : Wd → List (List Int)} (h1 : okH w D h a s = true) (h2 : a = 2) : altH w D L h s R a = if h = L then [[2]] else [] := by
  unfold altH; rw [if_pos h1, if_pos h2]
theorem altH_go {w : Wd} {D : Nat → Nat → Int} {L h a : Nat} {s : Wd} {R : Wd → List (List Int)} (h1 : okH w D h a s = true) (h2 : ¬ a = 2) (hL : ¬ h = L) : altH w D L h s R a = (R (hourF w D (h : Int) (a : Int) s).1).map (fun r => (a : Int) :: r) := by
  unfold altH; rw [if_pos h1, if_neg h2, if_neg hL]
theorem altH_la {w : Wd} {D : Nat → Nat → Int} {L h a : Nat} {s : Wd} {R : Wd → List (List Int)} (h2 : ¬ a = 2) (hL : h = L) : altH w D L h s R a = [] := by
  unfold altH
  by_cases h1 : okH w D h a s = true
  · rw [if_pos h1, if_neg h2, if_pos hL]
  · rw [if_neg h1]
theorem map_nil_iff {α β : Type} {f : α → β} {l : List α} : l.map f = [] ↔ l = [] := by
  cases l with
  | nil => exact ⟨fun _ => rfl, fun _ => rfl⟩
  | cons a l => exact ⟨fun z => absurd z (by simp), fun z => absurd z (by simp)⟩
/-- a row that throws in hour L has an act for each hour from h to L -/
theorem rowsH_len {w : Wd} {D : Nat → Nat → Int} {np L : Nat} : ∀ (f h : Nat) (s : Wd) (r : List Int), r ∈ rowsH w D np L f h s → h ≤ L ∧ r.length = L + 1 - h := by
  intro f
  induction f with
  | zero => intro h s r hr; cases hr
  | succ f ih =>
    intro h s r hr
    by_cases c : s 1 = -1 ∨ L < h
    · rw [rowsH_no c] at hr; cases hr
    · rw [rowsH_s (by omega) (by omega)] at hr
      have g : ∀ k : Nat, r ∈ catL (altH w D L h s (fun q => rowsH w D np L f (h + 1) q)) k → h ≤ L ∧ r.length = L + 1 - h := by
        intro k
        induction k with
        | zero => intro z; cases z
        | succ k ik =>
          intro z
          rcases List.mem_append.mp z with z1 | z1
          · exact ik z1
          · by_cases h1 : okH w D h k s = true
            · by_cases h2 : k = 2
              · rw [altH_th h1 h2] at z1
                by_cases h3 : h = L
                · rw [if_pos h3] at z1
                  have z2 : r = [2] := by
                    cases z1 with
                    | head => rfl
                    | tail _ z => cases z
                  rw [z2]
                  exact ⟨by omega, by show 1 = L + 1 - h; omega⟩
                · rw [if_neg h3] at z1; cases z1
              · by_cases h3 : h = L
                · rw [altH_la h2 h3] at z1; cases z1
                · rw [altH_go h1 h2 h3] at z1
                  obtain ⟨q, q1, q2⟩ := List.mem_map.mp z1
                  obtain ⟨i1, i2⟩ := ih (h + 1) _ q q1
                  rw [← q2]
                  exact ⟨by omega, by show q.length + 1 = L + 1 - h; omega⟩
            · rw [altH_no h1] at z1; cases z1
      exact g _ hr
theorem car_st {w s : Wd} {b : Nat} {g : Int} (hb : s 1 = (b : Int)) (hb5 : b < 5) (h1 : ¬ carF w s g 1 = -1) : carF w s g 0 = g ∧ carF w s g 3 = s 3 ∧ carF w s g 4 = s 4 := by
  by_cases c : s (6 + b) + s 2 ≤ w (48 + 2 * b)
  · rw [car_lo hb c]
    exact ⟨by rw [upw_ne (by omega), upw_at], by rw [upw_ne (by omega), upw_ne (by decide)], by rw [upw_ne (by omega), upw_ne (by decide)]⟩
  · by_cases d : strongF w g (ior (s 5) (ishl 1 (b : Int))) = -1
    · rw [car_no hb c d] at h1; exact absurd over_1 h1
    · rw [car_ch hb c d]
      exact ⟨by rw [upw_ne (by decide), upw_ne (by decide), upw_ne (by omega), upw_at], by rw [upw_ne (by decide), upw_ne (by decide), upw_ne (by omega), upw_ne (by decide)], by rw [upw_ne (by decide), upw_ne (by decide), upw_ne (by omega), upw_ne (by decide)]⟩
theorem can_vine {w s : Wd} {D : Nat → Nat → Int} {h a : Int} (hc : canF w D h a s = true) (ha : a = 1) : ∃ v : Nat, vineF w (s 0) h (s 4) = (v : Int) ∧ (v : Int) < w 6 ∧ w (42 + 2 * v) ≤ h ∧ ¬ bitF (s 4) v = true ∧ w (41 + 2 * v) = s 0 := by
  have hb : ¬ s 1 = -1 := fun z => by unfold canF at hc; rw [if_pos z] at hc; cases hc
  have hv : ¬ vineF w (s 0) h (s 4) = -1 := fun z => by
    unfold canF at hc
    rw [if_neg hb, if_neg (by omega), if_pos ha, decide_eq_true z, Bool.and_eq_true] at hc
    exact absurd hc.2 (by decide)
  rcases firstF_of (fun v => decide (w (42 + 2 * v) ≤ h) && !bitF (s 4) v && decide (w (41 + 2 * v) = s 0)) (w 6).toNat with ⟨z, _⟩ | ⟨v, v1, v2, v3, _⟩
  · exact absurd z hv
  · have v4 : (decide (w (42 + 2 * v) ≤ h) && !bitF (s 4) v && decide (w (41 + 2 * v) = s 0)) = true := v2
    rw [Bool.and_eq_true, Bool.and_eq_true, decide_eq_true_eq, decide_eq_true_eq] at v4
    refine ⟨v, v3, by omega, v4.1.1, fun z => ?_, v4.2⟩
    rw [z] at v4
    exact absurd v4.1.2 (by decide)
/-- what an hour without a throw does to place, wine and vines -/
def StepH (w : Wd) (D : Nat → Nat → Int) (h : Nat) (s s2 : Wd) : Prop := ∃ p p2 : Nat, s 0 = (p : Int) ∧ (p : Int) < w 0 ∧ s2 0 = (p2 : Int) ∧ (p2 : Int) < w 0 ∧ ((s2 3 = s 3 ∧ s2 4 = s 4 ∧ (p2 = p ∨ D p p2 = 1)) ∨ (p2 = p ∧ s2 3 = (h : Int) + 3 ∧ ¬ (h : Int) < s 3 ∧ ∃ v : Nat, (v : Int) < w 6 ∧ s2 4 = ior (s 4) (ishl 1 (v : Int)) ∧ w (42 + 2 * v) ≤ (h : Int) ∧ ¬ bitF (s 4) v = true ∧ w (41 + 2 * v) = (p : Int)))
theorem hour_step {w s : Wd} {D : Nat → Nat → Int} {h a : Nat} (hB : WB w) (hP : WP w) (hD : WyD w D) (hS : SBw w s) (ha : a ≤ 16) (hok : okH w D h a s = true) (h2 : ¬ a = 2) (hb : ¬ s 1 = -1) (hs : ¬ (hourF w D (h : Int) (a : Int) s).1 1 = -1) : StepH w D h s (hourF w D (h : Int) (a : Int) s).1 := by
  have h7 := hB.2.2.2.2.1
  have h0 := hB.1
  have h5 := hB.2.2.1
  rcases hS with z | ⟨b, p, hb1, hb7, hp, hpn⟩
  · exact absurd z hb
  by_cases hc : canF w D (h : Int) (a : Int) s = true
  · by_cases h10 : 10 ≤ a
    · have e := hour_ca hb hc (by omega) (show (10 : Int) ≤ (a : Int) by omega)
      rw [e] at hs ⊢
      have hs2 : ¬ carF w s ((a : Int) - 10) 1 = -1 := hs
      obtain ⟨c0, c3, c4⟩ := car_st hb1 (by omega) hs2
      obtain ⟨g, g1, g2⟩ := can_goal hB hD hp (by omega) ⟨by omega, by omega⟩ hc
      have hd := can_dr hc (by omega)
      have hD1 := (can_car (e := g) hb hp (by omega) hd).mp hc
      exact ⟨p, g, hp, hpn, c0.trans g1, g2, Or.inl ⟨c3, c4, Or.inr hD1⟩⟩
    · by_cases h1 : a = 1
      · have e := hour_of hb hc (show (a : Int) = 1 by omega)
        have e3 : offF w (h : Int) s 3 = (h : Int) + 3 := by unfold offF; rw [upw_at]
        rw [e, go_sl (show (h : Int) < offF w (h : Int) s 3 by omega)] at hs ⊢
        obtain ⟨v, v1, v2, v3, v4, v5⟩ := can_vine hc (by omega)
        refine ⟨p, p, hp, hpn, ?_, hpn, Or.inr ⟨rfl, e3, can_sob hc (by omega), v, v2, ?_, v3, v4, v5.trans hp⟩⟩
        · show offF w (h : Int) s 0 = (p : Int)
          unfold offF; rw [upw_ne (by decide), upw_ne (by decide)]; exact hp
        · show offF w (h : Int) s 4 = _
          unfold offF; rw [upw_ne (by decide), upw_at, v1]
      · by_cases h00 : a = 0
        · exact absurd hc (can_a0 (by omega))
        · exact absurd hc (can_no (by omega) (by omega) (by omega))
  · have e := hour_go hb hc
    rw [e] at hs ⊢
    by_cases c : (h : Int) < s 3
    · rw [go_sl c] at hs ⊢
      exact ⟨p, p, hp, hpn, hp, hpn, Or.inl ⟨rfl, rfl, Or.inl rfl⟩⟩
    · rcases steer_ok w D p s with z | ⟨t, t1, t2, t3, t4⟩
      · rw [go_sta hp c z] at hs ⊢
        exact ⟨p, p, hp, hpn, hp, hpn, Or.inl ⟨rfl, rfl, Or.inl rfl⟩⟩
      · have t5 := hP.1 t (by omega) t2
        obtain ⟨g, hg⟩ : ∃ g : Nat, w (31 + 2 * t) = (g : Int) := ⟨(w (31 + 2 * t)).toNat, by omega⟩
        rw [nat_of hg] at t4
        by_cases ee : (g : Int) = (p : Int)
        · rw [go_ea hp c t1 hg ee] at hs ⊢
          refine ⟨p, p, hp, hpn, ?_, hpn, Or.inl ⟨?_, ?_, Or.inl rfl⟩⟩
          · show eatF s t 0 = (p : Int)
            rw [eat_b hb1, upw_ne (by omega), upw_ne (by decide), upw_ne (by omega)]; exact hp
          · show eatF s t 3 = s 3
            rw [eat_b hb1, upw_ne (by omega), upw_ne (by decide), upw_ne (by omega)]
          · show eatF s t 4 = s 4
            rw [eat_b hb1, upw_ne (by omega), upw_ne (by decide), upw_ne (by omega)]
        · rw [go_ca hp c t1 hg ee] at hs ⊢
          have hs2 : ¬ carF w s (stepF w D p g) 1 = -1 := hs
          obtain ⟨q, q1, q2, q3, q4⟩ := step_ok hB hD hpn (g := g) (by omega) (fun x => ee (by omega)) t4
          obtain ⟨c0, c3, c4⟩ := car_st hb1 (by omega) hs2
          exact ⟨p, q, hp, hpn, c0.trans q1, q2, Or.inl ⟨c3, c4, Or.inr q3⟩⟩
/-- the emptied vines are told by bits -/
def V8s (s : Wd) : Prop := ∃ c : Nat, c < 8 ∧ s 4 = (c : Int)
theorem v8_or {s s2 : Wd} {v : Nat} (h : V8s s) (hv : v < 3) (e : s2 4 = ior (s 4) (ishl 1 (v : Int))) : V8s s2 ∧ ∀ k : Nat, k < 3 → (bitF (s2 4) k = true ↔ bitF (s 4) k = true ∨ k = v) := by
  obtain ⟨c, c1, c2⟩ := h
  obtain ⟨d, d1, d2, d3⟩ := or_8b c c1 v hv
  rw [c2, d2] at e
  refine ⟨⟨d, d1, e⟩, fun k hk => ?_⟩
  rw [bitF_i, bitF_i, e, c2, bt_8b d d1 k hk, bt_8b c c1 k hk, d3 k hk]
  by_cases z : k = v
  · rw [if_pos z]; exact ⟨fun _ => Or.inr z, fun _ => rfl⟩
  · rw [if_neg z]; exact ⟨fun y => Or.inl y, fun y => y.resolve_right z⟩
theorem v8_step {w s s2 : Wd} {D : Nat → Nat → Int} {h : Nat} (hB : WB w) (hv : V8s s) (st : StepH w D h s s2) : V8s s2 ∧ ∀ k : Nat, k < 3 → bitF (s 4) k = true → bitF (s2 4) k = true := by
  have h6 := hB.2.2.2.1
  obtain ⟨p, p2, _, _, _, _, ⟨_, e4, _⟩ | ⟨_, _, _, v, v1, e4, _⟩⟩ := st
  · obtain ⟨c, c1, c2⟩ := hv
    exact ⟨⟨c, c1, e4.trans c2⟩, fun k _ z => by rw [e4]; exact z⟩
  · obtain ⟨z1, z2⟩ := v8_or hv (v := v) (by omega) e4
    exact ⟨z1, fun k hk z => (z2 k hk).mpr (Or.inl z)⟩
/-- without wine at hand or in him he isn't thrown -/
theorem rows_wine {w : Wd} {D : Nat → Nat → Int} (hB : WB w) (hP : WP w) (hD : WyD w D) {np L : Nat} (hL : L < 12) : ∀ (f h : Nat) (s : Wd), SB w s h → V8s s → np ≤ 7 → ¬ rowsH w D np L f h s = [] → (h : Int) < s 3 ∨ ∃ v : Nat, (v : Int) < w 6 ∧ ¬ bitF (s 4) v = true ∧ w (42 + 2 * v) < (L : Int) := by
  intro f
  induction f with
  | zero => intro h s _ _ _ z; exact absurd rfl z
  | succ f ih =>
    intro h s hS hv hn hr
    by_cases c : s 1 = -1 ∨ L < h
    · exact absurd (rowsH_no c) hr
    have hb : ¬ s 1 = -1 := fun z => c (Or.inl z)
    by_cases hd : (h : Int) < s 3
    · exact Or.inl hd
    right
    rw [rowsH_s hb (by omega)] at hr
    obtain ⟨a, a1, a2⟩ := catL_ne hr
    by_cases h1 : okH w D h a s = true
    · by_cases h2 : a = 2
      · rw [okH_c (by omega)] at h1
        exact absurd (can_dr h1 (by omega)) hd
      · by_cases h3 : h = L
        · exact absurd (altH_la h2 h3) a2
        · rw [altH_go h1 h2 h3, map_nil_iff] at a2
          by_cases ha1 : a = 1
          · rw [okH_c (by omega)] at h1
            obtain ⟨v, v1, v2, v3, v4, v5⟩ := can_vine h1 (by omega)
            exact ⟨v, v2, v4, by omega⟩
          · by_cases ha0 : a = 0
            · have hs2 : ¬ (hourF w D (h : Int) (a : Int) s).1 1 = -1 := fun z => a2 (rowsH_no (Or.inl z))
              have st := hour_step hB hP hD hS.1 (by omega) h1 h2 hb hs2
              have sb := sb_hour hB hP hD (k := h) (a := (a : Int)) (h := (h : Int)) (by omega) ⟨by omega, by omega⟩ hS
              have v2 := v8_step hB hv st
              have e4 : (hourF w D (h : Int) (a : Int) s).1 3 = s 3 ∧ (hourF w D (h : Int) (a : Int) s).1 4 = s 4 := by
                obtain ⟨p, p2, _, _, _, _, ⟨e3, e4, _⟩ | ⟨_, e3, _, v, _⟩⟩ := st
                · exact ⟨e3, e4⟩
                · exfalso
                  have hc : ¬ canF w D (h : Int) (a : Int) s = true := can_a0 (by omega)
                  have e5 := hour_go hb hc
                  rw [e5] at e3
                  have g3 : (goF w D (h : Int) s).1 3 = s 3 := by
                    rcases hS.1 with z | ⟨b, p, hb1, hb7, hp, hpn⟩
                    · exact absurd z hb
                    · have h7 := hB.2.2.2.2.1
                      have h5 := hB.2.2.1
                      rcases steer_ok w D p s with z | ⟨t, t1, t2, t3, t4⟩
                      · rw [go_sta hp hd z]
                      · have t5 := hP.1 t (by omega) t2
                        obtain ⟨g, hg⟩ : ∃ g : Nat, w (31 + 2 * t) = (g : Int) := ⟨(w (31 + 2 * t)).toNat, by omega⟩
                        by_cases ee : (g : Int) = (p : Int)
                        · rw [go_ea hp hd t1 hg ee]
                          show eatF s t 3 = s 3
                          rw [eat_b hb1, upw_ne (by omega), upw_ne (by decide), upw_ne (by omega)]
                        · rw [e5, go_ca hp hd t1 hg ee] at hs2
                          rw [go_ca hp hd t1 hg ee]
                          exact (car_st hb1 (by omega) hs2).2.1
                  omega
              rcases ih (h + 1) _ sb v2.1 hn a2 with z | ⟨v, v3, v4, v5⟩
              · rw [e4.1] at z; exact absurd z (by omega)
              · rw [e4.2] at v4; exact ⟨v, v3, v4, v5⟩
            · rw [okH_c ha0] at h1
              exact absurd (can_dr h1 (by omega)) hd
    · exact absurd (altH_no h1) a2
/-- how far a brook is: at most 7 -/
def bwL (w : Wd) (D : Nat → Nat → Int) (p : Nat) : Nat → Int
  | 0 => 7
  | k + 1 => if bitF (w 10) k = true ∧ D p k < FAR then min (bwL w D p k) (D p k) else bwL w D p k
def bwF (w : Wd) (D : Nat → Nat → Int) (p : Nat) : Int := bwL w D p (w 0).toNat
theorem bwL_y {w : Wd} {D : Nat → Nat → Int} {p k : Nat} (h : bitF (w 10) k = true ∧ D p k < FAR) : bwL w D p (k + 1) = min (bwL w D p k) (D p k) := if_pos h
theorem bwL_n {w : Wd} {D : Nat → Nat → Int} {p k : Nat} (h : ¬ (bitF (w 10) k = true ∧ D p k < FAR)) : bwL w D p (k + 1) = bwL w D p k := if_neg h
theorem bwL_le {w : Wd} {D : Nat → Nat → Int} {p : Nat} : ∀ k : Nat, bwL w D p k ≤ 7 ∧ ∀ q : Nat, q < k → bitF (w 10) q = true → D p q < FAR → bwL w D p k ≤ D p q := by
  intro k
  induction k with
  | zero => exact ⟨Int.le_refl _, fun q hq => absurd hq (Nat.not_lt_zero _)⟩
  | succ k ih =>
    by_cases c : bitF (w 10) k = true ∧ D p k < FAR
    · rw [bwL_y c]
      refine ⟨by omega, fun q hq h1 h2 => ?_⟩
      by_cases e : q = k
      · rw [e]; omega
      · have := ih.2 q (by omega) h1 h2; omega
    · rw [bwL_n c]
      refine ⟨ih.1, fun q hq h1 h2 => ?_⟩
      by_cases e : q = k
      · rw [e] at h1 h2; exact absurd ⟨h1, h2⟩ c
      · exact ih.2 q (by omega) h1 h2
theorem bwL_at {w : Wd} {D : Nat → Nat → Int} {p : Nat} : ∀ k : Nat, bwL w D p k = 7 ∨ ∃ q : Nat, q < k ∧ bitF (w 10) q = true ∧ D p q < FAR ∧ bwL w D p k = D p q := by
  intro k
  induction k with
  | zero => exact Or.inl rfl
  | succ k ih =>
    by_cases c : bitF (w 10) k = true ∧ D p k < FAR
    · rw [bwL_y c]
      by_cases d : bwL w D p k ≤ D p k
      · rw [Int.min_eq_left d]
        rcases ih with z | ⟨q, q1, q2⟩
        · exact Or.inl z
        · exact Or.inr ⟨q, by omega, q2⟩
      · rw [Int.min_eq_right (by omega)]
        exact Or.inr ⟨k, by omega, c.1, c.2, rfl⟩
    · rw [bwL_n c]
      rcases ih with z | ⟨q, q1, q2⟩
      · exact Or.inl z
      · exact Or.inr ⟨q, by omega, q2⟩
/-- a way that is none is far, one that is one is at most 6 -/
def Dsm (w : Wd) (D : Nat → Nat → Int) : Prop := ∀ a b : Nat, (a : Int) < w 0 → (b : Int) < w 0 → 0 ≤ D a b ∧ (D a b < FAR → D a b ≤ 6)
theorem dsm_of {m : Mm} {o : Nat} {w : Wd} {D : Nat → Nat → Int} (hw : WD m o w) (hD : WyD w D) : Dsm w D := fun a b ha hb => by
  have z := wd_way hw hD ha hb
  exact ⟨z.2.1, z.2.2.1⟩
theorem d_tri {w : Wd} {D : Nat → Nat → Int} (hB : WB w) (hD : WyD w D) {a b c : Nat} (ha : (a : Int) < w 0) (hb : (b : Int) < w 0) (hc : (c : Int) < w 0) : D a b ≤ D a c + D c b := hD.2.2.2.1 a b c ha hb hc
theorem d_sym1 {w : Wd} {D : Nat → Nat → Int} (hB : WB w) (hD : WyD w D) {a b : Nat} (ha : (a : Int) < w 0) (hb : (b : Int) < w 0) (h : D a b = 1) : D b a = 1 := by
  have h0 := hB.1
  refine (wd_one hD (by omega) (by omega)).mp ?_
  have z := (wd_one hD (p := a) (q := b) (by omega) (by omega)).mpr h
  obtain ⟨k, k1, k2, k3⟩ := z
  exact ⟨k, k1, k2, k3.symm.imp (fun q => q) (fun q => q)⟩
theorem bw_step {w : Wd} {D : Nat → Nat → Int} (hB : WB w) (hD : WyD w D) (hs : Dsm w D) {p q : Nat} (hp : (p : Int) < w 0) (hq : (q : Int) < w 0) (h : D p q = 1) : bwF w D p ≤ bwF w D q + 1 := by
  unfold bwF
  have z := bwL_le (w := w) (D := D) (p := p) (w 0).toNat
  rcases bwL_at (w := w) (D := D) (p := q) (w 0).toNat with y | ⟨b, b1, b2, b3, b4⟩
  · omega
  · have t := d_tri hB hD hp (b := b) (by omega) hq
    have s1 := hs q b hq (by omega)
    have b5 := s1.2 b3
    have x : D p b < FAR := by show D p b < 1000000000; omega
    have := z.2 b b1 b2 x
    omega
/-- the soonest hour in which he could be thrown -/
def soL (w : Wd) (D : Nat → Nat → Int) (h : Int) (s : Wd) : Nat → Int
  | 0 => if h + bwF w D (s 0).toNat < s 3 then h + bwF w D (s 0).toNat else 12
  | k + 1 => if ¬ bitF (s 4) k = true ∧ D (s 0).toNat (w (41 + 2 * k)).toNat < FAR ∧ 1 + bwF w D (w (41 + 2 * k)).toNat < 3 then min (soL w D h s k) (max (max (h + D (s 0).toNat (w (41 + 2 * k)).toNat) (w (42 + 2 * k))) (max h (s 3)) + (1 + bwF w D (w (41 + 2 * k)).toNat)) else soL w D h s k
def soF (w : Wd) (D : Nat → Nat → Int) (h : Int) (s : Wd) : Int := soL w D h s (w 6).toNat
def soC (w : Wd) (D : Nat → Nat → Int) (s : Wd) (k : Nat) : Prop := ¬ bitF (s 4) k = true ∧ D (s 0).toNat (w (41 + 2 * k)).toNat < FAR ∧ 1 + bwF w D (w (41 + 2 * k)).toNat < 3
def soT (w : Wd) (D : Nat → Nat → Int) (h : Int) (s : Wd) (k : Nat) : Int := max (max (h + D (s 0).toNat (w (41 + 2 * k)).toNat) (w (42 + 2 * k))) (max h (s 3)) + (1 + bwF w D (w (41 + 2 * k)).toNat)
theorem soL_y {w : Wd} {D : Nat → Nat → Int} {h : Int} {s : Wd} {k : Nat} (c : soC w D s k) : soL w D h s (k + 1) = min (soL w D h s k) (soT w D h s k) := if_pos c
theorem soL_n {w : Wd} {D : Nat → Nat → Int} {h : Int} {s : Wd} {k : Nat} (c : ¬ soC w D s k) : soL w D h s (k + 1) = soL w D h s k := if_neg c
theorem soL_0 {w : Wd} {D : Nat → Nat → Int} {h : Int} {s : Wd} : ∀ k : Nat, soL w D h s k ≤ soL w D h s 0 ∧ ∀ i : Nat, i < k → soC w D s i → soL w D h s k ≤ soT w D h s i := by
  intro k
  induction k with
  | zero => exact ⟨Int.le_refl _, fun i hi => absurd hi (Nat.not_lt_zero _)⟩
  | succ k ih =>
    by_cases c : soC w D s k
    · rw [soL_y c]
      refine ⟨by omega, fun i hi h1 => ?_⟩
      by_cases e : i = k
      · rw [e]; omega
      · have := ih.2 i (by omega) h1; omega
    · rw [soL_n c]
      refine ⟨ih.1, fun i hi h1 => ?_⟩
      by_cases e : i = k
      · rw [e] at h1; exact absurd h1 c
      · exact ih.2 i (by omega) h1
theorem soL_ge {w : Wd} {D : Nat → Nat → Int} {h x : Int} {s : Wd} (h0 : x ≤ soL w D h s 0) : ∀ k : Nat, (∀ i : Nat, i < k → soC w D s i → x ≤ soT w D h s i) → x ≤ soL w D h s k := by
  intro k
  induction k with
  | zero => intro _; exact h0
  | succ k ih =>
    intro e
    have z := ih (fun i hi => e i (by omega))
    by_cases c : soC w D s k
    · rw [soL_y c]
      have := e k (by omega) c
      omega
    · rw [soL_n c]; exact z
theorem soL_at {w : Wd} {D : Nat → Nat → Int} {h : Int} {s : Wd} : ∀ k : Nat, soL w D h s k = soL w D h s 0 ∨ ∃ i : Nat, i < k ∧ soC w D s i ∧ soL w D h s k = soT w D h s i := by
  intro k
  induction k with
  | zero => exact Or.inl rfl
  | succ k ih =>
    by_cases c : soC w D s k
    · rw [soL_y c]
      by_cases d : soL w D h s k ≤ soT w D h s k
      · rw [Int.min_eq_left d]
        rcases ih with z | ⟨i, i1, i2⟩
        · exact Or.inl z
        · exact Or.inr ⟨i, by omega, i2⟩
      · rw [Int.min_eq_right (by omega)]
        exact Or.inr ⟨k, by omega, c, rfl⟩
    · rw [soL_n c]
      rcases ih with z | ⟨i, i1, i2⟩
      · exact Or.inl z
      · exact Or.inr ⟨i, by omega, i2⟩
theorem soL_b {w : Wd} {D : Nat → Nat → Int} {h : Int} {s : Wd} {p : Nat} (hp : s 0 = (p : Int)) (c : h + bwF w D p < s 3) : soL w D h s 0 = h + bwF w D p := by
  show (if h + bwF w D (s 0).toNat < s 3 then h + bwF w D (s 0).toNat else 12) = _
  rw [nat_of hp, if_pos c]
theorem soL_b0 {w : Wd} {D : Nat → Nat → Int} {h : Int} {s : Wd} {p : Nat} (hp : s 0 = (p : Int)) (c : ¬ h + bwF w D p < s 3) : soL w D h s 0 = 12 := by
  show (if h + bwF w D (s 0).toNat < s 3 then h + bwF w D (s 0).toNat else 12) = _
  rw [nat_of hp, if_neg c]
/-- a state behind an hour tells no sooner throw -/
theorem so_step {w s s2 : Wd} {D : Nat → Nat → Int} {h L : Nat} (hB : WB w) (hP : WP w) (hD : WyD w D) (hs : Dsm w D) (hv : V8s s) (st : StepH w D h s s2) (hL : L < 12) (e : soF w D ((h : Int) + 1) s2 ≤ (L : Int)) : soF w D (h : Int) s ≤ (L : Int) := by
  have h0 := hB.1
  have h6 := hB.2.2.2.1
  have hv2 := v8_step hB hv st
  obtain ⟨p, p2, hp, hpn, hp2, hpn2, st⟩ := st
  have z := soL_0 (w := w) (D := D) (h := (h : Int)) (s := s) (w 6).toNat
  unfold soF at e ⊢
  have hb : bwF w D p ≤ bwF w D p2 + 1 ∧ D p p2 ≤ 1 := by
    rcases st with ⟨_, _, e5 | e5⟩ | ⟨e5, _⟩
    · rw [e5]; exact ⟨by omega, by rw [hD.1 p (by omega)]; decide⟩
    · exact ⟨bw_step hB hD hs hpn hpn2 e5, by omega⟩
    · rw [e5]; exact ⟨by omega, by rw [hD.1 p (by omega)]; decide⟩
  rcases soL_at (w := w) (D := D) (h := (h : Int) + 1) (s := s2) (w 6).toNat with y | ⟨i, i1, i2, i3⟩
  · by_cases c : (h : Int) + 1 + bwF w D p2 < s2 3
    · rw [soL_b hp2 c] at y
      rcases st with ⟨e3, _, _⟩ | ⟨e5, e3, e6, v, v1, v2, v3, v4, v5⟩
      · have x := soL_b (w := w) (D := D) (h := (h : Int)) hp (by omega)
        have := z.1
        omega
      · have x := z.2 v (by omega) ⟨v4, by rw [nat_of hp, nat_of v5, hD.1 p (by omega)]; decide, by rw [nat_of v5]; rw [e5] at c; omega⟩
        unfold soT at x
        rw [nat_of hp, nat_of v5, hD.1 p (by omega)] at x
        rw [e5] at y
        omega
    · rw [soL_b0 hp2 c] at y
      omega
  · obtain ⟨c1, c2, c3⟩ := i2
    have v0 : ∃ g : Nat, w (41 + 2 * i) = (g : Int) ∧ (g : Int) < w 0 := by
      have := hP.2.1 i (by omega) (by omega)
      exact ⟨(w (41 + 2 * i)).toNat, by omega, by omega⟩
    obtain ⟨g, g1, g2⟩ := v0
    unfold soT at i3
    rw [nat_of hp2, nat_of g1] at c2 i3
    rw [nat_of g1] at c3
    have d6 := (hs p2 g hpn2 g2).2 c2
    have d0 := (hs p2 g hpn2 g2).1
    have t := d_tri hB hD hpn g2 hpn2
    have f : D p g < FAR := by show D p g < 1000000000; omega
    have n4 : ¬ bitF (s 4) i = true := fun q => c1 (hv2.2 i (by omega) q)
    have x := z.2 i (by omega) ⟨n4, by rw [nat_of hp, nat_of g1]; exact f, by rw [nat_of g1]; exact c3⟩
    unfold soT at x
    rw [nat_of hp, nat_of g1] at x
    rcases st with ⟨e3, _, _⟩ | ⟨e5, e3, e6, v, v1, v2, v3, v4, v5⟩
    · rw [e3] at i3; omega
    · rw [e5] at i3; omega
/-- who can be thrown at once -/
theorem so_thr {w s : Wd} {D : Nat → Nat → Int} {h p : Nat} (hB : WB w) (hD : WyD w D) (hp : s 0 = (p : Int)) (hpn : (p : Int) < w 0) (hb : ¬ s 1 = -1) (hc : canF w D (h : Int) 2 s = true) : soF w D (h : Int) s ≤ (h : Int) := by
  have h0 := hB.1
  have hd := can_dr hc (by decide)
  have b1 : bitF (w 10) p = true := by
    unfold canF at hc
    rw [if_neg hb, if_neg (by decide), if_neg (by decide), if_neg (fun q => q hd), if_pos (by decide), nat_of hp] at hc
    exact hc
  have d0 := hD.1 p (by omega)
  have x := (bwL_le (w := w) (D := D) (p := p) (w 0).toNat).2 p (by omega) b1 (by rw [d0]; decide)
  rw [d0] at x
  have y := soL_b (w := w) (D := D) (h := (h : Int)) (s := s) hp (show (h : Int) + bwL w D p (w 0).toNat < s 3 by omega)
  have z := (soL_0 (w := w) (D := D) (h := (h : Int)) (s := s) (w 6).toNat).1
  have : soL w D (h : Int) s 0 ≤ (h : Int) := by rw [y]; show (h : Int) + bwL w D p (w 0).toNat ≤ _; omega
  unfold soF
  omega
/-- the class looks no further where no throw can come -/
theorem rows_so {w : Wd} {D : Nat → Nat → Int} (hB : WB w) (hP : WP w) (hD : WyD w D) (hs : Dsm w D) {np L : Nat} (hL : L < 12) (hn : np ≤ 7) : ∀ (f h : Nat) (s : Wd), SB w s h → V8s s → ¬ rowsH w D np L f h s = [] → soF w D (h : Int) s ≤ (L : Int) := by
  intro f
  induction f with
  | zero => intro h s _ _ z; exact absurd rfl z
  | succ f ih =>
    intro h s hS hv hr
    by_cases c : s 1 = -1 ∨ L < h
    · exact absurd (rowsH_no c) hr
    have hb : ¬ s 1 = -1 := fun z => c (Or.inl z)
    rw [rowsH_s hb (by omega)] at hr
    obtain ⟨a, a1, a2⟩ := catL_ne hr
    by_cases h1 : okH w D h a s = true
    · by_cases h2 : a = 2
      · have hc : canF w D (h : Int) (a : Int) s = true := by
          rw [okH_c (by omega)] at h1
          exact h1
        by_cases h3 : h = L
        · rcases hS.1 with z | ⟨b, p, hb1, hb7, hp, hpn⟩
          · exact absurd z hb
          · rw [h2] at hc
            rw [← h3]
            exact so_thr hB hD hp hpn hb hc
        · rw [altH_th h1 h2, if_neg h3] at a2; exact absurd rfl a2
      · by_cases h3 : h = L
        · exact absurd (altH_la h2 h3) a2
        · rw [altH_go h1 h2 h3, map_nil_iff] at a2
          have hs2 : ¬ (hourF w D (h : Int) (a : Int) s).1 1 = -1 := fun z => a2 (rowsH_no (Or.inl z))
          have st := hour_step hB hP hD hS.1 (by omega) h1 h2 hb hs2
          have sb := sb_hour hB hP hD (k := h) (a := (a : Int)) (h := (h : Int)) (by omega) ⟨by omega, by omega⟩ hS
          have v2 := v8_step hB hv st
          have x := ih (h + 1) _ sb v2.1 a2
          exact so_step hB hP hD hs hv st hL (by rw [show ((h + 1 : Nat) : Int) = (h : Int) + 1 by omega] at x; exact x)
    · exact absurd (altH_no h1) a2
