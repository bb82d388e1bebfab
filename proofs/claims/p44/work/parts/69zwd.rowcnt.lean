/-! how many rows there can be -/
def vnL (w s : Wd) : Nat → Nat
  | 0 => 0
  | k + 1 => vnL w s k + (if (k : Int) < w 6 ∧ ¬ bitF (s 4) k = true then 1 else 0)
def vnF (w s : Wd) : Nat := vnL w s 3
theorem vnF_e {w s : Wd} : vnF w s = (if (((0 : Nat) : Int) < w 6 ∧ ¬ bitF (s 4) 0 = true) then 1 else 0) + (if (((1 : Nat) : Int) < w 6 ∧ ¬ bitF (s 4) 1 = true) then 1 else 0) + (if (((2 : Nat) : Int) < w 6 ∧ ¬ bitF (s 4) 2 = true) then 1 else 0) := by
  show 0 + _ + _ + _ = _
  rw [Nat.zero_add]
theorem vn_same {w s s2 : Wd} (e : s2 4 = s 4) : vnF w s2 = vnF w s := by
  rw [vnF_e, vnF_e, e]
theorem vt_eq {w : Wd} {a b : Int} {k : Nat} (h : bitF a k = true ↔ bitF b k = true) : (if (k : Int) < w 6 ∧ ¬ bitF a k = true then 1 else 0) = (if (k : Int) < w 6 ∧ ¬ bitF b k = true then 1 else 0) := by
  by_cases c : (k : Int) < w 6 ∧ ¬ bitF b k = true
  · rw [if_pos c, if_pos ⟨c.1, fun z => c.2 (h.mp z)⟩]
  · rw [if_neg c, if_neg (fun z => c ⟨z.1, fun y => z.2 (h.mpr y)⟩)]
theorem vn_or {w s s2 : Wd} {v : Nat} (hs : V8s s) (hv : v < 3) (hw : (v : Int) < w 6) (hb : ¬ bitF (s 4) v = true) (e : s2 4 = ior (s 4) (ishl 1 (v : Int))) : vnF w s2 + 1 = vnF w s := by
  obtain ⟨_, z⟩ := v8_or hs hv e
  have same : ∀ k : Nat, k < 3 → ¬ k = v → (if (k : Int) < w 6 ∧ ¬ bitF (s2 4) k = true then 1 else 0) = (if (k : Int) < w 6 ∧ ¬ bitF (s 4) k = true then 1 else 0) := fun k hk hkv => vt_eq ⟨fun y => ((z k hk).mp y).resolve_right hkv, fun y => (z k hk).mpr (Or.inl y)⟩
  have at1 : (if (v : Int) < w 6 ∧ ¬ bitF (s2 4) v = true then 1 else 0) = 0 := if_neg (fun y => y.2 ((z v hv).mpr (Or.inr rfl)))
  have at2 : (if (v : Int) < w 6 ∧ ¬ bitF (s 4) v = true then 1 else 0) = 1 := if_pos ⟨hw, hb⟩
  rw [vnF_e, vnF_e]
  have hv3 : v = 0 ∨ v = 1 ∨ v = 2 := by omega
  rcases hv3 with rfl | rfl | rfl
  · rw [at1, at2, same 1 (by decide) (by decide), same 2 (by decide) (by decide)]; omega
  · rw [at1, at2, same 0 (by decide) (by decide), same 2 (by decide) (by decide)]; omega
  · rw [at1, at2, same 0 (by decide) (by decide), same 1 (by decide) (by decide)]
def sumH (t : Nat → Nat) : Nat → Nat
  | 0 => 0
  | k + 1 => sumH t k + t k
theorem catL_len {β : Type} {g : Nat → List β} : ∀ k : Nat, (catL g k).length = sumH (fun i => (g i).length) k := by
  intro k
  induction k with
  | zero => rfl
  | succ k ih =>
    show (catL g k ++ g k).length = sumH (fun i => (g i).length) k + (g k).length
    rw [List.length_append, ih]
theorem sum_2 {t : Nat → Nat} (h : ∀ i : Nat, 2 ≤ i → t i = 0) : ∀ k : Nat, sumH t k ≤ t 0 + t 1 := by
  have g : ∀ k : Nat, sumH t (k + 2) = t 0 + t 1 := by
    intro k
    induction k with
    | zero => show 0 + t 0 + t 1 = _; omega
    | succ k ih =>
      show sumH t (k + 2) + t (k + 2) = _
      rw [ih, h (k + 2) (by omega), Nat.add_zero]
  intro k
  by_cases c0 : k = 0
  · rw [c0]; exact Nat.zero_le _
  · by_cases c1 : k = 1
    · rw [c1]; show 0 + t 0 ≤ _; omega
    · have z := g (k - 2)
      rw [show k - 2 + 2 = k by omega] at z
      omega
theorem sum_dr {t : Nat → Nat} {X p : Nat} (h0 : t 0 ≤ X) (h1 : t 1 = 0) (h2 : t 2 ≤ 1) (h3 : ∀ i : Nat, 3 ≤ i → i < 10 → t i = 0) (h4 : ∀ q : Nat, q < 7 → t (10 + q) ≤ X) (h5 : t (10 + p) = 0) : ∀ j : Nat, j ≤ 7 → sumH t (10 + j) + (if p < j then X else 0) ≤ X + 1 + j * X := by
  intro j
  induction j with
  | zero =>
    intro _
    show 0 + t 0 + t 1 + t 2 + t 3 + t 4 + t 5 + t 6 + t 7 + t 8 + t 9 + _ ≤ _
    rw [if_neg (Nat.not_lt_zero p), h1, h3 3 (by decide) (by decide), h3 4 (by decide) (by decide), h3 5 (by decide) (by decide), h3 6 (by decide) (by decide), h3 7 (by decide) (by decide), h3 8 (by decide) (by decide), h3 9 (by decide) (by decide), Nat.zero_mul]
    omega
  | succ j ih0 =>
    intro hj
    have ih := ih0 (by omega)
    show sumH t (10 + j) + t (10 + j) + _ ≤ _
    rw [Nat.succ_mul]
    have := h4 j (by omega)
    by_cases c : p < j
    · rw [if_pos c] at ih
      rw [if_pos (by omega)]
      omega
    · rw [if_neg c] at ih
      by_cases d : p = j
      · rw [if_pos (by omega), ← d, h5]
        rw [← d] at ih
        omega
      · rw [if_neg (by omega)]
        omega
/-- an hour without an act, sober -/
theorem hour_a0 {w s : Wd} {D : Nat → Nat → Int} {h a : Nat} (hB : WB w) (hP : WP w) (hD : WyD w D) (hS : SBw w s) (ha : a = 0) (hb : ¬ s 1 = -1) (hd : ¬ (h : Int) < s 3) (hs2 : ¬ (hourF w D (h : Int) (a : Int) s).1 1 = -1) : (hourF w D (h : Int) (a : Int) s).1 3 = s 3 ∧ (hourF w D (h : Int) (a : Int) s).1 4 = s 4 := by
  have st := hour_step hB hP hD hS (by omega) (show okH w D h a s = true by rw [ha]; exact okH_0) (by omega) hb hs2
  obtain ⟨p, p2, _, _, _, _, ⟨e3, e4, _⟩ | ⟨_, e3, _, v, _⟩⟩ := st
  · exact ⟨e3, e4⟩
  · exfalso
    have hc : ¬ canF w D (h : Int) (a : Int) s = true := can_a0 (by omega)
    have e5 := hour_go hb hc
    rw [e5] at e3 hs2
    have g3 : (goF w D (h : Int) s).1 3 = s 3 := by
      rcases hS with z | ⟨b, p, hb1, hb7, hp, hpn⟩
      · exact absurd z hb
      · have h7 := hB.2.2.2.2.1
        have h5 := hB.2.2.1
        rcases steer_ok w D p s with z | ⟨t, t1, t2, t3, t4⟩
        · rw [go_sta hp hd z]
        · have t5 := hP.1 t (by omega) t2
          obtain ⟨g, hg⟩ : ∃ g : Nat, w (31 + 2 * t) = (g : Int) := ⟨(w (31 + 2 * t)).toNat, by omega⟩
          by_cases ee : (g : Int) = (p : Int)
          · rw [go_ea hp hd t1 hg ee]
            show eatF s t 3 = s 3
            rw [eat_b hb1, upw_ne (by omega), upw_ne (by decide), upw_ne (by omega)]
          · rw [go_ca hp hd t1 hg ee] at hs2
            rw [go_ca hp hd t1 hg ee]
            exact (car_st hb1 (by omega) hs2).2.1
    omega
theorem pw_pos (a b : Nat) : 1 ≤ 2 ^ a * 7 ^ b := Nat.mul_pos (Nat.pow_pos (by decide)) (Nat.pow_pos (by decide))
/-- no more rows than these -/
theorem rows_cnt {w : Wd} {D : Nat → Nat → Int} (hB : WB w) (hP : WP w) (hD : WyD w D) {np L : Nat} (hL : L < 12) (hnp : np ≤ 7) (hn : w 0 = (np : Int)) : ∀ (f h : Nat) (s : Wd), SB w s h → V8s s → (rowsH w D np L f h s).length ≤ 2 ^ f * 7 ^ ((s 3 - (h : Int)).toNat + 2 * vnF w s) := by
  intro f
  induction f with
  | zero => intro h s _ _; exact Nat.zero_le _
  | succ f ih =>
    intro h s hS hv
    by_cases c : s 1 = -1 ∨ L < h
    · rw [rowsH_no c]; exact Nat.zero_le _
    have hb : ¬ s 1 = -1 := fun z => c (Or.inl z)
    rw [rowsH_s hb (by omega), catL_len]
    have nx : ∀ a : Nat, a ≤ 16 → okH w D h a s = true → ¬ a = 2 → ¬ h = L → ¬ (hourF w D (h : Int) (a : Int) s).1 1 = -1 → (altH w D L h s (fun q => rowsH w D np L f (h + 1) q) a).length ≤ 2 ^ f * 7 ^ (((hourF w D (h : Int) (a : Int) s).1 3 - ((h + 1 : Nat) : Int)).toNat + 2 * vnF w (hourF w D (h : Int) (a : Int) s).1) ∧ StepH w D h s (hourF w D (h : Int) (a : Int) s).1 := fun a ha h1 h2 h3 hs2 => by
      have st := hour_step hB hP hD hS.1 ha h1 h2 hb hs2
      rw [altH_go h1 h2 h3, List.length_map]
      exact ⟨ih (h + 1) _ (sb_hour hB hP hD (k := h) (a := (a : Int)) (h := (h : Int)) (by omega) ⟨by omega, by omega⟩ hS) (v8_step hB hv st).1, st⟩
    have no : ∀ a : Nat, (¬ okH w D h a s = true ∨ (¬ a = 2 ∧ h = L) ∨ (¬ a = 2 ∧ (hourF w D (h : Int) (a : Int) s).1 1 = -1)) → (altH w D L h s (fun q => rowsH w D np L f (h + 1) q) a).length = 0 := fun a z => by
      rcases z with z | ⟨z1, z2⟩ | ⟨z1, z2⟩
      · rw [altH_no z]; rfl
      · rw [altH_la z1 z2]; rfl
      · by_cases y : okH w D h a s = true
        · by_cases x : h = L
          · rw [altH_la z1 x]; rfl
          · rw [altH_go y z1 x, rowsH_no (Or.inl z2)]; rfl
        · rw [altH_no y]; rfl
    by_cases hd : (h : Int) < s 3
    · -- drunk
      obtain ⟨p, hp, hpn⟩ : ∃ p : Nat, s 0 = (p : Int) ∧ (p : Int) < w 0 := by
        rcases hS.1 with z | ⟨b, p, _, _, q1, q2⟩
        · exact absurd z hb
        · exact ⟨p, q1, q2⟩
      have X : ∀ a : Nat, a ≤ 16 → ¬ a = 2 → (altH w D L h s (fun q => rowsH w D np L f (h + 1) q) a).length ≤ 2 ^ f * 7 ^ ((s 3 - (h : Int)).toNat - 1 + 2 * vnF w s) := fun a ha h2 => by
        by_cases z : ¬ okH w D h a s = true ∨ (¬ a = 2 ∧ h = L) ∨ (¬ a = 2 ∧ (hourF w D (h : Int) (a : Int) s).1 1 = -1)
        · rw [no a z]; exact Nat.zero_le _
        · have y1 : okH w D h a s = true := Classical.byContradiction (fun y => z (Or.inl y))
          obtain ⟨y, st⟩ := nx a ha y1 h2 (fun y => z (Or.inr (Or.inl ⟨h2, y⟩))) (fun y => z (Or.inr (Or.inr ⟨h2, y⟩)))
          obtain ⟨_, _, _, _, _, _, ⟨e3, e4, _⟩ | ⟨_, _, e5, _⟩⟩ := st
          · rw [e3, vn_same e4] at y
            rw [show (s 3 - (h : Int)).toNat - 1 = (s 3 - ((h + 1 : Nat) : Int)).toNat by omega]
            exact y
          · exact absurd hd e5
      have n1 : ¬ okH w D h 1 s = true := fun z => by
        rw [okH_c (by decide)] at z
        exact can_sob z (by decide) hd
      have n3 : ∀ i : Nat, 3 ≤ i → i < 10 → ¬ okH w D h i s = true := fun i i1 i2 z => by
        rw [okH_c (by omega)] at z
        exact can_no (by omega) (by omega) (by omega) z
      have n5 : ¬ okH w D h (10 + p) s = true := fun z => by
        rw [okH_c (by omega)] at z
        have y := (can_car (e := p) hb hp (a := ((10 + p : Nat) : Int)) (by omega) hd).mp z
        rw [hD.1 p (by omega)] at y
        exact absurd y (by decide)
      have sd := sum_dr (t := fun i => (altH w D L h s (fun q => rowsH w D np L f (h + 1) q) i).length) (p := p) (X 0 (by decide) (by decide)) (no 1 (Or.inl n1)) (by
        show (altH w D L h s (fun q => rowsH w D np L f (h + 1) q) 2).length ≤ 1
        by_cases y : okH w D h 2 s = true
        · rw [altH_th y rfl]
          split <;> decide
        · rw [altH_no y]; decide) (fun i i1 i2 => no i (Or.inl (n3 i i1 i2))) (fun q hq => X (10 + q) (by omega) (by omega)) (no (10 + p) (Or.inl n5)) np hnp
      rw [if_pos (by omega)] at sd
      have y := Nat.mul_le_mul_right (2 ^ f * 7 ^ ((s 3 - (h : Int)).toNat - 1 + 2 * vnF w s)) hnp
      have e7 : 7 ^ ((s 3 - (h : Int)).toNat + 2 * vnF w s) = 7 ^ ((s 3 - (h : Int)).toNat - 1 + 2 * vnF w s) * 7 := by
        rw [← Nat.pow_succ]
        congr 1
        omega
      have e2 : 2 ^ (f + 1) * 7 ^ ((s 3 - (h : Int)).toNat + 2 * vnF w s) = 14 * (2 ^ f * 7 ^ ((s 3 - (h : Int)).toNat - 1 + 2 * vnF w s)) := by
        rw [e7, Nat.pow_succ, Nat.mul_comm (7 ^ _) 7, Nat.mul_assoc, ← Nat.mul_assoc 2 7, Nat.mul_left_comm]
      rw [e2]
      have := pw_pos f ((s 3 - (h : Int)).toNat - 1 + 2 * vnF w s)
      omega
    · -- sober
      have d0 : (s 3 - (h : Int)).toNat = 0 := by omega
      have s2 := sum_2 (t := fun i => (altH w D L h s (fun q => rowsH w D np L f (h + 1) q) i).length) (fun i hi => no i (Or.inl (fun z => by
        rw [okH_c (by omega)] at z
        exact hd (can_dr z (by omega))))) (10 + np)
      have a0 : (altH w D L h s (fun q => rowsH w D np L f (h + 1) q) 0).length ≤ 2 ^ f * 7 ^ (2 * vnF w s) := by
        by_cases z : ¬ okH w D h 0 s = true ∨ (¬ 0 = 2 ∧ h = L) ∨ (¬ 0 = 2 ∧ (hourF w D (h : Int) ((0 : Nat) : Int) s).1 1 = -1)
        · rw [no 0 z]; exact Nat.zero_le _
        · have hs2 : ¬ (hourF w D (h : Int) ((0 : Nat) : Int) s).1 1 = -1 := fun y => z (Or.inr (Or.inr ⟨by decide, y⟩))
          have y := (nx 0 (by decide) okH_0 (by decide) (fun y => z (Or.inr (Or.inl ⟨by decide, y⟩))) hs2).1
          have q := hour_a0 hB hP hD hS.1 (a := 0) (h := h) rfl hb hd hs2
          rw [q.1, vn_same q.2, show (s 3 - ((h + 1 : Nat) : Int)).toNat = 0 by omega, Nat.zero_add] at y
          exact y
      have a1 : (altH w D L h s (fun q => rowsH w D np L f (h + 1) q) 1).length ≤ 2 ^ f * 7 ^ (2 * vnF w s) := by
        by_cases z : ¬ okH w D h 1 s = true ∨ (¬ 1 = 2 ∧ h = L) ∨ (¬ 1 = 2 ∧ (hourF w D (h : Int) ((1 : Nat) : Int) s).1 1 = -1)
        · rw [no 1 z]; exact Nat.zero_le _
        · have hs2 : ¬ (hourF w D (h : Int) ((1 : Nat) : Int) s).1 1 = -1 := fun y => z (Or.inr (Or.inr ⟨by decide, y⟩))
          have h1 : okH w D h 1 s = true := Classical.byContradiction (fun y => z (Or.inl y))
          have y := (nx 1 (by decide) h1 (by decide) (fun y => z (Or.inr (Or.inl ⟨by decide, y⟩))) hs2).1
          have hc : canF w D (h : Int) ((1 : Nat) : Int) s = true := by rw [okH_c (by decide)] at h1; exact h1
          have e := hour_of hb hc (by decide)
          have e3 : offF w (h : Int) s 3 = (h : Int) + 3 := by unfold offF; rw [upw_at]
          rw [e, go_sl (show (h : Int) < offF w (h : Int) s 3 by omega)] at y
          obtain ⟨v, v1, v2, v3, v4, v5⟩ := can_vine hc (by decide)
          have e4 : offF w (h : Int) s 4 = ior (s 4) (ishl 1 (v : Int)) := by unfold offF; rw [upw_ne (by decide), upw_at, v1]
          have vn := vn_or (w := w) (s2 := offF w (h : Int) s) hv (v := v) (by have := hB.2.2.2.1; omega) v2 v4 e4
          have y2 : (altH w D L h s (fun q => rowsH w D np L f (h + 1) q) 1).length ≤ 2 ^ f * 7 ^ ((offF w (h : Int) s 3 - ((h + 1 : Nat) : Int)).toNat + 2 * vnF w (offF w (h : Int) s)) := y
          rw [e3, show ((h : Int) + 3 - ((h + 1 : Nat) : Int)).toNat = 2 by omega, show 2 + 2 * vnF w (offF w (h : Int) s) = 2 * vnF w s by omega] at y2
          exact y2
      have e2 : 2 ^ (f + 1) * 7 ^ ((s 3 - (h : Int)).toNat + 2 * vnF w s) = 2 * (2 ^ f * 7 ^ (2 * vnF w s)) := by
        rw [d0, Nat.zero_add, Nat.pow_succ, Nat.mul_comm (2 ^ f) 2, Nat.mul_assoc]
      rw [e2]
      have s3 : sumH (fun i => (altH w D L h s (fun q => rowsH w D np L f (h + 1) q) i).length) (10 + np) ≤ (altH w D L h s (fun q => rowsH w D np L f (h + 1) q) 0).length + (altH w D L h s (fun q => rowsH w D np L f (h + 1) q) 1).length := s2
      omega
theorem vn_le {w s : Wd} : vnF w s ≤ 3 := by
  rw [vnF_e]
  split <;> split <;> split <;> decide
/-- all rows of a hunt are fewer than a number of ints -/
theorem rows_b {w : Wd} {D : Nat → Nat → Int} (hB : WB w) (hP : WP w) (hD : WyD w D) {np L : Nat} (hL : L < 12) (hnp : np ≤ 7) (hn : w 0 = (np : Int)) {s : Wd} (hS : SB w s 0) (hv : V8s s) (h3 : s 3 = 0) : (rowsH w D np L 13 0 s).length < 2147483647 := by
  have z := rows_cnt hB hP hD hL hnp hn 13 0 s hS hv
  rw [h3, show ((0 : Int) - ((0 : Nat) : Int)).toNat = 0 by decide, Nat.zero_add] at z
  have y : 2 ^ 13 * 7 ^ (2 * vnF w s) ≤ 2 ^ 13 * 7 ^ 6 := Nat.mul_le_mul_left _ (Nat.pow_le_pow_right (by decide) (by have := vn_le (w := w) (s := s); omega))
  have x : 2 ^ 13 * 7 ^ 6 < 2147483647 := by decide
  omega
