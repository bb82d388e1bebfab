/-! from the law's entry to its loop, for every script -/
def shR : List Kd := [(9, 16), (8, 7), (100, 800), (3, 18), (100, 5), (100, 5), (100, 3), (100, 3), (100, 5), (100, 5), (100, 7), (100, 49), (3, 18), (100, 5), (100, 5), (100, 3), (100, 3), (100, 5), (100, 5), (100, 7), (100, 49), (0, 3), (100, 12), (100, 12), (0, 3), (100, 12), (100, 12), (7, 14), (4, 10), (100, 5), (100, 5), (100, 13), (100, 13), (100, 13), (100, 65), (100, 65), (100, 12), (100, 12), (100, 12), (100, 5), (7, 14), (4, 10), (100, 5), (100, 5), (100, 13), (100, 13), (100, 13), (100, 65), (100, 65), (100, 12), (100, 12), (100, 12), (100, 5), (2, 7), (107, 13), (100, 12), (100, 12), (100, 7), (4, 10), (100, 5), (100, 5), (4, 10), (100, 5), (100, 5), (4, 10), (100, 5), (100, 5), (4, 10), (100, 5), (100, 5), (4, 10), (100, 5), (100, 5), (4, 10), (100, 5), (100, 5), (4, 10), (100, 5), (100, 5), (4, 10), (100, 5), (100, 5), (4, 10), (100, 5), (100, 5), (4, 10), (100, 5), (100, 5), (4, 10), (100, 5), (100, 5), (4, 10), (100, 5), (100, 5), (4, 10), (100, 5), (100, 5), (2, 7), (107, 13), (100, 12), (100, 12), (100, 7), (4, 10), (100, 5), (100, 5), (4, 10), (100, 5), (100, 5), (4, 10), (100, 5), (100, 5), (4, 10), (100, 5), (100, 5), (4, 10), (100, 5), (100, 5), (4, 10), (100, 5), (100, 5), (4, 10), (100, 5), (100, 5), (4, 10), (100, 5), (100, 5), (4, 10), (100, 5), (100, 5), (4, 10), (100, 5), (100, 5), (4, 10), (100, 5), (100, 5), (4, 10), (100, 5), (100, 5), (4, 10), (100, 5), (100, 5), (5, 4), (100, 50), (1, 3), (104, 4), (6, 3), (101, 60), (6, 3), (101, 60), (6, 3), (101, 60), (6, 3), (101, 60), (105, 3), (106, 3), (3, 18), (100, 5), (100, 5), (100, 3), (100, 3), (100, 5), (100, 5), (100, 7), (100, 49), (0, 3), (100, 12), (100, 12), (3, 18), (100, 5), (100, 5), (100, 3), (100, 3), (100, 5), (100, 5), (100, 7), (100, 49), (0, 3), (100, 12), (100, 12), (3, 18), (100, 5), (100, 5), (100, 3), (100, 3), (100, 5), (100, 5), (100, 7), (100, 49), (0, 3), (100, 12), (100, 12), (10, 41), (100, 69), (100, 207), (103, 3), (102, 800), (100, 5), (100, 69), (100, 49), (100, 208), (100, 12), (100, 12), (100, 12), (100, 5), (100, 12), (100, 12), (100, 91), (100, 455), (100, 4), (100, 4), (101, 240), (101, 60)]
def shT (L : Nat) : List Kd := (100, L) :: shR
/-- the shape, but for the script -/
def shF (o : Nat) : Option Kd := match o with
  | 0 => none
  | k + 1 => shR[k]?
theorem FT_sh (L : Nat) : FT shF (shT L) := by
  intro o kd h
  match o, h with
  | k + 1, h => exact h
set_option maxRecDepth 100000 in
theorem shR_len : shR.length = 212 := by decide +kernel
theorem shT_len (L : Nat) : (shT L).length = 213 := by
  show shR.length + 1 = 213
  rw [shR_len]
abbrev lH : List AI := [(2, one 0), (2, one 1), (2, one 192), (0, one 0)]
def stA : Option SI5 := toI shF 18 3000 1000 316 0 (laypI [(2, one 0)] 4) [] 1 (tc (fun _ => none) 8)
/-- known values within a cell's bounds -/
def incC (v : VI) (q : Q) : Bool := match v with
  | none => false
  | some r => if q.1 = 0 ∨ q.1 = 1 then decide (q.2.1 ≤ r.1) && decide (r.2 ≤ q.2.2) else if q.1 = 2 then decide (r.1 = r.2) && decide (0 < r.1) && decide (r.1 < 213) && decide ((tyO r.1.toNat : Int) = q.2.1) else false
theorem incC_ok {v : VI} {q : Q} {x : Int} (h : incC v q = true) (g : gi v x) : gc q x := by
  unfold incC at h
  split at h
  · cases h
  · rename_i r
    have g1 := g r rfl
    by_cases e : q.1 = 0 ∨ q.1 = 1
    · rw [if_pos e] at h
      simp only [Bool.and_eq_true, decide_eq_true_eq] at h
      rcases e with e | e
      · exact (gc_0 e).mpr ⟨by omega, by omega⟩
      · exact (gc_1 e).mpr ⟨by omega, by omega⟩
    · rw [if_neg e] at h
      by_cases e2 : q.1 = 2
      · rw [if_pos e2] at h
        simp only [Bool.and_eq_true, decide_eq_true_eq] at h
        obtain ⟨⟨⟨h1, h2⟩, h3⟩, h4⟩ := h
        obtain rfl : x = r.1 := by omega
        exact (gc_2 e2).mpr ⟨h2, h3, h4⟩
      · rw [if_neg e2] at h; cases h
def allG (M : MI) : Nat → Bool
  | 0 => true
  | o + 1 => (match shF o with
    | some kd => decide (tyK (tyO o) = kd) && (List.range kd.2).all (fun i => incC (rd M o i) (cT (tyO o) i))
    | none => decide (o = 0)) && allG M o
def okA : Bool := match stA with
  | some q => decide (q.1 = 18) && decide (q.2.1 = lH) && decide (q.2.2.1 = []) && decide (q.2.2.2.1 = 213) && allG q.2.2.2.2 213
  | none => false
set_option maxRecDepth 100000 in
set_option maxHeartbeats 0 in
theorem okA_t : okA = true := by decide +kernel
theorem allG_ok {M : MI} : ∀ (n : Nat), allG M n = true → ∀ (o : Nat), 0 < o → o < n → shF o = some (tyK (tyO o)) ∧ ∀ i, i < (tyK (tyO o)).2 → incC (rd M o i) (cT (tyO o) i) = true := by
  intro n
  induction n with
  | zero => intro _ o _ h; omega
  | succ n ih =>
    intro h o h0 ho
    unfold allG at h
    rw [Bool.and_eq_true] at h
    by_cases e : o = n
    · subst e
      have h1 := h.1
      split at h1
      · rename_i kd hk
        rw [Bool.and_eq_true, decide_eq_true_eq] at h1
        obtain ⟨h2, h3⟩ := h1
        subst h2
        exact ⟨hk, fun i hi => List.all_eq_true.mp h3 i (List.mem_range.mpr hi)⟩
      · rw [decide_eq_true_eq] at h1; omega
    · exact ih h.2 o h0 (by omega)
theorem okA_q : ∃ q, stA = some q ∧ q.1 = 18 ∧ q.2.1 = lH ∧ q.2.2.1 = [] ∧ q.2.2.2.1 = 213 ∧ allG q.2.2.2.2 213 = true := by
  have h := okA_t
  unfold okA at h
  split at h
  · rename_i q hq
    simp only [Bool.and_eq_true, decide_eq_true_eq] at h
    exact ⟨q, hq, h.1.1.1.1, h.1.1.1.2, h.1.1.2, h.1.2, h.2⟩
  · cases h
/-- the shape has the types' shapes -/
theorem shT_ty (L : Nat) : ∀ o, 0 < o → o < 213 → (shT L)[o]? = some (tyK (tyO o)) := by
  intro o h1 h2
  obtain ⟨q, -, -, -, -, -, h⟩ := okA_q
  exact FT_sh L o _ (allG_ok 213 h o h1 h2).1
theorem one_eq {c x : Int} (h : gi (one c) x) : x = c := by
  have := h (c, c) rfl
  omega
theorem gL_lH {L' : List AV} (h : gL lH L') : L' = [(2, 0), (2, 1), (2, 192), (0, 0)] := by
  match L', h with
  | [(a1, b1), (a2, b2), (a3, b3), (a4, b4)], ⟨⟨e1, f1⟩, ⟨e2, f2⟩, ⟨e3, f3⟩, ⟨e4, f4⟩, _⟩ =>
    dsimp only at e1 e2 e3 e4 f1 f2 f3 f4
    rw [e1, e2, e3, e4, one_eq f1, one_eq f2, one_eq f3, one_eq f4]
  | [], h => exact h.elim
  | [_], h => exact h.2.elim
  | [_, _], h => exact h.2.2.elim
  | [_, _, _], h => exact h.2.2.2.elim
  | _ :: _ :: _ :: _ :: _ :: _, h => exact h.2.2.2.2.elim
theorem gm0 (F : Nat → Option Kd) (m : Mm) : gm F 1 (tc (fun _ => none) 8) m := by
  intro o kd _ i _
  unfold rd
  rw [tg_tc]
  exact gi_n
/-- the script as the abstract machine's -/
def scM (xs : Nat → Int32) : Mm := fun o i => if o = 0 then (xs i).toInt else 0
/-- from the law's entry to its loop: a memory within its bounds, the script as it was -/
theorem to_loop (L : Nat) (xs : Nat → Int32) : ∃ m1 : Mm, Gam m1 ∧ (∀ i, m1 0 i = (xs i).toInt) ∧ (∀ (o : Nat) (kd : Kd), 0 < o → o < 213 → ∀ q, stA = some q → ∀ i, i < (tyK (tyO o)).2 → gi (rd q.2.2.2.2 o i) (m1 o i)) ∧ ∀ r, Rn 1000 316 18 [(2, 0), (2, 1), (2, 192), (0, 0)] [] (shT L) m1 r → Rn 1000 316 0 (layp [(2, 0)] 4) [] [(100, L)] (scM xs) r := by
  have hT : (shT L).length ≤ 256 := by rw [shT_len]; decide
  obtain ⟨q, hq, k1, k2, k3, k4, k5⟩ := okA_q
  obtain ⟨q', ⟨g1, g2, g3, g4, g5, g6⟩, f1, f2⟩ := toI_ok (FT_sh L) hT _ _ _ _ _ _ _ _ _ hq (Nat.le_refl _) (layp [(2, 0)] 4) [] (scM xs) (gL_layp (L := [(2, one 0)]) ⟨⟨rfl, gi_1⟩, trivial⟩) trivial (by rw [shT_len]; decide) (gm0 _ _)
  obtain ⟨pc1, L1, S1, sh1, m1⟩ := q'
  obtain ⟨pc2, L2, S2, c2, M2⟩ := q
  dsimp only at k1 k2 k3 k4 k5 g1 g2 g3 g4 g5 g6 f1 f2
  subst k1 k2 k3 k4 g1 g4
  have e1 := gL_lH g2
  subst e1
  have e2 : S1 = [] := by
    match S1, g3 with
    | [], _ => rfl
    | _ :: _, g => exact g.elim
  subst e2
  rw [show (213 : Nat) = (shT L).length from (shT_len L).symm, List.take_length] at f2
  have hk : ∀ o, 0 < o → o < 213 → ∀ i, i < (tyK (tyO o)).2 → gi (rd M2 o i) (m1 o i) := fun o h1 h2 i hi => g6 o _ (by unfold lk; rw [if_pos h2]; exact (allG_ok 213 k5 o h1 h2).1) i hi
  refine ⟨m1, fun o h1 h2 i hi => incC_ok ((allG_ok 213 k5 o h1 h2).2 i hi) (hk o h1 h2 i hi), fun i => ?_, fun o kd h1 h2 q2 hq2 i hi => ?_, fun r hr => f2 r hr⟩
  · rw [f1]
    exact if_pos rfl
  · rw [hq] at hq2
    cases hq2
    exact hk o h1 h2 i hi
