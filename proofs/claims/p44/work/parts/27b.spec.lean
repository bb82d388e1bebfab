/-! how a text is read: tokens, lines, worlds; no memory here -/
abbrev Wd : Type := Nat → Int
abbrev PR : Type := Except (Int × Int) (Nat × Wd)
abbrev PV : Type := Except (Int × Int) (Int × Nat × Wd)
def upw (w : Wd) (i : Nat) (x : Int) : Wd := fun j => if j = i then x else w j
theorem upw_at {w : Wd} {i : Nat} {x : Int} : upw w i x i = x := if_pos rfl
theorem upw_ne {w : Wd} {i j : Nat} {x : Int} (h : ¬ j = i) : upw w i x j = w j := if_neg h
def isBl (c : Int) : Bool := decide (c = 32 ∨ c = 10)
def isLt (c : Int) : Bool := decide (97 ≤ c ∧ c ≤ 122)
def isDg (c : Int) : Bool := decide (48 ≤ c ∧ c ≤ 57)
def scan (P : Int → Bool) (X : Nat → Int) : Nat → Nat → Nat
  | 0, p => p
  | f + 1, p => if P (X p) = true then scan P X f (p + 1) else p
def scn (P : Int → Bool) (X : Nat → Int) (p : Nat) : Nat := scan P X (801 - p) p
theorem scn_n {P : Int → Bool} {X : Nat → Int} {p : Nat} (h : P (X p) = false) : scn P X p = p := by
  unfold scn
  cases 801 - p with
  | zero => rfl
  | succ f =>
    unfold scan
    rw [if_neg (by rw [h]; decide)]
theorem scn_y {P : Int → Bool} {X : Nat → Int} {p : Nat} (h : P (X p) = true) (hp : p ≤ 800) : scn P X p = scn P X (p + 1) := by
  unfold scn
  rw [show 801 - p = (801 - (p + 1)) + 1 by omega]
  conv => lhs; unfold scan
  rw [if_pos h]
theorem scan_le {P : Int → Bool} {X : Nat → Int} : ∀ f p : Nat, p ≤ scan P X f p := by
  intro f
  induction f with
  | zero => intro p; exact Nat.le_refl _
  | succ f ih =>
    intro p
    unfold scan
    split
    · exact Nat.le_trans (Nat.le_succ p) (ih (p + 1))
    · exact Nat.le_refl _
theorem scn_le {P : Int → Bool} {X : Nat → Int} {p : Nat} : p ≤ scn P X p := scan_le _ _
/-- a text of bytes, and behind it none -/
def XOK (X : Nat → Int) : Prop := (∀ k : Nat, -1 ≤ X k ∧ X k ≤ 255) ∧ ∀ k : Nat, 800 ≤ k → X k = -1
theorem scan_hi {P : Int → Bool} {X : Nat → Int} (hx : XOK X) (hP : P (-1) = false) : ∀ f p : Nat, p ≤ 800 → scan P X f p ≤ 800 := by
  intro f
  induction f with
  | zero => intro p hp; exact hp
  | succ f ih =>
    intro p hp
    unfold scan
    split
    · rename_i h
      by_cases e : p = 800
      · rw [hx.2 p (by omega), hP] at h; cases h
      · exact ih (p + 1) (by omega)
    · exact hp
theorem scan_stop {P : Int → Bool} {X : Nat → Int} (hx : XOK X) (hP : P (-1) = false) : ∀ f p : Nat, p + f = 801 → P (X (scan P X f p)) = false := by
  intro f
  induction f with
  | zero =>
    intro p hp
    unfold scan
    rw [hx.2 p (by omega)]; exact hP
  | succ f ih =>
    intro p hp
    unfold scan
    split
    · exact ih (p + 1) (by omega)
    · rename_i h
      simpa using h
theorem scn_hi {P : Int → Bool} {X : Nat → Int} (hx : XOK X) (hP : P (-1) = false) {p : Nat} (hp : p ≤ 800) : scn P X p ≤ 800 := scan_hi hx hP _ _ hp
theorem scn_stop {P : Int → Bool} {X : Nat → Int} (hx : XOK X) (hP : P (-1) = false) {p : Nat} (hp : p ≤ 801) : P (X (scn P X p)) = false := scan_stop hx hP _ _ (by omega)
def kd (c : Int) : Int := if c = -1 then 0 else if 97 ≤ c ∧ c ≤ 122 then 1 else if 48 ≤ c ∧ c ≤ 57 then 2 else if c = 59 then 3 else 4
def nS (X : Nat → Int) (p : Nat) : Nat := scn isBl X p
def nK (X : Nat → Int) (p : Nat) : Int := kd (X (nS X p))
def nE (X : Nat → Int) (p : Nat) : Nat := if nK X p = 0 then nS X p else if nK X p = 1 then scn isLt X (nS X p) else if nK X p = 2 then scn isDg X (nS X p) else nS X p + 1
def vl (C : Int) (X : Nat → Int) (s : Nat) : Nat → Int
  | 0 => 0
  | n + 1 => min C (10 * vl C X s n + X (s + n) - 48)
def nV (X : Nat → Int) (p : Nat) : Int := vl 99999 X (nS X p) (nE X p - nS X p)
theorem nK_in {X : Nat → Int} {p : Nat} : 0 ≤ nK X p ∧ nK X p ≤ 4 := by
  unfold nK kd
  split
  · omega
  · split
    · omega
    · split
      · omega
      · split <;> omega
theorem nS_hi {X : Nat → Int} (hx : XOK X) {p : Nat} (hp : p ≤ 800) : nS X p ≤ 800 := scn_hi hx (by decide) hp
theorem nS_le {X : Nat → Int} {p : Nat} : p ≤ nS X p := scn_le
theorem nE_le {X : Nat → Int} {p : Nat} : nS X p ≤ nE X p := by
  unfold nE
  split
  · exact Nat.le_refl _
  · split
    · exact scn_le
    · split
      · exact scn_le
      · exact Nat.le_succ _
theorem kd_0 {c : Int} : kd c = 0 ↔ c = -1 := by
  unfold kd
  constructor
  · intro h
    by_cases e : c = -1
    · exact e
    · rw [if_neg e] at h
      split at h
      · omega
      · split at h
        · omega
        · split at h <;> omega
  · intro h; rw [if_pos h]
theorem nS_lt {X : Nat → Int} (hx : XOK X) {p : Nat} (h : ¬ nK X p = 0) : nS X p < 800 := by
  by_cases e : nS X p < 800
  · exact e
  · exfalso
    apply h
    unfold nK
    rw [hx.2 (nS X p) (by omega)]
    rfl
theorem nE_hi {X : Nat → Int} (hx : XOK X) {p : Nat} (hp : p ≤ 800) : nE X p ≤ 800 := by
  have hs := nS_hi hx hp
  unfold nE
  split
  · exact hs
  · rename_i h0
    have h1 := nS_lt hx h0
    split
    · exact scn_hi hx (by decide) hs
    · split
      · exact scn_hi hx (by decide) hs
      · omega
theorem kd_1 {c : Int} (h : kd c = 1) : 97 ≤ c ∧ c ≤ 122 := by
  unfold kd at h
  split at h
  · omega
  · split at h
    · assumption
    · split at h
      · omega
      · split at h <;> omega
theorem kd_2 {c : Int} (h : kd c = 2) : 48 ≤ c ∧ c ≤ 57 := by
  unfold kd at h
  split at h
  · omega
  · split at h
    · omega
    · split at h
      · assumption
      · split at h <;> omega
theorem kd_3 {c : Int} (h : kd c = 3) : c = 59 := by
  unfold kd at h
  split at h
  · omega
  · split at h
    · omega
    · split at h
      · omega
      · split at h
        · assumption
        · omega
/-- behind a token that is one comes another place -/
theorem nE_lt {X : Nat → Int} (hx : XOK X) {p : Nat} (h : ¬ nK X p = 0) : nS X p < nE X p := by
  have h1 := nS_lt hx h
  unfold nE
  rw [if_neg h]
  split
  · rename_i h2
    have := kd_1 h2
    rw [scn_y (decide_eq_true this) (by omega)]
    exact Nat.lt_of_lt_of_le (Nat.lt_succ_self _) scn_le
  · split
    · rename_i h2
      have := kd_2 h2
      rw [scn_y (decide_eq_true this) (by omega)]
      exact Nat.lt_of_lt_of_le (Nat.lt_succ_self _) scn_le
    · exact Nat.lt_succ_self _
theorem scan_all {P : Int → Bool} {X : Nat → Int} : ∀ f p i : Nat, p ≤ i → i < scan P X f p → P (X i) = true := by
  intro f
  induction f with
  | zero => intro p i h1 h2; unfold scan at h2; omega
  | succ f ih =>
    intro p i h1 h2
    unfold scan at h2
    split at h2
    · rename_i h
      by_cases e : i = p
      · rw [e]; exact h
      · exact ih (p + 1) i (by omega) h2
    · omega
/-- values: what a number is worth, up to a bound -/
theorem vl_in {C : Int} (hC : 0 ≤ C) {X : Nat → Int} {s : Nat} : ∀ n : Nat, (∀ i : Nat, i < n → 48 ≤ X (s + i) ∧ X (s + i) ≤ 57) → 0 ≤ vl C X s n ∧ vl C X s n ≤ C := by
  intro n
  induction n with
  | zero => intro _; unfold vl; omega
  | succ n ih =>
    intro h
    have h1 := ih (fun i hi => h i (by omega))
    have h2 := h n (by omega)
    unfold vl
    omega
theorem vl_min {X : Nat → Int} {s : Nat} : ∀ n : Nat, (∀ i : Nat, i < n → 48 ≤ X (s + i) ∧ X (s + i) ≤ 57) → vl 99999 X s n = min 99999 (vl 1000000 X s n) := by
  intro n
  induction n with
  | zero => intro _; unfold vl; omega
  | succ n ih =>
    intro h
    have h1 := ih (fun i hi => h i (by omega))
    have h2 := h n (by omega)
    have h3 := vl_in (C := 1000000) (by decide) n (fun i hi => h i (by omega))
    unfold vl
    omega
theorem nV_dg {X : Nat → Int} {p : Nat} (h : nK X p = 2) : ∀ i : Nat, i < nE X p - nS X p → 48 ≤ X (nS X p + i) ∧ X (nS X p + i) ≤ 57 := by
  intro i hi
  have e : nE X p = scn isDg X (nS X p) := by
    unfold nE
    rw [if_neg (by omega), if_neg (by omega), if_pos h]
  rw [e] at hi
  have := scan_all (P := isDg) (X := X) (801 - nS X p) (nS X p) (nS X p + i) (by omega) (by unfold scn at hi; omega)
  exact of_decide_eq_true this
theorem nV_lt {X : Nat → Int} {p : Nat} (h : nK X p = 1) : ∀ i : Nat, i < nE X p - nS X p → 97 ≤ X (nS X p + i) ∧ X (nS X p + i) ≤ 122 := by
  intro i hi
  have e : nE X p = scn isLt X (nS X p) := by
    unfold nE
    rw [if_neg (by omega), if_pos h]
  rw [e] at hi
  have := scan_all (P := isLt) (X := X) (801 - nS X p) (nS X p) (nS X p + i) (by omega) (by unfold scn at hi; omega)
  exact of_decide_eq_true this
theorem nV_in {X : Nat → Int} {p : Nat} (h : nK X p = 2) : 0 ≤ nV X p ∧ nV X p ≤ 99999 := vl_in (by decide) _ (nV_dg h)
theorem nV_eq {X : Nat → Int} {p : Nat} (h : nK X p = 2) : nV X p = min 99999 (vl 1000000 X (nS X p) (nE X p - nS X p)) := vl_min _ (nV_dg h)
/-- whether the token is word q -/
def isWd (X : Nat → Int) (p q : Nat) : Bool := decide (nK X p = 1 ∧ nE X p - nS X p = (slen q).getD 0 ∧ ∀ i : Nat, i < (slen q).getD 0 → sch q i = some (X (nS X p + i)))
theorem isWd_t {X : Nat → Int} {p q : Nat} : isWd X p q = true ↔ nK X p = 1 ∧ nE X p - nS X p = (slen q).getD 0 ∧ ∀ i : Nat, i < (slen q).getD 0 → sch q i = some (X (nS X p + i)) := decide_eq_true_iff
theorem wd_df : ∀ a : Nat, a < 5 → ∀ b : Nat, b < 5 → a = b ∨ ¬ (slen a).getD 0 = (slen b).getD 0 ∨ (0 < (slen a).getD 0 ∧ ¬ sch a 0 = sch b 0) := by decide +kernel
theorem wd_ne {X : Nat → Int} {p a b : Nat} (ha : a < 5) (hb : b < 5) (hab : ¬ a = b) (h : isWd X p a = true) : isWd X p b = false := by
  cases e : isWd X p b with
  | false => rfl
  | true =>
    exfalso
    have h1 := isWd_t.mp h
    have h2 := isWd_t.mp e
    rcases wd_df a ha b hb with z | z | ⟨z0, z⟩
    · exact hab z
    · exact z (h1.2.1.symm.trans h2.2.1)
    · exact z ((h1.2.2 0 z0).trans (h2.2.2 0 (by omega)).symm)
def pNeed (X : Nat → Int) (q : Nat) (r : PR) : PR := r.bind fun g => if isWd X g.1 q = true then .ok (nE X g.1, g.2) else .error (1, (nS X g.1 : Int))
def pNum (X : Nat → Int) (lo hi : Int) (r : PR) : PV := r.bind fun g => if ¬ nK X g.1 = 2 then .error (1, (nS X g.1 : Int)) else if lo ≤ nV X g.1 ∧ nV X g.1 ≤ hi then .ok (nV X g.1, nE X g.1, g.2) else .error (2, (nS X g.1 : Int))
def pPl (X : Nat → Int) (r : PR) : PV := r.bind fun g => pNum X 0 (g.2 0 - 1) (.ok g)
def pSet (i : Nat) (r : PV) : PR := r.bind fun g => .ok (g.2.1, upw g.2.2 i g.1)
def pFirst (X : Nat → Int) (r : PR) : PR := pSet 3 (pNum X 0 10 (pNeed X 9 (pSet 2 (pNum X 1 20 (pNeed X 8 (pSet 1 (pNum X 1 12 (pNeed X 7 (pSet 0 (pNum X 2 7 (pNeed X 6 (pNeed X 5 r))))))))))))
/-- a path: c: how many there are -/
def pPath (X : Nat → Int) (c : Nat) (r : PR) : PR :=
  (pSet (12 + 2 * c) (pPl X ((pNeed X 10 (pSet (11 + 2 * c) (pPl X r))).bind fun g => if nK X g.1 = 2 ∧ nV X g.1 = g.2 (11 + 2 * c) then .error (2, (nS X g.1 : Int)) else .ok g))).bind fun g => .ok (g.1, upw g.2 4 ((c : Int) + 1))
/-- a thing at a place: k: its first cell, many: the cell of how many, c: how many there are -/
def pAt (X : Nat → Int) (k many : Nat) (q : Nat) (lo hi : Int) (c : Nat) (r : PR) : PR :=
  (pSet (k + 1) (pNum X lo hi (pNeed X q (pSet k (pPl X (pNeed X 14 r)))))).bind fun g => .ok (g.1, upw g.2 many ((c : Int) + 1))
def pBrook (X : Nat → Int) (r : PR) : PR := (pPl X (pNeed X 14 r)).bind fun g => .ok (g.2.1, upw g.2.2 10 (ior (g.2.2 10) (ishl 1 g.1)))
def pNext (X : Nat → Int) (p : Nat) (w : Wd) : PR :=
  if isWd X p 0 = true then (if w 4 = 10 then .error (3, (nS X p : Int)) else pPath X (w 4).toNat (.ok (nE X p, w)))
  else if isWd X p 1 = true then (if w 5 = 5 then .error (3, (nS X p : Int)) else pAt X (31 + 2 * (w 5).toNat) 5 11 0 9 (w 5).toNat (.ok (nE X p, w)))
  else if isWd X p 2 = true then (if w 6 = 3 then .error (3, (nS X p : Int)) else pAt X (41 + 2 * (w 6).toNat) 6 12 0 12 (w 6).toNat (.ok (nE X p, w)))
  else if isWd X p 4 = true then (if w 7 = 5 then .error (3, (nS X p : Int)) else pAt X (47 + 2 * (w 7).toNat) 7 13 1 99 (w 7).toNat (.ok (nE X p, w)))
  else if isWd X p 3 = true then pBrook X (.ok (nE X p, w))
  else .error (1, (nS X p : Int))
/-- the sign behind a line -/
def pSemi (X : Nat → Int) (r : PR) : PR := r.bind fun g => if nK X g.1 = 3 then .ok (nE X g.1, upw g.2 9 (g.2 9 + 1)) else .error (1, (nS X g.1 : Int))
def pLine (X : Nat → Int) (p : Nat) (w : Wd) : PR := pSemi X (if w 9 = 0 then pFirst X (.ok (p, w)) else pNext X p w)
def pAll (X : Nat → Int) : Nat → Nat → Wd → Except (Int × Int) Wd
  | 0, _, w => .ok w
  | f + 1, p, w => if nK X p = 0 then .ok w else match pLine X p w with
    | .error e => .error e
    | .ok g => pAll X f g.1 g.2
/-- places go on -/
def Go (p : Nat) (r : PR) : Prop := ∀ g, r = .ok g → p ≤ g.1
def GoV (p : Nat) (r : PV) : Prop := ∀ g, r = .ok g → p ≤ g.2.1
theorem go_ok {p : Nat} {q : Nat} {w : Wd} (h : p ≤ q) : Go p (.ok (q, w)) := fun g e => by cases e; exact h
theorem go_need {X : Nat → Int} {p q : Nat} {r : PR} (h : Go p r) : Go p (pNeed X q r) := by
  intro g e
  cases r with
  | error z => cases e
  | ok z =>
    have h1 := h z rfl
    have e : (if isWd X z.1 q = true then (.ok (nE X z.1, z.2) : PR) else .error (1, (nS X z.1 : Int))) = .ok g := e
    split at e
    · cases e
      exact Nat.le_trans h1 (Nat.le_trans nS_le nE_le)
    · cases e
theorem go_num {X : Nat → Int} {p : Nat} {lo hi : Int} {r : PR} (h : Go p r) : GoV p (pNum X lo hi r) := by
  intro g e
  cases r with
  | error z => cases e
  | ok z =>
    have h1 := h z rfl
    have e : (if ¬ nK X z.1 = 2 then (.error (1, (nS X z.1 : Int)) : PV) else if lo ≤ nV X z.1 ∧ nV X z.1 ≤ hi then .ok (nV X z.1, nE X z.1, z.2) else .error (2, (nS X z.1 : Int))) = .ok g := e
    split at e
    · cases e
    · split at e
      · cases e
        exact Nat.le_trans h1 (Nat.le_trans nS_le nE_le)
      · cases e
theorem go_pl {X : Nat → Int} {p : Nat} {r : PR} (h : Go p r) : GoV p (pPl X r) := by
  intro g e
  cases r with
  | error z => cases e
  | ok z => exact go_num (X := X) (lo := 0) (hi := z.2 0 - 1) (r := .ok z) (fun g2 e2 => by cases e2; exact h _ rfl) g e
theorem go_set {i p : Nat} {r : PV} (h : GoV p r) : Go p (pSet i r) := by
  intro g e
  cases r with
  | error z => cases e
  | ok z => cases e; exact h z rfl
theorem go_up {p i : Nat} {x : Int} {r : PR} (h : Go p r) : Go p (r.bind fun g => .ok (g.1, upw g.2 i x)) := by
  intro g e
  cases r with
  | error z => cases e
  | ok z => cases e; exact h z rfl
theorem go_first {X : Nat → Int} {p : Nat} {w : Wd} : Go (nE X p) (pFirst X (.ok (p, w))) := by
  have h : Go (nE X p) (pNeed X 5 (.ok (p, w))) := by
    intro g e
    have e : (if isWd X p 5 = true then (.ok (nE X p, w) : PR) else .error (1, (nS X p : Int))) = .ok g := e
    split at e
    · cases e; exact Nat.le_refl _
    · cases e
  exact go_set (go_num (go_need (go_set (go_num (go_need (go_set (go_num (go_need (go_set (go_num (go_need h)))))))))))
theorem go_path {X : Nat → Int} {p c : Nat} {r : PR} (h : Go p r) : Go p (pPath X c r) := by
  refine go_up (go_set (go_pl ?_))
  have h1 := go_need (X := X) (q := 10) (go_set (i := 11 + 2 * c) (go_pl (X := X) h))
  intro g e
  revert e h1
  generalize pNeed X 10 (pSet (11 + 2 * c) (pPl X r)) = r1
  intro h1 e
  cases r1 with
  | error z => cases e
  | ok z =>
    have e : (if nK X z.1 = 2 ∧ nV X z.1 = z.2 (11 + 2 * c) then (.error (2, (nS X z.1 : Int)) : PR) else .ok z) = .ok g := e
    split at e
    · cases e
    · cases e; exact h1 _ rfl
theorem go_at {X : Nat → Int} {p k many q c : Nat} {lo hi : Int} {r : PR} (h : Go p r) : Go p (pAt X k many q lo hi c r) := go_up (go_set (go_num (go_need (go_set (go_pl (go_need h))))))
theorem go_brook {X : Nat → Int} {p : Nat} {r : PR} (h : Go p r) : Go p (pBrook X r) := by
  intro g e
  have h1 := go_pl (X := X) (go_need (X := X) (q := 14) h)
  unfold pBrook at e
  revert e h1
  generalize pPl X (pNeed X 14 r) = r1
  intro e h1
  cases r1 with
  | error z => cases e
  | ok z => cases e; exact h1 _ rfl
theorem go_next {X : Nat → Int} {p : Nat} {w : Wd} : Go (nE X p) (pNext X p w) := by
  have hk : Go (nE X p) (.ok (nE X p, w)) := go_ok (Nat.le_refl _)
  have he : ∀ z, Go (nE X p) (.error z) := fun z g e => by cases e
  unfold pNext
  split
  · split
    · exact he _
    · exact go_path hk
  · split
    · split
      · exact he _
      · exact go_at hk
    · split
      · split
        · exact he _
        · exact go_at hk
      · split
        · split
          · exact he _
          · exact go_at hk
        · split
          · exact go_brook hk
          · exact he _
theorem line_lt {X : Nat → Int} (hx : XOK X) {p : Nat} {w : Wd} {g : Nat × Wd} (h : pLine X p w = .ok g) : nS X p < nS X g.1 := by
  unfold pLine at h
  have h1 : Go (nE X p) (if w 9 = 0 then pFirst X (.ok (p, w)) else pNext X p w) := by
    split
    · exact go_first
    · exact go_next
  revert h h1
  generalize (if w 9 = 0 then pFirst X (.ok (p, w)) else pNext X p w) = r
  intro h h1
  cases r with
  | error z => cases h
  | ok z =>
    have h2 := h1 z rfl
    have h : (if nK X z.1 = 3 then (.ok (nE X z.1, upw z.2 9 (z.2 9 + 1)) : PR) else .error (1, (nS X z.1 : Int))) = .ok g := h
    split at h
    · rename_i h3
      cases h
      have a := nE_lt hx (p := z.1) (by omega)
      have b : z.1 ≤ nS X z.1 := nS_le
      have c : nS X p ≤ nE X p := nE_le
      have d : nE X z.1 ≤ nS X (nE X z.1) := nS_le
      show nS X p < nS X (nE X z.1)
      omega
    · cases h
theorem kd_of0 : kd (-1) = 0 := rfl
theorem kd_of1 {c : Int} (h1 : 97 ≤ c) (h2 : c ≤ 122) : kd c = 1 := by
  unfold kd
  rw [if_neg (by omega), if_pos ⟨h1, h2⟩]
theorem kd_of2 {c : Int} (h1 : 48 ≤ c) (h2 : c ≤ 57) : kd c = 2 := by
  unfold kd
  rw [if_neg (by omega), if_neg (by omega), if_pos ⟨h1, h2⟩]
theorem kd_of3 : kd 59 = 3 := rfl
theorem kd_of4 {c : Int} (h0 : ¬ c = -1) (h1 : ¬ (97 ≤ c ∧ c ≤ 122)) (h2 : ¬ (48 ≤ c ∧ c ≤ 57)) (h3 : ¬ c = 59) : kd c = 4 := by
  unfold kd
  rw [if_neg h0, if_neg h1, if_neg h2, if_neg h3]
theorem nE_0 {X : Nat → Int} {p : Nat} (h : nK X p = 0) : nE X p = nS X p := by
  unfold nE
  rw [if_pos h]
theorem nE_1 {X : Nat → Int} {p : Nat} (h : nK X p = 1) : nE X p = scn isLt X (nS X p) := by
  unfold nE
  rw [if_neg (by omega), if_pos h]
theorem nE_2 {X : Nat → Int} {p : Nat} (h : nK X p = 2) : nE X p = scn isDg X (nS X p) := by
  unfold nE
  rw [if_neg (by omega), if_neg (by omega), if_pos h]
theorem nE_3 {X : Nat → Int} {p : Nat} (h0 : ¬ nK X p = 0) (h1 : ¬ nK X p = 1) (h2 : ¬ nK X p = 2) : nE X p = nS X p + 1 := by
  unfold nE
  rw [if_neg h0, if_neg h1, if_neg h2]
def pErr (X : Nat → Int) (k : Int) (r : PR) : PR := r.bind fun g => .error (k, (nS X g.1 : Int))
