/-! the choice of wine, bend, dams -/
/-- an hour is sooner than another, none is the last -/
def ltH (a b : Int) : Bool := decide (¬ a = -1 ∧ (b = -1 ∨ a < b))
theorem ltH_i {a b : Int} : ltH a b = true ↔ (¬ a = -1 ∧ (b = -1 ∨ a < b)) := by
  unfold ltH
  exact decide_eq_true_iff
theorem ltH_12 {a b : Int} (ha : a = -1 ∨ (0 ≤ a ∧ a < 12)) (hb : b = -1 ∨ (0 ≤ b ∧ b < 12)) : ltH a b = true ↔ (if a = -1 then (12 : Int) else a) < (if b = -1 then 12 else b) := by
  rw [ltH_i]
  by_cases c : a = -1
  · rw [if_pos c]
    by_cases d : b = -1
    · rw [if_pos d]; exact ⟨fun z => absurd c z.1, fun z => absurd z (by omega)⟩
    · rw [if_neg d]; exact ⟨fun z => absurd c z.1, fun z => absurd z (by omega)⟩
  · rw [if_neg c]
    by_cases d : b = -1
    · rw [if_pos d]; exact ⟨fun _ => by omega, fun _ => ⟨c, Or.inl d⟩⟩
    · rw [if_neg d]; exact ⟨fun z => z.2.resolve_left d, fun z => ⟨c, Or.inr z⟩⟩
theorem ltH_g {a b : Int} (ha : a = -1 ∨ (0 ≤ a ∧ a < 12)) (hb : b = -1 ∨ (0 ≤ b ∧ b < 12)) : ltH a b = true ↔ (if a = -1 then (1000000000 : Int) else a) < (if b = -1 then 1000000000 else b) := by
  rw [ltH_i]
  by_cases c : a = -1
  · rw [if_pos c]
    by_cases d : b = -1
    · rw [if_pos d]; exact ⟨fun z => absurd c z.1, fun z => absurd z (by omega)⟩
    · rw [if_neg d]; exact ⟨fun z => absurd c z.1, fun z => absurd z (by omega)⟩
  · rw [if_neg c]
    by_cases d : b = -1
    · rw [if_pos d]; exact ⟨fun _ => by omega, fun _ => ⟨c, Or.inl d⟩⟩
    · rw [if_neg d]; exact ⟨fun z => z.2.resolve_left d, fun z => ⟨c, Or.inr z⟩⟩
/-- which of the first k is taken, and its hour: up: the latest beyond x, else the soonest before x -/
def scY (up : Bool) (E : Nat → Int) (x : Int) : Nat → Int × Int
  | 0 => (-1, x)
  | k + 1 => if (up = true ∧ ltH (scY up E x k).2 (E k) = true) ∨ (up = false ∧ ltH (E k) (scY up E x k).2 = true) then ((k : Int), E k) else scY up E x k
theorem scY_c {up : Bool} {E F : Nat → Int} {x : Int} : ∀ n : Nat, (∀ k : Nat, k < n → E k = F k) → scY up E x n = scY up F x n := by
  intro n
  induction n with
  | zero => intro _; rfl
  | succ n ih =>
    intro e
    show (if (up = true ∧ ltH (scY up E x n).2 (E n) = true) ∨ (up = false ∧ ltH (E n) (scY up E x n).2 = true) then ((n : Int), E n) else scY up E x n) = (if (up = true ∧ ltH (scY up F x n).2 (F n) = true) ∨ (up = false ∧ ltH (F n) (scY up F x n).2 = true) then ((n : Int), F n) else scY up F x n)
    rw [ih (fun k hk => e k (by omega)), e n (by omega)]
theorem scY_r {up : Bool} {E : Nat → Int} {x : Int} (hx : x = -1 ∨ (0 ≤ x ∧ x < 12)) : ∀ n : Nat, (∀ k : Nat, k < n → E k = -1 ∨ (0 ≤ E k ∧ E k < 12)) → (scY up E x n).2 = -1 ∨ (0 ≤ (scY up E x n).2 ∧ (scY up E x n).2 < 12) := by
  intro n
  induction n with
  | zero => intro _; exact hx
  | succ n ih =>
    intro e
    have z := ih (fun k hk => e k (by omega))
    have y := e n (by omega)
    by_cases c : (up = true ∧ ltH (scY up E x n).2 (E n) = true) ∨ (up = false ∧ ltH (E n) (scY up E x n).2 = true)
    · have s : scY up E x (n + 1) = ((n : Int), E n) := if_pos c
      rw [s]; exact y
    · have s : scY up E x (n + 1) = scY up E x n := if_neg c
      rw [s]; exact z
theorem ridF_r {n : Nat} {r : Nat → List (List Int)} {v : Int} (hn : n ≤ 12) (h : RidF n r v) : v = -1 ∨ (0 ≤ v ∧ v < 12) := by
  rcases h with ⟨z, _⟩ | ⟨L, l1, l2, _⟩
  · exact Or.inl z
  · exact Or.inr ⟨by omega, by omega⟩
/-- the answer of wine, bend, dams -/
def ScanV (up : Bool) (n c : Nat) (base : Nat → List (List Int)) (R : Nat → Nat → List (List Int)) (v : Int) : Prop := ∃ (x : Int) (E : Nat → Int), RidF n base x ∧ (∀ k : Nat, k < c → RidF n (R k) (E k)) ∧ v = (scY up E x c).1
theorem scanV_u {up : Bool} {n c : Nat} {base : Nat → List (List Int)} {R : Nat → Nat → List (List Int)} {v y : Int} (h1 : ScanV up n c base R v) (h2 : ScanV up n c base R y) : v = y := by
  obtain ⟨x, E, a1, a2, a3⟩ := h1
  obtain ⟨z, F, b1, b2, b3⟩ := h2
  have e := ridF_u a1 b1
  subst e
  rw [a3, b3, scY_c c (fun k hk => ridF_u (a2 k hk) (b2 k hk))]
