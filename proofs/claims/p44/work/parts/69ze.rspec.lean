/-! the ride, hour by hour, as a function -/
/-- the first below n with P, or -1 -/
def firstF (P : Nat → Bool) : Nat → Nat → Int
  | 0, _ => -1
  | f + 1, i => if P i then (i : Int) else firstF P f (i + 1)
theorem firstF_i (P : Nat → Bool) : ∀ (f i : Nat), (∀ j : Nat, j < i → ¬ P j = true) → FirstOf (i + f) (fun k => P k = true) (firstF P f i) := by
  intro f
  induction f with
  | zero => intro i h; exact Or.inl ⟨rfl, fun j hj => h j (by omega)⟩
  | succ f ih =>
    intro i h
    show FirstOf (i + (f + 1)) (fun k => P k = true) (if P i then (i : Int) else firstF P f (i + 1))
    by_cases c : P i = true
    · rw [if_pos c]; exact Or.inr ⟨i, by omega, c, rfl, h⟩
    · rw [if_neg c, show i + (f + 1) = i + 1 + f by omega]
      refine ih (i + 1) (fun j hj => ?_)
      by_cases e : j = i
      · rw [e]; exact c
      · exact h j (by omega)
theorem firstF_of (P : Nat → Bool) (n : Nat) : FirstOf n (fun k => P k = true) (firstF P n 0) := by
  have z := firstF_i P n 0 (fun j hj => absurd hj (Nat.not_lt_zero _))
  rw [Nat.zero_add] at z
  exact z
/-- the first below n of those with C whose key is least, or -1 -/
def bestF (C : Nat → Bool) (key : Nat → Int) : Nat → Int
  | 0 => -1
  | k + 1 => if C k = true ∧ (bestF C key k = -1 ∨ key k < key (bestF C key k).toNat) then (k : Int) else bestF C key k
theorem bestF_of (C : Nat → Bool) (key : Nat → Int) : ∀ n : Nat, BestOf n (fun k => C k = true) key (bestF C key n) := by
  intro n
  induction n with
  | zero => exact BestOf_0
  | succ k ih =>
    show BestOf (k + 1) (fun k => C k = true) key (if C k = true ∧ (bestF C key k = -1 ∨ key k < key (bestF C key k).toNat) then (k : Int) else bestF C key k)
    by_cases c : C k = true ∧ (bestF C key k = -1 ∨ key k < key (bestF C key k).toNat)
    · rw [if_pos c]
      refine BestOf_new ih c.1 (fun i hi e => ?_)
      have c2 := c.2
      rw [e] at c2
      rcases c2 with z | z
      · omega
      · exact z
    · rw [if_neg c]
      refine BestOf_no ih (fun ck => ?_)
      have c2 : ¬ (bestF C key k = -1 ∨ key k < key (bestF C key k).toNat) := fun z => c ⟨ck, z⟩
      rcases ih with ⟨a1, a2⟩ | ⟨i, a1, a2, a3, a4⟩
      · exact absurd (Or.inl a1) c2
      · refine ⟨i, a1, a3, ?_⟩
        have c3 : ¬ key k < key (bestF C key k).toNat := fun z => c2 (Or.inr z)
        rw [a3] at c3
        have c4 : ¬ key k < key i := c3
        omega
/-- whether bit q is set -/
def bitF (x : Int) (q : Nat) : Bool := decide (iand (ishr x (q : Int)) 1 = 1)
/-- the ripe, full vine at a place -/
def vineF (w : Wd) (pl hr em : Int) : Int := firstF (fun v => decide (w (42 + 2 * v) ≤ hr) && !bitF em v && decide (w (41 + 2 * v) = pl)) (w 6).toNat 0
/-- the strongest at a place who has not fallen -/
def strongF (w : Wd) (pl fb : Int) : Int := bestF (fun b => !bitF fb b && decide (w (47 + 2 * b) = pl)) (fun b => - w (48 + 2 * b)) (w 7).toNat
/-- the tree that steers him: nearest in reach with fruit; D: lengths of ways, s: his state -/
def steerF (w : Wd) (D : Nat → Nat → Int) (p : Nat) (s : Wd) : Int := bestF (fun t => decide (0 < s (11 + t)) && decide (D p (w (31 + 2 * t)).toNat < FAR)) (fun t => D p (w (31 + 2 * t)).toNat) (w 5).toNat
/-- the first place beside that is nearer -/
def stepF (w : Wd) (D : Nat → Nat → Int) (p g : Nat) : Int := firstF (fun q => decide (D p q = 1) && decide (D q g = D p g - 1)) (w 0).toNat 0
/-- he is over: kind 0 fell, 1 was tossed -/
def overF (s : Wd) (k : Int) : Wd := upw (upw (upw s 16 k) 0 (-1)) 1 (-1)
/-- he is carried to a place: state 0 place, 1 bearer, 2 weight, 3 hour he is sober at, 4 vines emptied, 5 bearers fallen, 6 .. tiredness, 11 .. fruit, 16 how it ended -/
def carF (w : Wd) (s : Wd) (g : Int) : Wd :=
  let b := (s 1).toNat
  let s1 := upw (upw s 0 g) (6 + b) (s (6 + b) + s 2)
  if w (48 + 2 * b) < s (6 + b) + s 2 then
    let fb := ior (s 5) (ishl 1 (b : Int))
    let y := strongF w g fb
    if y = -1 then overF (upw s1 5 fb) 0 else upw (upw s1 5 fb) 1 y
  else s1
/-- he eats of a tree -/
def eatF (s : Wd) (t : Nat) : Wd :=
  let b := (s 1).toNat
  upw (upw (upw s (11 + t) (s (11 + t) - 1)) 2 (s 2 + 1)) (6 + b) (max (s (6 + b) - 3) 0)
/-- whether an act can be in an hour -/
def canF (w : Wd) (D : Nat → Nat → Int) (h : Int) (a : Int) (s : Wd) : Bool :=
  if s 1 = -1 then false
  else if a = 0 then false
  else if a = 1 then !decide (h < s 3) && !decide (vineF w (s 0) h (s 4) = -1)
  else if ¬ h < s 3 then false
  else if a = 2 then bitF (w 10) (s 0).toNat
  else decide (10 ≤ a) && decide (D (s 0).toNat (a - 10).toNat = 1)
/-- an offer is taken: the vine is emptied, he is drunk for three hours -/
def offF (w : Wd) (h : Int) (s : Wd) : Wd := upw (upw s 4 (ior (s 4) (ishl 1 (vineF w (s 0) h (s 4))))) 3 (h + 3)
/-- an hour without throw and carrying: 1 sleeps, 2 eats, 3 is carried, 4 stays -/
def goF (w : Wd) (D : Nat → Nat → Int) (h : Int) (s : Wd) : Wd × Int :=
  if h < s 3 then (s, 1)
  else if steerF w D (s 0).toNat s = -1 then (s, 4)
  else if w (31 + 2 * (steerF w D (s 0).toNat s).toNat) = s 0 then (eatF s (steerF w D (s 0).toNat s).toNat, 2)
  else (carF w s (stepF w D (s 0).toNat (w (31 + 2 * (steerF w D (s 0).toNat s).toNat)).toNat), 3)
/-- an hour with an act: the state behind it, and what is done: 0 nothing, 1 sleeps, 2 eats, 3 is carried, 4 stays, 5 is thrown -/
def hourF (w : Wd) (D : Nat → Nat → Int) (h : Int) (a : Int) (s : Wd) : Wd × Int :=
  if s 1 = -1 then (s, 0)
  else if canF w D h a s = true ∧ a = 2 then (overF s 1, 5)
  else if canF w D h a s = true ∧ 10 ≤ a then (carF w s (a - 10), 3)
  else goF w D h (if canF w D h a s = true ∧ a = 1 then offF w h s else s)
