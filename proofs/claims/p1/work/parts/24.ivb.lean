/-! one call on the fresh state, by boxes of its arguments -/
def tf {α : Type} : (k : Nat) → (Nat → α) → Tr α k
  | 0, f => f 0
  | k + 1, f => tp (tf k (fun i => f (2 * i))) (tf k (fun i => f (2 * i + 1)))
theorem tg_tf {α : Type} : ∀ (k : Nat) (f : Nat → α) (o : Nat), o < 2 ^ k → tg k (tf k f) o = f o := by
  intro k
  induction k with
  | zero => intro f o h; rw [show o = 0 by omega]; rfl
  | succ k ih =>
    intro f o h
    rw [tg_s]
    show (if o % 2 = 0 then tg k (tf k (fun i => f (2 * i))) (o / 2) else tg k (tf k (fun i => f (2 * i + 1))) (o / 2)) = f o
    have h2 : o / 2 < 2 ^ k := by rw [Nat.pow_succ] at h; omega
    by_cases e : o % 2 = 0
    · rw [if_pos e, ih _ _ h2, show 2 * (o / 2) = o by omega]
    · rw [if_neg e, ih _ _ h2, show 2 * (o / 2) + 1 = o by omega]
def mM : MI := tf 8 mT
def bxM (box : List (Int × Int)) (M : MI) : MI := ts 8 M 0 (fun j => box[j]?)
def okR (r : Option (AI × Nat × MI)) : Bool := match r with
  | some q => decide (q.1.1 = 0) && decide (cst q.1.2 = some 1)
  | none => false
def okB (pc : Nat) (box : List (Int × Int)) : Bool := okR (runI (shT 6) 30000 1000 316 pc lH [] 213 (bxM box mM))
def okP (pc : Nat) : List (Int × Int) → List (List (Int × Int)) → Bool
  | pre, [] => okB pc pre
  | pre, p :: ps => p.all (fun q => okP pc (pre ++ [q]) ps)
def ptOk : Int → List (Int × Int) → Bool
  | a, [] => decide (2147483647 < a)
  | a, q :: l => decide (q.1 ≤ a) && ptOk (q.2 + 1) l
theorem ptOk_ok : ∀ (l : List (Int × Int)) (a x : Int), ptOk a l = true → a ≤ x → x ≤ 2147483647 → ∃ q, q ∈ l ∧ q.1 ≤ x ∧ x ≤ q.2 := by
  intro l
  induction l with
  | nil => intro a x h h1 h2; unfold ptOk at h; simp only [decide_eq_true_eq] at h; omega
  | cons q l ih =>
    intro a x h h1 h2
    unfold ptOk at h
    simp only [Bool.and_eq_true, decide_eq_true_eq] at h
    by_cases e : x ≤ q.2
    · exact ⟨q, List.mem_cons_self, by omega, e⟩
    · obtain ⟨r, g1, g2⟩ := ih _ x h.2 (by omega) h2
      exact ⟨r, List.mem_cons_of_mem _ g1, g2⟩
abbrev fl : Int × Int := (-2147483648, 2147483647)
def pts (ps : List (List (Int × Int))) : Bool := ps.all (ptOk (-2147483648))
theorem okP_ok {pc : Nat} {p1 p2 p3 p4 p5 : List (Int × Int)} (hp : pts [p1, p2, p3, p4, p5] = true) (h : okP pc [fl] [p1, p2, p3, p4, p5] = true) {x1 x2 x3 x4 x5 : Int} (g1 : in32 x1) (g2 : in32 x2) (g3 : in32 x3) (g4 : in32 x4) (g5 : in32 x5) :
    ∃ q1 q2 q3 q4 q5 : Int × Int, okB pc [fl, q1, q2, q3, q4, q5] = true ∧ (q1.1 ≤ x1 ∧ x1 ≤ q1.2) ∧ (q2.1 ≤ x2 ∧ x2 ≤ q2.2) ∧ (q3.1 ≤ x3 ∧ x3 ≤ q3.2) ∧ (q4.1 ≤ x4 ∧ x4 ≤ q4.2) ∧ (q5.1 ≤ x5 ∧ x5 ≤ q5.2) := by
  unfold pts at hp
  simp only [List.all_cons, List.all_nil, Bool.and_true, Bool.and_eq_true] at hp
  obtain ⟨k1, k2, k3, k4, k5⟩ := hp
  obtain ⟨q1, m1, b1⟩ := ptOk_ok _ _ _ k1 g1.1 g1.2
  obtain ⟨q2, m2, b2⟩ := ptOk_ok _ _ _ k2 g2.1 g2.2
  obtain ⟨q3, m3, b3⟩ := ptOk_ok _ _ _ k3 g3.1 g3.2
  obtain ⟨q4, m4, b4⟩ := ptOk_ok _ _ _ k4 g4.1 g4.2
  obtain ⟨q5, m5, b5⟩ := ptOk_ok _ _ _ k5 g5.1 g5.2
  have h1 := List.all_eq_true.mp h q1 m1
  have h2 := List.all_eq_true.mp h1 q2 m2
  have h3 := List.all_eq_true.mp h2 q3 m3
  have h4 := List.all_eq_true.mp h3 q4 m4
  have h5 := List.all_eq_true.mp h4 q5 m5
  exact ⟨q1, q2, q3, q4, q5, h5, b1, b2, b3, b4, b5⟩
