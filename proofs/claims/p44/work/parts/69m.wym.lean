/-! least ways: they are the only ones; alike both ways; short; bits of small numbers -/
section WYM
variable {n : Nat} {adj : Nat → Nat → Prop} {d e : Nat → Nat → Int}
/-- paths join places, both ways -/
def AdjOK (n : Nat) (adj : Nat → Nat → Prop) : Prop := n ≤ 7 ∧ ∀ a b : Nat, adj a b → a < n ∧ b < n ∧ adj b a
theorem wy_le (hA : AdjOK n adj) (h1 : Wy (n : Int) adj d) (h2 : Wy (n : Int) adj e) : ∀ (k a b : Nat), a < n → b < n → d a b = (k : Int) → (k : Int) < FAR → e a b ≤ (k : Int) := by
  intro k
  induction k with
  | zero =>
    intro a b ha hb hk hF
    by_cases c : a = b
    · subst c
      rw [h2.1 a (by have := hA.1; omega)]; omega
    · have := h1.2.1 a b (by have := hA.1; omega) (by have := hA.1; omega) c
      omega
  | succ k ih =>
    intro a b ha hb hk hF
    have h7 := hA.1
    by_cases c : a = b
    · subst c
      rw [h2.1 a (by omega)]; omega
    · obtain ⟨z, z7, z1, z2⟩ := h1.2.2.2.2 a b (by omega) (by omega) c (by omega)
      have zn := (hA.2 a z z1).2.1
      have i1 := ih z b zn hb (by omega) (by omega)
      have i2 := h2.2.2.2.1 a b z (by omega) (by omega) (by omega)
      have i3 := h2.2.2.1 a z (by omega) (by omega) z1
      omega
theorem wy_nn (h1 : Wy (n : Int) adj d) {a b : Nat} (ha : a < 7) (hb : b < 7) : 0 ≤ d a b := by
  by_cases c : a = b
  · subst c; rw [h1.1 a ha]; exact Int.le_refl _
  · have := h1.2.1 a b ha hb c; omega
theorem wy_eq (hA : AdjOK n adj) (h1 : Wy (n : Int) adj d) (h2 : Wy (n : Int) adj e) {a b : Nat} (ha : a < n) (hb : b < n) (hF : d a b < FAR) : e a b = d a b := by
  have h7 := hA.1
  have p1 := wy_nn h1 (a := a) (b := b) (by omega) (by omega)
  have p2 := wy_nn h2 (a := a) (b := b) (by omega) (by omega)
  have i1 := wy_le hA h1 h2 (d a b).toNat a b ha hb (by omega) (by omega)
  have i2 := wy_le hA h2 h1 (e a b).toNat a b ha hb (by omega) (by omega)
  omega
theorem wy_far (hA : AdjOK n adj) (h1 : Wy (n : Int) adj d) (h2 : Wy (n : Int) adj e) {a b : Nat} (ha : a < n) (hb : b < n) (hF : ¬ d a b < FAR) : ¬ e a b < FAR := by
  intro z
  have := wy_eq hA h2 h1 ha hb z
  omega
theorem wy_sym (hA : AdjOK n adj) (h1 : Wy (n : Int) adj d) : ∀ (k a b : Nat), a < n → b < n → d a b = (k : Int) → (k : Int) < FAR → d b a ≤ (k : Int) := by
  intro k
  induction k with
  | zero =>
    intro a b ha hb hk hF
    have h7 := hA.1
    by_cases c : a = b
    · subst c; omega
    · have := h1.2.1 a b (by omega) (by omega) c
      omega
  | succ k ih =>
    intro a b ha hb hk hF
    have h7 := hA.1
    by_cases c : a = b
    · subst c; omega
    · obtain ⟨z, z7, z1, z2⟩ := h1.2.2.2.2 a b (by omega) (by omega) c (by omega)
      have zn := hA.2 a z z1
      have i1 := ih z b zn.2.1 hb (by omega) (by omega)
      have i2 := h1.2.2.2.1 b a z (by omega) (by omega) (by omega)
      have i3 := h1.2.2.1 z a (by omega) (by omega) zn.2.2
      omega
theorem wy_sy (hA : AdjOK n adj) (h1 : Wy (n : Int) adj d) {a b : Nat} (ha : a < n) (hb : b < n) (hF : d a b < FAR) : d b a = d a b := by
  have h7 := hA.1
  have p1 := wy_nn h1 (a := a) (b := b) (by omega) (by omega)
  have p2 := wy_nn h1 (a := b) (b := a) (by omega) (by omega)
  have i1 := wy_sym hA h1 (d a b).toNat a b ha hb (by omega) (by omega)
  have i2 := wy_sym hA h1 (d b a).toNat b a hb ha (by omega) (by omega)
  omega
/-- the last step of a way -/
theorem wy_last (hA : AdjOK n adj) (h1 : Wy (n : Int) adj d) {a b : Nat} (ha : a < n) (hb : b < n) (hab : ¬ a = b) (hF : d a b < FAR) : ∃ c, c < n ∧ adj c b ∧ d a c = d a b - 1 := by
  have h7 := hA.1
  have hs := wy_sy hA h1 ha hb hF
  obtain ⟨z, z7, z1, z2⟩ := h1.2.2.2.2 b a (by omega) (by omega) (fun y => hab y.symm) (by omega)
  have zn := hA.2 b z z1
  have hz := wy_sy hA h1 zn.2.1 ha (by omega)
  exact ⟨z, zn.2.1, zn.2.2, by omega⟩
theorem wy_step (hA : AdjOK n adj) (h1 : Wy (n : Int) adj d) {a b c : Nat} (ha : a < n) (hc : adj c b) : d a b ≤ d a c + 1 := by
  have h7 := hA.1
  have cn := hA.2 c b hc
  have i2 := h1.2.2.2.1 a b c (by omega) (by omega) (by omega)
  have i3 := h1.2.2.1 c b (by omega) (by omega) hc
  omega
theorem wy_down (hA : AdjOK n adj) (h1 : Wy (n : Int) adj d) {b : Nat} (hb : b < n) : ∀ (i k a : Nat), a < n → d a b = (k : Int) → (k : Int) < FAR → i ≤ k → ∃ c, c < n ∧ d c b = ((k - i : Nat) : Int) := by
  intro i
  induction i with
  | zero => intro k a ha hk hF hi; exact ⟨a, ha, hk⟩
  | succ i ih =>
    intro k a ha hk hF hi
    have h7 := hA.1
    have hab : ¬ a = b := fun z => by
      subst z
      have := h1.1 a (by omega)
      omega
    obtain ⟨z, z7, z1, z2⟩ := h1.2.2.2.2 a b (by omega) (by omega) hab (by omega)
    obtain ⟨c, c1, c2⟩ := ih (k - 1) z (hA.2 a z z1).2.1 (by omega) (by omega) (by omega)
    exact ⟨c, c1, by omega⟩
theorem wy_small (hA : AdjOK n adj) (h1 : Wy (n : Int) adj d) {a b : Nat} (ha : a < n) (hb : b < n) (hF : d a b < FAR) : d a b ≤ 6 := by
  have h7 := hA.1
  have p1 := wy_nn h1 (a := a) (b := b) (by omega) (by omega)
  by_cases h6 : d a b ≤ 6
  · exact h6
  exfalso
  have key : ∀ i : Nat, i ≤ n → ∃ c, c < n ∧ d c b = (i : Int) := by
    intro i hi
    obtain ⟨c, c1, c2⟩ := wy_down hA h1 hb ((d a b).toNat - i) (d a b).toNat a ha (by omega) (by omega) (by omega)
    exact ⟨c, c1, by omega⟩
  have hf : ∀ i : Nat, ∃ c : Nat, i ≤ n → c < n ∧ d c b = (i : Int) := by
    intro i
    by_cases hi : i ≤ n
    · obtain ⟨c, hc⟩ := key i hi
      exact ⟨c, fun _ => hc⟩
    · exact ⟨0, fun z => absurd z hi⟩
  let f : Nat → Nat := fun i => Classical.choose (hf i)
  have hfs : ∀ i, i ≤ n → f i < n ∧ d (f i) b = (i : Int) := fun i => Classical.choose_spec (hf i)
  obtain ⟨i, j, hij, hj, he⟩ := pig n f (fun i hi => (hfs i hi).1)
  have e1 := (hfs i (by omega)).2
  have e2 := (hfs j hj).2
  rw [he] at e1
  omega
end WYM
theorem tb_7 : ∀ x : Nat, x < 128 → ∀ q : Nat, q < 7 → (Nat.testBit x q = true ↔ x / 2 ^ q % 2 = 1) := by decide +kernel
theorem bit_7 : ∀ x : Nat, x < 128 → ∀ q : Nat, q < 7 → iand (ishr (x : Int) (q : Int)) 1 = ((x / 2 ^ q % 2 : Nat) : Int) := by decide +kernel
theorem or_7 : ∀ x : Nat, x < 128 → ∀ y : Nat, y < 128 → ior (x : Int) (y : Int) = ((x ||| y : Nat) : Int) ∧ x ||| y < 128 := by decide +kernel
theorem an_7 : ∀ x : Nat, x < 128 → ∀ y : Nat, y < 128 → iand (x : Int) (ixor (y : Int) (-1)) = ((x &&& (127 ^^^ y) : Nat) : Int) ∧ x &&& (127 ^^^ y) < 128 := by decide +kernel
theorem sh_7 : ∀ p : Nat, p < 7 → ishl 1 (p : Int) = ((2 ^ p : Nat) : Int) ∧ 2 ^ p < 128 ∧ ∀ q : Nat, q < 7 → (2 ^ p / 2 ^ q % 2 = 1 ↔ q = p) := by decide +kernel
theorem tb_127 : ∀ q : Nat, q < 7 → Nat.testBit 127 q = true := by decide
/-- bits of small numbers -/
def bt (x q : Nat) : Prop := x / 2 ^ q % 2 = 1
theorem bt_or {x y q : Nat} (hx : x < 128) (hy : y < 128) (hq : q < 7) : bt (x ||| y) q ↔ (bt x q ∨ bt y q) := by
  unfold bt
  rw [← tb_7 _ (or_7 x hx y hy).2 q hq, ← tb_7 x hx q hq, ← tb_7 y hy q hq, Nat.testBit_or, Bool.or_eq_true]
theorem bt_an {x y q : Nat} (hx : x < 128) (hy : y < 128) (hq : q < 7) : bt (x &&& (127 ^^^ y)) q ↔ (bt x q ∧ ¬ bt y q) := by
  unfold bt
  rw [← tb_7 _ (an_7 x hx y hy).2 q hq, ← tb_7 x hx q hq, ← tb_7 y hy q hq, Nat.testBit_and, Nat.testBit_xor, tb_127 q hq, Bool.and_eq_true]
  cases Nat.testBit y q <;> simp
