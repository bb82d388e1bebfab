/-! the tapes of both sides hold one text -/
theorem ia_255 (z : Int) : iand z 255 = z % 256 := by
  show (BitVec.ofInt 32 z &&& BitVec.ofInt 32 255).toInt = z % 256
  have h1 : (BitVec.ofInt 32 z &&& BitVec.ofInt 32 255).toNat = (z % 4294967296).toNat % 256 := by
    rw [BitVec.toNat_and, BitVec.toNat_ofInt, show (BitVec.ofInt 32 255).toNat = 2 ^ 8 - 1 from rfl, Nat.and_two_pow_sub_one_eq_mod]
    rfl
  rw [BitVec.toInt_eq_toNat_cond, h1]
  have h2 := Nat.mod_lt (z % 4294967296).toNat (show 0 < 256 by decide)
  rw [if_pos (by omega)]
  omega
theorem ia_b8 (z : Int) : iand (b8 z) 255 = iand z 255 := by
  rw [ia_255, ia_255]
  unfold b8
  unfold Int.bmod
  dsimp only
  split <;> omega
/-- both tapes hold c bytes, the same -/
def TBr (m : Mm) : Prop := ∃ c : Nat, c ≤ 800 ∧ m 2 1 = (c : Int) ∧ m 192 5 = (c : Int) ∧ ∀ j : Nat, j < 800 → m 3 j = iand (m 196 j) 255
theorem TBr_cx {m : Mm} (h : TBr m) : CXt (txR m) m := by
  obtain ⟨c, h1, h2, h3, h4⟩ := h
  refine ⟨c, h1, h2, fun k => ?_, fun k hk => ?_⟩
  · unfold txR
    rw [h3]
    by_cases e : k < c
    · rw [if_pos (by omega), if_pos e, h4 k (by omega)]
    · rw [if_neg (by omega), if_neg e]
  · unfold txR
    rw [h3, if_pos (by omega), ia_255]
    omega
theorem TBr_fr {W : List Nat} {m m' : Mm} (h : Fr W m m') (h1 : W.contains 2001 = false) (h2 : W.contains 90005 = false) (h3 : W.contains 3999 = false) (h4 : W.contains 94999 = false) (r : TBr m) : TBr m' := by
  obtain ⟨c, a1, a2, a3, a4⟩ := r
  exact ⟨c, a1, by rw [h 2 1 h1]; exact a2, by rw [h 192 5 h2]; exact a3, fun j hj => by rw [h 3 j h3, h 196 j h4]; exact a4 j hj⟩
theorem tp_feed {m m1 m2 : Mm} {a b x d e v1 v2 : Int} {c : Nat} {W1 : List Nat} (hc8 : c ≤ 800) (k1 : m 2 1 = (c : Int)) (k2 : m 192 5 = (c : Int)) (k3 : ∀ j : Nat, j < 800 → m 3 j = iand (m 196 j) 255) (h1 : (780 < (c : Int) → v1 = -1 ∧ m1 = m) ∧ ((c : Int) ≤ 780 → v1 = (c : Int) + 20 ∧ m1 2 1 = (c : Int) + 20 ∧ (∀ k : Nat, k < 20 → m1 3 (c + k) = iand (by4 (fv5 a b x d e (k / 4)) (k % 4)) 255) ∧ ∀ o i : Nat, ¬ (o = 3 ∧ c ≤ i ∧ i < c + 20) → ¬ (o = 2 ∧ i = 1) → m1 o i = m o i)) (f1 : Fr W1 m m1) (w1 : W1.contains 94999 = false) (w2 : W1.contains 90005 = false) (h2 : (780 < (c : Int) → v2 = -1 ∧ m2 = m1) ∧ ((c : Int) ≤ 780 → v2 = (c : Int) + 20 ∧ m2 192 5 = (c : Int) + 20 ∧ (∀ k : Nat, k < 20 → m2 196 (c + k) = b8 (by4 (fv5 a b x d e (k / 4)) (k % 4))) ∧ ∀ o i : Nat, ¬ (o = 196 ∧ c ≤ i ∧ i < c + 20) → ¬ (o = 192 ∧ i = 5) → ¬ o = 197 → m2 o i = m1 o i)) : v1 = v2 ∧ TBr m2 := by
  by_cases z : 780 < (c : Int)
  · have a1 := h1.1 z
    have a2 := h2.1 z
    refine ⟨a1.1.trans a2.1.symm, ?_⟩
    rw [a2.2, a1.2]
    exact ⟨c, hc8, k1, k2, k3⟩
  · obtain ⟨p1, p2, p3, p4⟩ := h1.2 (by omega)
    obtain ⟨q1, q2, q3, q4⟩ := h2.2 (by omega)
    refine ⟨p1.trans q1.symm, c + 20, by omega, ?_, by rw [q2]; omega, fun j hj => ?_⟩
    · rw [q4 2 1 (by omega) (by omega) (by omega), p2]; omega
    · rw [q4 3 j (by omega) (by omega) (by omega)]
      by_cases y : c ≤ j ∧ j < c + 20
      · have e1 := p3 (j - c) (by omega)
        have e2 := q3 (j - c) (by omega)
        rw [show c + (j - c) = j by omega] at e1 e2
        rw [e1, e2, ia_b8]
      · rw [p4 3 j (by omega) (by omega), q4 196 j (by omega) (by omega) (by omega), f1 196 j w1]
        exact k3 j hj
theorem tp_end {m m1 m2 : Mm} {n v1 v2 : Int} {c : Nat} (hc8 : c ≤ 800) (k1 : m 2 1 = (c : Int)) (k2 : m 192 5 = (c : Int)) (k3 : ∀ j : Nat, j < 800 → m 3 j = iand (m 196 j) 255) (h1 : (0 ≤ n ∧ n ≤ (c : Int) → v1 = n ∧ m1 = nu_up m 2 1 n) ∧ (¬ (0 ≤ n ∧ n ≤ (c : Int)) → v1 = -1 ∧ m1 = m)) (h2 : (0 ≤ n ∧ n ≤ (c : Int) → v2 = n ∧ m2 = nu_up m1 192 5 n) ∧ (¬ (0 ≤ n ∧ n ≤ (c : Int)) → v2 = -1 ∧ m2 = m1)) : v1 = v2 ∧ TBr m2 := by
  by_cases z : 0 ≤ n ∧ n ≤ (c : Int)
  · obtain ⟨a1, a2⟩ := h1.1 z
    obtain ⟨b1, b2⟩ := h2.1 z
    refine ⟨a1.trans b1.symm, n.toNat, by omega, ?_, ?_, fun j hj => ?_⟩
    · rw [b2, nu_no (by decide), a2, nu_at]; omega
    · rw [b2, nu_at]; omega
    · rw [b2, nu_no (by decide), nu_no (by decide), a2, nu_no (by decide), nu_no (by decide)]
      exact k3 j hj
  · obtain ⟨a1, a2⟩ := h1.2 z
    obtain ⟨b1, b2⟩ := h2.2 z
    refine ⟨a1.trans b1.symm, ?_⟩
    rw [b2, a2]
    exact ⟨c, hc8, k1, k2, k3⟩
/-- what isle of the reference leaves behind -/
def IslR (m m1 : Mm) (v : Int) (R : Except (Int × Int) Wd) : Prop := match R with
  | .error e => v = -4 ∧ m1 192 12 = e.1 ∧ m1 192 13 = e.2 ∧ ∀ i : Nat, m1 193 i = m 193 i
  | .ok w => v = w 9 ∧ m1 192 12 = 0 ∧ m1 192 13 = -1 ∧ ∀ i : Nat, i < 69 → m1 193 i = w i
theorem IslR_of {T : List Kd} {m : Mm} {X : Nat → Int} (hT : TT T) (hm : Gam m) (hX : ∀ k : Nat, X k = if (k : Int) < m 192 5 then iand (m 196 k) 255 else -1) (hx : XOK X) : GX T 9 118 0 [(2, 192), (9, 0)] [] m (RI (fun v m1 => IslR m m1 v (pAll X 802 0 (fun _ => 0)))) := y_118 hT hm hX hx
theorem txR_fr {W : List Nat} {m m' : Mm} (h : Fr W m m') (h2 : W.contains 90005 = false) (h4 : W.contains 94999 = false) (k : Nat) : txR m k = if (k : Int) < m' 192 5 then iand (m' 196 k) 255 else -1 := by
  unfold txR
  rw [h 192 5 h2, h 196 k h4]
theorem tp_isle {m m1 m2 : Mm} {v1 v2 : Int} {R : Except (Int × Int) Wd} {W1 W2 : List Nat} (r : TBr m) (h0 : m1 2 1 = 0) (h1 : IslQ m m1 v1 R) (h2 : IslR m1 m2 v2 R) (h3 : m2 192 5 = 0) (f1 : Fr W1 m m1) (w1 : W1.contains 94999 = false) (w2 : W1.contains 3999 = false) (f2 : Fr W2 m1 m2) (w3 : W2.contains 94999 = false) (w4 : W2.contains 3999 = false) (w5 : W2.contains 2001 = false) (w6 : W2.contains 2002 = false) (w7 : W2.contains 2003 = false) : v1 = v2 ∧ TBr m2 ∧ m2 2 2 = m2 192 12 ∧ m2 2 3 = m2 192 13 := by
  have ht : TBr m2 := by
    obtain ⟨c, a1, a2, a3, a4⟩ := r
    refine ⟨0, by decide, ?_, h3, fun j hj => ?_⟩
    · rw [f2 2 1 w5]; exact h0
    · rw [f2 3 j w4, f2 196 j w3, f1 3 j w2, f1 196 j w1]; exact a4 j hj
  cases R with
  | error e =>
    obtain ⟨a1, a2, a3, -⟩ := h1
    obtain ⟨b1, b2, b3, -⟩ := h2
    exact ⟨a1.trans b1.symm, ht, by rw [f2 2 2 w6, a2, b2], by rw [f2 2 3 w7, a3, b3]⟩
  | ok w =>
    obtain ⟨a1, a2, a3, -⟩ := h1
    obtain ⟨b1, b2, b3, -⟩ := h2
    exact ⟨a1.trans b1.symm, ht, by rw [f2 2 2 w6, a2, b2], by rw [f2 2 3 w7, a3, b3]⟩
