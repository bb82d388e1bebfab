/-! pairs that fit a row: the class -/
theorem r_275_0 : row 275 0 = some (.iconst 0, 1, 0, 0, 0, 0) := rfl
theorem r_275_1 : row 275 1 = some (.istore_n 3, 2, 0, 0, 0, 0) := rfl
theorem r_275_2 : row 275 2 = some (.iload_n 3, 3, 0, 0, 0, 0) := rfl
theorem r_275_3 : row 275 3 = some (.aload_n 2, 4, 0, 0, 0, 0) := rfl
theorem r_275_4 : row 275 4 = some (.getfield 25, 7, 6, 2, 10, 2146) := rfl
theorem r_275_7 : row 275 7 = some (.if_icmp .ge 50, 10, 57, 0, 0, 0) := rfl
theorem r_275_10 : row 275 10 = some (.iload_n 3, 11, 0, 0, 0, 0) := rfl
theorem r_275_11 : row 275 11 = some (.iconst 1, 12, 1, 0, 0, 0) := rfl
theorem r_275_12 : row 275 12 = some (.iand, 13, 0, 0, 0, 0) := rfl
theorem r_275_13 : row 275 13 = some (.ifCond .ne 10, 16, 23, 0, 0, 0) := rfl
theorem r_275_16 : row 275 16 = some (.aload_n 1, 17, 0, 0, 0, 0) := rfl
theorem r_275_17 : row 275 17 = some (.getfield 30, 20, 3, 6, 10, 1092) := rfl
theorem r_275_20 : row 275 20 = some (.goto 5, 23, 25, 0, 0, 0) := rfl
theorem r_275_23 : row 275 23 = some (.bipush 10, 25, 10, 0, 0, 0) := rfl
theorem r_275_25 : row 275 25 = some (.istore 4, 27, 0, 0, 0, 0) := rfl
theorem r_275_27 : row 275 27 = some (.aload_n 2, 28, 0, 0, 0, 0) := rfl
theorem r_275_28 : row 275 28 = some (.iload_n 3, 29, 0, 0, 0, 0) := rfl
theorem r_275_29 : row 275 29 = some (.invokevirtual 35, 32, 283, 1, 10, 5048) := rfl
theorem r_275_32 : row 275 32 = some (.lconst 0, 33, 0, 0, 0, 0) := rfl
theorem r_275_33 : row 275 33 = some (.lcmp, 34, 0, 0, 0, 0) := rfl
theorem r_275_34 : row 275 34 = some (.ifCond .lt 15, 37, 49, 0, 0, 0) := rfl
theorem r_275_37 : row 275 37 = some (.aload_n 2, 38, 0, 0, 0, 0) := rfl
theorem r_275_38 : row 275 38 = some (.iload_n 3, 39, 0, 0, 0, 0) := rfl
theorem r_275_39 : row 275 39 = some (.invokevirtual 35, 42, 283, 1, 10, 5048) := rfl
theorem r_275_42 : row 275 42 = some (.iload 4, 44, 0, 0, 0, 0) := rfl
theorem r_275_44 : row 275 44 = some (.i2l, 45, 0, 0, 0, 0) := rfl
theorem r_275_45 : row 275 45 = some (.lcmp, 46, 0, 0, 0, 0) := rfl
theorem r_275_46 : row 275 46 = some (.ifCond .lt 5, 49, 51, 0, 0, 0) := rfl
theorem r_275_49 : row 275 49 = some (.iconst 0, 50, 0, 0, 0, 0) := rfl
theorem r_275_50 : row 275 50 = some (.ireturn, 51, 0, 0, 0, 0) := rfl
theorem r_275_51 : row 275 51 = some (.iinc 3 1, 54, 0, 0, 0, 0) := rfl
theorem r_275_54 : row 275 54 = some (.goto (-52), 57, 2, 0, 0, 0) := rfl
theorem r_275_57 : row 275 57 = some (.aload_n 2, 58, 0, 0, 0, 0) := rfl
theorem r_275_58 : row 275 58 = some (.getfield 25, 61, 6, 2, 10, 2146) := rfl
theorem r_275_61 : row 275 61 = some (.iconst 1, 62, 1, 0, 0, 0) := rfl
theorem r_275_62 : row 275 62 = some (.iand, 63, 0, 0, 0, 0) := rfl
theorem r_275_63 : row 275 63 = some (.ifCond .ne 7, 66, 70, 0, 0, 0) := rfl
theorem r_275_66 : row 275 66 = some (.iconst 1, 67, 1, 0, 0, 0) := rfl
theorem r_275_67 : row 275 67 = some (.goto 4, 70, 71, 0, 0, 0) := rfl
theorem r_275_70 : row 275 70 = some (.iconst 0, 71, 0, 0, 0, 0) := rfl
theorem r_275_71 : row 275 71 = some (.ireturn, 72, 0, 0, 0, 0) := rfl
theorem r_276_0 : row 276 0 = some (.aload_n 0, 1, 0, 0, 0, 0) := rfl
theorem r_276_1 : row 276 1 = some (.iconst 0, 2, 0, 0, 0, 0) := rfl
theorem r_276_2 : row 276 2 = some (.putfield 9, 5, 5, 0, 0, 2099) := rfl
theorem r_276_5 : row 276 5 = some (.aload_n 0, 6, 0, 0, 0, 0) := rfl
theorem r_276_6 : row 276 6 = some (.iconst 0, 7, 0, 0, 0, 0) := rfl
theorem r_276_7 : row 276 7 = some (.putfield 15, 10, 5, 1, 0, 2101) := rfl
theorem r_276_10 : row 276 10 = some (.aload_n 0, 11, 0, 0, 0, 0) := rfl
theorem r_276_11 : row 276 11 = some (.iconst 0, 12, 0, 0, 0, 0) := rfl
theorem r_276_12 : row 276 12 = some (.putfield 18, 15, 5, 2, 0, 2103) := rfl
theorem r_276_15 : row 276 15 = some (.aload_n 0, 16, 0, 0, 0, 0) := rfl
theorem r_276_16 : row 276 16 = some (.getfield 21, 19, 5, 3, 2, 2105) := rfl
theorem r_276_19 : row 276 19 = some (.iconst 0, 20, 0, 0, 0, 0) := rfl
theorem r_276_20 : row 276 20 = some (.invokestatic 39, 23, 240, 2, 10, 5056) := rfl
theorem r_276_23 : row 276 23 = some (.return_, 24, 0, 0, 0, 0) := rfl
theorem r_278_0 : row 278 0 = some (.iconst 0, 1, 0, 0, 0, 0) := rfl
theorem r_278_1 : row 278 1 = some (.istore_n 3, 2, 0, 0, 0, 0) := rfl
theorem r_278_2 : row 278 2 = some (.iload_n 3, 3, 0, 0, 0, 0) := rfl
theorem r_278_3 : row 278 3 = some (.iconst 1, 4, 1, 0, 0, 0) := rfl
theorem r_278_4 : row 278 4 = some (.iadd, 5, 0, 0, 0, 0) := rfl
theorem r_278_5 : row 278 5 = some (.aload_n 0, 6, 0, 0, 0, 0) := rfl
theorem r_278_6 : row 278 6 = some (.getfield 25, 9, 6, 2, 10, 2146) := rfl
theorem r_278_9 : row 278 9 = some (.if_icmp .ge 34, 12, 43, 0, 0, 0) := rfl
theorem r_278_12 : row 278 12 = some (.aload_n 1, 13, 0, 0, 0, 0) := rfl
theorem r_278_13 : row 278 13 = some (.aload_n 0, 14, 0, 0, 0, 0) := rfl
theorem r_278_14 : row 278 14 = some (.iload_n 3, 15, 0, 0, 0, 0) := rfl
theorem r_278_15 : row 278 15 = some (.invokevirtual 35, 18, 283, 1, 10, 5048) := rfl
theorem r_278_18 : row 278 18 = some (.l2i, 19, 0, 0, 0, 0) := rfl
theorem r_278_19 : row 278 19 = some (.iload_n 2, 20, 0, 0, 0, 0) := rfl
theorem r_278_20 : row 278 20 = some (.invokevirtual 52, 23, 292, 2, 10, 5064) := rfl
theorem r_278_23 : row 278 23 = some (.i2l, 24, 0, 0, 0, 0) := rfl
theorem r_278_24 : row 278 24 = some (.aload_n 0, 25, 0, 0, 0, 0) := rfl
theorem r_278_25 : row 278 25 = some (.iload_n 3, 26, 0, 0, 0, 0) := rfl
theorem r_278_26 : row 278 26 = some (.iconst 1, 27, 1, 0, 0, 0) := rfl
theorem r_278_27 : row 278 27 = some (.iadd, 28, 0, 0, 0, 0) := rfl
theorem r_278_28 : row 278 28 = some (.invokevirtual 35, 31, 283, 1, 10, 5048) := rfl
theorem r_278_31 : row 278 31 = some (.lcmp, 32, 0, 0, 0, 0) := rfl
theorem r_278_32 : row 278 32 = some (.ifCond .eq 5, 35, 37, 0, 0, 0) := rfl
theorem r_278_35 : row 278 35 = some (.iconst 0, 36, 0, 0, 0, 0) := rfl
theorem r_278_36 : row 278 36 = some (.ireturn, 37, 0, 0, 0, 0) := rfl
theorem r_278_37 : row 278 37 = some (.iinc 3 2, 40, 0, 0, 0, 0) := rfl
theorem r_278_40 : row 278 40 = some (.goto (-38), 43, 2, 0, 0, 0) := rfl
theorem r_278_43 : row 278 43 = some (.iconst 1, 44, 1, 0, 0, 0) := rfl
theorem r_278_44 : row 278 44 = some (.ireturn, 45, 0, 0, 0, 0) := rfl
theorem r_283_0 : row 283 0 = some (.iload_n 1, 1, 0, 0, 0, 0) := rfl
theorem r_283_1 : row 283 1 = some (.ifCond .lt 21, 4, 22, 0, 0, 0) := rfl
theorem r_283_4 : row 283 4 = some (.iload_n 1, 5, 0, 0, 0, 0) := rfl
theorem r_283_5 : row 283 5 = some (.aload_n 0, 6, 0, 0, 0, 0) := rfl
theorem r_283_6 : row 283 6 = some (.getfield 9, 9, 6, 0, 2, 2141) := rfl
theorem r_283_9 : row 283 9 = some (.arraylength, 10, 0, 0, 0, 0) := rfl
theorem r_283_10 : row 283 10 = some (.if_icmp .ge 12, 13, 22, 0, 0, 0) := rfl
theorem r_283_13 : row 283 13 = some (.aload_n 0, 14, 0, 0, 0, 0) := rfl
theorem r_283_14 : row 283 14 = some (.getfield 9, 17, 6, 0, 2, 2141) := rfl
theorem r_283_17 : row 283 17 = some (.iload_n 1, 18, 0, 0, 0, 0) := rfl
theorem r_283_18 : row 283 18 = some (.laload, 19, 0, 0, 0, 0) := rfl
theorem r_283_19 : row 283 19 = some (.goto 4, 22, 23, 0, 0, 0) := rfl
theorem r_283_23 : row 283 23 = some (.lreturn, 24, 0, 0, 0, 0) := rfl
/-- whether all of the first k are so -/
def alB (p : Nat → Bool) : Nat → Bool
  | 0 => true
  | k + 1 => alB p k && p k
theorem alB_i {p : Nat → Bool} : ∀ k : Nat, alB p k = true ↔ ∀ i : Nat, i < k → p i = true := by
  intro k
  induction k with
  | zero => exact ⟨fun _ i hi => absurd hi (Nat.not_lt_zero _), fun _ => rfl⟩
  | succ k ih =>
    show (alB p k && p k) = true ↔ _
    rw [Bool.and_eq_true, ih]
    constructor
    · rintro ⟨h1, h2⟩ i hi
      by_cases e : i = k
      · rw [e]; exact h2
      · exact h1 i (by omega)
    · exact fun h => ⟨fun i hi => h i (by omega), h k (by omega)⟩
theorem alB_s {p : Nat → Bool} {k : Nat} (h : alB p k = true) (hk : p k = true) : alB p (k + 1) = true := by
  show (alB p k && p k) = true
  rw [h, hk]; rfl
theorem alB_no {p : Nat → Bool} {n k : Nat} (hk : k < n) (h : ¬ p k = true) : ¬ alB p n = true := fun z => h ((alB_i n).mp z k hk)
/-- of the first k, how many are so -/
def ctB (p : Nat → Bool) : Nat → Nat
  | 0 => 0
  | k + 1 => if p k = true then ctB p k + 1 else ctB p k
theorem ctB_le {p : Nat → Bool} : ∀ k : Nat, ctB p k ≤ k := by
  intro k
  induction k with
  | zero => exact Nat.le_refl _
  | succ k ih =>
    show (if p k = true then ctB p k + 1 else ctB p k) ≤ k + 1
    split <;> omega
theorem ctB_y {p : Nat → Bool} {k : Nat} (h : p k = true) : ctB p (k + 1) = ctB p k + 1 := if_pos h
theorem ctB_n {p : Nat → Bool} {k : Nat} (h : ¬ p k = true) : ctB p (k + 1) = ctB p k := if_neg h
theorem ctB_c {p q : Nat → Bool} : ∀ k : Nat, (∀ i : Nat, i < k → p i = q i) → ctB p k = ctB q k := by
  intro k
  induction k with
  | zero => intro _; rfl
  | succ k ih =>
    intro h
    show (if p k = true then ctB p k + 1 else ctB p k) = (if q k = true then ctB q k + 1 else ctB q k)
    rw [ih (fun i hi => h i (by omega)), h k (by omega)]
theorem ctB_0 {p : Nat → Bool} : ∀ k : Nat, (∀ i : Nat, i < k → ¬ p i = true) → ctB p k = 0 := by
  intro k
  induction k with
  | zero => intro _; rfl
  | succ k ih => intro h; rw [ctB_n (h k (by omega))]; exact ih (fun i hi => h i (by omega))
/-- of the pairs of the first c places and n + 1 moments, how many are so -/
def toB (P : Nat → Nat → Bool) (n : Nat) : Nat → Nat
  | 0 => 0
  | c + 1 => toB P n c + ctB (P c) (n + 1)
theorem toB_le {P : Nat → Nat → Bool} {n : Nat} (hn : n ≤ 12) : ∀ c : Nat, toB P n c ≤ 13 * c := by
  intro c
  induction c with
  | zero => exact Nat.le_refl _
  | succ c ih =>
    have h : ctB (P c) (n + 1) ≤ n + 1 := ctB_le _
    show toB P n c + ctB (P c) (n + 1) ≤ 13 * (c + 1)
    omega
theorem toB_c {P Q : Nat → Nat → Bool} {n : Nat} : ∀ c : Nat, (∀ b h : Nat, b < c → h ≤ n → P b h = Q b h) → toB P n c = toB Q n c := by
  intro c
  induction c with
  | zero => intro _; rfl
  | succ c ih =>
    intro h
    show toB P n c + ctB (P c) (n + 1) = toB Q n c + ctB (Q c) (n + 1)
    rw [ih (fun b k hb hk => h b k (by omega) hk), ctB_c (n + 1) (fun i hi => h c i (by omega) (by omega))]
theorem toB_0 {P : Nat → Nat → Bool} {n : Nat} : ∀ c : Nat, (∀ b h : Nat, b < c → h ≤ n → ¬ P b h = true) → toB P n c = 0 := by
  intro c
  induction c with
  | zero => intro _; rfl
  | succ c ih =>
    intro h
    show toB P n c + ctB (P c) (n + 1) = 0
    rw [ih (fun b k hb hk => h b k (by omega) hk), ctB_0 (n + 1) (fun i hi => h c i (by omega) (by omega))]
/-- whether what is left fits the first k pairs of a row -/
def fitB (N f : Nat → Int) (k : Nat) : Bool := alB (fun i => decide (f (N (2 * i)).toNat = N (2 * i + 1))) k
/-- whether the first k numbers of a row may stand in it -/
def sndB (N : Nat → Int) (tr : Int) (k : Nat) : Bool := alB (fun i => decide (0 ≤ N i ∧ N i < (if i % 2 = 0 then tr else 10))) k
theorem sndB_k {N : Nat → Int} {tr : Int} {k i : Nat} (h : sndB N tr k = true) (hi : i < k) : 0 ≤ N i ∧ N i < (if i % 2 = 0 then tr else 10) := of_decide_eq_true ((alB_i k).mp h i hi)
theorem fitB_c {N f g : Nat → Int} {tr : Int} {q : Nat} (hs : sndB N tr (2 * q) = true) (h5 : tr ≤ 5) (e : ∀ t : Nat, t < 5 → (t : Int) < tr → f t = g t) : fitB N f q = fitB N g q := by
  have h : ∀ k : Nat, k ≤ q → fitB N f k = fitB N g k := by
    intro k
    induction k with
    | zero => intro _; rfl
    | succ k ih =>
      intro hk
      have z := sndB_k hs (i := 2 * k) (by omega)
      rw [if_pos (by omega)] at z
      show (fitB N f k && decide (f (N (2 * k)).toNat = N (2 * k + 1))) = (fitB N g k && decide (g (N (2 * k)).toNat = N (2 * k + 1)))
      rw [ih (by omega), e (N (2 * k)).toNat (by omega) (by omega)]
  exact h q (Nat.le_refl _)
/-- the most of the first k -/
def mxF (g : Nat → Int) : Nat → Int
  | 0 => 0
  | k + 1 => max (mxF g k) (g k)
theorem mxF_c {g f : Nat → Int} : ∀ k : Nat, (∀ i : Nat, i < k → g i = f i) → mxF g k = mxF f k := by
  intro k
  induction k with
  | zero => intro _; rfl
  | succ k ih =>
    intro h
    show max (mxF g k) (g k) = max (mxF f k) (f k)
    rw [ih (fun i hi => h i (by omega)), h k (by omega)]
theorem mxF_le {g : Nat → Int} {i : Nat} : ∀ k : Nat, i < k → g i ≤ mxF g k := by
  intro k
  induction k with
  | zero => intro h; exact absurd h (Nat.not_lt_zero _)
  | succ k ih =>
    intro h
    show g i ≤ max (mxF g k) (g k)
    by_cases e : i = k
    · rw [e]; omega
    · have := ih (by omega); omega
theorem mxF_in {g : Nat → Int} {B : Int} (hB : 0 ≤ B) : ∀ k : Nat, (∀ i : Nat, i < k → g i ≤ B) → 0 ≤ mxF g k ∧ mxF g k ≤ B := by
  intro k
  induction k with
  | zero => intro _; exact ⟨Int.le_refl _, hB⟩
  | succ k ih =>
    intro h
    have z := ih (fun i hi => h i (by omega))
    have y := h k (by omega)
    show 0 ≤ max (mxF g k) (g k) ∧ max (mxF g k) (g k) ≤ B
    omega
/-- the first that leaves fewest, if fewer than p -/
def btF (M : Nat → Int) (p : Int) : Nat → Int × Int
  | 0 => (-1, p)
  | k + 1 => if M k < (btF M p k).2 then ((k : Int), M k) else btF M p k
theorem btF_c {M L : Nat → Int} {p : Int} : ∀ k : Nat, (∀ i : Nat, i < k → M i = L i) → btF M p k = btF L p k := by
  intro k
  induction k with
  | zero => intro _; rfl
  | succ k ih =>
    intro h
    show (if M k < (btF M p k).2 then ((k : Int), M k) else btF M p k) = (if L k < (btF L p k).2 then ((k : Int), L k) else btF L p k)
    rw [ih (fun i hi => h i (by omega)), h k (by omega)]
theorem btF_no {M : Nat → Int} {p : Int} : ∀ k : Nat, (∀ i : Nat, i < k → p ≤ M i) → btF M p k = (-1, p) := by
  intro k
  induction k with
  | zero => intro _; rfl
  | succ k ih =>
    intro h
    have z := ih (fun i hi => h i (by omega))
    have y := h k (by omega)
    show (if M k < (btF M p k).2 then ((k : Int), M k) else btF M p k) = _
    rw [z]
    exact if_neg (by show ¬ M k < p; omega)
/-- what is left on a TREE in the ride begun at a place -/
def frF (w : Wd) (D : Nat → Nat → Int) (b h t : Nat) : Int := runF w D (fun _ => 0) (beginF w 0 (b : Int)) h (11 + t)
theorem frF_in {w : Wd} {D : Nat → Nat → Int} (hB : WB w) (hP : WP w) (hD : WyD w D) (hF : WBf w) {b : Nat} (hb : (b : Int) < w 0) {h t : Nat} (hh : h ≤ 12) (ht : t < 5) (h5 : (t : Int) < w 5) : 0 ≤ frF w D b h t ∧ frF w D b h t ≤ 9 := (sb_run hB hP hD (fun _ _ => by decide) (sb_begin hF.1 hF.2 (by decide) (fun _ => ⟨by omega, hb⟩)) h hh).2.2.2 t ht h5
/-- without BEARERS nothing is eaten -/
theorem frF_0 {w : Wd} {D : Nat → Nat → Int} (h7 : ¬ 0 < w 7) {b t : Nat} (ht : t < 5) : ∀ h : Nat, frF w D b h t = w (32 + 2 * t) := by
  have e : ∀ h : Nat, runF w D (fun _ => 0) (beginF w 0 (b : Int)) h = beginF w 0 (b : Int) := by
    intro h
    induction h with
    | zero => rfl
    | succ h ih =>
      show (hourF w D (h : Int) 0 (runF w D (fun _ => 0) (beginF w 0 (b : Int)) h)).1 = _
      rw [ih]
      unfold hourF
      rw [if_pos (show beginF w 0 (b : Int) 1 = -1 from if_neg h7)]
  intro h
  show runF w D (fun _ => 0) (beginF w 0 (b : Int)) h (11 + t) = _
  rw [e h]; exact begin_u ht
/-- how many of the pairs that fit leave so much on a TREE -/
def alF (w : Wd) (D : Nat → Nat → Int) (N : Nat → Int) (q n c t a : Nat) : Nat := toB (fun b h => fitB N (fun t => frF w D b h t) q && decide (frF w D b h t = (a : Int))) n c
def prF (w : Wd) (D : Nat → Nat → Int) (N : Nat → Int) (q n c : Nat) : Nat := toB (fun b h => fitB N (fun t => frF w D b h t) q) n c
/-- which to ask -/
def askF (w : Wd) (D : Nat → Nat → Int) (N : Nat → Int) (q n c k : Nat) : Int := (btF (fun t => mxF (fun a => (alF w D N q n c t a : Int)) 10) (prF w D N q n c : Int) k).1
/-- without BEARERS: none -/
theorem askF_0 {w : Wd} {D : Nat → Nat → Int} {N : Nat → Int} {q n c k : Nat} (h7 : ¬ 0 < w 7) (hF : WBf w) (hk : (k : Int) ≤ w 5) (hk5 : k ≤ 5) : askF w D N q n c k = -1 := by
  unfold askF
  rw [btF_no k (fun t ht => ?_)]
  have f9 := hF.2 t (by omega) (by omega)
  have e : alF w D N q n c t (w (32 + 2 * t)).toNat = prF w D N q n c := toB_c c (fun b h _ _ => by
    show (fitB N (fun t => frF w D b h t) q && decide (frF w D b h t = (((w (32 + 2 * t)).toNat : Nat) : Int))) = fitB N (fun t => frF w D b h t) q
    rw [decide_eq_true (show frF w D b h t = (((w (32 + 2 * t)).toNat : Nat) : Int) by rw [frF_0 h7 (by omega) h]; omega), Bool.and_true])
  rw [← e]
  exact mxF_le (g := fun a => (alF w D N q n c t a : Int)) 10 (by omega)
/-- none is looked at -/
theorem askF_n {w : Wd} {D : Nat → Nat → Int} {N : Nat → Int} {q n k : Nat} : askF w D N q n 0 k = -1 := by
  unfold askF
  rw [btF_no k (fun t _ => ?_)]
  show (0 : Int) ≤ mxF _ 10
  exact (mxF_in (B := 0) (by decide) 10 (fun i _ => by show ((0 : Nat) : Int) ≤ 0; decide)).1
section PAIRS
variable {T : List Kd} {m : Mm}
theorem c_283 (hT : TT T) {o : Nat} (ho : SlT T o) (hr : SlR m o) {k : Nat} (hk : k < 60) : GX T 0 283 0 [(2, (o : Int)), (0, (k : Int))] [] m (RL (fun v m1 => v = m (o + 1) k ∧ m1 = m)) := by
  have ho0 := ho.1
  refine gx_st (L' := [(2, (o : Int)), (0, (k : Int))]) (S' := [(0, (k : Int))]) r_283_0 rfl rfl rfl ?_
  refine gx_i0 (P := (k : Int) < 0) r_283_1 (rfl) (fun h1 => ?_) (fun h1 => ?_)
  · exfalso; omega
  · refine gx_st (L' := [(2, (o : Int)), (0, (k : Int))]) (S' := [(0, (k : Int))]) r_283_4 rfl rfl rfl ?_
    refine gx_st (L' := [(2, (o : Int)), (0, (k : Int))]) (S' := [(2, (o : Int)), (0, (k : Int))]) r_283_5 rfl rfl rfl ?_
    refine gx_gf (x := (o : Int) + 1) 2 r_283_6 (rfl) (tsl_0 ho) ⟨by omega, rfl, by decide, by decide⟩ rfl (fun _ => by omega) (hr) ?_
    refine gx_al r_283_9 (by omega) (tsl_1 ho) ⟨by decide, by decide, by decide⟩ ?_
    show GX T 0 283 10 [(2, (o : Int)), (0, (k : Int))] [(0, 60), (0, (k : Int))] m (RL (fun v m1 => v = m (o + 1) k ∧ m1 = m))
    refine gx_ic (P := 60 ≤ (k : Int)) r_283_10 (rfl) (fun h10 => ?_) (fun h10 => ?_)
    · exfalso; omega
    · refine gx_st (L' := [(2, (o : Int)), (0, (k : Int))]) (S' := [(2, (o : Int))]) r_283_13 rfl rfl rfl ?_
      refine gx_gf (x := (o : Int) + 1) 2 r_283_14 (rfl) (tsl_0 ho) ⟨by omega, rfl, by decide, by decide⟩ rfl (fun _ => by omega) (hr) ?_
      refine gx_st (L' := [(2, (o : Int)), (0, (k : Int))]) (S' := [(0, (k : Int)), (2, (o : Int) + 1)]) r_283_17 rfl rfl rfl ?_
      refine gx_la (n := k) (x := (m (o + 1) k)) r_283_18 (by omega) (by omega) (tsl_1 ho) (by omega) ⟨rfl, by omega⟩ (rfl) ?_
      refine gx_st (L' := [(2, (o : Int)), (0, (k : Int))]) (S' := [(1, (m (o + 1) k))]) r_283_19 rfl rfl rfl ?_
      exact gx_rt r_283_23 rfl rfl ⟨_, rfl, rfl, rfl⟩
theorem sn_l (hT : TT T) {o : Nat} (ho : SlT T o) (hr : SlR m o) (hp : PinR m) {c : Nat} (hc : m o 2 = (c : Int)) (hc60 : c ≤ 60) : ∀ (N k : Nat) (x4 : AV), c - k < N → k ≤ c → sndB (m (o + 1)) (m 4 6) k = true → GX T 1 275 2 [(2, 142), (2, 4), (2, (o : Int)), (0, (k : Int)), x4] [] m (RI (fun v m1 => v = (if sndB (m (o + 1)) (m 4 6) c = true ∧ c % 2 = 0 then 1 else 0) ∧ m1 = m)) := by
  intro N
  induction N with
  | zero => intro k x4 hN; exact absurd hN (Nat.not_lt_zero _)
  | succ N ih =>
    intro k x4 hN hk hs
    have ho0 := ho.1
    refine gx_st (L' := [(2, 142), (2, 4), (2, (o : Int)), (0, (k : Int)), x4]) (S' := [(0, (k : Int))]) r_275_2 rfl rfl rfl ?_
    refine gx_st (L' := [(2, 142), (2, 4), (2, (o : Int)), (0, (k : Int)), x4]) (S' := [(2, (o : Int)), (0, (k : Int))]) r_275_3 rfl rfl rfl ?_
    refine gx_gf (x := (c : Int)) 0 r_275_4 (rfl) (tsl_0 ho) ⟨by omega, rfl, by decide, by decide⟩ rfl (fun z => absurd z (by decide)) (hc) ?_
    refine gx_ic (P := (c : Int) ≤ (k : Int)) r_275_7 (rfl) (fun h7 => ?_) (fun h7 => ?_)
    · refine gx_st (L' := [(2, 142), (2, 4), (2, (o : Int)), (0, (k : Int)), x4]) (S' := [(2, (o : Int))]) r_275_57 rfl rfl rfl ?_
      refine gx_gf (x := (c : Int)) 0 r_275_58 (rfl) (tsl_0 ho) ⟨by omega, rfl, by decide, by decide⟩ rfl (fun z => absurd z (by decide)) (hc) ?_
      refine gx_st (L' := [(2, 142), (2, 4), (2, (o : Int)), (0, (k : Int)), x4]) (S' := [(0, 1), (0, (c : Int))]) r_275_61 rfl rfl rfl ?_
      refine gx_st (L' := [(2, 142), (2, 4), (2, (o : Int)), (0, (k : Int)), x4]) (S' := [(0, (iand (c : Int) 1))]) r_275_62 rfl rfl rfl ?_
      rw [show (iand (c : Int) 1) = ((c : Int) % 2) from iand_1 _]
      refine gx_i0 (P := ¬ ((c : Int) % 2) = 0) r_275_63 (rfl) (fun h63 => ?_) (fun h63 => ?_)
      · refine gx_st (L' := [(2, 142), (2, 4), (2, (o : Int)), (0, (k : Int)), x4]) (S' := [(0, 0)]) r_275_70 rfl rfl rfl ?_
        have hkc : k = c := by omega
        subst hkc
        exact gx_rt r_275_71 rfl rfl ⟨_, rfl, by rw [if_neg (by omega)], rfl⟩
      · have h63 := Decidable.not_not.mp h63
        refine gx_st (L' := [(2, 142), (2, 4), (2, (o : Int)), (0, (k : Int)), x4]) (S' := [(0, 1)]) r_275_66 rfl rfl rfl ?_
        refine gx_st (L' := [(2, 142), (2, 4), (2, (o : Int)), (0, (k : Int)), x4]) (S' := [(0, 1)]) r_275_67 rfl rfl rfl ?_
        have hkc : k = c := by omega
        subst hkc
        exact gx_rt r_275_71 rfl rfl ⟨_, rfl, by rw [if_pos ⟨hs, by omega⟩], rfl⟩
    · refine gx_st (L' := [(2, 142), (2, 4), (2, (o : Int)), (0, (k : Int)), x4]) (S' := [(0, (k : Int))]) r_275_10 rfl rfl rfl ?_
      refine gx_st (L' := [(2, 142), (2, 4), (2, (o : Int)), (0, (k : Int)), x4]) (S' := [(0, 1), (0, (k : Int))]) r_275_11 rfl rfl rfl ?_
      refine gx_st (L' := [(2, 142), (2, 4), (2, (o : Int)), (0, (k : Int)), x4]) (S' := [(0, (iand (k : Int) 1))]) r_275_12 rfl rfl rfl ?_
      rw [show (iand (k : Int) 1) = ((k : Int) % 2) from iand_1 _]
      refine gx_i0 (P := ¬ ((k : Int) % 2) = 0) r_275_13 (rfl) (fun h13 => ?_) (fun h13 => ?_)
      · refine gx_st (L' := [(2, 142), (2, 4), (2, (o : Int)), (0, (k : Int)), x4]) (S' := [(0, 10)]) r_275_23 rfl rfl rfl ?_
        refine gx_st (L' := [(2, 142), (2, 4), (2, (o : Int)), (0, (k : Int)), (0, 10)]) (S' := []) r_275_25 rfl rfl rfl ?_
        refine gx_st (L' := [(2, 142), (2, 4), (2, (o : Int)), (0, (k : Int)), (0, 10)]) (S' := [(2, (o : Int))]) r_275_27 rfl rfl rfl ?_
        refine gx_st (L' := [(2, 142), (2, 4), (2, (o : Int)), (0, (k : Int)), (0, 10)]) (S' := [(0, (k : Int)), (2, (o : Int))]) r_275_28 rfl rfl rfl ?_
        refine gx_cl (nx := 32) (S2 := []) (c_283 hT ho hr (k := k) (by omega)) r_275_29 rfl rfl rfl rfl rfl (rcv_v rfl (tsl_0 ho) (by omega) rfl (by decide)) rfl (by decide) rfl (fun x29 n29 q29 => ?_)
        obtain ⟨e_x29, z_x29⟩ := q29
        obtain rfl := z_x29.symm
        rw [e_x29]
        show GX T 1 275 32 [(2, 142), (2, 4), (2, (o : Int)), (0, (k : Int)), (0, 10)] [(1, (m (o + 1) k))] m (RI (fun v m1 => v = (if sndB (m (o + 1)) (m 4 6) c = true ∧ c % 2 = 0 then 1 else 0) ∧ m1 = m))
        refine gx_st (L' := [(2, 142), (2, 4), (2, (o : Int)), (0, (k : Int)), (0, 10)]) (S' := [(1, 0), (1, (m (o + 1) k))]) r_275_32 rfl rfl rfl ?_
        refine gx_st (L' := [(2, 142), (2, 4), (2, (o : Int)), (0, (k : Int)), (0, 10)]) (S' := [(0, (if ((m (o + 1) k)) < 0 then -1 else if ((m (o + 1) k)) = 0 then 0 else 1))]) r_275_33 rfl rfl rfl ?_
        refine gx_i0 (P := ((m (o + 1) k)) < 0) r_275_34 (lc_lt) (fun h34 => ?_) (fun h34 => ?_)
        · refine gx_st (L' := [(2, 142), (2, 4), (2, (o : Int)), (0, (k : Int)), (0, 10)]) (S' := [(0, 0)]) r_275_49 rfl rfl rfl ?_
          exact gx_rt r_275_50 rfl rfl ⟨_, rfl, by rw [if_neg (fun z => alB_no (k := k) (by omega) (fun y => by
            have y2 := of_decide_eq_true y
            rw [if_neg (by omega)] at y2
            omega) z.1)], rfl⟩
        · refine gx_st (L' := [(2, 142), (2, 4), (2, (o : Int)), (0, (k : Int)), (0, 10)]) (S' := [(2, (o : Int))]) r_275_37 rfl rfl rfl ?_
          refine gx_st (L' := [(2, 142), (2, 4), (2, (o : Int)), (0, (k : Int)), (0, 10)]) (S' := [(0, (k : Int)), (2, (o : Int))]) r_275_38 rfl rfl rfl ?_
          refine gx_cl (nx := 42) (S2 := []) (c_283 hT ho hr (k := k) (by omega)) r_275_39 rfl rfl rfl rfl rfl (rcv_v rfl (tsl_0 ho) (by omega) rfl (by decide)) rfl (by decide) rfl (fun x39 n39 q39 => ?_)
          obtain ⟨e_x39, z_x39⟩ := q39
          obtain rfl := z_x39.symm
          rw [e_x39]
          show GX T 1 275 42 [(2, 142), (2, 4), (2, (o : Int)), (0, (k : Int)), (0, 10)] [(1, (m (o + 1) k))] m (RI (fun v m1 => v = (if sndB (m (o + 1)) (m 4 6) c = true ∧ c % 2 = 0 then 1 else 0) ∧ m1 = m))
          refine gx_st (L' := [(2, 142), (2, 4), (2, (o : Int)), (0, (k : Int)), (0, 10)]) (S' := [(0, 10), (1, (m (o + 1) k))]) r_275_42 rfl rfl rfl ?_
          refine gx_st (L' := [(2, 142), (2, 4), (2, (o : Int)), (0, (k : Int)), (0, 10)]) (S' := [(1, 10), (1, (m (o + 1) k))]) r_275_44 rfl rfl rfl ?_
          refine gx_st (L' := [(2, 142), (2, 4), (2, (o : Int)), (0, (k : Int)), (0, 10)]) (S' := [(0, (if ((m (o + 1) k)) < 10 then -1 else if ((m (o + 1) k)) = 10 then 0 else 1))]) r_275_45 rfl rfl rfl ?_
          refine gx_i0 (P := ((m (o + 1) k)) < 10) r_275_46 (lc_lt) (fun h46 => ?_) (fun h46 => ?_)
          · refine gx_li (z := (k : Int) + 1) (L' := [(2, 142), (2, 4), (2, (o : Int)), (0, (k : Int) + 1), (0, 10)]) r_275_51 rfl (w32_eq (by omega) (by omega) (by omega)) rfl ?_
            refine gx_st (L' := [(2, 142), (2, 4), (2, (o : Int)), (0, (k : Int) + 1), (0, 10)]) (S' := []) r_275_54 rfl rfl rfl ?_
            rw [show (k : Int) + 1 = ((k + 1 : Nat) : Int) from rfl]
            exact ih (k + 1) (0, 10) (by omega) (by omega) (alB_s hs (decide_eq_true ⟨by omega, by rw [if_neg (by omega)]; omega⟩))
          · refine gx_st (L' := [(2, 142), (2, 4), (2, (o : Int)), (0, (k : Int)), (0, 10)]) (S' := [(0, 0)]) r_275_49 rfl rfl rfl ?_
            exact gx_rt r_275_50 rfl rfl ⟨_, rfl, by rw [if_neg (fun z => alB_no (k := k) (by omega) (fun y => by
              have y2 := of_decide_eq_true y
              rw [if_neg (by omega)] at y2
              omega) z.1)], rfl⟩
      · have h13 := Decidable.not_not.mp h13
        refine gx_st (L' := [(2, 142), (2, 4), (2, (o : Int)), (0, (k : Int)), x4]) (S' := [(2, 4)]) r_275_16 rfl rfl rfl ?_
        refine gx_gf (x := (m 4 6)) 0 r_275_17 (rfl) (ty_4 hT) ⟨by decide, rfl, by decide, by decide⟩ rfl (fun z => absurd z (by decide)) (rfl) ?_
        refine gx_st (L' := [(2, 142), (2, 4), (2, (o : Int)), (0, (k : Int)), x4]) (S' := [(0, (m 4 6))]) r_275_20 rfl rfl rfl ?_
        refine gx_st (L' := [(2, 142), (2, 4), (2, (o : Int)), (0, (k : Int)), (0, (m 4 6))]) (S' := []) r_275_25 rfl rfl rfl ?_
        refine gx_st (L' := [(2, 142), (2, 4), (2, (o : Int)), (0, (k : Int)), (0, (m 4 6))]) (S' := [(2, (o : Int))]) r_275_27 rfl rfl rfl ?_
        refine gx_st (L' := [(2, 142), (2, 4), (2, (o : Int)), (0, (k : Int)), (0, (m 4 6))]) (S' := [(0, (k : Int)), (2, (o : Int))]) r_275_28 rfl rfl rfl ?_
        refine gx_cl (nx := 32) (S2 := []) (c_283 hT ho hr (k := k) (by omega)) r_275_29 rfl rfl rfl rfl rfl (rcv_v rfl (tsl_0 ho) (by omega) rfl (by decide)) rfl (by decide) rfl (fun x29 n29 q29 => ?_)
        obtain ⟨e_x29, z_x29⟩ := q29
        obtain rfl := z_x29.symm
        rw [e_x29]
        show GX T 1 275 32 [(2, 142), (2, 4), (2, (o : Int)), (0, (k : Int)), (0, (m 4 6))] [(1, (m (o + 1) k))] m (RI (fun v m1 => v = (if sndB (m (o + 1)) (m 4 6) c = true ∧ c % 2 = 0 then 1 else 0) ∧ m1 = m))
        refine gx_st (L' := [(2, 142), (2, 4), (2, (o : Int)), (0, (k : Int)), (0, (m 4 6))]) (S' := [(1, 0), (1, (m (o + 1) k))]) r_275_32 rfl rfl rfl ?_
        refine gx_st (L' := [(2, 142), (2, 4), (2, (o : Int)), (0, (k : Int)), (0, (m 4 6))]) (S' := [(0, (if ((m (o + 1) k)) < 0 then -1 else if ((m (o + 1) k)) = 0 then 0 else 1))]) r_275_33 rfl rfl rfl ?_
        refine gx_i0 (P := ((m (o + 1) k)) < 0) r_275_34 (lc_lt) (fun h34 => ?_) (fun h34 => ?_)
        · refine gx_st (L' := [(2, 142), (2, 4), (2, (o : Int)), (0, (k : Int)), (0, (m 4 6))]) (S' := [(0, 0)]) r_275_49 rfl rfl rfl ?_
          exact gx_rt r_275_50 rfl rfl ⟨_, rfl, by rw [if_neg (fun z => alB_no (k := k) (by omega) (fun y => by
            have y2 := of_decide_eq_true y
            rw [if_pos (by omega)] at y2
            omega) z.1)], rfl⟩
        · refine gx_st (L' := [(2, 142), (2, 4), (2, (o : Int)), (0, (k : Int)), (0, (m 4 6))]) (S' := [(2, (o : Int))]) r_275_37 rfl rfl rfl ?_
          refine gx_st (L' := [(2, 142), (2, 4), (2, (o : Int)), (0, (k : Int)), (0, (m 4 6))]) (S' := [(0, (k : Int)), (2, (o : Int))]) r_275_38 rfl rfl rfl ?_
          refine gx_cl (nx := 42) (S2 := []) (c_283 hT ho hr (k := k) (by omega)) r_275_39 rfl rfl rfl rfl rfl (rcv_v rfl (tsl_0 ho) (by omega) rfl (by decide)) rfl (by decide) rfl (fun x39 n39 q39 => ?_)
          obtain ⟨e_x39, z_x39⟩ := q39
          obtain rfl := z_x39.symm
          rw [e_x39]
          show GX T 1 275 42 [(2, 142), (2, 4), (2, (o : Int)), (0, (k : Int)), (0, (m 4 6))] [(1, (m (o + 1) k))] m (RI (fun v m1 => v = (if sndB (m (o + 1)) (m 4 6) c = true ∧ c % 2 = 0 then 1 else 0) ∧ m1 = m))
          refine gx_st (L' := [(2, 142), (2, 4), (2, (o : Int)), (0, (k : Int)), (0, (m 4 6))]) (S' := [(0, (m 4 6)), (1, (m (o + 1) k))]) r_275_42 rfl rfl rfl ?_
          refine gx_st (L' := [(2, 142), (2, 4), (2, (o : Int)), (0, (k : Int)), (0, (m 4 6))]) (S' := [(1, (m 4 6)), (1, (m (o + 1) k))]) r_275_44 rfl rfl rfl ?_
          refine gx_st (L' := [(2, 142), (2, 4), (2, (o : Int)), (0, (k : Int)), (0, (m 4 6))]) (S' := [(0, (if ((m (o + 1) k)) < (m 4 6) then -1 else if ((m (o + 1) k)) = (m 4 6) then 0 else 1))]) r_275_45 rfl rfl rfl ?_
          refine gx_i0 (P := ((m (o + 1) k)) < (m 4 6)) r_275_46 (lc_lt) (fun h46 => ?_) (fun h46 => ?_)
          · refine gx_li (z := (k : Int) + 1) (L' := [(2, 142), (2, 4), (2, (o : Int)), (0, (k : Int) + 1), (0, (m 4 6))]) r_275_51 rfl (w32_eq (by omega) (by omega) (by omega)) rfl ?_
            refine gx_st (L' := [(2, 142), (2, 4), (2, (o : Int)), (0, (k : Int) + 1), (0, (m 4 6))]) (S' := []) r_275_54 rfl rfl rfl ?_
            rw [show (k : Int) + 1 = ((k + 1 : Nat) : Int) from rfl]
            exact ih (k + 1) (0, (m 4 6)) (by omega) (by omega) (alB_s hs (decide_eq_true ⟨by omega, by rw [if_pos (by omega)]; omega⟩))
          · refine gx_st (L' := [(2, 142), (2, 4), (2, (o : Int)), (0, (k : Int)), (0, (m 4 6))]) (S' := [(0, 0)]) r_275_49 rfl rfl rfl ?_
            exact gx_rt r_275_50 rfl rfl ⟨_, rfl, by rw [if_neg (fun z => alB_no (k := k) (by omega) (fun y => by
              have y2 := of_decide_eq_true y
              rw [if_pos (by omega)] at y2
              omega) z.1)], rfl⟩
theorem c_275 (hT : TT T) {o : Nat} (ho : SlT T o) (hr : SlR m o) (hp : PinR m) {c : Nat} (hc : m o 2 = (c : Int)) (hc60 : c ≤ 60) : GX T 1 275 0 [(2, 142), (2, 4), (2, (o : Int)), (9, 0), (9, 0)] [] m (RI (fun v m1 => v = (if sndB (m (o + 1)) (m 4 6) c = true ∧ c % 2 = 0 then 1 else 0) ∧ m1 = m)) := by
  have ho0 := ho.1
  refine gx_st (L' := [(2, 142), (2, 4), (2, (o : Int)), (9, 0), (9, 0)]) (S' := [(0, 0)]) r_275_0 rfl rfl rfl ?_
  refine gx_st (L' := [(2, 142), (2, 4), (2, (o : Int)), (0, 0), (9, 0)]) (S' := []) r_275_1 rfl rfl rfl ?_
  exact sn_l hT ho hr hp hc hc60 (c + 1) 0 (9, 0) (by omega) (by omega) rfl
theorem t_292 (hT : TT T) (hp : PinR m) {i h : Nat} (hi : i < 5) (hh : h ≤ 12) : GX T 1 292 0 [(2, 41), (0, (i : Int)), (0, (h : Int))] [] m (RI (fun v m1 => v = m 49 (5 * h + i) ∧ m1 = m)) := by
  refine gx_st (L' := [(2, 41), (0, (i : Int)), (0, (h : Int))]) (S' := [(2, 41)]) r_292_0 rfl rfl rfl ?_
  refine gx_gf (x := 49) 2 r_292_1 (rfl) (ty_41 hT) ⟨by decide, rfl, by decide, by decide⟩ rfl (fun _ => by omega) (pin_at hp (t := 49) rfl (by decide)) ?_
  refine gx_st (L' := [(2, 41), (0, (i : Int)), (0, (h : Int))]) (S' := [(0, (h : Int)), (2, 49)]) r_292_4 rfl rfl rfl ?_
  refine gx_st (L' := [(2, 41), (0, (i : Int)), (0, (h : Int))]) (S' := [(0, 5), (0, (h : Int)), (2, 49)]) r_292_5 rfl rfl rfl ?_
  refine gx_ar (L' := [(2, 41), (0, (i : Int)), (0, (h : Int))]) (S' := [(2, 49)]) (t := 0) (e := w32 ((h : Int) * 5)) (z := 5 * (h : Int)) r_292_6 rfl rfl rfl (w32_eq (by omega) (by omega) (by omega)) ?_
  refine gx_st (L' := [(2, 41), (0, (i : Int)), (0, (h : Int))]) (S' := [(0, (i : Int)), (0, 5 * (h : Int)), (2, 49)]) r_292_7 rfl rfl rfl ?_
  refine gx_ar (L' := [(2, 41), (0, (i : Int)), (0, (h : Int))]) (S' := [(2, 49)]) (t := 0) (e := w32 ((5 * (h : Int)) + (i : Int))) (z := 5 * (h : Int) + (i : Int)) r_292_8 rfl rfl rfl (w32_eq (by omega) (by omega) (by omega)) ?_
  refine gx_ci (nx := 12) (S2 := []) (c_237 (r := 49) (n := 65) (ty_49 hT) (by decide) (by decide) (k := 5 * h + i) (by omega)) r_292_9 rfl rfl rfl rfl rfl rfl rfl (by decide) rfl (fun x9 n9 q9 => ?_)
  obtain ⟨e_x9, z_x9⟩ := q9
  obtain rfl := z_x9.symm
  obtain rfl := e_x9
  show GX T 1 292 12 [(2, 41), (0, (i : Int)), (0, (h : Int))] [(0, (m 49 (5 * h + i)))] m (RI (fun v m1 => v = m 49 (5 * h + i) ∧ m1 = m))
  exact gx_rt r_292_12 rfl rfl ⟨_, rfl, rfl, rfl⟩
theorem ft_l (hT : TT T) {o : Nat} (ho : SlT T o) (hr : SlR m o) (hp : PinR m) {q : Nat} (hc : m o 2 = 2 * (q : Int)) (hc60 : 2 * q ≤ 60) (hs : sndB (m (o + 1)) (m 4 6) (2 * q) = true) (h46 : m 4 6 ≤ 5) {h : Nat} (hh : h ≤ 12) : ∀ (N k : Nat), q - k < N → k ≤ q → fitB (m (o + 1)) (fun t => m 49 (5 * h + t)) k = true → GX T 2 278 2 [(2, (o : Int)), (2, 41), (0, (h : Int)), (0, 2 * (k : Int))] [] m (RI (fun v m1 => v = (if fitB (m (o + 1)) (fun t => m 49 (5 * h + t)) q = true then 1 else 0) ∧ m1 = m)) := by
  intro N
  induction N with
  | zero => intro k hN; exact absurd hN (Nat.not_lt_zero _)
  | succ N ih =>
    intro k hN hk hf
    have ho0 := ho.1
    refine gx_st (L' := [(2, (o : Int)), (2, 41), (0, (h : Int)), (0, 2 * (k : Int))]) (S' := [(0, 2 * (k : Int))]) r_278_2 rfl rfl rfl ?_
    refine gx_st (L' := [(2, (o : Int)), (2, 41), (0, (h : Int)), (0, 2 * (k : Int))]) (S' := [(0, 1), (0, 2 * (k : Int))]) r_278_3 rfl rfl rfl ?_
    refine gx_ar (L' := [(2, (o : Int)), (2, 41), (0, (h : Int)), (0, 2 * (k : Int))]) (S' := []) (t := 0) (e := w32 ((2 * (k : Int)) + 1)) (z := 2 * (k : Int) + 1) r_278_4 rfl rfl rfl (w32_eq (by omega) (by omega) (by omega)) ?_
    refine gx_st (L' := [(2, (o : Int)), (2, 41), (0, (h : Int)), (0, 2 * (k : Int))]) (S' := [(2, (o : Int)), (0, 2 * (k : Int) + 1)]) r_278_5 rfl rfl rfl ?_
    refine gx_gf (x := 2 * (q : Int)) 0 r_278_6 (rfl) (tsl_0 ho) ⟨by omega, rfl, by decide, by decide⟩ rfl (fun z => absurd z (by decide)) (hc) ?_
    refine gx_ic (P := 2 * (q : Int) ≤ 2 * (k : Int) + 1) r_278_9 (rfl) (fun h9 => ?_) (fun h9 => ?_)
    · refine gx_st (L' := [(2, (o : Int)), (2, 41), (0, (h : Int)), (0, 2 * (k : Int))]) (S' := [(0, 1)]) r_278_43 rfl rfl rfl ?_
      have hkq : k = q := by omega
      subst hkq
      exact gx_rt r_278_44 rfl rfl ⟨_, rfl, by rw [if_pos hf], rfl⟩
    · refine gx_st (L' := [(2, (o : Int)), (2, 41), (0, (h : Int)), (0, 2 * (k : Int))]) (S' := [(2, 41)]) r_278_12 rfl rfl rfl ?_
      refine gx_st (L' := [(2, (o : Int)), (2, 41), (0, (h : Int)), (0, 2 * (k : Int))]) (S' := [(2, (o : Int)), (2, 41)]) r_278_13 rfl rfl rfl ?_
      refine gx_st (L' := [(2, (o : Int)), (2, 41), (0, (h : Int)), (0, 2 * (k : Int))]) (S' := [(0, 2 * (k : Int)), (2, (o : Int)), (2, 41)]) r_278_14 rfl rfl rfl ?_
      refine gx_cl (nx := 18) (S2 := [(2, 41)]) (c_283 hT ho hr (k := 2 * k) (by omega)) r_278_15 rfl rfl rfl rfl rfl (rcv_v rfl (tsl_0 ho) (by omega) rfl (by decide)) rfl (by decide) rfl (fun x15 n15 q15 => ?_)
      obtain ⟨e_x15, z_x15⟩ := q15
      obtain rfl := z_x15.symm
      have y0 := sndB_k hs (i := 2 * k) (by omega)
      rw [if_pos (by omega)] at y0
      obtain ⟨t, ht⟩ : ∃ t : Nat, m (o + 1) (2 * k) = (t : Int) := ⟨(m (o + 1) (2 * k)).toNat, by omega⟩
      have tn : (m (o + 1) (2 * k)).toNat = t := by omega
      rw [show m (o + 1) (2 * k) = m (o + 1) (2 * k) from rfl, ht] at e_x15
      rw [e_x15]
      show GX T 2 278 18 [(2, (o : Int)), (2, 41), (0, (h : Int)), (0, 2 * (k : Int))] [(1, (t : Int)), (2, 41)] m (RI (fun v m1 => v = (if fitB (m (o + 1)) (fun t => m 49 (5 * h + t)) q = true then 1 else 0) ∧ m1 = m))
      refine gx_ar (L' := [(2, (o : Int)), (2, 41), (0, (h : Int)), (0, 2 * (k : Int))]) (S' := [(2, 41)]) (t := 0) (e := w32 ((t : Int))) (z := (t : Int)) r_278_18 rfl rfl rfl (w32_eq (by omega) (by omega) (by omega)) ?_
      refine gx_st (L' := [(2, (o : Int)), (2, 41), (0, (h : Int)), (0, 2 * (k : Int))]) (S' := [(0, (h : Int)), (0, (t : Int)), (2, 41)]) r_278_19 rfl rfl rfl ?_
      refine gx_ci (nx := 23) (S2 := []) (t_292 hT hp (i := t) (h := h) (by omega) hh) r_278_20 rfl rfl rfl rfl rfl (rcv_v rfl (ty_41 hT) (by decide) rfl (by decide)) rfl (by decide) rfl (fun x20 n20 q20 => ?_)
      obtain ⟨e_x20, z_x20⟩ := q20
      obtain rfl := z_x20.symm
      rw [e_x20]
      show GX T 2 278 23 [(2, (o : Int)), (2, 41), (0, (h : Int)), (0, 2 * (k : Int))] [(0, (m 49 (5 * h + t)))] m (RI (fun v m1 => v = (if fitB (m (o + 1)) (fun t => m 49 (5 * h + t)) q = true then 1 else 0) ∧ m1 = m))
      refine gx_st (L' := [(2, (o : Int)), (2, 41), (0, (h : Int)), (0, 2 * (k : Int))]) (S' := [(1, (m 49 (5 * h + t)))]) r_278_23 rfl rfl rfl ?_
      refine gx_st (L' := [(2, (o : Int)), (2, 41), (0, (h : Int)), (0, 2 * (k : Int))]) (S' := [(2, (o : Int)), (1, (m 49 (5 * h + t)))]) r_278_24 rfl rfl rfl ?_
      refine gx_st (L' := [(2, (o : Int)), (2, 41), (0, (h : Int)), (0, 2 * (k : Int))]) (S' := [(0, 2 * (k : Int)), (2, (o : Int)), (1, (m 49 (5 * h + t)))]) r_278_25 rfl rfl rfl ?_
      refine gx_st (L' := [(2, (o : Int)), (2, 41), (0, (h : Int)), (0, 2 * (k : Int))]) (S' := [(0, 1), (0, 2 * (k : Int)), (2, (o : Int)), (1, (m 49 (5 * h + t)))]) r_278_26 rfl rfl rfl ?_
      refine gx_ar (L' := [(2, (o : Int)), (2, 41), (0, (h : Int)), (0, 2 * (k : Int))]) (S' := [(2, (o : Int)), (1, (m 49 (5 * h + t)))]) (t := 0) (e := w32 ((2 * (k : Int)) + 1)) (z := 2 * (k : Int) + 1) r_278_27 rfl rfl rfl (w32_eq (by omega) (by omega) (by omega)) ?_
      refine gx_cl (nx := 31) (S2 := [(1, (m 49 (5 * h + t)))]) (c_283 hT ho hr (k := 2 * k + 1) (by omega)) r_278_28 rfl rfl rfl rfl rfl (rcv_v rfl (tsl_0 ho) (by omega) rfl (by decide)) rfl (by decide) rfl (fun x28 n28 q28 => ?_)
      obtain ⟨e_x28, z_x28⟩ := q28
      obtain rfl := z_x28.symm
      rw [e_x28]
      show GX T 2 278 31 [(2, (o : Int)), (2, 41), (0, (h : Int)), (0, 2 * (k : Int))] [(1, (m (o + 1) (2 * k + 1))), (1, (m 49 (5 * h + t)))] m (RI (fun v m1 => v = (if fitB (m (o + 1)) (fun t => m 49 (5 * h + t)) q = true then 1 else 0) ∧ m1 = m))
      refine gx_st (L' := [(2, (o : Int)), (2, 41), (0, (h : Int)), (0, 2 * (k : Int))]) (S' := [(0, (if ((m 49 (5 * h + t))) < ((m (o + 1) (2 * k + 1))) then -1 else if ((m 49 (5 * h + t))) = ((m (o + 1) (2 * k + 1))) then 0 else 1))]) r_278_31 rfl rfl rfl ?_
      refine gx_i0 (P := ((m 49 (5 * h + t))) = ((m (o + 1) (2 * k + 1)))) r_278_32 (lc_eq) (fun h32 => ?_) (fun h32 => ?_)
      · refine gx_li (z := 2 * (k : Int) + 2) (L' := [(2, (o : Int)), (2, 41), (0, (h : Int)), (0, 2 * (k : Int) + 2)]) r_278_37 rfl (w32_eq (by omega) (by omega) (by omega)) rfl ?_
        refine gx_st (L' := [(2, (o : Int)), (2, 41), (0, (h : Int)), (0, 2 * (k : Int) + 2)]) (S' := []) r_278_40 rfl rfl rfl ?_
        rw [show 2 * (k : Int) + 2 = 2 * ((k + 1 : Nat) : Int) by omega]
        exact ih (k + 1) (by omega) (by omega) (alB_s hf (decide_eq_true (by rw [tn]; exact h32)))
      · refine gx_st (L' := [(2, (o : Int)), (2, 41), (0, (h : Int)), (0, 2 * (k : Int))]) (S' := [(0, 0)]) r_278_35 rfl rfl rfl ?_
        exact gx_rt r_278_36 rfl rfl ⟨_, rfl, by rw [if_neg (show ¬ fitB (m (o + 1)) (fun t => m 49 (5 * h + t)) q = true from fun z => alB_no (k := k) (n := q) (by omega) (fun y => by
          have y2 := of_decide_eq_true y
          rw [tn] at y2
          exact h32 y2) z)], rfl⟩
theorem c_278 (hT : TT T) {o : Nat} (ho : SlT T o) (hr : SlR m o) (hp : PinR m) {q : Nat} (hc : m o 2 = 2 * (q : Int)) (hc60 : 2 * q ≤ 60) (hs : sndB (m (o + 1)) (m 4 6) (2 * q) = true) (h46 : m 4 6 ≤ 5) {h : Nat} (hh : h ≤ 12) : GX T 2 278 0 [(2, (o : Int)), (2, 41), (0, (h : Int)), (9, 0)] [] m (RI (fun v m1 => v = (if fitB (m (o + 1)) (fun t => m 49 (5 * h + t)) q = true then 1 else 0) ∧ m1 = m)) := by
  have ho0 := ho.1
  refine gx_st (L' := [(2, (o : Int)), (2, 41), (0, (h : Int)), (9, 0)]) (S' := [(0, 0)]) r_278_0 rfl rfl rfl ?_
  refine gx_st (L' := [(2, (o : Int)), (2, 41), (0, (h : Int)), (0, 0)]) (S' := []) r_278_1 rfl rfl rfl ?_
  have z := ft_l hT ho hr hp hc hc60 hs h46 hh (q + 1) 0 (by omega) (by omega) rfl
  exact z
theorem c_276 (hT : TT T) (hp : PinR m) : GX T 1 276 0 [(2, 142)] [] m (RV (fun m1 => m1 142 0 = 0 ∧ (∀ i : Nat, i < 50 → m1 143 i = 0) ∧ ∀ p i : Nat, ¬ p = 142 → ¬ p = 143 → m1 p i = m p i)) := by
  refine gx_st (L' := [(2, 142)]) (S' := [(2, 142)]) r_276_0 rfl rfl rfl ?_
  refine gx_st (L' := [(2, 142)]) (S' := [(0, 0), (2, 142)]) r_276_1 rfl rfl rfl ?_
  obtain ⟨m1, e_m1⟩ : ∃ z, z = nu_up m 142 0 0 := ⟨_, rfl⟩
  refine gx_pf (x := 0) 0 r_276_2 (rfl) (ty_142 hT) ⟨by decide, rfl, by decide, by decide⟩ rfl (fun z => absurd z (by decide)) (fun z => absurd z (by decide)) e_m1.symm ?_
  refine gx_st (L' := [(2, 142)]) (S' := [(2, 142)]) r_276_5 rfl rfl rfl ?_
  refine gx_st (L' := [(2, 142)]) (S' := [(0, 0), (2, 142)]) r_276_6 rfl rfl rfl ?_
  obtain ⟨m2, e_m2⟩ : ∃ z, z = nu_up m1 142 1 0 := ⟨_, rfl⟩
  refine gx_pf (x := 0) 0 r_276_7 (rfl) (ty_142 hT) ⟨by decide, rfl, by decide, by decide⟩ rfl (fun z => absurd z (by decide)) (fun z => absurd z (by decide)) e_m2.symm ?_
  refine gx_st (L' := [(2, 142)]) (S' := [(2, 142)]) r_276_10 rfl rfl rfl ?_
  refine gx_st (L' := [(2, 142)]) (S' := [(0, 0), (2, 142)]) r_276_11 rfl rfl rfl ?_
  obtain ⟨m3, e_m3⟩ : ∃ z, z = nu_up m2 142 2 0 := ⟨_, rfl⟩
  refine gx_pf (x := 0) 0 r_276_12 (rfl) (ty_142 hT) ⟨by decide, rfl, by decide, by decide⟩ rfl (fun z => absurd z (by decide)) (fun z => absurd z (by decide)) e_m3.symm ?_
  refine gx_st (L' := [(2, 142)]) (S' := [(2, 142)]) r_276_15 rfl rfl rfl ?_
  refine gx_gf (x := 143) 2 r_276_16 (rfl) (ty_142 hT) ⟨by decide, rfl, by decide, by decide⟩ rfl (fun _ => by omega) (by show m3 142 3 = _; rw [e_m3, nu_ne (by decide), e_m2, nu_ne (by decide), e_m1, nu_ne (by decide)]; exact pin_at hp (t := 143) rfl (by decide)) ?_
  refine gx_st (L' := [(2, 142)]) (S' := [(0, 0), (2, 143)]) r_276_19 rfl rfl rfl ?_
  refine gx_cv (nx := 23) (S2 := []) (c_240 (r := 143) (n := 50) (ty_143 hT) (by decide) (by decide) 0) r_276_20 rfl rfl rfl rfl rfl rfl rfl (by decide) rfl (fun n20 q20 => ?_)
  obtain ⟨z0, z1⟩ := q20
  exact gx_rt r_276_23 rfl rfl ⟨rfl, by rw [z1 142 0 (by decide), e_m3, nu_ne (by decide), e_m2, nu_ne (by decide), e_m1, nu_at], z0, fun p i h1 h2 => by rw [z1 p i h2, e_m3, nu_no h1, e_m2, nu_no h1, e_m1, nu_no h1]⟩
end PAIRS
