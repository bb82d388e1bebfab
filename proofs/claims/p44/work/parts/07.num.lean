/-! numbers of the abstract machine and the machine's own -/
def in32 (x : Int) : Prop := -2147483648 ≤ x ∧ x ≤ 2147483647
def in64 (x : Int) : Prop := -9223372036854775808 ≤ x ∧ x ≤ 9223372036854775807
theorem bmod_in {x : Int} {n : Nat} (hn : 0 < n) : -((n : Int) / 2) ≤ x.bmod n ∧ x.bmod n < ((n : Int) + 1) / 2 := ⟨Int.le_bmod hn, Int.bmod_lt hn⟩
theorem w32_in (x : Int) : in32 (w32 x) := by
  have h := bmod_in (x := x) (n := 4294967296) (by decide)
  unfold in32 w32
  omega
theorem w64_in (x : Int) : in64 (w64 x) := by
  have h := bmod_in (x := x) (n := 18446744073709551616) (by decide)
  unfold in64 w64
  omega
theorem w32_id {x : Int} (h : in32 x) : w32 x = x := by
  unfold in32 at h
  unfold w32
  exact Int.bmod_eq_of_le (by omega) (by omega)
theorem w64_id {x : Int} (h : in64 x) : w64 x = x := by
  unfold in64 at h
  unfold w64
  exact Int.bmod_eq_of_le (by omega) (by omega)
theorem i32_to {x : Int} (h : in32 x) : (Int32.ofInt x).toInt = x := by
  rw [Int32.toInt_ofInt]
  exact w32_id h
theorem i64_to {x : Int} (h : in64 x) : (Int64.ofInt x).toInt = x := by
  rw [Int64.toInt_ofInt]
  exact w64_id h
theorem i32_w (x : Int) : Int32.ofInt (w32 x) = Int32.ofInt x := by
  apply Int32.toInt_inj.mp
  rw [i32_to (w32_in x), Int32.toInt_ofInt]; rfl
theorem i64_w (x : Int) : Int64.ofInt (w64 x) = Int64.ofInt x := by
  apply Int64.toInt_inj.mp
  rw [i64_to (w64_in x), Int64.toInt_ofInt]; rfl
theorem i32_eq {x y : Int} (hx : in32 x) (hy : in32 y) : Int32.ofInt x = Int32.ofInt y ↔ x = y := by
  rw [← Int32.toInt_inj, i32_to hx, i32_to hy]
theorem i32_lt {x y : Int} (hx : in32 x) (hy : in32 y) : Int32.ofInt x < Int32.ofInt y ↔ x < y := by
  rw [Int32.lt_iff_toInt_lt, i32_to hx, i32_to hy]
theorem i32_le {x y : Int} (hx : in32 x) (hy : in32 y) : Int32.ofInt x ≤ Int32.ofInt y ↔ x ≤ y := by
  rw [Int32.le_iff_toInt_le, i32_to hx, i32_to hy]
theorem i64_eq {x y : Int} (hx : in64 x) (hy : in64 y) : Int64.ofInt x = Int64.ofInt y ↔ x = y := by
  rw [← Int64.toInt_inj, i64_to hx, i64_to hy]
theorem i64_lt {x y : Int} (hx : in64 x) (hy : in64 y) : Int64.ofInt x < Int64.ofInt y ↔ x < y := by
  rw [Int64.lt_iff_toInt_lt, i64_to hx, i64_to hy]
theorem i32_0 : Int32.ofInt 0 = 0 := by decide
theorem in32_0 : in32 0 := ⟨by decide, by decide⟩
theorem i32_in (x : Int32) : in32 x.toInt := by
  have h1 := x.le_toInt
  have h2 := x.toInt_lt
  unfold in32
  omega
theorem i64_in (x : Int64) : in64 x.toInt := by
  have h1 := x.le_toInt
  have h2 := x.toInt_lt
  unfold in64
  omega
theorem i32_of (x : Int32) : Int32.ofInt x.toInt = x := Int32.ofInt_toInt x
theorem i64_of (x : Int64) : Int64.ofInt x.toInt = x := Int64.ofInt_toInt x
theorem i32_add (x y : Int) : Int32.ofInt x + Int32.ofInt y = Int32.ofInt (w32 (x + y)) := by rw [i32_w, Int32.ofInt_add]
theorem i32_sub (x y : Int) : Int32.ofInt x - Int32.ofInt y = Int32.ofInt (w32 (x - y)) := by rw [i32_w, Int32.ofInt_sub]
theorem i32_mul (x y : Int) : Int32.ofInt x * Int32.ofInt y = Int32.ofInt (w32 (x * y)) := by rw [i32_w, Int32.ofInt_mul]
theorem i32_neg (x : Int) : -Int32.ofInt x = Int32.ofInt (w32 (-x)) := by rw [i32_w, Int32.ofInt_neg]
theorem i64_add (x y : Int) : Int64.ofInt x + Int64.ofInt y = Int64.ofInt (w64 (x + y)) := by rw [i64_w, Int64.ofInt_add]
theorem i64_sub (x y : Int) : Int64.ofInt x - Int64.ofInt y = Int64.ofInt (w64 (x - y)) := by rw [i64_w, Int64.ofInt_sub]
theorem i64_mul (x y : Int) : Int64.ofInt x * Int64.ofInt y = Int64.ofInt (w64 (x * y)) := by rw [i64_w, Int64.ofInt_mul]
theorem i32_div {x y : Int} (hx : in32 x) (hy : in32 y) : Int32.ofInt x / Int32.ofInt y = Int32.ofInt (w32 (x.tdiv y)) := by
  apply Int32.toInt_inj.mp
  rw [Int32.toInt_div, i32_to hx, i32_to hy, i32_to (w32_in _)]; rfl
theorem i64_div {x y : Int} (hx : in64 x) (hy : in64 y) : Int64.ofInt x / Int64.ofInt y = Int64.ofInt (w64 (x.tdiv y)) := by
  apply Int64.toInt_inj.mp
  rw [Int64.toInt_div, i64_to hx, i64_to hy, i64_to (w64_in _)]; rfl
theorem i32_rem {x y : Int} (hx : in32 x) (hy : in32 y) : Int32.ofInt x - Int32.ofInt x / Int32.ofInt y * Int32.ofInt y = Int32.ofInt (x.tmod y) := by
  rw [i32_div hx hy, i32_w, ← Int32.ofInt_mul, ← Int32.ofInt_sub]
  congr 1
  rw [Int.tmod_def, Int.mul_comm]
theorem i64_rem {x y : Int} (hx : in64 x) (hy : in64 y) : Int64.ofInt x - Int64.ofInt x / Int64.ofInt y * Int64.ofInt y = Int64.ofInt (x.tmod y) := by
  rw [i64_div hx hy, i64_w, ← Int64.ofInt_mul, ← Int64.ofInt_sub]
  congr 1
  rw [Int.tmod_def, Int.mul_comm]
theorem tmod_in {x y : Int} {a b : Int} (ha : a ≤ 0) (hb : 0 ≤ b) (h : a ≤ x ∧ x ≤ b) : a ≤ x.tmod y ∧ x.tmod y ≤ b := by
  have h1 := Int.natAbs_tmod x y
  have h2 : (x.tmod y).natAbs ≤ x.natAbs := by rw [h1]; exact Nat.mod_le _ _
  rcases Int.le_total 0 x with h0 | h0
  · have := Int.tmod_nonneg y h0
    omega
  · have h3 : x.tmod y ≤ 0 := by
      have := Int.tmod_nonneg y (show 0 ≤ -x by omega)
      rw [Int.neg_tmod] at this
      omega
    omega
theorem i32_nat {x : Int} (hx : in32 x) : (Int32.ofInt x).toNatClampNeg = x.toNat := by
  show (Int32.ofInt x).toInt.toNat = x.toNat
  rw [i32_to hx]
theorem i32_vin {i : Int} {n : Nat} (hi : in32 i) (h0 : 0 ≤ i) (h1 : i.toNat < n) : vp_in (Int32.ofInt i) n := by
  rintro (h | h)
  · rw [← i32_0, i32_lt hi in32_0] at h; omega
  · rw [i32_nat hi] at h; omega
theorem i32_nlt {x : Int} (hx : in32 x) (h0 : 0 ≤ x) : ¬ Int32.ofInt x < 0 := by
  rw [← i32_0, i32_lt hx in32_0]; omega
theorem i8_w (n : Int) {a : Int} (h : (Int8.ofInt n).toInt = a) : (Int8.ofInt n).toInt32 = Int32.ofInt a := by
  subst h
  apply Int32.toInt_inj.mp
  rw [Int8.toInt_toInt32, i32_to]
  have h1 := (Int8.ofInt n).le_toInt
  have h2 := (Int8.ofInt n).toInt_lt
  unfold in32; omega
theorem i16_w (n : Int) {a : Int} (h : (Int16.ofInt n).toInt = a) : (Int16.ofInt n).toInt32 = Int32.ofInt a := by
  subst h
  apply Int32.toInt_inj.mp
  rw [Int16.toInt_toInt32, i32_to]
  have h1 := (Int16.ofInt n).le_toInt
  have h2 := (Int16.ofInt n).toInt_lt
  unfold in32; omega
theorem i8_in {n : Int} {a : Int} (h : (Int8.ofInt n).toInt = a) : in32 a := by
  have h1 := (Int8.ofInt n).le_toInt
  have h2 := (Int8.ofInt n).toInt_lt
  unfold in32; omega
theorem i16_in {n : Int} {a : Int} (h : (Int16.ofInt n).toInt = a) : in32 a := by
  have h1 := (Int16.ofInt n).le_toInt
  have h2 := (Int16.ofInt n).toInt_lt
  unfold in32; omega
theorem b8_in (x : Int) : -128 ≤ b8 x ∧ b8 x ≤ 127 := by
  have h := bmod_in (x := x) (n := 256) (by decide)
  unfold b8
  omega
theorem b16_in (x : Int) : -32768 ≤ b16 x ∧ b16 x ≤ 32767 := by
  have h := bmod_in (x := x) (n := 65536) (by decide)
  unfold b16
  omega
theorem i32_b8 {x : Int} (hx : in32 x) : (Int32.ofInt x).toInt8.toInt32 = Int32.ofInt (b8 x) := by
  apply Int32.toInt_inj.mp
  have h := b8_in x
  rw [Int8.toInt_toInt32, Int32.toInt_toInt8, i32_to hx, i32_to (by unfold in32; omega)]; rfl
theorem i32_b16 {x : Int} (hx : in32 x) : (Int32.ofInt x).toInt16.toInt32 = Int32.ofInt (b16 x) := by
  apply Int32.toInt_inj.mp
  have h := b16_in x
  rw [Int16.toInt_toInt32, Int32.toInt_toInt16, i32_to hx, i32_to (by unfold in32; omega)]; rfl
theorem i32_64 {x : Int} (hx : in32 x) : (Int32.ofInt x).toInt64 = Int64.ofInt x := by
  apply Int64.toInt_inj.mp
  rw [Int32.toInt_toInt64, i32_to hx, i64_to (by unfold in32 at hx; unfold in64; omega)]
theorem i64_32 (x : Int) (hx : in64 x) : (Int64.ofInt x).toInt32 = Int32.ofInt (w32 x) := by
  apply Int32.toInt_inj.mp
  rw [Int64.toInt_toInt32, i64_to hx, i32_to (w32_in x)]; rfl
theorem i32_max {x y : Int} (hx : in32 x) (hy : in32 y) : (if Int32.ofInt x < Int32.ofInt y then Int32.ofInt y else Int32.ofInt x) = Int32.ofInt (max x y) := by
  by_cases h : x < y
  · rw [if_pos ((i32_lt hx hy).mpr h), Int.max_eq_right (by omega)]
  · rw [if_neg (fun q => h ((i32_lt hx hy).mp q)), Int.max_eq_left (by omega)]
theorem i32_min {x y : Int} (hx : in32 x) (hy : in32 y) : (if Int32.ofInt y < Int32.ofInt x then Int32.ofInt y else Int32.ofInt x) = Int32.ofInt (min x y) := by
  by_cases h : y < x
  · rw [if_pos ((i32_lt hy hx).mpr h), Int.min_eq_right (by omega)]
  · rw [if_neg (fun q => h ((i32_lt hy hx).mp q)), Int.min_eq_left (by omega)]
theorem i64_max {x y : Int} (hx : in64 x) (hy : in64 y) : (if Int64.ofInt y < Int64.ofInt x then Int64.ofInt x else Int64.ofInt y) = Int64.ofInt (max x y) := by
  by_cases h : y < x
  · rw [if_pos ((i64_lt hy hx).mpr h), Int.max_eq_left (by omega)]
  · rw [if_neg (fun q => h ((i64_lt hy hx).mp q)), Int.max_eq_right (by omega)]
