/-! sums over the story -/
theorem r_26_0 : row 26 0 = some (.aload_n 0, 1, 0, 0, 0, 0) := rfl
theorem r_26_1 : row 26 1 = some (.getfield 19, 4, 9, 1, 2, 2159) := rfl
theorem r_26_4 : row 26 4 = some (.invokevirtual 162, 7, 252, 0, 10, 4036) := rfl
theorem r_26_7 : row 26 7 = some (.ifCond .ne 6, 10, 13, 0, 0, 0) := rfl
theorem r_26_10 : row 26 10 = some (.bipush (-2), 12, (-2), 0, 0, 0) := rfl
theorem r_26_12 : row 26 12 = some (.ireturn, 13, 0, 0, 0, 0) := rfl
theorem r_26_13 : row 26 13 = some (.iconst (-1), 14, (-1), 0, 0, 0) := rfl
theorem r_26_14 : row 26 14 = some (.istore_n 1, 15, 0, 0, 0, 0) := rfl
theorem r_26_15 : row 26 15 = some (.iconst 0, 16, 0, 0, 0, 0) := rfl
theorem r_26_16 : row 26 16 = some (.istore_n 2, 17, 0, 0, 0, 0) := rfl
theorem r_26_17 : row 26 17 = some (.iconst 0, 18, 0, 0, 0, 0) := rfl
theorem r_26_18 : row 26 18 = some (.istore_n 3, 19, 0, 0, 0, 0) := rfl
theorem r_26_19 : row 26 19 = some (.iload_n 3, 20, 0, 0, 0, 0) := rfl
theorem r_26_20 : row 26 20 = some (.aload_n 0, 21, 0, 0, 0, 0) := rfl
theorem r_26_21 : row 26 21 = some (.getfield 19, 24, 9, 1, 2, 2159) := rfl
theorem r_26_24 : row 26 24 = some (.getfield 152, 27, 3, 8, 10, 1101) := rfl
theorem r_26_27 : row 26 27 = some (.if_icmp .ge 33, 30, 60, 0, 0, 0) := rfl
theorem r_26_30 : row 26 30 = some (.aload_n 0, 31, 0, 0, 0, 0) := rfl
theorem r_26_31 : row 26 31 = some (.getfield 39, 34, 9, 5, 2, 2163) := rfl
theorem r_26_34 : row 26 34 = some (.getfield 225, 37, 7, 9, 12, 2020) := rfl
theorem r_26_37 : row 26 37 = some (.iload_n 3, 38, 0, 0, 0, 0) := rfl
theorem r_26_38 : row 26 38 = some (.invokestatic 134, 41, 237, 2, 10, 4023) := rfl
theorem r_26_41 : row 26 41 = some (.istore 4, 43, 0, 0, 0, 0) := rfl
theorem r_26_43 : row 26 43 = some (.iload 4, 45, 0, 0, 0, 0) := rfl
theorem r_26_45 : row 26 45 = some (.iload_n 2, 46, 0, 0, 0, 0) := rfl
theorem r_26_46 : row 26 46 = some (.if_icmp .le 8, 49, 54, 0, 0, 0) := rfl
theorem r_26_49 : row 26 49 = some (.iload 4, 51, 0, 0, 0, 0) := rfl
theorem r_26_51 : row 26 51 = some (.istore_n 2, 52, 0, 0, 0, 0) := rfl
theorem r_26_52 : row 26 52 = some (.iload_n 3, 53, 0, 0, 0, 0) := rfl
theorem r_26_53 : row 26 53 = some (.istore_n 1, 54, 0, 0, 0, 0) := rfl
theorem r_26_54 : row 26 54 = some (.iinc 3 1, 57, 0, 0, 0, 0) := rfl
theorem r_26_57 : row 26 57 = some (.goto (-38), 60, 19, 0, 0, 0) := rfl
theorem r_26_60 : row 26 60 = some (.iload_n 1, 61, 0, 0, 0, 0) := rfl
theorem r_26_61 : row 26 61 = some (.ireturn, 62, 0, 0, 0, 0) := rfl
theorem r_30_0 : row 30 0 = some (.aload_n 0, 1, 0, 0, 0, 0) := rfl
theorem r_30_1 : row 30 1 = some (.iload_n 1, 2, 0, 0, 0, 0) := rfl
theorem r_30_2 : row 30 2 = some (.invokevirtual 190, 5, 74, 1, 0, 4075) := rfl
theorem r_30_5 : row 30 5 = some (.ifCond .ne 6, 8, 11, 0, 0, 0) := rfl
theorem r_30_8 : row 30 8 = some (.bipush (-2), 10, (-2), 0, 0, 0) := rfl
theorem r_30_10 : row 30 10 = some (.ireturn, 11, 0, 0, 0, 0) := rfl
theorem r_30_11 : row 30 11 = some (.iconst 0, 12, 0, 0, 0, 0) := rfl
theorem r_30_12 : row 30 12 = some (.istore_n 2, 13, 0, 0, 0, 0) := rfl
theorem r_30_13 : row 30 13 = some (.iconst 0, 14, 0, 0, 0, 0) := rfl
theorem r_30_14 : row 30 14 = some (.istore_n 3, 15, 0, 0, 0, 0) := rfl
theorem r_30_15 : row 30 15 = some (.iload_n 3, 16, 0, 0, 0, 0) := rfl
theorem r_30_16 : row 30 16 = some (.aload_n 0, 17, 0, 0, 0, 0) := rfl
theorem r_30_17 : row 30 17 = some (.getfield 19, 20, 9, 1, 2, 2159) := rfl
theorem r_30_20 : row 30 20 = some (.getfield 123, 23, 3, 6, 10, 1093) := rfl
theorem r_30_23 : row 30 23 = some (.if_icmp .ge 21, 26, 44, 0, 0, 0) := rfl
theorem r_30_26 : row 30 26 = some (.iload_n 2, 27, 0, 0, 0, 0) := rfl
theorem r_30_27 : row 30 27 = some (.aload_n 0, 28, 0, 0, 0, 0) := rfl
theorem r_30_28 : row 30 28 = some (.getfield 39, 31, 9, 5, 2, 2163) := rfl
theorem r_30_31 : row 30 31 = some (.iload_n 3, 32, 0, 0, 0, 0) := rfl
theorem r_30_32 : row 30 32 = some (.iload_n 1, 33, 0, 0, 0, 0) := rfl
theorem r_30_33 : row 30 33 = some (.invokevirtual 204, 36, 292, 2, 10, 4099) := rfl
theorem r_30_36 : row 30 36 = some (.iadd, 37, 0, 0, 0, 0) := rfl
theorem r_30_37 : row 30 37 = some (.istore_n 2, 38, 0, 0, 0, 0) := rfl
theorem r_30_38 : row 30 38 = some (.iinc 3 1, 41, 0, 0, 0, 0) := rfl
theorem r_30_41 : row 30 41 = some (.goto (-26), 44, 15, 0, 0, 0) := rfl
theorem r_30_44 : row 30 44 = some (.iload_n 2, 45, 0, 0, 0, 0) := rfl
theorem r_30_45 : row 30 45 = some (.ireturn, 46, 0, 0, 0, 0) := rfl
theorem r_32_0 : row 32 0 = some (.aload_n 0, 1, 0, 0, 0, 0) := rfl
theorem r_32_1 : row 32 1 = some (.getfield 19, 4, 9, 1, 2, 2159) := rfl
theorem r_32_4 : row 32 4 = some (.invokevirtual 162, 7, 252, 0, 10, 4036) := rfl
theorem r_32_7 : row 32 7 = some (.ifCond .ne 6, 10, 13, 0, 0, 0) := rfl
theorem r_32_10 : row 32 10 = some (.bipush (-2), 12, (-2), 0, 0, 0) := rfl
theorem r_32_12 : row 32 12 = some (.ireturn, 13, 0, 0, 0, 0) := rfl
theorem r_32_13 : row 32 13 = some (.iconst 0, 14, 0, 0, 0, 0) := rfl
theorem r_32_14 : row 32 14 = some (.istore_n 1, 15, 0, 0, 0, 0) := rfl
theorem r_32_15 : row 32 15 = some (.iload_n 1, 16, 0, 0, 0, 0) := rfl
theorem r_32_16 : row 32 16 = some (.aload_n 0, 17, 0, 0, 0, 0) := rfl
theorem r_32_17 : row 32 17 = some (.getfield 19, 20, 9, 1, 2, 2159) := rfl
theorem r_32_20 : row 32 20 = some (.getfield 237, 23, 3, 2, 10, 1079) := rfl
theorem r_32_23 : row 32 23 = some (.if_icmp .ge 26, 26, 49, 0, 0, 0) := rfl
theorem r_32_26 : row 32 26 = some (.aload_n 0, 27, 0, 0, 0, 0) := rfl
theorem r_32_27 : row 32 27 = some (.getfield 39, 30, 9, 5, 2, 2163) := rfl
theorem r_32_30 : row 32 30 = some (.getfield 210, 33, 7, 6, 12, 2014) := rfl
theorem r_32_33 : row 32 33 = some (.iload_n 1, 34, 0, 0, 0, 0) := rfl
theorem r_32_34 : row 32 34 = some (.invokestatic 134, 37, 237, 2, 10, 4023) := rfl
theorem r_32_37 : row 32 37 = some (.iconst 4, 38, 4, 0, 0, 0) := rfl
theorem r_32_38 : row 32 38 = some (.if_icmp .ne 5, 41, 43, 0, 0, 0) := rfl
theorem r_32_41 : row 32 41 = some (.iload_n 1, 42, 0, 0, 0, 0) := rfl
theorem r_32_42 : row 32 42 = some (.ireturn, 43, 0, 0, 0, 0) := rfl
theorem r_32_43 : row 32 43 = some (.iinc 1 1, 46, 0, 0, 0, 0) := rfl
theorem r_32_46 : row 32 46 = some (.goto (-31), 49, 15, 0, 0, 0) := rfl
theorem r_32_49 : row 32 49 = some (.iconst (-1), 50, (-1), 0, 0, 0) := rfl
theorem r_32_50 : row 32 50 = some (.ireturn, 51, 0, 0, 0, 0) := rfl
theorem r_162_0 : row 162 0 = some (.aload_n 0, 1, 0, 0, 0, 0) := rfl
theorem r_162_1 : row 162 1 = some (.invokevirtual 330, 4, 146, 0, 0, 7078) := rfl
theorem r_162_4 : row 162 4 = some (.ifCond .ne 6, 7, 10, 0, 0, 0) := rfl
theorem r_162_7 : row 162 7 = some (.bipush (-2), 9, (-2), 0, 0, 0) := rfl
theorem r_162_9 : row 162 9 = some (.ireturn, 10, 0, 0, 0, 0) := rfl
theorem r_162_10 : row 162 10 = some (.iconst (-1), 11, (-1), 0, 0, 0) := rfl
theorem r_162_11 : row 162 11 = some (.istore_n 1, 12, 0, 0, 0, 0) := rfl
theorem r_162_12 : row 162 12 = some (.iconst 0, 13, 0, 0, 0, 0) := rfl
theorem r_162_13 : row 162 13 = some (.istore_n 2, 14, 0, 0, 0, 0) := rfl
theorem r_162_14 : row 162 14 = some (.iconst 0, 15, 0, 0, 0, 0) := rfl
theorem r_162_15 : row 162 15 = some (.istore_n 3, 16, 0, 0, 0, 0) := rfl
theorem r_162_16 : row 162 16 = some (.iload_n 3, 17, 0, 0, 0, 0) := rfl
theorem r_162_17 : row 162 17 = some (.aload_n 0, 18, 0, 0, 0, 0) := rfl
theorem r_162_18 : row 162 18 = some (.getfield 9, 21, 10, 1, 2, 6002) := rfl
theorem r_162_21 : row 162 21 = some (.bipush 7, 23, 7, 0, 0, 0) := rfl
theorem r_162_23 : row 162 23 = some (.iaload, 24, 0, 0, 0, 0) := rfl
theorem r_162_24 : row 162 24 = some (.if_icmp .ge 31, 27, 55, 0, 0, 0) := rfl
theorem r_162_27 : row 162 27 = some (.aload_n 0, 28, 0, 0, 0, 0) := rfl
theorem r_162_28 : row 162 28 = some (.getfield 49, 31, 10, 20, 2, 6021) := rfl
theorem r_162_31 : row 162 31 = some (.iload_n 3, 32, 0, 0, 0, 0) := rfl
theorem r_162_32 : row 162 32 = some (.iaload, 33, 0, 0, 0, 0) := rfl
theorem r_162_33 : row 162 33 = some (.iload_n 2, 34, 0, 0, 0, 0) := rfl
theorem r_162_34 : row 162 34 = some (.if_icmp .gt 6, 37, 40, 0, 0, 0) := rfl
theorem r_162_37 : row 162 37 = some (.goto 12, 40, 49, 0, 0, 0) := rfl
theorem r_162_40 : row 162 40 = some (.aload_n 0, 41, 0, 0, 0, 0) := rfl
theorem r_162_41 : row 162 41 = some (.getfield 49, 44, 10, 20, 2, 6021) := rfl
theorem r_162_44 : row 162 44 = some (.iload_n 3, 45, 0, 0, 0, 0) := rfl
theorem r_162_45 : row 162 45 = some (.iaload, 46, 0, 0, 0, 0) := rfl
theorem r_162_46 : row 162 46 = some (.istore_n 2, 47, 0, 0, 0, 0) := rfl
theorem r_162_47 : row 162 47 = some (.iload_n 3, 48, 0, 0, 0, 0) := rfl
theorem r_162_48 : row 162 48 = some (.istore_n 1, 49, 0, 0, 0, 0) := rfl
theorem r_162_49 : row 162 49 = some (.iinc 3 1, 52, 0, 0, 0, 0) := rfl
theorem r_162_52 : row 162 52 = some (.goto (-36), 55, 16, 0, 0, 0) := rfl
theorem r_162_55 : row 162 55 = some (.iload_n 1, 56, 0, 0, 0, 0) := rfl
theorem r_162_56 : row 162 56 = some (.ireturn, 57, 0, 0, 0, 0) := rfl
theorem r_170_0 : row 170 0 = some (.aload_n 0, 1, 0, 0, 0, 0) := rfl
theorem r_170_1 : row 170 1 = some (.iload_n 1, 2, 0, 0, 0, 0) := rfl
theorem r_170_2 : row 170 2 = some (.invokevirtual 336, 5, 147, 1, 0, 7154) := rfl
theorem r_170_5 : row 170 5 = some (.ifCond .ne 6, 8, 11, 0, 0, 0) := rfl
theorem r_170_8 : row 170 8 = some (.bipush (-2), 10, (-2), 0, 0, 0) := rfl
theorem r_170_10 : row 170 10 = some (.ireturn, 11, 0, 0, 0, 0) := rfl
theorem r_170_11 : row 170 11 = some (.iconst 0, 12, 0, 0, 0, 0) := rfl
theorem r_170_12 : row 170 12 = some (.istore_n 2, 13, 0, 0, 0, 0) := rfl
theorem r_170_13 : row 170 13 = some (.iconst 0, 14, 0, 0, 0, 0) := rfl
theorem r_170_14 : row 170 14 = some (.istore_n 3, 15, 0, 0, 0, 0) := rfl
theorem r_170_15 : row 170 15 = some (.iload_n 3, 16, 0, 0, 0, 0) := rfl
theorem r_170_16 : row 170 16 = some (.aload_n 0, 17, 0, 0, 0, 0) := rfl
theorem r_170_17 : row 170 17 = some (.getfield 9, 20, 10, 1, 2, 6002) := rfl
theorem r_170_20 : row 170 20 = some (.iconst 5, 21, 5, 0, 0, 0) := rfl
theorem r_170_21 : row 170 21 = some (.iaload, 22, 0, 0, 0, 0) := rfl
theorem r_170_22 : row 170 22 = some (.if_icmp .ge 21, 25, 43, 0, 0, 0) := rfl
theorem r_170_25 : row 170 25 = some (.iload_n 2, 26, 0, 0, 0, 0) := rfl
theorem r_170_26 : row 170 26 = some (.aload_n 0, 27, 0, 0, 0, 0) := rfl
theorem r_170_27 : row 170 27 = some (.iload_n 1, 28, 0, 0, 0, 0) := rfl
theorem r_170_28 : row 170 28 = some (.bipush 11, 30, 11, 0, 0, 0) := rfl
theorem r_170_30 : row 170 30 = some (.iload_n 3, 31, 0, 0, 0, 0) := rfl
theorem r_170_31 : row 170 31 = some (.iadd, 32, 0, 0, 0, 0) := rfl
theorem r_170_32 : row 170 32 = some (.invokevirtual 263, 35, 131, 2, 0, 7110) := rfl
theorem r_170_35 : row 170 35 = some (.iadd, 36, 0, 0, 0, 0) := rfl
theorem r_170_36 : row 170 36 = some (.istore_n 2, 37, 0, 0, 0, 0) := rfl
theorem r_170_37 : row 170 37 = some (.iinc 3 1, 40, 0, 0, 0, 0) := rfl
theorem r_170_40 : row 170 40 = some (.goto (-25), 43, 15, 0, 0, 0) := rfl
theorem r_170_43 : row 170 43 = some (.iload_n 2, 44, 0, 0, 0, 0) := rfl
theorem r_170_44 : row 170 44 = some (.ireturn, 45, 0, 0, 0, 0) := rfl
theorem r_172_0 : row 172 0 = some (.aload_n 0, 1, 0, 0, 0, 0) := rfl
theorem r_172_1 : row 172 1 = some (.invokevirtual 330, 4, 146, 0, 0, 7078) := rfl
theorem r_172_4 : row 172 4 = some (.ifCond .ne 6, 7, 10, 0, 0, 0) := rfl
theorem r_172_7 : row 172 7 = some (.bipush (-2), 9, (-2), 0, 0, 0) := rfl
theorem r_172_9 : row 172 9 = some (.ireturn, 10, 0, 0, 0, 0) := rfl
theorem r_172_10 : row 172 10 = some (.iconst 0, 11, 0, 0, 0, 0) := rfl
theorem r_172_11 : row 172 11 = some (.istore_n 1, 12, 0, 0, 0, 0) := rfl
theorem r_172_12 : row 172 12 = some (.iload_n 1, 13, 0, 0, 0, 0) := rfl
theorem r_172_13 : row 172 13 = some (.aload_n 0, 14, 0, 0, 0, 0) := rfl
theorem r_172_14 : row 172 14 = some (.getfield 9, 17, 10, 1, 2, 6002) := rfl
theorem r_172_17 : row 172 17 = some (.iconst 1, 18, 1, 0, 0, 0) := rfl
theorem r_172_18 : row 172 18 = some (.iaload, 19, 0, 0, 0, 0) := rfl
theorem r_172_19 : row 172 19 = some (.if_icmp .ge 21, 22, 40, 0, 0, 0) := rfl
theorem r_172_22 : row 172 22 = some (.aload_n 0, 23, 0, 0, 0, 0) := rfl
theorem r_172_23 : row 172 23 = some (.getfield 40, 26, 10, 17, 2, 6018) := rfl
theorem r_172_26 : row 172 26 = some (.iload_n 1, 27, 0, 0, 0, 0) := rfl
theorem r_172_27 : row 172 27 = some (.iaload, 28, 0, 0, 0, 0) := rfl
theorem r_172_28 : row 172 28 = some (.iconst 4, 29, 4, 0, 0, 0) := rfl
theorem r_172_29 : row 172 29 = some (.if_icmp .ne 5, 32, 34, 0, 0, 0) := rfl
theorem r_172_32 : row 172 32 = some (.iload_n 1, 33, 0, 0, 0, 0) := rfl
theorem r_172_33 : row 172 33 = some (.ireturn, 34, 0, 0, 0, 0) := rfl
theorem r_172_34 : row 172 34 = some (.iinc 1 1, 37, 0, 0, 0, 0) := rfl
theorem r_172_37 : row 172 37 = some (.goto (-25), 40, 12, 0, 0, 0) := rfl
theorem r_172_40 : row 172 40 = some (.iconst (-1), 41, (-1), 0, 0, 0) := rfl
theorem r_172_41 : row 172 41 = some (.ireturn, 42, 0, 0, 0, 0) := rfl
/-- a sum as the machine adds it up -/
def sumW (f : Nat → Int) : Nat → Int
  | 0 => 0
  | k + 1 => w32 (sumW f k + f k)
theorem sumW_c {f g : Nat → Int} : ∀ k : Nat, (∀ i : Nat, i < k → f i = g i) → sumW f k = sumW g k := by
  intro k
  induction k with
  | zero => intro _; rfl
  | succ k ih =>
    intro e
    show w32 (sumW f k + f k) = w32 (sumW g k + g k)
    rw [ih (fun i hi => e i (by omega)), e k (by omega)]
/-- the first with the most, above 0, and how much -/
def mostW (f : Nat → Int) : Nat → Int × Int
  | 0 => (-1, 0)
  | k + 1 => if (mostW f k).2 < f k then ((k : Int), f k) else mostW f k
theorem mostW_c {f g : Nat → Int} : ∀ k : Nat, (∀ i : Nat, i < k → f i = g i) → mostW f k = mostW g k := by
  intro k
  induction k with
  | zero => intro _; rfl
  | succ k ih =>
    intro e
    show (if (mostW f k).2 < f k then ((k : Int), f k) else mostW f k) = (if (mostW g k).2 < g k then ((k : Int), g k) else mostW g k)
    rw [ih (fun i hi => e i (by omega)), e k (by omega)]
theorem mostW_y {f : Nat → Int} {k : Nat} (h : (mostW f k).2 < f k) : mostW f (k + 1) = ((k : Int), f k) := if_pos h
theorem mostW_n {f : Nat → Int} {k : Nat} (h : ¬ (mostW f k).2 < f k) : mostW f (k + 1) = mostW f k := if_neg h
section SUMS2
variable {T : List Kd} {m : Mm}
theorem lf_l (hT : TT T) (hp : PinR m) {h n : Nat} (hh : h ≤ 12) (hn : m 4 6 = (n : Int)) (hn5 : n ≤ 5) : ∀ (N k : Nat), n - k < N → k ≤ n → GX T 2 30 15 [(2, 1), (0, (h : Int)), (0, (sumW (fun t => m 36 (5 * h + t)) k)), (0, (k : Int))] [] m (RI (fun v m1 => v = sumW (fun t => m 36 (5 * h + t)) n ∧ m1 = m)) := by
  intro N
  induction N with
  | zero => intro k hN; exact absurd hN (Nat.not_lt_zero _)
  | succ N ih =>
    intro k hN hk
    refine gx_st (L' := [(2, 1), (0, (h : Int)), (0, (sumW (fun t => m 36 (5 * h + t)) k)), (0, (k : Int))]) (S' := [(0, (k : Int))]) r_30_15 rfl rfl rfl ?_
    refine gx_st (L' := [(2, 1), (0, (h : Int)), (0, (sumW (fun t => m 36 (5 * h + t)) k)), (0, (k : Int))]) (S' := [(2, 1), (0, (k : Int))]) r_30_16 rfl rfl rfl ?_
    refine gx_gf (x := 4) 2 r_30_17 (rfl) (ty_1 hT) ⟨by decide, rfl, by decide, by decide⟩ rfl (fun _ => by omega) (pin_at hp (t := 4) rfl (by decide)) ?_
    refine gx_gf (x := (n : Int)) 0 r_30_20 (rfl) (ty_4 hT) ⟨by decide, rfl, by decide, by decide⟩ rfl (fun z => absurd z (by decide)) (hn) ?_
    refine gx_ic (P := (n : Int) ≤ (k : Int)) r_30_23 (rfl) (fun h23 => ?_) (fun h23 => ?_)
    · refine gx_st (L' := [(2, 1), (0, (h : Int)), (0, (sumW (fun t => m 36 (5 * h + t)) k)), (0, (k : Int))]) (S' := [(0, (sumW (fun t => m 36 (5 * h + t)) k))]) r_30_44 rfl rfl rfl ?_
      have hkn : k = n := by omega
      subst hkn
      exact gx_rt r_30_45 rfl rfl ⟨_, rfl, rfl, rfl⟩
    · refine gx_st (L' := [(2, 1), (0, (h : Int)), (0, (sumW (fun t => m 36 (5 * h + t)) k)), (0, (k : Int))]) (S' := [(0, (sumW (fun t => m 36 (5 * h + t)) k))]) r_30_26 rfl rfl rfl ?_
      refine gx_st (L' := [(2, 1), (0, (h : Int)), (0, (sumW (fun t => m 36 (5 * h + t)) k)), (0, (k : Int))]) (S' := [(2, 1), (0, (sumW (fun t => m 36 (5 * h + t)) k))]) r_30_27 rfl rfl rfl ?_
      refine gx_gf (x := 28) 2 r_30_28 (rfl) (ty_1 hT) ⟨by decide, rfl, by decide, by decide⟩ rfl (fun _ => by omega) (pin_at hp (t := 28) rfl (by decide)) ?_
      refine gx_st (L' := [(2, 1), (0, (h : Int)), (0, (sumW (fun t => m 36 (5 * h + t)) k)), (0, (k : Int))]) (S' := [(0, (k : Int)), (2, 28), (0, (sumW (fun t => m 36 (5 * h + t)) k))]) r_30_31 rfl rfl rfl ?_
      refine gx_st (L' := [(2, 1), (0, (h : Int)), (0, (sumW (fun t => m 36 (5 * h + t)) k)), (0, (k : Int))]) (S' := [(0, (h : Int)), (0, (k : Int)), (2, 28), (0, (sumW (fun t => m 36 (5 * h + t)) k))]) r_30_32 rfl rfl rfl ?_
      refine gx_ci (nx := 36) (S2 := [(0, (sumW (fun t => m 36 (5 * h + t)) k))]) (z_292 hT hp (i := k) (h := h) (by omega) hh) r_30_33 rfl rfl rfl rfl rfl (rcv_v rfl (ty_28 hT) (by decide) rfl (by decide)) rfl (by decide) rfl (fun x33 n33 q33 => ?_)
      obtain rfl := q33.1.symm
      obtain rfl := q33.2.symm
      show GX T 2 30 36 [(2, 1), (0, (h : Int)), (0, (sumW (fun t => m 36 (5 * h + t)) k)), (0, (k : Int))] [(0, (m 36 (5 * h + k))), (0, (sumW (fun t => m 36 (5 * h + t)) k))] m (RI (fun v m1 => v = sumW (fun t => m 36 (5 * h + t)) n ∧ m1 = m))
      refine gx_st (L' := [(2, 1), (0, (h : Int)), (0, (sumW (fun t => m 36 (5 * h + t)) k)), (0, (k : Int))]) (S' := [(0, (w32 (((sumW (fun t => m 36 (5 * h + t)) k)) + ((m 36 (5 * h + k))))))]) r_30_36 rfl rfl rfl ?_
      have k36 := w32_in (((sumW (fun t => m 36 (5 * h + t)) k)) + ((m 36 (5 * h + k))))
      unfold in32 at k36
      refine gx_st (L' := [(2, 1), (0, (h : Int)), (0, (w32 (((sumW (fun t => m 36 (5 * h + t)) k)) + ((m 36 (5 * h + k)))))), (0, (k : Int))]) (S' := []) r_30_37 rfl rfl rfl ?_
      refine gx_li (z := (k : Int) + 1) (L' := [(2, 1), (0, (h : Int)), (0, (w32 (((sumW (fun t => m 36 (5 * h + t)) k)) + ((m 36 (5 * h + k)))))), (0, (k : Int) + 1)]) r_30_38 rfl (w32_eq (by omega) (by omega) (by omega)) rfl ?_
      refine gx_st (L' := [(2, 1), (0, (h : Int)), (0, (w32 (((sumW (fun t => m 36 (5 * h + t)) k)) + ((m 36 (5 * h + k)))))), (0, (k : Int) + 1)]) (S' := []) r_30_41 rfl rfl rfl ?_
      rw [show (k : Int) + 1 = ((k + 1 : Nat) : Int) from rfl]
      exact ih (k + 1) (by omega) (by omega)
theorem z_30 (hT : TT T) (hp : PinR m) (a : Int) (h12 : m 4 2 ≤ 12) (h46 : 0 ≤ m 4 6 ∧ m 4 6 ≤ 5) : GX T 3 30 0 [(2, 1), (0, a), (9, 0), (9, 0)] [] m (RI (fun v m1 => (¬ (0 < m 4 0 ∧ 0 ≤ a ∧ a ≤ m 4 2) → v = -2) ∧ ∀ h k : Nat, a = (h : Int) → m 4 6 = (k : Int) → (0 < m 4 0 ∧ 0 ≤ a ∧ a ≤ m 4 2) → v = sumW (fun t => m 36 (5 * h + t)) k)) := by
  refine gx_st (L' := [(2, 1), (0, a), (9, 0), (9, 0)]) (S' := [(2, 1)]) r_30_0 rfl rfl rfl ?_
  refine gx_st (L' := [(2, 1), (0, a), (9, 0), (9, 0)]) (S' := [(0, a), (2, 1)]) r_30_1 rfl rfl rfl ?_
  refine gx_ci (nx := 5) (S2 := []) (x_74 hT hp a) r_30_2 rfl rfl rfl rfl rfl (rcv_v rfl (ty_1 hT) (by decide) rfl (by decide)) rfl (by decide) rfl (fun x2 n2 q2 => ?_)
  obtain rfl := q2.1.symm
  obtain rfl := q2.2.symm
  show GX T 3 30 5 [(2, 1), (0, a), (9, 0), (9, 0)] [(0, (if 0 < m 4 0 ∧ 0 ≤ a ∧ a ≤ m 4 2 then 1 else 0))] m (RI (fun v m1 => (¬ (0 < m 4 0 ∧ 0 ≤ a ∧ a ≤ m 4 2) → v = -2) ∧ ∀ h k : Nat, a = (h : Int) → m 4 6 = (k : Int) → (0 < m 4 0 ∧ 0 ≤ a ∧ a ≤ m 4 2) → v = sumW (fun t => m 36 (5 * h + t)) k))
  refine gx_i0 (P := 0 < m 4 0 ∧ 0 ≤ a ∧ a ≤ m 4 2) r_30_5 (b01_ne) (fun h5 => ?_) (fun h5 => ?_)
  · obtain ⟨ii, h_ii⟩ : ∃ i : Nat, a = (i : Int) := ⟨a.toNat, by omega⟩
    rw [h_ii]
    refine gx_st (L' := [(2, 1), (0, (ii : Int)), (9, 0), (9, 0)]) (S' := [(0, 0)]) r_30_11 rfl rfl rfl ?_
    refine gx_st (L' := [(2, 1), (0, (ii : Int)), (0, 0), (9, 0)]) (S' := []) r_30_12 rfl rfl rfl ?_
    refine gx_st (L' := [(2, 1), (0, (ii : Int)), (0, 0), (9, 0)]) (S' := [(0, 0)]) r_30_13 rfl rfl rfl ?_
    refine gx_st (L' := [(2, 1), (0, (ii : Int)), (0, 0), (0, 0)]) (S' := []) r_30_14 rfl rfl rfl ?_
    exact gx_imp (gx_d (lf_l hT hp (h := ii) (n := (m 4 6).toNat) (by omega) (by omega) (by omega) ((m 4 6).toNat + 1) 0 (by omega) (by omega)) (by decide)) (fun v m1 ⟨x, e, p, q⟩ => ⟨x, e, fun z => absurd z (by omega), fun h k e1 e2 z => by rw [p, show h = ii by omega, show k = (m 4 6).toNat by omega]⟩)
  · refine gx_st (L' := [(2, 1), (0, a), (9, 0), (9, 0)]) (S' := [(0, (-2))]) r_30_8 rfl rfl rfl ?_
    exact gx_rt r_30_10 rfl rfl ⟨_, rfl, fun _ => rfl, fun h k e e2 z => (by exfalso; omega)⟩
theorem lr2_l (hT : TT T) (hp : PinR m) {h n : Nat} (hh : h ≤ 12) (hn : m 193 5 = (n : Int)) (hn5 : n ≤ 5) : ∀ (N k : Nat), n - k < N → k ≤ n → GX T 1 170 15 [(2, 192), (0, (h : Int)), (0, (sumW (fun t => m 200 (16 * h + (11 + t))) k)), (0, (k : Int))] [] m (RI (fun v m1 => v = sumW (fun t => m 200 (16 * h + (11 + t))) n ∧ m1 = m)) := by
  intro N
  induction N with
  | zero => intro k hN; exact absurd hN (Nat.not_lt_zero _)
  | succ N ih =>
    intro k hN hk
    refine gx_st (L' := [(2, 192), (0, (h : Int)), (0, (sumW (fun t => m 200 (16 * h + (11 + t))) k)), (0, (k : Int))]) (S' := [(0, (k : Int))]) r_170_15 rfl rfl rfl ?_
    refine gx_st (L' := [(2, 192), (0, (h : Int)), (0, (sumW (fun t => m 200 (16 * h + (11 + t))) k)), (0, (k : Int))]) (S' := [(2, 192), (0, (k : Int))]) r_170_16 rfl rfl rfl ?_
    refine gx_gf (x := 193) 2 r_170_17 (rfl) (ty_192 hT) ⟨by decide, rfl, by decide, by decide⟩ rfl (fun _ => by omega) (pin_at hp (t := 193) rfl (by decide)) ?_
    refine gx_st (L' := [(2, 192), (0, (h : Int)), (0, (sumW (fun t => m 200 (16 * h + (11 + t))) k)), (0, (k : Int))]) (S' := [(0, 5), (2, 193), (0, (k : Int))]) r_170_20 rfl rfl rfl ?_
    refine gx_ia (n := 5) (x := (n : Int)) r_170_21 (rfl) (ty_193 hT) (rfl) ⟨rfl, by decide⟩ (hn) ?_
    refine gx_ic (P := (n : Int) ≤ (k : Int)) r_170_22 (rfl) (fun h22 => ?_) (fun h22 => ?_)
    · refine gx_st (L' := [(2, 192), (0, (h : Int)), (0, (sumW (fun t => m 200 (16 * h + (11 + t))) k)), (0, (k : Int))]) (S' := [(0, (sumW (fun t => m 200 (16 * h + (11 + t))) k))]) r_170_43 rfl rfl rfl ?_
      have hkn : k = n := by omega
      subst hkn
      exact gx_rt r_170_44 rfl rfl ⟨_, rfl, rfl, rfl⟩
    · refine gx_st (L' := [(2, 192), (0, (h : Int)), (0, (sumW (fun t => m 200 (16 * h + (11 + t))) k)), (0, (k : Int))]) (S' := [(0, (sumW (fun t => m 200 (16 * h + (11 + t))) k))]) r_170_25 rfl rfl rfl ?_
      refine gx_st (L' := [(2, 192), (0, (h : Int)), (0, (sumW (fun t => m 200 (16 * h + (11 + t))) k)), (0, (k : Int))]) (S' := [(2, 192), (0, (sumW (fun t => m 200 (16 * h + (11 + t))) k))]) r_170_26 rfl rfl rfl ?_
      refine gx_st (L' := [(2, 192), (0, (h : Int)), (0, (sumW (fun t => m 200 (16 * h + (11 + t))) k)), (0, (k : Int))]) (S' := [(0, (h : Int)), (2, 192), (0, (sumW (fun t => m 200 (16 * h + (11 + t))) k))]) r_170_27 rfl rfl rfl ?_
      refine gx_st (L' := [(2, 192), (0, (h : Int)), (0, (sumW (fun t => m 200 (16 * h + (11 + t))) k)), (0, (k : Int))]) (S' := [(0, 11), (0, (h : Int)), (2, 192), (0, (sumW (fun t => m 200 (16 * h + (11 + t))) k))]) r_170_28 rfl rfl rfl ?_
      refine gx_st (L' := [(2, 192), (0, (h : Int)), (0, (sumW (fun t => m 200 (16 * h + (11 + t))) k)), (0, (k : Int))]) (S' := [(0, (k : Int)), (0, 11), (0, (h : Int)), (2, 192), (0, (sumW (fun t => m 200 (16 * h + (11 + t))) k))]) r_170_30 rfl rfl rfl ?_
      refine gx_ar (L' := [(2, 192), (0, (h : Int)), (0, (sumW (fun t => m 200 (16 * h + (11 + t))) k)), (0, (k : Int))]) (S' := [(0, (h : Int)), (2, 192), (0, (sumW (fun t => m 200 (16 * h + (11 + t))) k))]) (t := 0) (e := w32 (11 + (k : Int))) (z := (k : Int) + 11) r_170_31 rfl rfl rfl (w32_eq (by omega) (by omega) (by omega)) ?_
      refine gx_ci (nx := 35) (S2 := [(0, (sumW (fun t => m 200 (16 * h + (11 + t))) k))]) (l_131 hT hp (h := h) (k := k + 11) (i := 16 * h + (11 + k)) (by omega) (by omega)) r_170_32 rfl rfl rfl rfl rfl (rcv_v rfl (ty_192 hT) (by decide) rfl (by decide)) rfl (by decide) rfl (fun x32 n32 q32 => ?_)
      obtain rfl := q32.1.symm
      obtain rfl := q32.2.symm
      show GX T 1 170 35 [(2, 192), (0, (h : Int)), (0, (sumW (fun t => m 200 (16 * h + (11 + t))) k)), (0, (k : Int))] [(0, (m 200 (16 * h + (11 + k)))), (0, (sumW (fun t => m 200 (16 * h + (11 + t))) k))] m (RI (fun v m1 => v = sumW (fun t => m 200 (16 * h + (11 + t))) n ∧ m1 = m))
      refine gx_st (L' := [(2, 192), (0, (h : Int)), (0, (sumW (fun t => m 200 (16 * h + (11 + t))) k)), (0, (k : Int))]) (S' := [(0, (w32 (((sumW (fun t => m 200 (16 * h + (11 + t))) k)) + ((m 200 (16 * h + (11 + k)))))))]) r_170_35 rfl rfl rfl ?_
      have k35 := w32_in (((sumW (fun t => m 200 (16 * h + (11 + t))) k)) + ((m 200 (16 * h + (11 + k)))))
      unfold in32 at k35
      refine gx_st (L' := [(2, 192), (0, (h : Int)), (0, (w32 (((sumW (fun t => m 200 (16 * h + (11 + t))) k)) + ((m 200 (16 * h + (11 + k))))))), (0, (k : Int))]) (S' := []) r_170_36 rfl rfl rfl ?_
      refine gx_li (z := (k : Int) + 1) (L' := [(2, 192), (0, (h : Int)), (0, (w32 (((sumW (fun t => m 200 (16 * h + (11 + t))) k)) + ((m 200 (16 * h + (11 + k))))))), (0, (k : Int) + 1)]) r_170_37 rfl (w32_eq (by omega) (by omega) (by omega)) rfl ?_
      refine gx_st (L' := [(2, 192), (0, (h : Int)), (0, (w32 (((sumW (fun t => m 200 (16 * h + (11 + t))) k)) + ((m 200 (16 * h + (11 + k))))))), (0, (k : Int) + 1)]) (S' := []) r_170_40 rfl rfl rfl ?_
      rw [show (k : Int) + 1 = ((k + 1 : Nat) : Int) from rfl]
      exact ih (k + 1) (by omega) (by omega)
theorem y_170 (hT : TT T) (h136 : ConH T cn_136) (hp : PinR m) (hm : Gam m) (hx : Ext m) (wb : WB (pw (m 193))) (wp : WP (pw (m 193))) (a : Int) : GX T 12 170 0 [(2, 192), (0, a), (9, 0), (9, 0)] [] m (RI (fun v m1 => AskR m m1 ∧ (¬ (0 < m 193 9 ∧ 0 ≤ a ∧ a ≤ m 193 1) → v = -2) ∧ ∀ h k : Nat, a = (h : Int) → m 193 5 = (k : Int) → (0 < m 193 9 ∧ 0 ≤ a ∧ a ≤ m 193 1) → v = sumW (fun t => m1 200 (16 * h + (11 + t))) k)) := by
  refine gx_st (L' := [(2, 192), (0, a), (9, 0), (9, 0)]) (S' := [(2, 192)]) r_170_0 rfl rfl rfl ?_
  refine gx_st (L' := [(2, 192), (0, a), (9, 0), (9, 0)]) (S' := [(0, a), (2, 192)]) r_170_1 rfl rfl rfl ?_
  refine gx_ci (nx := 5) (S2 := []) (y_147 hT h136 hp hm hx wb wp a) r_170_2 rfl rfl rfl rfl rfl (rcv_v rfl (ty_192 hT) (by decide) rfl (by decide)) rfl (by decide) rfl (fun x2 n2 q2 => ?_)
  obtain ⟨e_x2, ak, hp1, gm1, e193⟩ := q2
  rw [e_x2]
  have b1 := gb_193_1 hm
  show GX T 12 170 5 [(2, 192), (0, a), (9, 0), (9, 0)] [(0, (if 0 < m 193 9 ∧ 0 ≤ a ∧ a ≤ m 193 1 then 1 else 0))] n2 (RI (fun v m1 => AskR m m1 ∧ (¬ (0 < m 193 9 ∧ 0 ≤ a ∧ a ≤ m 193 1) → v = -2) ∧ ∀ h k : Nat, a = (h : Int) → m 193 5 = (k : Int) → (0 < m 193 9 ∧ 0 ≤ a ∧ a ≤ m 193 1) → v = sumW (fun t => m1 200 (16 * h + (11 + t))) k))
  show GX T 12 170 5 [(2, 192), (0, a), (9, 0), (9, 0)] [(0, (if 0 < m 193 9 ∧ 0 ≤ a ∧ a ≤ m 193 1 then 1 else 0))] n2 (RI (fun v m1 => AskR m m1 ∧ (¬ (0 < m 193 9 ∧ 0 ≤ a ∧ a ≤ m 193 1) → v = -2) ∧ ∀ h k : Nat, a = (h : Int) → m 193 5 = (k : Int) → (0 < m 193 9 ∧ 0 ≤ a ∧ a ≤ m 193 1) → v = sumW (fun t => m1 200 (16 * h + (11 + t))) k))
  refine gx_i0 (P := 0 < m 193 9 ∧ 0 ≤ a ∧ a ≤ m 193 1) r_170_5 (b01_ne) (fun h5 => ?_) (fun h5 => ?_)
  · obtain ⟨ii, h_ii⟩ : ∃ i : Nat, a = (i : Int) := ⟨a.toNat, by omega⟩
    rw [h_ii]
    refine gx_st (L' := [(2, 192), (0, (ii : Int)), (9, 0), (9, 0)]) (S' := [(0, 0)]) r_170_11 rfl rfl rfl ?_
    refine gx_st (L' := [(2, 192), (0, (ii : Int)), (0, 0), (9, 0)]) (S' := []) r_170_12 rfl rfl rfl ?_
    refine gx_st (L' := [(2, 192), (0, (ii : Int)), (0, 0), (9, 0)]) (S' := [(0, 0)]) r_170_13 rfl rfl rfl ?_
    refine gx_st (L' := [(2, 192), (0, (ii : Int)), (0, 0), (0, 0)]) (S' := []) r_170_14 rfl rfl rfl ?_
    have b5 := gb_193_5 hm
    refine gx_imp (gx_d (lr2_l hT hp1 (h := ii) (n := (m 193 5).toNat) (by omega) (by rw [e193]; omega) (by omega) ((m 193 5).toNat + 1) 0 (by omega) (by omega)) (by decide)) (fun v m1 ⟨x, e, p, q⟩ => ?_)
    subst q
    exact ⟨x, e, ak, fun z => absurd z (by omega), fun h k e1 e2 z => by rw [p, show h = ii by omega, show k = (m 193 5).toNat by omega]⟩
  · refine gx_st (L' := [(2, 192), (0, a), (9, 0), (9, 0)]) (S' := [(0, (-2))]) r_170_8 rfl rfl rfl ?_
    exact gx_rt r_170_10 rfl rfl ⟨_, rfl, ak, fun _ => rfl, fun h k e e2 z => (by exfalso; omega)⟩
theorem hu_l (hT : TT T) (hp : PinR m) {n : Nat} (hn : m 4 2 = (n : Int)) (hn12 : n ≤ 12) : ∀ (N k : Nat), n - k < N → k ≤ n → (∀ i : Nat, i < k → ¬ m 37 i = 4) → GX T 1 32 15 [(2, 1), (0, (k : Int))] [] m (RI (fun v m1 => FirstOf n (fun h => m 37 h = 4) v ∧ m1 = m)) := by
  intro N
  induction N with
  | zero => intro k hN; exact absurd hN (Nat.not_lt_zero _)
  | succ N ih =>
    intro k hN hk hno
    refine gx_st (L' := [(2, 1), (0, (k : Int))]) (S' := [(0, (k : Int))]) r_32_15 rfl rfl rfl ?_
    refine gx_st (L' := [(2, 1), (0, (k : Int))]) (S' := [(2, 1), (0, (k : Int))]) r_32_16 rfl rfl rfl ?_
    refine gx_gf (x := 4) 2 r_32_17 (rfl) (ty_1 hT) ⟨by decide, rfl, by decide, by decide⟩ rfl (fun _ => by omega) (pin_at hp (t := 4) rfl (by decide)) ?_
    refine gx_gf (x := (n : Int)) 0 r_32_20 (rfl) (ty_4 hT) ⟨by decide, rfl, by decide, by decide⟩ rfl (fun z => absurd z (by decide)) (hn) ?_
    refine gx_ic (P := (n : Int) ≤ (k : Int)) r_32_23 (rfl) (fun h23 => ?_) (fun h23 => ?_)
    · refine gx_st (L' := [(2, 1), (0, (k : Int))]) (S' := [(0, (-1))]) r_32_49 rfl rfl rfl ?_
      have hkn : k = n := by omega
      subst hkn
      exact gx_rt r_32_50 rfl rfl ⟨_, rfl, Or.inl ⟨rfl, hno⟩, rfl⟩
    · refine gx_st (L' := [(2, 1), (0, (k : Int))]) (S' := [(2, 1)]) r_32_26 rfl rfl rfl ?_
      refine gx_gf (x := 28) 2 r_32_27 (rfl) (ty_1 hT) ⟨by decide, rfl, by decide, by decide⟩ rfl (fun _ => by omega) (pin_at hp (t := 28) rfl (by decide)) ?_
      refine gx_gf (x := 37) 2 r_32_30 (rfl) (ty_28 hT) ⟨by decide, rfl, by decide, by decide⟩ rfl (fun _ => by omega) (pin_at hp (t := 37) rfl (by decide)) ?_
      refine gx_st (L' := [(2, 1), (0, (k : Int))]) (S' := [(0, (k : Int)), (2, 37)]) r_32_33 rfl rfl rfl ?_
      refine gx_ci (nx := 37) (S2 := []) (c_237 (r := 37) (n := 12) (ty_37 hT) (by decide) (by decide) (k := k) (by omega)) r_32_34 rfl rfl rfl rfl rfl rfl rfl (by decide) rfl (fun x34 n34 q34 => ?_)
      obtain rfl := q34.1.symm
      obtain rfl := q34.2.symm
      show GX T 1 32 37 [(2, 1), (0, (k : Int))] [(0, (m 37 k))] m (RI (fun v m1 => FirstOf n (fun h => m 37 h = 4) v ∧ m1 = m))
      refine gx_st (L' := [(2, 1), (0, (k : Int))]) (S' := [(0, 4), (0, (m 37 k))]) r_32_37 rfl rfl rfl ?_
      refine gx_ic (P := ¬ (m 37 k) = 4) r_32_38 (rfl) (fun h38 => ?_) (fun h38 => ?_)
      · refine gx_li (z := (k : Int) + 1) (L' := [(2, 1), (0, (k : Int) + 1)]) r_32_43 rfl (w32_eq (by omega) (by omega) (by omega)) rfl ?_
        refine gx_st (L' := [(2, 1), (0, (k : Int) + 1)]) (S' := []) r_32_46 rfl rfl rfl ?_
        rw [show (k : Int) + 1 = ((k + 1 : Nat) : Int) from rfl]
        refine ih (k + 1) (by omega) (by omega) (fun i hi => ?_)
        by_cases c : i = k
        · subst c; assumption
        · exact hno i (by omega)
      · have h38 := Decidable.not_not.mp h38
        refine gx_st (L' := [(2, 1), (0, (k : Int))]) (S' := [(0, (k : Int))]) r_32_41 rfl rfl rfl ?_
        exact gx_rt r_32_42 rfl rfl ⟨_, rfl, Or.inr ⟨k, by omega, by first | assumption | omega, rfl, hno⟩, rfl⟩
theorem hr_l (hT : TT T) (hp : PinR m) {n : Nat} (hn : m 193 1 = (n : Int)) (hn12 : n ≤ 12) : ∀ (N k : Nat), n - k < N → k ≤ n → (∀ i : Nat, i < k → ¬ m 201 i = 4) → GX T 0 172 12 [(2, 192), (0, (k : Int))] [] m (RI (fun v m1 => FirstOf n (fun h => m 201 h = 4) v ∧ m1 = m)) := by
  intro N
  induction N with
  | zero => intro k hN; exact absurd hN (Nat.not_lt_zero _)
  | succ N ih =>
    intro k hN hk hno
    refine gx_st (L' := [(2, 192), (0, (k : Int))]) (S' := [(0, (k : Int))]) r_172_12 rfl rfl rfl ?_
    refine gx_st (L' := [(2, 192), (0, (k : Int))]) (S' := [(2, 192), (0, (k : Int))]) r_172_13 rfl rfl rfl ?_
    refine gx_gf (x := 193) 2 r_172_14 (rfl) (ty_192 hT) ⟨by decide, rfl, by decide, by decide⟩ rfl (fun _ => by omega) (pin_at hp (t := 193) rfl (by decide)) ?_
    refine gx_st (L' := [(2, 192), (0, (k : Int))]) (S' := [(0, 1), (2, 193), (0, (k : Int))]) r_172_17 rfl rfl rfl ?_
    refine gx_ia (n := 1) (x := (n : Int)) r_172_18 (rfl) (ty_193 hT) (rfl) ⟨rfl, by decide⟩ (hn) ?_
    refine gx_ic (P := (n : Int) ≤ (k : Int)) r_172_19 (rfl) (fun h19 => ?_) (fun h19 => ?_)
    · refine gx_st (L' := [(2, 192), (0, (k : Int))]) (S' := [(0, (-1))]) r_172_40 rfl rfl rfl ?_
      have hkn : k = n := by omega
      subst hkn
      exact gx_rt r_172_41 rfl rfl ⟨_, rfl, Or.inl ⟨rfl, hno⟩, rfl⟩
    · refine gx_st (L' := [(2, 192), (0, (k : Int))]) (S' := [(2, 192)]) r_172_22 rfl rfl rfl ?_
      refine gx_gf (x := 201) 2 r_172_23 (rfl) (ty_192 hT) ⟨by decide, rfl, by decide, by decide⟩ rfl (fun _ => by omega) (pin_at hp (t := 201) rfl (by decide)) ?_
      refine gx_st (L' := [(2, 192), (0, (k : Int))]) (S' := [(0, (k : Int)), (2, 201)]) r_172_26 rfl rfl rfl ?_
      refine gx_ia (n := k) (x := (m 201 k)) r_172_27 (rfl) (ty_201 hT) (by omega) ⟨rfl, by omega⟩ (rfl) ?_
      refine gx_st (L' := [(2, 192), (0, (k : Int))]) (S' := [(0, 4), (0, (m 201 k))]) r_172_28 rfl rfl rfl ?_
      refine gx_ic (P := ¬ (m 201 k) = 4) r_172_29 (rfl) (fun h29 => ?_) (fun h29 => ?_)
      · refine gx_li (z := (k : Int) + 1) (L' := [(2, 192), (0, (k : Int) + 1)]) r_172_34 rfl (w32_eq (by omega) (by omega) (by omega)) rfl ?_
        refine gx_st (L' := [(2, 192), (0, (k : Int) + 1)]) (S' := []) r_172_37 rfl rfl rfl ?_
        rw [show (k : Int) + 1 = ((k + 1 : Nat) : Int) from rfl]
        refine ih (k + 1) (by omega) (by omega) (fun i hi => ?_)
        by_cases c : i = k
        · subst c; assumption
        · exact hno i (by omega)
      · have h29 := Decidable.not_not.mp h29
        refine gx_st (L' := [(2, 192), (0, (k : Int))]) (S' := [(0, (k : Int))]) r_172_32 rfl rfl rfl ?_
        exact gx_rt r_172_33 rfl rfl ⟨_, rfl, Or.inr ⟨k, by omega, by first | assumption | omega, rfl, hno⟩, rfl⟩
theorem z_32 (hT : TT T) (hp : PinR m) (h12 : 0 ≤ m 4 2 ∧ m 4 2 ≤ 12) : GX T 2 32 0 [(2, 1), (9, 0)] [] m (RI (fun v m1 => (¬ 0 < m 4 0 → v = -2) ∧ ∀ k : Nat, m 4 2 = (k : Int) → 0 < m 4 0 → FirstOf k (fun h => m 37 h = 4) v)) := by
  refine gx_st (L' := [(2, 1), (9, 0)]) (S' := [(2, 1)]) r_32_0 rfl rfl rfl ?_
  refine gx_gf (x := 4) 2 r_32_1 (rfl) (ty_1 hT) ⟨by decide, rfl, by decide, by decide⟩ rfl (fun _ => by omega) (pin_at hp (t := 4) rfl (by decide)) ?_
  refine gx_ci (nx := 7) (S2 := []) (x_252 hT) r_32_4 rfl rfl rfl rfl rfl (rcv_v rfl (ty_4 hT) (by decide) rfl (by decide)) rfl (by decide) rfl (fun x4 n4 q4 => ?_)
  obtain rfl := q4.1.symm
  obtain rfl := q4.2.symm
  show GX T 2 32 7 [(2, 1), (9, 0)] [(0, (if 0 < m 4 0 then 1 else 0))] m (RI (fun v m1 => (¬ 0 < m 4 0 → v = -2) ∧ ∀ k : Nat, m 4 2 = (k : Int) → 0 < m 4 0 → FirstOf k (fun h => m 37 h = 4) v))
  refine gx_i0 (P := 0 < m 4 0) r_32_7 (b01_ne) (fun h7 => ?_) (fun h7 => ?_)
  · refine gx_st (L' := [(2, 1), (9, 0)]) (S' := [(0, 0)]) r_32_13 rfl rfl rfl ?_
    refine gx_st (L' := [(2, 1), (0, 0)]) (S' := []) r_32_14 rfl rfl rfl ?_
    exact gx_imp (gx_d (hu_l hT hp (n := (m 4 2).toNat) (by omega) (by omega) ((m 4 2).toNat + 1) 0 (by omega) (by omega) (fun i hi => absurd hi (Nat.not_lt_zero _))) (by decide)) (fun v m1 ⟨x, e, p, q⟩ => ⟨x, e, fun z => absurd h7 z, fun k e2 z => by rw [show k = (m 4 2).toNat by omega]; exact p⟩)
  · refine gx_st (L' := [(2, 1), (9, 0)]) (S' := [(0, (-2))]) r_32_10 rfl rfl rfl ?_
    exact gx_rt r_32_12 rfl rfl ⟨_, rfl, fun _ => rfl, fun k e z => absurd z h7⟩
theorem y_172 (hT : TT T) (h136 : ConH T cn_136) (hp : PinR m) (hm : Gam m) (hx : Ext m) (wb : WB (pw (m 193))) (wp : WP (pw (m 193))) : GX T 11 172 0 [(2, 192), (9, 0)] [] m (RI (fun v m1 => AskR m m1 ∧ (¬ 0 < m 193 9 → v = -2) ∧ ∀ k : Nat, m 193 1 = (k : Int) → 0 < m 193 9 → FirstOf k (fun h => m1 201 h = 4) v)) := by
  refine gx_st (L' := [(2, 192), (9, 0)]) (S' := [(2, 192)]) r_172_0 rfl rfl rfl ?_
  refine gx_ci (nx := 4) (S2 := []) (y_146 hT h136 hp hm hx wb wp) r_172_1 rfl rfl rfl rfl rfl (rcv_v rfl (ty_192 hT) (by decide) rfl (by decide)) rfl (by decide) rfl (fun x1 n1 q1 => ?_)
  obtain ⟨e_x1, ak, hp1, gm1, gx1, f1, fs1⟩ := q1
  have e193 : n1 193 = m 193 := funext (Fr_cell (o := 193) f1 (by decide) (by decide))
  rw [e_x1]
  show GX T 11 172 4 [(2, 192), (9, 0)] [(0, (if 0 < m 193 9 then 1 else 0))] n1 (RI (fun v m1 => AskR m m1 ∧ (¬ 0 < m 193 9 → v = -2) ∧ ∀ k : Nat, m 193 1 = (k : Int) → 0 < m 193 9 → FirstOf k (fun h => m1 201 h = 4) v))
  show GX T 11 172 4 [(2, 192), (9, 0)] [(0, (if 0 < m 193 9 then 1 else 0))] n1 (RI (fun v m1 => AskR m m1 ∧ (¬ 0 < m 193 9 → v = -2) ∧ ∀ k : Nat, m 193 1 = (k : Int) → 0 < m 193 9 → FirstOf k (fun h => m1 201 h = 4) v))
  refine gx_i0 (P := 0 < m 193 9) r_172_4 (b01_ne) (fun h4 => ?_) (fun h4 => ?_)
  · refine gx_st (L' := [(2, 192), (9, 0)]) (S' := [(0, 0)]) r_172_10 rfl rfl rfl ?_
    refine gx_st (L' := [(2, 192), (0, 0)]) (S' := []) r_172_11 rfl rfl rfl ?_
    have b1 := gb_193_1 hm
    refine gx_imp (gx_d (hr_l hT hp1 (n := (m 193 1).toNat) (by rw [e193]; omega) (by omega) ((m 193 1).toNat + 1) 0 (by omega) (by omega) (fun i hi => absurd hi (Nat.not_lt_zero _))) (by decide)) (fun v m1 ⟨x, e, p, q⟩ => ?_)
    subst q
    exact ⟨x, e, ak, fun z => absurd h4 z, fun k e2 z => by rw [show k = (m 193 1).toNat by omega]; exact p⟩
  · refine gx_st (L' := [(2, 192), (9, 0)]) (S' := [(0, (-2))]) r_172_7 rfl rfl rfl ?_
    exact gx_rt r_172_9 rfl rfl ⟨_, rfl, ak, fun _ => rfl, fun k e z => absurd z h4⟩
theorem wo_l (hT : TT T) (hp : PinR m) {n : Nat} (hn : m 4 8 = (n : Int)) (hn5 : n ≤ 5) : ∀ (N k : Nat) (x4 : AV), n - k < N → k ≤ n → GX T 1 26 19 [(2, 1), (0, ((mostW (fun b => m 40 b) k).1)), (0, ((mostW (fun b => m 40 b) k).2)), (0, (k : Int)), x4] [] m (RI (fun v m1 => v = (mostW (fun b => m 40 b) n).1 ∧ m1 = m)) := by
  intro N
  induction N with
  | zero => intro k x4 hN; exact absurd hN (Nat.not_lt_zero _)
  | succ N ih =>
    intro k x4 hN hk
    refine gx_st (L' := [(2, 1), (0, ((mostW (fun b => m 40 b) k).1)), (0, ((mostW (fun b => m 40 b) k).2)), (0, (k : Int)), x4]) (S' := [(0, (k : Int))]) r_26_19 rfl rfl rfl ?_
    refine gx_st (L' := [(2, 1), (0, ((mostW (fun b => m 40 b) k).1)), (0, ((mostW (fun b => m 40 b) k).2)), (0, (k : Int)), x4]) (S' := [(2, 1), (0, (k : Int))]) r_26_20 rfl rfl rfl ?_
    refine gx_gf (x := 4) 2 r_26_21 (rfl) (ty_1 hT) ⟨by decide, rfl, by decide, by decide⟩ rfl (fun _ => by omega) (pin_at hp (t := 4) rfl (by decide)) ?_
    refine gx_gf (x := (n : Int)) 0 r_26_24 (rfl) (ty_4 hT) ⟨by decide, rfl, by decide, by decide⟩ rfl (fun z => absurd z (by decide)) (hn) ?_
    refine gx_ic (P := (n : Int) ≤ (k : Int)) r_26_27 (rfl) (fun h27 => ?_) (fun h27 => ?_)
    · refine gx_st (L' := [(2, 1), (0, ((mostW (fun b => m 40 b) k).1)), (0, ((mostW (fun b => m 40 b) k).2)), (0, (k : Int)), x4]) (S' := [(0, ((mostW (fun b => m 40 b) k).1))]) r_26_60 rfl rfl rfl ?_
      have hkn : k = n := by omega
      subst hkn
      exact gx_rt r_26_61 rfl rfl ⟨_, rfl, rfl, rfl⟩
    · refine gx_st (L' := [(2, 1), (0, ((mostW (fun b => m 40 b) k).1)), (0, ((mostW (fun b => m 40 b) k).2)), (0, (k : Int)), x4]) (S' := [(2, 1)]) r_26_30 rfl rfl rfl ?_
      refine gx_gf (x := 28) 2 r_26_31 (rfl) (ty_1 hT) ⟨by decide, rfl, by decide, by decide⟩ rfl (fun _ => by omega) (pin_at hp (t := 28) rfl (by decide)) ?_
      refine gx_gf (x := 40) 2 r_26_34 (rfl) (ty_28 hT) ⟨by decide, rfl, by decide, by decide⟩ rfl (fun _ => by omega) (pin_at hp (t := 40) rfl (by decide)) ?_
      refine gx_st (L' := [(2, 1), (0, ((mostW (fun b => m 40 b) k).1)), (0, ((mostW (fun b => m 40 b) k).2)), (0, (k : Int)), x4]) (S' := [(0, (k : Int)), (2, 40)]) r_26_37 rfl rfl rfl ?_
      refine gx_ci (nx := 41) (S2 := []) (c_237 (r := 40) (n := 5) (ty_40 hT) (by decide) (by decide) (k := k) (by omega)) r_26_38 rfl rfl rfl rfl rfl rfl rfl (by decide) rfl (fun x38 n38 q38 => ?_)
      obtain rfl := q38.1.symm
      obtain rfl := q38.2.symm
      show GX T 1 26 41 [(2, 1), (0, ((mostW (fun b => m 40 b) k).1)), (0, ((mostW (fun b => m 40 b) k).2)), (0, (k : Int)), x4] [(0, (m 40 k))] m (RI (fun v m1 => v = (mostW (fun b => m 40 b) n).1 ∧ m1 = m))
      refine gx_st (L' := [(2, 1), (0, ((mostW (fun b => m 40 b) k).1)), (0, ((mostW (fun b => m 40 b) k).2)), (0, (k : Int)), (0, (m 40 k))]) (S' := []) r_26_41 rfl rfl rfl ?_
      refine gx_st (L' := [(2, 1), (0, ((mostW (fun b => m 40 b) k).1)), (0, ((mostW (fun b => m 40 b) k).2)), (0, (k : Int)), (0, (m 40 k))]) (S' := [(0, (m 40 k))]) r_26_43 rfl rfl rfl ?_
      refine gx_st (L' := [(2, 1), (0, ((mostW (fun b => m 40 b) k).1)), (0, ((mostW (fun b => m 40 b) k).2)), (0, (k : Int)), (0, (m 40 k))]) (S' := [(0, ((mostW (fun b => m 40 b) k).2)), (0, (m 40 k))]) r_26_45 rfl rfl rfl ?_
      refine gx_ic (P := (m 40 k) ≤ ((mostW (fun b => m 40 b) k).2)) r_26_46 (rfl) (fun h46 => ?_) (fun h46 => ?_)
      · refine gx_li (z := (k : Int) + 1) (L' := [(2, 1), (0, ((mostW (fun b => m 40 b) k).1)), (0, ((mostW (fun b => m 40 b) k).2)), (0, (k : Int) + 1), (0, (m 40 k))]) r_26_54 rfl (w32_eq (by omega) (by omega) (by omega)) rfl ?_
        refine gx_st (L' := [(2, 1), (0, ((mostW (fun b => m 40 b) k).1)), (0, ((mostW (fun b => m 40 b) k).2)), (0, (k : Int) + 1), (0, (m 40 k))]) (S' := []) r_26_57 rfl rfl rfl ?_
        rw [show (k : Int) + 1 = ((k + 1 : Nat) : Int) from rfl]
        have z := ih (k + 1) (0, (m 40 k)) (by omega) (by omega)
        rw [mostW_n (show ¬ (mostW (fun b => m 40 b) k).2 < m 40 k by omega)] at z
        exact z
      · refine gx_st (L' := [(2, 1), (0, ((mostW (fun b => m 40 b) k).1)), (0, ((mostW (fun b => m 40 b) k).2)), (0, (k : Int)), (0, (m 40 k))]) (S' := [(0, (m 40 k))]) r_26_49 rfl rfl rfl ?_
        refine gx_st (L' := [(2, 1), (0, ((mostW (fun b => m 40 b) k).1)), (0, (m 40 k)), (0, (k : Int)), (0, (m 40 k))]) (S' := []) r_26_51 rfl rfl rfl ?_
        refine gx_st (L' := [(2, 1), (0, ((mostW (fun b => m 40 b) k).1)), (0, (m 40 k)), (0, (k : Int)), (0, (m 40 k))]) (S' := [(0, (k : Int))]) r_26_52 rfl rfl rfl ?_
        refine gx_st (L' := [(2, 1), (0, (k : Int)), (0, (m 40 k)), (0, (k : Int)), (0, (m 40 k))]) (S' := []) r_26_53 rfl rfl rfl ?_
        refine gx_li (z := (k : Int) + 1) (L' := [(2, 1), (0, (k : Int)), (0, (m 40 k)), (0, (k : Int) + 1), (0, (m 40 k))]) r_26_54 rfl (w32_eq (by omega) (by omega) (by omega)) rfl ?_
        refine gx_st (L' := [(2, 1), (0, (k : Int)), (0, (m 40 k)), (0, (k : Int) + 1), (0, (m 40 k))]) (S' := []) r_26_57 rfl rfl rfl ?_
        rw [show (k : Int) + 1 = ((k + 1 : Nat) : Int) from rfl]
        have z := ih (k + 1) (0, (m 40 k)) (by omega) (by omega)
        rw [mostW_y (show (mostW (fun b => m 40 b) k).2 < m 40 k by omega)] at z
        exact z
theorem wr_l (hT : TT T) (hp : PinR m) {n : Nat} (hn : m 193 7 = (n : Int)) (hn5 : n ≤ 5) : ∀ (N k : Nat), n - k < N → k ≤ n → GX T 0 162 16 [(2, 192), (0, ((mostW (fun b => m 204 b) k).1)), (0, ((mostW (fun b => m 204 b) k).2)), (0, (k : Int))] [] m (RI (fun v m1 => v = (mostW (fun b => m 204 b) n).1 ∧ m1 = m)) := by
  intro N
  induction N with
  | zero => intro k hN; exact absurd hN (Nat.not_lt_zero _)
  | succ N ih =>
    intro k hN hk
    refine gx_st (L' := [(2, 192), (0, ((mostW (fun b => m 204 b) k).1)), (0, ((mostW (fun b => m 204 b) k).2)), (0, (k : Int))]) (S' := [(0, (k : Int))]) r_162_16 rfl rfl rfl ?_
    refine gx_st (L' := [(2, 192), (0, ((mostW (fun b => m 204 b) k).1)), (0, ((mostW (fun b => m 204 b) k).2)), (0, (k : Int))]) (S' := [(2, 192), (0, (k : Int))]) r_162_17 rfl rfl rfl ?_
    refine gx_gf (x := 193) 2 r_162_18 (rfl) (ty_192 hT) ⟨by decide, rfl, by decide, by decide⟩ rfl (fun _ => by omega) (pin_at hp (t := 193) rfl (by decide)) ?_
    refine gx_st (L' := [(2, 192), (0, ((mostW (fun b => m 204 b) k).1)), (0, ((mostW (fun b => m 204 b) k).2)), (0, (k : Int))]) (S' := [(0, 7), (2, 193), (0, (k : Int))]) r_162_21 rfl rfl rfl ?_
    refine gx_ia (n := 7) (x := (n : Int)) r_162_23 (rfl) (ty_193 hT) (rfl) ⟨rfl, by decide⟩ (hn) ?_
    refine gx_ic (P := (n : Int) ≤ (k : Int)) r_162_24 (rfl) (fun h24 => ?_) (fun h24 => ?_)
    · refine gx_st (L' := [(2, 192), (0, ((mostW (fun b => m 204 b) k).1)), (0, ((mostW (fun b => m 204 b) k).2)), (0, (k : Int))]) (S' := [(0, ((mostW (fun b => m 204 b) k).1))]) r_162_55 rfl rfl rfl ?_
      have hkn : k = n := by omega
      subst hkn
      exact gx_rt r_162_56 rfl rfl ⟨_, rfl, rfl, rfl⟩
    · refine gx_st (L' := [(2, 192), (0, ((mostW (fun b => m 204 b) k).1)), (0, ((mostW (fun b => m 204 b) k).2)), (0, (k : Int))]) (S' := [(2, 192)]) r_162_27 rfl rfl rfl ?_
      refine gx_gf (x := 204) 2 r_162_28 (rfl) (ty_192 hT) ⟨by decide, rfl, by decide, by decide⟩ rfl (fun _ => by omega) (pin_at hp (t := 204) rfl (by decide)) ?_
      refine gx_st (L' := [(2, 192), (0, ((mostW (fun b => m 204 b) k).1)), (0, ((mostW (fun b => m 204 b) k).2)), (0, (k : Int))]) (S' := [(0, (k : Int)), (2, 204)]) r_162_31 rfl rfl rfl ?_
      refine gx_ia (n := k) (x := (m 204 k)) r_162_32 (rfl) (ty_204 hT) (by omega) ⟨rfl, by omega⟩ (rfl) ?_
      refine gx_st (L' := [(2, 192), (0, ((mostW (fun b => m 204 b) k).1)), (0, ((mostW (fun b => m 204 b) k).2)), (0, (k : Int))]) (S' := [(0, ((mostW (fun b => m 204 b) k).2)), (0, (m 204 k))]) r_162_33 rfl rfl rfl ?_
      refine gx_ic (P := ((mostW (fun b => m 204 b) k).2) < (m 204 k)) r_162_34 (rfl) (fun h34 => ?_) (fun h34 => ?_)
      · refine gx_st (L' := [(2, 192), (0, ((mostW (fun b => m 204 b) k).1)), (0, ((mostW (fun b => m 204 b) k).2)), (0, (k : Int))]) (S' := [(2, 192)]) r_162_40 rfl rfl rfl ?_
        refine gx_gf (x := 204) 2 r_162_41 (rfl) (ty_192 hT) ⟨by decide, rfl, by decide, by decide⟩ rfl (fun _ => by omega) (pin_at hp (t := 204) rfl (by decide)) ?_
        refine gx_st (L' := [(2, 192), (0, ((mostW (fun b => m 204 b) k).1)), (0, ((mostW (fun b => m 204 b) k).2)), (0, (k : Int))]) (S' := [(0, (k : Int)), (2, 204)]) r_162_44 rfl rfl rfl ?_
        refine gx_ia (n := k) (x := (m 204 k)) r_162_45 (rfl) (ty_204 hT) (by omega) ⟨rfl, by omega⟩ (rfl) ?_
        refine gx_st (L' := [(2, 192), (0, ((mostW (fun b => m 204 b) k).1)), (0, (m 204 k)), (0, (k : Int))]) (S' := []) r_162_46 rfl rfl rfl ?_
        refine gx_st (L' := [(2, 192), (0, ((mostW (fun b => m 204 b) k).1)), (0, (m 204 k)), (0, (k : Int))]) (S' := [(0, (k : Int))]) r_162_47 rfl rfl rfl ?_
        refine gx_st (L' := [(2, 192), (0, (k : Int)), (0, (m 204 k)), (0, (k : Int))]) (S' := []) r_162_48 rfl rfl rfl ?_
        refine gx_li (z := (k : Int) + 1) (L' := [(2, 192), (0, (k : Int)), (0, (m 204 k)), (0, (k : Int) + 1)]) r_162_49 rfl (w32_eq (by omega) (by omega) (by omega)) rfl ?_
        refine gx_st (L' := [(2, 192), (0, (k : Int)), (0, (m 204 k)), (0, (k : Int) + 1)]) (S' := []) r_162_52 rfl rfl rfl ?_
        rw [show (k : Int) + 1 = ((k + 1 : Nat) : Int) from rfl]
        have z := ih (k + 1) (by omega) (by omega)
        rw [mostW_y (show (mostW (fun b => m 204 b) k).2 < m 204 k by omega)] at z
        exact z
      · refine gx_st (L' := [(2, 192), (0, ((mostW (fun b => m 204 b) k).1)), (0, ((mostW (fun b => m 204 b) k).2)), (0, (k : Int))]) (S' := []) r_162_37 rfl rfl rfl ?_
        refine gx_li (z := (k : Int) + 1) (L' := [(2, 192), (0, ((mostW (fun b => m 204 b) k).1)), (0, ((mostW (fun b => m 204 b) k).2)), (0, (k : Int) + 1)]) r_162_49 rfl (w32_eq (by omega) (by omega) (by omega)) rfl ?_
        refine gx_st (L' := [(2, 192), (0, ((mostW (fun b => m 204 b) k).1)), (0, ((mostW (fun b => m 204 b) k).2)), (0, (k : Int) + 1)]) (S' := []) r_162_52 rfl rfl rfl ?_
        rw [show (k : Int) + 1 = ((k + 1 : Nat) : Int) from rfl]
        have z := ih (k + 1) (by omega) (by omega)
        rw [mostW_n (show ¬ (mostW (fun b => m 204 b) k).2 < m 204 k by omega)] at z
        exact z
theorem z_26 (hT : TT T) (hp : PinR m) (h5 : 0 ≤ m 4 8 ∧ m 4 8 ≤ 5) : GX T 2 26 0 [(2, 1), (9, 0), (9, 0), (9, 0), (9, 0)] [] m (RI (fun v m1 => (¬ 0 < m 4 0 → v = -2) ∧ ∀ k : Nat, m 4 8 = (k : Int) → 0 < m 4 0 → v = (mostW (fun b => m 40 b) k).1)) := by
  refine gx_st (L' := [(2, 1), (9, 0), (9, 0), (9, 0), (9, 0)]) (S' := [(2, 1)]) r_26_0 rfl rfl rfl ?_
  refine gx_gf (x := 4) 2 r_26_1 (rfl) (ty_1 hT) ⟨by decide, rfl, by decide, by decide⟩ rfl (fun _ => by omega) (pin_at hp (t := 4) rfl (by decide)) ?_
  refine gx_ci (nx := 7) (S2 := []) (x_252 hT) r_26_4 rfl rfl rfl rfl rfl (rcv_v rfl (ty_4 hT) (by decide) rfl (by decide)) rfl (by decide) rfl (fun x4 n4 q4 => ?_)
  obtain rfl := q4.1.symm
  obtain rfl := q4.2.symm
  show GX T 2 26 7 [(2, 1), (9, 0), (9, 0), (9, 0), (9, 0)] [(0, (if 0 < m 4 0 then 1 else 0))] m (RI (fun v m1 => (¬ 0 < m 4 0 → v = -2) ∧ ∀ k : Nat, m 4 8 = (k : Int) → 0 < m 4 0 → v = (mostW (fun b => m 40 b) k).1))
  refine gx_i0 (P := 0 < m 4 0) r_26_7 (b01_ne) (fun h7 => ?_) (fun h7 => ?_)
  · refine gx_st (L' := [(2, 1), (9, 0), (9, 0), (9, 0), (9, 0)]) (S' := [(0, (-1))]) r_26_13 rfl rfl rfl ?_
    refine gx_st (L' := [(2, 1), (0, (-1)), (9, 0), (9, 0), (9, 0)]) (S' := []) r_26_14 rfl rfl rfl ?_
    refine gx_st (L' := [(2, 1), (0, (-1)), (9, 0), (9, 0), (9, 0)]) (S' := [(0, 0)]) r_26_15 rfl rfl rfl ?_
    refine gx_st (L' := [(2, 1), (0, (-1)), (0, 0), (9, 0), (9, 0)]) (S' := []) r_26_16 rfl rfl rfl ?_
    refine gx_st (L' := [(2, 1), (0, (-1)), (0, 0), (9, 0), (9, 0)]) (S' := [(0, 0)]) r_26_17 rfl rfl rfl ?_
    refine gx_st (L' := [(2, 1), (0, (-1)), (0, 0), (0, 0), (9, 0)]) (S' := []) r_26_18 rfl rfl rfl ?_
    exact gx_imp (gx_d (wo_l hT hp (n := (m 4 8).toNat) (by omega) (by omega) ((m 4 8).toNat + 1) 0 _ (by omega) (by omega)) (by decide)) (fun v m1 ⟨x, e, p, q⟩ => ⟨x, e, fun z => absurd h7 z, fun k e2 z => by rw [show k = (m 4 8).toNat by omega]; exact p⟩)
  · refine gx_st (L' := [(2, 1), (9, 0), (9, 0), (9, 0), (9, 0)]) (S' := [(0, (-2))]) r_26_10 rfl rfl rfl ?_
    exact gx_rt r_26_12 rfl rfl ⟨_, rfl, fun _ => rfl, fun k e z => absurd z h7⟩
theorem y_162 (hT : TT T) (h136 : ConH T cn_136) (hp : PinR m) (hm : Gam m) (hx : Ext m) (wb : WB (pw (m 193))) (wp : WP (pw (m 193))) : GX T 11 162 0 [(2, 192), (9, 0), (9, 0), (9, 0)] [] m (RI (fun v m1 => AskR m m1 ∧ (¬ 0 < m 193 9 → v = -2) ∧ ∀ k : Nat, m 193 7 = (k : Int) → 0 < m 193 9 → v = (mostW (fun b => m1 204 b) k).1)) := by
  refine gx_st (L' := [(2, 192), (9, 0), (9, 0), (9, 0)]) (S' := [(2, 192)]) r_162_0 rfl rfl rfl ?_
  refine gx_ci (nx := 4) (S2 := []) (y_146 hT h136 hp hm hx wb wp) r_162_1 rfl rfl rfl rfl rfl (rcv_v rfl (ty_192 hT) (by decide) rfl (by decide)) rfl (by decide) rfl (fun x1 n1 q1 => ?_)
  obtain ⟨e_x1, ak, hp1, gm1, gx1, f1, fs1⟩ := q1
  have e193 : n1 193 = m 193 := funext (Fr_cell (o := 193) f1 (by decide) (by decide))
  rw [e_x1]
  show GX T 11 162 4 [(2, 192), (9, 0), (9, 0), (9, 0)] [(0, (if 0 < m 193 9 then 1 else 0))] n1 (RI (fun v m1 => AskR m m1 ∧ (¬ 0 < m 193 9 → v = -2) ∧ ∀ k : Nat, m 193 7 = (k : Int) → 0 < m 193 9 → v = (mostW (fun b => m1 204 b) k).1))
  show GX T 11 162 4 [(2, 192), (9, 0), (9, 0), (9, 0)] [(0, (if 0 < m 193 9 then 1 else 0))] n1 (RI (fun v m1 => AskR m m1 ∧ (¬ 0 < m 193 9 → v = -2) ∧ ∀ k : Nat, m 193 7 = (k : Int) → 0 < m 193 9 → v = (mostW (fun b => m1 204 b) k).1))
  refine gx_i0 (P := 0 < m 193 9) r_162_4 (b01_ne) (fun h4 => ?_) (fun h4 => ?_)
  · refine gx_st (L' := [(2, 192), (9, 0), (9, 0), (9, 0)]) (S' := [(0, (-1))]) r_162_10 rfl rfl rfl ?_
    refine gx_st (L' := [(2, 192), (0, (-1)), (9, 0), (9, 0)]) (S' := []) r_162_11 rfl rfl rfl ?_
    refine gx_st (L' := [(2, 192), (0, (-1)), (9, 0), (9, 0)]) (S' := [(0, 0)]) r_162_12 rfl rfl rfl ?_
    refine gx_st (L' := [(2, 192), (0, (-1)), (0, 0), (9, 0)]) (S' := []) r_162_13 rfl rfl rfl ?_
    refine gx_st (L' := [(2, 192), (0, (-1)), (0, 0), (9, 0)]) (S' := [(0, 0)]) r_162_14 rfl rfl rfl ?_
    refine gx_st (L' := [(2, 192), (0, (-1)), (0, 0), (0, 0)]) (S' := []) r_162_15 rfl rfl rfl ?_
    have b7 := gb_193_7 hm
    refine gx_imp (gx_d (wr_l hT hp1 (n := (m 193 7).toNat) (by rw [e193]; omega) (by omega) ((m 193 7).toNat + 1) 0 (by omega) (by omega)) (by decide)) (fun v m1 ⟨x, e, p, q⟩ => ?_)
    subst q
    exact ⟨x, e, ak, fun z => absurd h4 z, fun k e2 z => by rw [show k = (m 193 7).toNat by omega]; exact p⟩
  · refine gx_st (L' := [(2, 192), (9, 0), (9, 0), (9, 0)]) (S' := [(0, (-2))]) r_162_7 rfl rfl rfl ?_
    exact gx_rt r_162_9 rfl rfl ⟨_, rfl, ak, fun _ => rfl, fun k e z => absurd z h4⟩
end SUMS2
/-- what is counted, within its bounds -/
theorem wa_s2 {m : Mm} (hm : Gam m) (r : WX m) : (0 ≤ m 4 1 ∧ m 4 1 ≤ 7) ∧ (0 ≤ m 4 2 ∧ m 4 2 ≤ 12) ∧ (0 ≤ m 4 6 ∧ m 4 6 ≤ 5) ∧ (0 ≤ m 4 7 ∧ m 4 7 ≤ 3) ∧ (0 ≤ m 4 8 ∧ m 4 8 ≤ 5) := by
  have b0 := gb_193_0 hm
  have b1 := gb_193_1 hm
  have b5 := gb_193_5 hm
  have b6 := gb_193_6 hm
  have b7 := gb_193_7 hm
  have hd := r.1.1
  have e1 : m 4 1 = m 193 0 := hd.2.1
  have e2 : m 4 2 = m 193 1 := hd.2.2.1
  have e3 : m 4 6 = m 193 5 := hd.2.2.2.2.2.2.1
  have e4 : m 4 7 = m 193 6 := hd.2.2.2.2.2.2.2.1
  have e5 : m 4 8 = m 193 7 := hd.2.2.2.2.2.2.2.2.1
  exact ⟨by omega, by omega, by omega, by omega, by omega⟩
theorem q_30 {m m1 m2 : Mm} {a v1 v2 : Int} (hm : Gam m) (hx : Ext m) (r : WX m) (sx : StoryX m) (e : m1 193 = m 193) (h1 : (¬ (0 < m 4 0 ∧ 0 ≤ a ∧ a ≤ m 4 2) → v1 = -2) ∧ ∀ h k : Nat, a = (h : Int) → m 4 6 = (k : Int) → (0 < m 4 0 ∧ 0 ≤ a ∧ a ≤ m 4 2) → v1 = sumW (fun t => m 36 (5 * h + t)) k) (h2 : AskR m1 m2 ∧ (¬ (0 < m1 193 9 ∧ 0 ≤ a ∧ a ≤ m1 193 1) → v2 = -2) ∧ ∀ h k : Nat, a = (h : Int) → m1 193 5 = (k : Int) → (0 < m1 193 9 ∧ 0 ≤ a ∧ a ≤ m1 193 1) → v2 = sumW (fun t => m2 200 (16 * h + (11 + t))) k) : v1 = v2 := by
  have e40 : m 4 0 = m 193 9 := r.1.1.1
  have e42 : m 4 2 = m 193 1 := r.1.1.2.2.1
  have e46 : m 4 6 = m 193 5 := r.1.1.2.2.2.2.2.2.1
  have b5 := gb_193_5 hm
  obtain ⟨k2, g1, g2⟩ := h2
  rw [e] at g1 g2
  by_cases c : 0 < m 4 0 ∧ 0 ≤ a ∧ a ≤ m 4 2
  · obtain ⟨h, hh⟩ : ∃ i : Nat, a = (i : Int) := ⟨a.toNat, by omega⟩
    obtain ⟨k, hk⟩ : ∃ i : Nat, m 193 5 = (i : Int) := ⟨(m 193 5).toNat, by omega⟩
    rw [h1.2 h k hh (by omega) c, g2 h k hh hk (by omega)]
    obtain ⟨D, A, n, n1, n2, n3, d1, a1, a2, s, p⟩ := ask_two hm hx r sx e k2 c.1
    have w5 : pw (m 193) 5 = m 193 5 := pw_at (by decide) (by decide)
    exact sumW_c k (fun i hi => ((s.1.1 h (by omega)).2.2.2.2 i (by omega) (by omega)).trans ((p.1 h (by omega)).1.2.2 i (by omega) (by omega)).symm)
  · rw [h1.1 c, g1 (by omega)]
theorem q_32 {m m1 m2 : Mm} {v1 v2 : Int} (hm : Gam m) (hx : Ext m) (r : WX m) (sx : StoryX m) (e : m1 193 = m 193) (h1 : (¬ 0 < m 4 0 → v1 = -2) ∧ ∀ k : Nat, m 4 2 = (k : Int) → 0 < m 4 0 → FirstOf k (fun h => m 37 h = 4) v1) (h2 : AskR m1 m2 ∧ (¬ 0 < m1 193 9 → v2 = -2) ∧ ∀ k : Nat, m1 193 1 = (k : Int) → 0 < m1 193 9 → FirstOf k (fun h => m2 201 h = 4) v2) : v1 = v2 := by
  have e40 : m 4 0 = m 193 9 := r.1.1.1
  by_cases c : 0 < m 4 0
  · obtain ⟨D, A, n, n1, n2, n3, d1, a1, a2, s, p⟩ := ask_two hm hx r sx e h2.1 c
    refine FirstOf_eq (h1.2 n n3 c) (h2.2.2 n (by rw [e]; exact n2) (by rw [e]; omega)) (fun h hh => ?_)
    show m 37 h = 4 ↔ m2 201 h = 4
    rw [(s.1.2.1 h hh).1, p.2.1 h hh]
  · rw [h1.1 c, h2.2.1 (by rw [e]; omega)]
theorem q_26 {m m1 m2 : Mm} {v1 v2 : Int} (hm : Gam m) (hx : Ext m) (r : WX m) (sx : StoryX m) (e : m1 193 = m 193) (h1 : (¬ 0 < m 4 0 → v1 = -2) ∧ ∀ k : Nat, m 4 8 = (k : Int) → 0 < m 4 0 → v1 = (mostW (fun b => m 40 b) k).1) (h2 : AskR m1 m2 ∧ (¬ 0 < m1 193 9 → v2 = -2) ∧ ∀ k : Nat, m1 193 7 = (k : Int) → 0 < m1 193 9 → v2 = (mostW (fun b => m2 204 b) k).1) : v1 = v2 := by
  have e40 : m 4 0 = m 193 9 := r.1.1.1
  have e48 : m 4 8 = m 193 7 := r.1.1.2.2.2.2.2.2.2.2.1
  have b7 := gb_193_7 hm
  by_cases c : 0 < m 4 0
  · obtain ⟨k, hk⟩ : ∃ i : Nat, m 193 7 = (i : Int) := ⟨(m 193 7).toNat, by omega⟩
    rw [h1.2 k (by omega) c, h2.2.2 k (by rw [e]; exact hk) (by rw [e]; omega)]
    obtain ⟨D, A, n, n1, n2, n3, d1, a1, a2, s, p⟩ := ask_two hm hx r sx e h2.1 c
    rw [mostW_c k (fun i hi => (s.1.2.2.1 i (by omega)).trans (p.2.2.2.2 i (by omega)).symm)]
  · rw [h1.1 c, h2.2.1 (by rw [e]; omega)]
