/-! what a row of numbers holds: both sides exactly -/
theorem r_227_0 : row 227 0 = some (.bipush 64, 2, 64, 0, 0, 0) := rfl
theorem r_227_2 : row 227 2 = some (.bipush 8, 4, 8, 0, 0, 0) := rfl
theorem r_227_4 : row 227 4 = some (.iload_n 2, 5, 0, 0, 0, 0) := rfl
theorem r_227_5 : row 227 5 = some (.ishl, 6, 0, 0, 0, 0) := rfl
theorem r_227_6 : row 227 6 = some (.isub, 7, 0, 0, 0, 0) := rfl
theorem r_227_7 : row 227 7 = some (.istore_n 3, 8, 0, 0, 0, 0) := rfl
theorem r_227_8 : row 227 8 = some (.lload_n 0, 9, 0, 0, 0, 0) := rfl
theorem r_227_9 : row 227 9 = some (.iload_n 3, 10, 0, 0, 0, 0) := rfl
theorem r_227_10 : row 227 10 = some (.lshl, 11, 0, 0, 0, 0) := rfl
theorem r_227_11 : row 227 11 = some (.iload_n 3, 12, 0, 0, 0, 0) := rfl
theorem r_227_12 : row 227 12 = some (.lshr, 13, 0, 0, 0, 0) := rfl
theorem r_227_13 : row 227 13 = some (.lreturn, 14, 0, 0, 0, 0) := rfl
theorem r_284_0 : row 284 0 = some (.iload_n 1, 1, 0, 0, 0, 0) := rfl
theorem r_284_1 : row 284 1 = some (.ifCond .lt 23, 4, 24, 0, 0, 0) := rfl
theorem r_284_4 : row 284 4 = some (.iload_n 1, 5, 0, 0, 0, 0) := rfl
theorem r_284_5 : row 284 5 = some (.aload_n 0, 6, 0, 0, 0, 0) := rfl
theorem r_284_6 : row 284 6 = some (.getfield 9, 9, 6, 0, 2, 2141) := rfl
theorem r_284_9 : row 284 9 = some (.arraylength, 10, 0, 0, 0, 0) := rfl
theorem r_284_10 : row 284 10 = some (.if_icmp .ge 14, 13, 24, 0, 0, 0) := rfl
theorem r_284_13 : row 284 13 = some (.aload_n 0, 14, 0, 0, 0, 0) := rfl
theorem r_284_14 : row 284 14 = some (.getfield 9, 17, 6, 0, 2, 2141) := rfl
theorem r_284_17 : row 284 17 = some (.iload_n 1, 18, 0, 0, 0, 0) := rfl
theorem r_284_18 : row 284 18 = some (.aload_n 0, 19, 0, 0, 0, 0) := rfl
theorem r_284_19 : row 284 19 = some (.lload_n 2, 20, 0, 0, 0, 0) := rfl
theorem r_284_20 : row 284 20 = some (.invokevirtual 22, 23, 285, 1, 0, 5223) := rfl
theorem r_284_23 : row 284 23 = some (.lastore, 24, 0, 0, 0, 0) := rfl
theorem r_284_24 : row 284 24 = some (.return_, 25, 0, 0, 0, 0) := rfl
theorem r_285_0 : row 285 0 = some (.aload_n 0, 1, 0, 0, 0, 0) := rfl
theorem r_285_1 : row 285 1 = some (.getfield 15, 4, 6, 1, 0, 2143) := rfl
theorem r_285_4 : row 285 4 = some (.tableswitch 42 0 2 #[28, 33, 38], 32, 0, 0, 0, 0) := rfl
theorem r_285_32 : row 285 32 = some (.lload_n 1, 33, 0, 0, 0, 0) := rfl
theorem r_285_33 : row 285 33 = some (.l2i, 34, 0, 0, 0, 0) := rfl
theorem r_285_34 : row 285 34 = some (.i2b, 35, 0, 0, 0, 0) := rfl
theorem r_285_35 : row 285 35 = some (.i2l, 36, 0, 0, 0, 0) := rfl
theorem r_285_36 : row 285 36 = some (.lreturn, 37, 0, 0, 0, 0) := rfl
theorem r_285_37 : row 285 37 = some (.lload_n 1, 38, 0, 0, 0, 0) := rfl
theorem r_285_38 : row 285 38 = some (.l2i, 39, 0, 0, 0, 0) := rfl
theorem r_285_39 : row 285 39 = some (.i2s, 40, 0, 0, 0, 0) := rfl
theorem r_285_40 : row 285 40 = some (.i2l, 41, 0, 0, 0, 0) := rfl
theorem r_285_41 : row 285 41 = some (.lreturn, 42, 0, 0, 0, 0) := rfl
theorem r_285_42 : row 285 42 = some (.lload_n 1, 43, 0, 0, 0, 0) := rfl
theorem r_285_43 : row 285 43 = some (.l2i, 44, 0, 0, 0, 0) := rfl
theorem r_285_44 : row 285 44 = some (.i2l, 45, 0, 0, 0, 0) := rfl
theorem r_285_45 : row 285 45 = some (.lreturn, 46, 0, 0, 0, 0) := rfl
theorem r_285_46 : row 285 46 = some (.lload_n 1, 47, 0, 0, 0, 0) := rfl
theorem r_285_47 : row 285 47 = some (.lreturn, 48, 0, 0, 0, 0) := rfl
def cutW (w v : Int) : Int := if w = 0 then (v + 128) % 256 - 128 else if w = 1 then (v + 32768) % 65536 - 32768 else if w = 2 then (v + 2147483648) % 4294967296 - 2147483648 else v
theorem bm8 (x : Int) : x.bmod 256 = (x + 128) % 256 - 128 := by
  rw [Int.bmod_def]
  split <;> omega
theorem bm16 (x : Int) : x.bmod 65536 = (x + 32768) % 65536 - 32768 := by
  rw [Int.bmod_def]
  split <;> omega
theorem bm32 (x : Int) : x.bmod 4294967296 = (x + 2147483648) % 4294967296 - 2147483648 := by
  rw [Int.bmod_def]
  split <;> omega
theorem bm64 (x : Int) : x.bmod 18446744073709551616 = (x + 9223372036854775808) % 18446744073709551616 - 9223372036854775808 := by
  rw [Int.bmod_def]
  split <;> omega
theorem cut_0 (v : Int) : b8 (w32 v) = cutW 0 v := by
  unfold b8 w32
  rw [bm8, bm32]
  show _ = (v + 128) % 256 - 128
  omega
theorem cut_1 (v : Int) : b16 (w32 v) = cutW 1 v := by
  unfold b16 w32
  rw [bm16, bm32]
  show _ = (v + 32768) % 65536 - 32768
  omega
theorem cut_2 (v : Int) : w32 v = cutW 2 v := by
  unfold w32
  rw [bm32]
  rfl
theorem lshl_k (v : Int) (k : Nat) (hk : k < 64) (e : ((Int32.ofInt (k : Int)).toInt64 &&& 63).toBitVec.smod 64 = BitVec.ofNat 64 k) : lshl v (k : Int) = (v * (2 ^ k : Int)).bmod 18446744073709551616 := by
  show (Int64.ofInt v <<< ((Int32.ofInt (k : Int)).toInt64 &&& 63)).toBitVec.toInt = _
  rw [Int64.toBitVec_shiftLeft, e, Int64.toBitVec_ofInt, BitVec.shiftLeft_eq', BitVec.toNat_ofNat, Nat.mod_eq_of_lt (by omega : k < 2 ^ 64), BitVec.toInt_shiftLeft, Nat.shiftLeft_eq]
  show (((BitVec.ofInt 64 v).toNat * 2 ^ k : Nat) : Int).bmod 18446744073709551616 = _
  rw [Int.natCast_mul, BitVec.toNat_ofInt, Int.natCast_pow]
  rw [Int.toNat_of_nonneg (Int.emod_nonneg _ (by decide))]
  show (v % 18446744073709551616 * (2 ^ k)).bmod 18446744073709551616 = _
  exact Int.emod_mul_bmod ..
theorem lshr_k (v : Int) (hv : in64 v) (k : Nat) (hk : k < 64) (e : ((Int32.ofInt (k : Int)).toInt64 &&& 63).toBitVec.smod 64 = BitVec.ofNat 64 k) : lshr v (k : Int) = v / (2 ^ k : Int) := by
  show (Int64.ofInt v >>> ((Int32.ofInt (k : Int)).toInt64 &&& 63)).toBitVec.toInt = _
  rw [Int64.toBitVec_shiftRight, e, Int64.toBitVec_ofInt, BitVec.sshiftRight_eq', BitVec.toNat_ofNat, Nat.mod_eq_of_lt (by omega : k < 2 ^ 64), BitVec.toInt_sshiftRight, BitVec.toInt_ofInt, Int.shiftRight_eq_div_pow]
  show v.bmod 18446744073709551616 / _ = _
  unfold in64 at hv
  rw [bm64, show (v + 9223372036854775808) % 18446744073709551616 - 9223372036854775808 = v by omega]
  rw [Int.natCast_pow]; rfl
theorem ls_0 (v : Int) : lshr (lshl v 56) 56 = cutW 0 v := by
  rw [show lshl v 56 = (v * 72057594037927936).bmod 18446744073709551616 from lshl_k v 56 (by decide) (by decide), bm64]
  rw [show lshr ((v * 72057594037927936 + 9223372036854775808) % 18446744073709551616 - 9223372036854775808) 56 = ((v * 72057594037927936 + 9223372036854775808) % 18446744073709551616 - 9223372036854775808) / 72057594037927936 from lshr_k _ ⟨by omega, by omega⟩ 56 (by decide) (by decide)]
  show _ = (v + 128) % 256 - 128
  omega
theorem ls_1 (v : Int) : lshr (lshl v 48) 48 = cutW 1 v := by
  rw [show lshl v 48 = (v * 281474976710656).bmod 18446744073709551616 from lshl_k v 48 (by decide) (by decide), bm64]
  rw [show lshr ((v * 281474976710656 + 9223372036854775808) % 18446744073709551616 - 9223372036854775808) 48 = ((v * 281474976710656 + 9223372036854775808) % 18446744073709551616 - 9223372036854775808) / 281474976710656 from lshr_k _ ⟨by omega, by omega⟩ 48 (by decide) (by decide)]
  show _ = (v + 32768) % 65536 - 32768
  omega
theorem ls_2 (v : Int) : lshr (lshl v 32) 32 = cutW 2 v := by
  rw [show lshl v 32 = (v * 4294967296).bmod 18446744073709551616 from lshl_k v 32 (by decide) (by decide), bm64]
  rw [show lshr ((v * 4294967296 + 9223372036854775808) % 18446744073709551616 - 9223372036854775808) 32 = ((v * 4294967296 + 9223372036854775808) % 18446744073709551616 - 9223372036854775808) / 4294967296 from lshr_k _ ⟨by omega, by omega⟩ 32 (by decide) (by decide)]
  show _ = (v + 2147483648) % 4294967296 - 2147483648
  omega
theorem ls_3 (v : Int) (hv : in64 v) : lshr (lshl v 0) 0 = cutW 3 v := by
  rw [show lshl v 0 = (v * 1).bmod 18446744073709551616 from lshl_k v 0 (by decide) (by decide), bm64]
  unfold in64 at hv
  rw [show (v * 1 + 9223372036854775808) % 18446744073709551616 - 9223372036854775808 = v by omega]
  rw [show lshr v 0 = v / 1 from lshr_k _ hv 0 (by decide) (by decide)]
  show _ = v
  omega
section HOLD
variable {T : List Kd} {m : Mm}
theorem c_227_0 (v : Int) : GX T 0 227 0 [(1, v), (9, 0), (0, 0), (9, 0)] [] m (RL (fun x m1 => x = cutW 0 v ∧ m1 = m)) := by
  refine gx_st (L' := [(1, v), (9, 0), (0, 0), (9, 0)]) (S' := [(0, 64)]) r_227_0 rfl rfl rfl ?_
  refine gx_st (L' := [(1, v), (9, 0), (0, 0), (9, 0)]) (S' := [(0, 8), (0, 64)]) r_227_2 rfl rfl rfl ?_
  refine gx_st (L' := [(1, v), (9, 0), (0, 0), (9, 0)]) (S' := [(0, 0), (0, 8), (0, 64)]) r_227_4 rfl rfl rfl ?_
  refine gx_st (L' := [(1, v), (9, 0), (0, 0), (9, 0)]) (S' := [(0, (ishl 8 0)), (0, 64)]) r_227_5 rfl rfl rfl ?_
  rw [show (ishl 8 0) = 8 from by decide]
  refine gx_ar (L' := [(1, v), (9, 0), (0, 0), (9, 0)]) (S' := []) (t := 0) (e := w32 (64 - 8)) (z := 56) r_227_6 rfl rfl rfl (w32_eq (by omega) (by omega) (by omega)) ?_
  refine gx_st (L' := [(1, v), (9, 0), (0, 0), (0, 56)]) (S' := []) r_227_7 rfl rfl rfl ?_
  refine gx_st (L' := [(1, v), (9, 0), (0, 0), (0, 56)]) (S' := [(1, v)]) r_227_8 rfl rfl rfl ?_
  refine gx_st (L' := [(1, v), (9, 0), (0, 0), (0, 56)]) (S' := [(0, 56), (1, v)]) r_227_9 rfl rfl rfl ?_
  refine gx_st (L' := [(1, v), (9, 0), (0, 0), (0, 56)]) (S' := [(1, (lshl v 56))]) r_227_10 rfl rfl rfl ?_
  obtain ⟨w10, e_w10⟩ : ∃ z, z = (lshl v 56) := ⟨_, rfl⟩
  have b_w10 : in64 w10 := by rw [e_w10]; exact i64_in _
  rw [← e_w10]
  refine gx_st (L' := [(1, v), (9, 0), (0, 0), (0, 56)]) (S' := [(0, 56), (1, w10)]) r_227_11 rfl rfl rfl ?_
  refine gx_st (L' := [(1, v), (9, 0), (0, 0), (0, 56)]) (S' := [(1, (lshr w10 56))]) r_227_12 rfl rfl rfl ?_
  obtain ⟨w12, e_w12⟩ : ∃ z, z = (lshr w10 56) := ⟨_, rfl⟩
  have b_w12 : in64 w12 := by rw [e_w12]; exact i64_in _
  rw [← e_w12]
  exact gx_rt r_227_13 rfl rfl ⟨_, rfl, by rw [e_w12, e_w10]; exact ls_0 v, rfl⟩
theorem c_227_1 (v : Int) : GX T 0 227 0 [(1, v), (9, 0), (0, 1), (9, 0)] [] m (RL (fun x m1 => x = cutW 1 v ∧ m1 = m)) := by
  refine gx_st (L' := [(1, v), (9, 0), (0, 1), (9, 0)]) (S' := [(0, 64)]) r_227_0 rfl rfl rfl ?_
  refine gx_st (L' := [(1, v), (9, 0), (0, 1), (9, 0)]) (S' := [(0, 8), (0, 64)]) r_227_2 rfl rfl rfl ?_
  refine gx_st (L' := [(1, v), (9, 0), (0, 1), (9, 0)]) (S' := [(0, 1), (0, 8), (0, 64)]) r_227_4 rfl rfl rfl ?_
  refine gx_st (L' := [(1, v), (9, 0), (0, 1), (9, 0)]) (S' := [(0, (ishl 8 1)), (0, 64)]) r_227_5 rfl rfl rfl ?_
  rw [show (ishl 8 1) = 16 from by decide]
  refine gx_ar (L' := [(1, v), (9, 0), (0, 1), (9, 0)]) (S' := []) (t := 0) (e := w32 (64 - 16)) (z := 48) r_227_6 rfl rfl rfl (w32_eq (by omega) (by omega) (by omega)) ?_
  refine gx_st (L' := [(1, v), (9, 0), (0, 1), (0, 48)]) (S' := []) r_227_7 rfl rfl rfl ?_
  refine gx_st (L' := [(1, v), (9, 0), (0, 1), (0, 48)]) (S' := [(1, v)]) r_227_8 rfl rfl rfl ?_
  refine gx_st (L' := [(1, v), (9, 0), (0, 1), (0, 48)]) (S' := [(0, 48), (1, v)]) r_227_9 rfl rfl rfl ?_
  refine gx_st (L' := [(1, v), (9, 0), (0, 1), (0, 48)]) (S' := [(1, (lshl v 48))]) r_227_10 rfl rfl rfl ?_
  obtain ⟨w10, e_w10⟩ : ∃ z, z = (lshl v 48) := ⟨_, rfl⟩
  have b_w10 : in64 w10 := by rw [e_w10]; exact i64_in _
  rw [← e_w10]
  refine gx_st (L' := [(1, v), (9, 0), (0, 1), (0, 48)]) (S' := [(0, 48), (1, w10)]) r_227_11 rfl rfl rfl ?_
  refine gx_st (L' := [(1, v), (9, 0), (0, 1), (0, 48)]) (S' := [(1, (lshr w10 48))]) r_227_12 rfl rfl rfl ?_
  obtain ⟨w12, e_w12⟩ : ∃ z, z = (lshr w10 48) := ⟨_, rfl⟩
  have b_w12 : in64 w12 := by rw [e_w12]; exact i64_in _
  rw [← e_w12]
  exact gx_rt r_227_13 rfl rfl ⟨_, rfl, by rw [e_w12, e_w10]; exact ls_1 v, rfl⟩
theorem c_227_2 (v : Int) : GX T 0 227 0 [(1, v), (9, 0), (0, 2), (9, 0)] [] m (RL (fun x m1 => x = cutW 2 v ∧ m1 = m)) := by
  refine gx_st (L' := [(1, v), (9, 0), (0, 2), (9, 0)]) (S' := [(0, 64)]) r_227_0 rfl rfl rfl ?_
  refine gx_st (L' := [(1, v), (9, 0), (0, 2), (9, 0)]) (S' := [(0, 8), (0, 64)]) r_227_2 rfl rfl rfl ?_
  refine gx_st (L' := [(1, v), (9, 0), (0, 2), (9, 0)]) (S' := [(0, 2), (0, 8), (0, 64)]) r_227_4 rfl rfl rfl ?_
  refine gx_st (L' := [(1, v), (9, 0), (0, 2), (9, 0)]) (S' := [(0, (ishl 8 2)), (0, 64)]) r_227_5 rfl rfl rfl ?_
  rw [show (ishl 8 2) = 32 from by decide]
  refine gx_ar (L' := [(1, v), (9, 0), (0, 2), (9, 0)]) (S' := []) (t := 0) (e := w32 (64 - 32)) (z := 32) r_227_6 rfl rfl rfl (w32_eq (by omega) (by omega) (by omega)) ?_
  refine gx_st (L' := [(1, v), (9, 0), (0, 2), (0, 32)]) (S' := []) r_227_7 rfl rfl rfl ?_
  refine gx_st (L' := [(1, v), (9, 0), (0, 2), (0, 32)]) (S' := [(1, v)]) r_227_8 rfl rfl rfl ?_
  refine gx_st (L' := [(1, v), (9, 0), (0, 2), (0, 32)]) (S' := [(0, 32), (1, v)]) r_227_9 rfl rfl rfl ?_
  refine gx_st (L' := [(1, v), (9, 0), (0, 2), (0, 32)]) (S' := [(1, (lshl v 32))]) r_227_10 rfl rfl rfl ?_
  obtain ⟨w10, e_w10⟩ : ∃ z, z = (lshl v 32) := ⟨_, rfl⟩
  have b_w10 : in64 w10 := by rw [e_w10]; exact i64_in _
  rw [← e_w10]
  refine gx_st (L' := [(1, v), (9, 0), (0, 2), (0, 32)]) (S' := [(0, 32), (1, w10)]) r_227_11 rfl rfl rfl ?_
  refine gx_st (L' := [(1, v), (9, 0), (0, 2), (0, 32)]) (S' := [(1, (lshr w10 32))]) r_227_12 rfl rfl rfl ?_
  obtain ⟨w12, e_w12⟩ : ∃ z, z = (lshr w10 32) := ⟨_, rfl⟩
  have b_w12 : in64 w12 := by rw [e_w12]; exact i64_in _
  rw [← e_w12]
  exact gx_rt r_227_13 rfl rfl ⟨_, rfl, by rw [e_w12, e_w10]; exact ls_2 v, rfl⟩
theorem c_227_3 (v : Int) (hv : in64 v) : GX T 0 227 0 [(1, v), (9, 0), (0, 3), (9, 0)] [] m (RL (fun x m1 => x = cutW 3 v ∧ m1 = m)) := by
  refine gx_st (L' := [(1, v), (9, 0), (0, 3), (9, 0)]) (S' := [(0, 64)]) r_227_0 rfl rfl rfl ?_
  refine gx_st (L' := [(1, v), (9, 0), (0, 3), (9, 0)]) (S' := [(0, 8), (0, 64)]) r_227_2 rfl rfl rfl ?_
  refine gx_st (L' := [(1, v), (9, 0), (0, 3), (9, 0)]) (S' := [(0, 3), (0, 8), (0, 64)]) r_227_4 rfl rfl rfl ?_
  refine gx_st (L' := [(1, v), (9, 0), (0, 3), (9, 0)]) (S' := [(0, (ishl 8 3)), (0, 64)]) r_227_5 rfl rfl rfl ?_
  rw [show (ishl 8 3) = 64 from by decide]
  refine gx_ar (L' := [(1, v), (9, 0), (0, 3), (9, 0)]) (S' := []) (t := 0) (e := w32 (64 - 64)) (z := 0) r_227_6 rfl rfl rfl (w32_eq (by omega) (by omega) (by omega)) ?_
  refine gx_st (L' := [(1, v), (9, 0), (0, 3), (0, 0)]) (S' := []) r_227_7 rfl rfl rfl ?_
  refine gx_st (L' := [(1, v), (9, 0), (0, 3), (0, 0)]) (S' := [(1, v)]) r_227_8 rfl rfl rfl ?_
  refine gx_st (L' := [(1, v), (9, 0), (0, 3), (0, 0)]) (S' := [(0, 0), (1, v)]) r_227_9 rfl rfl rfl ?_
  refine gx_st (L' := [(1, v), (9, 0), (0, 3), (0, 0)]) (S' := [(1, (lshl v 0))]) r_227_10 rfl rfl rfl ?_
  obtain ⟨w10, e_w10⟩ : ∃ z, z = (lshl v 0) := ⟨_, rfl⟩
  have b_w10 : in64 w10 := by rw [e_w10]; exact i64_in _
  rw [← e_w10]
  refine gx_st (L' := [(1, v), (9, 0), (0, 3), (0, 0)]) (S' := [(0, 0), (1, w10)]) r_227_11 rfl rfl rfl ?_
  refine gx_st (L' := [(1, v), (9, 0), (0, 3), (0, 0)]) (S' := [(1, (lshr w10 0))]) r_227_12 rfl rfl rfl ?_
  obtain ⟨w12, e_w12⟩ : ∃ z, z = (lshr w10 0) := ⟨_, rfl⟩
  have b_w12 : in64 w12 := by rw [e_w12]; exact i64_in _
  rw [← e_w12]
  exact gx_rt r_227_13 rfl rfl ⟨_, rfl, by rw [e_w12, e_w10]; exact ls_3 v hv, rfl⟩
theorem c_227 {v w : Int} (hv : in64 v) (hw : 0 ≤ w ∧ w ≤ 3) : GX T 0 227 0 [(1, v), (9, 0), (0, w), (9, 0)] [] m (RL (fun x m1 => x = cutW w v ∧ m1 = m)) := by
  rcases (show w = 0 ∨ w = 1 ∨ w = 2 ∨ w = 3 by omega) with rfl | rfl | rfl | rfl
  · exact c_227_0 v
  · exact c_227_1 v
  · exact c_227_2 v
  · exact c_227_3 v hv
theorem c_285_0 (hT : TT T) {o : Nat} (ho : SlT T o) (v : Int) (hw : m o 1 = 0) : GX T 0 285 0 [(2, (o : Int)), (1, v), (9, 0)] [] m (RL (fun x m1 => x = cutW 0 v ∧ m1 = m)) := by
  have ho0 := ho.1
  refine gx_st (L' := [(2, (o : Int)), (1, v), (9, 0)]) (S' := [(2, (o : Int))]) r_285_0 rfl rfl rfl ?_
  refine gx_gf (x := 0) 0 r_285_1 (rfl) (tsl_0 ho) ⟨by omega, rfl, by decide, by decide⟩ rfl (fun z => absurd z (by decide)) (hw) ?_
  refine gx_st (nx := 32) (L' := [(2, (o : Int)), (1, v), (9, 0)]) (S' := []) r_285_4 rfl rfl rfl ?_
  refine gx_st (L' := [(2, (o : Int)), (1, v), (9, 0)]) (S' := [(1, v)]) r_285_32 rfl rfl rfl ?_
  refine gx_st (L' := [(2, (o : Int)), (1, v), (9, 0)]) (S' := [(0, (w32 v))]) r_285_33 rfl rfl rfl ?_
  refine gx_st (L' := [(2, (o : Int)), (1, v), (9, 0)]) (S' := [(0, (b8 (w32 v)))]) r_285_34 rfl rfl rfl ?_
  refine gx_st (L' := [(2, (o : Int)), (1, v), (9, 0)]) (S' := [(1, (b8 (w32 v)))]) r_285_35 rfl rfl rfl ?_
  exact gx_rt r_285_36 rfl rfl ⟨_, rfl, cut_0 v, rfl⟩
theorem c_285_1 (hT : TT T) {o : Nat} (ho : SlT T o) (v : Int) (hw : m o 1 = 1) : GX T 0 285 0 [(2, (o : Int)), (1, v), (9, 0)] [] m (RL (fun x m1 => x = cutW 1 v ∧ m1 = m)) := by
  have ho0 := ho.1
  refine gx_st (L' := [(2, (o : Int)), (1, v), (9, 0)]) (S' := [(2, (o : Int))]) r_285_0 rfl rfl rfl ?_
  refine gx_gf (x := 1) 0 r_285_1 (rfl) (tsl_0 ho) ⟨by omega, rfl, by decide, by decide⟩ rfl (fun z => absurd z (by decide)) (hw) ?_
  refine gx_st (nx := 37) (L' := [(2, (o : Int)), (1, v), (9, 0)]) (S' := []) r_285_4 rfl rfl rfl ?_
  refine gx_st (L' := [(2, (o : Int)), (1, v), (9, 0)]) (S' := [(1, v)]) r_285_37 rfl rfl rfl ?_
  refine gx_st (L' := [(2, (o : Int)), (1, v), (9, 0)]) (S' := [(0, (w32 v))]) r_285_38 rfl rfl rfl ?_
  refine gx_st (L' := [(2, (o : Int)), (1, v), (9, 0)]) (S' := [(0, (b16 (w32 v)))]) r_285_39 rfl rfl rfl ?_
  refine gx_st (L' := [(2, (o : Int)), (1, v), (9, 0)]) (S' := [(1, (b16 (w32 v)))]) r_285_40 rfl rfl rfl ?_
  exact gx_rt r_285_41 rfl rfl ⟨_, rfl, cut_1 v, rfl⟩
theorem c_285_2 (hT : TT T) {o : Nat} (ho : SlT T o) (v : Int) (hw : m o 1 = 2) : GX T 0 285 0 [(2, (o : Int)), (1, v), (9, 0)] [] m (RL (fun x m1 => x = cutW 2 v ∧ m1 = m)) := by
  have ho0 := ho.1
  refine gx_st (L' := [(2, (o : Int)), (1, v), (9, 0)]) (S' := [(2, (o : Int))]) r_285_0 rfl rfl rfl ?_
  refine gx_gf (x := 2) 0 r_285_1 (rfl) (tsl_0 ho) ⟨by omega, rfl, by decide, by decide⟩ rfl (fun z => absurd z (by decide)) (hw) ?_
  refine gx_st (nx := 42) (L' := [(2, (o : Int)), (1, v), (9, 0)]) (S' := []) r_285_4 rfl rfl rfl ?_
  refine gx_st (L' := [(2, (o : Int)), (1, v), (9, 0)]) (S' := [(1, v)]) r_285_42 rfl rfl rfl ?_
  refine gx_st (L' := [(2, (o : Int)), (1, v), (9, 0)]) (S' := [(0, (w32 v))]) r_285_43 rfl rfl rfl ?_
  refine gx_st (L' := [(2, (o : Int)), (1, v), (9, 0)]) (S' := [(1, (w32 v))]) r_285_44 rfl rfl rfl ?_
  exact gx_rt r_285_45 rfl rfl ⟨_, rfl, cut_2 v, rfl⟩
theorem c_285_3 (hT : TT T) {o : Nat} (ho : SlT T o) (v : Int) (hw : m o 1 = 3) : GX T 0 285 0 [(2, (o : Int)), (1, v), (9, 0)] [] m (RL (fun x m1 => x = cutW 3 v ∧ m1 = m)) := by
  have ho0 := ho.1
  refine gx_st (L' := [(2, (o : Int)), (1, v), (9, 0)]) (S' := [(2, (o : Int))]) r_285_0 rfl rfl rfl ?_
  refine gx_gf (x := 3) 0 r_285_1 (rfl) (tsl_0 ho) ⟨by omega, rfl, by decide, by decide⟩ rfl (fun z => absurd z (by decide)) (hw) ?_
  refine gx_st (nx := 46) (L' := [(2, (o : Int)), (1, v), (9, 0)]) (S' := []) r_285_4 rfl rfl rfl ?_
  refine gx_st (L' := [(2, (o : Int)), (1, v), (9, 0)]) (S' := [(1, v)]) r_285_46 rfl rfl rfl ?_
  exact gx_rt r_285_47 rfl rfl ⟨_, rfl, rfl, rfl⟩
theorem c_285 (hT : TT T) {o : Nat} (ho : SlT T o) (v : Int) (hw : 0 ≤ m o 1 ∧ m o 1 ≤ 3) : GX T 0 285 0 [(2, (o : Int)), (1, v), (9, 0)] [] m (RL (fun x m1 => x = cutW (m o 1) v ∧ m1 = m)) := by
  rcases (show m o 1 = 0 ∨ m o 1 = 1 ∨ m o 1 = 2 ∨ m o 1 = 3 by omega) with h | h | h | h
  · rw [h]; exact c_285_0 hT ho v h
  · rw [h]; exact c_285_1 hT ho v h
  · rw [h]; exact c_285_2 hT ho v h
  · rw [h]; exact c_285_3 hT ho v h
theorem x_284 (hT : TT T) {o : Nat} (ho : SlT T o) (hr : SlR m o) {k : Nat} (hk : k < 60) (v : Int) (hw : 0 ≤ m o 1 ∧ m o 1 ≤ 3) : GX T 1 284 0 [(2, (o : Int)), (0, (k : Int)), (1, v), (9, 0)] [] m (RV (fun m1 => m1 = nu_up m (o + 1) k (cutW (m o 1) v))) := by
  have ho0 := ho.1
  refine gx_st (L' := [(2, (o : Int)), (0, (k : Int)), (1, v), (9, 0)]) (S' := [(0, (k : Int))]) r_284_0 rfl rfl rfl ?_
  refine gx_i0 (P := (k : Int) < 0) r_284_1 (rfl) (fun h1 => ?_) (fun h1 => ?_)
  · exfalso; omega
  · refine gx_st (L' := [(2, (o : Int)), (0, (k : Int)), (1, v), (9, 0)]) (S' := [(0, (k : Int))]) r_284_4 rfl rfl rfl ?_
    refine gx_st (L' := [(2, (o : Int)), (0, (k : Int)), (1, v), (9, 0)]) (S' := [(2, (o : Int)), (0, (k : Int))]) r_284_5 rfl rfl rfl ?_
    refine gx_gf (x := (o : Int) + 1) 2 r_284_6 (rfl) (tsl_0 ho) ⟨by omega, rfl, by decide, by decide⟩ rfl (fun _ => by omega) (hr) ?_
    refine gx_al r_284_9 (by omega) (tsl_1 ho) ⟨by decide, by decide, by decide⟩ ?_
    show GX T 1 284 10 [(2, (o : Int)), (0, (k : Int)), (1, v), (9, 0)] [(0, 60), (0, (k : Int))] m (RV (fun m1 => m1 = nu_up m (o + 1) k (cutW (m o 1) v)))
    refine gx_ic (P := 60 ≤ (k : Int)) r_284_10 (rfl) (fun h10 => ?_) (fun h10 => ?_)
    · exfalso; omega
    · refine gx_st (L' := [(2, (o : Int)), (0, (k : Int)), (1, v), (9, 0)]) (S' := [(2, (o : Int))]) r_284_13 rfl rfl rfl ?_
      refine gx_gf (x := (o : Int) + 1) 2 r_284_14 (rfl) (tsl_0 ho) ⟨by omega, rfl, by decide, by decide⟩ rfl (fun _ => by omega) (hr) ?_
      refine gx_st (L' := [(2, (o : Int)), (0, (k : Int)), (1, v), (9, 0)]) (S' := [(0, (k : Int)), (2, (o : Int) + 1)]) r_284_17 rfl rfl rfl ?_
      refine gx_st (L' := [(2, (o : Int)), (0, (k : Int)), (1, v), (9, 0)]) (S' := [(2, (o : Int)), (0, (k : Int)), (2, (o : Int) + 1)]) r_284_18 rfl rfl rfl ?_
      refine gx_st (L' := [(2, (o : Int)), (0, (k : Int)), (1, v), (9, 0)]) (S' := [(1, v), (2, (o : Int)), (0, (k : Int)), (2, (o : Int) + 1)]) r_284_19 rfl rfl rfl ?_
      refine gx_cl (nx := 23) (S2 := [(0, (k : Int)), (2, (o : Int) + 1)]) (c_285 hT ho v hw) r_284_20 rfl rfl rfl rfl rfl (rcv_v rfl (tsl_0 ho) (by omega) rfl (by decide)) rfl (by decide) rfl (fun x20 n20 q20 => ?_)
      obtain ⟨e_x20, z_x20⟩ := q20
      obtain rfl := z_x20.symm
      rw [e_x20]
      show GX T 1 284 23 [(2, (o : Int)), (0, (k : Int)), (1, v), (9, 0)] [(1, (cutW (m o 1) v)), (0, (k : Int)), (2, (o : Int) + 1)] m (RV (fun m1 => m1 = nu_up m (o + 1) k (cutW (m o 1) v)))
      obtain ⟨m1, e_m1⟩ : ∃ z, z = nu_up m (o + 1) k ((cutW (m o 1) v)) := ⟨_, rfl⟩
      refine gx_ls (n := k) (x := (cutW (m o 1) v)) r_284_23 (by omega) (by omega) (tsl_1 ho) (by omega) ⟨rfl, by omega⟩ e_m1.symm ?_
      exact gx_rt r_284_24 rfl rfl ⟨rfl, e_m1⟩
/-- write of the class: one number, cut -/
def WrC (m m1 : Mm) (a b v : Int) : Prop := (¬ (0 ≤ a ∧ a < 4) → m1 = m) ∧ ∀ i : Nat, i < 4 → a = (i : Int) → (¬ (0 ≤ b ∧ b < m (146 + 2 * i) 2) → m1 = m) ∧ ∀ j : Nat, b = (j : Int) → (j : Int) < m (146 + 2 * i) 2 → m1 = nu_up m (146 + 2 * i + 1) j (cutW (m (146 + 2 * i) 1) v)
/-- write of the reference -/
def WrR (m m1 : Mm) (a b v : Int) : Prop := (¬ (0 ≤ a ∧ a < 4) → m1 = m) ∧ ∀ i : Nat, i < 4 → a = (i : Int) → (¬ (0 ≤ b ∧ b < m 209 i) → m1 = m) ∧ ∀ j : Nat, b = (j : Int) → (j : Int) < m 209 i → m1 = nu_up m 211 (60 * i + j) (cutW (m 210 i) v)
theorem w_69 (hT : TT T) (hm : Gam m) (hp : PinR m) (a b v : Int) (hw : ∀ i : Nat, i < 4 → 0 ≤ m (146 + 2 * i) 1 ∧ m (146 + 2 * i) 1 ≤ 3) : GX T 3 69 0 [(2, 1), (0, a), (0, b), (1, v), (9, 0), (9, 0)] [] m (RI (fun _ m1 => WrC m m1 a b v)) := by
  refine gx_st (L' := [(2, 1), (0, a), (0, b), (1, v), (9, 0), (9, 0)]) (S' := [(0, a)]) r_69_0 rfl rfl rfl ?_
  refine gx_st (L' := [(2, 1), (0, a), (0, b), (1, v), (9, 0), (9, 0)]) (S' := [(2, 1), (0, a)]) r_69_1 rfl rfl rfl ?_
  refine gx_gf (x := 145) 2 r_69_2 (rfl) (ty_1 hT) ⟨by decide, rfl, by decide, by decide⟩ rfl (fun _ => by omega) (pin_at hp (t := 145) rfl (by decide)) ?_
  refine gx_al r_69_5 (rfl) (ty_145 hT) ⟨by decide, by decide, by decide⟩ ?_
  show GX T 3 69 6 [(2, 1), (0, a), (0, b), (1, v), (9, 0), (9, 0)] [(0, 4), (0, a)] m (RI (fun _ m1 => WrC m m1 a b v))
  refine gx_ci (nx := 9) (S2 := []) (x_71 a 4) r_69_6 rfl rfl rfl rfl rfl rfl rfl (by decide) rfl (fun x6 n6 q6 => ?_)
  obtain rfl := q6.1.symm
  obtain rfl := q6.2.symm
  show GX T 3 69 9 [(2, 1), (0, a), (0, b), (1, v), (9, 0), (9, 0)] [(0, (if 0 ≤ a ∧ a < 4 then 1 else 0))] m (RI (fun _ m1 => WrC m m1 a b v))
  refine gx_i0 (P := 0 ≤ a ∧ a < 4) r_69_9 (b01_ne) (fun h9 => ?_) (fun h9 => ?_)
  · obtain ⟨ii, hia⟩ : ∃ i : Nat, a = (i : Int) := ⟨a.toNat, by omega⟩
    have hi : ii < 4 := by omega
    obtain ⟨o, h_o⟩ : ∃ o : Nat, o = 146 + 2 * ii := ⟨_, rfl⟩
    have ho : SlT T o := SlT_of hT (by rw [h_o]; exact (sl_in ii hi).1)
    have hr : SlR m o := SlR_of hp (by rw [h_o]; exact (sl_in ii hi).1)
    have ho0 := ho.1
    have bc := so_2 hm (s := o) ⟨by omega, by omega, by rw [h_o]; exact ty_sl ii hi⟩
    rw [hia]
    refine gx_st (L' := [(2, 1), (0, (ii : Int)), (0, b), (1, v), (9, 0), (9, 0)]) (S' := [(2, 1)]) r_69_15 rfl rfl rfl ?_
    refine gx_gf (x := 145) 2 r_69_16 (rfl) (ty_1 hT) ⟨by decide, rfl, by decide, by decide⟩ rfl (fun _ => by omega) (pin_at hp (t := 145) rfl (by decide)) ?_
    refine gx_st (L' := [(2, 1), (0, (ii : Int)), (0, b), (1, v), (9, 0), (9, 0)]) (S' := [(0, (ii : Int)), (2, 145)]) r_69_19 rfl rfl rfl ?_
    refine gx_aa (n := ii) (x := (o : Int)) r_69_20 (rfl) (by omega) (ty_145 hT) (by omega) ⟨by decide, by decide, by omega⟩ ((by rw [h_o]; exact pin_at hp (sl_in ii hi).2 (by omega))) (by omega) ?_
    refine gx_st (L' := [(2, 1), (0, (ii : Int)), (0, b), (1, v), (9, 0), (2, (o : Int))]) (S' := []) r_69_21 rfl rfl rfl ?_
    refine gx_st (L' := [(2, 1), (0, (ii : Int)), (0, b), (1, v), (9, 0), (2, (o : Int))]) (S' := [(2, (o : Int))]) r_69_23 rfl rfl rfl ?_
    refine gx_gf (x := (m o 2)) 0 r_69_25 (rfl) (tsl_0 ho) ⟨by omega, rfl, by decide, by decide⟩ rfl (fun z => absurd z (by decide)) (rfl) ?_
    refine gx_st (L' := [(2, 1), (0, (ii : Int)), (0, b), (1, v), (9, 0), (2, (o : Int))]) (S' := [(0, (-1)), (0, (m o 2))]) r_69_28 rfl rfl rfl ?_
    refine gx_ic (P := ¬ (m o 2) = (-1)) r_69_29 (rfl) (fun h29 => ?_) (fun h29 => ?_)
    · refine gx_st (L' := [(2, 1), (0, (ii : Int)), (0, b), (1, v), (9, 0), (2, (o : Int))]) (S' := [(0, b)]) r_69_35 rfl rfl rfl ?_
      refine gx_st (L' := [(2, 1), (0, (ii : Int)), (0, b), (1, v), (9, 0), (2, (o : Int))]) (S' := [(2, (o : Int)), (0, b)]) r_69_36 rfl rfl rfl ?_
      refine gx_gf (x := (m o 2)) 0 r_69_38 (rfl) (tsl_0 ho) ⟨by omega, rfl, by decide, by decide⟩ rfl (fun z => absurd z (by decide)) (rfl) ?_
      refine gx_ci (nx := 44) (S2 := []) (x_71 b (m o 2)) r_69_41 rfl rfl rfl rfl rfl rfl rfl (by decide) rfl (fun x41 n41 q41 => ?_)
      obtain rfl := q41.1.symm
      obtain rfl := q41.2.symm
      show GX T 3 69 44 [(2, 1), (0, (ii : Int)), (0, b), (1, v), (9, 0), (2, (o : Int))] [(0, (if 0 ≤ b ∧ b < (m o 2) then 1 else 0))] m (RI (fun _ m1 => WrC m m1 (ii : Int) b v))
      refine gx_i0 (P := 0 ≤ b ∧ b < (m o 2)) r_69_44 (b01_ne) (fun h44 => ?_) (fun h44 => ?_)
      · obtain ⟨j, hj⟩ : ∃ j : Nat, b = (j : Int) := ⟨b.toNat, by omega⟩
        rw [hj]
        refine gx_st (L' := [(2, 1), (0, (ii : Int)), (0, (j : Int)), (1, v), (9, 0), (2, (o : Int))]) (S' := [(2, (o : Int))]) r_69_50 rfl rfl rfl ?_
        refine gx_st (L' := [(2, 1), (0, (ii : Int)), (0, (j : Int)), (1, v), (9, 0), (2, (o : Int))]) (S' := [(0, (j : Int)), (2, (o : Int))]) r_69_52 rfl rfl rfl ?_
        refine gx_st (L' := [(2, 1), (0, (ii : Int)), (0, (j : Int)), (1, v), (9, 0), (2, (o : Int))]) (S' := [(1, v), (0, (j : Int)), (2, (o : Int))]) r_69_53 rfl rfl rfl ?_
        refine gx_cv (nx := 57) (S2 := []) (x_284 hT ho hr (k := j) (by omega) v (by rw [h_o]; exact hw ii hi)) r_69_54 rfl rfl rfl rfl rfl (rcv_v rfl (tsl_0 ho) (by omega) rfl (by decide)) rfl (by decide) rfl (fun n54 q54 => ?_)
        have e_n54 := q54
        refine gx_st (L' := [(2, 1), (0, (ii : Int)), (0, (j : Int)), (1, v), (9, 0), (2, (o : Int))]) (S' := [(0, 0)]) r_69_57 rfl rfl rfl ?_
        refine gx_rt r_69_58 rfl rfl ⟨_, rfl, fun z => by omega, fun i2 hi2 h2 => ?_⟩
        have e : i2 = ii := by omega
        rw [e, ← h_o]
        exact ⟨fun z => by omega, fun j2 hj2 y => by rw [show j2 = j by omega]; exact e_n54⟩
      · refine gx_st (L' := [(2, 1), (0, (ii : Int)), (0, b), (1, v), (9, 0), (2, (o : Int))]) (S' := [(0, (-7))]) r_69_47 rfl rfl rfl ?_
        refine gx_rt r_69_49 rfl rfl ⟨_, rfl, fun z => by omega, fun i2 hi2 h2 => ?_⟩
        have e : i2 = ii := by omega
        rw [e, ← h_o]
        exact ⟨fun _ => rfl, fun j2 hj2 y => by omega⟩
    · have h29 := Decidable.not_not.mp h29
      refine gx_st (L' := [(2, 1), (0, (ii : Int)), (0, b), (1, v), (9, 0), (2, (o : Int))]) (S' := [(0, (-6))]) r_69_32 rfl rfl rfl ?_
      refine gx_rt r_69_34 rfl rfl ⟨_, rfl, fun z => by omega, fun i2 hi2 h2 => ?_⟩
      have e : i2 = ii := by omega
      rw [e, ← h_o]
      exact ⟨fun _ => rfl, fun j2 hj2 y => by omega⟩
  · refine gx_st (L' := [(2, 1), (0, a), (0, b), (1, v), (9, 0), (9, 0)]) (S' := [(0, (-2))]) r_69_12 rfl rfl rfl ?_
    exact gx_rt r_69_14 rfl rfl ⟨_, rfl, fun _ => rfl, fun i2 hi2 h2 => by omega⟩
theorem w_229 (hT : TT T) (hm : Gam m) (hp : PinR m) (a b v : Int) (hv : in64 v) : GX T 2 229 0 [(2, 192), (0, a), (0, b), (1, v), (9, 0)] [] m (RI (fun _ m1 => WrR m m1 a b v)) := by
  refine gx_st (L' := [(2, 192), (0, a), (0, b), (1, v), (9, 0)]) (S' := [(0, a)]) r_229_0 rfl rfl rfl ?_
  refine gx_ci (nx := 4) (S2 := []) (x_226 a) r_229_1 rfl rfl rfl rfl rfl rfl rfl (by decide) rfl (fun x1 n1 q1 => ?_)
  obtain rfl := q1.1.symm
  obtain rfl := q1.2.symm
  show GX T 2 229 4 [(2, 192), (0, a), (0, b), (1, v), (9, 0)] [(0, (if 0 ≤ a ∧ a ≤ 3 then 1 else 0))] m (RI (fun _ m1 => WrR m m1 a b v))
  refine gx_i0 (P := 0 ≤ a ∧ a ≤ 3) r_229_4 (b01_ne) (fun h4 => ?_) (fun h4 => ?_)
  · obtain ⟨ii, hia⟩ : ∃ i : Nat, a = (i : Int) := ⟨a.toNat, by omega⟩
    have hi : ii < 4 := by omega
    have bc := gb_209 hm hi
    have bw := gb_210 hm hi
    rw [hia]
    refine gx_st (L' := [(2, 192), (0, (ii : Int)), (0, b), (1, v), (9, 0)]) (S' := [(2, 192)]) r_229_10 rfl rfl rfl ?_
    refine gx_gf (x := 209) 2 r_229_11 (rfl) (ty_192 hT) ⟨by decide, rfl, by decide, by decide⟩ rfl (fun _ => by omega) (pin_at hp (t := 209) rfl (by decide)) ?_
    refine gx_st (L' := [(2, 192), (0, (ii : Int)), (0, b), (1, v), (9, 0)]) (S' := [(0, (ii : Int)), (2, 209)]) r_229_14 rfl rfl rfl ?_
    refine gx_ia (n := ii) (x := (m 209 ii)) r_229_15 (rfl) (ty_209 hT) (by omega) ⟨rfl, by omega⟩ (rfl) ?_
    refine gx_st (L' := [(2, 192), (0, (ii : Int)), (0, b), (1, v), (9, 0)]) (S' := [(0, (-1)), (0, (m 209 ii))]) r_229_16 rfl rfl rfl ?_
    refine gx_ic (P := ¬ (m 209 ii) = (-1)) r_229_17 (rfl) (fun h17 => ?_) (fun h17 => ?_)
    · refine gx_st (L' := [(2, 192), (0, (ii : Int)), (0, b), (1, v), (9, 0)]) (S' := [(0, b)]) r_229_23 rfl rfl rfl ?_
      refine gx_st (L' := [(2, 192), (0, (ii : Int)), (0, b), (1, v), (9, 0)]) (S' := [(1, b)]) r_229_24 rfl rfl rfl ?_
      refine gx_st (L' := [(2, 192), (0, (ii : Int)), (0, b), (1, v), (9, 0)]) (S' := [(1, 0), (1, b)]) r_229_25 rfl rfl rfl ?_
      refine gx_st (L' := [(2, 192), (0, (ii : Int)), (0, b), (1, v), (9, 0)]) (S' := [(2, 192), (1, 0), (1, b)]) r_229_26 rfl rfl rfl ?_
      refine gx_gf (x := 209) 2 r_229_27 (rfl) (ty_192 hT) ⟨by decide, rfl, by decide, by decide⟩ rfl (fun _ => by omega) (pin_at hp (t := 209) rfl (by decide)) ?_
      refine gx_st (L' := [(2, 192), (0, (ii : Int)), (0, b), (1, v), (9, 0)]) (S' := [(0, (ii : Int)), (2, 209), (1, 0), (1, b)]) r_229_30 rfl rfl rfl ?_
      refine gx_ia (n := ii) (x := (m 209 ii)) r_229_31 (rfl) (ty_209 hT) (by omega) ⟨rfl, by omega⟩ (rfl) ?_
      refine gx_st (L' := [(2, 192), (0, (ii : Int)), (0, b), (1, v), (9, 0)]) (S' := [(0, 1), (0, (m 209 ii)), (1, 0), (1, b)]) r_229_32 rfl rfl rfl ?_
      refine gx_ar (L' := [(2, 192), (0, (ii : Int)), (0, b), (1, v), (9, 0)]) (S' := [(1, 0), (1, b)]) (t := 0) (e := w32 ((m 209 ii) - 1)) (z := (m 209 ii) - 1) r_229_33 rfl rfl rfl (w32_eq (by omega) (by omega) (by omega)) ?_
      refine gx_st (L' := [(2, 192), (0, (ii : Int)), (0, b), (1, v), (9, 0)]) (S' := [(1, (m 209 ii) - 1), (1, 0), (1, b)]) r_229_34 rfl rfl rfl ?_
      refine gx_ci (nx := 38) (S2 := []) (x_86 b 0 ((m 209 ii) - 1)) r_229_35 rfl rfl rfl rfl rfl rfl rfl (by decide) rfl (fun x35 n35 q35 => ?_)
      obtain rfl := q35.1.symm
      obtain rfl := q35.2.symm
      show GX T 2 229 38 [(2, 192), (0, (ii : Int)), (0, b), (1, v), (9, 0)] [(0, (if 0 ≤ b ∧ b ≤ (m 209 ii) - 1 then 1 else 0))] m (RI (fun _ m1 => WrR m m1 (ii : Int) b v))
      refine gx_i0 (P := 0 ≤ b ∧ b ≤ (m 209 ii) - 1) r_229_38 (b01_ne) (fun h38 => ?_) (fun h38 => ?_)
      · obtain ⟨j, hj⟩ : ∃ j : Nat, b = (j : Int) := ⟨b.toNat, by omega⟩
        rw [hj]
        refine gx_st (L' := [(2, 192), (0, (ii : Int)), (0, (j : Int)), (1, v), (9, 0)]) (S' := [(2, 192)]) r_229_44 rfl rfl rfl ?_
        refine gx_gf (x := 211) 2 r_229_45 (rfl) (ty_192 hT) ⟨by decide, rfl, by decide, by decide⟩ rfl (fun _ => by omega) (pin_at hp (t := 211) rfl (by decide)) ?_
        refine gx_st (L' := [(2, 192), (0, (ii : Int)), (0, (j : Int)), (1, v), (9, 0)]) (S' := [(0, 60), (2, 211)]) r_229_48 rfl rfl rfl ?_
        refine gx_st (L' := [(2, 192), (0, (ii : Int)), (0, (j : Int)), (1, v), (9, 0)]) (S' := [(0, (ii : Int)), (0, 60), (2, 211)]) r_229_50 rfl rfl rfl ?_
        refine gx_ar (L' := [(2, 192), (0, (ii : Int)), (0, (j : Int)), (1, v), (9, 0)]) (S' := [(2, 211)]) (t := 0) (e := w32 (60 * (ii : Int))) (z := 60 * (ii : Int)) r_229_51 rfl rfl rfl (w32_eq (by omega) (by omega) (by omega)) ?_
        refine gx_st (L' := [(2, 192), (0, (ii : Int)), (0, (j : Int)), (1, v), (9, 0)]) (S' := [(0, (j : Int)), (0, 60 * (ii : Int)), (2, 211)]) r_229_52 rfl rfl rfl ?_
        refine gx_ar (L' := [(2, 192), (0, (ii : Int)), (0, (j : Int)), (1, v), (9, 0)]) (S' := [(2, 211)]) (t := 0) (e := w32 ((60 * (ii : Int)) + (j : Int))) (z := 60 * (ii : Int) + (j : Int)) r_229_53 rfl rfl rfl (w32_eq (by omega) (by omega) (by omega)) ?_
        refine gx_st (L' := [(2, 192), (0, (ii : Int)), (0, (j : Int)), (1, v), (9, 0)]) (S' := [(1, v), (0, 60 * (ii : Int) + (j : Int)), (2, 211)]) r_229_54 rfl rfl rfl ?_
        refine gx_st (L' := [(2, 192), (0, (ii : Int)), (0, (j : Int)), (1, v), (9, 0)]) (S' := [(2, 192), (1, v), (0, 60 * (ii : Int) + (j : Int)), (2, 211)]) r_229_55 rfl rfl rfl ?_
        refine gx_gf (x := 210) 2 r_229_56 (rfl) (ty_192 hT) ⟨by decide, rfl, by decide, by decide⟩ rfl (fun _ => by omega) (pin_at hp (t := 210) rfl (by decide)) ?_
        refine gx_st (L' := [(2, 192), (0, (ii : Int)), (0, (j : Int)), (1, v), (9, 0)]) (S' := [(0, (ii : Int)), (2, 210), (1, v), (0, 60 * (ii : Int) + (j : Int)), (2, 211)]) r_229_59 rfl rfl rfl ?_
        refine gx_ia (n := ii) (x := (m 210 ii)) r_229_60 (rfl) (ty_210 hT) (by omega) ⟨rfl, by omega⟩ (rfl) ?_
        refine gx_cl (nx := 64) (S2 := [(0, 60 * (ii : Int) + (j : Int)), (2, 211)]) (c_227 hv bw) r_229_61 rfl rfl rfl rfl rfl rfl rfl (by decide) rfl (fun x61 n61 q61 => ?_)
        obtain ⟨e_x61, z_x61⟩ := q61
        obtain rfl := z_x61.symm
        rw [e_x61]
        show GX T 2 229 64 [(2, 192), (0, (ii : Int)), (0, (j : Int)), (1, v), (9, 0)] [(1, (cutW (m 210 ii) v)), (0, 60 * (ii : Int) + (j : Int)), (2, 211)] m (RI (fun _ m1 => WrR m m1 (ii : Int) (j : Int) v))
        obtain ⟨m1, e_m1⟩ : ∃ z, z = nu_up m 211 (60 * ii + j) ((cutW (m 210 ii) v)) := ⟨_, rfl⟩
        refine gx_ls (n := 60 * ii + j) (x := (cutW (m 210 ii) v)) r_229_64 (rfl) (by omega) (ty_211 hT) (by omega) ⟨rfl, by omega⟩ e_m1.symm ?_
        refine gx_st (L' := [(2, 192), (0, (ii : Int)), (0, (j : Int)), (1, v), (9, 0)]) (S' := [(0, 0)]) r_229_65 rfl rfl rfl ?_
        refine gx_rt r_229_66 rfl rfl ⟨_, rfl, fun z => by omega, fun i2 hi2 h2 => ?_⟩
        have e : i2 = ii := by omega
        rw [e]
        exact ⟨fun z => by omega, fun j2 hj2 y => by rw [show j2 = j by omega]; exact e_m1⟩
      · refine gx_st (L' := [(2, 192), (0, (ii : Int)), (0, b), (1, v), (9, 0)]) (S' := [(0, (-7))]) r_229_41 rfl rfl rfl ?_
        refine gx_rt r_229_43 rfl rfl ⟨_, rfl, fun z => by omega, fun i2 hi2 h2 => ?_⟩
        have e : i2 = ii := by omega
        rw [e]
        exact ⟨fun _ => rfl, fun j2 hj2 y => by omega⟩
    · have h17 := Decidable.not_not.mp h17
      refine gx_st (L' := [(2, 192), (0, (ii : Int)), (0, b), (1, v), (9, 0)]) (S' := [(0, (-6))]) r_229_20 rfl rfl rfl ?_
      refine gx_rt r_229_22 rfl rfl ⟨_, rfl, fun z => by omega, fun i2 hi2 h2 => ?_⟩
      have e : i2 = ii := by omega
      rw [e]
      exact ⟨fun _ => rfl, fun j2 hj2 y => by omega⟩
  · refine gx_st (L' := [(2, 192), (0, a), (0, b), (1, v), (9, 0)]) (S' := [(0, (-2))]) r_229_7 rfl rfl rfl ?_
    exact gx_rt r_229_9 rfl rfl ⟨_, rfl, fun _ => rfl, fun i2 hi2 h2 => by omega⟩
/-- paste is done -/
def PstO (s t x y b e f : Int) : Prop := ¬ s = -1 ∧ ¬ t = -1 ∧ x = y ∧ 0 ≤ b ∧ 0 ≤ e ∧ 0 ≤ f ∧ b + f ≤ s ∧ e + f ≤ t
def PaC (m m1 : Mm) (a b c e f : Int) : Prop := ((¬ (0 ≤ a ∧ a < 4) ∨ ¬ (0 ≤ c ∧ c < 4)) → m1 = m) ∧ ∀ i j : Nat, i < 4 → j < 4 → a = (i : Int) → c = (j : Int) → (¬ PstO (m (146 + 2 * i) 2) (m (146 + 2 * j) 2) (m (146 + 2 * i) 1) (m (146 + 2 * j) 1) b e f → m1 = m) ∧ ∀ x y n : Nat, b = (x : Int) → e = (y : Int) → f = (n : Int) → PstO (m (146 + 2 * i) 2) (m (146 + 2 * j) 2) (m (146 + 2 * i) 1) (m (146 + 2 * j) 1) b e f → m1 = cpy m (146 + 2 * i + 1) (146 + 2 * j + 1) x y n
def PaR (m m1 : Mm) (a b c e f : Int) : Prop := ((¬ (0 ≤ a ∧ a < 4) ∨ ¬ (0 ≤ c ∧ c < 4)) → m1 = m) ∧ ∀ i j : Nat, i < 4 → j < 4 → a = (i : Int) → c = (j : Int) → (¬ PstO (m 209 i) (m 209 j) (m 210 i) (m 210 j) b e f → m1 = m) ∧ ∀ x y n : Nat, b = (x : Int) → e = (y : Int) → f = (n : Int) → PstO (m 209 i) (m 209 j) (m 210 i) (m 210 j) b e f → ∀ p k : Nat, ¬ p = 212 → m1 p k = (if p = 211 ∧ 60 * j + y ≤ k ∧ k < 60 * j + y + n then m 211 (60 * i + x + (k - (60 * j + y))) else m p k)
theorem w_70 (hT : TT T) (hm : Gam m) (hp : PinR m) (a b c e f : Int) (hf : f ≤ 2147483647) : GX T 3 70 0 [(2, 1), (0, a), (0, b), (0, c), (0, e), (0, f), (9, 0), (9, 0)] [] m (RI (fun _ m1 => PaC m m1 a b c e f)) := by
  refine gx_st (L' := [(2, 1), (0, a), (0, b), (0, c), (0, e), (0, f), (9, 0), (9, 0)]) (S' := [(0, a)]) r_70_0 rfl rfl rfl ?_
  refine gx_st (L' := [(2, 1), (0, a), (0, b), (0, c), (0, e), (0, f), (9, 0), (9, 0)]) (S' := [(2, 1), (0, a)]) r_70_1 rfl rfl rfl ?_
  refine gx_gf (x := 145) 2 r_70_2 (rfl) (ty_1 hT) ⟨by decide, rfl, by decide, by decide⟩ rfl (fun _ => by omega) (pin_at hp (t := 145) rfl (by decide)) ?_
  refine gx_al r_70_5 (rfl) (ty_145 hT) ⟨by decide, by decide, by decide⟩ ?_
  show GX T 3 70 6 [(2, 1), (0, a), (0, b), (0, c), (0, e), (0, f), (9, 0), (9, 0)] [(0, 4), (0, a)] m (RI (fun _ m1 => PaC m m1 a b c e f))
  refine gx_ci (nx := 9) (S2 := []) (x_71 a 4) r_70_6 rfl rfl rfl rfl rfl rfl rfl (by decide) rfl (fun x6 n6 q6 => ?_)
  obtain rfl := q6.1.symm
  obtain rfl := q6.2.symm
  show GX T 3 70 9 [(2, 1), (0, a), (0, b), (0, c), (0, e), (0, f), (9, 0), (9, 0)] [(0, (if 0 ≤ a ∧ a < 4 then 1 else 0))] m (RI (fun _ m1 => PaC m m1 a b c e f))
  refine gx_i0 (P := ¬ (0 ≤ a ∧ a < 4)) r_70_9 (b01_eq) (fun h9 => ?_) (fun h9 => ?_)
  · refine gx_st (L' := [(2, 1), (0, a), (0, b), (0, c), (0, e), (0, f), (9, 0), (9, 0)]) (S' := [(0, (-2))]) r_70_24 rfl rfl rfl ?_
    exact gx_rt r_70_26 rfl rfl ⟨_, rfl, fun _ => rfl, fun i j h1 h2 h3 h4 => by omega⟩
  · have h9 := Decidable.not_not.mp h9
    refine gx_st (L' := [(2, 1), (0, a), (0, b), (0, c), (0, e), (0, f), (9, 0), (9, 0)]) (S' := [(0, c)]) r_70_12 rfl rfl rfl ?_
    refine gx_st (L' := [(2, 1), (0, a), (0, b), (0, c), (0, e), (0, f), (9, 0), (9, 0)]) (S' := [(2, 1), (0, c)]) r_70_13 rfl rfl rfl ?_
    refine gx_gf (x := 145) 2 r_70_14 (rfl) (ty_1 hT) ⟨by decide, rfl, by decide, by decide⟩ rfl (fun _ => by omega) (pin_at hp (t := 145) rfl (by decide)) ?_
    refine gx_al r_70_17 (rfl) (ty_145 hT) ⟨by decide, by decide, by decide⟩ ?_
    show GX T 3 70 18 [(2, 1), (0, a), (0, b), (0, c), (0, e), (0, f), (9, 0), (9, 0)] [(0, 4), (0, c)] m (RI (fun _ m1 => PaC m m1 a b c e f))
    refine gx_ci (nx := 21) (S2 := []) (x_71 c 4) r_70_18 rfl rfl rfl rfl rfl rfl rfl (by decide) rfl (fun x18 n18 q18 => ?_)
    obtain rfl := q18.1.symm
    obtain rfl := q18.2.symm
    show GX T 3 70 21 [(2, 1), (0, a), (0, b), (0, c), (0, e), (0, f), (9, 0), (9, 0)] [(0, (if 0 ≤ c ∧ c < 4 then 1 else 0))] m (RI (fun _ m1 => PaC m m1 a b c e f))
    refine gx_i0 (P := 0 ≤ c ∧ c < 4) r_70_21 (b01_ne) (fun h21 => ?_) (fun h21 => ?_)
    · obtain ⟨ii, hia⟩ : ∃ i : Nat, a = (i : Int) := ⟨a.toNat, by omega⟩
      obtain ⟨jj, hjc⟩ : ∃ i : Nat, c = (i : Int) := ⟨c.toNat, by omega⟩
      have hi : ii < 4 := by omega
      have hj : jj < 4 := by omega
      obtain ⟨o, h_o⟩ : ∃ o : Nat, o = 146 + 2 * ii := ⟨_, rfl⟩
      obtain ⟨q, h_q⟩ : ∃ o : Nat, o = 146 + 2 * jj := ⟨_, rfl⟩
      have ho : SlT T o := SlT_of hT (by rw [h_o]; exact (sl_in ii hi).1)
      have hq : SlT T q := SlT_of hT (by rw [h_q]; exact (sl_in jj hj).1)
      have hr : SlR m o := SlR_of hp (by rw [h_o]; exact (sl_in ii hi).1)
      have hr2 : SlR m q := SlR_of hp (by rw [h_q]; exact (sl_in jj hj).1)
      have so : SlO o := ⟨by omega, by omega, by rw [h_o]; exact ty_sl ii hi⟩
      have sq : SlO q := ⟨by omega, by omega, by rw [h_q]; exact ty_sl jj hj⟩
      have ho0 := ho.1
      have hq0 := hq.1
      have bo := so_2 hm so
      have bq := so_2 hm sq
      rw [hia, hjc]
      refine gx_st (L' := [(2, 1), (0, (ii : Int)), (0, b), (0, (jj : Int)), (0, e), (0, f), (9, 0), (9, 0)]) (S' := [(2, 1)]) r_70_27 rfl rfl rfl ?_
      refine gx_gf (x := 145) 2 r_70_28 (rfl) (ty_1 hT) ⟨by decide, rfl, by decide, by decide⟩ rfl (fun _ => by omega) (pin_at hp (t := 145) rfl (by decide)) ?_
      refine gx_st (L' := [(2, 1), (0, (ii : Int)), (0, b), (0, (jj : Int)), (0, e), (0, f), (9, 0), (9, 0)]) (S' := [(0, (ii : Int)), (2, 145)]) r_70_31 rfl rfl rfl ?_
      refine gx_aa (n := ii) (x := (o : Int)) r_70_32 (rfl) (by omega) (ty_145 hT) (by omega) ⟨by decide, by decide, by omega⟩ ((by rw [h_o]; exact pin_at hp (sl_in ii hi).2 (by omega))) (by omega) ?_
      refine gx_st (L' := [(2, 1), (0, (ii : Int)), (0, b), (0, (jj : Int)), (0, e), (0, f), (2, (o : Int)), (9, 0)]) (S' := []) r_70_33 rfl rfl rfl ?_
      refine gx_st (L' := [(2, 1), (0, (ii : Int)), (0, b), (0, (jj : Int)), (0, e), (0, f), (2, (o : Int)), (9, 0)]) (S' := [(2, 1)]) r_70_35 rfl rfl rfl ?_
      refine gx_gf (x := 145) 2 r_70_36 (rfl) (ty_1 hT) ⟨by decide, rfl, by decide, by decide⟩ rfl (fun _ => by omega) (pin_at hp (t := 145) rfl (by decide)) ?_
      refine gx_st (L' := [(2, 1), (0, (ii : Int)), (0, b), (0, (jj : Int)), (0, e), (0, f), (2, (o : Int)), (9, 0)]) (S' := [(0, (jj : Int)), (2, 145)]) r_70_39 rfl rfl rfl ?_
      refine gx_aa (n := jj) (x := (q : Int)) r_70_40 (rfl) (by omega) (ty_145 hT) (by omega) ⟨by decide, by decide, by omega⟩ ((by rw [h_q]; exact pin_at hp (sl_in jj hj).2 (by omega))) (by omega) ?_
      refine gx_st (L' := [(2, 1), (0, (ii : Int)), (0, b), (0, (jj : Int)), (0, e), (0, f), (2, (o : Int)), (2, (q : Int))]) (S' := []) r_70_41 rfl rfl rfl ?_
      refine gx_st (L' := [(2, 1), (0, (ii : Int)), (0, b), (0, (jj : Int)), (0, e), (0, f), (2, (o : Int)), (2, (q : Int))]) (S' := [(2, (o : Int))]) r_70_43 rfl rfl rfl ?_
      refine gx_gf (x := (m o 2)) 0 r_70_45 (rfl) (tsl_0 ho) ⟨by omega, rfl, by decide, by decide⟩ rfl (fun z => absurd z (by decide)) (rfl) ?_
      refine gx_st (L' := [(2, 1), (0, (ii : Int)), (0, b), (0, (jj : Int)), (0, e), (0, f), (2, (o : Int)), (2, (q : Int))]) (S' := [(0, (-1)), (0, (m o 2))]) r_70_48 rfl rfl rfl ?_
      refine gx_ic (P := (m o 2) = (-1)) r_70_49 (rfl) (fun h49 => ?_) (fun h49 => ?_)
      · refine gx_st (L' := [(2, 1), (0, (ii : Int)), (0, b), (0, (jj : Int)), (0, e), (0, f), (2, (o : Int)), (2, (q : Int))]) (S' := [(0, (-6))]) r_70_61 rfl rfl rfl ?_
        refine gx_rt r_70_63 rfl rfl ⟨_, rfl, fun z => by omega, fun i2 j2 h1 h2 h3 h4 => ?_⟩
        have ei : i2 = ii := by omega
        have ej : j2 = jj := by omega
        rw [ei, ej, ← h_o, ← h_q]
        exact ⟨fun _ => rfl, fun x y n2 h5 h6 h7 z => by unfold PstO at z; omega⟩
      · refine gx_st (L' := [(2, 1), (0, (ii : Int)), (0, b), (0, (jj : Int)), (0, e), (0, f), (2, (o : Int)), (2, (q : Int))]) (S' := [(2, (q : Int))]) r_70_52 rfl rfl rfl ?_
        refine gx_gf (x := (m q 2)) 0 r_70_54 (rfl) (tsl_0 hq) ⟨by omega, rfl, by decide, by decide⟩ rfl (fun z => absurd z (by decide)) (rfl) ?_
        refine gx_st (L' := [(2, 1), (0, (ii : Int)), (0, b), (0, (jj : Int)), (0, e), (0, f), (2, (o : Int)), (2, (q : Int))]) (S' := [(0, (-1)), (0, (m q 2))]) r_70_57 rfl rfl rfl ?_
        refine gx_ic (P := ¬ (m q 2) = (-1)) r_70_58 (rfl) (fun h58 => ?_) (fun h58 => ?_)
        · refine gx_st (L' := [(2, 1), (0, (ii : Int)), (0, b), (0, (jj : Int)), (0, e), (0, f), (2, (o : Int)), (2, (q : Int))]) (S' := [(2, (o : Int))]) r_70_64 rfl rfl rfl ?_
          refine gx_gf (x := (m o 1)) 0 r_70_66 (rfl) (tsl_0 ho) ⟨by omega, rfl, by decide, by decide⟩ rfl (fun z => absurd z (by decide)) (rfl) ?_
          refine gx_st (L' := [(2, 1), (0, (ii : Int)), (0, b), (0, (jj : Int)), (0, e), (0, f), (2, (o : Int)), (2, (q : Int))]) (S' := [(2, (q : Int)), (0, (m o 1))]) r_70_69 rfl rfl rfl ?_
          refine gx_gf (x := (m q 1)) 0 r_70_71 (rfl) (tsl_0 hq) ⟨by omega, rfl, by decide, by decide⟩ rfl (fun z => absurd z (by decide)) (rfl) ?_
          refine gx_ic (P := (m o 1) = (m q 1)) r_70_74 (rfl) (fun h74 => ?_) (fun h74 => ?_)
          · refine gx_st (L' := [(2, 1), (0, (ii : Int)), (0, b), (0, (jj : Int)), (0, e), (0, f), (2, (o : Int)), (2, (q : Int))]) (S' := [(2, (o : Int))]) r_70_80 rfl rfl rfl ?_
            refine gx_st (L' := [(2, 1), (0, (ii : Int)), (0, b), (0, (jj : Int)), (0, e), (0, f), (2, (o : Int)), (2, (q : Int))]) (S' := [(0, b), (2, (o : Int))]) r_70_82 rfl rfl rfl ?_
            refine gx_st (L' := [(2, 1), (0, (ii : Int)), (0, b), (0, (jj : Int)), (0, e), (0, f), (2, (o : Int)), (2, (q : Int))]) (S' := [(0, f), (0, b), (2, (o : Int))]) r_70_83 rfl rfl rfl ?_
            refine gx_ci (nx := 88) (S2 := []) (x_286 hT hm so b f (by omega)) r_70_85 rfl rfl rfl rfl rfl (rcv_v rfl (tsl_0 ho) (by omega) rfl (by decide)) rfl (by decide) rfl (fun x85 n85 q85 => ?_)
            obtain rfl := q85.1.symm
            obtain rfl := q85.2.symm
            show GX T 3 70 88 [(2, 1), (0, (ii : Int)), (0, b), (0, (jj : Int)), (0, e), (0, f), (2, (o : Int)), (2, (q : Int))] [(0, (if 0 ≤ b ∧ 0 ≤ f ∧ b ≤ m o 2 - f then 1 else 0))] m (RI (fun _ m1 => PaC m m1 (ii : Int) b (jj : Int) e f))
            refine gx_i0 (P := ¬ (0 ≤ b ∧ 0 ≤ f ∧ b ≤ m o 2 - f)) r_70_88 (b01_eq) (fun h88 => ?_) (fun h88 => ?_)
            · refine gx_st (L' := [(2, 1), (0, (ii : Int)), (0, b), (0, (jj : Int)), (0, e), (0, f), (2, (o : Int)), (2, (q : Int))]) (S' := [(0, (-7))]) r_70_103 rfl rfl rfl ?_
              refine gx_rt r_70_105 rfl rfl ⟨_, rfl, fun z => by omega, fun i2 j2 h1 h2 h3 h4 => ?_⟩
              have ei : i2 = ii := by omega
              have ej : j2 = jj := by omega
              rw [ei, ej, ← h_o, ← h_q]
              exact ⟨fun _ => rfl, fun x y n2 h5 h6 h7 z => by unfold PstO at z; omega⟩
            · have h88 := Decidable.not_not.mp h88
              refine gx_st (L' := [(2, 1), (0, (ii : Int)), (0, b), (0, (jj : Int)), (0, e), (0, f), (2, (o : Int)), (2, (q : Int))]) (S' := [(2, (q : Int))]) r_70_91 rfl rfl rfl ?_
              refine gx_st (L' := [(2, 1), (0, (ii : Int)), (0, b), (0, (jj : Int)), (0, e), (0, f), (2, (o : Int)), (2, (q : Int))]) (S' := [(0, e), (2, (q : Int))]) r_70_93 rfl rfl rfl ?_
              refine gx_st (L' := [(2, 1), (0, (ii : Int)), (0, b), (0, (jj : Int)), (0, e), (0, f), (2, (o : Int)), (2, (q : Int))]) (S' := [(0, f), (0, e), (2, (q : Int))]) r_70_95 rfl rfl rfl ?_
              refine gx_ci (nx := 100) (S2 := []) (x_286 hT hm sq e f (by omega)) r_70_97 rfl rfl rfl rfl rfl (rcv_v rfl (tsl_0 hq) (by omega) rfl (by decide)) rfl (by decide) rfl (fun x97 n97 q97 => ?_)
              obtain rfl := q97.1.symm
              obtain rfl := q97.2.symm
              show GX T 3 70 100 [(2, 1), (0, (ii : Int)), (0, b), (0, (jj : Int)), (0, e), (0, f), (2, (o : Int)), (2, (q : Int))] [(0, (if 0 ≤ e ∧ 0 ≤ f ∧ e ≤ m q 2 - f then 1 else 0))] m (RI (fun _ m1 => PaC m m1 (ii : Int) b (jj : Int) e f))
              refine gx_i0 (P := 0 ≤ e ∧ 0 ≤ f ∧ e ≤ m q 2 - f) r_70_100 (b01_ne) (fun h100 => ?_) (fun h100 => ?_)
              · refine gx_st (L' := [(2, 1), (0, (ii : Int)), (0, b), (0, (jj : Int)), (0, e), (0, f), (2, (o : Int)), (2, (q : Int))]) (S' := [(2, (o : Int))]) r_70_106 rfl rfl rfl ?_
                refine gx_gf (x := (o : Int) + 1) 2 r_70_108 (rfl) (tsl_0 ho) ⟨by omega, rfl, by decide, by decide⟩ rfl (fun _ => by omega) (hr) ?_
                refine gx_st (L' := [(2, 1), (0, (ii : Int)), (0, b), (0, (jj : Int)), (0, e), (0, f), (2, (o : Int)), (2, (q : Int))]) (S' := [(0, b), (2, (o : Int) + 1)]) r_70_111 rfl rfl rfl ?_
                refine gx_st (L' := [(2, 1), (0, (ii : Int)), (0, b), (0, (jj : Int)), (0, e), (0, f), (2, (o : Int)), (2, (q : Int))]) (S' := [(2, (q : Int)), (0, b), (2, (o : Int) + 1)]) r_70_112 rfl rfl rfl ?_
                refine gx_gf (x := (q : Int) + 1) 2 r_70_114 (rfl) (tsl_0 hq) ⟨by omega, rfl, by decide, by decide⟩ rfl (fun _ => by omega) (hr2) ?_
                refine gx_st (L' := [(2, 1), (0, (ii : Int)), (0, b), (0, (jj : Int)), (0, e), (0, f), (2, (o : Int)), (2, (q : Int))]) (S' := [(0, e), (2, (q : Int) + 1), (0, b), (2, (o : Int) + 1)]) r_70_117 rfl rfl rfl ?_
                refine gx_st (L' := [(2, 1), (0, (ii : Int)), (0, b), (0, (jj : Int)), (0, e), (0, f), (2, (o : Int)), (2, (q : Int))]) (S' := [(0, f), (0, e), (2, (q : Int) + 1), (0, b), (2, (o : Int) + 1)]) r_70_119 rfl rfl rfl ?_
                obtain ⟨sp, hsp⟩ : ∃ n : Nat, b = (n : Int) := ⟨b.toNat, by omega⟩
                obtain ⟨dp, hdp⟩ : ∃ n : Nat, e = (n : Int) := ⟨e.toNat, by omega⟩
                obtain ⟨n, hn⟩ : ∃ n : Nat, f = (n : Int) := ⟨f.toNat, by omega⟩
                rw [hsp, hdp, hn]
                refine gx_cp (f := o + 1) (g := q + 1) r_70_121 (tsl_1 ho) (tsl_1 hq) (by omega) (by omega) (by omega) (by omega) (Nat.le_of_ble_eq_true rfl) ?_
                refine gx_st (L' := [(2, 1), (0, (ii : Int)), (0, (sp : Int)), (0, (jj : Int)), (0, (dp : Int)), (0, (n : Int)), (2, (o : Int)), (2, (q : Int))]) (S' := [(0, 0)]) r_70_124 rfl rfl rfl ?_
                refine gx_rt r_70_125 rfl rfl ⟨_, rfl, fun z => by omega, fun i2 j2 h1 h2 h3 h4 => ?_⟩
                have ei : i2 = ii := by omega
                have ej : j2 = jj := by omega
                rw [ei, ej, ← h_o, ← h_q]
                exact ⟨fun z => absurd ⟨by omega, by omega, by omega, by omega, by omega, by omega, by omega, by omega⟩ z, fun x y n2 h5 h6 h7 _ => by rw [show x = sp by omega, show y = dp by omega, show n2 = n by omega]⟩
              · refine gx_st (L' := [(2, 1), (0, (ii : Int)), (0, b), (0, (jj : Int)), (0, e), (0, f), (2, (o : Int)), (2, (q : Int))]) (S' := [(0, (-7))]) r_70_103 rfl rfl rfl ?_
                refine gx_rt r_70_105 rfl rfl ⟨_, rfl, fun z => by omega, fun i2 j2 h1 h2 h3 h4 => ?_⟩
                have ei : i2 = ii := by omega
                have ej : j2 = jj := by omega
                rw [ei, ej, ← h_o, ← h_q]
                exact ⟨fun _ => rfl, fun x y n2 h5 h6 h7 z => by unfold PstO at z; omega⟩
          · refine gx_st (L' := [(2, 1), (0, (ii : Int)), (0, b), (0, (jj : Int)), (0, e), (0, f), (2, (o : Int)), (2, (q : Int))]) (S' := [(0, (-8))]) r_70_77 rfl rfl rfl ?_
            refine gx_rt r_70_79 rfl rfl ⟨_, rfl, fun z => by omega, fun i2 j2 h1 h2 h3 h4 => ?_⟩
            have ei : i2 = ii := by omega
            have ej : j2 = jj := by omega
            rw [ei, ej, ← h_o, ← h_q]
            exact ⟨fun _ => rfl, fun x y n2 h5 h6 h7 z => by unfold PstO at z; omega⟩
        · have h58 := Decidable.not_not.mp h58
          refine gx_st (L' := [(2, 1), (0, (ii : Int)), (0, b), (0, (jj : Int)), (0, e), (0, f), (2, (o : Int)), (2, (q : Int))]) (S' := [(0, (-6))]) r_70_61 rfl rfl rfl ?_
          refine gx_rt r_70_63 rfl rfl ⟨_, rfl, fun z => by omega, fun i2 j2 h1 h2 h3 h4 => ?_⟩
          have ei : i2 = ii := by omega
          have ej : j2 = jj := by omega
          rw [ei, ej, ← h_o, ← h_q]
          exact ⟨fun _ => rfl, fun x y n2 h5 h6 h7 z => by unfold PstO at z; omega⟩
    · refine gx_st (L' := [(2, 1), (0, a), (0, b), (0, c), (0, e), (0, f), (9, 0), (9, 0)]) (S' := [(0, (-2))]) r_70_24 rfl rfl rfl ?_
      exact gx_rt r_70_26 rfl rfl ⟨_, rfl, fun _ => rfl, fun i j h1 h2 h3 h4 => by omega⟩
theorem pst_l1 (hT : TT T) {s i t j n : Nat} (hs : s < 4) (hi : i + n ≤ 60) {m0 : Mm} (hp0 : PinR m0) {Q : AV → Mm → Prop} (hQ : ∀ m : Mm, (∀ p k : Nat, ¬ p = 212 → m p k = m0 p k) → (∀ k : Nat, k < n → m 212 k = m0 211 (60 * s + i + k)) → GX T 2 230 147 [(2, 192), (0, (s : Int)), (0, (i : Int)), (0, (t : Int)), (0, (j : Int)), (0, (n : Int)), (0, (n : Int))] [] m Q) : ∀ (N k : Nat) (m : Mm), n - k < N → k ≤ n → (∀ p k : Nat, ¬ p = 212 → m p k = m0 p k) → (∀ q : Nat, q < k → m 212 q = m0 211 (60 * s + i + q)) → GX T 2 230 113 [(2, 192), (0, (s : Int)), (0, (i : Int)), (0, (t : Int)), (0, (j : Int)), (0, (n : Int)), (0, (k : Int))] [] m Q := by
  intro N
  induction N with
  | zero => intro k  m hN; exact absurd hN (Nat.not_lt_zero _)
  | succ N ih =>
    intro k  m hN hk i1 i2
    have hp : PinR m := fun o j hq => (i1 o j (fun z => hq (by rw [z]; exact pin_no (by decide) j))).trans (hp0 o j hq)
    refine gx_st (L' := [(2, 192), (0, (s : Int)), (0, (i : Int)), (0, (t : Int)), (0, (j : Int)), (0, (n : Int)), (0, (k : Int))]) (S' := [(0, (k : Int))]) r_230_113 rfl rfl rfl ?_
    refine gx_st (L' := [(2, 192), (0, (s : Int)), (0, (i : Int)), (0, (t : Int)), (0, (j : Int)), (0, (n : Int)), (0, (k : Int))]) (S' := [(0, (n : Int)), (0, (k : Int))]) r_230_115 rfl rfl rfl ?_
    refine gx_ic (P := (n : Int) ≤ (k : Int)) r_230_117 (rfl) (fun h117 => ?_) (fun h117 => ?_)
    · have hkn : k = n := by omega
      rw [hkn]
      rw [hkn] at i2
      exact hQ m i1 i2
    · refine gx_st (L' := [(2, 192), (0, (s : Int)), (0, (i : Int)), (0, (t : Int)), (0, (j : Int)), (0, (n : Int)), (0, (k : Int))]) (S' := [(2, 192)]) r_230_120 rfl rfl rfl ?_
      refine gx_gf (x := 212) 2 r_230_121 (rfl) (ty_192 hT) ⟨by decide, rfl, by decide, by decide⟩ rfl (fun _ => by omega) (pin_at hp (t := 212) rfl (by decide)) ?_
      refine gx_st (L' := [(2, 192), (0, (s : Int)), (0, (i : Int)), (0, (t : Int)), (0, (j : Int)), (0, (n : Int)), (0, (k : Int))]) (S' := [(0, (k : Int)), (2, 212)]) r_230_124 rfl rfl rfl ?_
      refine gx_st (L' := [(2, 192), (0, (s : Int)), (0, (i : Int)), (0, (t : Int)), (0, (j : Int)), (0, (n : Int)), (0, (k : Int))]) (S' := [(2, 192), (0, (k : Int)), (2, 212)]) r_230_126 rfl rfl rfl ?_
      refine gx_gf (x := 211) 2 r_230_127 (rfl) (ty_192 hT) ⟨by decide, rfl, by decide, by decide⟩ rfl (fun _ => by omega) (pin_at hp (t := 211) rfl (by decide)) ?_
      refine gx_st (L' := [(2, 192), (0, (s : Int)), (0, (i : Int)), (0, (t : Int)), (0, (j : Int)), (0, (n : Int)), (0, (k : Int))]) (S' := [(0, 60), (2, 211), (0, (k : Int)), (2, 212)]) r_230_130 rfl rfl rfl ?_
      refine gx_st (L' := [(2, 192), (0, (s : Int)), (0, (i : Int)), (0, (t : Int)), (0, (j : Int)), (0, (n : Int)), (0, (k : Int))]) (S' := [(0, (s : Int)), (0, 60), (2, 211), (0, (k : Int)), (2, 212)]) r_230_132 rfl rfl rfl ?_
      refine gx_ar (L' := [(2, 192), (0, (s : Int)), (0, (i : Int)), (0, (t : Int)), (0, (j : Int)), (0, (n : Int)), (0, (k : Int))]) (S' := [(2, 211), (0, (k : Int)), (2, 212)]) (t := 0) (e := w32 (60 * (s : Int))) (z := 60 * (s : Int)) r_230_133 rfl rfl rfl (w32_eq (by omega) (by omega) (by omega)) ?_
      refine gx_st (L' := [(2, 192), (0, (s : Int)), (0, (i : Int)), (0, (t : Int)), (0, (j : Int)), (0, (n : Int)), (0, (k : Int))]) (S' := [(0, (i : Int)), (0, 60 * (s : Int)), (2, 211), (0, (k : Int)), (2, 212)]) r_230_134 rfl rfl rfl ?_
      refine gx_ar (L' := [(2, 192), (0, (s : Int)), (0, (i : Int)), (0, (t : Int)), (0, (j : Int)), (0, (n : Int)), (0, (k : Int))]) (S' := [(2, 211), (0, (k : Int)), (2, 212)]) (t := 0) (e := w32 ((60 * (s : Int)) + (i : Int))) (z := 60 * (s : Int) + (i : Int)) r_230_135 rfl rfl rfl (w32_eq (by omega) (by omega) (by omega)) ?_
      refine gx_st (L' := [(2, 192), (0, (s : Int)), (0, (i : Int)), (0, (t : Int)), (0, (j : Int)), (0, (n : Int)), (0, (k : Int))]) (S' := [(0, (k : Int)), (0, 60 * (s : Int) + (i : Int)), (2, 211), (0, (k : Int)), (2, 212)]) r_230_136 rfl rfl rfl ?_
      refine gx_ar (L' := [(2, 192), (0, (s : Int)), (0, (i : Int)), (0, (t : Int)), (0, (j : Int)), (0, (n : Int)), (0, (k : Int))]) (S' := [(2, 211), (0, (k : Int)), (2, 212)]) (t := 0) (e := w32 ((60 * (s : Int) + (i : Int)) + (k : Int))) (z := 60 * (s : Int) + (i : Int) + (k : Int)) r_230_138 rfl rfl rfl (w32_eq (by omega) (by omega) (by omega)) ?_
      refine gx_la (n := 60 * s + i + k) (x := (m 211 (60 * s + i + k))) r_230_139 (rfl) (by omega) (ty_211 hT) (by omega) ⟨rfl, by omega⟩ (rfl) ?_
      obtain ⟨m1, e_m1⟩ : ∃ z, z = nu_up m 212 k ((m 211 (60 * s + i + k))) := ⟨_, rfl⟩
      refine gx_ls (n := k) (x := (m 211 (60 * s + i + k))) r_230_140 (rfl) (by omega) (ty_212 hT) (by omega) ⟨rfl, by omega⟩ e_m1.symm ?_
      refine gx_li (z := (k : Int) + 1) (L' := [(2, 192), (0, (s : Int)), (0, (i : Int)), (0, (t : Int)), (0, (j : Int)), (0, (n : Int)), (0, (k : Int) + 1)]) r_230_141 rfl (w32_eq (by omega) (by omega) (by omega)) rfl ?_
      refine gx_st (L' := [(2, 192), (0, (s : Int)), (0, (i : Int)), (0, (t : Int)), (0, (j : Int)), (0, (n : Int)), (0, (k : Int) + 1)]) (S' := []) r_230_144 rfl rfl rfl ?_
      rw [show (k : Int) + 1 = ((k + 1 : Nat) : Int) from rfl]
      refine ih (k + 1)  m1 (by omega) (by omega) ?_ ?_
      · intro p k2 hpk
        rw [e_m1, nu_no hpk]; exact i1 p k2 hpk
      · intro q hq
        rw [e_m1]
        by_cases e : q = k
        · rw [e, nu_at]; exact i1 211 _ (by decide)
        · rw [nu_ne e]; exact i2 q (by omega)
theorem pst_l2 (hT : TT T) {s i t j n : Nat} (ht : t < 4) (hj : j + n ≤ 60) {m0 : Mm} (hp0 : PinR m0) {Q : AV → Mm → Prop} (hQ : ∀ m : Mm, (∀ p k : Nat, ¬ (p = 211 ∧ 60 * t + j ≤ k ∧ k < 60 * t + j + n) → m p k = m0 p k) → (∀ k : Nat, k < n → m 211 (60 * t + j + k) = m0 212 k) → GX T 2 230 185 [(2, 192), (0, (s : Int)), (0, (i : Int)), (0, (t : Int)), (0, (j : Int)), (0, (n : Int)), (0, (n : Int))] [] m Q) : ∀ (N k : Nat) (m : Mm), n - k < N → k ≤ n → (∀ p q : Nat, ¬ (p = 211 ∧ 60 * t + j ≤ q ∧ q < 60 * t + j + n) → m p q = m0 p q) → (∀ q : Nat, q < k → m 211 (60 * t + j + q) = m0 212 q) → GX T 2 230 150 [(2, 192), (0, (s : Int)), (0, (i : Int)), (0, (t : Int)), (0, (j : Int)), (0, (n : Int)), (0, (k : Int))] [] m Q := by
  intro N
  induction N with
  | zero => intro k  m hN; exact absurd hN (Nat.not_lt_zero _)
  | succ N ih =>
    intro k  m hN hk i1 i2
    have hp : PinR m := fun o q hq => (i1 o q (fun z => hq (by rw [z.1]; exact pin_211 q))).trans (hp0 o q hq)
    refine gx_st (L' := [(2, 192), (0, (s : Int)), (0, (i : Int)), (0, (t : Int)), (0, (j : Int)), (0, (n : Int)), (0, (k : Int))]) (S' := [(0, (k : Int))]) r_230_150 rfl rfl rfl ?_
    refine gx_st (L' := [(2, 192), (0, (s : Int)), (0, (i : Int)), (0, (t : Int)), (0, (j : Int)), (0, (n : Int)), (0, (k : Int))]) (S' := [(0, (n : Int)), (0, (k : Int))]) r_230_152 rfl rfl rfl ?_
    refine gx_ic (P := (n : Int) ≤ (k : Int)) r_230_154 (rfl) (fun h154 => ?_) (fun h154 => ?_)
    · have hkn : k = n := by omega
      rw [hkn]
      rw [hkn] at i2
      exact hQ m i1 i2
    · refine gx_st (L' := [(2, 192), (0, (s : Int)), (0, (i : Int)), (0, (t : Int)), (0, (j : Int)), (0, (n : Int)), (0, (k : Int))]) (S' := [(2, 192)]) r_230_157 rfl rfl rfl ?_
      refine gx_gf (x := 211) 2 r_230_158 (rfl) (ty_192 hT) ⟨by decide, rfl, by decide, by decide⟩ rfl (fun _ => by omega) (pin_at hp (t := 211) rfl (by decide)) ?_
      refine gx_st (L' := [(2, 192), (0, (s : Int)), (0, (i : Int)), (0, (t : Int)), (0, (j : Int)), (0, (n : Int)), (0, (k : Int))]) (S' := [(0, 60), (2, 211)]) r_230_161 rfl rfl rfl ?_
      refine gx_st (L' := [(2, 192), (0, (s : Int)), (0, (i : Int)), (0, (t : Int)), (0, (j : Int)), (0, (n : Int)), (0, (k : Int))]) (S' := [(0, (t : Int)), (0, 60), (2, 211)]) r_230_163 rfl rfl rfl ?_
      refine gx_ar (L' := [(2, 192), (0, (s : Int)), (0, (i : Int)), (0, (t : Int)), (0, (j : Int)), (0, (n : Int)), (0, (k : Int))]) (S' := [(2, 211)]) (t := 0) (e := w32 (60 * (t : Int))) (z := 60 * (t : Int)) r_230_164 rfl rfl rfl (w32_eq (by omega) (by omega) (by omega)) ?_
      refine gx_st (L' := [(2, 192), (0, (s : Int)), (0, (i : Int)), (0, (t : Int)), (0, (j : Int)), (0, (n : Int)), (0, (k : Int))]) (S' := [(0, (j : Int)), (0, 60 * (t : Int)), (2, 211)]) r_230_165 rfl rfl rfl ?_
      refine gx_ar (L' := [(2, 192), (0, (s : Int)), (0, (i : Int)), (0, (t : Int)), (0, (j : Int)), (0, (n : Int)), (0, (k : Int))]) (S' := [(2, 211)]) (t := 0) (e := w32 ((60 * (t : Int)) + (j : Int))) (z := 60 * (t : Int) + (j : Int)) r_230_167 rfl rfl rfl (w32_eq (by omega) (by omega) (by omega)) ?_
      refine gx_st (L' := [(2, 192), (0, (s : Int)), (0, (i : Int)), (0, (t : Int)), (0, (j : Int)), (0, (n : Int)), (0, (k : Int))]) (S' := [(0, (k : Int)), (0, 60 * (t : Int) + (j : Int)), (2, 211)]) r_230_168 rfl rfl rfl ?_
      refine gx_ar (L' := [(2, 192), (0, (s : Int)), (0, (i : Int)), (0, (t : Int)), (0, (j : Int)), (0, (n : Int)), (0, (k : Int))]) (S' := [(2, 211)]) (t := 0) (e := w32 ((60 * (t : Int) + (j : Int)) + (k : Int))) (z := 60 * (t : Int) + (j : Int) + (k : Int)) r_230_170 rfl rfl rfl (w32_eq (by omega) (by omega) (by omega)) ?_
      refine gx_st (L' := [(2, 192), (0, (s : Int)), (0, (i : Int)), (0, (t : Int)), (0, (j : Int)), (0, (n : Int)), (0, (k : Int))]) (S' := [(2, 192), (0, 60 * (t : Int) + (j : Int) + (k : Int)), (2, 211)]) r_230_171 rfl rfl rfl ?_
      refine gx_gf (x := 212) 2 r_230_172 (rfl) (ty_192 hT) ⟨by decide, rfl, by decide, by decide⟩ rfl (fun _ => by omega) (pin_at hp (t := 212) rfl (by decide)) ?_
      refine gx_st (L' := [(2, 192), (0, (s : Int)), (0, (i : Int)), (0, (t : Int)), (0, (j : Int)), (0, (n : Int)), (0, (k : Int))]) (S' := [(0, (k : Int)), (2, 212), (0, 60 * (t : Int) + (j : Int) + (k : Int)), (2, 211)]) r_230_175 rfl rfl rfl ?_
      refine gx_la (n := k) (x := (m 212 k)) r_230_177 (rfl) (by omega) (ty_212 hT) (by omega) ⟨rfl, by omega⟩ (rfl) ?_
      obtain ⟨m1, e_m1⟩ : ∃ z, z = nu_up m 211 (60 * t + j + k) (m 212 k) := ⟨_, rfl⟩
      refine gx_ls (n := 60 * t + j + k) (x := (m 212 k)) r_230_178 (rfl) (by omega) (ty_211 hT) (by omega) ⟨rfl, by omega⟩ e_m1.symm ?_
      refine gx_li (z := (k : Int) + 1) (L' := [(2, 192), (0, (s : Int)), (0, (i : Int)), (0, (t : Int)), (0, (j : Int)), (0, (n : Int)), (0, (k : Int) + 1)]) r_230_179 rfl (w32_eq (by omega) (by omega) (by omega)) rfl ?_
      refine gx_st (L' := [(2, 192), (0, (s : Int)), (0, (i : Int)), (0, (t : Int)), (0, (j : Int)), (0, (n : Int)), (0, (k : Int) + 1)]) (S' := []) r_230_182 rfl rfl rfl ?_
      rw [show (k : Int) + 1 = ((k + 1 : Nat) : Int) from rfl]
      refine ih (k + 1)  m1 (by omega) (by omega) ?_ ?_
      · intro p q hpq
        rw [e_m1]
        by_cases e : p = 211
        · subst e; rw [nu_ne (by omega)]; exact i1 211 q hpq
        · rw [nu_no e]; exact i1 p q hpq
      · intro q hq
        rw [e_m1]
        by_cases e : q = k
        · rw [e, nu_at]; exact i1 212 k (by omega)
        · rw [nu_ne (by omega)]; exact i2 q (by omega)
theorem w_230 (hT : TT T) (hm : Gam m) (hp : PinR m) (a b c e f : Int) (hb : in32 b) (he : in32 e) (hf : in32 f) : GX T 2 230 0 [(2, 192), (0, a), (0, b), (0, c), (0, e), (0, f), (9, 0)] [] m (RI (fun _ m1 => PaR m m1 a b c e f)) := by
  unfold in32 at hb he hf
  refine gx_st (L' := [(2, 192), (0, a), (0, b), (0, c), (0, e), (0, f), (9, 0)]) (S' := [(0, a)]) r_230_0 rfl rfl rfl ?_
  refine gx_ci (nx := 4) (S2 := []) (x_226 a) r_230_1 rfl rfl rfl rfl rfl rfl rfl (by decide) rfl (fun x1 n1 q1 => ?_)
  obtain rfl := q1.1.symm
  obtain rfl := q1.2.symm
  show GX T 2 230 4 [(2, 192), (0, a), (0, b), (0, c), (0, e), (0, f), (9, 0)] [(0, (if 0 ≤ a ∧ a ≤ 3 then 1 else 0))] m (RI (fun _ m1 => PaR m m1 a b c e f))
  refine gx_i0 (P := ¬ (0 ≤ a ∧ a ≤ 3)) r_230_4 (b01_eq) (fun h4 => ?_) (fun h4 => ?_)
  · refine gx_st (L' := [(2, 192), (0, a), (0, b), (0, c), (0, e), (0, f), (9, 0)]) (S' := [(0, (-2))]) r_230_14 rfl rfl rfl ?_
    exact gx_rt r_230_16 rfl rfl ⟨_, rfl, fun _ => rfl, fun i j h1 h2 h3 h4 => by omega⟩
  · have h4 := Decidable.not_not.mp h4
    refine gx_st (L' := [(2, 192), (0, a), (0, b), (0, c), (0, e), (0, f), (9, 0)]) (S' := [(0, c)]) r_230_7 rfl rfl rfl ?_
    refine gx_ci (nx := 11) (S2 := []) (x_226 c) r_230_8 rfl rfl rfl rfl rfl rfl rfl (by decide) rfl (fun x8 n8 q8 => ?_)
    obtain rfl := q8.1.symm
    obtain rfl := q8.2.symm
    show GX T 2 230 11 [(2, 192), (0, a), (0, b), (0, c), (0, e), (0, f), (9, 0)] [(0, (if 0 ≤ c ∧ c ≤ 3 then 1 else 0))] m (RI (fun _ m1 => PaR m m1 a b c e f))
    refine gx_i0 (P := 0 ≤ c ∧ c ≤ 3) r_230_11 (b01_ne) (fun h11 => ?_) (fun h11 => ?_)
    · obtain ⟨s, hsa⟩ : ∃ s : Nat, a = (s : Int) := ⟨a.toNat, by omega⟩
      obtain ⟨t, htc⟩ : ∃ t : Nat, c = (t : Int) := ⟨c.toNat, by omega⟩
      have hs : s < 4 := by omega
      have ht : t < 4 := by omega
      have g1_ := gb_209 hm (i := s) hs
      have g2_ := gb_209 hm (i := t) ht
      rw [hsa, htc]
      refine gx_st (L' := [(2, 192), (0, (s : Int)), (0, b), (0, (t : Int)), (0, e), (0, f), (9, 0)]) (S' := [(2, 192)]) r_230_17 rfl rfl rfl ?_
      refine gx_gf (x := 209) 2 r_230_18 (rfl) (ty_192 hT) ⟨by decide, rfl, by decide, by decide⟩ rfl (fun _ => by omega) (pin_at hp (t := 209) rfl (by decide)) ?_
      refine gx_st (L' := [(2, 192), (0, (s : Int)), (0, b), (0, (t : Int)), (0, e), (0, f), (9, 0)]) (S' := [(0, (s : Int)), (2, 209)]) r_230_21 rfl rfl rfl ?_
      refine gx_ia (n := s) (x := (m 209 s)) r_230_22 (rfl) (ty_209 hT) (by omega) ⟨rfl, by omega⟩ (rfl) ?_
      refine gx_st (L' := [(2, 192), (0, (s : Int)), (0, b), (0, (t : Int)), (0, e), (0, f), (9, 0)]) (S' := [(0, (-1)), (0, (m 209 s))]) r_230_23 rfl rfl rfl ?_
      refine gx_ic (P := (m 209 s) = (-1)) r_230_24 (rfl) (fun h24 => ?_) (fun h24 => ?_)
      · refine gx_st (L' := [(2, 192), (0, (s : Int)), (0, b), (0, (t : Int)), (0, e), (0, f), (9, 0)]) (S' := [(0, (-6))]) r_230_37 rfl rfl rfl ?_
        refine gx_rt r_230_39 rfl rfl ⟨_, rfl, fun z => by omega, fun i2 j2 h1 h2 h3 h4 => ?_⟩
        have ei : i2 = s := by omega
        have ej : j2 = t := by omega
        rw [ei, ej]
        exact ⟨fun _ => rfl, fun x y n2 h5 h6 h7 z => by unfold PstO at z; omega⟩
      · refine gx_st (L' := [(2, 192), (0, (s : Int)), (0, b), (0, (t : Int)), (0, e), (0, f), (9, 0)]) (S' := [(2, 192)]) r_230_27 rfl rfl rfl ?_
        refine gx_gf (x := 209) 2 r_230_28 (rfl) (ty_192 hT) ⟨by decide, rfl, by decide, by decide⟩ rfl (fun _ => by omega) (pin_at hp (t := 209) rfl (by decide)) ?_
        refine gx_st (L' := [(2, 192), (0, (s : Int)), (0, b), (0, (t : Int)), (0, e), (0, f), (9, 0)]) (S' := [(0, (t : Int)), (2, 209)]) r_230_31 rfl rfl rfl ?_
        refine gx_ia (n := t) (x := (m 209 t)) r_230_32 (rfl) (ty_209 hT) (by omega) ⟨rfl, by omega⟩ (rfl) ?_
        refine gx_st (L' := [(2, 192), (0, (s : Int)), (0, b), (0, (t : Int)), (0, e), (0, f), (9, 0)]) (S' := [(0, (-1)), (0, (m 209 t))]) r_230_33 rfl rfl rfl ?_
        refine gx_ic (P := ¬ (m 209 t) = (-1)) r_230_34 (rfl) (fun h34 => ?_) (fun h34 => ?_)
        · refine gx_st (L' := [(2, 192), (0, (s : Int)), (0, b), (0, (t : Int)), (0, e), (0, f), (9, 0)]) (S' := [(2, 192)]) r_230_40 rfl rfl rfl ?_
          refine gx_gf (x := 210) 2 r_230_41 (rfl) (ty_192 hT) ⟨by decide, rfl, by decide, by decide⟩ rfl (fun _ => by omega) (pin_at hp (t := 210) rfl (by decide)) ?_
          refine gx_st (L' := [(2, 192), (0, (s : Int)), (0, b), (0, (t : Int)), (0, e), (0, f), (9, 0)]) (S' := [(0, (s : Int)), (2, 210)]) r_230_44 rfl rfl rfl ?_
          refine gx_ia (n := s) (x := (m 210 s)) r_230_45 (rfl) (ty_210 hT) (by omega) ⟨rfl, by omega⟩ (rfl) ?_
          refine gx_st (L' := [(2, 192), (0, (s : Int)), (0, b), (0, (t : Int)), (0, e), (0, f), (9, 0)]) (S' := [(2, 192), (0, (m 210 s))]) r_230_46 rfl rfl rfl ?_
          refine gx_gf (x := 210) 2 r_230_47 (rfl) (ty_192 hT) ⟨by decide, rfl, by decide, by decide⟩ rfl (fun _ => by omega) (pin_at hp (t := 210) rfl (by decide)) ?_
          refine gx_st (L' := [(2, 192), (0, (s : Int)), (0, b), (0, (t : Int)), (0, e), (0, f), (9, 0)]) (S' := [(0, (t : Int)), (2, 210), (0, (m 210 s))]) r_230_50 rfl rfl rfl ?_
          refine gx_ia (n := t) (x := (m 210 t)) r_230_51 (rfl) (ty_210 hT) (by omega) ⟨rfl, by omega⟩ (rfl) ?_
          refine gx_ic (P := (m 210 s) = (m 210 t)) r_230_52 (rfl) (fun h52 => ?_) (fun h52 => ?_)
          · refine gx_st (L' := [(2, 192), (0, (s : Int)), (0, b), (0, (t : Int)), (0, e), (0, f), (9, 0)]) (S' := [(0, b)]) r_230_58 rfl rfl rfl ?_
            refine gx_i0 (P := b < 0) r_230_59 (rfl) (fun h59 => ?_) (fun h59 => ?_)
            · refine gx_st (L' := [(2, 192), (0, (s : Int)), (0, b), (0, (t : Int)), (0, e), (0, f), (9, 0)]) (S' := [(0, (-7))]) r_230_107 rfl rfl rfl ?_
              refine gx_rt r_230_109 rfl rfl ⟨_, rfl, fun z => by omega, fun i2 j2 h1 h2 h3 h4 => ?_⟩
              have ei : i2 = s := by omega
              have ej : j2 = t := by omega
              rw [ei, ej]
              exact ⟨fun _ => rfl, fun x y n2 h5 h6 h7 z => by unfold PstO at z; omega⟩
            · refine gx_st (L' := [(2, 192), (0, (s : Int)), (0, b), (0, (t : Int)), (0, e), (0, f), (9, 0)]) (S' := [(0, e)]) r_230_62 rfl rfl rfl ?_
              refine gx_i0 (P := e < 0) r_230_64 (rfl) (fun h64 => ?_) (fun h64 => ?_)
              · refine gx_st (L' := [(2, 192), (0, (s : Int)), (0, b), (0, (t : Int)), (0, e), (0, f), (9, 0)]) (S' := [(0, (-7))]) r_230_107 rfl rfl rfl ?_
                refine gx_rt r_230_109 rfl rfl ⟨_, rfl, fun z => by omega, fun i2 j2 h1 h2 h3 h4 => ?_⟩
                have ei : i2 = s := by omega
                have ej : j2 = t := by omega
                rw [ei, ej]
                exact ⟨fun _ => rfl, fun x y n2 h5 h6 h7 z => by unfold PstO at z; omega⟩
              · refine gx_st (L' := [(2, 192), (0, (s : Int)), (0, b), (0, (t : Int)), (0, e), (0, f), (9, 0)]) (S' := [(0, f)]) r_230_67 rfl rfl rfl ?_
                refine gx_i0 (P := f < 0) r_230_69 (rfl) (fun h69 => ?_) (fun h69 => ?_)
                · refine gx_st (L' := [(2, 192), (0, (s : Int)), (0, b), (0, (t : Int)), (0, e), (0, f), (9, 0)]) (S' := [(0, (-7))]) r_230_107 rfl rfl rfl ?_
                  refine gx_rt r_230_109 rfl rfl ⟨_, rfl, fun z => by omega, fun i2 j2 h1 h2 h3 h4 => ?_⟩
                  have ei : i2 = s := by omega
                  have ej : j2 = t := by omega
                  rw [ei, ej]
                  exact ⟨fun _ => rfl, fun x y n2 h5 h6 h7 z => by unfold PstO at z; omega⟩
                · refine gx_st (L' := [(2, 192), (0, (s : Int)), (0, b), (0, (t : Int)), (0, e), (0, f), (9, 0)]) (S' := [(0, b)]) r_230_72 rfl rfl rfl ?_
                  refine gx_st (L' := [(2, 192), (0, (s : Int)), (0, b), (0, (t : Int)), (0, e), (0, f), (9, 0)]) (S' := [(1, b)]) r_230_73 rfl rfl rfl ?_
                  refine gx_st (L' := [(2, 192), (0, (s : Int)), (0, b), (0, (t : Int)), (0, e), (0, f), (9, 0)]) (S' := [(0, f), (1, b)]) r_230_74 rfl rfl rfl ?_
                  refine gx_st (L' := [(2, 192), (0, (s : Int)), (0, b), (0, (t : Int)), (0, e), (0, f), (9, 0)]) (S' := [(1, f), (1, b)]) r_230_76 rfl rfl rfl ?_
                  refine gx_ar (L' := [(2, 192), (0, (s : Int)), (0, b), (0, (t : Int)), (0, e), (0, f), (9, 0)]) (S' := []) (t := 1) (e := w64 (b + f)) (z := b + f) r_230_77 rfl rfl rfl (w64_eq (by omega) (by omega) (by omega)) ?_
                  refine gx_st (L' := [(2, 192), (0, (s : Int)), (0, b), (0, (t : Int)), (0, e), (0, f), (9, 0)]) (S' := [(2, 192), (1, b + f)]) r_230_78 rfl rfl rfl ?_
                  refine gx_gf (x := 209) 2 r_230_79 (rfl) (ty_192 hT) ⟨by decide, rfl, by decide, by decide⟩ rfl (fun _ => by omega) (pin_at hp (t := 209) rfl (by decide)) ?_
                  refine gx_st (L' := [(2, 192), (0, (s : Int)), (0, b), (0, (t : Int)), (0, e), (0, f), (9, 0)]) (S' := [(0, (s : Int)), (2, 209), (1, b + f)]) r_230_82 rfl rfl rfl ?_
                  refine gx_ia (n := s) (x := (m 209 s)) r_230_83 (rfl) (ty_209 hT) (by omega) ⟨rfl, by omega⟩ (rfl) ?_
                  refine gx_st (L' := [(2, 192), (0, (s : Int)), (0, b), (0, (t : Int)), (0, e), (0, f), (9, 0)]) (S' := [(1, (m 209 s)), (1, b + f)]) r_230_84 rfl rfl rfl ?_
                  refine gx_st (L' := [(2, 192), (0, (s : Int)), (0, b), (0, (t : Int)), (0, e), (0, f), (9, 0)]) (S' := [(0, (if (b + f) < (m 209 s) then -1 else if (b + f) = (m 209 s) then 0 else 1))]) r_230_85 rfl rfl rfl ?_
                  refine gx_i0 (P := (m 209 s) < (b + f)) r_230_86 (lc_gt) (fun h86 => ?_) (fun h86 => ?_)
                  · refine gx_st (L' := [(2, 192), (0, (s : Int)), (0, b), (0, (t : Int)), (0, e), (0, f), (9, 0)]) (S' := [(0, (-7))]) r_230_107 rfl rfl rfl ?_
                    refine gx_rt r_230_109 rfl rfl ⟨_, rfl, fun z => by omega, fun i2 j2 h1 h2 h3 h4 => ?_⟩
                    have ei : i2 = s := by omega
                    have ej : j2 = t := by omega
                    rw [ei, ej]
                    exact ⟨fun _ => rfl, fun x y n2 h5 h6 h7 z => by unfold PstO at z; omega⟩
                  · refine gx_st (L' := [(2, 192), (0, (s : Int)), (0, b), (0, (t : Int)), (0, e), (0, f), (9, 0)]) (S' := [(0, e)]) r_230_89 rfl rfl rfl ?_
                    refine gx_st (L' := [(2, 192), (0, (s : Int)), (0, b), (0, (t : Int)), (0, e), (0, f), (9, 0)]) (S' := [(1, e)]) r_230_91 rfl rfl rfl ?_
                    refine gx_st (L' := [(2, 192), (0, (s : Int)), (0, b), (0, (t : Int)), (0, e), (0, f), (9, 0)]) (S' := [(0, f), (1, e)]) r_230_92 rfl rfl rfl ?_
                    refine gx_st (L' := [(2, 192), (0, (s : Int)), (0, b), (0, (t : Int)), (0, e), (0, f), (9, 0)]) (S' := [(1, f), (1, e)]) r_230_94 rfl rfl rfl ?_
                    refine gx_ar (L' := [(2, 192), (0, (s : Int)), (0, b), (0, (t : Int)), (0, e), (0, f), (9, 0)]) (S' := []) (t := 1) (e := w64 (e + f)) (z := e + f) r_230_95 rfl rfl rfl (w64_eq (by omega) (by omega) (by omega)) ?_
                    refine gx_st (L' := [(2, 192), (0, (s : Int)), (0, b), (0, (t : Int)), (0, e), (0, f), (9, 0)]) (S' := [(2, 192), (1, e + f)]) r_230_96 rfl rfl rfl ?_
                    refine gx_gf (x := 209) 2 r_230_97 (rfl) (ty_192 hT) ⟨by decide, rfl, by decide, by decide⟩ rfl (fun _ => by omega) (pin_at hp (t := 209) rfl (by decide)) ?_
                    refine gx_st (L' := [(2, 192), (0, (s : Int)), (0, b), (0, (t : Int)), (0, e), (0, f), (9, 0)]) (S' := [(0, (t : Int)), (2, 209), (1, e + f)]) r_230_100 rfl rfl rfl ?_
                    refine gx_ia (n := t) (x := (m 209 t)) r_230_101 (rfl) (ty_209 hT) (by omega) ⟨rfl, by omega⟩ (rfl) ?_
                    refine gx_st (L' := [(2, 192), (0, (s : Int)), (0, b), (0, (t : Int)), (0, e), (0, f), (9, 0)]) (S' := [(1, (m 209 t)), (1, e + f)]) r_230_102 rfl rfl rfl ?_
                    refine gx_st (L' := [(2, 192), (0, (s : Int)), (0, b), (0, (t : Int)), (0, e), (0, f), (9, 0)]) (S' := [(0, (if (e + f) < (m 209 t) then -1 else if (e + f) = (m 209 t) then 0 else 1))]) r_230_103 rfl rfl rfl ?_
                    refine gx_i0 (P := (e + f) ≤ (m 209 t)) r_230_104 (lc_le) (fun h104 => ?_) (fun h104 => ?_)
                    · refine gx_st (L' := [(2, 192), (0, (s : Int)), (0, b), (0, (t : Int)), (0, e), (0, f), (9, 0)]) (S' := [(0, 0)]) r_230_110 rfl rfl rfl ?_
                      refine gx_st (L' := [(2, 192), (0, (s : Int)), (0, b), (0, (t : Int)), (0, e), (0, f), (0, 0)]) (S' := []) r_230_111 rfl rfl rfl ?_
                      obtain ⟨i, hib⟩ : ∃ i : Nat, b = (i : Int) := ⟨b.toNat, by omega⟩
                      obtain ⟨j, hje⟩ : ∃ j : Nat, e = (j : Int) := ⟨e.toNat, by omega⟩
                      obtain ⟨n, hnf⟩ : ∃ n : Nat, f = (n : Int) := ⟨f.toNat, by omega⟩
                      rw [hib, hje, hnf]
                      refine pst_l1 hT (s := s) (i := i) (t := t) (j := j) (n := n) hs (by omega) hp (fun p1 g1 f1 => ?_) (n + 1) 0 m (by omega) (by omega) (fun _ _ _ => rfl) (fun q hq => absurd hq (Nat.not_lt_zero _))
                      have hp1 : PinR p1 := fun o q hq => (g1 o q (fun z => hq (by rw [z]; exact pin_no (by decide) q))).trans (hp o q hq)
                      refine gx_st (L' := [(2, 192), (0, (s : Int)), (0, (i : Int)), (0, (t : Int)), (0, (j : Int)), (0, (n : Int)), (0, (n : Int))]) (S' := [(0, 0)]) r_230_147 rfl rfl rfl ?_
                      refine gx_st (L' := [(2, 192), (0, (s : Int)), (0, (i : Int)), (0, (t : Int)), (0, (j : Int)), (0, (n : Int)), (0, 0)]) (S' := []) r_230_148 rfl rfl rfl ?_
                      refine pst_l2 hT (s := s) (i := i) (t := t) (j := j) (n := n) ht (by omega) hp1 (fun p2 g2 f2 => ?_) (n + 1) 0 p1 (by omega) (by omega) (fun _ _ _ => rfl) (fun q hq => absurd hq (Nat.not_lt_zero _))
                      refine gx_st (L' := [(2, 192), (0, (s : Int)), (0, (i : Int)), (0, (t : Int)), (0, (j : Int)), (0, (n : Int)), (0, (n : Int))]) (S' := [(0, 0)]) r_230_185 rfl rfl rfl ?_
                      refine gx_rt r_230_186 rfl rfl ⟨_, rfl, fun z => by omega, fun i2 j2 h1 h2 h3 h4 => ?_⟩
                      have ei : i2 = s := by omega
                      have ej : j2 = t := by omega
                      rw [ei, ej]
                      refine ⟨fun z => absurd ⟨by omega, by omega, by omega, by omega, by omega, by omega, by omega, by omega⟩ z, fun x y n2 h5 h6 h7 _ p k hk => ?_⟩
                      have e5 : x = i := by omega
                      have e6 : y = j := by omega
                      have e7 : n2 = n := by omega
                      rw [e5, e6, e7]
                      by_cases z : p = 211 ∧ 60 * t + j ≤ k ∧ k < 60 * t + j + n
                      · rw [if_pos z, z.1]
                        have w := f2 (k - (60 * t + j)) (by omega)
                        rw [show 60 * t + j + (k - (60 * t + j)) = k by omega] at w
                        rw [w, f1 _ (by omega)]
                      · rw [if_neg z, g2 p k z, g1 p k hk]
                    · refine gx_st (L' := [(2, 192), (0, (s : Int)), (0, b), (0, (t : Int)), (0, e), (0, f), (9, 0)]) (S' := [(0, (-7))]) r_230_107 rfl rfl rfl ?_
                      refine gx_rt r_230_109 rfl rfl ⟨_, rfl, fun z => by omega, fun i2 j2 h1 h2 h3 h4 => ?_⟩
                      have ei : i2 = s := by omega
                      have ej : j2 = t := by omega
                      rw [ei, ej]
                      exact ⟨fun _ => rfl, fun x y n2 h5 h6 h7 z => by unfold PstO at z; omega⟩
          · refine gx_st (L' := [(2, 192), (0, (s : Int)), (0, b), (0, (t : Int)), (0, e), (0, f), (9, 0)]) (S' := [(0, (-8))]) r_230_55 rfl rfl rfl ?_
            refine gx_rt r_230_57 rfl rfl ⟨_, rfl, fun z => by omega, fun i2 j2 h1 h2 h3 h4 => ?_⟩
            have ei : i2 = s := by omega
            have ej : j2 = t := by omega
            rw [ei, ej]
            exact ⟨fun _ => rfl, fun x y n2 h5 h6 h7 z => by unfold PstO at z; omega⟩
        · have h34 := Decidable.not_not.mp h34
          refine gx_st (L' := [(2, 192), (0, (s : Int)), (0, b), (0, (t : Int)), (0, e), (0, f), (9, 0)]) (S' := [(0, (-6))]) r_230_37 rfl rfl rfl ?_
          refine gx_rt r_230_39 rfl rfl ⟨_, rfl, fun z => by omega, fun i2 j2 h1 h2 h3 h4 => ?_⟩
          have ei : i2 = s := by omega
          have ej : j2 = t := by omega
          rw [ei, ej]
          exact ⟨fun _ => rfl, fun x y n2 h5 h6 h7 z => by unfold PstO at z; omega⟩
    · refine gx_st (L' := [(2, 192), (0, a), (0, b), (0, c), (0, e), (0, f), (9, 0)]) (S' := [(0, (-2))]) r_230_14 rfl rfl rfl ?_
      exact gx_rt r_230_16 rfl rfl ⟨_, rfl, fun _ => rfl, fun i j h1 h2 h3 h4 => by omega⟩
end HOLD
/-- both sides' rows hold the same -/
def SN (m : Mm) : Prop := ∀ i : Nat, i < 4 → ∀ k : Nat, k < 60 → m 211 (60 * i + k) = m (146 + 2 * i + 1) k
theorem fr_slk {W : List Nat} {m m' : Mm} (h : Fr W m m') (h1 : W.contains 75999 = false) {k : Nat} (hk : k < 4) (j : Nat) : m' (146 + 2 * k + 1) j = m (146 + 2 * k + 1) j := by
  rcases (show k = 0 ∨ k = 1 ∨ k = 2 ∨ k = 3 by omega) with rfl | rfl | rfl | rfl
  · exact h 147 j h1
  · exact h 149 j h1
  · exact h 151 j h1
  · exact h 153 j h1
theorem SN_fr {W : List Nat} {m m' : Mm} (h : Fr W m m') (h1 : W.contains 75999 = false) (h2 : W.contains 109999 = false) (r : SN m) : SN m' := fun i hi k hk => by
  rw [h 211 _ h2, fr_slk h h1 hi]; exact r i hi k hk
