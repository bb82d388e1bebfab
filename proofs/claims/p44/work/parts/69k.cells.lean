/-! rows of numbers exactly -/
theorem r_237_0 : row 237 0 = some (.iload_n 1, 1, 0, 0, 0, 0) := rfl
theorem r_237_1 : row 237 1 = some (.ifCond .lt 15, 4, 16, 0, 0, 0) := rfl
theorem r_237_4 : row 237 4 = some (.iload_n 1, 5, 0, 0, 0, 0) := rfl
theorem r_237_5 : row 237 5 = some (.aload_n 0, 6, 0, 0, 0, 0) := rfl
theorem r_237_6 : row 237 6 = some (.arraylength, 7, 0, 0, 0, 0) := rfl
theorem r_237_7 : row 237 7 = some (.if_icmp .ge 9, 10, 16, 0, 0, 0) := rfl
theorem r_237_10 : row 237 10 = some (.aload_n 0, 11, 0, 0, 0, 0) := rfl
theorem r_237_11 : row 237 11 = some (.iload_n 1, 12, 0, 0, 0, 0) := rfl
theorem r_237_12 : row 237 12 = some (.iaload, 13, 0, 0, 0, 0) := rfl
theorem r_237_13 : row 237 13 = some (.goto 4, 16, 17, 0, 0, 0) := rfl
theorem r_237_16 : row 237 16 = some (.iconst 0, 17, 0, 0, 0, 0) := rfl
theorem r_237_17 : row 237 17 = some (.ireturn, 18, 0, 0, 0, 0) := rfl
theorem r_238_0 : row 238 0 = some (.iload_n 1, 1, 0, 0, 0, 0) := rfl
theorem r_238_1 : row 238 1 = some (.ifCond .lt 13, 4, 14, 0, 0, 0) := rfl
theorem r_238_4 : row 238 4 = some (.iload_n 1, 5, 0, 0, 0, 0) := rfl
theorem r_238_5 : row 238 5 = some (.aload_n 0, 6, 0, 0, 0, 0) := rfl
theorem r_238_6 : row 238 6 = some (.arraylength, 7, 0, 0, 0, 0) := rfl
theorem r_238_7 : row 238 7 = some (.if_icmp .ge 7, 10, 14, 0, 0, 0) := rfl
theorem r_238_10 : row 238 10 = some (.aload_n 0, 11, 0, 0, 0, 0) := rfl
theorem r_238_11 : row 238 11 = some (.iload_n 1, 12, 0, 0, 0, 0) := rfl
theorem r_238_12 : row 238 12 = some (.iload_n 2, 13, 0, 0, 0, 0) := rfl
theorem r_238_13 : row 238 13 = some (.iastore, 14, 0, 0, 0, 0) := rfl
theorem r_238_14 : row 238 14 = some (.return_, 15, 0, 0, 0, 0) := rfl
theorem r_239_0 : row 239 0 = some (.iload_n 1, 1, 0, 0, 0, 0) := rfl
theorem r_239_1 : row 239 1 = some (.ifCond .lt 16, 4, 17, 0, 0, 0) := rfl
theorem r_239_4 : row 239 4 = some (.iload_n 1, 5, 0, 0, 0, 0) := rfl
theorem r_239_5 : row 239 5 = some (.aload_n 0, 6, 0, 0, 0, 0) := rfl
theorem r_239_6 : row 239 6 = some (.arraylength, 7, 0, 0, 0, 0) := rfl
theorem r_239_7 : row 239 7 = some (.if_icmp .ge 10, 10, 17, 0, 0, 0) := rfl
theorem r_239_10 : row 239 10 = some (.aload_n 0, 11, 0, 0, 0, 0) := rfl
theorem r_239_11 : row 239 11 = some (.iload_n 1, 12, 0, 0, 0, 0) := rfl
theorem r_239_12 : row 239 12 = some (.dup2, 13, 0, 0, 0, 0) := rfl
theorem r_239_13 : row 239 13 = some (.iaload, 14, 0, 0, 0, 0) := rfl
theorem r_239_14 : row 239 14 = some (.iload_n 2, 15, 0, 0, 0, 0) := rfl
theorem r_239_15 : row 239 15 = some (.iadd, 16, 0, 0, 0, 0) := rfl
theorem r_239_16 : row 239 16 = some (.iastore, 17, 0, 0, 0, 0) := rfl
theorem r_239_17 : row 239 17 = some (.return_, 18, 0, 0, 0, 0) := rfl
theorem r_240_0 : row 240 0 = some (.iconst 0, 1, 0, 0, 0, 0) := rfl
theorem r_240_1 : row 240 1 = some (.istore_n 2, 2, 0, 0, 0, 0) := rfl
theorem r_240_2 : row 240 2 = some (.iload_n 2, 3, 0, 0, 0, 0) := rfl
theorem r_240_3 : row 240 3 = some (.aload_n 0, 4, 0, 0, 0, 0) := rfl
theorem r_240_4 : row 240 4 = some (.arraylength, 5, 0, 0, 0, 0) := rfl
theorem r_240_5 : row 240 5 = some (.if_icmp .ge 13, 8, 18, 0, 0, 0) := rfl
theorem r_240_8 : row 240 8 = some (.aload_n 0, 9, 0, 0, 0, 0) := rfl
theorem r_240_9 : row 240 9 = some (.iload_n 2, 10, 0, 0, 0, 0) := rfl
theorem r_240_10 : row 240 10 = some (.iload_n 1, 11, 0, 0, 0, 0) := rfl
theorem r_240_11 : row 240 11 = some (.iastore, 12, 0, 0, 0, 0) := rfl
theorem r_240_12 : row 240 12 = some (.iinc 2 1, 15, 0, 0, 0, 0) := rfl
theorem r_240_15 : row 240 15 = some (.goto (-13), 18, 2, 0, 0, 0) := rfl
theorem r_240_18 : row 240 18 = some (.return_, 19, 0, 0, 0, 0) := rfl
theorem r_241_0 : row 241 0 = some (.aload_n 0, 1, 0, 0, 0, 0) := rfl
theorem r_241_1 : row 241 1 = some (.iconst 0, 2, 0, 0, 0, 0) := rfl
theorem r_241_2 : row 241 2 = some (.aload_n 1, 3, 0, 0, 0, 0) := rfl
theorem r_241_3 : row 241 3 = some (.iconst 0, 4, 0, 0, 0, 0) := rfl
theorem r_241_4 : row 241 4 = some (.aload_n 0, 5, 0, 0, 0, 0) := rfl
theorem r_241_5 : row 241 5 = some (.arraylength, 6, 0, 0, 0, 0) := rfl
theorem r_241_6 : row 241 6 = some (.aload_n 1, 7, 0, 0, 0, 0) := rfl
theorem r_241_7 : row 241 7 = some (.arraylength, 8, 0, 0, 0, 0) := rfl
theorem r_241_8 : row 241 8 = some (.invokestatic 7, 11, (-4), 2, 0, 3153) := rfl
theorem r_241_11 : row 241 11 = some (.invokestatic 13, 14, (-2), 5, 0, 3154) := rfl
theorem r_241_14 : row 241 14 = some (.return_, 15, 0, 0, 0, 0) := rfl
section CELLS
variable {T : List Kd} {m : Mm}
theorem c_237 {r n : Nat} (hr : T[r]? = some (100, n)) (hr0 : 0 < r) (hn : n ≤ 900) {k : Nat} (hk : k < n) : GX T 0 237 0 [(2, (r : Int)), (0, (k : Int))] [] m (RI (fun v m1 => v = m r k ∧ m1 = m)) := by
  refine gx_st (L' := [(2, (r : Int)), (0, (k : Int))]) (S' := [(0, (k : Int))]) r_237_0 rfl rfl rfl ?_
  refine gx_i0 (P := (k : Int) < 0) r_237_1 (rfl) (fun h1 => ?_) (fun h1 => ?_)
  · omega
  · refine gx_st (L' := [(2, (r : Int)), (0, (k : Int))]) (S' := [(0, (k : Int))]) r_237_4 rfl rfl rfl ?_
    refine gx_st (L' := [(2, (r : Int)), (0, (k : Int))]) (S' := [(2, (r : Int)), (0, (k : Int))]) r_237_5 rfl rfl rfl ?_
    refine gx_al r_237_6 (rfl) hr ⟨by show 100 ≤ 100; decide, by show n < 2147483648; omega, by show 100 < 108; decide⟩ ?_
    show GX T 0 237 7 [(2, (r : Int)), (0, (k : Int))] [(0, (n : Int)), (0, (k : Int))] m (RI (fun v m1 => v = m r k ∧ m1 = m))
    refine gx_ic (P := (n : Int) ≤ (k : Int)) r_237_7 (rfl) (fun h7 => ?_) (fun h7 => ?_)
    · omega
    · refine gx_st (L' := [(2, (r : Int)), (0, (k : Int))]) (S' := [(2, (r : Int))]) r_237_10 rfl rfl rfl ?_
      refine gx_st (L' := [(2, (r : Int)), (0, (k : Int))]) (S' := [(0, (k : Int)), (2, (r : Int))]) r_237_11 rfl rfl rfl ?_
      refine gx_ia (n := k) (x := (m r k)) r_237_12 (rfl) hr (by omega) ⟨rfl, by omega⟩ (rfl) ?_
      refine gx_st (L' := [(2, (r : Int)), (0, (k : Int))]) (S' := [(0, (m r k))]) r_237_13 rfl rfl rfl ?_
      exact gx_rt r_237_17 rfl rfl ⟨_, rfl, ⟨rfl, rfl⟩⟩
theorem c_237o {r n : Nat} (hr : T[r]? = some (100, n)) (hr0 : 0 < r) (hn : n ≤ 900) {i : Int} (hi : i < 0 ∨ (n : Int) ≤ i) : GX T 0 237 0 [(2, (r : Int)), (0, i)] [] m (RI (fun v m1 => v = 0 ∧ m1 = m)) := by
  refine gx_st (L' := [(2, (r : Int)), (0, i)]) (S' := [(0, i)]) r_237_0 rfl rfl rfl ?_
  refine gx_i0 (P := i < 0) r_237_1 (rfl) (fun h1 => ?_) (fun h1 => ?_)
  · refine gx_st (L' := [(2, (r : Int)), (0, i)]) (S' := [(0, 0)]) r_237_16 rfl rfl rfl ?_
    exact gx_rt r_237_17 rfl rfl ⟨_, rfl, ⟨rfl, rfl⟩⟩
  · refine gx_st (L' := [(2, (r : Int)), (0, i)]) (S' := [(0, i)]) r_237_4 rfl rfl rfl ?_
    refine gx_st (L' := [(2, (r : Int)), (0, i)]) (S' := [(2, (r : Int)), (0, i)]) r_237_5 rfl rfl rfl ?_
    refine gx_al r_237_6 (rfl) hr ⟨by show 100 ≤ 100; decide, by show n < 2147483648; omega, by show 100 < 108; decide⟩ ?_
    show GX T 0 237 7 [(2, (r : Int)), (0, i)] [(0, (n : Int)), (0, i)] m (RI (fun v m1 => v = 0 ∧ m1 = m))
    refine gx_ic (P := (n : Int) ≤ i) r_237_7 (rfl) (fun h7 => ?_) (fun h7 => ?_)
    · refine gx_st (L' := [(2, (r : Int)), (0, i)]) (S' := [(0, 0)]) r_237_16 rfl rfl rfl ?_
      exact gx_rt r_237_17 rfl rfl ⟨_, rfl, ⟨rfl, rfl⟩⟩
    · omega
theorem c_238 {r n : Nat} (hr : T[r]? = some (100, n)) (hr0 : 0 < r) (hn : n ≤ 900) {k : Nat} (hk : k < n) (x : Int) : GX T 0 238 0 [(2, (r : Int)), (0, (k : Int)), (0, x)] [] m (RV (fun m1 => m1 = nu_up m r k x)) := by
  refine gx_st (L' := [(2, (r : Int)), (0, (k : Int)), (0, x)]) (S' := [(0, (k : Int))]) r_238_0 rfl rfl rfl ?_
  refine gx_i0 (P := (k : Int) < 0) r_238_1 (rfl) (fun h1 => ?_) (fun h1 => ?_)
  · omega
  · refine gx_st (L' := [(2, (r : Int)), (0, (k : Int)), (0, x)]) (S' := [(0, (k : Int))]) r_238_4 rfl rfl rfl ?_
    refine gx_st (L' := [(2, (r : Int)), (0, (k : Int)), (0, x)]) (S' := [(2, (r : Int)), (0, (k : Int))]) r_238_5 rfl rfl rfl ?_
    refine gx_al r_238_6 (rfl) hr ⟨by show 100 ≤ 100; decide, by show n < 2147483648; omega, by show 100 < 108; decide⟩ ?_
    show GX T 0 238 7 [(2, (r : Int)), (0, (k : Int)), (0, x)] [(0, (n : Int)), (0, (k : Int))] m (RV (fun m1 => m1 = nu_up m r k x))
    refine gx_ic (P := (n : Int) ≤ (k : Int)) r_238_7 (rfl) (fun h7 => ?_) (fun h7 => ?_)
    · omega
    · refine gx_st (L' := [(2, (r : Int)), (0, (k : Int)), (0, x)]) (S' := [(2, (r : Int))]) r_238_10 rfl rfl rfl ?_
      refine gx_st (L' := [(2, (r : Int)), (0, (k : Int)), (0, x)]) (S' := [(0, (k : Int)), (2, (r : Int))]) r_238_11 rfl rfl rfl ?_
      refine gx_st (L' := [(2, (r : Int)), (0, (k : Int)), (0, x)]) (S' := [(0, x), (0, (k : Int)), (2, (r : Int))]) r_238_12 rfl rfl rfl ?_
      obtain ⟨m1, e_m1⟩ : ∃ z, z = nu_up m r k x := ⟨_, rfl⟩
      refine gx_is (n := k) (x := x) r_238_13 (rfl) (by omega) hr (by omega) ⟨rfl, by omega⟩ e_m1.symm ?_
      exact gx_rt r_238_14 rfl rfl ⟨rfl, e_m1⟩
theorem c_238o {r n : Nat} (hr : T[r]? = some (100, n)) (hr0 : 0 < r) (hn : n ≤ 900) {i : Int} (hi : i < 0 ∨ (n : Int) ≤ i) (x : Int) : GX T 0 238 0 [(2, (r : Int)), (0, i), (0, x)] [] m (RV (fun m1 => m1 = m)) := by
  refine gx_st (L' := [(2, (r : Int)), (0, i), (0, x)]) (S' := [(0, i)]) r_238_0 rfl rfl rfl ?_
  refine gx_i0 (P := i < 0) r_238_1 (rfl) (fun h1 => ?_) (fun h1 => ?_)
  · exact gx_rt r_238_14 rfl rfl ⟨rfl, rfl⟩
  · refine gx_st (L' := [(2, (r : Int)), (0, i), (0, x)]) (S' := [(0, i)]) r_238_4 rfl rfl rfl ?_
    refine gx_st (L' := [(2, (r : Int)), (0, i), (0, x)]) (S' := [(2, (r : Int)), (0, i)]) r_238_5 rfl rfl rfl ?_
    refine gx_al r_238_6 (rfl) hr ⟨by show 100 ≤ 100; decide, by show n < 2147483648; omega, by show 100 < 108; decide⟩ ?_
    show GX T 0 238 7 [(2, (r : Int)), (0, i), (0, x)] [(0, (n : Int)), (0, i)] m (RV (fun m1 => m1 = m))
    refine gx_ic (P := (n : Int) ≤ i) r_238_7 (rfl) (fun h7 => ?_) (fun h7 => ?_)
    · exact gx_rt r_238_14 rfl rfl ⟨rfl, rfl⟩
    · omega
theorem c_239 {r n : Nat} (hr : T[r]? = some (100, n)) (hr0 : 0 < r) (hn : n ≤ 900) {k : Nat} (hk : k < n) (x : Int) : GX T 0 239 0 [(2, (r : Int)), (0, (k : Int)), (0, x)] [] m (RV (fun m1 => m1 = nu_up m r k (w32 (m r k + x)))) := by
  refine gx_st (L' := [(2, (r : Int)), (0, (k : Int)), (0, x)]) (S' := [(0, (k : Int))]) r_239_0 rfl rfl rfl ?_
  refine gx_i0 (P := (k : Int) < 0) r_239_1 (rfl) (fun h1 => ?_) (fun h1 => ?_)
  · omega
  · refine gx_st (L' := [(2, (r : Int)), (0, (k : Int)), (0, x)]) (S' := [(0, (k : Int))]) r_239_4 rfl rfl rfl ?_
    refine gx_st (L' := [(2, (r : Int)), (0, (k : Int)), (0, x)]) (S' := [(2, (r : Int)), (0, (k : Int))]) r_239_5 rfl rfl rfl ?_
    refine gx_al r_239_6 (rfl) hr ⟨by show 100 ≤ 100; decide, by show n < 2147483648; omega, by show 100 < 108; decide⟩ ?_
    show GX T 0 239 7 [(2, (r : Int)), (0, (k : Int)), (0, x)] [(0, (n : Int)), (0, (k : Int))] m (RV (fun m1 => m1 = nu_up m r k (w32 (m r k + x))))
    refine gx_ic (P := (n : Int) ≤ (k : Int)) r_239_7 (rfl) (fun h7 => ?_) (fun h7 => ?_)
    · omega
    · refine gx_st (L' := [(2, (r : Int)), (0, (k : Int)), (0, x)]) (S' := [(2, (r : Int))]) r_239_10 rfl rfl rfl ?_
      refine gx_st (L' := [(2, (r : Int)), (0, (k : Int)), (0, x)]) (S' := [(0, (k : Int)), (2, (r : Int))]) r_239_11 rfl rfl rfl ?_
      refine gx_st (L' := [(2, (r : Int)), (0, (k : Int)), (0, x)]) (S' := [(0, (k : Int)), (2, (r : Int)), (0, (k : Int)), (2, (r : Int))]) r_239_12 rfl rfl rfl ?_
      refine gx_ia (n := k) (x := (m r k)) r_239_13 (rfl) hr (by omega) ⟨rfl, by omega⟩ (rfl) ?_
      refine gx_st (L' := [(2, (r : Int)), (0, (k : Int)), (0, x)]) (S' := [(0, x), (0, (m r k)), (0, (k : Int)), (2, (r : Int))]) r_239_14 rfl rfl rfl ?_
      refine gx_st (L' := [(2, (r : Int)), (0, (k : Int)), (0, x)]) (S' := [(0, (w32 ((m r k) + x))), (0, (k : Int)), (2, (r : Int))]) r_239_15 rfl rfl rfl ?_
      have k15 := w32_in ((m r k) + x)
      unfold in32 at k15
      obtain ⟨m1, e_m1⟩ : ∃ z, z = nu_up m r k ((w32 ((m r k) + x))) := ⟨_, rfl⟩
      refine gx_is (n := k) (x := (w32 ((m r k) + x))) r_239_16 (rfl) (by omega) hr (by omega) ⟨rfl, by omega⟩ e_m1.symm ?_
      exact gx_rt r_239_17 rfl rfl ⟨rfl, e_m1⟩
theorem c_240l {r n : Nat} (hr : T[r]? = some (100, n)) (hr0 : 0 < r) (hn : n ≤ 900) {x : Int} {m0 : Mm} : ∀ (N k : Nat) (m : Mm), n - k < N → k ≤ n → (∀ p j : Nat, ¬ p = r → m p j = m0 p j) → (∀ i : Nat, i < k → m r i = x) → GX T 0 240 2 [(2, (r : Int)), (0, x), (0, (k : Int))] [] m (RV (fun m1 => (∀ i : Nat, i < n → m1 r i = x) ∧ ∀ p j : Nat, ¬ p = r → m1 p j = m0 p j)) := by
  intro N
  induction N with
  | zero => intro k  m hN; exact absurd hN (Nat.not_lt_zero _)
  | succ N ih =>
    intro k  m hN hk i1 i2
    refine gx_st (L' := [(2, (r : Int)), (0, x), (0, (k : Int))]) (S' := [(0, (k : Int))]) r_240_2 rfl rfl rfl ?_
    refine gx_st (L' := [(2, (r : Int)), (0, x), (0, (k : Int))]) (S' := [(2, (r : Int)), (0, (k : Int))]) r_240_3 rfl rfl rfl ?_
    refine gx_al r_240_4 (rfl) hr ⟨by show 100 ≤ 100; decide, by show n < 2147483648; omega, by show 100 < 108; decide⟩ ?_
    show GX T 0 240 5 [(2, (r : Int)), (0, x), (0, (k : Int))] [(0, (n : Int)), (0, (k : Int))] m (RV (fun m1 => (∀ i : Nat, i < n → m1 r i = x) ∧ ∀ p j : Nat, ¬ p = r → m1 p j = m0 p j))
    refine gx_ic (P := (n : Int) ≤ (k : Int)) r_240_5 (rfl) (fun h5 => ?_) (fun h5 => ?_)
    · exact gx_rt r_240_18 rfl rfl ⟨rfl, fun i hi => i2 i (by omega), i1⟩
    · refine gx_st (L' := [(2, (r : Int)), (0, x), (0, (k : Int))]) (S' := [(2, (r : Int))]) r_240_8 rfl rfl rfl ?_
      refine gx_st (L' := [(2, (r : Int)), (0, x), (0, (k : Int))]) (S' := [(0, (k : Int)), (2, (r : Int))]) r_240_9 rfl rfl rfl ?_
      refine gx_st (L' := [(2, (r : Int)), (0, x), (0, (k : Int))]) (S' := [(0, x), (0, (k : Int)), (2, (r : Int))]) r_240_10 rfl rfl rfl ?_
      obtain ⟨m1, e_m1⟩ : ∃ z, z = nu_up m r k x := ⟨_, rfl⟩
      refine gx_is (n := k) (x := x) r_240_11 (rfl) (by omega) hr (by omega) ⟨rfl, by omega⟩ e_m1.symm ?_
      refine gx_li (z := (k : Int) + 1) (L' := [(2, (r : Int)), (0, x), (0, (k : Int) + 1)]) r_240_12 rfl (w32_eq (by omega) (by omega) (by omega)) rfl ?_
      refine gx_st (L' := [(2, (r : Int)), (0, x), (0, (k : Int) + 1)]) (S' := []) r_240_15 rfl rfl rfl ?_
      rw [show (k : Int) + 1 = ((k + 1 : Nat) : Int) from rfl]
      refine ih (k + 1)  m1 (by omega) (by omega) (fun p j hp => by rw [e_m1, nu_no hp]; exact i1 p j hp) ?_
      · intro i hi
        rw [e_m1]
        by_cases e : i = k
        · rw [e, nu_at]
        · rw [nu_ne e]; exact i2 i (by omega)
theorem c_240 {r n : Nat} (hr : T[r]? = some (100, n)) (hr0 : 0 < r) (hn : n ≤ 900) (x : Int) : GX T 0 240 0 [(2, (r : Int)), (0, x), (9, 0)] [] m (RV (fun m1 => (∀ i : Nat, i < n → m1 r i = x) ∧ ∀ p j : Nat, ¬ p = r → m1 p j = m p j)) := by
  refine gx_st (L' := [(2, (r : Int)), (0, x), (9, 0)]) (S' := [(0, 0)]) r_240_0 rfl rfl rfl ?_
  refine gx_st (L' := [(2, (r : Int)), (0, x), (0, 0)]) (S' := []) r_240_1 rfl rfl rfl ?_
  exact c_240l hr hr0 hn (m0 := m) (n + 1) 0 m (by omega) (by omega) (fun _ _ _ => rfl) (fun i hi => absurd hi (Nat.not_lt_zero _))
theorem spc_2a {nx : Nat} {a : Int} {L S : List AV} {f g c : Nat} (ha : a = -2) (hkf : T[f]? = some (100, c)) (hkg : T[g]? = some (100, c)) (hf : 0 < f) (hg : 0 < g) (hc : csum S ≤ 8) : spc nx a L ((0, (c : Int)) :: (0, 0) :: (2, (g : Int)) :: (0, 0) :: (2, (f : Int)) :: S) T m = some (nx, L, S, T, cpy m f g 0 0 c) := by
  have e1 : pp 0 ((0, (c : Int)) :: (0, 0) :: (2, (g : Int)) :: (0, 0) :: (2, (f : Int)) :: S) = some ((c : Int), (0, 0) :: (2, (g : Int)) :: (0, 0) :: (2, (f : Int)) :: S) := rfl
  have e2 : pp 0 ((0, (0 : Int)) :: (2, (g : Int)) :: (0, 0) :: (2, (f : Int)) :: S) = some ((0 : Int), (2, (g : Int)) :: (0, 0) :: (2, (f : Int)) :: S) := rfl
  have e3 : pp 2 ((2, (g : Int)) :: (0, 0) :: (2, (f : Int)) :: S) = some ((g : Int), (0, 0) :: (2, (f : Int)) :: S) := rfl
  have e4 : pp 0 ((0, (0 : Int)) :: (2, (f : Int)) :: S) = some ((0 : Int), (2, (f : Int)) :: S) := rfl
  have e5 : pp 2 ((2, (f : Int)) :: S) = some ((f : Int), S) := rfl
  have e6 : T[(f : Int).toNat]? = some (100, c) := hkf
  have e7 : T[(g : Int).toNat]? = some (100, c) := hkg
  unfold spc
  rw [if_neg (by omega), if_pos ha, e1]
  simp only [Option.bind_eq_bind, Option.bind_some, e2, e3, e4, e5, e6, e7]
  rw [if_pos ⟨hc, by omega, by omega, trivial, Or.inl trivial, by omega, by omega, by omega, by show 0 + c ≤ c; omega, by show 0 + c ≤ c; omega⟩]
  rfl
theorem gx_ca {d j pc nx ii b c0 w : Nat} {L S : List AV} {Q : AV → Mm → Prop} {f g c : Nat} (hx : row j pc = some (.invokestatic ii, nx, -2, b, c0, w)) (hkf : T[f]? = some (100, c)) (hkg : T[g]? = some (100, c)) (hf : 0 < f) (hg : 0 < g) (hc : csum S ≤ 8) (h : GX T d j nx L S (cpy m f g 0 0 c) Q) : GX T d j pc L ((0, (c : Int)) :: (0, 0) :: (2, (g : Int)) :: (0, 0) :: (2, (f : Int)) :: S) m Q := by
  obtain ⟨v, mf, h, gq⟩ := h
  exact ⟨v, mf, Rn_step hx rfl rfl ((stp_is ⟨by decide, by decide⟩).trans (spc_2a rfl hkf hkg hf hg hc)) h, gq⟩
theorem cpy_at {f g c k : Nat} (hk : k < c) : cpy m f g 0 0 c g k = m f k := by
  unfold cpy
  rw [if_pos rfl, if_pos ⟨Nat.zero_le _, by omega⟩]
  rw [show 0 + (k - 0) = k by omega]
theorem cpy_no {f g c p k : Nat} (h : ¬ p = g) : cpy m f g 0 0 c p k = m p k := by
  unfold cpy
  rw [if_neg h]
theorem c_241 {r n : Nat} (hr : T[r]? = some (100, n)) (hr0 : 0 < r) (hn : n ≤ 900) {g : Nat} (hg : T[g]? = some (100, n)) (hg0 : 0 < g) : GX T 0 241 0 [(2, (r : Int)), (2, (g : Int))] [] m (RV (fun m1 => (∀ k : Nat, k < n → m1 g k = m r k) ∧ ∀ p j : Nat, ¬ p = g → m1 p j = m p j)) := by
  refine gx_st (L' := [(2, (r : Int)), (2, (g : Int))]) (S' := [(2, (r : Int))]) r_241_0 rfl rfl rfl ?_
  refine gx_st (L' := [(2, (r : Int)), (2, (g : Int))]) (S' := [(0, 0), (2, (r : Int))]) r_241_1 rfl rfl rfl ?_
  refine gx_st (L' := [(2, (r : Int)), (2, (g : Int))]) (S' := [(2, (g : Int)), (0, 0), (2, (r : Int))]) r_241_2 rfl rfl rfl ?_
  refine gx_st (L' := [(2, (r : Int)), (2, (g : Int))]) (S' := [(0, 0), (2, (g : Int)), (0, 0), (2, (r : Int))]) r_241_3 rfl rfl rfl ?_
  refine gx_st (L' := [(2, (r : Int)), (2, (g : Int))]) (S' := [(2, (r : Int)), (0, 0), (2, (g : Int)), (0, 0), (2, (r : Int))]) r_241_4 rfl rfl rfl ?_
  refine gx_al r_241_5 (rfl) hr ⟨by show 100 ≤ 100; decide, by show n < 2147483648; omega, by show 100 < 108; decide⟩ ?_
  show GX T 0 241 6 [(2, (r : Int)), (2, (g : Int))] [(0, (n : Int)), (0, 0), (2, (g : Int)), (0, 0), (2, (r : Int))] m (RV (fun m1 => (∀ k : Nat, k < n → m1 g k = m r k) ∧ ∀ p j : Nat, ¬ p = g → m1 p j = m p j))
  refine gx_st (L' := [(2, (r : Int)), (2, (g : Int))]) (S' := [(2, (g : Int)), (0, (n : Int)), (0, 0), (2, (g : Int)), (0, 0), (2, (r : Int))]) r_241_6 rfl rfl rfl ?_
  refine gx_al r_241_7 (rfl) hg ⟨by show 100 ≤ 100; decide, by show n < 2147483648; omega, by show 100 < 108; decide⟩ ?_
  show GX T 0 241 8 [(2, (r : Int)), (2, (g : Int))] [(0, (n : Int)), (0, (n : Int)), (0, 0), (2, (g : Int)), (0, 0), (2, (r : Int))] m (RV (fun m1 => (∀ k : Nat, k < n → m1 g k = m r k) ∧ ∀ p j : Nat, ¬ p = g → m1 p j = m p j))
  refine gx_ar (L' := [(2, (r : Int)), (2, (g : Int))]) (S' := [(0, 0), (2, (g : Int)), (0, 0), (2, (r : Int))]) (t := 0) (e := min (n : Int) (n : Int)) (z := (n : Int)) r_241_8 rfl rfl rfl (by omega) ?_
  refine gx_ca r_241_11 hr hg hr0 hg0 (Nat.le_of_ble_eq_true rfl) ?_
  exact gx_rt r_241_14 rfl rfl ⟨rfl, fun k hk => cpy_at hk, fun p j hp => cpy_no hp⟩
end CELLS
