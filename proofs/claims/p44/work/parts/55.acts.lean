/-! acts of the reference: undo, anew, grow, keepAct -/
theorem r_146_0 : row 146 0 = some (.aload_n 0, 1, 0, 0, 0, 0) := rfl
theorem r_146_1 : row 146 1 = some (.invokevirtual 324, 4, 143, 0, 0, 7082) := rfl
theorem r_146_4 : row 146 4 = some (.aload_n 0, 5, 0, 0, 0, 0) := rfl
theorem r_146_5 : row 146 5 = some (.invokevirtual 327, 8, 145, 0, 0, 7086) := rfl
theorem r_146_8 : row 146 8 = some (.aload_n 0, 9, 0, 0, 0, 0) := rfl
theorem r_146_9 : row 146 9 = some (.invokevirtual 86, 12, 90, 0, 0, 7025) := rfl
theorem r_146_12 : row 146 12 = some (.ireturn, 13, 0, 0, 0, 0) := rfl
theorem r_213_0 : row 213 0 = some (.iconst 0, 1, 0, 0, 0, 0) := rfl
theorem r_213_1 : row 213 1 = some (.istore_n 2, 2, 0, 0, 0, 0) := rfl
theorem r_213_2 : row 213 2 = some (.iload_n 2, 3, 0, 0, 0, 0) := rfl
theorem r_213_3 : row 213 3 = some (.aload_n 0, 4, 0, 0, 0, 0) := rfl
theorem r_213_4 : row 213 4 = some (.getfield 9, 7, 10, 1, 2, 6002) := rfl
theorem r_213_7 : row 213 7 = some (.bipush 8, 9, 8, 0, 0, 0) := rfl
theorem r_213_9 : row 213 9 = some (.iaload, 10, 0, 0, 0, 0) := rfl
theorem r_213_10 : row 213 10 = some (.if_icmp .ge 27, 13, 37, 0, 0, 0) := rfl
theorem r_213_13 : row 213 13 = some (.aload_n 0, 14, 0, 0, 0, 0) := rfl
theorem r_213_14 : row 213 14 = some (.getfield 9, 17, 10, 1, 2, 6002) := rfl
theorem r_213_17 : row 213 17 = some (.bipush 57, 19, 57, 0, 0, 0) := rfl
theorem r_213_19 : row 213 19 = some (.iload_n 2, 20, 0, 0, 0, 0) := rfl
theorem r_213_20 : row 213 20 = some (.iadd, 21, 0, 0, 0, 0) := rfl
theorem r_213_21 : row 213 21 = some (.iaload, 22, 0, 0, 0, 0) := rfl
theorem r_213_22 : row 213 22 = some (.bipush 100, 24, 100, 0, 0, 0) := rfl
theorem r_213_24 : row 213 24 = some (.idiv, 25, 0, 0, 0, 0) := rfl
theorem r_213_25 : row 213 25 = some (.iload_n 1, 26, 0, 0, 0, 0) := rfl
theorem r_213_26 : row 213 26 = some (.if_icmp .ne 5, 29, 31, 0, 0, 0) := rfl
theorem r_213_29 : row 213 29 = some (.iconst 1, 30, 1, 0, 0, 0) := rfl
theorem r_213_30 : row 213 30 = some (.ireturn, 31, 0, 0, 0, 0) := rfl
theorem r_213_31 : row 213 31 = some (.iinc 2 1, 34, 0, 0, 0, 0) := rfl
theorem r_213_34 : row 213 34 = some (.goto (-32), 37, 2, 0, 0, 0) := rfl
theorem r_213_37 : row 213 37 = some (.iconst 0, 38, 0, 0, 0, 0) := rfl
theorem r_213_38 : row 213 38 = some (.ireturn, 39, 0, 0, 0, 0) := rfl
theorem r_214_0 : row 214 0 = some (.aload_n 0, 1, 0, 0, 0, 0) := rfl
theorem r_214_1 : row 214 1 = some (.iload_n 1, 2, 0, 0, 0, 0) := rfl
theorem r_214_2 : row 214 2 = some (.invokevirtual 437, 5, 213, 1, 0, 8191) := rfl
theorem r_214_5 : row 214 5 = some (.ifCond .eq 6, 8, 11, 0, 0, 0) := rfl
theorem r_214_8 : row 214 8 = some (.bipush (-5), 10, (-5), 0, 0, 0) := rfl
theorem r_214_10 : row 214 10 = some (.ireturn, 11, 0, 0, 0, 0) := rfl
theorem r_214_11 : row 214 11 = some (.aload_n 0, 12, 0, 0, 0, 0) := rfl
theorem r_214_12 : row 214 12 = some (.getfield 9, 15, 10, 1, 2, 6002) := rfl
theorem r_214_15 : row 214 15 = some (.bipush 57, 17, 57, 0, 0, 0) := rfl
theorem r_214_17 : row 214 17 = some (.aload_n 0, 18, 0, 0, 0, 0) := rfl
theorem r_214_18 : row 214 18 = some (.getfield 9, 21, 10, 1, 2, 6002) := rfl
theorem r_214_21 : row 214 21 = some (.bipush 8, 23, 8, 0, 0, 0) := rfl
theorem r_214_23 : row 214 23 = some (.iaload, 24, 0, 0, 0, 0) := rfl
theorem r_214_24 : row 214 24 = some (.iadd, 25, 0, 0, 0, 0) := rfl
theorem r_214_25 : row 214 25 = some (.bipush 100, 27, 100, 0, 0, 0) := rfl
theorem r_214_27 : row 214 27 = some (.iload_n 1, 28, 0, 0, 0, 0) := rfl
theorem r_214_28 : row 214 28 = some (.imul, 29, 0, 0, 0, 0) := rfl
theorem r_214_29 : row 214 29 = some (.iload_n 2, 30, 0, 0, 0, 0) := rfl
theorem r_214_30 : row 214 30 = some (.iadd, 31, 0, 0, 0, 0) := rfl
theorem r_214_31 : row 214 31 = some (.iastore, 32, 0, 0, 0, 0) := rfl
theorem r_214_32 : row 214 32 = some (.aload_n 0, 33, 0, 0, 0, 0) := rfl
theorem r_214_33 : row 214 33 = some (.getfield 9, 36, 10, 1, 2, 6002) := rfl
theorem r_214_36 : row 214 36 = some (.bipush 8, 38, 8, 0, 0, 0) := rfl
theorem r_214_38 : row 214 38 = some (.dup2, 39, 0, 0, 0, 0) := rfl
theorem r_214_39 : row 214 39 = some (.iaload, 40, 0, 0, 0, 0) := rfl
theorem r_214_40 : row 214 40 = some (.iconst 1, 41, 1, 0, 0, 0) := rfl
theorem r_214_41 : row 214 41 = some (.iadd, 42, 0, 0, 0, 0) := rfl
theorem r_214_42 : row 214 42 = some (.iastore, 43, 0, 0, 0, 0) := rfl
theorem r_214_43 : row 214 43 = some (.aload_n 0, 44, 0, 0, 0, 0) := rfl
theorem r_214_44 : row 214 44 = some (.invokevirtual 330, 47, 146, 0, 0, 7078) := rfl
theorem r_214_47 : row 214 47 = some (.pop, 48, 0, 0, 0, 0) := rfl
theorem r_214_48 : row 214 48 = some (.aload_n 0, 49, 0, 0, 0, 0) := rfl
theorem r_214_49 : row 214 49 = some (.iload_n 1, 50, 0, 0, 0, 0) := rfl
theorem r_214_50 : row 214 50 = some (.iload_n 2, 51, 0, 0, 0, 0) := rfl
theorem r_214_51 : row 214 51 = some (.invokevirtual 308, 54, 137, 2, 0, 7106) := rfl
theorem r_214_54 : row 214 54 = some (.ifCond .eq 7, 57, 61, 0, 0, 0) := rfl
theorem r_214_57 : row 214 57 = some (.iconst 1, 58, 1, 0, 0, 0) := rfl
theorem r_214_58 : row 214 58 = some (.goto 4, 61, 62, 0, 0, 0) := rfl
theorem r_214_61 : row 214 61 = some (.iconst 0, 62, 0, 0, 0, 0) := rfl
theorem r_214_62 : row 214 62 = some (.ireturn, 63, 0, 0, 0, 0) := rfl
theorem r_218_0 : row 218 0 = some (.aload_n 0, 1, 0, 0, 0, 0) := rfl
theorem r_218_1 : row 218 1 = some (.invokevirtual 86, 4, 90, 0, 0, 7025) := rfl
theorem r_218_4 : row 218 4 = some (.ifCond .ne 6, 7, 10, 0, 0, 0) := rfl
theorem r_218_7 : row 218 7 = some (.bipush (-2), 9, (-2), 0, 0, 0) := rfl
theorem r_218_9 : row 218 9 = some (.ireturn, 10, 0, 0, 0, 0) := rfl
theorem r_218_10 : row 218 10 = some (.aload_n 0, 11, 0, 0, 0, 0) := rfl
theorem r_218_11 : row 218 11 = some (.getfield 9, 14, 10, 1, 2, 6002) := rfl
theorem r_218_14 : row 218 14 = some (.bipush 8, 16, 8, 0, 0, 0) := rfl
theorem r_218_16 : row 218 16 = some (.iaload, 17, 0, 0, 0, 0) := rfl
theorem r_218_17 : row 218 17 = some (.ifCond .ne 6, 20, 23, 0, 0, 0) := rfl
theorem r_218_20 : row 218 20 = some (.bipush (-5), 22, (-5), 0, 0, 0) := rfl
theorem r_218_22 : row 218 22 = some (.ireturn, 23, 0, 0, 0, 0) := rfl
theorem r_218_23 : row 218 23 = some (.aload_n 0, 24, 0, 0, 0, 0) := rfl
theorem r_218_24 : row 218 24 = some (.getfield 9, 27, 10, 1, 2, 6002) := rfl
theorem r_218_27 : row 218 27 = some (.bipush 8, 29, 8, 0, 0, 0) := rfl
theorem r_218_29 : row 218 29 = some (.dup2, 30, 0, 0, 0, 0) := rfl
theorem r_218_30 : row 218 30 = some (.iaload, 31, 0, 0, 0, 0) := rfl
theorem r_218_31 : row 218 31 = some (.iconst 1, 32, 1, 0, 0, 0) := rfl
theorem r_218_32 : row 218 32 = some (.isub, 33, 0, 0, 0, 0) := rfl
theorem r_218_33 : row 218 33 = some (.iastore, 34, 0, 0, 0, 0) := rfl
theorem r_218_34 : row 218 34 = some (.aload_n 0, 35, 0, 0, 0, 0) := rfl
theorem r_218_35 : row 218 35 = some (.getfield 9, 38, 10, 1, 2, 6002) := rfl
theorem r_218_38 : row 218 38 = some (.bipush 8, 40, 8, 0, 0, 0) := rfl
theorem r_218_40 : row 218 40 = some (.iaload, 41, 0, 0, 0, 0) := rfl
theorem r_218_41 : row 218 41 = some (.ireturn, 42, 0, 0, 0, 0) := rfl
theorem r_219_0 : row 219 0 = some (.aload_n 0, 1, 0, 0, 0, 0) := rfl
theorem r_219_1 : row 219 1 = some (.invokevirtual 86, 4, 90, 0, 0, 7025) := rfl
theorem r_219_4 : row 219 4 = some (.ifCond .ne 6, 7, 10, 0, 0, 0) := rfl
theorem r_219_7 : row 219 7 = some (.bipush (-2), 9, (-2), 0, 0, 0) := rfl
theorem r_219_9 : row 219 9 = some (.ireturn, 10, 0, 0, 0, 0) := rfl
theorem r_219_10 : row 219 10 = some (.aload_n 0, 11, 0, 0, 0, 0) := rfl
theorem r_219_11 : row 219 11 = some (.getfield 9, 14, 10, 1, 2, 6002) := rfl
theorem r_219_14 : row 219 14 = some (.bipush 8, 16, 8, 0, 0, 0) := rfl
theorem r_219_16 : row 219 16 = some (.iaload, 17, 0, 0, 0, 0) := rfl
theorem r_219_17 : row 219 17 = some (.istore_n 1, 18, 0, 0, 0, 0) := rfl
theorem r_219_18 : row 219 18 = some (.aload_n 0, 19, 0, 0, 0, 0) := rfl
theorem r_219_19 : row 219 19 = some (.getfield 9, 22, 10, 1, 2, 6002) := rfl
theorem r_219_22 : row 219 22 = some (.bipush 8, 24, 8, 0, 0, 0) := rfl
theorem r_219_24 : row 219 24 = some (.iconst 0, 25, 0, 0, 0, 0) := rfl
theorem r_219_25 : row 219 25 = some (.iastore, 26, 0, 0, 0, 0) := rfl
theorem r_219_26 : row 219 26 = some (.iload_n 1, 27, 0, 0, 0, 0) := rfl
theorem r_219_27 : row 219 27 = some (.ireturn, 28, 0, 0, 0, 0) := rfl
theorem r_224_0 : row 224 0 = some (.aload_n 0, 1, 0, 0, 0, 0) := rfl
theorem r_224_1 : row 224 1 = some (.iload_n 1, 2, 0, 0, 0, 0) := rfl
theorem r_224_2 : row 224 2 = some (.i2l, 3, 0, 0, 0, 0) := rfl
theorem r_224_3 : row 224 3 = some (.invokevirtual 216, 6, 94, 1, 0, 7001) := rfl
theorem r_224_6 : row 224 6 = some (.ifCond .eq 15, 9, 21, 0, 0, 0) := rfl
theorem r_224_9 : row 224 9 = some (.iload_n 2, 10, 0, 0, 0, 0) := rfl
theorem r_224_10 : row 224 10 = some (.i2l, 11, 0, 0, 0, 0) := rfl
theorem r_224_11 : row 224 11 = some (.lconst 0, 12, 0, 0, 0, 0) := rfl
theorem r_224_12 : row 224 12 = some (.ldc2_w 393, 15, 9, 0, 0, 8115) := rfl
theorem r_224_15 : row 224 15 = some (.invokestatic 82, 18, 86, 3, 0, 6131) := rfl
theorem r_224_18 : row 224 18 = some (.ifCond .ne 6, 21, 24, 0, 0, 0) := rfl
theorem r_224_21 : row 224 21 = some (.bipush (-2), 23, (-2), 0, 0, 0) := rfl
theorem r_224_23 : row 224 23 = some (.ireturn, 24, 0, 0, 0, 0) := rfl
theorem r_224_24 : row 224 24 = some (.aload_n 0, 25, 0, 0, 0, 0) := rfl
theorem r_224_25 : row 224 25 = some (.getfield 9, 28, 10, 1, 2, 6002) := rfl
theorem r_224_28 : row 224 28 = some (.bipush 8, 30, 8, 0, 0, 0) := rfl
theorem r_224_30 : row 224 30 = some (.iaload, 31, 0, 0, 0, 0) := rfl
theorem r_224_31 : row 224 31 = some (.ifCond .le 6, 34, 37, 0, 0, 0) := rfl
theorem r_224_34 : row 224 34 = some (.bipush (-5), 36, (-5), 0, 0, 0) := rfl
theorem r_224_36 : row 224 36 = some (.ireturn, 37, 0, 0, 0, 0) := rfl
theorem r_224_37 : row 224 37 = some (.aload_n 0, 38, 0, 0, 0, 0) := rfl
theorem r_224_38 : row 224 38 = some (.getfield 9, 41, 10, 1, 2, 6002) := rfl
theorem r_224_41 : row 224 41 = some (.bipush 31, 43, 31, 0, 0, 0) := rfl
theorem r_224_43 : row 224 43 = some (.iconst 2, 44, 2, 0, 0, 0) := rfl
theorem r_224_44 : row 224 44 = some (.iload_n 1, 45, 0, 0, 0, 0) := rfl
theorem r_224_45 : row 224 45 = some (.imul, 46, 0, 0, 0, 0) := rfl
theorem r_224_46 : row 224 46 = some (.iadd, 47, 0, 0, 0, 0) := rfl
theorem r_224_47 : row 224 47 = some (.iconst 1, 48, 1, 0, 0, 0) := rfl
theorem r_224_48 : row 224 48 = some (.iadd, 49, 0, 0, 0, 0) := rfl
theorem r_224_49 : row 224 49 = some (.iaload, 50, 0, 0, 0, 0) := rfl
theorem r_224_50 : row 224 50 = some (.istore_n 3, 51, 0, 0, 0, 0) := rfl
theorem r_224_51 : row 224 51 = some (.aload_n 0, 52, 0, 0, 0, 0) := rfl
theorem r_224_52 : row 224 52 = some (.getfield 9, 55, 10, 1, 2, 6002) := rfl
theorem r_224_55 : row 224 55 = some (.bipush 31, 57, 31, 0, 0, 0) := rfl
theorem r_224_57 : row 224 57 = some (.iconst 2, 58, 2, 0, 0, 0) := rfl
theorem r_224_58 : row 224 58 = some (.iload_n 1, 59, 0, 0, 0, 0) := rfl
theorem r_224_59 : row 224 59 = some (.imul, 60, 0, 0, 0, 0) := rfl
theorem r_224_60 : row 224 60 = some (.iadd, 61, 0, 0, 0, 0) := rfl
theorem r_224_61 : row 224 61 = some (.iconst 1, 62, 1, 0, 0, 0) := rfl
theorem r_224_62 : row 224 62 = some (.iadd, 63, 0, 0, 0, 0) := rfl
theorem r_224_63 : row 224 63 = some (.iload_n 2, 64, 0, 0, 0, 0) := rfl
theorem r_224_64 : row 224 64 = some (.iastore, 65, 0, 0, 0, 0) := rfl
theorem r_224_65 : row 224 65 = some (.iload_n 3, 66, 0, 0, 0, 0) := rfl
theorem r_224_66 : row 224 66 = some (.ireturn, 67, 0, 0, 0, 0) := rfl
theorem WOK_ag {w w' : Nat → Int} (h : WOK w) (h8 : w' 8 ≤ w 8) (he : ∀ i : Nat, (i = 4 ∨ (11 ≤ i ∧ i < 31) ∨ (57 ≤ i ∧ i < 69)) → w' i = w i) : WOK w' := by
  obtain ⟨h1, h2, h3⟩ := h
  refine ⟨fun k hk hk2 => ?_, fun k hk hk2 => ?_, fun i k hik hk hk2 => ?_⟩
  · rw [he (11 + 2 * k) (by omega), he (12 + 2 * k) (by omega)]
    exact h1 k hk (by rw [← he 4 (by omega)]; exact hk2)
  · rw [he (57 + k) (by omega)]
    exact h2 k hk (by omega)
  · rw [he (57 + k) (by omega), he (57 + i) (by omega)]
    exact h3 i k hik hk (by omega)
theorem Ext_w {m m1 : Mm} (hx : Ext m) (hw : WOK (m1 193)) (h2 : m1 194 = m 194) (h3 : m1 200 = m 200) : Ext m1 := by
  refine ⟨hw, ?_, ?_⟩
  · rw [h2]; exact hx.2.1
  · unfold ROK; rw [h3]; exact hx.2.2
theorem nu_row {m : Mm} {o p i : Nat} {x : Int} (h : ¬ p = o) : nu_up m o i x p = m p := funext fun _ => nu_no h
theorem pig : ∀ (n : Nat) (f : Nat → Nat), (∀ i, i ≤ n → f i < n) → ∃ i j : Nat, i < j ∧ j ≤ n ∧ f i = f j := by
  intro n
  induction n with
  | zero => intro f h; exact absurd (h 0 (Nat.le_refl 0)) (Nat.not_lt_zero _)
  | succ n ih =>
    intro f h
    have hv := h (n + 1) (Nat.le_refl _)
    by_cases hc : ∃ i : Nat, i ≤ n ∧ f i = f (n + 1)
    · obtain ⟨i, h1, h2⟩ := hc
      exact ⟨i, n + 1, by omega, Nat.le_refl _, h2⟩
    · obtain ⟨i, j, h1, h2, h3⟩ := ih (fun i => if f i = n then f (n + 1) else f i) (fun i hi => by
        have h4 := h i (by omega)
        have h5 : ¬ f i = f (n + 1) := fun z => hc ⟨i, hi, z⟩
        split <;> omega)
      have n1 : ¬ f i = f (n + 1) := fun z => hc ⟨i, by omega, z⟩
      have n2 : ¬ f j = f (n + 1) := fun z => hc ⟨j, by omega, z⟩
      refine ⟨i, j, h1, by omega, ?_⟩
      split at h3 <;> split at h3 <;> omega
theorem acts_lt {w : Nat → Int} (h : WOK w) {N t : Nat} (hN : w 8 = (N : Int)) (hN12 : N ≤ 12) (ht : t < 12) (hb : ∀ i : Nat, i < 12 → 0 ≤ w (57 + i) ∧ w (57 + i) ≤ 1199) (hn : ∀ i : Nat, i < N → ¬ w (57 + i) / 100 = (t : Int)) : N < 12 := by
  by_cases e : N = 12
  · exfalso
    obtain ⟨i, j, h1, h2, h3⟩ := pig 12 (fun i => if i < 12 then (w (57 + i) / 100).toNat else t) (fun i hi => by
      split
      · rename_i z
        have := hb i z
        omega
      · exact ht)
    rw [if_pos (by omega)] at h3
    have b1 := hb i (by omega)
    by_cases e2 : j < 12
    · rw [if_pos e2] at h3
      have b2 := hb j e2
      exact h.2.2 i j h1 e2 (by omega) (by omega)
    · rw [if_neg e2] at h3
      exact hn i (by omega) (by omega)
  · omega
theorem WOK_add {w w' : Nat → Int} (h : WOK w) {N t : Nat} {a : Int} (hN : w 8 = (N : Int)) (hN12 : N < 12) (ha1 : 1 ≤ a) (ha2 : a ≤ 16) (hn : ∀ i : Nat, i < N → ¬ w (57 + i) / 100 = (t : Int)) (h8 : w' 8 = (N : Int) + 1) (hA : w' (57 + N) = 100 * (t : Int) + a) (he : ∀ i : Nat, ¬ i = 8 → ¬ i = 57 + N → w' i = w i) : WOK w' := by
  obtain ⟨h1, h2, h3⟩ := h
  refine ⟨fun k hk hk2 => ?_, fun k hk hk2 => ?_, fun i k hik hk hk2 => ?_⟩
  · rw [he (11 + 2 * k) (by omega) (by omega), he (12 + 2 * k) (by omega) (by omega)]
    exact h1 k hk (by rw [← he 4 (by omega) (by omega)]; exact hk2)
  · by_cases e : k = N
    · rw [e, hA]; omega
    · rw [he (57 + k) (by omega) (by omega)]
      exact h2 k hk (by omega)
  · rw [he (57 + i) (by omega) (by omega)]
    by_cases e : k = N
    · rw [e, hA]
      have := hn i (by omega)
      omega
    · rw [he (57 + k) (by omega) (by omega)]
      exact h3 i k hik hk (by omega)
section ACTS
variable {T : List Kd} {m : Mm}
theorem x_218 (hT : TT T) (hm : Gam m) (hx : Ext m)  : GX T 1 218 0 [(2, 192)] [] m (RI (fun v m1 => -2147483648 ≤ v ∧ v ≤ 2147483647 ∧ Gam m1 ∧ Ext m1 ∧ Fr [91999] m m1)) := by
  refine gx_st (L' := [(2, 192)]) (S' := [(2, 192)]) r_218_0 rfl rfl rfl ?_
  refine gx_ci (nx := 4) (S2 := []) (x_90 hT hm) r_218_1 rfl rfl rfl rfl rfl (rcv_v rfl (tk_192 hT) (by decide) rfl (by decide)) rfl (by decide) rfl (fun x1 n1 q1 => ?_)
  obtain rfl := q1.1.symm
  obtain rfl := q1.2.symm
  show GX T 1 218 4 [(2, 192)] [(0, (if 0 < m 193 9 then 1 else 0))] m (RI (fun v m1 => -2147483648 ≤ v ∧ v ≤ 2147483647 ∧ Gam m1 ∧ Ext m1 ∧ Fr [91999] m m1))
  refine gx_i0 (P := 0 < m 193 9) r_218_4 (b01_ne) (fun h4 => ?_) (fun h4 => ?_)
  · refine gx_st (L' := [(2, 192)]) (S' := [(2, 192)]) r_218_10 rfl rfl rfl ?_
    refine gx_gf (x := 193) 2 r_218_11 rfl (tk_192 hT) ⟨by decide, rfl, by decide, by decide⟩ rfl (fun _ => by decide) (pr_192_1 hm) ?_
    refine gx_st (L' := [(2, 192)]) (S' := [(0, 8), (2, 193)]) r_218_14 rfl rfl rfl ?_
    obtain ⟨x16, e_x16⟩ : ∃ z, z = m 193 (8) := ⟨_, rfl⟩
    have b_x16 := gb_193_8 hm
    rw [← e_x16] at b_x16
    refine gx_ia (n := 8) (x := x16) r_218_16 rfl (tk_193 hT) (rfl) ⟨rfl, by decide⟩ (e_x16.symm) ?_
    refine gx_i0 (P := ¬ x16 = 0) r_218_17 (rfl) (fun h17 => ?_) (fun h17 => ?_)
    · refine gx_st (L' := [(2, 192)]) (S' := [(2, 192)]) r_218_23 rfl rfl rfl ?_
      refine gx_gf (x := 193) 2 r_218_24 rfl (tk_192 hT) ⟨by decide, rfl, by decide, by decide⟩ rfl (fun _ => by decide) (pr_192_1 hm) ?_
      refine gx_st (L' := [(2, 192)]) (S' := [(0, 8), (2, 193)]) r_218_27 rfl rfl rfl ?_
      refine gx_st (L' := [(2, 192)]) (S' := [(0, 8), (2, 193), (0, 8), (2, 193)]) r_218_29 rfl rfl rfl ?_
      obtain ⟨x30, e_x30⟩ : ∃ z, z = m 193 (8) := ⟨_, rfl⟩
      have b_x30 := gb_193_8 hm
      rw [← e_x30] at b_x30
      refine gx_ia (n := 8) (x := x30) r_218_30 rfl (tk_193 hT) (rfl) ⟨rfl, by decide⟩ (e_x30.symm) ?_
      refine gx_st (L' := [(2, 192)]) (S' := [(0, 1), (0, x30), (0, 8), (2, 193)]) r_218_31 rfl rfl rfl ?_
      refine gx_ar (L' := [(2, 192)]) (S' := [(0, 8), (2, 193)]) (t := 0) (e := w32 (x30 - 1)) (z := x30 - 1) r_218_32 rfl rfl rfl (w32_eq (by omega) (by omega) (by omega)) ?_
      obtain ⟨m1, e_m1⟩ : ∃ z, z = nu_up m 193 (8) (x30 - 1) := ⟨_, rfl⟩
      have h_m1 : Gam m1 := by rw [e_m1]; exact gu_193_8 hm (by omega) (by omega)
      have f_m1 : Fr [91999] m m1 := Fr_tr Fr_rf (by rw [e_m1]; exact Fr_ua rfl rfl)
      refine gx_is (n := 8) (x := x30 - 1) r_218_33 rfl (by decide) (tk_193 hT) (rfl) ⟨rfl, by decide⟩ e_m1.symm ?_
      have x_m1 : Ext m1 := Ext_w hx (WOK_ag hx.1 (by rw [e_m1, nu_at]; omega) (fun i hi => by rw [e_m1, nu_ne (by omega)])) (by rw [e_m1]; exact nu_row (by decide)) (by rw [e_m1]; exact nu_row (by decide))
      refine gx_st (L' := [(2, 192)]) (S' := [(2, 192)]) r_218_34 rfl rfl rfl ?_
      refine gx_gf (x := 193) 2 r_218_35 rfl (tk_192 hT) ⟨by decide, rfl, by decide, by decide⟩ rfl (fun _ => by decide) (pr_192_1 h_m1) ?_
      refine gx_st (L' := [(2, 192)]) (S' := [(0, 8), (2, 193)]) r_218_38 rfl rfl rfl ?_
      obtain ⟨x40, e_x40⟩ : ∃ z, z = m1 193 (8) := ⟨_, rfl⟩
      have b_x40 := gb_193_8 h_m1
      rw [← e_x40] at b_x40
      refine gx_ia (n := 8) (x := x40) r_218_40 rfl (tk_193 hT) (rfl) ⟨rfl, by decide⟩ (e_x40.symm) ?_
      exact gx_rt r_218_41 rfl rfl ⟨_, rfl, by omega, by omega, h_m1, x_m1, f_m1⟩
    · have h17 := Decidable.not_not.mp h17
      refine gx_st (L' := [(2, 192)]) (S' := [(0, (-5))]) r_218_20 rfl rfl rfl ?_
      exact gx_rt r_218_22 rfl rfl ⟨_, rfl, by omega, by omega, hm, hx, Fr_rf⟩
  · refine gx_st (L' := [(2, 192)]) (S' := [(0, (-2))]) r_218_7 rfl rfl rfl ?_
    exact gx_rt r_218_9 rfl rfl ⟨_, rfl, by omega, by omega, hm, hx, Fr_rf⟩
theorem x_219 (hT : TT T) (hm : Gam m) (hx : Ext m)  : GX T 1 219 0 [(2, 192), (9, 0)] [] m (RI (fun v m1 => -2147483648 ≤ v ∧ v ≤ 2147483647 ∧ Gam m1 ∧ Ext m1 ∧ Fr [91999] m m1)) := by
  refine gx_st (L' := [(2, 192), (9, 0)]) (S' := [(2, 192)]) r_219_0 rfl rfl rfl ?_
  refine gx_ci (nx := 4) (S2 := []) (x_90 hT hm) r_219_1 rfl rfl rfl rfl rfl (rcv_v rfl (tk_192 hT) (by decide) rfl (by decide)) rfl (by decide) rfl (fun x1 n1 q1 => ?_)
  obtain rfl := q1.1.symm
  obtain rfl := q1.2.symm
  show GX T 1 219 4 [(2, 192), (9, 0)] [(0, (if 0 < m 193 9 then 1 else 0))] m (RI (fun v m1 => -2147483648 ≤ v ∧ v ≤ 2147483647 ∧ Gam m1 ∧ Ext m1 ∧ Fr [91999] m m1))
  refine gx_i0 (P := 0 < m 193 9) r_219_4 (b01_ne) (fun h4 => ?_) (fun h4 => ?_)
  · refine gx_st (L' := [(2, 192), (9, 0)]) (S' := [(2, 192)]) r_219_10 rfl rfl rfl ?_
    refine gx_gf (x := 193) 2 r_219_11 rfl (tk_192 hT) ⟨by decide, rfl, by decide, by decide⟩ rfl (fun _ => by decide) (pr_192_1 hm) ?_
    refine gx_st (L' := [(2, 192), (9, 0)]) (S' := [(0, 8), (2, 193)]) r_219_14 rfl rfl rfl ?_
    obtain ⟨x16, e_x16⟩ : ∃ z, z = m 193 (8) := ⟨_, rfl⟩
    have b_x16 := gb_193_8 hm
    rw [← e_x16] at b_x16
    refine gx_ia (n := 8) (x := x16) r_219_16 rfl (tk_193 hT) (rfl) ⟨rfl, by decide⟩ (e_x16.symm) ?_
    refine gx_st (L' := [(2, 192), (0, x16)]) (S' := []) r_219_17 rfl rfl rfl ?_
    refine gx_st (L' := [(2, 192), (0, x16)]) (S' := [(2, 192)]) r_219_18 rfl rfl rfl ?_
    refine gx_gf (x := 193) 2 r_219_19 rfl (tk_192 hT) ⟨by decide, rfl, by decide, by decide⟩ rfl (fun _ => by decide) (pr_192_1 hm) ?_
    refine gx_st (L' := [(2, 192), (0, x16)]) (S' := [(0, 8), (2, 193)]) r_219_22 rfl rfl rfl ?_
    refine gx_st (L' := [(2, 192), (0, x16)]) (S' := [(0, 0), (0, 8), (2, 193)]) r_219_24 rfl rfl rfl ?_
    obtain ⟨m1, e_m1⟩ : ∃ z, z = nu_up m 193 (8) 0 := ⟨_, rfl⟩
    have h_m1 : Gam m1 := by rw [e_m1]; exact gu_193_8 hm (by omega) (by omega)
    have f_m1 : Fr [91999] m m1 := Fr_tr Fr_rf (by rw [e_m1]; exact Fr_ua rfl rfl)
    refine gx_is (n := 8) (x := 0) r_219_25 rfl (by decide) (tk_193 hT) (rfl) ⟨rfl, by decide⟩ e_m1.symm ?_
    have x_m1 : Ext m1 := Ext_w hx (WOK_ag hx.1 (by rw [e_m1, nu_at]; omega) (fun i hi => by rw [e_m1, nu_ne (by omega)])) (by rw [e_m1]; exact nu_row (by decide)) (by rw [e_m1]; exact nu_row (by decide))
    refine gx_st (L' := [(2, 192), (0, x16)]) (S' := [(0, x16)]) r_219_26 rfl rfl rfl ?_
    exact gx_rt r_219_27 rfl rfl ⟨_, rfl, by omega, by omega, h_m1, x_m1, f_m1⟩
  · refine gx_st (L' := [(2, 192), (9, 0)]) (S' := [(0, (-2))]) r_219_7 rfl rfl rfl ?_
    exact gx_rt r_219_9 rfl rfl ⟨_, rfl, by omega, by omega, hm, hx, Fr_rf⟩
theorem x_224 (hT : TT T) (hm : Gam m) (hx : Ext m) (a n : Int) : GX T 2 224 0 [(2, 192), (0, a), (0, n), (9, 0)] [] m (RI (fun v m1 => -2147483648 ≤ v ∧ v ≤ 2147483647 ∧ Gam m1 ∧ Ext m1 ∧ Fr [91999] m m1)) := by
  refine gx_st (L' := [(2, 192), (0, a), (0, n), (9, 0)]) (S' := [(2, 192)]) r_224_0 rfl rfl rfl ?_
  refine gx_st (L' := [(2, 192), (0, a), (0, n), (9, 0)]) (S' := [(0, a), (2, 192)]) r_224_1 rfl rfl rfl ?_
  refine gx_st (L' := [(2, 192), (0, a), (0, n), (9, 0)]) (S' := [(1, a), (2, 192)]) r_224_2 rfl rfl rfl ?_
  refine gx_ci (nx := 6) (S2 := []) (x_94 hT hm a) r_224_3 rfl rfl rfl rfl rfl (rcv_v rfl (tk_192 hT) (by decide) rfl (by decide)) rfl (by decide) rfl (fun x3 n3 q3 => ?_)
  obtain rfl := q3.1.symm
  obtain rfl := q3.2.symm
  show GX T 2 224 6 [(2, 192), (0, a), (0, n), (9, 0)] [(0, (if 0 ≤ a ∧ a ≤ m 193 5 - 1 then 1 else 0))] m (RI (fun v m1 => -2147483648 ≤ v ∧ v ≤ 2147483647 ∧ Gam m1 ∧ Ext m1 ∧ Fr [91999] m m1))
  refine gx_i0 (P := ¬ (0 ≤ a ∧ a ≤ m 193 5 - 1)) r_224_6 (b01_eq) (fun h6 => ?_) (fun h6 => ?_)
  · refine gx_st (L' := [(2, 192), (0, a), (0, n), (9, 0)]) (S' := [(0, (-2))]) r_224_21 rfl rfl rfl ?_
    exact gx_rt r_224_23 rfl rfl ⟨_, rfl, by omega, by omega, hm, hx, Fr_rf⟩
  · have h6 := Decidable.not_not.mp h6
    refine gx_st (L' := [(2, 192), (0, a), (0, n), (9, 0)]) (S' := [(0, n)]) r_224_9 rfl rfl rfl ?_
    refine gx_st (L' := [(2, 192), (0, a), (0, n), (9, 0)]) (S' := [(1, n)]) r_224_10 rfl rfl rfl ?_
    refine gx_st (L' := [(2, 192), (0, a), (0, n), (9, 0)]) (S' := [(1, 0), (1, n)]) r_224_11 rfl rfl rfl ?_
    refine gx_st (L' := [(2, 192), (0, a), (0, n), (9, 0)]) (S' := [(1, 9), (1, 0), (1, n)]) r_224_12 rfl rfl rfl ?_
    refine gx_ci (nx := 18) (S2 := []) (x_86 n 0 9) r_224_15 rfl rfl rfl rfl rfl rfl rfl (by decide) rfl (fun x15 n15 q15 => ?_)
    obtain rfl := q15.1.symm
    obtain rfl := q15.2.symm
    show GX T 2 224 18 [(2, 192), (0, a), (0, n), (9, 0)] [(0, (if 0 ≤ n ∧ n ≤ 9 then 1 else 0))] m (RI (fun v m1 => -2147483648 ≤ v ∧ v ≤ 2147483647 ∧ Gam m1 ∧ Ext m1 ∧ Fr [91999] m m1))
    refine gx_i0 (P := 0 ≤ n ∧ n ≤ 9) r_224_18 (b01_ne) (fun h18 => ?_) (fun h18 => ?_)
    · refine gx_st (L' := [(2, 192), (0, a), (0, n), (9, 0)]) (S' := [(2, 192)]) r_224_24 rfl rfl rfl ?_
      refine gx_gf (x := 193) 2 r_224_25 rfl (tk_192 hT) ⟨by decide, rfl, by decide, by decide⟩ rfl (fun _ => by decide) (pr_192_1 hm) ?_
      refine gx_st (L' := [(2, 192), (0, a), (0, n), (9, 0)]) (S' := [(0, 8), (2, 193)]) r_224_28 rfl rfl rfl ?_
      obtain ⟨x30, e_x30⟩ : ∃ z, z = m 193 (8) := ⟨_, rfl⟩
      have b_x30 := gb_193_8 hm
      rw [← e_x30] at b_x30
      refine gx_ia (n := 8) (x := x30) r_224_30 rfl (tk_193 hT) (rfl) ⟨rfl, by decide⟩ (e_x30.symm) ?_
      refine gx_i0 (P := x30 ≤ 0) r_224_31 (rfl) (fun h31 => ?_) (fun h31 => ?_)
      · have b5_ := gb_193_5 hm
        obtain ⟨t, ht⟩ : ∃ t : Nat, a = (t : Int) := ⟨a.toNat, by omega⟩
        have ht5 : t < 5 := by omega
        rw [ht]
        show GX T 2 224 37 [(2, 192), (0, (t : Int)), (0, n), (9, 0)] [] m (RI (fun v m1 => -2147483648 ≤ v ∧ v ≤ 2147483647 ∧ Gam m1 ∧ Ext m1 ∧ Fr [91999] m m1))
        refine gx_st (L' := [(2, 192), (0, (t : Int)), (0, n), (9, 0)]) (S' := [(2, 192)]) r_224_37 rfl rfl rfl ?_
        refine gx_gf (x := 193) 2 r_224_38 rfl (tk_192 hT) ⟨by decide, rfl, by decide, by decide⟩ rfl (fun _ => by decide) (pr_192_1 hm) ?_
        refine gx_st (L' := [(2, 192), (0, (t : Int)), (0, n), (9, 0)]) (S' := [(0, 31), (2, 193)]) r_224_41 rfl rfl rfl ?_
        refine gx_st (L' := [(2, 192), (0, (t : Int)), (0, n), (9, 0)]) (S' := [(0, 2), (0, 31), (2, 193)]) r_224_43 rfl rfl rfl ?_
        refine gx_st (L' := [(2, 192), (0, (t : Int)), (0, n), (9, 0)]) (S' := [(0, (t : Int)), (0, 2), (0, 31), (2, 193)]) r_224_44 rfl rfl rfl ?_
        refine gx_ar (L' := [(2, 192), (0, (t : Int)), (0, n), (9, 0)]) (S' := [(0, 31), (2, 193)]) (t := 0) (e := w32 (2 * (t : Int))) (z := 2 * (t : Int)) r_224_45 rfl rfl rfl (w32_eq (by omega) (by omega) (by omega)) ?_
        refine gx_ar (L' := [(2, 192), (0, (t : Int)), (0, n), (9, 0)]) (S' := [(2, 193)]) (t := 0) (e := w32 (31 + (2 * (t : Int)))) (z := 2 * (t : Int) + 31) r_224_46 rfl rfl rfl (w32_eq (by omega) (by omega) (by omega)) ?_
        refine gx_st (L' := [(2, 192), (0, (t : Int)), (0, n), (9, 0)]) (S' := [(0, 1), (0, 2 * (t : Int) + 31), (2, 193)]) r_224_47 rfl rfl rfl ?_
        refine gx_ar (L' := [(2, 192), (0, (t : Int)), (0, n), (9, 0)]) (S' := [(2, 193)]) (t := 0) (e := w32 ((2 * (t : Int) + 31) + 1)) (z := 2 * (t : Int) + 32) r_224_48 rfl rfl rfl (w32_eq (by omega) (by omega) (by omega)) ?_
        obtain ⟨x49, e_x49⟩ : ∃ z, z = m 193 (32 + 2 * t) := ⟨_, rfl⟩
        have b_x49 := gb_193_tf hm (k := t) (by omega)
        rw [← e_x49] at b_x49
        refine gx_ia (n := 32 + 2 * t) (x := x49) r_224_49 rfl (tk_193 hT) (by omega) ⟨rfl, by omega⟩ (e_x49.symm) ?_
        refine gx_st (L' := [(2, 192), (0, (t : Int)), (0, n), (0, x49)]) (S' := []) r_224_50 rfl rfl rfl ?_
        refine gx_st (L' := [(2, 192), (0, (t : Int)), (0, n), (0, x49)]) (S' := [(2, 192)]) r_224_51 rfl rfl rfl ?_
        refine gx_gf (x := 193) 2 r_224_52 rfl (tk_192 hT) ⟨by decide, rfl, by decide, by decide⟩ rfl (fun _ => by decide) (pr_192_1 hm) ?_
        refine gx_st (L' := [(2, 192), (0, (t : Int)), (0, n), (0, x49)]) (S' := [(0, 31), (2, 193)]) r_224_55 rfl rfl rfl ?_
        refine gx_st (L' := [(2, 192), (0, (t : Int)), (0, n), (0, x49)]) (S' := [(0, 2), (0, 31), (2, 193)]) r_224_57 rfl rfl rfl ?_
        refine gx_st (L' := [(2, 192), (0, (t : Int)), (0, n), (0, x49)]) (S' := [(0, (t : Int)), (0, 2), (0, 31), (2, 193)]) r_224_58 rfl rfl rfl ?_
        refine gx_ar (L' := [(2, 192), (0, (t : Int)), (0, n), (0, x49)]) (S' := [(0, 31), (2, 193)]) (t := 0) (e := w32 (2 * (t : Int))) (z := 2 * (t : Int)) r_224_59 rfl rfl rfl (w32_eq (by omega) (by omega) (by omega)) ?_
        refine gx_ar (L' := [(2, 192), (0, (t : Int)), (0, n), (0, x49)]) (S' := [(2, 193)]) (t := 0) (e := w32 (31 + (2 * (t : Int)))) (z := 2 * (t : Int) + 31) r_224_60 rfl rfl rfl (w32_eq (by omega) (by omega) (by omega)) ?_
        refine gx_st (L' := [(2, 192), (0, (t : Int)), (0, n), (0, x49)]) (S' := [(0, 1), (0, 2 * (t : Int) + 31), (2, 193)]) r_224_61 rfl rfl rfl ?_
        refine gx_ar (L' := [(2, 192), (0, (t : Int)), (0, n), (0, x49)]) (S' := [(2, 193)]) (t := 0) (e := w32 ((2 * (t : Int) + 31) + 1)) (z := 2 * (t : Int) + 32) r_224_62 rfl rfl rfl (w32_eq (by omega) (by omega) (by omega)) ?_
        refine gx_st (L' := [(2, 192), (0, (t : Int)), (0, n), (0, x49)]) (S' := [(0, n), (0, 2 * (t : Int) + 32), (2, 193)]) r_224_63 rfl rfl rfl ?_
        obtain ⟨m1, e_m1⟩ : ∃ z, z = nu_up m 193 (32 + 2 * t) n := ⟨_, rfl⟩
        have h_m1 : Gam m1 := by rw [e_m1]; exact gu_193_tf hm (k := t) (by omega) (by omega) (by omega)
        have f_m1 : Fr [91999] m m1 := Fr_tr Fr_rf (by rw [e_m1]; exact Fr_ua rfl rfl)
        refine gx_is (n := 32 + 2 * t) (x := n) r_224_64 rfl (by decide) (tk_193 hT) (by omega) ⟨rfl, by omega⟩ e_m1.symm ?_
        have x_m1 : Ext m1 := Ext_w hx (WOK_ag hx.1 (by rw [e_m1, nu_ne (by omega)]; omega) (fun i hi => by rw [e_m1, nu_ne (by omega)])) (by rw [e_m1]; exact nu_row (by decide)) (by rw [e_m1]; exact nu_row (by decide))
        refine gx_st (L' := [(2, 192), (0, (t : Int)), (0, n), (0, x49)]) (S' := [(0, x49)]) r_224_65 rfl rfl rfl ?_
        exact gx_rt r_224_66 rfl rfl ⟨_, rfl, by omega, by omega, h_m1, x_m1, f_m1⟩
      · refine gx_st (L' := [(2, 192), (0, a), (0, n), (9, 0)]) (S' := [(0, (-5))]) r_224_34 rfl rfl rfl ?_
        exact gx_rt r_224_36 rfl rfl ⟨_, rfl, by omega, by omega, hm, hx, Fr_rf⟩
    · refine gx_st (L' := [(2, 192), (0, a), (0, n), (9, 0)]) (S' := [(0, (-2))]) r_224_21 rfl rfl rfl ?_
      exact gx_rt r_224_23 rfl rfl ⟨_, rfl, by omega, by omega, hm, hx, Fr_rf⟩
theorem has_l (hT : TT T) (hm : Gam m) {Q : AV → Mm → Prop} {t : Int} {c : Nat} (hc : m 193 8 = (c : Int)) (hy : Q (0, 1) m) (hno : (∀ i : Nat, i < c → ¬ m 193 (57 + i) / 100 = t) → Q (0, 0) m) : ∀ (N k : Nat), c - k < N → k ≤ c → (∀ i : Nat, i < k → ¬ m 193 (57 + i) / 100 = t) → GX T 0 213 2 [(2, 192), (0, t), (0, (k : Int))] [] m Q := by
  intro N
  induction N with
  | zero => intro k hN; exact absurd hN (Nat.not_lt_zero _)
  | succ N ih =>
    intro k hN hk hI
    have bc := gb_193_8 hm
    refine gx_st (L' := [(2, 192), (0, t), (0, (k : Int))]) (S' := [(0, (k : Int))]) r_213_2 rfl rfl rfl ?_
    refine gx_st (L' := [(2, 192), (0, t), (0, (k : Int))]) (S' := [(2, 192), (0, (k : Int))]) r_213_3 rfl rfl rfl ?_
    refine gx_gf (x := 193) 2 r_213_4 rfl (tk_192 hT) ⟨by decide, rfl, by decide, by decide⟩ rfl (fun _ => by decide) (pr_192_1 hm) ?_
    refine gx_st (L' := [(2, 192), (0, t), (0, (k : Int))]) (S' := [(0, 8), (2, 193), (0, (k : Int))]) r_213_7 rfl rfl rfl ?_
    refine gx_ia (n := 8) (x := (c : Int)) r_213_9 rfl (tk_193 hT) (rfl) ⟨rfl, by decide⟩ (hc) ?_
    refine gx_ic (P := (c : Int) ≤ (k : Int)) r_213_10 (rfl) (fun h10 => ?_) (fun h10 => ?_)
    · refine gx_st (L' := [(2, 192), (0, t), (0, (k : Int))]) (S' := [(0, 0)]) r_213_37 rfl rfl rfl ?_
      have hkc : k = c := by omega
      rw [hkc] at hI
      exact gx_rt r_213_38 rfl rfl (hno hI)
    · refine gx_st (L' := [(2, 192), (0, t), (0, (k : Int))]) (S' := [(2, 192)]) r_213_13 rfl rfl rfl ?_
      refine gx_gf (x := 193) 2 r_213_14 rfl (tk_192 hT) ⟨by decide, rfl, by decide, by decide⟩ rfl (fun _ => by decide) (pr_192_1 hm) ?_
      refine gx_st (L' := [(2, 192), (0, t), (0, (k : Int))]) (S' := [(0, 57), (2, 193)]) r_213_17 rfl rfl rfl ?_
      refine gx_st (L' := [(2, 192), (0, t), (0, (k : Int))]) (S' := [(0, (k : Int)), (0, 57), (2, 193)]) r_213_19 rfl rfl rfl ?_
      refine gx_ar (L' := [(2, 192), (0, t), (0, (k : Int))]) (S' := [(2, 193)]) (t := 0) (e := w32 (57 + (k : Int))) (z := (k : Int) + 57) r_213_20 rfl rfl rfl (w32_eq (by omega) (by omega) (by omega)) ?_
      obtain ⟨x21, e_x21⟩ : ∃ z, z = m 193 (57 + k) := ⟨_, rfl⟩
      have b_x21 := gb_193_ac hm (k := k) (by omega)
      rw [← e_x21] at b_x21
      refine gx_ia (n := 57 + k) (x := x21) r_213_21 rfl (tk_193 hT) (by omega) ⟨rfl, by omega⟩ (e_x21.symm) ?_
      refine gx_st (L' := [(2, 192), (0, t), (0, (k : Int))]) (S' := [(0, 100), (0, x21)]) r_213_22 rfl rfl rfl ?_
      refine gx_dv (z := (x21 / 100)) r_213_24 (by decide) (w32_td (by omega) rfl (by omega) (by omega)) ?_
      refine gx_st (L' := [(2, 192), (0, t), (0, (k : Int))]) (S' := [(0, t), (0, (x21 / 100))]) r_213_25 rfl rfl rfl ?_
      refine gx_ic (P := ¬ (x21 / 100) = t) r_213_26 (rfl) (fun h26 => ?_) (fun h26 => ?_)
      · refine gx_li (z := (k : Int) + 1) (L' := [(2, 192), (0, t), (0, (k : Int) + 1)]) r_213_31 rfl (w32_eq (by omega) (by omega) (by omega)) rfl ?_
        refine gx_st (L' := [(2, 192), (0, t), (0, (k : Int) + 1)]) (S' := []) r_213_34 rfl rfl rfl ?_
        rw [show (k : Int) + 1 = ((k + 1 : Nat) : Int) from rfl]
        refine ih (k + 1) (by omega) (by omega) (fun i hi => ?_)
        by_cases e : i = k
        · rw [e, ← e_x21]; exact h26
        · exact hI i (by omega)
      · have h26 := Decidable.not_not.mp h26
        refine gx_st (L' := [(2, 192), (0, t), (0, (k : Int))]) (S' := [(0, 1)]) r_213_29 rfl rfl rfl ?_
        exact gx_rt r_213_30 rfl rfl hy
theorem x_213 (hT : TT T) (hm : Gam m) {t : Int} {c : Nat} (hc : m 193 8 = (c : Int)) : GX T 0 213 0 [(2, 192), (0, t), (9, 0)] [] m (RI (fun v m1 => ((v = 0 ∧ ∀ i : Nat, i < c → ¬ m 193 (57 + i) / 100 = t) ∨ v = 1) ∧ m1 = m)) := by
  refine gx_st (L' := [(2, 192), (0, t), (9, 0)]) (S' := [(0, 0)]) r_213_0 rfl rfl rfl ?_
  refine gx_st (L' := [(2, 192), (0, t), (0, 0)]) (S' := []) r_213_1 rfl rfl rfl ?_
  exact has_l hT hm hc ⟨1, rfl, Or.inr rfl, rfl⟩ (fun z => ⟨0, rfl, Or.inl ⟨rfl, z⟩, rfl⟩) (c + 1) 0 (by omega) (by omega) (fun i hi => absurd hi (Nat.not_lt_zero _))
theorem x_146 (hT : TT T) (h136 : ConH T cn_136) (hm : Gam m) (hx : Ext m)  : GX T 10 146 0 [(2, 192)] [] m (RI (fun v m1 => (v = 0 ∨ v = 1) ∧ Gam m1 ∧ Ext m1 ∧ Fr [90021, 90022, 90023, 90024, 90025, 90026, 90027, 97999, 98999, 99999, 100999, 101999, 102999] m m1 ∧ FS m1)) := by
  refine gx_st (L' := [(2, 192)]) (S' := [(2, 192)]) r_146_0 rfl rfl rfl ?_
  refine gx_cv (nx := 4) (S2 := []) (x_143 hT hm hx) r_146_1 rfl rfl rfl rfl rfl (rcv_v rfl (tk_192 hT) (by decide) rfl (by decide)) rfl (by decide) rfl (fun n1 q1 => ?_)
  have f_n1 : Fr [90021, 90022, 90023, 90024, 90025, 90026, 90027, 97999, 98999, 99999, 100999, 101999, 102999] m n1 := Fr_sub (W' := [90021, 90022, 90023, 90024, 90025, 90026, 90027, 97999, 98999, 99999, 100999, 101999, 102999]) q1.2.2.1 (by decide)
  refine gx_st (L' := [(2, 192)]) (S' := [(2, 192)]) r_146_4 rfl rfl rfl ?_
  refine gx_cv (nx := 8) (S2 := []) (x_145 hT h136 q1.1 q1.2.1 q1.2.2.2) r_146_5 rfl rfl rfl rfl rfl (rcv_v rfl (tk_192 hT) (by decide) rfl (by decide)) rfl (by decide) rfl (fun n5 q5 => ?_)
  have f_n5 : Fr [90021, 90022, 90023, 90024, 90025, 90026, 90027, 97999, 98999, 99999, 100999, 101999, 102999] m n5 := Fr_tr f_n1 (Fr_sub (W' := [90021, 90022, 90023, 90024, 90025, 90026, 90027, 97999, 98999, 99999, 100999, 101999, 102999]) q5.2.2.1 (by decide))
  refine gx_st (L' := [(2, 192)]) (S' := [(2, 192)]) r_146_8 rfl rfl rfl ?_
  refine gx_ci (nx := 12) (S2 := []) (x_90 hT q5.1) r_146_9 rfl rfl rfl rfl rfl (rcv_v rfl (tk_192 hT) (by decide) rfl (by decide)) rfl (by decide) rfl (fun x9 n9 q9 => ?_)
  obtain rfl := q9.1.symm
  obtain rfl := q9.2.symm
  show GX T 10 146 12 [(2, 192)] [(0, (if 0 < n5 193 9 then 1 else 0))] n5 (RI (fun v m1 => (v = 0 ∨ v = 1) ∧ Gam m1 ∧ Ext m1 ∧ Fr [90021, 90022, 90023, 90024, 90025, 90026, 90027, 97999, 98999, 99999, 100999, 101999, 102999] m m1 ∧ FS m1))
  exact gx_rb r_146_12 rfl (by split <;> omega) ⟨_, rfl, by split <;> omega, q5.1, q5.2.1, f_n5, q5.2.2.2⟩
theorem x_214 (hT : TT T) (h136 : ConH T cn_136) (hm : Gam m) (hx : Ext m) {t : Nat} (ht : t < 12) {a : Int} (ha1 : 1 ≤ a) (ha2 : a ≤ 16) : GX T 12 214 0 [(2, 192), (0, (t : Int)), (0, a)] [] m (RI (fun v m1 => -5 ≤ v ∧ v ≤ 1 ∧ Gam m1 ∧ Ext m1 ∧ Fr [90021, 90022, 90023, 90024, 90025, 90026, 90027, 91999, 97999, 98999, 99999, 100999, 101999, 102999] m m1)) := by
  obtain ⟨c, hc⟩ : ∃ c : Nat, m 193 8 = (c : Int) := ⟨(m 193 8).toNat, by have := gb_193_8 hm; omega⟩
  refine gx_st (L' := [(2, 192), (0, (t : Int)), (0, a)]) (S' := [(2, 192)]) r_214_0 rfl rfl rfl ?_
  refine gx_st (L' := [(2, 192), (0, (t : Int)), (0, a)]) (S' := [(0, (t : Int)), (2, 192)]) r_214_1 rfl rfl rfl ?_
  refine gx_ci (nx := 5) (S2 := []) (x_213 hT hm (t := (t : Int)) hc) r_214_2 rfl rfl rfl rfl rfl (rcv_v rfl (tk_192 hT) (by decide) rfl (by decide)) rfl (by decide) rfl (fun x2 n2 q2 => ?_)
  obtain ⟨hv, z2⟩ := q2
  obtain rfl := z2.symm
  show GX T 12 214 5 [(2, 192), (0, (t : Int)), (0, a)] [(0, x2)] m (RI (fun v m1 => -5 ≤ v ∧ v ≤ 1 ∧ Gam m1 ∧ Ext m1 ∧ Fr [90021, 90022, 90023, 90024, 90025, 90026, 90027, 91999, 97999, 98999, 99999, 100999, 101999, 102999] m m1))
  refine gx_i0 (P := x2 = 0) r_214_5 (rfl) (fun h5 => ?_) (fun h5 => ?_)
  · have hno : ∀ i : Nat, i < c → ¬ m 193 (57 + i) / 100 = (t : Int) := by
      rcases hv with z | z
      · exact z.2
      · exact absurd (z.symm.trans h5) (by decide)
    have bc := gb_193_8 hm
    have hc12 : c < 12 := acts_lt hx.1 hc (by omega) ht (fun i hi => gb_193_ac hm hi) hno
    refine gx_st (L' := [(2, 192), (0, (t : Int)), (0, a)]) (S' := [(2, 192)]) r_214_11 rfl rfl rfl ?_
    refine gx_gf (x := 193) 2 r_214_12 rfl (tk_192 hT) ⟨by decide, rfl, by decide, by decide⟩ rfl (fun _ => by decide) (pr_192_1 hm) ?_
    refine gx_st (L' := [(2, 192), (0, (t : Int)), (0, a)]) (S' := [(0, 57), (2, 193)]) r_214_15 rfl rfl rfl ?_
    refine gx_st (L' := [(2, 192), (0, (t : Int)), (0, a)]) (S' := [(2, 192), (0, 57), (2, 193)]) r_214_17 rfl rfl rfl ?_
    refine gx_gf (x := 193) 2 r_214_18 rfl (tk_192 hT) ⟨by decide, rfl, by decide, by decide⟩ rfl (fun _ => by decide) (pr_192_1 hm) ?_
    refine gx_st (L' := [(2, 192), (0, (t : Int)), (0, a)]) (S' := [(0, 8), (2, 193), (0, 57), (2, 193)]) r_214_21 rfl rfl rfl ?_
    refine gx_ia (n := 8) (x := (c : Int)) r_214_23 rfl (tk_193 hT) (rfl) ⟨rfl, by decide⟩ (hc) ?_
    refine gx_ar (L' := [(2, 192), (0, (t : Int)), (0, a)]) (S' := [(2, 193)]) (t := 0) (e := w32 (57 + (c : Int))) (z := (c : Int) + 57) r_214_24 rfl rfl rfl (w32_eq (by omega) (by omega) (by omega)) ?_
    refine gx_st (L' := [(2, 192), (0, (t : Int)), (0, a)]) (S' := [(0, 100), (0, (c : Int) + 57), (2, 193)]) r_214_25 rfl rfl rfl ?_
    refine gx_st (L' := [(2, 192), (0, (t : Int)), (0, a)]) (S' := [(0, (t : Int)), (0, 100), (0, (c : Int) + 57), (2, 193)]) r_214_27 rfl rfl rfl ?_
    refine gx_ar (L' := [(2, 192), (0, (t : Int)), (0, a)]) (S' := [(0, (c : Int) + 57), (2, 193)]) (t := 0) (e := w32 (100 * (t : Int))) (z := 100 * (t : Int)) r_214_28 rfl rfl rfl (w32_eq (by omega) (by omega) (by omega)) ?_
    refine gx_st (L' := [(2, 192), (0, (t : Int)), (0, a)]) (S' := [(0, a), (0, 100 * (t : Int)), (0, (c : Int) + 57), (2, 193)]) r_214_29 rfl rfl rfl ?_
    refine gx_ar (L' := [(2, 192), (0, (t : Int)), (0, a)]) (S' := [(0, (c : Int) + 57), (2, 193)]) (t := 0) (e := w32 ((100 * (t : Int)) + a)) (z := 100 * (t : Int) + a) r_214_30 rfl rfl rfl (w32_eq (by omega) (by omega) (by omega)) ?_
    obtain ⟨m1, e_m1⟩ : ∃ z, z = nu_up m 193 (57 + c) (100 * (t : Int) + a) := ⟨_, rfl⟩
    have h_m1 : Gam m1 := by rw [e_m1]; exact gu_193_ac hm (k := c) (by omega) (by omega) (by omega)
    have f_m1 : Fr [90021, 90022, 90023, 90024, 90025, 90026, 90027, 91999, 97999, 98999, 99999, 100999, 101999, 102999] m m1 := Fr_tr Fr_rf (by rw [e_m1]; exact Fr_ua rfl rfl)
    refine gx_is (n := 57 + c) (x := 100 * (t : Int) + a) r_214_31 rfl (by decide) (tk_193 hT) (by omega) ⟨rfl, by omega⟩ e_m1.symm ?_
    refine gx_st (L' := [(2, 192), (0, (t : Int)), (0, a)]) (S' := [(2, 192)]) r_214_32 rfl rfl rfl ?_
    refine gx_gf (x := 193) 2 r_214_33 rfl (tk_192 hT) ⟨by decide, rfl, by decide, by decide⟩ rfl (fun _ => by decide) (pr_192_1 h_m1) ?_
    refine gx_st (L' := [(2, 192), (0, (t : Int)), (0, a)]) (S' := [(0, 8), (2, 193)]) r_214_36 rfl rfl rfl ?_
    refine gx_st (L' := [(2, 192), (0, (t : Int)), (0, a)]) (S' := [(0, 8), (2, 193), (0, 8), (2, 193)]) r_214_38 rfl rfl rfl ?_
    refine gx_ia (n := 8) (x := (c : Int)) r_214_39 rfl (tk_193 hT) (rfl) ⟨rfl, by decide⟩ (show m1 193 (8) = (c : Int) from by rw [e_m1, nu_ne (by omega)]; exact hc) ?_
    refine gx_st (L' := [(2, 192), (0, (t : Int)), (0, a)]) (S' := [(0, 1), (0, (c : Int)), (0, 8), (2, 193)]) r_214_40 rfl rfl rfl ?_
    refine gx_ar (L' := [(2, 192), (0, (t : Int)), (0, a)]) (S' := [(0, 8), (2, 193)]) (t := 0) (e := w32 ((c : Int) + 1)) (z := (c : Int) + 1) r_214_41 rfl rfl rfl (w32_eq (by omega) (by omega) (by omega)) ?_
    obtain ⟨m2, e_m2⟩ : ∃ z, z = nu_up m1 193 (8) ((c : Int) + 1) := ⟨_, rfl⟩
    have h_m2 : Gam m2 := by rw [e_m2]; exact gu_193_8 h_m1 (by omega) (by omega)
    have f_m2 : Fr [90021, 90022, 90023, 90024, 90025, 90026, 90027, 91999, 97999, 98999, 99999, 100999, 101999, 102999] m m2 := Fr_tr f_m1 (by rw [e_m2]; exact Fr_ua rfl rfl)
    refine gx_is (n := 8) (x := (c : Int) + 1) r_214_42 rfl (by decide) (tk_193 hT) (rfl) ⟨rfl, by decide⟩ e_m2.symm ?_
    have hw : WOK (m2 193) := WOK_add hx.1 hc hc12 ha1 ha2 hno (by rw [e_m2, nu_at]) (by rw [e_m2, nu_ne (by omega), e_m1, nu_at]) (fun i h1 h2 => by rw [e_m2, nu_ne h1, e_m1, nu_ne h2])
    have x_m2 : Ext m2 := Ext_w hx hw (by rw [e_m2, nu_row (by decide), e_m1, nu_row (by decide)]) (by rw [e_m2, nu_row (by decide), e_m1, nu_row (by decide)])
    refine gx_st (L' := [(2, 192), (0, (t : Int)), (0, a)]) (S' := [(2, 192)]) r_214_43 rfl rfl rfl ?_
    refine gx_ci (nx := 47) (S2 := []) (x_146 hT h136 h_m2 x_m2) r_214_44 rfl rfl rfl rfl rfl (rcv_v rfl (tk_192 hT) (by decide) rfl (by decide)) rfl (by decide) rfl (fun x44 n44 q44 => ?_)
    show GX T 12 214 47 [(2, 192), (0, (t : Int)), (0, a)] [(0, x44)] n44 (RI (fun v m1 => -5 ≤ v ∧ v ≤ 1 ∧ Gam m1 ∧ Ext m1 ∧ Fr [90021, 90022, 90023, 90024, 90025, 90026, 90027, 91999, 97999, 98999, 99999, 100999, 101999, 102999] m m1))
    have f_n44 : Fr [90021, 90022, 90023, 90024, 90025, 90026, 90027, 91999, 97999, 98999, 99999, 100999, 101999, 102999] m n44 := Fr_tr f_m2 (Fr_sub (W' := [90021, 90022, 90023, 90024, 90025, 90026, 90027, 91999, 97999, 98999, 99999, 100999, 101999, 102999]) q44.2.2.2.1 (by decide))
    have v_x44 := q44.1
    refine gx_st (L' := [(2, 192), (0, (t : Int)), (0, a)]) (S' := []) r_214_47 rfl rfl rfl ?_
    refine gx_st (L' := [(2, 192), (0, (t : Int)), (0, a)]) (S' := [(2, 192)]) r_214_48 rfl rfl rfl ?_
    refine gx_st (L' := [(2, 192), (0, (t : Int)), (0, a)]) (S' := [(0, (t : Int)), (2, 192)]) r_214_49 rfl rfl rfl ?_
    refine gx_st (L' := [(2, 192), (0, (t : Int)), (0, a)]) (S' := [(0, a), (0, (t : Int)), (2, 192)]) r_214_50 rfl rfl rfl ?_
    refine gx_ci (nx := 54) (S2 := []) (x_137 hT h136 q44.2.1 (h := t) (by omega) (a := a) (by omega) ha2 (q44.2.2.1.2.2 t (by omega))) r_214_51 rfl rfl rfl rfl rfl (rcv_v rfl (tk_192 hT) (by decide) rfl (by decide)) rfl (by decide) rfl (fun x51 n51 q51 => ?_)
    obtain ⟨⟨cv, cw⟩, z51⟩ := q51
    obtain rfl := z51.symm
    show GX T 12 214 54 [(2, 192), (0, (t : Int)), (0, a)] [(0, x51)] n44 (RI (fun v m1 => -5 ≤ v ∧ v ≤ 1 ∧ Gam m1 ∧ Ext m1 ∧ Fr [90021, 90022, 90023, 90024, 90025, 90026, 90027, 91999, 97999, 98999, 99999, 100999, 101999, 102999] m m1))
    refine gx_i0 (P := x51 = 0) r_214_54 (rfl) (fun h54 => ?_) (fun h54 => ?_)
    · refine gx_st (L' := [(2, 192), (0, (t : Int)), (0, a)]) (S' := [(0, 0)]) r_214_61 rfl rfl rfl ?_
      exact gx_rt r_214_62 rfl rfl ⟨_, rfl, by omega, by omega, q44.2.1, q44.2.2.1, f_n44⟩
    · refine gx_st (L' := [(2, 192), (0, (t : Int)), (0, a)]) (S' := [(0, 1)]) r_214_57 rfl rfl rfl ?_
      refine gx_st (L' := [(2, 192), (0, (t : Int)), (0, a)]) (S' := [(0, 1)]) r_214_58 rfl rfl rfl ?_
      exact gx_rt r_214_62 rfl rfl ⟨_, rfl, by omega, by omega, q44.2.1, q44.2.2.1, f_n44⟩
  · refine gx_st (L' := [(2, 192), (0, (t : Int)), (0, a)]) (S' := [(0, (-5))]) r_214_8 rfl rfl rfl ?_
    exact gx_rt r_214_10 rfl rfl ⟨_, rfl, by omega, by omega, hm, hx, Fr_rf⟩
end ACTS
