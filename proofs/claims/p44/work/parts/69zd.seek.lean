/-! the isle's searches exactly -/
theorem r_261_0 : row 261 0 = some (.iconst (-1), 1, (-1), 0, 0, 0) := rfl
theorem r_261_1 : row 261 1 = some (.istore_n 3, 2, 0, 0, 0, 0) := rfl
theorem r_261_2 : row 261 2 = some (.bipush 7, 4, 7, 0, 0, 0) := rfl
theorem r_261_4 : row 261 4 = some (.istore 4, 6, 0, 0, 0, 0) := rfl
theorem r_261_6 : row 261 6 = some (.iconst 0, 7, 0, 0, 0, 0) := rfl
theorem r_261_7 : row 261 7 = some (.istore 5, 9, 0, 0, 0, 0) := rfl
theorem r_261_9 : row 261 9 = some (.iload 5, 11, 0, 0, 0, 0) := rfl
theorem r_261_11 : row 261 11 = some (.aload_n 0, 12, 0, 0, 0, 0) := rfl
theorem r_261_12 : row 261 12 = some (.getfield 30, 15, 3, 6, 0, 1091) := rfl
theorem r_261_15 : row 261 15 = some (.if_icmp .ge 54, 18, 69, 0, 0, 0) := rfl
theorem r_261_18 : row 261 18 = some (.aload_n 0, 19, 0, 0, 0, 0) := rfl
theorem r_261_19 : row 261 19 = some (.iload_n 1, 20, 0, 0, 0, 0) := rfl
theorem r_261_20 : row 261 20 = some (.aload_n 0, 21, 0, 0, 0, 0) := rfl
theorem r_261_21 : row 261 21 = some (.getfield 42, 24, 3, 10, 2, 1108) := rfl
theorem r_261_24 : row 261 24 = some (.iload 5, 26, 0, 0, 0, 0) := rfl
theorem r_261_26 : row 261 26 = some (.invokestatic 77, 29, 237, 2, 10, 3107) := rfl
theorem r_261_29 : row 261 29 = some (.invokevirtual 93, 32, 259, 2, 0, 3229) := rfl
theorem r_261_32 : row 261 32 = some (.istore 6, 34, 0, 0, 0, 0) := rfl
theorem r_261_34 : row 261 34 = some (.aload_n 2, 35, 0, 0, 0, 0) := rfl
theorem r_261_35 : row 261 35 = some (.iload 5, 37, 0, 0, 0, 0) := rfl
theorem r_261_37 : row 261 37 = some (.invokestatic 77, 40, 237, 2, 10, 3107) := rfl
theorem r_261_40 : row 261 40 = some (.ifCond .le 23, 43, 63, 0, 0, 0) := rfl
theorem r_261_43 : row 261 43 = some (.iload 6, 45, 0, 0, 0, 0) := rfl
theorem r_261_45 : row 261 45 = some (.iconst (-1), 46, (-1), 0, 0, 0) := rfl
theorem r_261_46 : row 261 46 = some (.if_icmp .eq 17, 49, 63, 0, 0, 0) := rfl
theorem r_261_49 : row 261 49 = some (.iload 6, 51, 0, 0, 0, 0) := rfl
theorem r_261_51 : row 261 51 = some (.iload 4, 53, 0, 0, 0, 0) := rfl
theorem r_261_53 : row 261 53 = some (.if_icmp .ge 10, 56, 63, 0, 0, 0) := rfl
theorem r_261_56 : row 261 56 = some (.iload 6, 58, 0, 0, 0, 0) := rfl
theorem r_261_58 : row 261 58 = some (.istore 4, 60, 0, 0, 0, 0) := rfl
theorem r_261_60 : row 261 60 = some (.iload 5, 62, 0, 0, 0, 0) := rfl
theorem r_261_62 : row 261 62 = some (.istore_n 3, 63, 0, 0, 0, 0) := rfl
theorem r_261_63 : row 261 63 = some (.iinc 5 1, 66, 0, 0, 0, 0) := rfl
theorem r_261_66 : row 261 66 = some (.goto (-57), 69, 9, 0, 0, 0) := rfl
theorem r_261_69 : row 261 69 = some (.iload_n 3, 70, 0, 0, 0, 0) := rfl
theorem r_261_70 : row 261 70 = some (.ireturn, 71, 0, 0, 0, 0) := rfl
theorem r_262_0 : row 262 0 = some (.aload_n 0, 1, 0, 0, 0, 0) := rfl
theorem r_262_1 : row 262 1 = some (.getfield 61, 4, 3, 16, 2, 1130) := rfl
theorem r_262_4 : row 262 4 = some (.iload_n 1, 5, 0, 0, 0, 0) := rfl
theorem r_262_5 : row 262 5 = some (.invokestatic 77, 8, 237, 2, 10, 3107) := rfl
theorem r_262_8 : row 262 8 = some (.istore_n 3, 9, 0, 0, 0, 0) := rfl
theorem r_262_9 : row 262 9 = some (.aload_n 0, 10, 0, 0, 0, 0) := rfl
theorem r_262_10 : row 262 10 = some (.iload_n 1, 11, 0, 0, 0, 0) := rfl
theorem r_262_11 : row 262 11 = some (.iload_n 2, 12, 0, 0, 0, 0) := rfl
theorem r_262_12 : row 262 12 = some (.invokevirtual 93, 15, 259, 2, 0, 3229) := rfl
theorem r_262_15 : row 262 15 = some (.istore 4, 17, 0, 0, 0, 0) := rfl
theorem r_262_17 : row 262 17 = some (.iconst 0, 18, 0, 0, 0, 0) := rfl
theorem r_262_18 : row 262 18 = some (.istore 5, 20, 0, 0, 0, 0) := rfl
theorem r_262_20 : row 262 20 = some (.iload 5, 22, 0, 0, 0, 0) := rfl
theorem r_262_22 : row 262 22 = some (.aload_n 0, 23, 0, 0, 0, 0) := rfl
theorem r_262_23 : row 262 23 = some (.getfield 15, 26, 3, 1, 0, 1069) := rfl
theorem r_262_26 : row 262 26 = some (.if_icmp .ge 35, 29, 61, 0, 0, 0) := rfl
theorem r_262_29 : row 262 29 = some (.iload_n 3, 30, 0, 0, 0, 0) := rfl
theorem r_262_30 : row 262 30 = some (.iload 5, 32, 0, 0, 0, 0) := rfl
theorem r_262_32 : row 262 32 = some (.invokestatic 89, 35, 242, 2, 10, 3143) := rfl
theorem r_262_35 : row 262 35 = some (.ifCond .eq 20, 38, 55, 0, 0, 0) := rfl
theorem r_262_38 : row 262 38 = some (.aload_n 0, 39, 0, 0, 0, 0) := rfl
theorem r_262_39 : row 262 39 = some (.iload 5, 41, 0, 0, 0, 0) := rfl
theorem r_262_41 : row 262 41 = some (.iload_n 2, 42, 0, 0, 0, 0) := rfl
theorem r_262_42 : row 262 42 = some (.invokevirtual 93, 45, 259, 2, 0, 3229) := rfl
theorem r_262_45 : row 262 45 = some (.iload 4, 47, 0, 0, 0, 0) := rfl
theorem r_262_47 : row 262 47 = some (.iconst 1, 48, 1, 0, 0, 0) := rfl
theorem r_262_48 : row 262 48 = some (.isub, 49, 0, 0, 0, 0) := rfl
theorem r_262_49 : row 262 49 = some (.if_icmp .ne 6, 52, 55, 0, 0, 0) := rfl
theorem r_262_52 : row 262 52 = some (.iload 5, 54, 0, 0, 0, 0) := rfl
theorem r_262_54 : row 262 54 = some (.ireturn, 55, 0, 0, 0, 0) := rfl
theorem r_262_55 : row 262 55 = some (.iinc 5 1, 58, 0, 0, 0, 0) := rfl
theorem r_262_58 : row 262 58 = some (.goto (-38), 61, 20, 0, 0, 0) := rfl
theorem r_262_61 : row 262 61 = some (.iconst (-1), 62, (-1), 0, 0, 0) := rfl
theorem r_262_62 : row 262 62 = some (.ireturn, 63, 0, 0, 0, 0) := rfl
theorem r_263_0 : row 263 0 = some (.iconst (-1), 1, (-1), 0, 0, 0) := rfl
theorem r_263_1 : row 263 1 = some (.istore_n 3, 2, 0, 0, 0, 0) := rfl
theorem r_263_2 : row 263 2 = some (.iconst 0, 3, 0, 0, 0, 0) := rfl
theorem r_263_3 : row 263 3 = some (.istore 4, 5, 0, 0, 0, 0) := rfl
theorem r_263_5 : row 263 5 = some (.iconst 0, 6, 0, 0, 0, 0) := rfl
theorem r_263_6 : row 263 6 = some (.istore 5, 8, 0, 0, 0, 0) := rfl
theorem r_263_8 : row 263 8 = some (.iload 5, 10, 0, 0, 0, 0) := rfl
theorem r_263_10 : row 263 10 = some (.aload_n 0, 11, 0, 0, 0, 0) := rfl
theorem r_263_11 : row 263 11 = some (.getfield 36, 14, 3, 8, 0, 1099) := rfl
theorem r_263_14 : row 263 14 = some (.if_icmp .ge 68, 17, 82, 0, 0, 0) := rfl
theorem r_263_17 : row 263 17 = some (.aload_n 0, 18, 0, 0, 0, 0) := rfl
theorem r_263_18 : row 263 18 = some (.getfield 58, 21, 3, 15, 2, 1126) := rfl
theorem r_263_21 : row 263 21 = some (.iload 5, 23, 0, 0, 0, 0) := rfl
theorem r_263_23 : row 263 23 = some (.invokestatic 77, 26, 237, 2, 10, 3107) := rfl
theorem r_263_26 : row 263 26 = some (.istore 6, 28, 0, 0, 0, 0) := rfl
theorem r_263_28 : row 263 28 = some (.iload_n 2, 29, 0, 0, 0, 0) := rfl
theorem r_263_29 : row 263 29 = some (.iload 5, 31, 0, 0, 0, 0) := rfl
theorem r_263_31 : row 263 31 = some (.invokestatic 89, 34, 242, 2, 10, 3143) := rfl
theorem r_263_34 : row 263 34 = some (.ifCond .ne 7, 37, 41, 0, 0, 0) := rfl
theorem r_263_37 : row 263 37 = some (.iconst 1, 38, 1, 0, 0, 0) := rfl
theorem r_263_38 : row 263 38 = some (.goto 4, 41, 42, 0, 0, 0) := rfl
theorem r_263_41 : row 263 41 = some (.iconst 0, 42, 0, 0, 0, 0) := rfl
theorem r_263_42 : row 263 42 = some (.istore 7, 44, 0, 0, 0, 0) := rfl
theorem r_263_44 : row 263 44 = some (.iload 7, 46, 0, 0, 0, 0) := rfl
theorem r_263_46 : row 263 46 = some (.ifCond .eq 30, 49, 76, 0, 0, 0) := rfl
theorem r_263_49 : row 263 49 = some (.aload_n 0, 50, 0, 0, 0, 0) := rfl
theorem r_263_50 : row 263 50 = some (.getfield 55, 53, 3, 14, 2, 1124) := rfl
theorem r_263_53 : row 263 53 = some (.iload 5, 55, 0, 0, 0, 0) := rfl
theorem r_263_55 : row 263 55 = some (.invokestatic 77, 58, 237, 2, 10, 3107) := rfl
theorem r_263_58 : row 263 58 = some (.iload_n 1, 59, 0, 0, 0, 0) := rfl
theorem r_263_59 : row 263 59 = some (.if_icmp .ne 17, 62, 76, 0, 0, 0) := rfl
theorem r_263_62 : row 263 62 = some (.iload 6, 64, 0, 0, 0, 0) := rfl
theorem r_263_64 : row 263 64 = some (.iload 4, 66, 0, 0, 0, 0) := rfl
theorem r_263_66 : row 263 66 = some (.if_icmp .le 10, 69, 76, 0, 0, 0) := rfl
theorem r_263_69 : row 263 69 = some (.iload 6, 71, 0, 0, 0, 0) := rfl
theorem r_263_71 : row 263 71 = some (.istore 4, 73, 0, 0, 0, 0) := rfl
theorem r_263_73 : row 263 73 = some (.iload 5, 75, 0, 0, 0, 0) := rfl
theorem r_263_75 : row 263 75 = some (.istore_n 3, 76, 0, 0, 0, 0) := rfl
theorem r_263_76 : row 263 76 = some (.iinc 5 1, 79, 0, 0, 0, 0) := rfl
theorem r_263_79 : row 263 79 = some (.goto (-71), 82, 8, 0, 0, 0) := rfl
theorem r_263_82 : row 263 82 = some (.iload_n 3, 83, 0, 0, 0, 0) := rfl
theorem r_263_83 : row 263 83 = some (.ireturn, 84, 0, 0, 0, 0) := rfl
theorem r_264_0 : row 264 0 = some (.iconst 0, 1, 0, 0, 0, 0) := rfl
theorem r_264_1 : row 264 1 = some (.istore 4, 3, 0, 0, 0, 0) := rfl
theorem r_264_3 : row 264 3 = some (.iload 4, 5, 0, 0, 0, 0) := rfl
theorem r_264_5 : row 264 5 = some (.aload_n 0, 6, 0, 0, 0, 0) := rfl
theorem r_264_6 : row 264 6 = some (.getfield 33, 9, 3, 7, 0, 1095) := rfl
theorem r_264_9 : row 264 9 = some (.if_icmp .ge 71, 12, 80, 0, 0, 0) := rfl
theorem r_264_12 : row 264 12 = some (.aload_n 0, 13, 0, 0, 0, 0) := rfl
theorem r_264_13 : row 264 13 = some (.getfield 52, 16, 3, 13, 2, 1120) := rfl
theorem r_264_16 : row 264 16 = some (.iload 4, 18, 0, 0, 0, 0) := rfl
theorem r_264_18 : row 264 18 = some (.invokestatic 77, 21, 237, 2, 10, 3107) := rfl
theorem r_264_21 : row 264 21 = some (.iload_n 2, 22, 0, 0, 0, 0) := rfl
theorem r_264_22 : row 264 22 = some (.if_icmp .gt 7, 25, 29, 0, 0, 0) := rfl
theorem r_264_25 : row 264 25 = some (.iconst 1, 26, 1, 0, 0, 0) := rfl
theorem r_264_26 : row 264 26 = some (.goto 4, 29, 30, 0, 0, 0) := rfl
theorem r_264_29 : row 264 29 = some (.iconst 0, 30, 0, 0, 0, 0) := rfl
theorem r_264_30 : row 264 30 = some (.istore 5, 32, 0, 0, 0, 0) := rfl
theorem r_264_32 : row 264 32 = some (.iload_n 3, 33, 0, 0, 0, 0) := rfl
theorem r_264_33 : row 264 33 = some (.iload 4, 35, 0, 0, 0, 0) := rfl
theorem r_264_35 : row 264 35 = some (.invokestatic 89, 38, 242, 2, 10, 3143) := rfl
theorem r_264_38 : row 264 38 = some (.ifCond .ne 7, 41, 45, 0, 0, 0) := rfl
theorem r_264_41 : row 264 41 = some (.iconst 1, 42, 1, 0, 0, 0) := rfl
theorem r_264_42 : row 264 42 = some (.goto 4, 45, 46, 0, 0, 0) := rfl
theorem r_264_45 : row 264 45 = some (.iconst 0, 46, 0, 0, 0, 0) := rfl
theorem r_264_46 : row 264 46 = some (.istore 6, 48, 0, 0, 0, 0) := rfl
theorem r_264_48 : row 264 48 = some (.iload 5, 50, 0, 0, 0, 0) := rfl
theorem r_264_50 : row 264 50 = some (.ifCond .eq 24, 53, 74, 0, 0, 0) := rfl
theorem r_264_53 : row 264 53 = some (.iload 6, 55, 0, 0, 0, 0) := rfl
theorem r_264_55 : row 264 55 = some (.ifCond .eq 19, 58, 74, 0, 0, 0) := rfl
theorem r_264_58 : row 264 58 = some (.aload_n 0, 59, 0, 0, 0, 0) := rfl
theorem r_264_59 : row 264 59 = some (.getfield 49, 62, 3, 12, 2, 1116) := rfl
theorem r_264_62 : row 264 62 = some (.iload 4, 64, 0, 0, 0, 0) := rfl
theorem r_264_64 : row 264 64 = some (.invokestatic 77, 67, 237, 2, 10, 3107) := rfl
theorem r_264_67 : row 264 67 = some (.iload_n 1, 68, 0, 0, 0, 0) := rfl
theorem r_264_68 : row 264 68 = some (.if_icmp .ne 6, 71, 74, 0, 0, 0) := rfl
theorem r_264_71 : row 264 71 = some (.iload 4, 73, 0, 0, 0, 0) := rfl
theorem r_264_73 : row 264 73 = some (.ireturn, 74, 0, 0, 0, 0) := rfl
theorem r_264_74 : row 264 74 = some (.iinc 4 1, 77, 0, 0, 0, 0) := rfl
theorem r_264_77 : row 264 77 = some (.goto (-74), 80, 3, 0, 0, 0) := rfl
theorem r_264_80 : row 264 80 = some (.iconst (-1), 81, (-1), 0, 0, 0) := rfl
theorem r_264_81 : row 264 81 = some (.ireturn, 82, 0, 0, 0, 0) := rfl
/-- y is the first below n with P, or -1 -/
def FirstOf (n : Nat) (P : Nat → Prop) (y : Int) : Prop := (y = -1 ∧ ∀ i : Nat, i < n → ¬ P i) ∨ ∃ i : Nat, i < n ∧ P i ∧ y = (i : Int) ∧ ∀ j : Nat, j < i → ¬ P j
theorem FirstOf_eq {n : Nat} {P R : Nat → Prop} {y z : Int} (h1 : FirstOf n P y) (h2 : FirstOf n R z) (h : ∀ i : Nat, i < n → (P i ↔ R i)) : y = z := by
  rcases h1 with ⟨a1, a2⟩ | ⟨i, a1, a2, a3, a4⟩
  · rcases h2 with ⟨b1, b2⟩ | ⟨k, b1, b2, b3, b4⟩
    · rw [a1, b1]
    · exact absurd ((h k b1).mpr b2) (a2 k b1)
  · rcases h2 with ⟨b1, b2⟩ | ⟨k, b1, b2, b3, b4⟩
    · exact absurd ((h i a1).mp a2) (b2 i a1)
    · have e1 : ¬ i < k := fun c => b4 i c ((h i a1).mp a2)
      have e2 : ¬ k < i := fun c => a4 k c ((h k b1).mpr b2)
      rw [a3, b3]; omega
/-- y is the first below n of those with C whose key is least, or -1 -/
def BestOf (n : Nat) (C : Nat → Prop) (key : Nat → Int) (y : Int) : Prop := (y = -1 ∧ ∀ i : Nat, i < n → ¬ C i) ∨ ∃ i : Nat, i < n ∧ C i ∧ y = (i : Int) ∧ ∀ j : Nat, j < n → C j → key i ≤ key j ∧ (j < i → key i < key j)
theorem BestOf_eq {n : Nat} {C D : Nat → Prop} {k1 k2 : Nat → Int} {y z : Int} (h1 : BestOf n C k1 y) (h2 : BestOf n D k2 z) (h : ∀ i : Nat, i < n → (C i ↔ D i)) (hk : ∀ i : Nat, i < n → C i → k1 i = k2 i) : y = z := by
  rcases h1 with ⟨a1, a2⟩ | ⟨i, a1, a2, a3, a4⟩
  · rcases h2 with ⟨b1, b2⟩ | ⟨k, b1, b2, b3, b4⟩
    · rw [a1, b1]
    · exact absurd ((h k b1).mpr b2) (a2 k b1)
  · rcases h2 with ⟨b1, b2⟩ | ⟨k, b1, b2, b3, b4⟩
    · exact absurd ((h i a1).mp a2) (b2 i a1)
    · have u := a4 k b1 ((h k b1).mpr b2)
      have v := b4 i a1 ((h i a1).mp a2)
      rw [← hk i a1 a2, ← hk k b1 ((h k b1).mpr b2)] at v
      rw [a3, b3]
      rcases Nat.lt_trichotomy i k with c | c | c
      · have := v.2 c; omega
      · rw [c]
      · have := u.2 c; omega
/-- the best of the first k -/
theorem BestOf_0 {C : Nat → Prop} {key : Nat → Int} : BestOf 0 C key (-1) := Or.inl ⟨rfl, fun i hi => absurd hi (Nat.not_lt_zero _)⟩
theorem BestOf_no {k : Nat} {C : Nat → Prop} {key : Nat → Int} {y : Int} (h : BestOf k C key y) (hC : C k → ∃ i : Nat, i < k ∧ y = (i : Int) ∧ key i ≤ key k) : BestOf (k + 1) C key y := by
  rcases h with ⟨a1, a2⟩ | ⟨i, a1, a2, a3, a4⟩
  · refine Or.inl ⟨a1, fun i hi => ?_⟩
    by_cases e : i = k
    · intro c
      rw [e] at c
      obtain ⟨j, j1, j2, j3⟩ := hC c
      omega
    · exact a2 i (by omega)
  · refine Or.inr ⟨i, by omega, a2, a3, fun j hj c => ?_⟩
    by_cases e : j = k
    · rw [e] at c
      obtain ⟨t, t1, t2, t3⟩ := hC c
      have : t = i := by omega
      rw [this] at t3
      rw [e]
      exact ⟨t3, fun z => by omega⟩
    · exact a4 j (by omega) c
theorem BestOf_new {k : Nat} {C : Nat → Prop} {key : Nat → Int} {y : Int} (h : BestOf k C key y) (hC : C k) (hk : ∀ i : Nat, i < k → y = (i : Int) → key k < key i) : BestOf (k + 1) C key (k : Int) := by
  refine Or.inr ⟨k, by omega, hC, rfl, fun j hj c => ?_⟩
  by_cases e : j = k
  · rw [e]; exact ⟨Int.le_refl _, fun z => by omega⟩
  · rcases h with ⟨a1, a2⟩ | ⟨i, a1, a2, a3, a4⟩
    · exact absurd c (a2 j (by omega))
    · have u := hk i a1 a3
      have v := (a4 j (by omega) c).1
      exact ⟨by omega, fun _ => by omega⟩
/-- the best so far: z where there is none -/
def TopM (z : Int) (key : Nat → Int) (k : Nat) (y mo : Int) : Prop := (y = -1 ∧ mo = z) ∨ ∃ i : Nat, i < k ∧ y = (i : Int) ∧ mo = key i
section SEEK
variable {T : List Kd} {m : Mm}
theorem rv_l (hT : TT T) {o : Nat} (ho : IsleT T o) (hor : IsleR m o) {pl hr em : Int} {nv : Nat} (hn : m o 7 = (nv : Int)) (hn3 : nv ≤ 3) : ∀ (N k : Nat) (x y : AV), nv - k < N → k ≤ nv → ¬ x.1 = 1 → ¬ y.1 = 1 → (∀ j : Nat, j < k → ¬ (fun v : Nat => m (o + 4) v ≤ hr ∧ ¬ iand (ishr em (v : Int)) 1 = 1 ∧ m (o + 3) v = pl) j) → GX T 1 264 3 [(2, (o : Int)), (0, pl), (0, hr), (0, em), (0, (k : Int)), x, y] [] m (RI (fun v m1 => FirstOf nv (fun v : Nat => m (o + 4) v ≤ hr ∧ ¬ iand (ishr em (v : Int)) 1 = 1 ∧ m (o + 3) v = pl) v ∧ m1 = m)) := by
  have ho0 := ho.1
  intro N
  induction N with
  | zero => intro k x y hN; exact absurd hN (Nat.not_lt_zero _)
  | succ N ih =>
    intro k x y hN hk hx hy hb
    refine gx_st (L' := [(2, (o : Int)), (0, pl), (0, hr), (0, em), (0, (k : Int)), x, y]) (S' := [(0, (k : Int))]) r_264_3 rfl rfl rfl ?_
    refine gx_st (L' := [(2, (o : Int)), (0, pl), (0, hr), (0, em), (0, (k : Int)), x, y]) (S' := [(2, (o : Int)), (0, (k : Int))]) r_264_5 rfl rfl rfl ?_
    refine gx_gf (x := (nv : Int)) 0 r_264_6 (rfl) (tisle_0 ho) ⟨by omega, rfl, by decide, by decide⟩ rfl (fun z => absurd z (by decide)) (hn) ?_
    refine gx_ic (P := (nv : Int) ≤ (k : Int)) r_264_9 (rfl) (fun h9 => ?_) (fun h9 => ?_)
    · refine gx_st (L' := [(2, (o : Int)), (0, pl), (0, hr), (0, em), (0, (k : Int)), x, y]) (S' := [(0, (-1))]) r_264_80 rfl rfl rfl ?_
      have hkn : k = nv := by omega
      rw [hkn] at hb
      exact gx_rt r_264_81 rfl rfl ⟨_, rfl, Or.inl ⟨rfl, hb⟩, rfl⟩
    · refine gx_st (L' := [(2, (o : Int)), (0, pl), (0, hr), (0, em), (0, (k : Int)), x, y]) (S' := [(2, (o : Int))]) r_264_12 rfl rfl rfl ?_
      refine gx_gf (x := (o : Int) + 4) 2 r_264_13 (rfl) (tisle_0 ho) ⟨by omega, rfl, by decide, by decide⟩ rfl (fun _ => by omega) (hor.2.2.2.1) ?_
      refine gx_st (L' := [(2, (o : Int)), (0, pl), (0, hr), (0, em), (0, (k : Int)), x, y]) (S' := [(0, (k : Int)), (2, (o : Int) + 4)]) r_264_16 rfl rfl rfl ?_
      refine gx_ci (nx := 21) (S2 := []) (c_237 (r := o + 4) (n := 3) (tisle_4 ho) (by omega) (by decide) (k := k) (by omega)) r_264_18 rfl rfl rfl rfl rfl rfl rfl (by decide) rfl (fun x18 n18 q18 => ?_)
      obtain rfl := q18.1.symm
      obtain rfl := q18.2.symm
      show GX T 1 264 21 [(2, (o : Int)), (0, pl), (0, hr), (0, em), (0, (k : Int)), x, y] [(0, (m (o + 4) k))] m (RI (fun v m1 => FirstOf nv (fun v : Nat => m (o + 4) v ≤ hr ∧ ¬ iand (ishr em (v : Int)) 1 = 1 ∧ m (o + 3) v = pl) v ∧ m1 = m))
      refine gx_st (L' := [(2, (o : Int)), (0, pl), (0, hr), (0, em), (0, (k : Int)), x, y]) (S' := [(0, hr), (0, (m (o + 4) k))]) r_264_21 rfl rfl rfl ?_
      refine gx_ic (P := hr < (m (o + 4) k)) r_264_22 (rfl) (fun h22 => ?_) (fun h22 => ?_)
      · refine gx_st (L' := [(2, (o : Int)), (0, pl), (0, hr), (0, em), (0, (k : Int)), x, y]) (S' := [(0, 0)]) r_264_29 rfl rfl rfl ?_
        refine gx_st (L' := [(2, (o : Int)), (0, pl), (0, hr), (0, em), (0, (k : Int)), (0, 0), y]) (S' := []) r_264_30 rfl rfl rfl ?_
        refine gx_st (L' := [(2, (o : Int)), (0, pl), (0, hr), (0, em), (0, (k : Int)), (0, 0), y]) (S' := [(0, em)]) r_264_32 rfl rfl rfl ?_
        refine gx_st (L' := [(2, (o : Int)), (0, pl), (0, hr), (0, em), (0, (k : Int)), (0, 0), y]) (S' := [(0, (k : Int)), (0, em)]) r_264_33 rfl rfl rfl ?_
        refine gx_ci (nx := 38) (S2 := []) (x_242 em (k : Int)) r_264_35 rfl rfl rfl rfl rfl rfl rfl (by decide) rfl (fun x35 n35 q35 => ?_)
        obtain rfl := q35.1.symm
        obtain rfl := q35.2.symm
        show GX T 1 264 38 [(2, (o : Int)), (0, pl), (0, hr), (0, em), (0, (k : Int)), (0, 0), y] [(0, (if 0 ≤ (k : Int) ∧ (k : Int) < 32 ∧ iand (ishr em (k : Int)) 1 = 1 then 1 else 0))] m (RI (fun v m1 => FirstOf nv (fun v : Nat => m (o + 4) v ≤ hr ∧ ¬ iand (ishr em (v : Int)) 1 = 1 ∧ m (o + 3) v = pl) v ∧ m1 = m))
        refine gx_i0 (P := 0 ≤ (k : Int) ∧ (k : Int) < 32 ∧ iand (ishr em (k : Int)) 1 = 1) r_264_38 (b01_ne) (fun h38 => ?_) (fun h38 => ?_)
        · refine gx_st (L' := [(2, (o : Int)), (0, pl), (0, hr), (0, em), (0, (k : Int)), (0, 0), y]) (S' := [(0, 0)]) r_264_45 rfl rfl rfl ?_
          refine gx_st (L' := [(2, (o : Int)), (0, pl), (0, hr), (0, em), (0, (k : Int)), (0, 0), (0, 0)]) (S' := []) r_264_46 rfl rfl rfl ?_
          refine gx_st (L' := [(2, (o : Int)), (0, pl), (0, hr), (0, em), (0, (k : Int)), (0, 0), (0, 0)]) (S' := [(0, 0)]) r_264_48 rfl rfl rfl ?_
          refine gx_i0 (P := 0 = 0) r_264_50 (rfl) (fun h50 => ?_) (fun h50 => ?_)
          · refine gx_li (z := (k : Int) + 1) (L' := [(2, (o : Int)), (0, pl), (0, hr), (0, em), (0, (k : Int) + 1), (0, 0), (0, 0)]) r_264_74 rfl (w32_eq (by omega) (by omega) (by omega)) rfl ?_
            refine gx_st (L' := [(2, (o : Int)), (0, pl), (0, hr), (0, em), (0, (k : Int) + 1), (0, 0), (0, 0)]) (S' := []) r_264_77 rfl rfl rfl ?_
            rw [show (k : Int) + 1 = ((k + 1 : Nat) : Int) from rfl]
            refine ih (k + 1) (0, 0) (0, 0) (by omega) (by omega) (show ¬ ((0 : Nat) = 1) by decide) (show ¬ ((0 : Nat) = 1) by decide) (fun j hj => ?_)
            by_cases e : j = k
            · rw [e]
              rintro ⟨z1, z2, z3⟩
              first
                | exact absurd z1 (by omega)
                | exact absurd z3 (by assumption)
                | exact absurd (And.right (And.right (by assumption : 0 ≤ (k : Int) ∧ (k : Int) < 32 ∧ iand (ishr em (k : Int)) 1 = 1))) z2
            · exact hb j (by omega)
          · omega
        · refine gx_st (L' := [(2, (o : Int)), (0, pl), (0, hr), (0, em), (0, (k : Int)), (0, 0), y]) (S' := [(0, 1)]) r_264_41 rfl rfl rfl ?_
          refine gx_st (L' := [(2, (o : Int)), (0, pl), (0, hr), (0, em), (0, (k : Int)), (0, 0), y]) (S' := [(0, 1)]) r_264_42 rfl rfl rfl ?_
          refine gx_st (L' := [(2, (o : Int)), (0, pl), (0, hr), (0, em), (0, (k : Int)), (0, 0), (0, 1)]) (S' := []) r_264_46 rfl rfl rfl ?_
          refine gx_st (L' := [(2, (o : Int)), (0, pl), (0, hr), (0, em), (0, (k : Int)), (0, 0), (0, 1)]) (S' := [(0, 0)]) r_264_48 rfl rfl rfl ?_
          refine gx_i0 (P := 0 = 0) r_264_50 (rfl) (fun h50 => ?_) (fun h50 => ?_)
          · refine gx_li (z := (k : Int) + 1) (L' := [(2, (o : Int)), (0, pl), (0, hr), (0, em), (0, (k : Int) + 1), (0, 0), (0, 1)]) r_264_74 rfl (w32_eq (by omega) (by omega) (by omega)) rfl ?_
            refine gx_st (L' := [(2, (o : Int)), (0, pl), (0, hr), (0, em), (0, (k : Int) + 1), (0, 0), (0, 1)]) (S' := []) r_264_77 rfl rfl rfl ?_
            rw [show (k : Int) + 1 = ((k + 1 : Nat) : Int) from rfl]
            refine ih (k + 1) (0, 0) (0, 1) (by omega) (by omega) (show ¬ ((0 : Nat) = 1) by decide) (show ¬ ((0 : Nat) = 1) by decide) (fun j hj => ?_)
            by_cases e : j = k
            · rw [e]
              rintro ⟨z1, z2, z3⟩
              first
                | exact absurd z1 (by omega)
                | exact absurd z3 (by assumption)
                | exact absurd (And.right (And.right (by assumption : 0 ≤ (k : Int) ∧ (k : Int) < 32 ∧ iand (ishr em (k : Int)) 1 = 1))) z2
            · exact hb j (by omega)
          · omega
      · refine gx_st (L' := [(2, (o : Int)), (0, pl), (0, hr), (0, em), (0, (k : Int)), x, y]) (S' := [(0, 1)]) r_264_25 rfl rfl rfl ?_
        refine gx_st (L' := [(2, (o : Int)), (0, pl), (0, hr), (0, em), (0, (k : Int)), x, y]) (S' := [(0, 1)]) r_264_26 rfl rfl rfl ?_
        refine gx_st (L' := [(2, (o : Int)), (0, pl), (0, hr), (0, em), (0, (k : Int)), (0, 1), y]) (S' := []) r_264_30 rfl rfl rfl ?_
        refine gx_st (L' := [(2, (o : Int)), (0, pl), (0, hr), (0, em), (0, (k : Int)), (0, 1), y]) (S' := [(0, em)]) r_264_32 rfl rfl rfl ?_
        refine gx_st (L' := [(2, (o : Int)), (0, pl), (0, hr), (0, em), (0, (k : Int)), (0, 1), y]) (S' := [(0, (k : Int)), (0, em)]) r_264_33 rfl rfl rfl ?_
        refine gx_ci (nx := 38) (S2 := []) (x_242 em (k : Int)) r_264_35 rfl rfl rfl rfl rfl rfl rfl (by decide) rfl (fun x35 n35 q35 => ?_)
        obtain rfl := q35.1.symm
        obtain rfl := q35.2.symm
        show GX T 1 264 38 [(2, (o : Int)), (0, pl), (0, hr), (0, em), (0, (k : Int)), (0, 1), y] [(0, (if 0 ≤ (k : Int) ∧ (k : Int) < 32 ∧ iand (ishr em (k : Int)) 1 = 1 then 1 else 0))] m (RI (fun v m1 => FirstOf nv (fun v : Nat => m (o + 4) v ≤ hr ∧ ¬ iand (ishr em (v : Int)) 1 = 1 ∧ m (o + 3) v = pl) v ∧ m1 = m))
        refine gx_i0 (P := 0 ≤ (k : Int) ∧ (k : Int) < 32 ∧ iand (ishr em (k : Int)) 1 = 1) r_264_38 (b01_ne) (fun h38 => ?_) (fun h38 => ?_)
        · refine gx_st (L' := [(2, (o : Int)), (0, pl), (0, hr), (0, em), (0, (k : Int)), (0, 1), y]) (S' := [(0, 0)]) r_264_45 rfl rfl rfl ?_
          refine gx_st (L' := [(2, (o : Int)), (0, pl), (0, hr), (0, em), (0, (k : Int)), (0, 1), (0, 0)]) (S' := []) r_264_46 rfl rfl rfl ?_
          refine gx_st (L' := [(2, (o : Int)), (0, pl), (0, hr), (0, em), (0, (k : Int)), (0, 1), (0, 0)]) (S' := [(0, 1)]) r_264_48 rfl rfl rfl ?_
          refine gx_i0 (P := 1 = 0) r_264_50 (rfl) (fun h50 => ?_) (fun h50 => ?_)
          · omega
          · refine gx_st (L' := [(2, (o : Int)), (0, pl), (0, hr), (0, em), (0, (k : Int)), (0, 1), (0, 0)]) (S' := [(0, 0)]) r_264_53 rfl rfl rfl ?_
            refine gx_i0 (P := 0 = 0) r_264_55 (rfl) (fun h55 => ?_) (fun h55 => ?_)
            · refine gx_li (z := (k : Int) + 1) (L' := [(2, (o : Int)), (0, pl), (0, hr), (0, em), (0, (k : Int) + 1), (0, 1), (0, 0)]) r_264_74 rfl (w32_eq (by omega) (by omega) (by omega)) rfl ?_
              refine gx_st (L' := [(2, (o : Int)), (0, pl), (0, hr), (0, em), (0, (k : Int) + 1), (0, 1), (0, 0)]) (S' := []) r_264_77 rfl rfl rfl ?_
              rw [show (k : Int) + 1 = ((k + 1 : Nat) : Int) from rfl]
              refine ih (k + 1) (0, 1) (0, 0) (by omega) (by omega) (show ¬ ((0 : Nat) = 1) by decide) (show ¬ ((0 : Nat) = 1) by decide) (fun j hj => ?_)
              by_cases e : j = k
              · rw [e]
                rintro ⟨z1, z2, z3⟩
                first
                  | exact absurd z1 (by omega)
                  | exact absurd z3 (by assumption)
                  | exact absurd (And.right (And.right (by assumption : 0 ≤ (k : Int) ∧ (k : Int) < 32 ∧ iand (ishr em (k : Int)) 1 = 1))) z2
              · exact hb j (by omega)
            · omega
        · refine gx_st (L' := [(2, (o : Int)), (0, pl), (0, hr), (0, em), (0, (k : Int)), (0, 1), y]) (S' := [(0, 1)]) r_264_41 rfl rfl rfl ?_
          refine gx_st (L' := [(2, (o : Int)), (0, pl), (0, hr), (0, em), (0, (k : Int)), (0, 1), y]) (S' := [(0, 1)]) r_264_42 rfl rfl rfl ?_
          refine gx_st (L' := [(2, (o : Int)), (0, pl), (0, hr), (0, em), (0, (k : Int)), (0, 1), (0, 1)]) (S' := []) r_264_46 rfl rfl rfl ?_
          refine gx_st (L' := [(2, (o : Int)), (0, pl), (0, hr), (0, em), (0, (k : Int)), (0, 1), (0, 1)]) (S' := [(0, 1)]) r_264_48 rfl rfl rfl ?_
          refine gx_i0 (P := 1 = 0) r_264_50 (rfl) (fun h50 => ?_) (fun h50 => ?_)
          · omega
          · refine gx_st (L' := [(2, (o : Int)), (0, pl), (0, hr), (0, em), (0, (k : Int)), (0, 1), (0, 1)]) (S' := [(0, 1)]) r_264_53 rfl rfl rfl ?_
            refine gx_i0 (P := 1 = 0) r_264_55 (rfl) (fun h55 => ?_) (fun h55 => ?_)
            · omega
            · refine gx_st (L' := [(2, (o : Int)), (0, pl), (0, hr), (0, em), (0, (k : Int)), (0, 1), (0, 1)]) (S' := [(2, (o : Int))]) r_264_58 rfl rfl rfl ?_
              refine gx_gf (x := (o : Int) + 3) 2 r_264_59 (rfl) (tisle_0 ho) ⟨by omega, rfl, by decide, by decide⟩ rfl (fun _ => by omega) (hor.2.2.1) ?_
              refine gx_st (L' := [(2, (o : Int)), (0, pl), (0, hr), (0, em), (0, (k : Int)), (0, 1), (0, 1)]) (S' := [(0, (k : Int)), (2, (o : Int) + 3)]) r_264_62 rfl rfl rfl ?_
              refine gx_ci (nx := 67) (S2 := []) (c_237 (r := o + 3) (n := 3) (tisle_3 ho) (by omega) (by decide) (k := k) (by omega)) r_264_64 rfl rfl rfl rfl rfl rfl rfl (by decide) rfl (fun x64 n64 q64 => ?_)
              obtain rfl := q64.1.symm
              obtain rfl := q64.2.symm
              show GX T 1 264 67 [(2, (o : Int)), (0, pl), (0, hr), (0, em), (0, (k : Int)), (0, 1), (0, 1)] [(0, (m (o + 3) k))] m (RI (fun v m1 => FirstOf nv (fun v : Nat => m (o + 4) v ≤ hr ∧ ¬ iand (ishr em (v : Int)) 1 = 1 ∧ m (o + 3) v = pl) v ∧ m1 = m))
              refine gx_st (L' := [(2, (o : Int)), (0, pl), (0, hr), (0, em), (0, (k : Int)), (0, 1), (0, 1)]) (S' := [(0, pl), (0, (m (o + 3) k))]) r_264_67 rfl rfl rfl ?_
              refine gx_ic (P := ¬ (m (o + 3) k) = pl) r_264_68 (rfl) (fun h68 => ?_) (fun h68 => ?_)
              · refine gx_li (z := (k : Int) + 1) (L' := [(2, (o : Int)), (0, pl), (0, hr), (0, em), (0, (k : Int) + 1), (0, 1), (0, 1)]) r_264_74 rfl (w32_eq (by omega) (by omega) (by omega)) rfl ?_
                refine gx_st (L' := [(2, (o : Int)), (0, pl), (0, hr), (0, em), (0, (k : Int) + 1), (0, 1), (0, 1)]) (S' := []) r_264_77 rfl rfl rfl ?_
                rw [show (k : Int) + 1 = ((k + 1 : Nat) : Int) from rfl]
                refine ih (k + 1) (0, 1) (0, 1) (by omega) (by omega) (show ¬ ((0 : Nat) = 1) by decide) (show ¬ ((0 : Nat) = 1) by decide) (fun j hj => ?_)
                by_cases e : j = k
                · rw [e]
                  rintro ⟨z1, z2, z3⟩
                  first
                    | exact absurd z1 (by omega)
                    | exact absurd z3 (by assumption)
                    | exact absurd (And.right (And.right (by assumption : 0 ≤ (k : Int) ∧ (k : Int) < 32 ∧ iand (ishr em (k : Int)) 1 = 1))) z2
                · exact hb j (by omega)
              · have h68 := Decidable.not_not.mp h68
                refine gx_st (L' := [(2, (o : Int)), (0, pl), (0, hr), (0, em), (0, (k : Int)), (0, 1), (0, 1)]) (S' := [(0, (k : Int))]) r_264_71 rfl rfl rfl ?_
                exact gx_rt r_264_73 rfl rfl ⟨_, rfl, Or.inr ⟨k, by omega, ⟨by omega, fun z => h38 ⟨by omega, by omega, z⟩, h68⟩, rfl, hb⟩, rfl⟩
theorem z_264 (hT : TT T) {o : Nat} (ho : IsleT T o) (hor : IsleR m o) (pl hr em : Int) {nv : Nat} (hn : m o 7 = (nv : Int)) (hn3 : nv ≤ 3) : GX T 1 264 0 [(2, (o : Int)), (0, pl), (0, hr), (0, em), (9, 0), (9, 0), (9, 0)] [] m (RI (fun v m1 => FirstOf nv (fun v : Nat => m (o + 4) v ≤ hr ∧ ¬ iand (ishr em (v : Int)) 1 = 1 ∧ m (o + 3) v = pl) v ∧ m1 = m)) := by
  refine gx_st (L' := [(2, (o : Int)), (0, pl), (0, hr), (0, em), (9, 0), (9, 0), (9, 0)]) (S' := [(0, 0)]) r_264_0 rfl rfl rfl ?_
  refine gx_st (L' := [(2, (o : Int)), (0, pl), (0, hr), (0, em), (0, 0), (9, 0), (9, 0)]) (S' := []) r_264_1 rfl rfl rfl ?_
  exact rv_l hT ho hor hn hn3 (nv + 1) 0 (9, 0) (9, 0) (by omega) (by omega) (by decide) (by decide) (fun j hj => absurd hj (Nat.not_lt_zero _))
theorem sg_l (hT : TT T) {o : Nat} (ho : IsleT T o) (hor : IsleR m o) {pl fb : Int} {nb : Nat} (hn : m o 8 = (nb : Int)) (hn5 : nb ≤ 5) (hs : ∀ b : Nat, b < nb → 1 ≤ m (o + 6) b) : ∀ (N k : Nat) (y mo : Int) (x z : AV), nb - k < N → k ≤ nb → ¬ x.1 = 1 → ¬ z.1 = 1 → BestOf k (fun b : Nat => ¬ iand (ishr fb (b : Int)) 1 = 1 ∧ m (o + 5) b = pl) (fun b : Nat => - m (o + 6) b) y → TopM 0 (m (o + 6)) k y mo → GX T 1 263 8 [(2, (o : Int)), (0, pl), (0, fb), (0, y), (0, mo), (0, (k : Int)), x, z] [] m (RI (fun v m1 => BestOf nb (fun b : Nat => ¬ iand (ishr fb (b : Int)) 1 = 1 ∧ m (o + 5) b = pl) (fun b : Nat => - m (o + 6) b) v ∧ m1 = m)) := by
  have ho0 := ho.1
  intro N
  induction N with
  | zero => intro k y mo x z hN; exact absurd hN (Nat.not_lt_zero _)
  | succ N ih =>
    intro k y mo x z hN hk hx hz hB hM
    refine gx_st (L' := [(2, (o : Int)), (0, pl), (0, fb), (0, y), (0, mo), (0, (k : Int)), x, z]) (S' := [(0, (k : Int))]) r_263_8 rfl rfl rfl ?_
    refine gx_st (L' := [(2, (o : Int)), (0, pl), (0, fb), (0, y), (0, mo), (0, (k : Int)), x, z]) (S' := [(2, (o : Int)), (0, (k : Int))]) r_263_10 rfl rfl rfl ?_
    refine gx_gf (x := (nb : Int)) 0 r_263_11 (rfl) (tisle_0 ho) ⟨by omega, rfl, by decide, by decide⟩ rfl (fun z => absurd z (by decide)) (hn) ?_
    refine gx_ic (P := (nb : Int) ≤ (k : Int)) r_263_14 (rfl) (fun h14 => ?_) (fun h14 => ?_)
    · refine gx_st (L' := [(2, (o : Int)), (0, pl), (0, fb), (0, y), (0, mo), (0, (k : Int)), x, z]) (S' := [(0, y)]) r_263_82 rfl rfl rfl ?_
      have hkn : k = nb := by omega
      rw [hkn] at hB
      exact gx_rt r_263_83 rfl rfl ⟨_, rfl, hB, rfl⟩
    · refine gx_st (L' := [(2, (o : Int)), (0, pl), (0, fb), (0, y), (0, mo), (0, (k : Int)), x, z]) (S' := [(2, (o : Int))]) r_263_17 rfl rfl rfl ?_
      refine gx_gf (x := (o : Int) + 6) 2 r_263_18 (rfl) (tisle_0 ho) ⟨by omega, rfl, by decide, by decide⟩ rfl (fun _ => by omega) (hor.2.2.2.2.2.1) ?_
      refine gx_st (L' := [(2, (o : Int)), (0, pl), (0, fb), (0, y), (0, mo), (0, (k : Int)), x, z]) (S' := [(0, (k : Int)), (2, (o : Int) + 6)]) r_263_21 rfl rfl rfl ?_
      refine gx_ci (nx := 26) (S2 := []) (c_237 (r := o + 6) (n := 5) (tisle_6 ho) (by omega) (by decide) (k := k) (by omega)) r_263_23 rfl rfl rfl rfl rfl rfl rfl (by decide) rfl (fun x23 n23 q23 => ?_)
      obtain rfl := q23.1.symm
      obtain rfl := q23.2.symm
      show GX T 1 263 26 [(2, (o : Int)), (0, pl), (0, fb), (0, y), (0, mo), (0, (k : Int)), x, z] [(0, (m (o + 6) k))] m (RI (fun v m1 => BestOf nb (fun b : Nat => ¬ iand (ishr fb (b : Int)) 1 = 1 ∧ m (o + 5) b = pl) (fun b : Nat => - m (o + 6) b) v ∧ m1 = m))
      refine gx_st (L' := [(2, (o : Int)), (0, pl), (0, fb), (0, y), (0, mo), (0, (k : Int)), (0, (m (o + 6) k)), z]) (S' := []) r_263_26 rfl rfl rfl ?_
      refine gx_st (L' := [(2, (o : Int)), (0, pl), (0, fb), (0, y), (0, mo), (0, (k : Int)), (0, (m (o + 6) k)), z]) (S' := [(0, fb)]) r_263_28 rfl rfl rfl ?_
      refine gx_st (L' := [(2, (o : Int)), (0, pl), (0, fb), (0, y), (0, mo), (0, (k : Int)), (0, (m (o + 6) k)), z]) (S' := [(0, (k : Int)), (0, fb)]) r_263_29 rfl rfl rfl ?_
      refine gx_ci (nx := 34) (S2 := []) (x_242 fb (k : Int)) r_263_31 rfl rfl rfl rfl rfl rfl rfl (by decide) rfl (fun x31 n31 q31 => ?_)
      obtain rfl := q31.1.symm
      obtain rfl := q31.2.symm
      show GX T 1 263 34 [(2, (o : Int)), (0, pl), (0, fb), (0, y), (0, mo), (0, (k : Int)), (0, (m (o + 6) k)), z] [(0, (if 0 ≤ (k : Int) ∧ (k : Int) < 32 ∧ iand (ishr fb (k : Int)) 1 = 1 then 1 else 0))] m (RI (fun v m1 => BestOf nb (fun b : Nat => ¬ iand (ishr fb (b : Int)) 1 = 1 ∧ m (o + 5) b = pl) (fun b : Nat => - m (o + 6) b) v ∧ m1 = m))
      refine gx_i0 (P := 0 ≤ (k : Int) ∧ (k : Int) < 32 ∧ iand (ishr fb (k : Int)) 1 = 1) r_263_34 (b01_ne) (fun h34 => ?_) (fun h34 => ?_)
      · refine gx_st (L' := [(2, (o : Int)), (0, pl), (0, fb), (0, y), (0, mo), (0, (k : Int)), (0, (m (o + 6) k)), z]) (S' := [(0, 0)]) r_263_41 rfl rfl rfl ?_
        refine gx_st (L' := [(2, (o : Int)), (0, pl), (0, fb), (0, y), (0, mo), (0, (k : Int)), (0, (m (o + 6) k)), (0, 0)]) (S' := []) r_263_42 rfl rfl rfl ?_
        refine gx_st (L' := [(2, (o : Int)), (0, pl), (0, fb), (0, y), (0, mo), (0, (k : Int)), (0, (m (o + 6) k)), (0, 0)]) (S' := [(0, 0)]) r_263_44 rfl rfl rfl ?_
        refine gx_i0 (P := 0 = 0) r_263_46 (rfl) (fun h46 => ?_) (fun h46 => ?_)
        · refine gx_li (z := (k : Int) + 1) (L' := [(2, (o : Int)), (0, pl), (0, fb), (0, y), (0, mo), (0, (k : Int) + 1), (0, (m (o + 6) k)), (0, 0)]) r_263_76 rfl (w32_eq (by omega) (by omega) (by omega)) rfl ?_
          refine gx_st (L' := [(2, (o : Int)), (0, pl), (0, fb), (0, y), (0, mo), (0, (k : Int) + 1), (0, (m (o + 6) k)), (0, 0)]) (S' := []) r_263_79 rfl rfl rfl ?_
          rw [show (k : Int) + 1 = ((k + 1 : Nat) : Int) from rfl]
          have hs1 := hs k (by omega)
          refine ih (k + 1) y mo (0, (m (o + 6) k)) (0, 0) (by omega) (by omega) (show ¬ ((0 : Nat) = 1) by decide) (show ¬ ((0 : Nat) = 1) by decide) (BestOf_no hB (fun c => ?_)) ?_
          · obtain ⟨c1, c2⟩ := c
            rcases hM with ⟨e1, e2⟩ | ⟨i2, i3, i4, i5⟩
            · exfalso
              first
                | omega
                | exact c1 h34.2.2
                | exact h59 c2
            · first
                | exact absurd h34.2.2 c1
                | exact absurd c2 h59
                | exact ⟨i2, i3, i4, (show - m (o + 6) i2 ≤ - m (o + 6) k by have i6 : mo = m (o + 6) i2 := i5; omega)⟩
          · rcases hM with e | ⟨i2, i3, i4⟩
            · exact Or.inl e
            · exact Or.inr ⟨i2, by omega, i4⟩
        · omega
      · refine gx_st (L' := [(2, (o : Int)), (0, pl), (0, fb), (0, y), (0, mo), (0, (k : Int)), (0, (m (o + 6) k)), z]) (S' := [(0, 1)]) r_263_37 rfl rfl rfl ?_
        refine gx_st (L' := [(2, (o : Int)), (0, pl), (0, fb), (0, y), (0, mo), (0, (k : Int)), (0, (m (o + 6) k)), z]) (S' := [(0, 1)]) r_263_38 rfl rfl rfl ?_
        refine gx_st (L' := [(2, (o : Int)), (0, pl), (0, fb), (0, y), (0, mo), (0, (k : Int)), (0, (m (o + 6) k)), (0, 1)]) (S' := []) r_263_42 rfl rfl rfl ?_
        refine gx_st (L' := [(2, (o : Int)), (0, pl), (0, fb), (0, y), (0, mo), (0, (k : Int)), (0, (m (o + 6) k)), (0, 1)]) (S' := [(0, 1)]) r_263_44 rfl rfl rfl ?_
        refine gx_i0 (P := 1 = 0) r_263_46 (rfl) (fun h46 => ?_) (fun h46 => ?_)
        · omega
        · refine gx_st (L' := [(2, (o : Int)), (0, pl), (0, fb), (0, y), (0, mo), (0, (k : Int)), (0, (m (o + 6) k)), (0, 1)]) (S' := [(2, (o : Int))]) r_263_49 rfl rfl rfl ?_
          refine gx_gf (x := (o : Int) + 5) 2 r_263_50 (rfl) (tisle_0 ho) ⟨by omega, rfl, by decide, by decide⟩ rfl (fun _ => by omega) (hor.2.2.2.2.1) ?_
          refine gx_st (L' := [(2, (o : Int)), (0, pl), (0, fb), (0, y), (0, mo), (0, (k : Int)), (0, (m (o + 6) k)), (0, 1)]) (S' := [(0, (k : Int)), (2, (o : Int) + 5)]) r_263_53 rfl rfl rfl ?_
          refine gx_ci (nx := 58) (S2 := []) (c_237 (r := o + 5) (n := 5) (tisle_5 ho) (by omega) (by decide) (k := k) (by omega)) r_263_55 rfl rfl rfl rfl rfl rfl rfl (by decide) rfl (fun x55 n55 q55 => ?_)
          obtain rfl := q55.1.symm
          obtain rfl := q55.2.symm
          show GX T 1 263 58 [(2, (o : Int)), (0, pl), (0, fb), (0, y), (0, mo), (0, (k : Int)), (0, (m (o + 6) k)), (0, 1)] [(0, (m (o + 5) k))] m (RI (fun v m1 => BestOf nb (fun b : Nat => ¬ iand (ishr fb (b : Int)) 1 = 1 ∧ m (o + 5) b = pl) (fun b : Nat => - m (o + 6) b) v ∧ m1 = m))
          refine gx_st (L' := [(2, (o : Int)), (0, pl), (0, fb), (0, y), (0, mo), (0, (k : Int)), (0, (m (o + 6) k)), (0, 1)]) (S' := [(0, pl), (0, (m (o + 5) k))]) r_263_58 rfl rfl rfl ?_
          refine gx_ic (P := ¬ (m (o + 5) k) = pl) r_263_59 (rfl) (fun h59 => ?_) (fun h59 => ?_)
          · refine gx_li (z := (k : Int) + 1) (L' := [(2, (o : Int)), (0, pl), (0, fb), (0, y), (0, mo), (0, (k : Int) + 1), (0, (m (o + 6) k)), (0, 1)]) r_263_76 rfl (w32_eq (by omega) (by omega) (by omega)) rfl ?_
            refine gx_st (L' := [(2, (o : Int)), (0, pl), (0, fb), (0, y), (0, mo), (0, (k : Int) + 1), (0, (m (o + 6) k)), (0, 1)]) (S' := []) r_263_79 rfl rfl rfl ?_
            rw [show (k : Int) + 1 = ((k + 1 : Nat) : Int) from rfl]
            have hs1 := hs k (by omega)
            refine ih (k + 1) y mo (0, (m (o + 6) k)) (0, 1) (by omega) (by omega) (show ¬ ((0 : Nat) = 1) by decide) (show ¬ ((0 : Nat) = 1) by decide) (BestOf_no hB (fun c => ?_)) ?_
            · obtain ⟨c1, c2⟩ := c
              rcases hM with ⟨e1, e2⟩ | ⟨i2, i3, i4, i5⟩
              · exfalso
                first
                  | omega
                  | exact c1 h34.2.2
                  | exact h59 c2
              · first
                  | exact absurd h34.2.2 c1
                  | exact absurd c2 h59
                  | exact ⟨i2, i3, i4, (show - m (o + 6) i2 ≤ - m (o + 6) k by have i6 : mo = m (o + 6) i2 := i5; omega)⟩
            · rcases hM with e | ⟨i2, i3, i4⟩
              · exact Or.inl e
              · exact Or.inr ⟨i2, by omega, i4⟩
          · have h59 := Decidable.not_not.mp h59
            refine gx_st (L' := [(2, (o : Int)), (0, pl), (0, fb), (0, y), (0, mo), (0, (k : Int)), (0, (m (o + 6) k)), (0, 1)]) (S' := [(0, (m (o + 6) k))]) r_263_62 rfl rfl rfl ?_
            refine gx_st (L' := [(2, (o : Int)), (0, pl), (0, fb), (0, y), (0, mo), (0, (k : Int)), (0, (m (o + 6) k)), (0, 1)]) (S' := [(0, mo), (0, (m (o + 6) k))]) r_263_64 rfl rfl rfl ?_
            refine gx_ic (P := (m (o + 6) k) ≤ mo) r_263_66 (rfl) (fun h66 => ?_) (fun h66 => ?_)
            · refine gx_li (z := (k : Int) + 1) (L' := [(2, (o : Int)), (0, pl), (0, fb), (0, y), (0, mo), (0, (k : Int) + 1), (0, (m (o + 6) k)), (0, 1)]) r_263_76 rfl (w32_eq (by omega) (by omega) (by omega)) rfl ?_
              refine gx_st (L' := [(2, (o : Int)), (0, pl), (0, fb), (0, y), (0, mo), (0, (k : Int) + 1), (0, (m (o + 6) k)), (0, 1)]) (S' := []) r_263_79 rfl rfl rfl ?_
              rw [show (k : Int) + 1 = ((k + 1 : Nat) : Int) from rfl]
              have hs1 := hs k (by omega)
              refine ih (k + 1) y mo (0, (m (o + 6) k)) (0, 1) (by omega) (by omega) (show ¬ ((0 : Nat) = 1) by decide) (show ¬ ((0 : Nat) = 1) by decide) (BestOf_no hB (fun c => ?_)) ?_
              · obtain ⟨c1, c2⟩ := c
                rcases hM with ⟨e1, e2⟩ | ⟨i2, i3, i4, i5⟩
                · exfalso
                  first
                    | omega
                    | exact c1 h34.2.2
                    | exact h59 c2
                · first
                    | exact absurd h34.2.2 c1
                    | exact absurd c2 h59
                    | exact ⟨i2, i3, i4, (show - m (o + 6) i2 ≤ - m (o + 6) k by have i6 : mo = m (o + 6) i2 := i5; omega)⟩
              · rcases hM with e | ⟨i2, i3, i4⟩
                · exact Or.inl e
                · exact Or.inr ⟨i2, by omega, i4⟩
            · refine gx_st (L' := [(2, (o : Int)), (0, pl), (0, fb), (0, y), (0, mo), (0, (k : Int)), (0, (m (o + 6) k)), (0, 1)]) (S' := [(0, (m (o + 6) k))]) r_263_69 rfl rfl rfl ?_
              refine gx_st (L' := [(2, (o : Int)), (0, pl), (0, fb), (0, y), (0, (m (o + 6) k)), (0, (k : Int)), (0, (m (o + 6) k)), (0, 1)]) (S' := []) r_263_71 rfl rfl rfl ?_
              refine gx_st (L' := [(2, (o : Int)), (0, pl), (0, fb), (0, y), (0, (m (o + 6) k)), (0, (k : Int)), (0, (m (o + 6) k)), (0, 1)]) (S' := [(0, (k : Int))]) r_263_73 rfl rfl rfl ?_
              refine gx_st (L' := [(2, (o : Int)), (0, pl), (0, fb), (0, (k : Int)), (0, (m (o + 6) k)), (0, (k : Int)), (0, (m (o + 6) k)), (0, 1)]) (S' := []) r_263_75 rfl rfl rfl ?_
              refine gx_li (z := (k : Int) + 1) (L' := [(2, (o : Int)), (0, pl), (0, fb), (0, (k : Int)), (0, (m (o + 6) k)), (0, (k : Int) + 1), (0, (m (o + 6) k)), (0, 1)]) r_263_76 rfl (w32_eq (by omega) (by omega) (by omega)) rfl ?_
              refine gx_st (L' := [(2, (o : Int)), (0, pl), (0, fb), (0, (k : Int)), (0, (m (o + 6) k)), (0, (k : Int) + 1), (0, (m (o + 6) k)), (0, 1)]) (S' := []) r_263_79 rfl rfl rfl ?_
              rw [show (k : Int) + 1 = ((k + 1 : Nat) : Int) from rfl]
              have hs1 := hs k (by omega)
              refine ih (k + 1) (k : Int) ((m (o + 6) k)) (0, (m (o + 6) k)) (0, 1) (by omega) (by omega) (show ¬ ((0 : Nat) = 1) by decide) (show ¬ ((0 : Nat) = 1) by decide) (BestOf_new hB ⟨fun q => h34 ⟨by omega, by omega, q⟩, h59⟩ (fun i hi e => ?_)) (Or.inr ⟨k, by omega, rfl, rfl⟩)
              rcases hM with ⟨e1, e2⟩ | ⟨i2, i3, i4, i5⟩
              · omega
              · have ei : i2 = i := by omega
                rw [ei] at i5
                have i6 : mo = m (o + 6) i := i5
                show - m (o + 6) k < - m (o + 6) i
                omega
theorem z_263 (hT : TT T) {o : Nat} (ho : IsleT T o) (hor : IsleR m o) (pl fb : Int) {nb : Nat} (hn : m o 8 = (nb : Int)) (hn5 : nb ≤ 5) (hs : ∀ b : Nat, b < nb → 1 ≤ m (o + 6) b) : GX T 1 263 0 [(2, (o : Int)), (0, pl), (0, fb), (9, 0), (9, 0), (9, 0), (9, 0), (9, 0)] [] m (RI (fun v m1 => BestOf nb (fun b : Nat => ¬ iand (ishr fb (b : Int)) 1 = 1 ∧ m (o + 5) b = pl) (fun b : Nat => - m (o + 6) b) v ∧ m1 = m)) := by
  refine gx_st (L' := [(2, (o : Int)), (0, pl), (0, fb), (9, 0), (9, 0), (9, 0), (9, 0), (9, 0)]) (S' := [(0, (-1))]) r_263_0 rfl rfl rfl ?_
  refine gx_st (L' := [(2, (o : Int)), (0, pl), (0, fb), (0, (-1)), (9, 0), (9, 0), (9, 0), (9, 0)]) (S' := []) r_263_1 rfl rfl rfl ?_
  refine gx_st (L' := [(2, (o : Int)), (0, pl), (0, fb), (0, (-1)), (9, 0), (9, 0), (9, 0), (9, 0)]) (S' := [(0, 0)]) r_263_2 rfl rfl rfl ?_
  refine gx_st (L' := [(2, (o : Int)), (0, pl), (0, fb), (0, (-1)), (0, 0), (9, 0), (9, 0), (9, 0)]) (S' := []) r_263_3 rfl rfl rfl ?_
  refine gx_st (L' := [(2, (o : Int)), (0, pl), (0, fb), (0, (-1)), (0, 0), (9, 0), (9, 0), (9, 0)]) (S' := [(0, 0)]) r_263_5 rfl rfl rfl ?_
  refine gx_st (L' := [(2, (o : Int)), (0, pl), (0, fb), (0, (-1)), (0, 0), (0, 0), (9, 0), (9, 0)]) (S' := []) r_263_6 rfl rfl rfl ?_
  exact sg_l hT ho hor hn hn5 hs (nb + 1) 0 (-1) 0 (9, 0) (9, 0) (by omega) (by omega) (by decide) (by decide) BestOf_0 (Or.inl ⟨rfl, rfl⟩)
theorem s_259 (hT : TT T) {o : Nat} (ho : IsleT T o) (hor : IsleR m o) {a b : Nat} (ha : a < 7) (hb : b < 7) : GX T 1 259 0 [(2, (o : Int)), (0, (a : Int)), (0, (b : Int))] [] m (RI (fun v m1 => v = m (o + 8) (7 * a + b) ∧ m1 = m)) := by
  have ho0 := ho.1
  refine gx_st (L' := [(2, (o : Int)), (0, (a : Int)), (0, (b : Int))]) (S' := [(2, (o : Int))]) r_259_0 rfl rfl rfl ?_
  refine gx_gf (x := (o : Int) + 8) 2 r_259_1 (rfl) (tisle_0 ho) ⟨by omega, rfl, by decide, by decide⟩ rfl (fun _ => by omega) (hor.2.2.2.2.2.2.2) ?_
  refine gx_st (L' := [(2, (o : Int)), (0, (a : Int)), (0, (b : Int))]) (S' := [(0, (a : Int)), (2, (o : Int) + 8)]) r_259_4 rfl rfl rfl ?_
  refine gx_st (L' := [(2, (o : Int)), (0, (a : Int)), (0, (b : Int))]) (S' := [(0, 7), (0, (a : Int)), (2, (o : Int) + 8)]) r_259_5 rfl rfl rfl ?_
  refine gx_ar (L' := [(2, (o : Int)), (0, (a : Int)), (0, (b : Int))]) (S' := [(2, (o : Int) + 8)]) (t := 0) (e := w32 ((a : Int) * 7)) (z := 7 * (a : Int)) r_259_7 rfl rfl rfl (w32_eq (by omega) (by omega) (by omega)) ?_
  refine gx_st (L' := [(2, (o : Int)), (0, (a : Int)), (0, (b : Int))]) (S' := [(0, (b : Int)), (0, 7 * (a : Int)), (2, (o : Int) + 8)]) r_259_8 rfl rfl rfl ?_
  refine gx_ar (L' := [(2, (o : Int)), (0, (a : Int)), (0, (b : Int))]) (S' := [(2, (o : Int) + 8)]) (t := 0) (e := w32 ((7 * (a : Int)) + (b : Int))) (z := 7 * (a : Int) + (b : Int)) r_259_9 rfl rfl rfl (w32_eq (by omega) (by omega) (by omega)) ?_
  refine gx_ci (nx := 13) (S2 := []) (c_237 (r := o + 8) (n := 49) (tisle_8 ho) (by omega) (by decide) (k := 7 * a + b) (by omega)) r_259_10 rfl rfl rfl rfl rfl rfl rfl (by decide) rfl (fun x10 n10 q10 => ?_)
  obtain rfl := q10.1.symm
  obtain rfl := q10.2.symm
  show GX T 1 259 13 [(2, (o : Int)), (0, (a : Int)), (0, (b : Int))] [(0, (m (o + 8) (7 * a + b)))] m (RI (fun v m1 => v = m (o + 8) (7 * a + b) ∧ m1 = m))
  exact gx_rt r_259_13 rfl rfl ⟨_, rfl, ⟨rfl, rfl⟩⟩
theorem fs_l (hT : TT T) {o : Nat} (ho : IsleT T o) (hor : IsleR m o) {p g n : Nat} (hp7 : p < 7) (hg : g < 7) (hn : m o 1 = (n : Int)) (hn7 : n ≤ 7) (hw : -1 ≤ m (o + 8) (7 * p + g) ∧ m (o + 8) (7 * p + g) ≤ 6) : ∀ (N k : Nat), n - k < N → k ≤ n → (∀ j : Nat, j < k → ¬ (fun q : Nat => iand (ishr (m (o + 7) p) (q : Int)) 1 = 1 ∧ m (o + 8) (7 * q + g) = m (o + 8) (7 * p + g) - 1) j) → GX T 2 262 20 [(2, (o : Int)), (0, (p : Int)), (0, (g : Int)), (0, m (o + 7) p), (0, m (o + 8) (7 * p + g)), (0, (k : Int))] [] m (RI (fun v m1 => FirstOf n (fun q : Nat => iand (ishr (m (o + 7) p) (q : Int)) 1 = 1 ∧ m (o + 8) (7 * q + g) = m (o + 8) (7 * p + g) - 1) v ∧ m1 = m)) := by
  have ho0 := ho.1
  intro N
  induction N with
  | zero => intro k hN; exact absurd hN (Nat.not_lt_zero _)
  | succ N ih =>
    intro k hN hk hb
    refine gx_st (L' := [(2, (o : Int)), (0, (p : Int)), (0, (g : Int)), (0, (m (o + 7) p)), (0, (m (o + 8) (7 * p + g))), (0, (k : Int))]) (S' := [(0, (k : Int))]) r_262_20 rfl rfl rfl ?_
    refine gx_st (L' := [(2, (o : Int)), (0, (p : Int)), (0, (g : Int)), (0, (m (o + 7) p)), (0, (m (o + 8) (7 * p + g))), (0, (k : Int))]) (S' := [(2, (o : Int)), (0, (k : Int))]) r_262_22 rfl rfl rfl ?_
    refine gx_gf (x := (n : Int)) 0 r_262_23 (rfl) (tisle_0 ho) ⟨by omega, rfl, by decide, by decide⟩ rfl (fun z => absurd z (by decide)) (hn) ?_
    refine gx_ic (P := (n : Int) ≤ (k : Int)) r_262_26 (rfl) (fun h26 => ?_) (fun h26 => ?_)
    · refine gx_st (L' := [(2, (o : Int)), (0, (p : Int)), (0, (g : Int)), (0, (m (o + 7) p)), (0, (m (o + 8) (7 * p + g))), (0, (k : Int))]) (S' := [(0, (-1))]) r_262_61 rfl rfl rfl ?_
      have hkn : k = n := by omega
      rw [hkn] at hb
      exact gx_rt r_262_62 rfl rfl ⟨_, rfl, Or.inl ⟨rfl, hb⟩, rfl⟩
    · refine gx_st (L' := [(2, (o : Int)), (0, (p : Int)), (0, (g : Int)), (0, (m (o + 7) p)), (0, (m (o + 8) (7 * p + g))), (0, (k : Int))]) (S' := [(0, (m (o + 7) p))]) r_262_29 rfl rfl rfl ?_
      refine gx_st (L' := [(2, (o : Int)), (0, (p : Int)), (0, (g : Int)), (0, (m (o + 7) p)), (0, (m (o + 8) (7 * p + g))), (0, (k : Int))]) (S' := [(0, (k : Int)), (0, (m (o + 7) p))]) r_262_30 rfl rfl rfl ?_
      refine gx_ci (nx := 35) (S2 := []) (x_242 ((m (o + 7) p)) (k : Int)) r_262_32 rfl rfl rfl rfl rfl rfl rfl (by decide) rfl (fun x32 n32 q32 => ?_)
      obtain rfl := q32.1.symm
      obtain rfl := q32.2.symm
      show GX T 2 262 35 [(2, (o : Int)), (0, (p : Int)), (0, (g : Int)), (0, (m (o + 7) p)), (0, (m (o + 8) (7 * p + g))), (0, (k : Int))] [(0, (if 0 ≤ (k : Int) ∧ (k : Int) < 32 ∧ iand (ishr ((m (o + 7) p)) (k : Int)) 1 = 1 then 1 else 0))] m (RI (fun v m1 => FirstOf n (fun q : Nat => iand (ishr (m (o + 7) p) (q : Int)) 1 = 1 ∧ m (o + 8) (7 * q + g) = m (o + 8) (7 * p + g) - 1) v ∧ m1 = m))
      refine gx_i0 (P := ¬ (0 ≤ (k : Int) ∧ (k : Int) < 32 ∧ iand (ishr ((m (o + 7) p)) (k : Int)) 1 = 1)) r_262_35 (b01_eq) (fun h35 => ?_) (fun h35 => ?_)
      · refine gx_li (z := (k : Int) + 1) (L' := [(2, (o : Int)), (0, (p : Int)), (0, (g : Int)), (0, (m (o + 7) p)), (0, (m (o + 8) (7 * p + g))), (0, (k : Int) + 1)]) r_262_55 rfl (w32_eq (by omega) (by omega) (by omega)) rfl ?_
        refine gx_st (L' := [(2, (o : Int)), (0, (p : Int)), (0, (g : Int)), (0, (m (o + 7) p)), (0, (m (o + 8) (7 * p + g))), (0, (k : Int) + 1)]) (S' := []) r_262_58 rfl rfl rfl ?_
        rw [show (k : Int) + 1 = ((k + 1 : Nat) : Int) from rfl]
        refine ih (k + 1) (by omega) (by omega) (fun j hj => ?_)
        by_cases e : j = k
        · rw [e]
          rintro ⟨z1, z2⟩
          first
            | exact h35 ⟨by omega, by omega, z1⟩
            | exact h49 z2
        · exact hb j (by omega)
      · have h35 := Decidable.not_not.mp h35
        refine gx_st (L' := [(2, (o : Int)), (0, (p : Int)), (0, (g : Int)), (0, (m (o + 7) p)), (0, (m (o + 8) (7 * p + g))), (0, (k : Int))]) (S' := [(2, (o : Int))]) r_262_38 rfl rfl rfl ?_
        refine gx_st (L' := [(2, (o : Int)), (0, (p : Int)), (0, (g : Int)), (0, (m (o + 7) p)), (0, (m (o + 8) (7 * p + g))), (0, (k : Int))]) (S' := [(0, (k : Int)), (2, (o : Int))]) r_262_39 rfl rfl rfl ?_
        refine gx_st (L' := [(2, (o : Int)), (0, (p : Int)), (0, (g : Int)), (0, (m (o + 7) p)), (0, (m (o + 8) (7 * p + g))), (0, (k : Int))]) (S' := [(0, (g : Int)), (0, (k : Int)), (2, (o : Int))]) r_262_41 rfl rfl rfl ?_
        refine gx_ci (nx := 45) (S2 := []) (s_259 hT ho hor (a := k) (b := g) (by omega) hg) r_262_42 rfl rfl rfl rfl rfl (rcv_v rfl (tisle_0 ho) (by omega) rfl (by decide)) rfl (by decide) rfl (fun x42 n42 q42 => ?_)
        obtain rfl := q42.1.symm
        obtain rfl := q42.2.symm
        show GX T 2 262 45 [(2, (o : Int)), (0, (p : Int)), (0, (g : Int)), (0, (m (o + 7) p)), (0, (m (o + 8) (7 * p + g))), (0, (k : Int))] [(0, (m (o + 8) (7 * k + g)))] m (RI (fun v m1 => FirstOf n (fun q : Nat => iand (ishr (m (o + 7) p) (q : Int)) 1 = 1 ∧ m (o + 8) (7 * q + g) = m (o + 8) (7 * p + g) - 1) v ∧ m1 = m))
        refine gx_st (L' := [(2, (o : Int)), (0, (p : Int)), (0, (g : Int)), (0, (m (o + 7) p)), (0, (m (o + 8) (7 * p + g))), (0, (k : Int))]) (S' := [(0, (m (o + 8) (7 * p + g))), (0, (m (o + 8) (7 * k + g)))]) r_262_45 rfl rfl rfl ?_
        refine gx_st (L' := [(2, (o : Int)), (0, (p : Int)), (0, (g : Int)), (0, (m (o + 7) p)), (0, (m (o + 8) (7 * p + g))), (0, (k : Int))]) (S' := [(0, 1), (0, (m (o + 8) (7 * p + g))), (0, (m (o + 8) (7 * k + g)))]) r_262_47 rfl rfl rfl ?_
        refine gx_ar (L' := [(2, (o : Int)), (0, (p : Int)), (0, (g : Int)), (0, (m (o + 7) p)), (0, (m (o + 8) (7 * p + g))), (0, (k : Int))]) (S' := [(0, (m (o + 8) (7 * k + g)))]) (t := 0) (e := w32 (((m (o + 8) (7 * p + g))) - 1)) (z := (m (o + 8) (7 * p + g)) - 1) r_262_48 rfl rfl rfl (w32_eq (by omega) (by omega) (by omega)) ?_
        refine gx_ic (P := ¬ (m (o + 8) (7 * k + g)) = (m (o + 8) (7 * p + g)) - 1) r_262_49 (rfl) (fun h49 => ?_) (fun h49 => ?_)
        · refine gx_li (z := (k : Int) + 1) (L' := [(2, (o : Int)), (0, (p : Int)), (0, (g : Int)), (0, (m (o + 7) p)), (0, (m (o + 8) (7 * p + g))), (0, (k : Int) + 1)]) r_262_55 rfl (w32_eq (by omega) (by omega) (by omega)) rfl ?_
          refine gx_st (L' := [(2, (o : Int)), (0, (p : Int)), (0, (g : Int)), (0, (m (o + 7) p)), (0, (m (o + 8) (7 * p + g))), (0, (k : Int) + 1)]) (S' := []) r_262_58 rfl rfl rfl ?_
          rw [show (k : Int) + 1 = ((k + 1 : Nat) : Int) from rfl]
          refine ih (k + 1) (by omega) (by omega) (fun j hj => ?_)
          by_cases e : j = k
          · rw [e]
            rintro ⟨z1, z2⟩
            first
              | exact h35 ⟨by omega, by omega, z1⟩
              | exact h49 z2
          · exact hb j (by omega)
        · have h49 := Decidable.not_not.mp h49
          refine gx_st (L' := [(2, (o : Int)), (0, (p : Int)), (0, (g : Int)), (0, (m (o + 7) p)), (0, (m (o + 8) (7 * p + g))), (0, (k : Int))]) (S' := [(0, (k : Int))]) r_262_52 rfl rfl rfl ?_
          exact gx_rt r_262_54 rfl rfl ⟨_, rfl, Or.inr ⟨k, by omega, ⟨h35.2.2, h49⟩, rfl, hb⟩, rfl⟩
theorem z_262 (hT : TT T) {o : Nat} (ho : IsleT T o) (hor : IsleR m o) {p g n : Nat} (hp7 : p < 7) (hg : g < 7) (hn : m o 1 = (n : Int)) (hn7 : n ≤ 7) (hw : -1 ≤ m (o + 8) (7 * p + g) ∧ m (o + 8) (7 * p + g) ≤ 6) : GX T 2 262 0 [(2, (o : Int)), (0, (p : Int)), (0, (g : Int)), (9, 0), (9, 0), (9, 0)] [] m (RI (fun v m1 => FirstOf n (fun q : Nat => iand (ishr (m (o + 7) p) (q : Int)) 1 = 1 ∧ m (o + 8) (7 * q + g) = m (o + 8) (7 * p + g) - 1) v ∧ m1 = m)) := by
  have ho0 := ho.1
  refine gx_st (L' := [(2, (o : Int)), (0, (p : Int)), (0, (g : Int)), (9, 0), (9, 0), (9, 0)]) (S' := [(2, (o : Int))]) r_262_0 rfl rfl rfl ?_
  refine gx_gf (x := (o : Int) + 7) 2 r_262_1 (rfl) (tisle_0 ho) ⟨by omega, rfl, by decide, by decide⟩ rfl (fun _ => by omega) (hor.2.2.2.2.2.2.1) ?_
  refine gx_st (L' := [(2, (o : Int)), (0, (p : Int)), (0, (g : Int)), (9, 0), (9, 0), (9, 0)]) (S' := [(0, (p : Int)), (2, (o : Int) + 7)]) r_262_4 rfl rfl rfl ?_
  refine gx_ci (nx := 8) (S2 := []) (c_237 (r := o + 7) (n := 7) (tisle_7 ho) (by omega) (by decide) (k := p) (by omega)) r_262_5 rfl rfl rfl rfl rfl rfl rfl (by decide) rfl (fun x5 n5 q5 => ?_)
  obtain rfl := q5.1.symm
  obtain rfl := q5.2.symm
  show GX T 2 262 8 [(2, (o : Int)), (0, (p : Int)), (0, (g : Int)), (9, 0), (9, 0), (9, 0)] [(0, (m (o + 7) p))] m (RI (fun v m1 => FirstOf n (fun q : Nat => iand (ishr (m (o + 7) p) (q : Int)) 1 = 1 ∧ m (o + 8) (7 * q + g) = m (o + 8) (7 * p + g) - 1) v ∧ m1 = m))
  refine gx_st (L' := [(2, (o : Int)), (0, (p : Int)), (0, (g : Int)), (0, (m (o + 7) p)), (9, 0), (9, 0)]) (S' := []) r_262_8 rfl rfl rfl ?_
  refine gx_st (L' := [(2, (o : Int)), (0, (p : Int)), (0, (g : Int)), (0, (m (o + 7) p)), (9, 0), (9, 0)]) (S' := [(2, (o : Int))]) r_262_9 rfl rfl rfl ?_
  refine gx_st (L' := [(2, (o : Int)), (0, (p : Int)), (0, (g : Int)), (0, (m (o + 7) p)), (9, 0), (9, 0)]) (S' := [(0, (p : Int)), (2, (o : Int))]) r_262_10 rfl rfl rfl ?_
  refine gx_st (L' := [(2, (o : Int)), (0, (p : Int)), (0, (g : Int)), (0, (m (o + 7) p)), (9, 0), (9, 0)]) (S' := [(0, (g : Int)), (0, (p : Int)), (2, (o : Int))]) r_262_11 rfl rfl rfl ?_
  refine gx_ci (nx := 15) (S2 := []) (s_259 hT ho hor (a := p) (b := g) hp7 hg) r_262_12 rfl rfl rfl rfl rfl (rcv_v rfl (tisle_0 ho) (by omega) rfl (by decide)) rfl (by decide) rfl (fun x12 n12 q12 => ?_)
  obtain rfl := q12.1.symm
  obtain rfl := q12.2.symm
  show GX T 2 262 15 [(2, (o : Int)), (0, (p : Int)), (0, (g : Int)), (0, (m (o + 7) p)), (9, 0), (9, 0)] [(0, (m (o + 8) (7 * p + g)))] m (RI (fun v m1 => FirstOf n (fun q : Nat => iand (ishr (m (o + 7) p) (q : Int)) 1 = 1 ∧ m (o + 8) (7 * q + g) = m (o + 8) (7 * p + g) - 1) v ∧ m1 = m))
  refine gx_st (L' := [(2, (o : Int)), (0, (p : Int)), (0, (g : Int)), (0, (m (o + 7) p)), (0, (m (o + 8) (7 * p + g))), (9, 0)]) (S' := []) r_262_15 rfl rfl rfl ?_
  refine gx_st (L' := [(2, (o : Int)), (0, (p : Int)), (0, (g : Int)), (0, (m (o + 7) p)), (0, (m (o + 8) (7 * p + g))), (9, 0)]) (S' := [(0, 0)]) r_262_17 rfl rfl rfl ?_
  refine gx_st (L' := [(2, (o : Int)), (0, (p : Int)), (0, (g : Int)), (0, (m (o + 7) p)), (0, (m (o + 8) (7 * p + g))), (0, 0)]) (S' := []) r_262_18 rfl rfl rfl ?_
  exact fs_l hT ho hor hp7 hg hn hn7 hw (n + 1) 0 (by omega) (by omega) (fun j hj => absurd hj (Nat.not_lt_zero _))
theorem st_l (hT : TT T) {o : Nat} (ho : IsleT T o) (hor : IsleR m o) {l p nt : Nat} {pt : Nat → Nat} (hl : T[l]? = some (100, 5)) (hl0 : 0 < l) (hp7 : p < 7) (hn : m o 6 = (nt : Int)) (hn5 : nt ≤ 5) (hpt : ∀ t : Nat, t < nt → m (o + 1) t = (pt t : Int) ∧ pt t < 7 ∧ m (o + 8) (7 * p + pt t) ≤ 6) : ∀ (N k : Nat) (y le : Int) (x : AV), nt - k < N → k ≤ nt → ¬ x.1 = 1 → BestOf k (fun t : Nat => 0 < m l t ∧ ¬ m (o + 8) (7 * p + pt t) = -1) (fun t : Nat => m (o + 8) (7 * p + pt t)) y → TopM 7 (fun t : Nat => m (o + 8) (7 * p + pt t)) k y le → GX T 2 261 9 [(2, (o : Int)), (0, (p : Int)), (2, (l : Int)), (0, y), (0, le), (0, (k : Int)), x] [] m (RI (fun v m1 => BestOf nt (fun t : Nat => 0 < m l t ∧ ¬ m (o + 8) (7 * p + pt t) = -1) (fun t : Nat => m (o + 8) (7 * p + pt t)) v ∧ m1 = m)) := by
  have ho0 := ho.1
  intro N
  induction N with
  | zero => intro k y le x hN; exact absurd hN (Nat.not_lt_zero _)
  | succ N ih =>
    intro k y le x hN hk hx hB hM
    refine gx_st (L' := [(2, (o : Int)), (0, (p : Int)), (2, (l : Int)), (0, y), (0, le), (0, (k : Int)), x]) (S' := [(0, (k : Int))]) r_261_9 rfl rfl rfl ?_
    refine gx_st (L' := [(2, (o : Int)), (0, (p : Int)), (2, (l : Int)), (0, y), (0, le), (0, (k : Int)), x]) (S' := [(2, (o : Int)), (0, (k : Int))]) r_261_11 rfl rfl rfl ?_
    refine gx_gf (x := (nt : Int)) 0 r_261_12 (rfl) (tisle_0 ho) ⟨by omega, rfl, by decide, by decide⟩ rfl (fun z => absurd z (by decide)) (hn) ?_
    refine gx_ic (P := (nt : Int) ≤ (k : Int)) r_261_15 (rfl) (fun h15 => ?_) (fun h15 => ?_)
    · refine gx_st (L' := [(2, (o : Int)), (0, (p : Int)), (2, (l : Int)), (0, y), (0, le), (0, (k : Int)), x]) (S' := [(0, y)]) r_261_69 rfl rfl rfl ?_
      have hkn : k = nt := by omega
      rw [hkn] at hB
      exact gx_rt r_261_70 rfl rfl ⟨_, rfl, hB, rfl⟩
    · obtain ⟨pe, p7, w6⟩ := hpt k (by omega)
      obtain ⟨pk, h_pk⟩ : ∃ q, q = pt k := ⟨_, rfl⟩
      rw [← h_pk] at pe p7 w6
      refine gx_st (L' := [(2, (o : Int)), (0, (p : Int)), (2, (l : Int)), (0, y), (0, le), (0, (k : Int)), x]) (S' := [(2, (o : Int))]) r_261_18 rfl rfl rfl ?_
      refine gx_st (L' := [(2, (o : Int)), (0, (p : Int)), (2, (l : Int)), (0, y), (0, le), (0, (k : Int)), x]) (S' := [(0, (p : Int)), (2, (o : Int))]) r_261_19 rfl rfl rfl ?_
      refine gx_st (L' := [(2, (o : Int)), (0, (p : Int)), (2, (l : Int)), (0, y), (0, le), (0, (k : Int)), x]) (S' := [(2, (o : Int)), (0, (p : Int)), (2, (o : Int))]) r_261_20 rfl rfl rfl ?_
      refine gx_gf (x := (o : Int) + 1) 2 r_261_21 (rfl) (tisle_0 ho) ⟨by omega, rfl, by decide, by decide⟩ rfl (fun _ => by omega) (hor.1) ?_
      refine gx_st (L' := [(2, (o : Int)), (0, (p : Int)), (2, (l : Int)), (0, y), (0, le), (0, (k : Int)), x]) (S' := [(0, (k : Int)), (2, (o : Int) + 1), (0, (p : Int)), (2, (o : Int))]) r_261_24 rfl rfl rfl ?_
      refine gx_ci (nx := 29) (S2 := [(0, (p : Int)), (2, (o : Int))]) (c_237 (r := o + 1) (n := 5) (tisle_1 ho) (by omega) (by decide) (k := k) (by omega)) r_261_26 rfl rfl rfl rfl rfl rfl rfl (by decide) rfl (fun x26 n26 q26 => ?_)
      obtain ⟨e26, z26⟩ := q26
      obtain rfl := z26.symm
      rw [e26, pe]
      show GX T 2 261 29 [(2, (o : Int)), (0, (p : Int)), (2, (l : Int)), (0, y), (0, le), (0, (k : Int)), x] [(0, (pk : Int)), (0, (p : Int)), (2, (o : Int))] m (RI (fun v m1 => BestOf nt (fun t : Nat => 0 < m l t ∧ ¬ m (o + 8) (7 * p + pt t) = -1) (fun t : Nat => m (o + 8) (7 * p + pt t)) v ∧ m1 = m))
      refine gx_ci (nx := 32) (S2 := []) (s_259 hT ho hor (a := p) (b := pk) hp7 p7) r_261_29 rfl rfl rfl rfl rfl (rcv_v rfl (tisle_0 ho) (by omega) rfl (by decide)) rfl (by decide) rfl (fun x29 n29 q29 => ?_)
      obtain rfl := q29.1.symm
      obtain rfl := q29.2.symm
      show GX T 2 261 32 [(2, (o : Int)), (0, (p : Int)), (2, (l : Int)), (0, y), (0, le), (0, (k : Int)), x] [(0, (m (o + 8) (7 * p + pk)))] m (RI (fun v m1 => BestOf nt (fun t : Nat => 0 < m l t ∧ ¬ m (o + 8) (7 * p + pt t) = -1) (fun t : Nat => m (o + 8) (7 * p + pt t)) v ∧ m1 = m))
      refine gx_st (L' := [(2, (o : Int)), (0, (p : Int)), (2, (l : Int)), (0, y), (0, le), (0, (k : Int)), (0, (m (o + 8) (7 * p + pk)))]) (S' := []) r_261_32 rfl rfl rfl ?_
      refine gx_st (L' := [(2, (o : Int)), (0, (p : Int)), (2, (l : Int)), (0, y), (0, le), (0, (k : Int)), (0, (m (o + 8) (7 * p + pk)))]) (S' := [(2, (l : Int))]) r_261_34 rfl rfl rfl ?_
      refine gx_st (L' := [(2, (o : Int)), (0, (p : Int)), (2, (l : Int)), (0, y), (0, le), (0, (k : Int)), (0, (m (o + 8) (7 * p + pk)))]) (S' := [(0, (k : Int)), (2, (l : Int))]) r_261_35 rfl rfl rfl ?_
      refine gx_ci (nx := 40) (S2 := []) (c_237 (r := l) (n := 5) hl hl0 (by decide) (k := k) (by omega)) r_261_37 rfl rfl rfl rfl rfl rfl rfl (by decide) rfl (fun x37 n37 q37 => ?_)
      obtain rfl := q37.1.symm
      obtain rfl := q37.2.symm
      show GX T 2 261 40 [(2, (o : Int)), (0, (p : Int)), (2, (l : Int)), (0, y), (0, le), (0, (k : Int)), (0, (m (o + 8) (7 * p + pk)))] [(0, (m l k))] m (RI (fun v m1 => BestOf nt (fun t : Nat => 0 < m l t ∧ ¬ m (o + 8) (7 * p + pt t) = -1) (fun t : Nat => m (o + 8) (7 * p + pt t)) v ∧ m1 = m))
      refine gx_i0 (P := (m l k) ≤ 0) r_261_40 (rfl) (fun h40 => ?_) (fun h40 => ?_)
      · refine gx_li (z := (k : Int) + 1) (L' := [(2, (o : Int)), (0, (p : Int)), (2, (l : Int)), (0, y), (0, le), (0, (k : Int) + 1), (0, (m (o + 8) (7 * p + pk)))]) r_261_63 rfl (w32_eq (by omega) (by omega) (by omega)) rfl ?_
        refine gx_st (L' := [(2, (o : Int)), (0, (p : Int)), (2, (l : Int)), (0, y), (0, le), (0, (k : Int) + 1), (0, (m (o + 8) (7 * p + pk)))]) (S' := []) r_261_66 rfl rfl rfl ?_
        rw [show (k : Int) + 1 = ((k + 1 : Nat) : Int) from rfl]
        refine ih (k + 1) y le (0, (m (o + 8) (7 * p + pk))) (by omega) (by omega) (show ¬ ((0 : Nat) = 1) by decide) (BestOf_no hB (fun c => ?_)) ?_
        · obtain ⟨c1, c2⟩ := c
          rw [← h_pk] at c2
          have c3 : 0 < m l k := c1
          rcases hM with ⟨e1, e2⟩ | ⟨i2, i3, i4, i5⟩
          · exfalso
            first
              | omega
              | exact c2 h46
          · first
              | exact absurd h46 c2
              | exact ⟨i2, i3, i4, (show m (o + 8) (7 * p + pt i2) ≤ m (o + 8) (7 * p + pt k) by have i6 : le = m (o + 8) (7 * p + pt i2) := i5; rw [← h_pk]; omega)⟩
              | (exfalso; omega)
        · rcases hM with e | ⟨i2, i3, i4⟩
          · exact Or.inl e
          · exact Or.inr ⟨i2, by omega, i4⟩
      · refine gx_st (L' := [(2, (o : Int)), (0, (p : Int)), (2, (l : Int)), (0, y), (0, le), (0, (k : Int)), (0, (m (o + 8) (7 * p + pk)))]) (S' := [(0, (m (o + 8) (7 * p + pk)))]) r_261_43 rfl rfl rfl ?_
        refine gx_st (L' := [(2, (o : Int)), (0, (p : Int)), (2, (l : Int)), (0, y), (0, le), (0, (k : Int)), (0, (m (o + 8) (7 * p + pk)))]) (S' := [(0, (-1)), (0, (m (o + 8) (7 * p + pk)))]) r_261_45 rfl rfl rfl ?_
        refine gx_ic (P := (m (o + 8) (7 * p + pk)) = (-1)) r_261_46 (rfl) (fun h46 => ?_) (fun h46 => ?_)
        · refine gx_li (z := (k : Int) + 1) (L' := [(2, (o : Int)), (0, (p : Int)), (2, (l : Int)), (0, y), (0, le), (0, (k : Int) + 1), (0, (m (o + 8) (7 * p + pk)))]) r_261_63 rfl (w32_eq (by omega) (by omega) (by omega)) rfl ?_
          refine gx_st (L' := [(2, (o : Int)), (0, (p : Int)), (2, (l : Int)), (0, y), (0, le), (0, (k : Int) + 1), (0, (m (o + 8) (7 * p + pk)))]) (S' := []) r_261_66 rfl rfl rfl ?_
          rw [show (k : Int) + 1 = ((k + 1 : Nat) : Int) from rfl]
          refine ih (k + 1) y le (0, (m (o + 8) (7 * p + pk))) (by omega) (by omega) (show ¬ ((0 : Nat) = 1) by decide) (BestOf_no hB (fun c => ?_)) ?_
          · obtain ⟨c1, c2⟩ := c
            rw [← h_pk] at c2
            have c3 : 0 < m l k := c1
            rcases hM with ⟨e1, e2⟩ | ⟨i2, i3, i4, i5⟩
            · exfalso
              first
                | omega
                | exact c2 h46
            · first
                | exact absurd h46 c2
                | exact ⟨i2, i3, i4, (show m (o + 8) (7 * p + pt i2) ≤ m (o + 8) (7 * p + pt k) by have i6 : le = m (o + 8) (7 * p + pt i2) := i5; rw [← h_pk]; omega)⟩
                | (exfalso; omega)
          · rcases hM with e | ⟨i2, i3, i4⟩
            · exact Or.inl e
            · exact Or.inr ⟨i2, by omega, i4⟩
        · refine gx_st (L' := [(2, (o : Int)), (0, (p : Int)), (2, (l : Int)), (0, y), (0, le), (0, (k : Int)), (0, (m (o + 8) (7 * p + pk)))]) (S' := [(0, (m (o + 8) (7 * p + pk)))]) r_261_49 rfl rfl rfl ?_
          refine gx_st (L' := [(2, (o : Int)), (0, (p : Int)), (2, (l : Int)), (0, y), (0, le), (0, (k : Int)), (0, (m (o + 8) (7 * p + pk)))]) (S' := [(0, le), (0, (m (o + 8) (7 * p + pk)))]) r_261_51 rfl rfl rfl ?_
          refine gx_ic (P := le ≤ (m (o + 8) (7 * p + pk))) r_261_53 (rfl) (fun h53 => ?_) (fun h53 => ?_)
          · refine gx_li (z := (k : Int) + 1) (L' := [(2, (o : Int)), (0, (p : Int)), (2, (l : Int)), (0, y), (0, le), (0, (k : Int) + 1), (0, (m (o + 8) (7 * p + pk)))]) r_261_63 rfl (w32_eq (by omega) (by omega) (by omega)) rfl ?_
            refine gx_st (L' := [(2, (o : Int)), (0, (p : Int)), (2, (l : Int)), (0, y), (0, le), (0, (k : Int) + 1), (0, (m (o + 8) (7 * p + pk)))]) (S' := []) r_261_66 rfl rfl rfl ?_
            rw [show (k : Int) + 1 = ((k + 1 : Nat) : Int) from rfl]
            refine ih (k + 1) y le (0, (m (o + 8) (7 * p + pk))) (by omega) (by omega) (show ¬ ((0 : Nat) = 1) by decide) (BestOf_no hB (fun c => ?_)) ?_
            · obtain ⟨c1, c2⟩ := c
              rw [← h_pk] at c2
              have c3 : 0 < m l k := c1
              rcases hM with ⟨e1, e2⟩ | ⟨i2, i3, i4, i5⟩
              · exfalso
                first
                  | omega
                  | exact c2 h46
              · first
                  | exact absurd h46 c2
                  | exact ⟨i2, i3, i4, (show m (o + 8) (7 * p + pt i2) ≤ m (o + 8) (7 * p + pt k) by have i6 : le = m (o + 8) (7 * p + pt i2) := i5; rw [← h_pk]; omega)⟩
                  | (exfalso; omega)
            · rcases hM with e | ⟨i2, i3, i4⟩
              · exact Or.inl e
              · exact Or.inr ⟨i2, by omega, i4⟩
          · refine gx_st (L' := [(2, (o : Int)), (0, (p : Int)), (2, (l : Int)), (0, y), (0, le), (0, (k : Int)), (0, (m (o + 8) (7 * p + pk)))]) (S' := [(0, (m (o + 8) (7 * p + pk)))]) r_261_56 rfl rfl rfl ?_
            refine gx_st (L' := [(2, (o : Int)), (0, (p : Int)), (2, (l : Int)), (0, y), (0, (m (o + 8) (7 * p + pk))), (0, (k : Int)), (0, (m (o + 8) (7 * p + pk)))]) (S' := []) r_261_58 rfl rfl rfl ?_
            refine gx_st (L' := [(2, (o : Int)), (0, (p : Int)), (2, (l : Int)), (0, y), (0, (m (o + 8) (7 * p + pk))), (0, (k : Int)), (0, (m (o + 8) (7 * p + pk)))]) (S' := [(0, (k : Int))]) r_261_60 rfl rfl rfl ?_
            refine gx_st (L' := [(2, (o : Int)), (0, (p : Int)), (2, (l : Int)), (0, (k : Int)), (0, (m (o + 8) (7 * p + pk))), (0, (k : Int)), (0, (m (o + 8) (7 * p + pk)))]) (S' := []) r_261_62 rfl rfl rfl ?_
            refine gx_li (z := (k : Int) + 1) (L' := [(2, (o : Int)), (0, (p : Int)), (2, (l : Int)), (0, (k : Int)), (0, (m (o + 8) (7 * p + pk))), (0, (k : Int) + 1), (0, (m (o + 8) (7 * p + pk)))]) r_261_63 rfl (w32_eq (by omega) (by omega) (by omega)) rfl ?_
            refine gx_st (L' := [(2, (o : Int)), (0, (p : Int)), (2, (l : Int)), (0, (k : Int)), (0, (m (o + 8) (7 * p + pk))), (0, (k : Int) + 1), (0, (m (o + 8) (7 * p + pk)))]) (S' := []) r_261_66 rfl rfl rfl ?_
            rw [show (k : Int) + 1 = ((k + 1 : Nat) : Int) from rfl]
            refine ih (k + 1) (k : Int) ((m (o + 8) (7 * p + pk))) (0, (m (o + 8) (7 * p + pk))) (by omega) (by omega) (show ¬ ((0 : Nat) = 1) by decide) (BestOf_new hB ⟨by omega, by rw [← h_pk]; exact h46⟩ (fun i hi e => ?_)) (Or.inr ⟨k, by omega, rfl, by show _ = m (o + 8) (7 * p + pt k); rw [← h_pk]⟩)
            rcases hM with ⟨e1, e2⟩ | ⟨i2, i3, i4, i5⟩
            · omega
            · have ei : i2 = i := by omega
              rw [ei] at i5
              have i6 : le = m (o + 8) (7 * p + pt i) := i5
              show m (o + 8) (7 * p + pt k) < m (o + 8) (7 * p + pt i)
              rw [← h_pk]
              omega
theorem z_261 (hT : TT T) {o : Nat} (ho : IsleT T o) (hor : IsleR m o) {l p nt : Nat} {pt : Nat → Nat} (hl : T[l]? = some (100, 5)) (hl0 : 0 < l) (hp7 : p < 7) (hn : m o 6 = (nt : Int)) (hn5 : nt ≤ 5) (hpt : ∀ t : Nat, t < nt → m (o + 1) t = (pt t : Int) ∧ pt t < 7 ∧ m (o + 8) (7 * p + pt t) ≤ 6) : GX T 2 261 0 [(2, (o : Int)), (0, (p : Int)), (2, (l : Int)), (9, 0), (9, 0), (9, 0), (9, 0)] [] m (RI (fun v m1 => BestOf nt (fun t : Nat => 0 < m l t ∧ ¬ m (o + 8) (7 * p + pt t) = -1) (fun t : Nat => m (o + 8) (7 * p + pt t)) v ∧ m1 = m)) := by
  refine gx_st (L' := [(2, (o : Int)), (0, (p : Int)), (2, (l : Int)), (9, 0), (9, 0), (9, 0), (9, 0)]) (S' := [(0, (-1))]) r_261_0 rfl rfl rfl ?_
  refine gx_st (L' := [(2, (o : Int)), (0, (p : Int)), (2, (l : Int)), (0, (-1)), (9, 0), (9, 0), (9, 0)]) (S' := []) r_261_1 rfl rfl rfl ?_
  refine gx_st (L' := [(2, (o : Int)), (0, (p : Int)), (2, (l : Int)), (0, (-1)), (9, 0), (9, 0), (9, 0)]) (S' := [(0, 7)]) r_261_2 rfl rfl rfl ?_
  refine gx_st (L' := [(2, (o : Int)), (0, (p : Int)), (2, (l : Int)), (0, (-1)), (0, 7), (9, 0), (9, 0)]) (S' := []) r_261_4 rfl rfl rfl ?_
  refine gx_st (L' := [(2, (o : Int)), (0, (p : Int)), (2, (l : Int)), (0, (-1)), (0, 7), (9, 0), (9, 0)]) (S' := [(0, 0)]) r_261_6 rfl rfl rfl ?_
  refine gx_st (L' := [(2, (o : Int)), (0, (p : Int)), (2, (l : Int)), (0, (-1)), (0, 7), (0, 0), (9, 0)]) (S' := []) r_261_7 rfl rfl rfl ?_
  exact st_l hT ho hor hl hl0 hp7 hn hn5 hpt (nt + 1) 0 (-1) 7 (9, 0) (by omega) (by omega) (by decide) BestOf_0 (Or.inl ⟨rfl, rfl⟩)
end SEEK
