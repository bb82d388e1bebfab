/-! ways exactly -/
theorem r_9_0 : row 9 0 = some (.aload_n 0, 1, 0, 0, 0, 0) := rfl
theorem r_9_1 : row 9 1 = some (.iload_n 1, 2, 0, 0, 0, 0) := rfl
theorem r_9_2 : row 9 2 = some (.invokevirtual 169, 5, 72, 1, 0, 4044) := rfl
theorem r_9_5 : row 9 5 = some (.ifCond .eq 11, 8, 16, 0, 0, 0) := rfl
theorem r_9_8 : row 9 8 = some (.aload_n 0, 9, 0, 0, 0, 0) := rfl
theorem r_9_9 : row 9 9 = some (.iload_n 2, 10, 0, 0, 0, 0) := rfl
theorem r_9_10 : row 9 10 = some (.invokevirtual 169, 13, 72, 1, 0, 4044) := rfl
theorem r_9_13 : row 9 13 = some (.ifCond .ne 6, 16, 19, 0, 0, 0) := rfl
theorem r_9_16 : row 9 16 = some (.bipush (-2), 18, (-2), 0, 0, 0) := rfl
theorem r_9_18 : row 9 18 = some (.ireturn, 19, 0, 0, 0, 0) := rfl
theorem r_9_19 : row 9 19 = some (.aload_n 0, 20, 0, 0, 0, 0) := rfl
theorem r_9_20 : row 9 20 = some (.getfield 19, 23, 9, 1, 2, 2159) := rfl
theorem r_9_23 : row 9 23 = some (.iload_n 1, 24, 0, 0, 0, 0) := rfl
theorem r_9_24 : row 9 24 = some (.iload_n 2, 25, 0, 0, 0, 0) := rfl
theorem r_9_25 : row 9 25 = some (.invokevirtual 173, 28, 259, 2, 10, 4048) := rfl
theorem r_9_28 : row 9 28 = some (.ireturn, 29, 0, 0, 0, 0) := rfl
theorem r_10_0 : row 10 0 = some (.aload_n 0, 1, 0, 0, 0, 0) := rfl
theorem r_10_1 : row 10 1 = some (.iload_n 1, 2, 0, 0, 0, 0) := rfl
theorem r_10_2 : row 10 2 = some (.invokevirtual 169, 5, 72, 1, 0, 4044) := rfl
theorem r_10_5 : row 10 5 = some (.ifCond .eq 17, 8, 22, 0, 0, 0) := rfl
theorem r_10_8 : row 10 8 = some (.aload_n 0, 9, 0, 0, 0, 0) := rfl
theorem r_10_9 : row 10 9 = some (.getfield 19, 12, 9, 1, 2, 2159) := rfl
theorem r_10_12 : row 10 12 = some (.getfield 177, 15, 3, 16, 12, 1132) := rfl
theorem r_10_15 : row 10 15 = some (.iload_n 1, 16, 0, 0, 0, 0) := rfl
theorem r_10_16 : row 10 16 = some (.invokestatic 134, 19, 237, 2, 10, 4023) := rfl
theorem r_10_19 : row 10 19 = some (.goto 5, 22, 24, 0, 0, 0) := rfl
theorem r_10_22 : row 10 22 = some (.bipush (-2), 24, (-2), 0, 0, 0) := rfl
theorem r_10_24 : row 10 24 = some (.ireturn, 25, 0, 0, 0, 0) := rfl
theorem r_12_0 : row 12 0 = some (.aload_n 0, 1, 0, 0, 0, 0) := rfl
theorem r_12_1 : row 12 1 = some (.iload_n 1, 2, 0, 0, 0, 0) := rfl
theorem r_12_2 : row 12 2 = some (.invokevirtual 169, 5, 72, 1, 0, 4044) := rfl
theorem r_12_5 : row 12 5 = some (.ifCond .eq 14, 8, 19, 0, 0, 0) := rfl
theorem r_12_8 : row 12 8 = some (.aload_n 0, 9, 0, 0, 0, 0) := rfl
theorem r_12_9 : row 12 9 = some (.getfield 19, 12, 9, 1, 2, 2159) := rfl
theorem r_12_12 : row 12 12 = some (.iload_n 1, 13, 0, 0, 0, 0) := rfl
theorem r_12_13 : row 12 13 = some (.invokevirtual 184, 16, 260, 1, 10, 4062) := rfl
theorem r_12_16 : row 12 16 = some (.goto 5, 19, 21, 0, 0, 0) := rfl
theorem r_12_19 : row 12 19 = some (.bipush (-2), 21, (-2), 0, 0, 0) := rfl
theorem r_12_21 : row 12 21 = some (.ireturn, 22, 0, 0, 0, 0) := rfl
theorem r_125_0 : row 125 0 = some (.aload_n 0, 1, 0, 0, 0, 0) := rfl
theorem r_125_1 : row 125 1 = some (.invokevirtual 231, 4, 124, 0, 0, 7037) := rfl
theorem r_125_4 : row 125 4 = some (.aload_n 0, 5, 0, 0, 0, 0) := rfl
theorem r_125_5 : row 125 5 = some (.iload_n 1, 6, 0, 0, 0, 0) := rfl
theorem r_125_6 : row 125 6 = some (.i2l, 7, 0, 0, 0, 0) := rfl
theorem r_125_7 : row 125 7 = some (.invokevirtual 234, 10, 91, 1, 0, 7046) := rfl
theorem r_125_10 : row 125 10 = some (.ireturn, 11, 0, 0, 0, 0) := rfl
theorem r_126_0 : row 126 0 = some (.aload_n 0, 1, 0, 0, 0, 0) := rfl
theorem r_126_1 : row 126 1 = some (.iload_n 1, 2, 0, 0, 0, 0) := rfl
theorem r_126_2 : row 126 2 = some (.invokevirtual 237, 5, 125, 1, 0, 7033) := rfl
theorem r_126_5 : row 126 5 = some (.ifCond .eq 12, 8, 17, 0, 0, 0) := rfl
theorem r_126_8 : row 126 8 = some (.aload_n 0, 9, 0, 0, 0, 0) := rfl
theorem r_126_9 : row 126 9 = some (.iload_n 2, 10, 0, 0, 0, 0) := rfl
theorem r_126_10 : row 126 10 = some (.i2l, 11, 0, 0, 0, 0) := rfl
theorem r_126_11 : row 126 11 = some (.invokevirtual 234, 14, 91, 1, 0, 7046) := rfl
theorem r_126_14 : row 126 14 = some (.ifCond .ne 6, 17, 20, 0, 0, 0) := rfl
theorem r_126_17 : row 126 17 = some (.bipush (-2), 19, (-2), 0, 0, 0) := rfl
theorem r_126_19 : row 126 19 = some (.ireturn, 20, 0, 0, 0, 0) := rfl
theorem r_126_20 : row 126 20 = some (.aload_n 0, 21, 0, 0, 0, 0) := rfl
theorem r_126_21 : row 126 21 = some (.iload_n 1, 22, 0, 0, 0, 0) := rfl
theorem r_126_22 : row 126 22 = some (.iload_n 2, 23, 0, 0, 0, 0) := rfl
theorem r_126_23 : row 126 23 = some (.invokevirtual 228, 26, 123, 2, 0, 7042) := rfl
theorem r_126_26 : row 126 26 = some (.ldc 227, 28, 1000000000, 0, 0, 7041) := rfl
theorem r_126_28 : row 126 28 = some (.if_icmp .lt 7, 31, 35, 0, 0, 0) := rfl
theorem r_126_31 : row 126 31 = some (.iconst (-1), 32, (-1), 0, 0, 0) := rfl
theorem r_126_32 : row 126 32 = some (.goto 9, 35, 41, 0, 0, 0) := rfl
theorem r_126_35 : row 126 35 = some (.aload_n 0, 36, 0, 0, 0, 0) := rfl
theorem r_126_36 : row 126 36 = some (.iload_n 1, 37, 0, 0, 0, 0) := rfl
theorem r_126_37 : row 126 37 = some (.iload_n 2, 38, 0, 0, 0, 0) := rfl
theorem r_126_38 : row 126 38 = some (.invokevirtual 228, 41, 123, 2, 0, 7042) := rfl
theorem r_126_41 : row 126 41 = some (.ireturn, 42, 0, 0, 0, 0) := rfl
theorem r_127_0 : row 127 0 = some (.iconst 0, 1, 0, 0, 0, 0) := rfl
theorem r_127_1 : row 127 1 = some (.istore 4, 3, 0, 0, 0, 0) := rfl
theorem r_127_3 : row 127 3 = some (.iconst 0, 4, 0, 0, 0, 0) := rfl
theorem r_127_4 : row 127 4 = some (.istore 5, 6, 0, 0, 0, 0) := rfl
theorem r_127_6 : row 127 6 = some (.iload 5, 8, 0, 0, 0, 0) := rfl
theorem r_127_8 : row 127 8 = some (.aload_n 0, 9, 0, 0, 0, 0) := rfl
theorem r_127_9 : row 127 9 = some (.getfield 9, 12, 10, 1, 2, 6002) := rfl
theorem r_127_12 : row 127 12 = some (.iconst 0, 13, 0, 0, 0, 0) := rfl
theorem r_127_13 : row 127 13 = some (.iaload, 14, 0, 0, 0, 0) := rfl
theorem r_127_14 : row 127 14 = some (.if_icmp .ge 40, 17, 54, 0, 0, 0) := rfl
theorem r_127_17 : row 127 17 = some (.iload 4, 19, 0, 0, 0, 0) := rfl
theorem r_127_19 : row 127 19 = some (.aload_n 0, 20, 0, 0, 0, 0) := rfl
theorem r_127_20 : row 127 20 = some (.iload_n 1, 21, 0, 0, 0, 0) := rfl
theorem r_127_21 : row 127 21 = some (.iload 5, 23, 0, 0, 0, 0) := rfl
theorem r_127_23 : row 127 23 = some (.invokevirtual 228, 26, 123, 2, 0, 7042) := rfl
theorem r_127_26 : row 127 26 = some (.i2l, 27, 0, 0, 0, 0) := rfl
theorem r_127_27 : row 127 27 = some (.iload_n 2, 28, 0, 0, 0, 0) := rfl
theorem r_127_28 : row 127 28 = some (.i2l, 29, 0, 0, 0, 0) := rfl
theorem r_127_29 : row 127 29 = some (.iload_n 3, 30, 0, 0, 0, 0) := rfl
theorem r_127_30 : row 127 30 = some (.i2l, 31, 0, 0, 0, 0) := rfl
theorem r_127_31 : row 127 31 = some (.invokestatic 82, 34, 86, 3, 0, 6131) := rfl
theorem r_127_34 : row 127 34 = some (.ifCond .eq 10, 37, 44, 0, 0, 0) := rfl
theorem r_127_37 : row 127 37 = some (.iconst 1, 38, 1, 0, 0, 0) := rfl
theorem r_127_38 : row 127 38 = some (.iload 5, 40, 0, 0, 0, 0) := rfl
theorem r_127_40 : row 127 40 = some (.ishl, 41, 0, 0, 0, 0) := rfl
theorem r_127_41 : row 127 41 = some (.goto 4, 44, 45, 0, 0, 0) := rfl
theorem r_127_44 : row 127 44 = some (.iconst 0, 45, 0, 0, 0, 0) := rfl
theorem r_127_45 : row 127 45 = some (.ior, 46, 0, 0, 0, 0) := rfl
theorem r_127_46 : row 127 46 = some (.istore 4, 48, 0, 0, 0, 0) := rfl
theorem r_127_48 : row 127 48 = some (.iinc 5 1, 51, 0, 0, 0, 0) := rfl
theorem r_127_51 : row 127 51 = some (.goto (-45), 54, 6, 0, 0, 0) := rfl
theorem r_127_54 : row 127 54 = some (.iload 4, 56, 0, 0, 0, 0) := rfl
theorem r_127_56 : row 127 56 = some (.ireturn, 57, 0, 0, 0, 0) := rfl
theorem r_128_0 : row 128 0 = some (.aload_n 0, 1, 0, 0, 0, 0) := rfl
theorem r_128_1 : row 128 1 = some (.iload_n 1, 2, 0, 0, 0, 0) := rfl
theorem r_128_2 : row 128 2 = some (.invokevirtual 237, 5, 125, 1, 0, 7033) := rfl
theorem r_128_5 : row 128 5 = some (.ifCond .eq 13, 8, 18, 0, 0, 0) := rfl
theorem r_128_8 : row 128 8 = some (.aload_n 0, 9, 0, 0, 0, 0) := rfl
theorem r_128_9 : row 128 9 = some (.iload_n 1, 10, 0, 0, 0, 0) := rfl
theorem r_128_10 : row 128 10 = some (.iconst 1, 11, 1, 0, 0, 0) := rfl
theorem r_128_11 : row 128 11 = some (.iconst 1, 12, 1, 0, 0, 0) := rfl
theorem r_128_12 : row 128 12 = some (.invokevirtual 240, 15, 127, 3, 0, 7054) := rfl
theorem r_128_15 : row 128 15 = some (.goto 5, 18, 20, 0, 0, 0) := rfl
theorem r_128_18 : row 128 18 = some (.bipush (-2), 20, (-2), 0, 0, 0) := rfl
theorem r_128_20 : row 128 20 = some (.ireturn, 21, 0, 0, 0, 0) := rfl
theorem r_129_0 : row 129 0 = some (.aload_n 0, 1, 0, 0, 0, 0) := rfl
theorem r_129_1 : row 129 1 = some (.iload_n 1, 2, 0, 0, 0, 0) := rfl
theorem r_129_2 : row 129 2 = some (.invokevirtual 237, 5, 125, 1, 0, 7033) := rfl
theorem r_129_5 : row 129 5 = some (.ifCond .eq 14, 8, 19, 0, 0, 0) := rfl
theorem r_129_8 : row 129 8 = some (.aload_n 0, 9, 0, 0, 0, 0) := rfl
theorem r_129_9 : row 129 9 = some (.iload_n 1, 10, 0, 0, 0, 0) := rfl
theorem r_129_10 : row 129 10 = some (.iconst 0, 11, 0, 0, 0, 0) := rfl
theorem r_129_11 : row 129 11 = some (.bipush 7, 13, 7, 0, 0, 0) := rfl
theorem r_129_13 : row 129 13 = some (.invokevirtual 240, 16, 127, 3, 0, 7054) := rfl
theorem r_129_16 : row 129 16 = some (.goto 5, 19, 21, 0, 0, 0) := rfl
theorem r_129_19 : row 129 19 = some (.bipush (-2), 21, (-2), 0, 0, 0) := rfl
theorem r_129_21 : row 129 21 = some (.ireturn, 22, 0, 0, 0, 0) := rfl
theorem r_259_0 : row 259 0 = some (.aload_n 0, 1, 0, 0, 0, 0) := rfl
theorem r_259_1 : row 259 1 = some (.getfield 64, 4, 3, 17, 2, 1133) := rfl
theorem r_259_4 : row 259 4 = some (.iload_n 1, 5, 0, 0, 0, 0) := rfl
theorem r_259_5 : row 259 5 = some (.bipush 7, 7, 7, 0, 0, 0) := rfl
theorem r_259_7 : row 259 7 = some (.imul, 8, 0, 0, 0, 0) := rfl
theorem r_259_8 : row 259 8 = some (.iload_n 2, 9, 0, 0, 0, 0) := rfl
theorem r_259_9 : row 259 9 = some (.iadd, 10, 0, 0, 0, 0) := rfl
theorem r_259_10 : row 259 10 = some (.invokestatic 77, 13, 237, 2, 10, 3107) := rfl
theorem r_259_13 : row 259 13 = some (.ireturn, 14, 0, 0, 0, 0) := rfl
theorem r_260_0 : row 260 0 = some (.iconst 0, 1, 0, 0, 0, 0) := rfl
theorem r_260_1 : row 260 1 = some (.istore_n 2, 2, 0, 0, 0, 0) := rfl
theorem r_260_2 : row 260 2 = some (.iconst 0, 3, 0, 0, 0, 0) := rfl
theorem r_260_3 : row 260 3 = some (.istore_n 3, 4, 0, 0, 0, 0) := rfl
theorem r_260_4 : row 260 4 = some (.iload_n 3, 5, 0, 0, 0, 0) := rfl
theorem r_260_5 : row 260 5 = some (.aload_n 0, 6, 0, 0, 0, 0) := rfl
theorem r_260_6 : row 260 6 = some (.getfield 15, 9, 3, 1, 0, 1069) := rfl
theorem r_260_9 : row 260 9 = some (.if_icmp .ge 25, 12, 34, 0, 0, 0) := rfl
theorem r_260_12 : row 260 12 = some (.aload_n 0, 13, 0, 0, 0, 0) := rfl
theorem r_260_13 : row 260 13 = some (.iload_n 1, 14, 0, 0, 0, 0) := rfl
theorem r_260_14 : row 260 14 = some (.iload_n 3, 15, 0, 0, 0, 0) := rfl
theorem r_260_15 : row 260 15 = some (.invokevirtual 93, 18, 259, 2, 0, 3229) := rfl
theorem r_260_18 : row 260 18 = some (.iconst (-1), 19, (-1), 0, 0, 0) := rfl
theorem r_260_19 : row 260 19 = some (.if_icmp .eq 9, 22, 28, 0, 0, 0) := rfl
theorem r_260_22 : row 260 22 = some (.iload_n 2, 23, 0, 0, 0, 0) := rfl
theorem r_260_23 : row 260 23 = some (.iconst 1, 24, 1, 0, 0, 0) := rfl
theorem r_260_24 : row 260 24 = some (.iload_n 3, 25, 0, 0, 0, 0) := rfl
theorem r_260_25 : row 260 25 = some (.ishl, 26, 0, 0, 0, 0) := rfl
theorem r_260_26 : row 260 26 = some (.ior, 27, 0, 0, 0, 0) := rfl
theorem r_260_27 : row 260 27 = some (.istore_n 2, 28, 0, 0, 0, 0) := rfl
theorem r_260_28 : row 260 28 = some (.iinc 3 1, 31, 0, 0, 0, 0) := rfl
theorem r_260_31 : row 260 31 = some (.goto (-27), 34, 4, 0, 0, 0) := rfl
theorem r_260_34 : row 260 34 = some (.iload_n 2, 35, 0, 0, 0, 0) := rfl
theorem r_260_35 : row 260 35 = some (.ireturn, 36, 0, 0, 0, 0) := rfl
theorem bits_eq : ∀ y : Nat, y < 128 → ∀ z : Nat, z < 128 → (∀ q : Nat, q < 7 → (y / 2 ^ q % 2 = 1 ↔ z / 2 ^ q % 2 = 1)) → y = z := by decide +kernel
/-- x tells by its bits which q below n have P -/
def Bs (n : Nat) (P : Nat → Prop) (x : Int) : Prop := ∃ y : Nat, y < 128 ∧ x = (y : Int) ∧ ∀ q : Nat, q < 7 → (bt y q ↔ q < n ∧ P q)
theorem Bs_eq {n k : Nat} {P R : Nat → Prop} {x z : Int} (h1 : Bs n P x) (h2 : Bs k R z) (h : ∀ q : Nat, q < 7 → ((q < n ∧ P q) ↔ (q < k ∧ R q))) : x = z := by
  obtain ⟨y1, a1, a2, a3⟩ := h1
  obtain ⟨y2, b1, b2, b3⟩ := h2
  rw [a2, b2, bits_eq y1 a1 y2 b1 (fun q hq => (a3 q hq).trans ((h q hq).trans (b3 q hq).symm))]
theorem Bs_0 {P : Nat → Prop} : Bs 0 P 0 := ⟨0, by decide, rfl, fun q _ => ⟨fun z => absurd z (by unfold bt; rw [Nat.zero_div]; decide), fun z => absurd z.1 (Nat.not_lt_zero _)⟩⟩
theorem Bs_no {k : Nat} {P : Nat → Prop} {x : Int} (h : Bs k P x) (hP : ¬ P k) : Bs (k + 1) P x := by
  obtain ⟨y, a1, a2, a3⟩ := h
  refine ⟨y, a1, a2, fun q hq => (a3 q hq).trans ⟨fun z => ⟨by omega, z.2⟩, fun z => ⟨?_, z.2⟩⟩⟩
  have : ¬ q = k := fun e => hP (by rw [← e]; exact z.2)
  omega
theorem Bs_or0 {k : Nat} {P : Nat → Prop} {x : Int} (h : Bs k P x) : ior x 0 = x := by
  obtain ⟨y, a1, a2, a3⟩ := h
  rw [a2]
  have := (or_7 y a1 0 (by decide)).1
  rw [Nat.or_zero] at this
  exact this
theorem Bs_set {k : Nat} {P : Nat → Prop} {x : Int} (hk : k < 7) (h : Bs k P x) (hP : P k) : Bs (k + 1) P (ior x (ishl 1 (k : Int))) := by
  obtain ⟨y, a1, a2, a3⟩ := h
  obtain ⟨s1, s2, s3⟩ := sh_7 k hk
  obtain ⟨o1, o2⟩ := or_7 y a1 (2 ^ k) s2
  refine ⟨y ||| 2 ^ k, o2, by rw [a2, s1, o1], fun q hq => ?_⟩
  rw [bt_or a1 s2 hq, a3 q hq, show bt (2 ^ k) q ↔ q = k from s3 q hq]
  constructor
  · rintro (⟨z1, z2⟩ | z)
    · exact ⟨by omega, z2⟩
    · rw [z]; exact ⟨by omega, hP⟩
  · rintro ⟨z1, z2⟩
    by_cases e : q = k
    · exact Or.inr e
    · exact Or.inl ⟨by omega, z2⟩
section WAYS
variable {T : List Kd} {m : Mm}
theorem z_259 (hT : TT T) (hp : PinR m) {a b : Nat} (ha : a < 7) (hb : b < 7) : GX T 1 259 0 [(2, 4), (0, (a : Int)), (0, (b : Int))] [] m (RI (fun v m1 => v = m 12 (7 * a + b) ∧ m1 = m)) := by
  refine gx_st (L' := [(2, 4), (0, (a : Int)), (0, (b : Int))]) (S' := [(2, 4)]) r_259_0 rfl rfl rfl ?_
  refine gx_gf (x := 12) 2 r_259_1 (rfl) (ty_4 hT) ⟨by decide, rfl, by decide, by decide⟩ rfl (fun _ => by omega) (pin_at hp (t := 12) rfl (by decide)) ?_
  refine gx_st (L' := [(2, 4), (0, (a : Int)), (0, (b : Int))]) (S' := [(0, (a : Int)), (2, 12)]) r_259_4 rfl rfl rfl ?_
  refine gx_st (L' := [(2, 4), (0, (a : Int)), (0, (b : Int))]) (S' := [(0, 7), (0, (a : Int)), (2, 12)]) r_259_5 rfl rfl rfl ?_
  refine gx_ar (L' := [(2, 4), (0, (a : Int)), (0, (b : Int))]) (S' := [(2, 12)]) (t := 0) (e := w32 ((a : Int) * 7)) (z := 7 * (a : Int)) r_259_7 rfl rfl rfl (w32_eq (by omega) (by omega) (by omega)) ?_
  refine gx_st (L' := [(2, 4), (0, (a : Int)), (0, (b : Int))]) (S' := [(0, (b : Int)), (0, 7 * (a : Int)), (2, 12)]) r_259_8 rfl rfl rfl ?_
  refine gx_ar (L' := [(2, 4), (0, (a : Int)), (0, (b : Int))]) (S' := [(2, 12)]) (t := 0) (e := w32 ((7 * (a : Int)) + (b : Int))) (z := 7 * (a : Int) + (b : Int)) r_259_9 rfl rfl rfl (w32_eq (by omega) (by omega) (by omega)) ?_
  refine gx_ci (nx := 13) (S2 := []) (c_237 (r := 12) (n := 49) (ty_12 hT) (by decide) (by decide) (k := 7 * a + b) (by omega)) r_259_10 rfl rfl rfl rfl rfl rfl rfl (by decide) rfl (fun x10 n10 q10 => ?_)
  obtain rfl := q10.1.symm
  obtain rfl := q10.2.symm
  show GX T 1 259 13 [(2, 4), (0, (a : Int)), (0, (b : Int))] [(0, (m 12 (7 * a + b)))] m (RI (fun v m1 => v = m 12 (7 * a + b) ∧ m1 = m))
  exact gx_rt r_259_13 rfl rfl ⟨_, rfl, ⟨rfl, rfl⟩⟩
theorem rb_l (hT : TT T) (hp : PinR m) {a n : Nat} (ha : a < 7) (hn : m 4 1 = (n : Int)) (hn7 : n ≤ 7) : ∀ (N k : Nat) (c : Int), n - k < N → k ≤ n → Bs k (fun q => ¬ m 12 (7 * a + q) = -1) c → GX T 2 260 4 [(2, 4), (0, (a : Int)), (0, c), (0, (k : Int))] [] m (RI (fun v m1 => Bs n (fun q => ¬ m 12 (7 * a + q) = -1) v ∧ m1 = m)) := by
  intro N
  induction N with
  | zero => intro k c hN; exact absurd hN (Nat.not_lt_zero _)
  | succ N ih =>
    intro k c hN hk hb
    refine gx_st (L' := [(2, 4), (0, (a : Int)), (0, c), (0, (k : Int))]) (S' := [(0, (k : Int))]) r_260_4 rfl rfl rfl ?_
    refine gx_st (L' := [(2, 4), (0, (a : Int)), (0, c), (0, (k : Int))]) (S' := [(2, 4), (0, (k : Int))]) r_260_5 rfl rfl rfl ?_
    refine gx_gf (x := (n : Int)) 0 r_260_6 (rfl) (ty_4 hT) ⟨by decide, rfl, by decide, by decide⟩ rfl (fun z => absurd z (by decide)) (hn) ?_
    refine gx_ic (P := (n : Int) ≤ (k : Int)) r_260_9 (rfl) (fun h9 => ?_) (fun h9 => ?_)
    · refine gx_st (L' := [(2, 4), (0, (a : Int)), (0, c), (0, (k : Int))]) (S' := [(0, c)]) r_260_34 rfl rfl rfl ?_
      have hkn : k = n := by omega
      rw [hkn] at hb
      exact gx_rt r_260_35 rfl rfl ⟨_, rfl, hb, rfl⟩
    · refine gx_st (L' := [(2, 4), (0, (a : Int)), (0, c), (0, (k : Int))]) (S' := [(2, 4)]) r_260_12 rfl rfl rfl ?_
      refine gx_st (L' := [(2, 4), (0, (a : Int)), (0, c), (0, (k : Int))]) (S' := [(0, (a : Int)), (2, 4)]) r_260_13 rfl rfl rfl ?_
      refine gx_st (L' := [(2, 4), (0, (a : Int)), (0, c), (0, (k : Int))]) (S' := [(0, (k : Int)), (0, (a : Int)), (2, 4)]) r_260_14 rfl rfl rfl ?_
      refine gx_ci (nx := 18) (S2 := []) (z_259 hT hp (a := a) (b := k) ha (by omega)) r_260_15 rfl rfl rfl rfl rfl (rcv_v rfl (ty_4 hT) (by decide) rfl (by decide)) rfl (by decide) rfl (fun x15 n15 q15 => ?_)
      obtain rfl := q15.1.symm
      obtain rfl := q15.2.symm
      show GX T 2 260 18 [(2, 4), (0, (a : Int)), (0, c), (0, (k : Int))] [(0, (m 12 (7 * a + k)))] m (RI (fun v m1 => Bs n (fun q => ¬ m 12 (7 * a + q) = -1) v ∧ m1 = m))
      refine gx_st (L' := [(2, 4), (0, (a : Int)), (0, c), (0, (k : Int))]) (S' := [(0, (-1)), (0, (m 12 (7 * a + k)))]) r_260_18 rfl rfl rfl ?_
      refine gx_ic (P := (m 12 (7 * a + k)) = (-1)) r_260_19 (rfl) (fun h19 => ?_) (fun h19 => ?_)
      · refine gx_li (z := (k : Int) + 1) (L' := [(2, 4), (0, (a : Int)), (0, c), (0, (k : Int) + 1)]) r_260_28 rfl (w32_eq (by omega) (by omega) (by omega)) rfl ?_
        refine gx_st (L' := [(2, 4), (0, (a : Int)), (0, c), (0, (k : Int) + 1)]) (S' := []) r_260_31 rfl rfl rfl ?_
        rw [show (k : Int) + 1 = ((k + 1 : Nat) : Int) from rfl]
        exact ih (k + 1) c (by omega) (by omega) (Bs_no hb (fun z => z h19))
      · refine gx_st (L' := [(2, 4), (0, (a : Int)), (0, c), (0, (k : Int))]) (S' := [(0, c)]) r_260_22 rfl rfl rfl ?_
        refine gx_st (L' := [(2, 4), (0, (a : Int)), (0, c), (0, (k : Int))]) (S' := [(0, 1), (0, c)]) r_260_23 rfl rfl rfl ?_
        refine gx_st (L' := [(2, 4), (0, (a : Int)), (0, c), (0, (k : Int))]) (S' := [(0, (k : Int)), (0, 1), (0, c)]) r_260_24 rfl rfl rfl ?_
        refine gx_st (L' := [(2, 4), (0, (a : Int)), (0, c), (0, (k : Int))]) (S' := [(0, (ishl 1 (k : Int))), (0, c)]) r_260_25 rfl rfl rfl ?_
        refine gx_st (L' := [(2, 4), (0, (a : Int)), (0, c), (0, (k : Int))]) (S' := [(0, (ior c ((ishl 1 (k : Int)))))]) r_260_26 rfl rfl rfl ?_
        refine gx_st (L' := [(2, 4), (0, (a : Int)), (0, (ior c ((ishl 1 (k : Int))))), (0, (k : Int))]) (S' := []) r_260_27 rfl rfl rfl ?_
        refine gx_li (z := (k : Int) + 1) (L' := [(2, 4), (0, (a : Int)), (0, (ior c ((ishl 1 (k : Int))))), (0, (k : Int) + 1)]) r_260_28 rfl (w32_eq (by omega) (by omega) (by omega)) rfl ?_
        refine gx_st (L' := [(2, 4), (0, (a : Int)), (0, (ior c ((ishl 1 (k : Int))))), (0, (k : Int) + 1)]) (S' := []) r_260_31 rfl rfl rfl ?_
        rw [show (k : Int) + 1 = ((k + 1 : Nat) : Int) from rfl]
        exact ih (k + 1) ((ior c ((ishl 1 (k : Int))))) (by omega) (by omega) (Bs_set (by omega) hb h19)
theorem z_260 (hT : TT T) (hp : PinR m) {a n : Nat} (ha : a < 7) (hn : m 4 1 = (n : Int)) (hn7 : n ≤ 7) : GX T 2 260 0 [(2, 4), (0, (a : Int)), (9, 0), (9, 0)] [] m (RI (fun v m1 => Bs n (fun q => ¬ m 12 (7 * a + q) = -1) v ∧ m1 = m)) := by
  refine gx_st (L' := [(2, 4), (0, (a : Int)), (9, 0), (9, 0)]) (S' := [(0, 0)]) r_260_0 rfl rfl rfl ?_
  refine gx_st (L' := [(2, 4), (0, (a : Int)), (0, 0), (9, 0)]) (S' := []) r_260_1 rfl rfl rfl ?_
  refine gx_st (L' := [(2, 4), (0, (a : Int)), (0, 0), (9, 0)]) (S' := [(0, 0)]) r_260_2 rfl rfl rfl ?_
  refine gx_st (L' := [(2, 4), (0, (a : Int)), (0, 0), (0, 0)]) (S' := []) r_260_3 rfl rfl rfl ?_
  exact rb_l hT hp ha hn hn7 (n + 1) 0 0 (by omega) (by omega) Bs_0
theorem z_9 (hT : TT T) (hp : PinR m) (a b : Int) (h7 : m 4 1 ≤ 7) : GX T 2 9 0 [(2, 1), (0, a), (0, b)] [] m (RI (fun v m1 => (¬ ((0 ≤ a ∧ a < m 4 1) ∧ 0 ≤ b ∧ b < m 4 1) → v = -2) ∧ ∀ i j : Nat, a = (i : Int) → b = (j : Int) → ((0 ≤ a ∧ a < m 4 1) ∧ 0 ≤ b ∧ b < m 4 1) → v = m 12 (7 * i + j))) := by
  refine gx_st (L' := [(2, 1), (0, a), (0, b)]) (S' := [(2, 1)]) r_9_0 rfl rfl rfl ?_
  refine gx_st (L' := [(2, 1), (0, a), (0, b)]) (S' := [(0, a), (2, 1)]) r_9_1 rfl rfl rfl ?_
  refine gx_ci (nx := 5) (S2 := []) (x_72 hT hp a) r_9_2 rfl rfl rfl rfl rfl (rcv_v rfl (ty_1 hT) (by decide) rfl (by decide)) rfl (by decide) rfl (fun x2 n2 q2 => ?_)
  obtain rfl := q2.1.symm
  obtain rfl := q2.2.symm
  show GX T 2 9 5 [(2, 1), (0, a), (0, b)] [(0, (if 0 ≤ a ∧ a < m 4 1 then 1 else 0))] m (RI (fun v m1 => (¬ ((0 ≤ a ∧ a < m 4 1) ∧ 0 ≤ b ∧ b < m 4 1) → v = -2) ∧ ∀ i j : Nat, a = (i : Int) → b = (j : Int) → ((0 ≤ a ∧ a < m 4 1) ∧ 0 ≤ b ∧ b < m 4 1) → v = m 12 (7 * i + j)))
  refine gx_i0 (P := ¬ (0 ≤ a ∧ a < m 4 1)) r_9_5 (b01_eq) (fun h5 => ?_) (fun h5 => ?_)
  · refine gx_st (L' := [(2, 1), (0, a), (0, b)]) (S' := [(0, (-2))]) r_9_16 rfl rfl rfl ?_
    exact gx_rt r_9_18 rfl rfl ⟨_, rfl, fun _ => rfl, fun i j e1 e2 z => (by exfalso; omega)⟩
  · have h5 := Decidable.not_not.mp h5
    refine gx_st (L' := [(2, 1), (0, a), (0, b)]) (S' := [(2, 1)]) r_9_8 rfl rfl rfl ?_
    refine gx_st (L' := [(2, 1), (0, a), (0, b)]) (S' := [(0, b), (2, 1)]) r_9_9 rfl rfl rfl ?_
    refine gx_ci (nx := 13) (S2 := []) (x_72 hT hp b) r_9_10 rfl rfl rfl rfl rfl (rcv_v rfl (ty_1 hT) (by decide) rfl (by decide)) rfl (by decide) rfl (fun x10 n10 q10 => ?_)
    obtain rfl := q10.1.symm
    obtain rfl := q10.2.symm
    show GX T 2 9 13 [(2, 1), (0, a), (0, b)] [(0, (if 0 ≤ b ∧ b < m 4 1 then 1 else 0))] m (RI (fun v m1 => (¬ ((0 ≤ a ∧ a < m 4 1) ∧ 0 ≤ b ∧ b < m 4 1) → v = -2) ∧ ∀ i j : Nat, a = (i : Int) → b = (j : Int) → ((0 ≤ a ∧ a < m 4 1) ∧ 0 ≤ b ∧ b < m 4 1) → v = m 12 (7 * i + j)))
    refine gx_i0 (P := 0 ≤ b ∧ b < m 4 1) r_9_13 (b01_ne) (fun h13 => ?_) (fun h13 => ?_)
    · obtain ⟨ii, h_ii⟩ : ∃ i : Nat, a = (i : Int) := ⟨a.toNat, by omega⟩
      rw [h_ii]
      obtain ⟨jj, h_jj⟩ : ∃ i : Nat, b = (i : Int) := ⟨b.toNat, by omega⟩
      rw [h_jj]
      refine gx_st (L' := [(2, 1), (0, (ii : Int)), (0, (jj : Int))]) (S' := [(2, 1)]) r_9_19 rfl rfl rfl ?_
      refine gx_gf (x := 4) 2 r_9_20 (rfl) (ty_1 hT) ⟨by decide, rfl, by decide, by decide⟩ rfl (fun _ => by omega) (pin_at hp (t := 4) rfl (by decide)) ?_
      refine gx_st (L' := [(2, 1), (0, (ii : Int)), (0, (jj : Int))]) (S' := [(0, (ii : Int)), (2, 4)]) r_9_23 rfl rfl rfl ?_
      refine gx_st (L' := [(2, 1), (0, (ii : Int)), (0, (jj : Int))]) (S' := [(0, (jj : Int)), (0, (ii : Int)), (2, 4)]) r_9_24 rfl rfl rfl ?_
      refine gx_ci (nx := 28) (S2 := []) (z_259 hT hp (a := ii) (b := jj) (by omega) (by omega)) r_9_25 rfl rfl rfl rfl rfl (rcv_v rfl (ty_4 hT) (by decide) rfl (by decide)) rfl (by decide) rfl (fun x25 n25 q25 => ?_)
      obtain rfl := q25.1.symm
      obtain rfl := q25.2.symm
      show GX T 2 9 28 [(2, 1), (0, (ii : Int)), (0, (jj : Int))] [(0, (m 12 (7 * ii + jj)))] m (RI (fun v m1 => (¬ ((0 ≤ (ii : Int) ∧ (ii : Int) < m 4 1) ∧ 0 ≤ (jj : Int) ∧ (jj : Int) < m 4 1) → v = -2) ∧ ∀ i j : Nat, (ii : Int) = (i : Int) → (jj : Int) = (j : Int) → ((0 ≤ (ii : Int) ∧ (ii : Int) < m 4 1) ∧ 0 ≤ (jj : Int) ∧ (jj : Int) < m 4 1) → v = m 12 (7 * i + j)))
      exact gx_rt r_9_28 rfl rfl ⟨_, rfl, fun z => absurd z (by omega), fun i j e1 e2 z => by rw [show i = ii by omega, show j = jj by omega]⟩
    · refine gx_st (L' := [(2, 1), (0, a), (0, b)]) (S' := [(0, (-2))]) r_9_16 rfl rfl rfl ?_
      exact gx_rt r_9_18 rfl rfl ⟨_, rfl, fun _ => rfl, fun i j e1 e2 z => (by exfalso; omega)⟩
theorem z_10 (hT : TT T) (hp : PinR m) (a : Int) (h7 : m 4 1 ≤ 7) : GX T 2 10 0 [(2, 1), (0, a)] [] m (RI (fun v m1 => (¬ (0 ≤ a ∧ a < m 4 1) → v = -2) ∧ ∀ i : Nat, a = (i : Int) → (0 ≤ a ∧ a < m 4 1) → v = m 11 i)) := by
  refine gx_st (L' := [(2, 1), (0, a)]) (S' := [(2, 1)]) r_10_0 rfl rfl rfl ?_
  refine gx_st (L' := [(2, 1), (0, a)]) (S' := [(0, a), (2, 1)]) r_10_1 rfl rfl rfl ?_
  refine gx_ci (nx := 5) (S2 := []) (x_72 hT hp a) r_10_2 rfl rfl rfl rfl rfl (rcv_v rfl (ty_1 hT) (by decide) rfl (by decide)) rfl (by decide) rfl (fun x2 n2 q2 => ?_)
  obtain rfl := q2.1.symm
  obtain rfl := q2.2.symm
  show GX T 2 10 5 [(2, 1), (0, a)] [(0, (if 0 ≤ a ∧ a < m 4 1 then 1 else 0))] m (RI (fun v m1 => (¬ (0 ≤ a ∧ a < m 4 1) → v = -2) ∧ ∀ i : Nat, a = (i : Int) → (0 ≤ a ∧ a < m 4 1) → v = m 11 i))
  refine gx_i0 (P := ¬ (0 ≤ a ∧ a < m 4 1)) r_10_5 (b01_eq) (fun h5 => ?_) (fun h5 => ?_)
  · refine gx_st (L' := [(2, 1), (0, a)]) (S' := [(0, (-2))]) r_10_22 rfl rfl rfl ?_
    exact gx_rt r_10_24 rfl rfl ⟨_, rfl, fun _ => rfl, fun i e1 z => (by exfalso; omega)⟩
  · have h5 := Decidable.not_not.mp h5
    obtain ⟨ii, h_ii⟩ : ∃ i : Nat, a = (i : Int) := ⟨a.toNat, by omega⟩
    rw [h_ii]
    refine gx_st (L' := [(2, 1), (0, (ii : Int))]) (S' := [(2, 1)]) r_10_8 rfl rfl rfl ?_
    refine gx_gf (x := 4) 2 r_10_9 (rfl) (ty_1 hT) ⟨by decide, rfl, by decide, by decide⟩ rfl (fun _ => by omega) (pin_at hp (t := 4) rfl (by decide)) ?_
    refine gx_gf (x := 11) 2 r_10_12 (rfl) (ty_4 hT) ⟨by decide, rfl, by decide, by decide⟩ rfl (fun _ => by omega) (pin_at hp (t := 11) rfl (by decide)) ?_
    refine gx_st (L' := [(2, 1), (0, (ii : Int))]) (S' := [(0, (ii : Int)), (2, 11)]) r_10_15 rfl rfl rfl ?_
    refine gx_ci (nx := 19) (S2 := []) (c_237 (r := 11) (n := 7) (ty_11 hT) (by decide) (by decide) (k := ii) (by omega)) r_10_16 rfl rfl rfl rfl rfl rfl rfl (by decide) rfl (fun x16 n16 q16 => ?_)
    obtain rfl := q16.1.symm
    obtain rfl := q16.2.symm
    show GX T 2 10 19 [(2, 1), (0, (ii : Int))] [(0, (m 11 ii))] m (RI (fun v m1 => (¬ (0 ≤ (ii : Int) ∧ (ii : Int) < m 4 1) → v = -2) ∧ ∀ i : Nat, (ii : Int) = (i : Int) → (0 ≤ (ii : Int) ∧ (ii : Int) < m 4 1) → v = m 11 i))
    refine gx_st (L' := [(2, 1), (0, (ii : Int))]) (S' := [(0, (m 11 ii))]) r_10_19 rfl rfl rfl ?_
    exact gx_rt r_10_24 rfl rfl ⟨_, rfl, fun z => absurd z (by omega), fun i e1 z => by rw [show i = ii by omega]⟩
theorem z_12 (hT : TT T) (hp : PinR m) (a : Int) {n : Nat} (hn : m 4 1 = (n : Int)) (h7 : n ≤ 7) : GX T 3 12 0 [(2, 1), (0, a)] [] m (RI (fun v m1 => (¬ (0 ≤ a ∧ a < m 4 1) → v = -2) ∧ ∀ i : Nat, a = (i : Int) → (0 ≤ a ∧ a < m 4 1) → Bs n (fun q => ¬ m 12 (7 * i + q) = -1) v)) := by
  refine gx_st (L' := [(2, 1), (0, a)]) (S' := [(2, 1)]) r_12_0 rfl rfl rfl ?_
  refine gx_st (L' := [(2, 1), (0, a)]) (S' := [(0, a), (2, 1)]) r_12_1 rfl rfl rfl ?_
  refine gx_ci (nx := 5) (S2 := []) (x_72 hT hp a) r_12_2 rfl rfl rfl rfl rfl (rcv_v rfl (ty_1 hT) (by decide) rfl (by decide)) rfl (by decide) rfl (fun x2 n2 q2 => ?_)
  obtain rfl := q2.1.symm
  obtain rfl := q2.2.symm
  show GX T 3 12 5 [(2, 1), (0, a)] [(0, (if 0 ≤ a ∧ a < m 4 1 then 1 else 0))] m (RI (fun v m1 => (¬ (0 ≤ a ∧ a < m 4 1) → v = -2) ∧ ∀ i : Nat, a = (i : Int) → (0 ≤ a ∧ a < m 4 1) → Bs n (fun q => ¬ m 12 (7 * i + q) = -1) v))
  refine gx_i0 (P := ¬ (0 ≤ a ∧ a < m 4 1)) r_12_5 (b01_eq) (fun h5 => ?_) (fun h5 => ?_)
  · refine gx_st (L' := [(2, 1), (0, a)]) (S' := [(0, (-2))]) r_12_19 rfl rfl rfl ?_
    exact gx_rt r_12_21 rfl rfl ⟨_, rfl, fun _ => rfl, fun i e1 z => (by exfalso; omega)⟩
  · have h5 := Decidable.not_not.mp h5
    obtain ⟨ii, h_ii⟩ : ∃ i : Nat, a = (i : Int) := ⟨a.toNat, by omega⟩
    rw [h_ii]
    refine gx_st (L' := [(2, 1), (0, (ii : Int))]) (S' := [(2, 1)]) r_12_8 rfl rfl rfl ?_
    refine gx_gf (x := 4) 2 r_12_9 (rfl) (ty_1 hT) ⟨by decide, rfl, by decide, by decide⟩ rfl (fun _ => by omega) (pin_at hp (t := 4) rfl (by decide)) ?_
    refine gx_st (L' := [(2, 1), (0, (ii : Int))]) (S' := [(0, (ii : Int)), (2, 4)]) r_12_12 rfl rfl rfl ?_
    refine gx_ci (nx := 16) (S2 := []) (z_260 hT hp (a := ii) (n := n) (by omega) hn h7) r_12_13 rfl rfl rfl rfl rfl (rcv_v rfl (ty_4 hT) (by decide) rfl (by decide)) rfl (by decide) rfl (fun x13 n13 q13 => ?_)
    obtain ⟨hB, zn13⟩ := q13
    obtain rfl := zn13.symm
    show GX T 3 12 16 [(2, 1), (0, (ii : Int))] [(0, x13)] m (RI (fun v m1 => (¬ (0 ≤ (ii : Int) ∧ (ii : Int) < m 4 1) → v = -2) ∧ ∀ i : Nat, (ii : Int) = (i : Int) → (0 ≤ (ii : Int) ∧ (ii : Int) < m 4 1) → Bs n (fun q => ¬ m 12 (7 * i + q) = -1) v))
    refine gx_st (L' := [(2, 1), (0, (ii : Int))]) (S' := [(0, x13)]) r_12_16 rfl rfl rfl ?_
    exact gx_rt r_12_21 rfl rfl ⟨_, rfl, fun z => absurd z (by omega), fun i e1 z => by rw [show i = ii by omega]; exact hB⟩
theorem y_125 (hT : TT T) (hm : Gam m) (hx : Ext m) (p : Int) : GX T 3 125 0 [(2, 192), (0, p)] [] m (RI (fun v m1 => v = (if 0 ≤ p ∧ p ≤ m1 193 0 - 1 then 1 else 0) ∧ Gam m1 ∧ Ext m1 ∧ Fr [97999] m m1 ∧ FS m1)) := by
  refine gx_st (L' := [(2, 192), (0, p)]) (S' := [(2, 192)]) r_125_0 rfl rfl rfl ?_
  refine gx_cv (nx := 4) (S2 := []) (x_124 hT hm hx) r_125_1 rfl rfl rfl rfl rfl (rcv_v rfl (ty_192 hT) (by decide) rfl (by decide)) rfl (by decide) rfl (fun n1 q1 => ?_)
  refine gx_st (L' := [(2, 192), (0, p)]) (S' := [(2, 192)]) r_125_4 rfl rfl rfl ?_
  refine gx_st (L' := [(2, 192), (0, p)]) (S' := [(0, p), (2, 192)]) r_125_5 rfl rfl rfl ?_
  refine gx_st (L' := [(2, 192), (0, p)]) (S' := [(1, p), (2, 192)]) r_125_6 rfl rfl rfl ?_
  refine gx_ci (nx := 10) (S2 := []) (x_91 hT q1.1 p) r_125_7 rfl rfl rfl rfl rfl (rcv_v rfl (ty_192 hT) (by decide) rfl (by decide)) rfl (by decide) rfl (fun x7 n7 q7 => ?_)
  obtain rfl := q7.1.symm
  obtain rfl := q7.2.symm
  show GX T 3 125 10 [(2, 192), (0, p)] [(0, (if 0 ≤ p ∧ p ≤ n1 193 0 - 1 then 1 else 0))] n1 (RI (fun v m1 => v = (if 0 ≤ p ∧ p ≤ m1 193 0 - 1 then 1 else 0) ∧ Gam m1 ∧ Ext m1 ∧ Fr [97999] m m1 ∧ FS m1))
  exact gx_rb r_125_10 rfl (by split <;> omega) ⟨_, rfl, rfl, q1⟩
theorem y_126 (hT : TT T) (hm : Gam m) (hx : Ext m) (a b : Int) : GX T 4 126 0 [(2, 192), (0, a), (0, b)] [] m (RI (fun v m1 => Fr [97999] m m1 ∧ FS m1 ∧ (¬ ((0 ≤ a ∧ a < m1 193 0) ∧ 0 ≤ b ∧ b < m1 193 0) → v = -2) ∧ ∀ i j : Nat, a = (i : Int) → b = (j : Int) → ((0 ≤ a ∧ a < m1 193 0) ∧ 0 ≤ b ∧ b < m1 193 0) → v = if m1 199 (7 * i + j) < FAR then m1 199 (7 * i + j) else -1)) := by
  refine gx_st (L' := [(2, 192), (0, a), (0, b)]) (S' := [(2, 192)]) r_126_0 rfl rfl rfl ?_
  refine gx_st (L' := [(2, 192), (0, a), (0, b)]) (S' := [(0, a), (2, 192)]) r_126_1 rfl rfl rfl ?_
  refine gx_ci (nx := 5) (S2 := []) (y_125 hT hm hx a) r_126_2 rfl rfl rfl rfl rfl (rcv_v rfl (ty_192 hT) (by decide) rfl (by decide)) rfl (by decide) rfl (fun x2 n2 q2 => ?_)
  obtain ⟨e2_, g2, x2_, f2, s2⟩ := q2
  subst e2_
  show GX T 4 126 5 [(2, 192), (0, a), (0, b)] [(0, (if 0 ≤ a ∧ a ≤ n2 193 0 - 1 then 1 else 0))] n2 (RI (fun v m1 => Fr [97999] m m1 ∧ FS m1 ∧ (¬ ((0 ≤ a ∧ a < m1 193 0) ∧ 0 ≤ b ∧ b < m1 193 0) → v = -2) ∧ ∀ i j : Nat, a = (i : Int) → b = (j : Int) → ((0 ≤ a ∧ a < m1 193 0) ∧ 0 ≤ b ∧ b < m1 193 0) → v = if m1 199 (7 * i + j) < FAR then m1 199 (7 * i + j) else -1))
  have b0 := gb_193_0 g2
  refine gx_i0 (P := ¬ (0 ≤ a ∧ a ≤ n2 193 0 - 1)) r_126_5 (b01_eq) (fun h5 => ?_) (fun h5 => ?_)
  · refine gx_st (L' := [(2, 192), (0, a), (0, b)]) (S' := [(0, (-2))]) r_126_17 rfl rfl rfl ?_
    exact gx_rt r_126_19 rfl rfl ⟨_, rfl, f2, s2, fun _ => rfl, fun i j e1 e2 z => (by exfalso; omega)⟩
  · have h5 := Decidable.not_not.mp h5
    refine gx_st (L' := [(2, 192), (0, a), (0, b)]) (S' := [(2, 192)]) r_126_8 rfl rfl rfl ?_
    refine gx_st (L' := [(2, 192), (0, a), (0, b)]) (S' := [(0, b), (2, 192)]) r_126_9 rfl rfl rfl ?_
    refine gx_st (L' := [(2, 192), (0, a), (0, b)]) (S' := [(1, b), (2, 192)]) r_126_10 rfl rfl rfl ?_
    refine gx_ci (nx := 14) (S2 := []) (x_91 hT g2 b) r_126_11 rfl rfl rfl rfl rfl (rcv_v rfl (ty_192 hT) (by decide) rfl (by decide)) rfl (by decide) rfl (fun x11 n11 q11 => ?_)
    obtain rfl := q11.1.symm
    obtain rfl := q11.2.symm
    show GX T 4 126 14 [(2, 192), (0, a), (0, b)] [(0, (if 0 ≤ b ∧ b ≤ n2 193 0 - 1 then 1 else 0))] n2 (RI (fun v m1 => Fr [97999] m m1 ∧ FS m1 ∧ (¬ ((0 ≤ a ∧ a < m1 193 0) ∧ 0 ≤ b ∧ b < m1 193 0) → v = -2) ∧ ∀ i j : Nat, a = (i : Int) → b = (j : Int) → ((0 ≤ a ∧ a < m1 193 0) ∧ 0 ≤ b ∧ b < m1 193 0) → v = if m1 199 (7 * i + j) < FAR then m1 199 (7 * i + j) else -1))
    refine gx_i0 (P := 0 ≤ b ∧ b ≤ n2 193 0 - 1) r_126_14 (b01_ne) (fun h14 => ?_) (fun h14 => ?_)
    · obtain ⟨ii, h_ii⟩ : ∃ i : Nat, a = (i : Int) := ⟨a.toNat, by omega⟩
      rw [h_ii]
      obtain ⟨jj, h_jj⟩ : ∃ i : Nat, b = (i : Int) := ⟨b.toNat, by omega⟩
      rw [h_jj]
      refine gx_st (L' := [(2, 192), (0, (ii : Int)), (0, (jj : Int))]) (S' := [(2, 192)]) r_126_20 rfl rfl rfl ?_
      refine gx_st (L' := [(2, 192), (0, (ii : Int)), (0, (jj : Int))]) (S' := [(0, (ii : Int)), (2, 192)]) r_126_21 rfl rfl rfl ?_
      refine gx_st (L' := [(2, 192), (0, (ii : Int)), (0, (jj : Int))]) (S' := [(0, (jj : Int)), (0, (ii : Int)), (2, 192)]) r_126_22 rfl rfl rfl ?_
      refine gx_ci (nx := 26) (S2 := []) (x_123 hT g2 (a := ii) (b := jj) (by omega) (by omega)) r_126_23 rfl rfl rfl rfl rfl (rcv_v rfl (ty_192 hT) (by decide) rfl (by decide)) rfl (by decide) rfl (fun x23 n23 q23 => ?_)
      obtain rfl := q23.1.symm
      obtain rfl := q23.2.symm
      show GX T 4 126 26 [(2, 192), (0, (ii : Int)), (0, (jj : Int))] [(0, (n2 199 (7 * ii + jj)))] n2 (RI (fun v m1 => Fr [97999] m m1 ∧ FS m1 ∧ (¬ ((0 ≤ (ii : Int) ∧ (ii : Int) < m1 193 0) ∧ 0 ≤ (jj : Int) ∧ (jj : Int) < m1 193 0) → v = -2) ∧ ∀ i j : Nat, (ii : Int) = (i : Int) → (jj : Int) = (j : Int) → ((0 ≤ (ii : Int) ∧ (ii : Int) < m1 193 0) ∧ 0 ≤ (jj : Int) ∧ (jj : Int) < m1 193 0) → v = if m1 199 (7 * i + j) < FAR then m1 199 (7 * i + j) else -1))
      refine gx_st (L' := [(2, 192), (0, (ii : Int)), (0, (jj : Int))]) (S' := [(0, 1000000000), (0, (n2 199 (7 * ii + jj)))]) r_126_26 rfl rfl rfl ?_
      refine gx_ic (P := (n2 199 (7 * ii + jj)) < 1000000000) r_126_28 (rfl) (fun h28 => ?_) (fun h28 => ?_)
      · refine gx_st (L' := [(2, 192), (0, (ii : Int)), (0, (jj : Int))]) (S' := [(2, 192)]) r_126_35 rfl rfl rfl ?_
        refine gx_st (L' := [(2, 192), (0, (ii : Int)), (0, (jj : Int))]) (S' := [(0, (ii : Int)), (2, 192)]) r_126_36 rfl rfl rfl ?_
        refine gx_st (L' := [(2, 192), (0, (ii : Int)), (0, (jj : Int))]) (S' := [(0, (jj : Int)), (0, (ii : Int)), (2, 192)]) r_126_37 rfl rfl rfl ?_
        refine gx_ci (nx := 41) (S2 := []) (x_123 hT g2 (a := ii) (b := jj) (by omega) (by omega)) r_126_38 rfl rfl rfl rfl rfl (rcv_v rfl (ty_192 hT) (by decide) rfl (by decide)) rfl (by decide) rfl (fun x38 n38 q38 => ?_)
        obtain rfl := q38.1.symm
        obtain rfl := q38.2.symm
        show GX T 4 126 41 [(2, 192), (0, (ii : Int)), (0, (jj : Int))] [(0, (n2 199 (7 * ii + jj)))] n2 (RI (fun v m1 => Fr [97999] m m1 ∧ FS m1 ∧ (¬ ((0 ≤ (ii : Int) ∧ (ii : Int) < m1 193 0) ∧ 0 ≤ (jj : Int) ∧ (jj : Int) < m1 193 0) → v = -2) ∧ ∀ i j : Nat, (ii : Int) = (i : Int) → (jj : Int) = (j : Int) → ((0 ≤ (ii : Int) ∧ (ii : Int) < m1 193 0) ∧ 0 ≤ (jj : Int) ∧ (jj : Int) < m1 193 0) → v = if m1 199 (7 * i + j) < FAR then m1 199 (7 * i + j) else -1))
        exact gx_rt r_126_41 rfl rfl ⟨_, rfl, f2, s2, fun z => absurd z (by omega), fun i j e1 e2 z => by rw [show i = ii by omega, show j = jj by omega]; exact (if_pos (by unfold FAR; omega)).symm⟩
      · refine gx_st (L' := [(2, 192), (0, (ii : Int)), (0, (jj : Int))]) (S' := [(0, (-1))]) r_126_31 rfl rfl rfl ?_
        refine gx_st (L' := [(2, 192), (0, (ii : Int)), (0, (jj : Int))]) (S' := [(0, (-1))]) r_126_32 rfl rfl rfl ?_
        exact gx_rt r_126_41 rfl rfl ⟨_, rfl, f2, s2, fun z => absurd z (by omega), fun i j e1 e2 z => by rw [show i = ii by omega, show j = jj by omega]; exact (if_neg (by unfold FAR; omega)).symm⟩
    · refine gx_st (L' := [(2, 192), (0, a), (0, b)]) (S' := [(0, (-2))]) r_126_17 rfl rfl rfl ?_
      exact gx_rt r_126_19 rfl rfl ⟨_, rfl, f2, s2, fun _ => rfl, fun i j e1 e2 z => (by exfalso; omega)⟩
theorem wi_l (hT : TT T) (hm : Gam m) (hp : PinR m) {a n : Nat} {lo hi : Int} (ha : a < 7) (hn : m 193 0 = (n : Int)) (hn7 : n ≤ 7) : ∀ (N k : Nat) (c : Int), n - k < N → k ≤ n → Bs k (fun q => lo ≤ m 199 (7 * a + q) ∧ m 199 (7 * a + q) ≤ hi) c → GX T 1 127 6 [(2, 192), (0, (a : Int)), (0, lo), (0, hi), (0, c), (0, (k : Int))] [] m (RI (fun v m1 => Bs n (fun q => lo ≤ m 199 (7 * a + q) ∧ m 199 (7 * a + q) ≤ hi) v ∧ m1 = m)) := by
  intro N
  induction N with
  | zero => intro k c hN; exact absurd hN (Nat.not_lt_zero _)
  | succ N ih =>
    intro k c hN hk hb
    refine gx_st (L' := [(2, 192), (0, (a : Int)), (0, lo), (0, hi), (0, c), (0, (k : Int))]) (S' := [(0, (k : Int))]) r_127_6 rfl rfl rfl ?_
    refine gx_st (L' := [(2, 192), (0, (a : Int)), (0, lo), (0, hi), (0, c), (0, (k : Int))]) (S' := [(2, 192), (0, (k : Int))]) r_127_8 rfl rfl rfl ?_
    refine gx_gf (x := 193) 2 r_127_9 (rfl) (ty_192 hT) ⟨by decide, rfl, by decide, by decide⟩ rfl (fun _ => by omega) (pin_at hp (t := 193) rfl (by decide)) ?_
    refine gx_st (L' := [(2, 192), (0, (a : Int)), (0, lo), (0, hi), (0, c), (0, (k : Int))]) (S' := [(0, 0), (2, 193), (0, (k : Int))]) r_127_12 rfl rfl rfl ?_
    refine gx_ia (n := 0) (x := (n : Int)) r_127_13 (rfl) (ty_193 hT) (rfl) ⟨rfl, by decide⟩ (hn) ?_
    refine gx_ic (P := (n : Int) ≤ (k : Int)) r_127_14 (rfl) (fun h14 => ?_) (fun h14 => ?_)
    · refine gx_st (L' := [(2, 192), (0, (a : Int)), (0, lo), (0, hi), (0, c), (0, (k : Int))]) (S' := [(0, c)]) r_127_54 rfl rfl rfl ?_
      have hkn : k = n := by omega
      rw [hkn] at hb
      exact gx_rt r_127_56 rfl rfl ⟨_, rfl, hb, rfl⟩
    · refine gx_st (L' := [(2, 192), (0, (a : Int)), (0, lo), (0, hi), (0, c), (0, (k : Int))]) (S' := [(0, c)]) r_127_17 rfl rfl rfl ?_
      refine gx_st (L' := [(2, 192), (0, (a : Int)), (0, lo), (0, hi), (0, c), (0, (k : Int))]) (S' := [(2, 192), (0, c)]) r_127_19 rfl rfl rfl ?_
      refine gx_st (L' := [(2, 192), (0, (a : Int)), (0, lo), (0, hi), (0, c), (0, (k : Int))]) (S' := [(0, (a : Int)), (2, 192), (0, c)]) r_127_20 rfl rfl rfl ?_
      refine gx_st (L' := [(2, 192), (0, (a : Int)), (0, lo), (0, hi), (0, c), (0, (k : Int))]) (S' := [(0, (k : Int)), (0, (a : Int)), (2, 192), (0, c)]) r_127_21 rfl rfl rfl ?_
      refine gx_ci (nx := 26) (S2 := [(0, c)]) (x_123 hT hm (a := a) (b := k) ha (by omega)) r_127_23 rfl rfl rfl rfl rfl (rcv_v rfl (ty_192 hT) (by decide) rfl (by decide)) rfl (by decide) rfl (fun x23 n23 q23 => ?_)
      obtain rfl := q23.1.symm
      obtain rfl := q23.2.symm
      show GX T 1 127 26 [(2, 192), (0, (a : Int)), (0, lo), (0, hi), (0, c), (0, (k : Int))] [(0, (m 199 (7 * a + k))), (0, c)] m (RI (fun v m1 => Bs n (fun q => lo ≤ m 199 (7 * a + q) ∧ m 199 (7 * a + q) ≤ hi) v ∧ m1 = m))
      refine gx_st (L' := [(2, 192), (0, (a : Int)), (0, lo), (0, hi), (0, c), (0, (k : Int))]) (S' := [(1, (m 199 (7 * a + k))), (0, c)]) r_127_26 rfl rfl rfl ?_
      refine gx_st (L' := [(2, 192), (0, (a : Int)), (0, lo), (0, hi), (0, c), (0, (k : Int))]) (S' := [(0, lo), (1, (m 199 (7 * a + k))), (0, c)]) r_127_27 rfl rfl rfl ?_
      refine gx_st (L' := [(2, 192), (0, (a : Int)), (0, lo), (0, hi), (0, c), (0, (k : Int))]) (S' := [(1, lo), (1, (m 199 (7 * a + k))), (0, c)]) r_127_28 rfl rfl rfl ?_
      refine gx_st (L' := [(2, 192), (0, (a : Int)), (0, lo), (0, hi), (0, c), (0, (k : Int))]) (S' := [(0, hi), (1, lo), (1, (m 199 (7 * a + k))), (0, c)]) r_127_29 rfl rfl rfl ?_
      refine gx_st (L' := [(2, 192), (0, (a : Int)), (0, lo), (0, hi), (0, c), (0, (k : Int))]) (S' := [(1, hi), (1, lo), (1, (m 199 (7 * a + k))), (0, c)]) r_127_30 rfl rfl rfl ?_
      refine gx_ci (nx := 34) (S2 := [(0, c)]) (x_86 ((m 199 (7 * a + k))) lo hi) r_127_31 rfl rfl rfl rfl rfl rfl rfl (by decide) rfl (fun x31 n31 q31 => ?_)
      obtain rfl := q31.1.symm
      obtain rfl := q31.2.symm
      show GX T 1 127 34 [(2, 192), (0, (a : Int)), (0, lo), (0, hi), (0, c), (0, (k : Int))] [(0, (if lo ≤ (m 199 (7 * a + k)) ∧ (m 199 (7 * a + k)) ≤ hi then 1 else 0)), (0, c)] m (RI (fun v m1 => Bs n (fun q => lo ≤ m 199 (7 * a + q) ∧ m 199 (7 * a + q) ≤ hi) v ∧ m1 = m))
      refine gx_i0 (P := ¬ (lo ≤ (m 199 (7 * a + k)) ∧ (m 199 (7 * a + k)) ≤ hi)) r_127_34 (b01_eq) (fun h34 => ?_) (fun h34 => ?_)
      · refine gx_st (L' := [(2, 192), (0, (a : Int)), (0, lo), (0, hi), (0, c), (0, (k : Int))]) (S' := [(0, 0), (0, c)]) r_127_44 rfl rfl rfl ?_
        refine gx_st (L' := [(2, 192), (0, (a : Int)), (0, lo), (0, hi), (0, c), (0, (k : Int))]) (S' := [(0, (ior c 0))]) r_127_45 rfl rfl rfl ?_
        refine gx_st (L' := [(2, 192), (0, (a : Int)), (0, lo), (0, hi), (0, (ior c 0)), (0, (k : Int))]) (S' := []) r_127_46 rfl rfl rfl ?_
        refine gx_li (z := (k : Int) + 1) (L' := [(2, 192), (0, (a : Int)), (0, lo), (0, hi), (0, (ior c 0)), (0, (k : Int) + 1)]) r_127_48 rfl (w32_eq (by omega) (by omega) (by omega)) rfl ?_
        refine gx_st (L' := [(2, 192), (0, (a : Int)), (0, lo), (0, hi), (0, (ior c 0)), (0, (k : Int) + 1)]) (S' := []) r_127_51 rfl rfl rfl ?_
        rw [show (k : Int) + 1 = ((k + 1 : Nat) : Int) from rfl, Bs_or0 hb]
        exact ih (k + 1) c (by omega) (by omega) (Bs_no hb h34)
      · have h34 := Decidable.not_not.mp h34
        refine gx_st (L' := [(2, 192), (0, (a : Int)), (0, lo), (0, hi), (0, c), (0, (k : Int))]) (S' := [(0, 1), (0, c)]) r_127_37 rfl rfl rfl ?_
        refine gx_st (L' := [(2, 192), (0, (a : Int)), (0, lo), (0, hi), (0, c), (0, (k : Int))]) (S' := [(0, (k : Int)), (0, 1), (0, c)]) r_127_38 rfl rfl rfl ?_
        refine gx_st (L' := [(2, 192), (0, (a : Int)), (0, lo), (0, hi), (0, c), (0, (k : Int))]) (S' := [(0, (ishl 1 (k : Int))), (0, c)]) r_127_40 rfl rfl rfl ?_
        refine gx_st (L' := [(2, 192), (0, (a : Int)), (0, lo), (0, hi), (0, c), (0, (k : Int))]) (S' := [(0, (ishl 1 (k : Int))), (0, c)]) r_127_41 rfl rfl rfl ?_
        refine gx_st (L' := [(2, 192), (0, (a : Int)), (0, lo), (0, hi), (0, c), (0, (k : Int))]) (S' := [(0, (ior c ((ishl 1 (k : Int)))))]) r_127_45 rfl rfl rfl ?_
        refine gx_st (L' := [(2, 192), (0, (a : Int)), (0, lo), (0, hi), (0, (ior c ((ishl 1 (k : Int))))), (0, (k : Int))]) (S' := []) r_127_46 rfl rfl rfl ?_
        refine gx_li (z := (k : Int) + 1) (L' := [(2, 192), (0, (a : Int)), (0, lo), (0, hi), (0, (ior c ((ishl 1 (k : Int))))), (0, (k : Int) + 1)]) r_127_48 rfl (w32_eq (by omega) (by omega) (by omega)) rfl ?_
        refine gx_st (L' := [(2, 192), (0, (a : Int)), (0, lo), (0, hi), (0, (ior c ((ishl 1 (k : Int))))), (0, (k : Int) + 1)]) (S' := []) r_127_51 rfl rfl rfl ?_
        rw [show (k : Int) + 1 = ((k + 1 : Nat) : Int) from rfl]
        exact ih (k + 1) ((ior c ((ishl 1 (k : Int))))) (by omega) (by omega) (Bs_set (by omega) hb h34)
theorem y_127 (hT : TT T) (hm : Gam m) (hp : PinR m) {a n : Nat} (lo hi : Int) (ha : a < 7) (hn : m 193 0 = (n : Int)) (hn7 : n ≤ 7) : GX T 1 127 0 [(2, 192), (0, (a : Int)), (0, lo), (0, hi), (9, 0), (9, 0)] [] m (RI (fun v m1 => Bs n (fun q => lo ≤ m 199 (7 * a + q) ∧ m 199 (7 * a + q) ≤ hi) v ∧ m1 = m)) := by
  refine gx_st (L' := [(2, 192), (0, (a : Int)), (0, lo), (0, hi), (9, 0), (9, 0)]) (S' := [(0, 0)]) r_127_0 rfl rfl rfl ?_
  refine gx_st (L' := [(2, 192), (0, (a : Int)), (0, lo), (0, hi), (0, 0), (9, 0)]) (S' := []) r_127_1 rfl rfl rfl ?_
  refine gx_st (L' := [(2, 192), (0, (a : Int)), (0, lo), (0, hi), (0, 0), (9, 0)]) (S' := [(0, 0)]) r_127_3 rfl rfl rfl ?_
  refine gx_st (L' := [(2, 192), (0, (a : Int)), (0, lo), (0, hi), (0, 0), (0, 0)]) (S' := []) r_127_4 rfl rfl rfl ?_
  exact wi_l hT hm hp ha hn hn7 (n + 1) 0 0 (by omega) (by omega) Bs_0
theorem y_128 (hT : TT T) (hm : Gam m) (hx : Ext m) (hp : PinR m) (a : Int) : GX T 4 128 0 [(2, 192), (0, a)] [] m (RI (fun v m1 => Fr [97999] m m1 ∧ FS m1 ∧ (¬ (0 ≤ a ∧ a < m1 193 0) → v = -2) ∧ ∀ i k : Nat, a = (i : Int) → m1 193 0 = (k : Int) → (0 ≤ a ∧ a < m1 193 0) → Bs k (fun q => 1 ≤ m1 199 (7 * i + q) ∧ m1 199 (7 * i + q) ≤ 1) v)) := by
  refine gx_st (L' := [(2, 192), (0, a)]) (S' := [(2, 192)]) r_128_0 rfl rfl rfl ?_
  refine gx_st (L' := [(2, 192), (0, a)]) (S' := [(0, a), (2, 192)]) r_128_1 rfl rfl rfl ?_
  refine gx_ci (nx := 5) (S2 := []) (y_125 hT hm hx a) r_128_2 rfl rfl rfl rfl rfl (rcv_v rfl (ty_192 hT) (by decide) rfl (by decide)) rfl (by decide) rfl (fun x2 n2 q2 => ?_)
  obtain ⟨e2_, g2, x2_, f2, s2⟩ := q2
  subst e2_
  show GX T 4 128 5 [(2, 192), (0, a)] [(0, (if 0 ≤ a ∧ a ≤ n2 193 0 - 1 then 1 else 0))] n2 (RI (fun v m1 => Fr [97999] m m1 ∧ FS m1 ∧ (¬ (0 ≤ a ∧ a < m1 193 0) → v = -2) ∧ ∀ i k : Nat, a = (i : Int) → m1 193 0 = (k : Int) → (0 ≤ a ∧ a < m1 193 0) → Bs k (fun q => 1 ≤ m1 199 (7 * i + q) ∧ m1 199 (7 * i + q) ≤ 1) v))
  have b0 := gb_193_0 g2
  obtain ⟨n, hn⟩ : ∃ n : Nat, n2 193 0 = (n : Int) := ⟨(n2 193 0).toNat, by omega⟩
  refine gx_i0 (P := ¬ (0 ≤ a ∧ a ≤ n2 193 0 - 1)) r_128_5 (b01_eq) (fun h5 => ?_) (fun h5 => ?_)
  · refine gx_st (L' := [(2, 192), (0, a)]) (S' := [(0, (-2))]) r_128_18 rfl rfl rfl ?_
    exact gx_rt r_128_20 rfl rfl ⟨_, rfl, f2, s2, fun _ => rfl, fun i k e1 e2 z => (by exfalso; omega)⟩
  · have h5 := Decidable.not_not.mp h5
    obtain ⟨ii, h_ii⟩ : ∃ i : Nat, a = (i : Int) := ⟨a.toNat, by omega⟩
    rw [h_ii]
    refine gx_st (L' := [(2, 192), (0, (ii : Int))]) (S' := [(2, 192)]) r_128_8 rfl rfl rfl ?_
    refine gx_st (L' := [(2, 192), (0, (ii : Int))]) (S' := [(0, (ii : Int)), (2, 192)]) r_128_9 rfl rfl rfl ?_
    refine gx_st (L' := [(2, 192), (0, (ii : Int))]) (S' := [(0, 1), (0, (ii : Int)), (2, 192)]) r_128_10 rfl rfl rfl ?_
    refine gx_st (L' := [(2, 192), (0, (ii : Int))]) (S' := [(0, 1), (0, 1), (0, (ii : Int)), (2, 192)]) r_128_11 rfl rfl rfl ?_
    refine gx_ci (nx := 15) (S2 := []) (y_127 hT g2 (PinR_fr f2 (by decide) hp) (a := ii) (n := n) 1 1 (by omega) hn (by omega)) r_128_12 rfl rfl rfl rfl rfl (rcv_v rfl (ty_192 hT) (by decide) rfl (by decide)) rfl (by decide) rfl (fun x12 n12 q12 => ?_)
    obtain ⟨hB, z12⟩ := q12
    obtain rfl := z12.symm
    show GX T 4 128 15 [(2, 192), (0, (ii : Int))] [(0, x12)] n2 (RI (fun v m1 => Fr [97999] m m1 ∧ FS m1 ∧ (¬ (0 ≤ (ii : Int) ∧ (ii : Int) < m1 193 0) → v = -2) ∧ ∀ i k : Nat, (ii : Int) = (i : Int) → m1 193 0 = (k : Int) → (0 ≤ (ii : Int) ∧ (ii : Int) < m1 193 0) → Bs k (fun q => 1 ≤ m1 199 (7 * i + q) ∧ m1 199 (7 * i + q) ≤ 1) v))
    refine gx_st (L' := [(2, 192), (0, (ii : Int))]) (S' := [(0, x12)]) r_128_15 rfl rfl rfl ?_
    exact gx_rt r_128_20 rfl rfl ⟨_, rfl, f2, s2, fun z => absurd z (by omega), fun i k e1 e2 z => by rw [show i = ii by omega, show k = n by omega]; exact hB⟩
theorem y_129 (hT : TT T) (hm : Gam m) (hx : Ext m) (hp : PinR m) (a : Int) : GX T 4 129 0 [(2, 192), (0, a)] [] m (RI (fun v m1 => Fr [97999] m m1 ∧ FS m1 ∧ (¬ (0 ≤ a ∧ a < m1 193 0) → v = -2) ∧ ∀ i k : Nat, a = (i : Int) → m1 193 0 = (k : Int) → (0 ≤ a ∧ a < m1 193 0) → Bs k (fun q => 0 ≤ m1 199 (7 * i + q) ∧ m1 199 (7 * i + q) ≤ 7) v)) := by
  refine gx_st (L' := [(2, 192), (0, a)]) (S' := [(2, 192)]) r_129_0 rfl rfl rfl ?_
  refine gx_st (L' := [(2, 192), (0, a)]) (S' := [(0, a), (2, 192)]) r_129_1 rfl rfl rfl ?_
  refine gx_ci (nx := 5) (S2 := []) (y_125 hT hm hx a) r_129_2 rfl rfl rfl rfl rfl (rcv_v rfl (ty_192 hT) (by decide) rfl (by decide)) rfl (by decide) rfl (fun x2 n2 q2 => ?_)
  obtain ⟨e2_, g2, x2_, f2, s2⟩ := q2
  subst e2_
  show GX T 4 129 5 [(2, 192), (0, a)] [(0, (if 0 ≤ a ∧ a ≤ n2 193 0 - 1 then 1 else 0))] n2 (RI (fun v m1 => Fr [97999] m m1 ∧ FS m1 ∧ (¬ (0 ≤ a ∧ a < m1 193 0) → v = -2) ∧ ∀ i k : Nat, a = (i : Int) → m1 193 0 = (k : Int) → (0 ≤ a ∧ a < m1 193 0) → Bs k (fun q => 0 ≤ m1 199 (7 * i + q) ∧ m1 199 (7 * i + q) ≤ 7) v))
  have b0 := gb_193_0 g2
  obtain ⟨n, hn⟩ : ∃ n : Nat, n2 193 0 = (n : Int) := ⟨(n2 193 0).toNat, by omega⟩
  refine gx_i0 (P := ¬ (0 ≤ a ∧ a ≤ n2 193 0 - 1)) r_129_5 (b01_eq) (fun h5 => ?_) (fun h5 => ?_)
  · refine gx_st (L' := [(2, 192), (0, a)]) (S' := [(0, (-2))]) r_129_19 rfl rfl rfl ?_
    exact gx_rt r_129_21 rfl rfl ⟨_, rfl, f2, s2, fun _ => rfl, fun i k e1 e2 z => (by exfalso; omega)⟩
  · have h5 := Decidable.not_not.mp h5
    obtain ⟨ii, h_ii⟩ : ∃ i : Nat, a = (i : Int) := ⟨a.toNat, by omega⟩
    rw [h_ii]
    refine gx_st (L' := [(2, 192), (0, (ii : Int))]) (S' := [(2, 192)]) r_129_8 rfl rfl rfl ?_
    refine gx_st (L' := [(2, 192), (0, (ii : Int))]) (S' := [(0, (ii : Int)), (2, 192)]) r_129_9 rfl rfl rfl ?_
    refine gx_st (L' := [(2, 192), (0, (ii : Int))]) (S' := [(0, 0), (0, (ii : Int)), (2, 192)]) r_129_10 rfl rfl rfl ?_
    refine gx_st (L' := [(2, 192), (0, (ii : Int))]) (S' := [(0, 7), (0, 0), (0, (ii : Int)), (2, 192)]) r_129_11 rfl rfl rfl ?_
    refine gx_ci (nx := 16) (S2 := []) (y_127 hT g2 (PinR_fr f2 (by decide) hp) (a := ii) (n := n) 0 7 (by omega) hn (by omega)) r_129_13 rfl rfl rfl rfl rfl (rcv_v rfl (ty_192 hT) (by decide) rfl (by decide)) rfl (by decide) rfl (fun x13 n13 q13 => ?_)
    obtain ⟨hB, z13⟩ := q13
    obtain rfl := z13.symm
    show GX T 4 129 16 [(2, 192), (0, (ii : Int))] [(0, x13)] n2 (RI (fun v m1 => Fr [97999] m m1 ∧ FS m1 ∧ (¬ (0 ≤ (ii : Int) ∧ (ii : Int) < m1 193 0) → v = -2) ∧ ∀ i k : Nat, (ii : Int) = (i : Int) → m1 193 0 = (k : Int) → (0 ≤ (ii : Int) ∧ (ii : Int) < m1 193 0) → Bs k (fun q => 0 ≤ m1 199 (7 * i + q) ∧ m1 199 (7 * i + q) ≤ 7) v))
    refine gx_st (L' := [(2, 192), (0, (ii : Int))]) (S' := [(0, x13)]) r_129_16 rfl rfl rfl ?_
    exact gx_rt r_129_21 rfl rfl ⟨_, rfl, f2, s2, fun z => absurd z (by omega), fun i k e1 e2 z => by rw [show i = ii by omega, show k = n by omega]; exact hB⟩
end WAYS
theorem wb_adj {w : Nat → Int} {n : Nat} (b : WB w) (hn : w 0 = (n : Int)) : AdjOK n (adjW w) := by
  refine ⟨by have := b.1; omega, fun x y h => ?_⟩
  obtain ⟨k, k1, k2, k3⟩ := h
  have z := b.2.2.2.2.2 k k1 k2
  refine ⟨?_, ?_, ⟨k, k1, k2, k3.symm⟩⟩
  · rcases k3 with ⟨p, q⟩ | ⟨p, q⟩ <;> omega
  · rcases k3 with ⟨p, q⟩ | ⟨p, q⟩ <;> omega
theorem q_9 {m m1 m2 : Mm} {a b v1 v2 : Int} (r : WX m) (e : ∀ i : Nat, m1 193 i = m 193 i) (h1 : (¬ ((0 ≤ a ∧ a < m 4 1) ∧ 0 ≤ b ∧ b < m 4 1) → v1 = -2) ∧ ∀ i j : Nat, a = (i : Int) → b = (j : Int) → ((0 ≤ a ∧ a < m 4 1) ∧ 0 ≤ b ∧ b < m 4 1) → v1 = m 12 (7 * i + j)) (h2 : Fr [97999] m1 m2 ∧ FS m2 ∧ (¬ ((0 ≤ a ∧ a < m2 193 0) ∧ 0 ≤ b ∧ b < m2 193 0) → v2 = -2) ∧ ∀ i j : Nat, a = (i : Int) → b = (j : Int) → ((0 ≤ a ∧ a < m2 193 0) ∧ 0 ≤ b ∧ b < m2 193 0) → v2 = if m2 199 (7 * i + j) < FAR then m2 199 (7 * i + j) else -1) : v1 = v2 := by
  obtain ⟨f, s, g1, g2⟩ := h2
  have e2 : m2 193 = m 193 := funext fun i => (f 193 i rfl).trans (e i)
  unfold FS at s
  rw [e2] at s g1 g2
  have e41 : m 4 1 = m 193 0 := r.1.1.2.1
  by_cases c : (0 ≤ a ∧ a < m 4 1) ∧ 0 ≤ b ∧ b < m 4 1
  · obtain ⟨i, hi⟩ : ∃ i : Nat, a = (i : Int) := ⟨a.toNat, by omega⟩
    obtain ⟨j, hj⟩ : ∃ i : Nat, b = (i : Int) := ⟨b.toNat, by omega⟩
    rw [h1.2 i j hi hj c, g2 i j hi hj (by omega)]
    exact r.1.2.2.1 _ s i j (by omega) (by omega)
  · rw [h1.1 c, g1 (by omega)]
theorem q_10 {m m1 m2 : Mm} {a v1 v2 : Int} (r : WX m) (e : ∀ i : Nat, m1 193 i = m 193 i) (h1 : (¬ (0 ≤ a ∧ a < m 4 1) → v1 = -2) ∧ ∀ i : Nat, a = (i : Int) → (0 ≤ a ∧ a < m 4 1) → v1 = m 11 i) (h2 : Fr [97999] m1 m2 ∧ FS m2 ∧ (¬ (0 ≤ a ∧ a < m2 193 0) → v2 = -2) ∧ ∀ i k : Nat, a = (i : Int) → m2 193 0 = (k : Int) → (0 ≤ a ∧ a < m2 193 0) → Bs k (fun q => 1 ≤ m2 199 (7 * i + q) ∧ m2 199 (7 * i + q) ≤ 1) v2) : v1 = v2 := by
  obtain ⟨f, s, g1, g2⟩ := h2
  have e2 : m2 193 = m 193 := funext fun i => (f 193 i rfl).trans (e i)
  unfold FS at s
  rw [e2] at s g1 g2
  have e41 : m 4 1 = m 193 0 := r.1.1.2.1
  by_cases c : 0 ≤ a ∧ a < m 4 1
  · obtain ⟨i, hi⟩ : ∃ i : Nat, a = (i : Int) := ⟨a.toNat, by omega⟩
    obtain ⟨n, hn⟩ : ∃ n : Nat, m 193 0 = (n : Int) := ⟨(m 193 0).toNat, by omega⟩
    have hA := wb_adj r.1.2.1 hn
    have h7 := hA.1
    obtain ⟨x, x1, x2, x3⟩ := r.1.1.2.2.2.2.2.2.2.2.2.2.2.2.2 i (by omega)
    rw [h1.2 i hi c]
    have hB : Bs 7 (adjW (m 193) i) (m 11 i) := ⟨x, x1, x2, fun q hq => ⟨fun z => ⟨hq, (x3 q hq).mp z⟩, fun z => (x3 q hq).mpr z.2⟩⟩
    refine Bs_eq hB (g2 i n hi hn (by omega)) (fun q hq => ⟨fun z => ?_, fun z => ⟨hq, ?_⟩⟩)
    · have b := hA.2 i q z.2
      have d := s.2.2.1 i q (by omega) hq z.2
      have d1 : m2 199 (7 * i + q) = 1 := d
      exact ⟨b.2.1, by omega, by omega⟩
    · obtain ⟨z1, z2, z3⟩ := z
      have hiq : ¬ i = q := fun y => by
        have d := s.1 i (by omega)
        have d1 : m2 199 (7 * i + i) = 0 := d
        rw [← y] at z2; omega
      obtain ⟨t, t1, t2, t3⟩ := s.2.2.2.2 i q (by omega) hq hiq (by show m2 199 (7 * i + q) < FAR; unfold FAR; omega)
      have t4 : m2 199 (7 * t + q) = m2 199 (7 * i + q) - 1 := t3
      by_cases y : t = q
      · rw [← y]; exact t2
      · have d := s.2.1 t q t1 hq y
        have d1 : 1 ≤ m2 199 (7 * t + q) := d
        omega
  · rw [h1.1 c, g1 (by omega)]
theorem q_12 {m m1 m2 : Mm} {a v1 v2 : Int} {n : Nat} (r : WX m) (hn : m 4 1 = (n : Int)) (e : ∀ i : Nat, m1 193 i = m 193 i) (h1 : (¬ (0 ≤ a ∧ a < m 4 1) → v1 = -2) ∧ ∀ i : Nat, a = (i : Int) → (0 ≤ a ∧ a < m 4 1) → Bs n (fun q => ¬ m 12 (7 * i + q) = -1) v1) (h2 : Fr [97999] m1 m2 ∧ FS m2 ∧ (¬ (0 ≤ a ∧ a < m2 193 0) → v2 = -2) ∧ ∀ i k : Nat, a = (i : Int) → m2 193 0 = (k : Int) → (0 ≤ a ∧ a < m2 193 0) → Bs k (fun q => 0 ≤ m2 199 (7 * i + q) ∧ m2 199 (7 * i + q) ≤ 7) v2) : v1 = v2 := by
  obtain ⟨f, s, g1, g2⟩ := h2
  have e2 : m2 193 = m 193 := funext fun i => (f 193 i rfl).trans (e i)
  unfold FS at s
  rw [e2] at s g1 g2
  have e41 : m 4 1 = m 193 0 := r.1.1.2.1
  by_cases c : 0 ≤ a ∧ a < m 4 1
  · obtain ⟨i, hi⟩ : ∃ i : Nat, a = (i : Int) := ⟨a.toNat, by omega⟩
    have hn0 : m 193 0 = (n : Int) := by omega
    have hA := wb_adj r.1.2.1 hn0
    have h7 := hA.1
    refine Bs_eq (h1.2 i hi c) (g2 i n hi hn0 (by omega)) (fun q hq => and_congr_right (fun hqn => ?_))
    have w := r.1.2.2.1 _ s i q (by omega) (by omega)
    have w1 : m 12 (7 * i + q) = if m2 199 (7 * i + q) < FAR then m2 199 (7 * i + q) else -1 := w
    rw [hn0] at s
    have nn := wy_nn s (a := i) (b := q) (by omega) (by omega)
    have n1 : 0 ≤ m2 199 (7 * i + q) := nn
    rw [w1]
    by_cases y : m2 199 (7 * i + q) < FAR
    · have sm := wy_small hA s (a := i) (b := q) (by omega) hqn y
      have s1 : m2 199 (7 * i + q) ≤ 6 := sm
      rw [if_pos y]
      exact ⟨fun _ => ⟨n1, by omega⟩, fun _ => by omega⟩
    · rw [if_neg y]
      exact ⟨fun z => absurd rfl z, fun z => absurd (show m2 199 (7 * i + q) < FAR by unfold FAR; omega) y⟩
  · rw [h1.1 c, g1 (by omega)]
