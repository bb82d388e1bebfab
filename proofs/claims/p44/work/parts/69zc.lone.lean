/-! lone exactly -/
theorem r_13_0 : row 13 0 = some (.aload_n 0, 1, 0, 0, 0, 0) := rfl
theorem r_13_1 : row 13 1 = some (.getfield 19, 4, 9, 1, 2, 2159) := rfl
theorem r_13_4 : row 13 4 = some (.invokevirtual 162, 7, 252, 0, 10, 4036) := rfl
theorem r_13_7 : row 13 7 = some (.ifCond .ne 6, 10, 13, 0, 0, 0) := rfl
theorem r_13_10 : row 13 10 = some (.bipush (-2), 12, (-2), 0, 0, 0) := rfl
theorem r_13_12 : row 13 12 = some (.ireturn, 13, 0, 0, 0, 0) := rfl
theorem r_13_13 : row 13 13 = some (.aload_n 0, 14, 0, 0, 0, 0) := rfl
theorem r_13_14 : row 13 14 = some (.getfield 19, 17, 9, 1, 2, 2159) := rfl
theorem r_13_17 : row 13 17 = some (.getfield 152, 20, 3, 8, 10, 1101) := rfl
theorem r_13_20 : row 13 20 = some (.ifCond .ne 5, 23, 25, 0, 0, 0) := rfl
theorem r_13_23 : row 13 23 = some (.iconst 0, 24, 0, 0, 0, 0) := rfl
theorem r_13_24 : row 13 24 = some (.ireturn, 25, 0, 0, 0, 0) := rfl
theorem r_13_25 : row 13 25 = some (.aload_n 0, 26, 0, 0, 0, 0) := rfl
theorem r_13_26 : row 13 26 = some (.getfield 19, 29, 9, 1, 2, 2159) := rfl
theorem r_13_29 : row 13 29 = some (.aload_n 0, 30, 0, 0, 0, 0) := rfl
theorem r_13_30 : row 13 30 = some (.getfield 19, 33, 9, 1, 2, 2159) := rfl
theorem r_13_33 : row 13 33 = some (.iconst 0, 34, 0, 0, 0, 0) := rfl
theorem r_13_34 : row 13 34 = some (.invokevirtual 155, 37, 258, 1, 10, 3166) := rfl
theorem r_13_37 : row 13 37 = some (.invokevirtual 184, 40, 260, 1, 10, 4062) := rfl
theorem r_13_40 : row 13 40 = some (.istore_n 1, 41, 0, 0, 0, 0) := rfl
theorem r_13_41 : row 13 41 = some (.iconst 0, 42, 0, 0, 0, 0) := rfl
theorem r_13_42 : row 13 42 = some (.istore_n 2, 43, 0, 0, 0, 0) := rfl
theorem r_13_43 : row 13 43 = some (.iconst 0, 44, 0, 0, 0, 0) := rfl
theorem r_13_44 : row 13 44 = some (.istore_n 3, 45, 0, 0, 0, 0) := rfl
theorem r_13_45 : row 13 45 = some (.iload_n 3, 46, 0, 0, 0, 0) := rfl
theorem r_13_46 : row 13 46 = some (.aload_n 0, 47, 0, 0, 0, 0) := rfl
theorem r_13_47 : row 13 47 = some (.getfield 19, 50, 9, 1, 2, 2159) := rfl
theorem r_13_50 : row 13 50 = some (.getfield 123, 53, 3, 6, 10, 1093) := rfl
theorem r_13_53 : row 13 53 = some (.if_icmp .ge 33, 56, 86, 0, 0, 0) := rfl
theorem r_13_56 : row 13 56 = some (.iload_n 1, 57, 0, 0, 0, 0) := rfl
theorem r_13_57 : row 13 57 = some (.aload_n 0, 58, 0, 0, 0, 0) := rfl
theorem r_13_58 : row 13 58 = some (.getfield 19, 61, 9, 1, 2, 2159) := rfl
theorem r_13_61 : row 13 61 = some (.getfield 130, 64, 3, 10, 12, 1109) := rfl
theorem r_13_64 : row 13 64 = some (.iload_n 3, 65, 0, 0, 0, 0) := rfl
theorem r_13_65 : row 13 65 = some (.invokestatic 134, 68, 237, 2, 10, 4023) := rfl
theorem r_13_68 : row 13 68 = some (.invokestatic 187, 71, 242, 2, 10, 4070) := rfl
theorem r_13_71 : row 13 71 = some (.ifCond .ne 9, 74, 80, 0, 0, 0) := rfl
theorem r_13_74 : row 13 74 = some (.iload_n 2, 75, 0, 0, 0, 0) := rfl
theorem r_13_75 : row 13 75 = some (.iconst 1, 76, 1, 0, 0, 0) := rfl
theorem r_13_76 : row 13 76 = some (.iload_n 3, 77, 0, 0, 0, 0) := rfl
theorem r_13_77 : row 13 77 = some (.ishl, 78, 0, 0, 0, 0) := rfl
theorem r_13_78 : row 13 78 = some (.ior, 79, 0, 0, 0, 0) := rfl
theorem r_13_79 : row 13 79 = some (.istore_n 2, 80, 0, 0, 0, 0) := rfl
theorem r_13_80 : row 13 80 = some (.iinc 3 1, 83, 0, 0, 0, 0) := rfl
theorem r_13_83 : row 13 83 = some (.goto (-38), 86, 45, 0, 0, 0) := rfl
theorem r_13_86 : row 13 86 = some (.iload_n 2, 87, 0, 0, 0, 0) := rfl
theorem r_13_87 : row 13 87 = some (.ireturn, 88, 0, 0, 0, 0) := rfl
theorem r_130_0 : row 130 0 = some (.aload_n 0, 1, 0, 0, 0, 0) := rfl
theorem r_130_1 : row 130 1 = some (.invokevirtual 86, 4, 90, 0, 0, 7025) := rfl
theorem r_130_4 : row 130 4 = some (.ifCond .ne 6, 7, 10, 0, 0, 0) := rfl
theorem r_130_7 : row 130 7 = some (.bipush (-2), 9, (-2), 0, 0, 0) := rfl
theorem r_130_9 : row 130 9 = some (.ireturn, 10, 0, 0, 0, 0) := rfl
theorem r_130_10 : row 130 10 = some (.aload_n 0, 11, 0, 0, 0, 0) := rfl
theorem r_130_11 : row 130 11 = some (.invokevirtual 231, 14, 124, 0, 0, 7037) := rfl
theorem r_130_14 : row 130 14 = some (.iconst 0, 15, 0, 0, 0, 0) := rfl
theorem r_130_15 : row 130 15 = some (.istore_n 1, 16, 0, 0, 0, 0) := rfl
theorem r_130_16 : row 130 16 = some (.iconst 0, 17, 0, 0, 0, 0) := rfl
theorem r_130_17 : row 130 17 = some (.istore_n 2, 18, 0, 0, 0, 0) := rfl
theorem r_130_18 : row 130 18 = some (.iload_n 2, 19, 0, 0, 0, 0) := rfl
theorem r_130_19 : row 130 19 = some (.aload_n 0, 20, 0, 0, 0, 0) := rfl
theorem r_130_20 : row 130 20 = some (.getfield 9, 23, 10, 1, 2, 6002) := rfl
theorem r_130_23 : row 130 23 = some (.iconst 5, 24, 5, 0, 0, 0) := rfl
theorem r_130_24 : row 130 24 = some (.iaload, 25, 0, 0, 0, 0) := rfl
theorem r_130_25 : row 130 25 = some (.if_icmp .ge 48, 28, 73, 0, 0, 0) := rfl
theorem r_130_28 : row 130 28 = some (.aload_n 0, 29, 0, 0, 0, 0) := rfl
theorem r_130_29 : row 130 29 = some (.getfield 9, 32, 10, 1, 2, 6002) := rfl
theorem r_130_32 : row 130 32 = some (.bipush 7, 34, 7, 0, 0, 0) := rfl
theorem r_130_34 : row 130 34 = some (.iaload, 35, 0, 0, 0, 0) := rfl
theorem r_130_35 : row 130 35 = some (.ifCond .le 38, 38, 73, 0, 0, 0) := rfl
theorem r_130_38 : row 130 38 = some (.iload_n 1, 39, 0, 0, 0, 0) := rfl
theorem r_130_39 : row 130 39 = some (.aload_n 0, 40, 0, 0, 0, 0) := rfl
theorem r_130_40 : row 130 40 = some (.aload_n 0, 41, 0, 0, 0, 0) := rfl
theorem r_130_41 : row 130 41 = some (.iconst 0, 42, 0, 0, 0, 0) := rfl
theorem r_130_42 : row 130 42 = some (.invokevirtual 244, 45, 99, 1, 0, 7066) := rfl
theorem r_130_45 : row 130 45 = some (.aload_n 0, 46, 0, 0, 0, 0) := rfl
theorem r_130_46 : row 130 46 = some (.iload_n 2, 47, 0, 0, 0, 0) := rfl
theorem r_130_47 : row 130 47 = some (.invokevirtual 247, 50, 97, 1, 0, 7070) := rfl
theorem r_130_50 : row 130 50 = some (.invokevirtual 228, 53, 123, 2, 0, 7042) := rfl
theorem r_130_53 : row 130 53 = some (.ldc 227, 55, 1000000000, 0, 0, 7041) := rfl
theorem r_130_55 : row 130 55 = some (.if_icmp .lt 9, 58, 64, 0, 0, 0) := rfl
theorem r_130_58 : row 130 58 = some (.iconst 1, 59, 1, 0, 0, 0) := rfl
theorem r_130_59 : row 130 59 = some (.iload_n 2, 60, 0, 0, 0, 0) := rfl
theorem r_130_60 : row 130 60 = some (.ishl, 61, 0, 0, 0, 0) := rfl
theorem r_130_61 : row 130 61 = some (.goto 4, 64, 65, 0, 0, 0) := rfl
theorem r_130_64 : row 130 64 = some (.iconst 0, 65, 0, 0, 0, 0) := rfl
theorem r_130_65 : row 130 65 = some (.ior, 66, 0, 0, 0, 0) := rfl
theorem r_130_66 : row 130 66 = some (.istore_n 1, 67, 0, 0, 0, 0) := rfl
theorem r_130_67 : row 130 67 = some (.iinc 2 1, 70, 0, 0, 0, 0) := rfl
theorem r_130_70 : row 130 70 = some (.goto (-52), 73, 18, 0, 0, 0) := rfl
theorem r_130_73 : row 130 73 = some (.iload_n 1, 74, 0, 0, 0, 0) := rfl
theorem r_130_74 : row 130 74 = some (.ireturn, 75, 0, 0, 0, 0) := rfl
theorem bs_bit {n : Nat} {P : Nat → Prop} {x : Int} (h : Bs n P x) {q : Nat} (hq : q < 7) : iand (ishr x (q : Int)) 1 = 1 ↔ q < n ∧ P q := by
  obtain ⟨y, a1, a2, a3⟩ := h
  rw [a2, bit_7 y a1 q hq]
  refine Iff.trans ?_ (a3 q hq)
  unfold bt
  omega
section LONE
variable {T : List Kd} {m : Mm}
theorem lo_l (hT : TT T) (hp : PinR m) {h n nt : Nat} {pl : Nat → Nat} (hn7 : n ≤ 7) (ht : m 4 6 = (nt : Int)) (ht5 : nt ≤ 5) (hpl : ∀ t : Nat, t < nt → m 5 t = (pl t : Int) ∧ pl t < n) {r : Int} (hB : Bs n (fun q => ¬ m 12 (7 * h + q) = -1) r) : ∀ (N k : Nat) (c : Int), nt - k < N → k ≤ nt → Bs k (fun t => m 12 (7 * h + pl t) = -1) c → GX T 3 13 45 [(2, 1), (0, r), (0, c), (0, (k : Int))] [] m (RI (fun v m1 => Bs nt (fun t => m 12 (7 * h + pl t) = -1) v ∧ m1 = m)) := by
  intro N
  induction N with
  | zero => intro k c hN; exact absurd hN (Nat.not_lt_zero _)
  | succ N ih =>
    intro k c hN hk hb
    refine gx_st (L' := [(2, 1), (0, r), (0, c), (0, (k : Int))]) (S' := [(0, (k : Int))]) r_13_45 rfl rfl rfl ?_
    refine gx_st (L' := [(2, 1), (0, r), (0, c), (0, (k : Int))]) (S' := [(2, 1), (0, (k : Int))]) r_13_46 rfl rfl rfl ?_
    refine gx_gf (x := 4) 2 r_13_47 (rfl) (ty_1 hT) ⟨by decide, rfl, by decide, by decide⟩ rfl (fun _ => by omega) (pin_at hp (t := 4) rfl (by decide)) ?_
    refine gx_gf (x := (nt : Int)) 0 r_13_50 (rfl) (ty_4 hT) ⟨by decide, rfl, by decide, by decide⟩ rfl (fun z => absurd z (by decide)) (ht) ?_
    refine gx_ic (P := (nt : Int) ≤ (k : Int)) r_13_53 (rfl) (fun h53 => ?_) (fun h53 => ?_)
    · refine gx_st (L' := [(2, 1), (0, r), (0, c), (0, (k : Int))]) (S' := [(0, c)]) r_13_86 rfl rfl rfl ?_
      have hkn : k = nt := by omega
      rw [hkn] at hb
      exact gx_rt r_13_87 rfl rfl ⟨_, rfl, hb, rfl⟩
    · have hkt : k < nt := by omega
      obtain ⟨pe, pn⟩ := hpl k hkt
      obtain ⟨pk, h_pk⟩ : ∃ p, p = pl k := ⟨_, rfl⟩
      rw [← h_pk] at pe pn
      refine gx_st (L' := [(2, 1), (0, r), (0, c), (0, (k : Int))]) (S' := [(0, r)]) r_13_56 rfl rfl rfl ?_
      refine gx_st (L' := [(2, 1), (0, r), (0, c), (0, (k : Int))]) (S' := [(2, 1), (0, r)]) r_13_57 rfl rfl rfl ?_
      refine gx_gf (x := 4) 2 r_13_58 (rfl) (ty_1 hT) ⟨by decide, rfl, by decide, by decide⟩ rfl (fun _ => by omega) (pin_at hp (t := 4) rfl (by decide)) ?_
      refine gx_gf (x := 5) 2 r_13_61 (rfl) (ty_4 hT) ⟨by decide, rfl, by decide, by decide⟩ rfl (fun _ => by omega) (pin_at hp (t := 5) rfl (by decide)) ?_
      refine gx_st (L' := [(2, 1), (0, r), (0, c), (0, (k : Int))]) (S' := [(0, (k : Int)), (2, 5), (0, r)]) r_13_64 rfl rfl rfl ?_
      refine gx_ci (nx := 68) (S2 := [(0, r)]) (c_237 (r := 5) (n := 5) (ty_5 hT) (by decide) (by decide) (k := k) (by omega)) r_13_65 rfl rfl rfl rfl rfl rfl rfl (by decide) rfl (fun x65 n65 q65 => ?_)
      obtain ⟨e65, z65⟩ := q65
      obtain rfl := z65.symm
      rw [e65, pe]
      show GX T 3 13 68 [(2, 1), (0, r), (0, c), (0, (k : Int))] [(0, (pk : Int)), (0, r)] m (RI (fun v m1 => Bs nt (fun t => m 12 (7 * h + pl t) = -1) v ∧ m1 = m))
      refine gx_ci (nx := 71) (S2 := []) (x_242 r (pk : Int)) r_13_68 rfl rfl rfl rfl rfl rfl rfl (by decide) rfl (fun x68 n68 q68 => ?_)
      obtain rfl := q68.1.symm
      obtain rfl := q68.2.symm
      show GX T 3 13 71 [(2, 1), (0, r), (0, c), (0, (k : Int))] [(0, (if 0 ≤ (pk : Int) ∧ (pk : Int) < 32 ∧ iand (ishr r (pk : Int)) 1 = 1 then 1 else 0))] m (RI (fun v m1 => Bs nt (fun t => m 12 (7 * h + pl t) = -1) v ∧ m1 = m))
      refine gx_i0 (P := 0 ≤ (pk : Int) ∧ (pk : Int) < 32 ∧ iand (ishr r (pk : Int)) 1 = 1) r_13_71 (b01_ne) (fun h71 => ?_) (fun h71 => ?_)
      · refine gx_li (z := (k : Int) + 1) (L' := [(2, 1), (0, r), (0, c), (0, (k : Int) + 1)]) r_13_80 rfl (w32_eq (by omega) (by omega) (by omega)) rfl ?_
        refine gx_st (L' := [(2, 1), (0, r), (0, c), (0, (k : Int) + 1)]) (S' := []) r_13_83 rfl rfl rfl ?_
        have hP : ¬ m 12 (7 * h + pl k) = -1 := by
          rw [← h_pk]
          exact ((bs_bit hB (by omega)).mp h71.2.2).2
        rw [show (k : Int) + 1 = ((k + 1 : Nat) : Int) from rfl]
        exact ih (k + 1) c (by omega) (by omega) (Bs_no hb hP)
      · refine gx_st (L' := [(2, 1), (0, r), (0, c), (0, (k : Int))]) (S' := [(0, c)]) r_13_74 rfl rfl rfl ?_
        refine gx_st (L' := [(2, 1), (0, r), (0, c), (0, (k : Int))]) (S' := [(0, 1), (0, c)]) r_13_75 rfl rfl rfl ?_
        refine gx_st (L' := [(2, 1), (0, r), (0, c), (0, (k : Int))]) (S' := [(0, (k : Int)), (0, 1), (0, c)]) r_13_76 rfl rfl rfl ?_
        refine gx_st (L' := [(2, 1), (0, r), (0, c), (0, (k : Int))]) (S' := [(0, (ishl 1 (k : Int))), (0, c)]) r_13_77 rfl rfl rfl ?_
        refine gx_st (L' := [(2, 1), (0, r), (0, c), (0, (k : Int))]) (S' := [(0, (ior c ((ishl 1 (k : Int)))))]) r_13_78 rfl rfl rfl ?_
        refine gx_st (L' := [(2, 1), (0, r), (0, (ior c ((ishl 1 (k : Int))))), (0, (k : Int))]) (S' := []) r_13_79 rfl rfl rfl ?_
        refine gx_li (z := (k : Int) + 1) (L' := [(2, 1), (0, r), (0, (ior c ((ishl 1 (k : Int))))), (0, (k : Int) + 1)]) r_13_80 rfl (w32_eq (by omega) (by omega) (by omega)) rfl ?_
        refine gx_st (L' := [(2, 1), (0, r), (0, (ior c ((ishl 1 (k : Int))))), (0, (k : Int) + 1)]) (S' := []) r_13_83 rfl rfl rfl ?_
        have hP : m 12 (7 * h + pl k) = -1 := by
          rw [← h_pk]
          exact Decidable.byContradiction (fun z => h71 ⟨by omega, by omega, (bs_bit hB (by omega)).mpr ⟨pn, z⟩⟩)
        rw [show (k : Int) + 1 = ((k + 1 : Nat) : Int) from rfl]
        exact ih (k + 1) ((ior c ((ishl 1 (k : Int))))) (by omega) (by omega) (Bs_set (by omega) hb hP)
theorem z_13 (hT : TT T) (hp : PinR m) {h n nt : Nat} {pl : Nat → Nat} (hn7 : n ≤ 7) (ht : m 4 6 = (nt : Int)) (ht5 : nt ≤ 5) (hpl : ∀ t : Nat, t < nt → m 5 t = (pl t : Int) ∧ pl t < n) (hn : m 4 1 = (n : Int)) (hb : ¬ m 4 8 = 0 → m 9 0 = (h : Int) ∧ h < n) : GX T 3 13 0 [(2, 1), (9, 0), (9, 0), (9, 0)] [] m (RI (fun v m1 => (¬ 0 < m 4 0 → v = -2) ∧ (0 < m 4 0 → m 4 8 = 0 → v = 0) ∧ (0 < m 4 0 → ¬ m 4 8 = 0 → Bs nt (fun t => m 12 (7 * h + pl t) = -1) v))) := by
  refine gx_st (L' := [(2, 1), (9, 0), (9, 0), (9, 0)]) (S' := [(2, 1)]) r_13_0 rfl rfl rfl ?_
  refine gx_gf (x := 4) 2 r_13_1 (rfl) (ty_1 hT) ⟨by decide, rfl, by decide, by decide⟩ rfl (fun _ => by omega) (pin_at hp (t := 4) rfl (by decide)) ?_
  refine gx_ci (nx := 7) (S2 := []) (x_252 hT) r_13_4 rfl rfl rfl rfl rfl (rcv_v rfl (ty_4 hT) (by decide) rfl (by decide)) rfl (by decide) rfl (fun x4 n4 q4 => ?_)
  obtain rfl := q4.1.symm
  obtain rfl := q4.2.symm
  show GX T 3 13 7 [(2, 1), (9, 0), (9, 0), (9, 0)] [(0, (if 0 < m 4 0 then 1 else 0))] m (RI (fun v m1 => (¬ 0 < m 4 0 → v = -2) ∧ (0 < m 4 0 → m 4 8 = 0 → v = 0) ∧ (0 < m 4 0 → ¬ m 4 8 = 0 → Bs nt (fun t => m 12 (7 * h + pl t) = -1) v)))
  refine gx_i0 (P := 0 < m 4 0) r_13_7 (b01_ne) (fun h7 => ?_) (fun h7 => ?_)
  · refine gx_st (L' := [(2, 1), (9, 0), (9, 0), (9, 0)]) (S' := [(2, 1)]) r_13_13 rfl rfl rfl ?_
    refine gx_gf (x := 4) 2 r_13_14 (rfl) (ty_1 hT) ⟨by decide, rfl, by decide, by decide⟩ rfl (fun _ => by omega) (pin_at hp (t := 4) rfl (by decide)) ?_
    refine gx_gf (x := (m 4 8)) 0 r_13_17 (rfl) (ty_4 hT) ⟨by decide, rfl, by decide, by decide⟩ rfl (fun z => absurd z (by decide)) (rfl) ?_
    refine gx_i0 (P := ¬ (m 4 8) = 0) r_13_20 (rfl) (fun h20 => ?_) (fun h20 => ?_)
    · obtain ⟨hb1, hb2⟩ := hb h20
      refine gx_st (L' := [(2, 1), (9, 0), (9, 0), (9, 0)]) (S' := [(2, 1)]) r_13_25 rfl rfl rfl ?_
      refine gx_gf (x := 4) 2 r_13_26 (rfl) (ty_1 hT) ⟨by decide, rfl, by decide, by decide⟩ rfl (fun _ => by omega) (pin_at hp (t := 4) rfl (by decide)) ?_
      refine gx_st (L' := [(2, 1), (9, 0), (9, 0), (9, 0)]) (S' := [(2, 1), (2, 4)]) r_13_29 rfl rfl rfl ?_
      refine gx_gf (x := 4) 2 r_13_30 (rfl) (ty_1 hT) ⟨by decide, rfl, by decide, by decide⟩ rfl (fun _ => by omega) (pin_at hp (t := 4) rfl (by decide)) ?_
      refine gx_st (L' := [(2, 1), (9, 0), (9, 0), (9, 0)]) (S' := [(0, 0), (2, 4), (2, 4)]) r_13_33 rfl rfl rfl ?_
      refine gx_ci (nx := 37) (S2 := [(2, 4)]) (z_258 hT hp (k := 0) (by decide)) r_13_34 rfl rfl rfl rfl rfl (rcv_v rfl (ty_4 hT) (by decide) rfl (by decide)) rfl (by decide) rfl (fun x34 n34 q34 => ?_)
      obtain ⟨e34, z34⟩ := q34
      obtain rfl := z34.symm
      rw [e34, hb1]
      show GX T 3 13 37 [(2, 1), (9, 0), (9, 0), (9, 0)] [(0, (h : Int)), (2, 4)] m (RI (fun v m1 => (¬ 0 < m 4 0 → v = -2) ∧ (0 < m 4 0 → m 4 8 = 0 → v = 0) ∧ (0 < m 4 0 → ¬ m 4 8 = 0 → Bs nt (fun t => m 12 (7 * h + pl t) = -1) v)))
      refine gx_ci (nx := 40) (S2 := []) (z_260 hT hp (a := h) (n := n) (by omega) hn hn7) r_13_37 rfl rfl rfl rfl rfl (rcv_v rfl (ty_4 hT) (by decide) rfl (by decide)) rfl (by decide) rfl (fun x37 n37 q37 => ?_)
      obtain ⟨hB, z37⟩ := q37
      obtain rfl := z37.symm
      show GX T 3 13 40 [(2, 1), (9, 0), (9, 0), (9, 0)] [(0, x37)] m (RI (fun v m1 => (¬ 0 < m 4 0 → v = -2) ∧ (0 < m 4 0 → m 4 8 = 0 → v = 0) ∧ (0 < m 4 0 → ¬ m 4 8 = 0 → Bs nt (fun t => m 12 (7 * h + pl t) = -1) v)))
      refine gx_st (L' := [(2, 1), (0, x37), (9, 0), (9, 0)]) (S' := []) r_13_40 rfl rfl rfl ?_
      refine gx_st (L' := [(2, 1), (0, x37), (9, 0), (9, 0)]) (S' := [(0, 0)]) r_13_41 rfl rfl rfl ?_
      refine gx_st (L' := [(2, 1), (0, x37), (0, 0), (9, 0)]) (S' := []) r_13_42 rfl rfl rfl ?_
      refine gx_st (L' := [(2, 1), (0, x37), (0, 0), (9, 0)]) (S' := [(0, 0)]) r_13_43 rfl rfl rfl ?_
      refine gx_st (L' := [(2, 1), (0, x37), (0, 0), (0, 0)]) (S' := []) r_13_44 rfl rfl rfl ?_
      exact gx_imp (lo_l hT hp hn7 ht ht5 hpl hB (nt + 1) 0 0 (by omega) (by omega) Bs_0) (fun v m1 ⟨x, e, p, q⟩ => ⟨x, e, fun z => absurd h7 z, fun z z2 => absurd z2 h20, fun z z2 => p⟩)
    · have h20 := Decidable.not_not.mp h20
      refine gx_st (L' := [(2, 1), (9, 0), (9, 0), (9, 0)]) (S' := [(0, 0)]) r_13_23 rfl rfl rfl ?_
      exact gx_rt r_13_24 rfl rfl ⟨_, rfl, fun z => absurd h7 z, fun z z2 => rfl, fun z z2 => absurd h20 z2⟩
  · refine gx_st (L' := [(2, 1), (9, 0), (9, 0), (9, 0)]) (S' := [(0, (-2))]) r_13_10 rfl rfl rfl ?_
    exact gx_rt r_13_12 rfl rfl ⟨_, rfl, fun z => rfl, fun z => absurd z h7, fun z => absurd z h7⟩
theorem lr_l (hT : TT T) (hm : Gam m) (hp : PinR m) {h n nt : Nat} {pl : Nat → Nat} (hn7 : n ≤ 7) (ht : m 193 5 = (nt : Int)) (ht5 : nt ≤ 5) (hpl : ∀ t : Nat, t < nt → m 193 (31 + 2 * t) = (pl t : Int) ∧ pl t < n) (hb : 0 < m 193 7 → m 193 47 = (h : Int) ∧ h < n) : ∀ (N k : Nat) (c : Int), nt - k < N → k ≤ nt → Bs k (fun t => ¬ m 199 (7 * h + pl t) < FAR) c → (m 193 7 ≤ 0 → c = 0) → GX T 3 130 18 [(2, 192), (0, c), (0, (k : Int))] [] m (RI (fun v m1 => (m 193 7 ≤ 0 → v = 0) ∧ (0 < m 193 7 → Bs nt (fun t => ¬ m 199 (7 * h + pl t) < FAR) v) ∧ m1 = m)) := by
  intro N
  induction N with
  | zero => intro k c hN; exact absurd hN (Nat.not_lt_zero _)
  | succ N ih =>
    intro k c hN hk hB hz
    refine gx_st (L' := [(2, 192), (0, c), (0, (k : Int))]) (S' := [(0, (k : Int))]) r_130_18 rfl rfl rfl ?_
    refine gx_st (L' := [(2, 192), (0, c), (0, (k : Int))]) (S' := [(2, 192), (0, (k : Int))]) r_130_19 rfl rfl rfl ?_
    refine gx_gf (x := 193) 2 r_130_20 (rfl) (ty_192 hT) ⟨by decide, rfl, by decide, by decide⟩ rfl (fun _ => by omega) (pin_at hp (t := 193) rfl (by decide)) ?_
    refine gx_st (L' := [(2, 192), (0, c), (0, (k : Int))]) (S' := [(0, 5), (2, 193), (0, (k : Int))]) r_130_23 rfl rfl rfl ?_
    refine gx_ia (n := 5) (x := (nt : Int)) r_130_24 (rfl) (ty_193 hT) (rfl) ⟨rfl, by decide⟩ (ht) ?_
    refine gx_ic (P := (nt : Int) ≤ (k : Int)) r_130_25 (rfl) (fun h25 => ?_) (fun h25 => ?_)
    · refine gx_st (L' := [(2, 192), (0, c), (0, (k : Int))]) (S' := [(0, c)]) r_130_73 rfl rfl rfl ?_
      by_cases hk2 : k = nt
      · rw [hk2] at hB
        exact gx_rt r_130_74 rfl rfl ⟨_, rfl, hz, fun _ => hB, rfl⟩
      · exact gx_rt r_130_74 rfl rfl ⟨_, rfl, hz, fun z => (by exfalso; omega), rfl⟩
    · refine gx_st (L' := [(2, 192), (0, c), (0, (k : Int))]) (S' := [(2, 192)]) r_130_28 rfl rfl rfl ?_
      refine gx_gf (x := 193) 2 r_130_29 (rfl) (ty_192 hT) ⟨by decide, rfl, by decide, by decide⟩ rfl (fun _ => by omega) (pin_at hp (t := 193) rfl (by decide)) ?_
      refine gx_st (L' := [(2, 192), (0, c), (0, (k : Int))]) (S' := [(0, 7), (2, 193)]) r_130_32 rfl rfl rfl ?_
      refine gx_ia (n := 7) (x := (m 193 7)) r_130_34 (rfl) (ty_193 hT) (rfl) ⟨rfl, by decide⟩ (rfl) ?_
      refine gx_i0 (P := (m 193 7) ≤ 0) r_130_35 (rfl) (fun h35 => ?_) (fun h35 => ?_)
      · refine gx_st (L' := [(2, 192), (0, c), (0, (k : Int))]) (S' := [(0, c)]) r_130_73 rfl rfl rfl ?_
        by_cases hk2 : k = nt
        · rw [hk2] at hB
          exact gx_rt r_130_74 rfl rfl ⟨_, rfl, hz, fun _ => hB, rfl⟩
        · exact gx_rt r_130_74 rfl rfl ⟨_, rfl, hz, fun z => (by exfalso; omega), rfl⟩
      · obtain ⟨hb1, hb2⟩ := hb (by omega)
        obtain ⟨pe, pn⟩ := hpl k (by omega)
        obtain ⟨pk, h_pk⟩ : ∃ p, p = pl k := ⟨_, rfl⟩
        rw [← h_pk] at pe pn
        refine gx_st (L' := [(2, 192), (0, c), (0, (k : Int))]) (S' := [(0, c)]) r_130_38 rfl rfl rfl ?_
        refine gx_st (L' := [(2, 192), (0, c), (0, (k : Int))]) (S' := [(2, 192), (0, c)]) r_130_39 rfl rfl rfl ?_
        refine gx_st (L' := [(2, 192), (0, c), (0, (k : Int))]) (S' := [(2, 192), (2, 192), (0, c)]) r_130_40 rfl rfl rfl ?_
        refine gx_st (L' := [(2, 192), (0, c), (0, (k : Int))]) (S' := [(0, 0), (2, 192), (2, 192), (0, c)]) r_130_41 rfl rfl rfl ?_
        refine gx_ci (nx := 45) (S2 := [(2, 192), (0, c)]) (x_99 hT hm (k := 0) (by decide)) r_130_42 rfl rfl rfl rfl rfl (rcv_v rfl (ty_192 hT) (by decide) rfl (by decide)) rfl (by decide) rfl (fun x42 n42 q42 => ?_)
        obtain ⟨e42, z42⟩ := q42
        obtain rfl := z42.symm
        rw [e42, show m 193 (47 + 2 * 0) = (h : Int) from hb1]
        show GX T 3 130 45 [(2, 192), (0, c), (0, (k : Int))] [(0, (h : Int)), (2, 192), (0, c)] m (RI (fun v m1 => (m 193 7 ≤ 0 → v = 0) ∧ (0 < m 193 7 → Bs nt (fun t => ¬ m 199 (7 * h + pl t) < FAR) v) ∧ m1 = m))
        refine gx_st (L' := [(2, 192), (0, c), (0, (k : Int))]) (S' := [(2, 192), (0, (h : Int)), (2, 192), (0, c)]) r_130_45 rfl rfl rfl ?_
        refine gx_st (L' := [(2, 192), (0, c), (0, (k : Int))]) (S' := [(0, (k : Int)), (2, 192), (0, (h : Int)), (2, 192), (0, c)]) r_130_46 rfl rfl rfl ?_
        refine gx_ci (nx := 50) (S2 := [(0, (h : Int)), (2, 192), (0, c)]) (x_97 hT hm (k := k) (by omega)) r_130_47 rfl rfl rfl rfl rfl (rcv_v rfl (ty_192 hT) (by decide) rfl (by decide)) rfl (by decide) rfl (fun x47 n47 q47 => ?_)
        obtain ⟨e47, z47⟩ := q47
        obtain rfl := z47.symm
        rw [e47, pe]
        show GX T 3 130 50 [(2, 192), (0, c), (0, (k : Int))] [(0, (pk : Int)), (0, (h : Int)), (2, 192), (0, c)] m (RI (fun v m1 => (m 193 7 ≤ 0 → v = 0) ∧ (0 < m 193 7 → Bs nt (fun t => ¬ m 199 (7 * h + pl t) < FAR) v) ∧ m1 = m))
        refine gx_ci (nx := 53) (S2 := [(0, c)]) (x_123 hT hm (a := h) (b := pk) (by omega) (by omega)) r_130_50 rfl rfl rfl rfl rfl (rcv_v rfl (ty_192 hT) (by decide) rfl (by decide)) rfl (by decide) rfl (fun x50 n50 q50 => ?_)
        obtain rfl := q50.1.symm
        obtain rfl := q50.2.symm
        show GX T 3 130 53 [(2, 192), (0, c), (0, (k : Int))] [(0, (m 199 (7 * h + pk))), (0, c)] m (RI (fun v m1 => (m 193 7 ≤ 0 → v = 0) ∧ (0 < m 193 7 → Bs nt (fun t => ¬ m 199 (7 * h + pl t) < FAR) v) ∧ m1 = m))
        refine gx_st (L' := [(2, 192), (0, c), (0, (k : Int))]) (S' := [(0, 1000000000), (0, (m 199 (7 * h + pk))), (0, c)]) r_130_53 rfl rfl rfl ?_
        refine gx_ic (P := (m 199 (7 * h + pk)) < 1000000000) r_130_55 (rfl) (fun h55 => ?_) (fun h55 => ?_)
        · refine gx_st (L' := [(2, 192), (0, c), (0, (k : Int))]) (S' := [(0, 0), (0, c)]) r_130_64 rfl rfl rfl ?_
          refine gx_st (L' := [(2, 192), (0, c), (0, (k : Int))]) (S' := [(0, (ior c 0))]) r_130_65 rfl rfl rfl ?_
          refine gx_st (L' := [(2, 192), (0, (ior c 0)), (0, (k : Int))]) (S' := []) r_130_66 rfl rfl rfl ?_
          refine gx_li (z := (k : Int) + 1) (L' := [(2, 192), (0, (ior c 0)), (0, (k : Int) + 1)]) r_130_67 rfl (w32_eq (by omega) (by omega) (by omega)) rfl ?_
          refine gx_st (L' := [(2, 192), (0, (ior c 0)), (0, (k : Int) + 1)]) (S' := []) r_130_70 rfl rfl rfl ?_
          rw [show (k : Int) + 1 = ((k + 1 : Nat) : Int) from rfl]
          rw [Bs_or0 hB]
          exact ih (k + 1) c (by omega) (by omega) (Bs_no hB (by rw [← h_pk]; unfold FAR; omega)) (fun z => absurd z (by omega))
        · refine gx_st (L' := [(2, 192), (0, c), (0, (k : Int))]) (S' := [(0, 1), (0, c)]) r_130_58 rfl rfl rfl ?_
          refine gx_st (L' := [(2, 192), (0, c), (0, (k : Int))]) (S' := [(0, (k : Int)), (0, 1), (0, c)]) r_130_59 rfl rfl rfl ?_
          refine gx_st (L' := [(2, 192), (0, c), (0, (k : Int))]) (S' := [(0, (ishl 1 (k : Int))), (0, c)]) r_130_60 rfl rfl rfl ?_
          refine gx_st (L' := [(2, 192), (0, c), (0, (k : Int))]) (S' := [(0, (ishl 1 (k : Int))), (0, c)]) r_130_61 rfl rfl rfl ?_
          refine gx_st (L' := [(2, 192), (0, c), (0, (k : Int))]) (S' := [(0, (ior c ((ishl 1 (k : Int)))))]) r_130_65 rfl rfl rfl ?_
          refine gx_st (L' := [(2, 192), (0, (ior c ((ishl 1 (k : Int))))), (0, (k : Int))]) (S' := []) r_130_66 rfl rfl rfl ?_
          refine gx_li (z := (k : Int) + 1) (L' := [(2, 192), (0, (ior c ((ishl 1 (k : Int))))), (0, (k : Int) + 1)]) r_130_67 rfl (w32_eq (by omega) (by omega) (by omega)) rfl ?_
          refine gx_st (L' := [(2, 192), (0, (ior c ((ishl 1 (k : Int))))), (0, (k : Int) + 1)]) (S' := []) r_130_70 rfl rfl rfl ?_
          rw [show (k : Int) + 1 = ((k + 1 : Nat) : Int) from rfl]
          exact ih (k + 1) ((ior c ((ishl 1 (k : Int))))) (by omega) (by omega) (Bs_set (by omega) hB (by rw [← h_pk]; unfold FAR; omega)) (fun z => absurd z (by omega))
theorem y_130 (hT : TT T) (hm : Gam m) (hx : Ext m) (hp : PinR m) {h n nt : Nat} {pl : Nat → Nat} (hn7 : n ≤ 7) (ht : m 193 5 = (nt : Int)) (ht5 : nt ≤ 5) (hpl : ∀ t : Nat, t < nt → m 193 (31 + 2 * t) = (pl t : Int) ∧ pl t < n) (hb : 0 < m 193 7 → m 193 47 = (h : Int) ∧ h < n) : GX T 3 130 0 [(2, 192), (9, 0), (9, 0)] [] m (RI (fun v m1 => (¬ 0 < m 193 9 → v = -2) ∧ (0 < m 193 9 → Fr [97999] m m1 ∧ FS m1 ∧ (m 193 7 ≤ 0 → v = 0) ∧ (0 < m 193 7 → Bs nt (fun t => ¬ m1 199 (7 * h + pl t) < FAR) v)))) := by
  refine gx_st (L' := [(2, 192), (9, 0), (9, 0)]) (S' := [(2, 192)]) r_130_0 rfl rfl rfl ?_
  refine gx_ci (nx := 4) (S2 := []) (x_90 hT hm) r_130_1 rfl rfl rfl rfl rfl (rcv_v rfl (ty_192 hT) (by decide) rfl (by decide)) rfl (by decide) rfl (fun x1 n1 q1 => ?_)
  obtain rfl := q1.1.symm
  obtain rfl := q1.2.symm
  show GX T 3 130 4 [(2, 192), (9, 0), (9, 0)] [(0, (if 0 < m 193 9 then 1 else 0))] m (RI (fun v m1 => (¬ 0 < m 193 9 → v = -2) ∧ (0 < m 193 9 → Fr [97999] m m1 ∧ FS m1 ∧ (m 193 7 ≤ 0 → v = 0) ∧ (0 < m 193 7 → Bs nt (fun t => ¬ m1 199 (7 * h + pl t) < FAR) v))))
  refine gx_i0 (P := 0 < m 193 9) r_130_4 (b01_ne) (fun h4 => ?_) (fun h4 => ?_)
  · refine gx_st (L' := [(2, 192), (9, 0), (9, 0)]) (S' := [(2, 192)]) r_130_10 rfl rfl rfl ?_
    refine gx_cv (nx := 14) (S2 := []) (x_124 hT hm hx) r_130_11 rfl rfl rfl rfl rfl (rcv_v rfl (ty_192 hT) (by decide) rfl (by decide)) rfl (by decide) rfl (fun n11 q11 => ?_)
    have pp : PinR n11 := PinR_fr q11.2.2.1 (by decide) hp
    have e1 : n11 193 = m 193 := funext fun i => q11.2.2.1 193 i rfl
    refine gx_st (L' := [(2, 192), (9, 0), (9, 0)]) (S' := [(0, 0)]) r_130_14 rfl rfl rfl ?_
    refine gx_st (L' := [(2, 192), (0, 0), (9, 0)]) (S' := []) r_130_15 rfl rfl rfl ?_
    refine gx_st (L' := [(2, 192), (0, 0), (9, 0)]) (S' := [(0, 0)]) r_130_16 rfl rfl rfl ?_
    refine gx_st (L' := [(2, 192), (0, 0), (0, 0)]) (S' := []) r_130_17 rfl rfl rfl ?_
    refine gx_imp (lr_l hT q11.1 pp (h := h) (n := n) (nt := nt) (pl := pl) hn7 (by rw [e1]; exact ht) ht5 (by rw [e1]; exact hpl) (by rw [e1]; exact hb) (nt + 1) 0 0 (by omega) (by omega) Bs_0 (fun _ => rfl)) (fun v m1 ⟨x, e, p, p2, q⟩ => ?_)
    subst q
    rw [e1] at p p2
    exact ⟨x, e, fun z => absurd h4 z, fun _ => ⟨q11.2.2.1, q11.2.2.2, p, p2⟩⟩
  · refine gx_st (L' := [(2, 192), (9, 0), (9, 0)]) (S' := [(0, (-2))]) r_130_7 rfl rfl rfl ?_
    exact gx_rt r_130_9 rfl rfl ⟨_, rfl, fun z => rfl, fun z => absurd z h4⟩
end LONE
/-- what lone needs to know -/
theorem wa_pl {m : Mm} (hm : Gam m) (r : WX m) : ∃ (h n nt : Nat) (pl : Nat → Nat), n ≤ 7 ∧ m 4 1 = (n : Int) ∧ m 193 0 = (n : Int) ∧ m 4 6 = (nt : Int) ∧ m 193 5 = (nt : Int) ∧ nt ≤ 5 ∧ (∀ t : Nat, t < nt → m 5 t = (pl t : Int) ∧ pl t < n) ∧ (∀ t : Nat, t < nt → m 193 (31 + 2 * t) = (pl t : Int) ∧ pl t < n) ∧ (¬ m 4 8 = 0 → m 9 0 = (h : Int) ∧ h < n) ∧ (0 < m 193 7 → m 193 47 = (h : Int) ∧ h < n) := by
  have b0 := gb_193_0 hm
  have b5 := gb_193_5 hm
  have b7 := gb_193_7 hm
  obtain ⟨⟨hd, -, -, u1, -, u3⟩, -, -⟩ := r
  have e41 : m 4 1 = m 193 0 := hd.2.1
  have e46 : m 4 6 = m 193 5 := hd.2.2.2.2.2.2.1
  have e48 : m 4 8 = m 193 7 := hd.2.2.2.2.2.2.2.2.1
  have p : ∀ t : Nat, t < (m 193 5).toNat → m 193 (31 + 2 * t) = (((m 193 (31 + 2 * t)).toNat : Nat) : Int) ∧ (m 193 (31 + 2 * t)).toNat < (m 193 0).toNat := fun t ht => by
    have := u1 t (by omega) (by omega)
    exact ⟨by omega, by omega⟩
  have q : 0 < m 193 7 → m 193 47 = (((m 193 47).toNat : Nat) : Int) ∧ (m 193 47).toNat < (m 193 0).toNat := fun z => by
    have h1 := u3 0 (by decide) (by omega)
    have h2 : 0 ≤ m 193 47 ∧ m 193 47 < m 193 0 := ⟨h1.1, h1.2.1⟩
    exact ⟨by omega, by omega⟩
  refine ⟨(m 193 47).toNat, (m 193 0).toNat, (m 193 5).toNat, fun t => (m 193 (31 + 2 * t)).toNat, by omega, by omega, by omega, by omega, by omega, by omega, fun t ht => ?_, p, fun z => ?_, q⟩
  · have h1 := (hd.2.2.2.2.2.2.2.2.2.2.1 t (by omega) (by omega)).1
    exact ⟨h1.trans (p t ht).1, (p t ht).2⟩
  · have h1 := (hd.2.2.2.2.2.2.2.2.2.2.2.2.1 0 (by decide) (by omega)).1
    have h2 : m 9 0 = m 193 47 := h1
    have z2 := q (by omega)
    exact ⟨h2.trans z2.1, z2.2⟩
theorem q_13 {m m1 m2 : Mm} {v1 v2 : Int} {h n nt : Nat} {pl : Nat → Nat} (hm : Gam m) (r : WX m) (hn : m 193 0 = (n : Int)) (ht5 : nt ≤ 5) (hpl : ∀ t : Nat, t < nt → m 193 (31 + 2 * t) = (pl t : Int) ∧ pl t < n) (hb : 0 < m 193 7 → m 193 47 = (h : Int) ∧ h < n) (e : ∀ i : Nat, m1 193 i = m 193 i) (h1 : (¬ 0 < m 4 0 → v1 = -2) ∧ (0 < m 4 0 → m 4 8 = 0 → v1 = 0) ∧ (0 < m 4 0 → ¬ m 4 8 = 0 → Bs nt (fun t => m 12 (7 * h + pl t) = -1) v1)) (h2 : (¬ 0 < m1 193 9 → v2 = -2) ∧ (0 < m1 193 9 → Fr [97999] m1 m2 ∧ FS m2 ∧ (m1 193 7 ≤ 0 → v2 = 0) ∧ (0 < m1 193 7 → Bs nt (fun t => ¬ m2 199 (7 * h + pl t) < FAR) v2))) : v1 = v2 := by
  have b7 := gb_193_7 hm
  have e40 : m 4 0 = m 193 9 := r.1.1.1
  have e48 : m 4 8 = m 193 7 := r.1.1.2.2.2.2.2.2.2.2.1
  rw [e 9, e 7] at h2
  by_cases c : 0 < m 4 0
  · obtain ⟨f, s, g1, g2⟩ := h2.2 (by omega)
    have e2 : m2 193 = m 193 := funext fun i => (f 193 i rfl).trans (e i)
    unfold FS at s
    rw [e2] at s
    by_cases d : m 4 8 = 0
    · rw [h1.2.1 c d, g1 (by omega)]
    · have hb1 := hb (by omega)
      refine Bs_eq (h1.2.2 c d) (g2 (by omega)) (fun q hq => and_congr_right (fun hqn => ?_))
      have w := r.1.2.2.1 _ s h (pl q) (by omega) (by have := (hpl q hqn).2; omega)
      have w1 : m 12 (7 * h + pl q) = if m2 199 (7 * h + pl q) < FAR then m2 199 (7 * h + pl q) else -1 := w
      have hA := wb_adj r.1.2.1 hn
      have h7 := hA.1
      rw [hn] at s
      have nn := wy_nn s (a := h) (b := pl q) (by omega) (by have := (hpl q hqn).2; omega)
      have n1 : 0 ≤ m2 199 (7 * h + pl q) := nn
      show m 12 (7 * h + pl q) = -1 ↔ ¬ m2 199 (7 * h + pl q) < FAR
      rw [w1]
      by_cases y : m2 199 (7 * h + pl q) < FAR
      · rw [if_pos y]
        exact ⟨fun z => absurd z (by omega), fun z => absurd y z⟩
      · rw [if_neg y]
        exact ⟨fun _ => y, fun _ => rfl⟩
  · rw [h1.1 c, h2.1 (by omega)]
