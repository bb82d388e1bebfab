/-! the reference's searches exactly -/
theorem r_136_0 : row 136 0 = some (.iconst 0, 1, 0, 0, 0, 0) := rfl
theorem r_136_1 : row 136 1 = some (.istore_n 3, 2, 0, 0, 0, 0) := rfl
theorem r_136_2 : row 136 2 = some (.iload_n 3, 3, 0, 0, 0, 0) := rfl
theorem r_136_3 : row 136 3 = some (.aload_n 0, 4, 0, 0, 0, 0) := rfl
theorem r_136_4 : row 136 4 = some (.getfield 9, 7, 10, 1, 2, 6002) := rfl
theorem r_136_7 : row 136 7 = some (.bipush 6, 9, 6, 0, 0, 0) := rfl
theorem r_136_9 : row 136 9 = some (.iaload, 10, 0, 0, 0, 0) := rfl
theorem r_136_10 : row 136 10 = some (.if_icmp .ge 63, 13, 73, 0, 0, 0) := rfl
theorem r_136_13 : row 136 13 = some (.iload_n 3, 14, 0, 0, 0, 0) := rfl
theorem r_136_14 : row 136 14 = some (.aload_n 0, 15, 0, 0, 0, 0) := rfl
theorem r_136_15 : row 136 15 = some (.getfield 266, 18, 10, 24, 0, 6025) := rfl
theorem r_136_18 : row 136 18 = some (.if_icmp .eq 49, 21, 67, 0, 0, 0) := rfl
theorem r_136_21 : row 136 21 = some (.aload_n 0, 22, 0, 0, 0, 0) := rfl
theorem r_136_22 : row 136 22 = some (.iload_n 3, 23, 0, 0, 0, 0) := rfl
theorem r_136_23 : row 136 23 = some (.invokevirtual 269, 26, 98, 1, 0, 7118) := rfl
theorem r_136_26 : row 136 26 = some (.aload_n 0, 27, 0, 0, 0, 0) := rfl
theorem r_136_27 : row 136 27 = some (.iload_n 1, 28, 0, 0, 0, 0) := rfl
theorem r_136_28 : row 136 28 = some (.iconst 0, 29, 0, 0, 0, 0) := rfl
theorem r_136_29 : row 136 29 = some (.invokevirtual 263, 32, 131, 2, 0, 7110) := rfl
theorem r_136_32 : row 136 32 = some (.if_icmp .ne 35, 35, 67, 0, 0, 0) := rfl
theorem r_136_35 : row 136 35 = some (.aload_n 0, 36, 0, 0, 0, 0) := rfl
theorem r_136_36 : row 136 36 = some (.getfield 9, 39, 10, 1, 2, 6002) := rfl
theorem r_136_39 : row 136 39 = some (.bipush 41, 41, 41, 0, 0, 0) := rfl
theorem r_136_41 : row 136 41 = some (.iconst 2, 42, 2, 0, 0, 0) := rfl
theorem r_136_42 : row 136 42 = some (.iload_n 3, 43, 0, 0, 0, 0) := rfl
theorem r_136_43 : row 136 43 = some (.imul, 44, 0, 0, 0, 0) := rfl
theorem r_136_44 : row 136 44 = some (.iadd, 45, 0, 0, 0, 0) := rfl
theorem r_136_45 : row 136 45 = some (.iconst 1, 46, 1, 0, 0, 0) := rfl
theorem r_136_46 : row 136 46 = some (.iadd, 47, 0, 0, 0, 0) := rfl
theorem r_136_47 : row 136 47 = some (.iaload, 48, 0, 0, 0, 0) := rfl
theorem r_136_48 : row 136 48 = some (.iload_n 2, 49, 0, 0, 0, 0) := rfl
theorem r_136_49 : row 136 49 = some (.if_icmp .gt 18, 52, 67, 0, 0, 0) := rfl
theorem r_136_52 : row 136 52 = some (.aload_n 0, 53, 0, 0, 0, 0) := rfl
theorem r_136_53 : row 136 53 = some (.iload_n 1, 54, 0, 0, 0, 0) := rfl
theorem r_136_54 : row 136 54 = some (.iconst 4, 55, 4, 0, 0, 0) := rfl
theorem r_136_55 : row 136 55 = some (.invokevirtual 263, 58, 131, 2, 0, 7110) := rfl
theorem r_136_58 : row 136 58 = some (.iload_n 3, 59, 0, 0, 0, 0) := rfl
theorem r_136_59 : row 136 59 = some (.invokestatic 272, 62, 87, 2, 0, 7122) := rfl
theorem r_136_62 : row 136 62 = some (.ifCond .ne 5, 65, 67, 0, 0, 0) := rfl
theorem r_136_65 : row 136 65 = some (.iload_n 3, 66, 0, 0, 0, 0) := rfl
theorem r_136_66 : row 136 66 = some (.ireturn, 67, 0, 0, 0, 0) := rfl
theorem r_136_67 : row 136 67 = some (.iinc 3 1, 70, 0, 0, 0, 0) := rfl
theorem r_136_70 : row 136 70 = some (.goto (-68), 73, 2, 0, 0, 0) := rfl
theorem r_136_73 : row 136 73 = some (.iconst (-1), 74, (-1), 0, 0, 0) := rfl
theorem r_136_74 : row 136 74 = some (.ireturn, 75, 0, 0, 0, 0) := rfl
theorem iand_1 (z : Int) : iand z 1 = z % 2 := by
  show (BitVec.ofInt 32 z &&& BitVec.ofInt 32 1).toInt = z % 2
  have h1 : (BitVec.ofInt 32 z &&& BitVec.ofInt 32 1).toNat = (z % 4294967296).toNat % 2 := by
    rw [BitVec.toNat_and, BitVec.toNat_ofInt, show (BitVec.ofInt 32 1).toNat = 2 ^ 1 - 1 from rfl, Nat.and_two_pow_sub_one_eq_mod]
    rfl
  rw [BitVec.toInt_eq_toNat_cond, h1, if_pos (by omega)]
  omega
theorem iand_01 (z : Int) : iand z 1 = 0 ↔ ¬ iand z 1 = 1 := by rw [iand_1]; omega
/-- the reference's world is w: what a question takes away or puts in its place is reckoned in; nt: the tree that is taken away -/
def EW (nt : Int) (m : Mm) (w : Wd) : Prop := (∀ i : Nat, i < 10 → ¬ i = 2 → ¬ i = 8 → m 193 i = w i) ∧ (if m 192 26 = 0 then m 193 2 else m 192 26) = w 2 ∧ ior (m 193 10) (m 192 25) = w 10 ∧ (∀ t : Nat, t < 5 → m 193 (31 + 2 * t) = w (31 + 2 * t)) ∧ m 192 23 = nt ∧ (∀ t : Nat, t < 5 → ¬ (t : Int) = nt → m 193 (32 + 2 * t) = w (32 + 2 * t)) ∧ (∀ t : Nat, t < 5 → (t : Int) = nt → w (32 + 2 * t) = 0) ∧ (∀ v : Nat, v < 3 → m 193 (41 + 2 * v) = w (41 + 2 * v) ∧ (¬ (v : Int) = m 192 24 → m 193 (42 + 2 * v) = w (42 + 2 * v)) ∧ ((v : Int) = m 192 24 → 12 < w (42 + 2 * v))) ∧ ∀ b : Nat, b < 5 → m 193 (47 + 2 * b) = w (47 + 2 * b) ∧ (if (b : Int) = m 192 27 then m 192 28 else m 193 (48 + 2 * b)) = w (48 + 2 * b)
theorem ew_e {nt : Int} {m m1 : Mm} {w : Wd} (h : EW nt m w) (e1 : ∀ i : Nat, m1 193 i = m 193 i) (e2 : ∀ i : Nat, 23 ≤ i → i ≤ 28 → m1 192 i = m 192 i) : EW nt m1 w := by
  obtain ⟨a0, a1, a2, a3, a4, a5, a6, a7, a8⟩ := h
  refine ⟨fun i x y z => by rw [e1]; exact a0 i x y z, by rw [e1, e2 26 (by decide) (by decide)]; exact a1, by rw [e1, e2 25 (by decide) (by decide)]; exact a2, fun t ht => by rw [e1]; exact a3 t ht, by rw [e2 23 (by decide) (by decide)]; exact a4, fun t ht x => by rw [e1]; exact a5 t ht x, a6, fun v hv => ?_, fun b hb => ?_⟩
  · rw [e1, e1, e2 24 (by decide) (by decide)]; exact a7 v hv
  · rw [e1, e1, e2 27 (by decide) (by decide), e2 28 (by decide) (by decide)]; exact a8 b hb
/-- row h of the reference's states is s, but for the hours that he is drunk yet -/
def RowW (nt : Int) (m : Mm) (h : Nat) (s : Wd) : Prop := (∀ k : Nat, k < 6 → ¬ k = 3 → m 200 (16 * h + k) = s k) ∧ (∀ b : Nat, b < 5 → m 200 (16 * h + (6 + b)) = s (6 + b)) ∧ ∀ t : Nat, t < 5 → ¬ (t : Int) = nt → m 200 (16 * h + (11 + t)) = s (11 + t)
/-- row h of the reference's states is s: it counts the hours that he is drunk yet -/
def RowR (nt : Int) (m : Mm) (h : Nat) (s : Wd) : Prop := RowW nt m h s ∧ (¬ s 1 = -1 → m 200 (16 * h + 3) = max 0 (s 3 - (h : Int)))
theorem roww_e {nt : Int} {m m1 : Mm} {h : Nat} {s : Wd} (r : RowW nt m h s) (e : ∀ i : Nat, 16 * h ≤ i → i < 16 * h + 16 → m1 200 i = m 200 i) : RowW nt m1 h s := by
  obtain ⟨a, c, d⟩ := r
  exact ⟨fun k hk h3 => (e _ (by omega) (by omega)).trans (a k hk h3), fun q hq => (e _ (by omega) (by omega)).trans (c q hq), fun t ht hn => (e _ (by omega) (by omega)).trans (d t ht hn)⟩
theorem row_e {nt : Int} {m m1 : Mm} {h : Nat} {s : Wd} (r : RowR nt m h s) (e : ∀ i : Nat, 16 * h ≤ i → i < 16 * h + 16 → m1 200 i = m 200 i) : RowR nt m1 h s := ⟨roww_e r.1 e, fun h1 => (e _ (by omega) (by omega)).trans (r.2 h1)⟩
theorem roww_f {nt : Int} {m : Mm} {n i k : Nat} {s : Wd} {x : Int} (r : RowW nt m n s) (hk : k < 6) (hi : i = 16 * n + k) : RowW nt (nu_up m 200 i x) n (upw s k x) := by
  obtain ⟨a, c, d⟩ := r
  refine ⟨fun q hq h3 => ?_, fun q hq => ?_, fun t ht hn => ?_⟩
  · by_cases e : q = k
    · rw [e, hi, nu_at, upw_at]
    · rw [nu_ne (by omega), upw_ne e]; exact a q hq h3
  · rw [nu_ne (by omega), upw_ne (by omega)]; exact c q hq
  · rw [nu_ne (by omega), upw_ne (by omega)]; exact d t ht hn
theorem roww_t {nt : Int} {m : Mm} {n i b2 : Nat} {s : Wd} {x : Int} (r : RowW nt m n s) (hb : b2 < 5) (hi : i = 16 * n + (6 + b2)) : RowW nt (nu_up m 200 i x) n (upw s (6 + b2) x) := by
  obtain ⟨a, c, d⟩ := r
  refine ⟨fun q hq h3 => ?_, fun q hq => ?_, fun t ht hn => ?_⟩
  · rw [nu_ne (by omega), upw_ne (by omega)]; exact a q hq h3
  · by_cases e : q = b2
    · rw [e, hi, nu_at, upw_at]
    · rw [nu_ne (by omega), upw_ne (by omega)]; exact c q hq
  · rw [nu_ne (by omega), upw_ne (by omega)]; exact d t ht hn
theorem roww_u {nt : Int} {m : Mm} {n i t2 : Nat} {s : Wd} {x : Int} (r : RowW nt m n s) (hb : t2 < 5) (hi : i = 16 * n + (11 + t2)) : RowW nt (nu_up m 200 i x) n (upw s (11 + t2) x) := by
  obtain ⟨a, c, d⟩ := r
  refine ⟨fun q hq h3 => ?_, fun q hq => ?_, fun t ht hn => ?_⟩
  · rw [nu_ne (by omega), upw_ne (by omega)]; exact a q hq h3
  · rw [nu_ne (by omega), upw_ne (by omega)]; exact c q hq
  · by_cases e : t = t2
    · rw [e, hi, nu_at, upw_at]
    · rw [nu_ne (by omega), upw_ne (by omega)]; exact d t ht hn
/-- a first state and its row agree on trees that are not taken away; those that are bear nothing -/
def NtS (nt : Int) (w s : Wd) : Prop := ∀ t : Nat, (t : Int) = nt → (t : Int) < w 5 → s (11 + t) = 0
theorem can_thr {w s : Wd} {D : Nat → Nat → Int} {h a : Int} {p : Nat} (hb : ¬ s 1 = -1) (hp : s 0 = (p : Int)) (ha : a = 2) (h1 : h < s 3) : canF w D h a s = true ↔ iand (ishr (w 10) (p : Int)) 1 = 1 := by
  unfold canF
  rw [if_neg hb, if_neg (by omega), if_neg (by omega), if_neg (fun z => z h1), if_pos ha, nat_of hp, bitF_i]
theorem can_car {w s : Wd} {D : Nat → Nat → Int} {h a : Int} {p e : Nat} (hb : ¬ s 1 = -1) (hp : s 0 = (p : Int)) (ha : a = 10 + (e : Int)) (h1 : h < s 3) : canF w D h a s = true ↔ D p e = 1 := by
  unfold canF
  rw [if_neg hb, if_neg (by omega), if_neg (by omega), if_neg (fun z => z h1), if_neg (by omega), nat_of hp, nat_of (x := a - 10) (b := e) (by omega), decide_eq_true (p := 10 ≤ a) (by omega), Bool.true_and, decide_eq_true_eq]
theorem can_dr {w s : Wd} {D : Nat → Nat → Int} {h a : Int} (hc : canF w D h a s = true) (ha : ¬ a = 1) : h < s 3 := by
  by_cases c : h < s 3
  · exact c
  · unfold canF at hc
    by_cases c1 : s 1 = -1
    · rw [if_pos c1] at hc; cases hc
    · rw [if_neg c1] at hc
      by_cases c0 : a = 0
      · rw [if_pos c0] at hc; cases hc
      · rw [if_neg c0, if_neg ha, if_pos c] at hc; cases hc
theorem can_sob {w s : Wd} {D : Nat → Nat → Int} {h a : Int} (hc : canF w D h a s = true) (ha : a = 1) : ¬ h < s 3 := by
  intro c
  unfold canF at hc
  by_cases c1 : s 1 = -1
  · rw [if_pos c1] at hc; cases hc
  · rw [if_neg c1, if_neg (by omega), if_pos ha, decide_eq_true c] at hc
    cases hc
section SEEKR
variable {T : List Kd} {m : Mm}
theorem l_131 (hT : TT T) (hp : PinR m) {h k i : Nat} (hi : 16 * h + k = i) (hi2 : i < 208) : GX T 0 131 0 [(2, 192), (0, (h : Int)), (0, (k : Int))] [] m (RI (fun v m1 => v = m 200 i ∧ m1 = m)) := by
  refine gx_st (L' := [(2, 192), (0, (h : Int)), (0, (k : Int))]) (S' := [(2, 192)]) r_131_0 rfl rfl rfl ?_
  refine gx_gf (x := 200) 2 r_131_1 (rfl) (ty_192 hT) ⟨by decide, rfl, by decide, by decide⟩ rfl (fun _ => by omega) (pin_at hp (t := 200) rfl (by decide)) ?_
  refine gx_st (L' := [(2, 192), (0, (h : Int)), (0, (k : Int))]) (S' := [(0, 16), (2, 200)]) r_131_4 rfl rfl rfl ?_
  refine gx_st (L' := [(2, 192), (0, (h : Int)), (0, (k : Int))]) (S' := [(0, (h : Int)), (0, 16), (2, 200)]) r_131_6 rfl rfl rfl ?_
  refine gx_ar (L' := [(2, 192), (0, (h : Int)), (0, (k : Int))]) (S' := [(2, 200)]) (t := 0) (e := w32 (16 * (h : Int))) (z := 16 * (h : Int)) r_131_7 rfl rfl rfl (w32_eq (by omega) (by omega) (by omega)) ?_
  refine gx_st (L' := [(2, 192), (0, (h : Int)), (0, (k : Int))]) (S' := [(0, (k : Int)), (0, 16 * (h : Int)), (2, 200)]) r_131_8 rfl rfl rfl ?_
  refine gx_ar (L' := [(2, 192), (0, (h : Int)), (0, (k : Int))]) (S' := [(2, 200)]) (t := 0) (e := w32 ((16 * (h : Int)) + (k : Int))) (z := 16 * (h : Int) + (k : Int)) r_131_9 rfl rfl rfl (w32_eq (by omega) (by omega) (by omega)) ?_
  refine gx_ia (n := i) (x := (m 200 i)) r_131_10 (rfl) (ty_200 hT) (by omega) ⟨rfl, by omega⟩ (rfl) ?_
  exact gx_rt r_131_11 rfl rfl ⟨_, rfl, ⟨rfl, rfl⟩⟩
theorem l_132 (hT : TT T) (hp : PinR m) {h k i : Nat} (hi : 16 * h + k = i) (hi2 : i < 208) (x : Int) : GX T 0 132 0 [(2, 192), (0, (h : Int)), (0, (k : Int)), (0, x)] [] m (RV (fun m1 => m1 = nu_up m 200 i x)) := by
  refine gx_st (L' := [(2, 192), (0, (h : Int)), (0, (k : Int)), (0, x)]) (S' := [(2, 192)]) r_132_0 rfl rfl rfl ?_
  refine gx_gf (x := 200) 2 r_132_1 (rfl) (ty_192 hT) ⟨by decide, rfl, by decide, by decide⟩ rfl (fun _ => by omega) (pin_at hp (t := 200) rfl (by decide)) ?_
  refine gx_st (L' := [(2, 192), (0, (h : Int)), (0, (k : Int)), (0, x)]) (S' := [(0, 16), (2, 200)]) r_132_4 rfl rfl rfl ?_
  refine gx_st (L' := [(2, 192), (0, (h : Int)), (0, (k : Int)), (0, x)]) (S' := [(0, (h : Int)), (0, 16), (2, 200)]) r_132_6 rfl rfl rfl ?_
  refine gx_ar (L' := [(2, 192), (0, (h : Int)), (0, (k : Int)), (0, x)]) (S' := [(2, 200)]) (t := 0) (e := w32 (16 * (h : Int))) (z := 16 * (h : Int)) r_132_7 rfl rfl rfl (w32_eq (by omega) (by omega) (by omega)) ?_
  refine gx_st (L' := [(2, 192), (0, (h : Int)), (0, (k : Int)), (0, x)]) (S' := [(0, (k : Int)), (0, 16 * (h : Int)), (2, 200)]) r_132_8 rfl rfl rfl ?_
  refine gx_ar (L' := [(2, 192), (0, (h : Int)), (0, (k : Int)), (0, x)]) (S' := [(2, 200)]) (t := 0) (e := w32 ((16 * (h : Int)) + (k : Int))) (z := 16 * (h : Int) + (k : Int)) r_132_9 rfl rfl rfl (w32_eq (by omega) (by omega) (by omega)) ?_
  refine gx_st (L' := [(2, 192), (0, (h : Int)), (0, (k : Int)), (0, x)]) (S' := [(0, x), (0, 16 * (h : Int) + (k : Int)), (2, 200)]) r_132_10 rfl rfl rfl ?_
  obtain ⟨m1, e_m1⟩ : ∃ z, z = nu_up m 200 i x := ⟨_, rfl⟩
  refine gx_is (n := i) (x := x) r_132_11 (rfl) (by omega) (ty_200 hT) (by omega) ⟨rfl, by omega⟩ e_m1.symm ?_
  exact gx_rt r_132_12 rfl rfl ⟨rfl, e_m1⟩
theorem l_133 (hT : TT T) (hp : PinR m) (t : Int) : GX T 0 133 0 [(2, 192), (0, t)] [] m (RI (fun v m1 => v = (if ¬ t = m 192 23 then 1 else 0) ∧ m1 = m)) := by
  refine gx_st (L' := [(2, 192), (0, t)]) (S' := [(0, t)]) r_133_0 rfl rfl rfl ?_
  refine gx_st (L' := [(2, 192), (0, t)]) (S' := [(2, 192), (0, t)]) r_133_1 rfl rfl rfl ?_
  refine gx_gf (x := (m 192 23)) 0 r_133_2 (rfl) (ty_192 hT) ⟨by decide, rfl, by decide, by decide⟩ rfl (fun z => absurd z (by decide)) (rfl) ?_
  refine gx_ic (P := t = (m 192 23)) r_133_5 (rfl) (fun h5 => ?_) (fun h5 => ?_)
  · refine gx_st (L' := [(2, 192), (0, t)]) (S' := [(0, 0)]) r_133_12 rfl rfl rfl ?_
    exact gx_rb r_133_13 rfl (Or.inl rfl) ⟨_, rfl, (if_neg (by omega)).symm, rfl⟩
  · refine gx_st (L' := [(2, 192), (0, t)]) (S' := [(0, 1)]) r_133_8 rfl rfl rfl ?_
    refine gx_st (L' := [(2, 192), (0, t)]) (S' := [(0, 1)]) r_133_9 rfl rfl rfl ?_
    exact gx_rb r_133_13 rfl (Or.inr rfl) ⟨_, rfl, (if_pos (by omega)).symm, rfl⟩
theorem l_97 (hT : TT T) (hp : PinR m) {k : Nat} (hk : k < 5) : GX T 0 97 0 [(2, 192), (0, (k : Int))] [] m (RI (fun v m1 => v = m 193 (31 + 2 * k) ∧ m1 = m)) := by
  refine gx_st (L' := [(2, 192), (0, (k : Int))]) (S' := [(2, 192)]) r_97_0 rfl rfl rfl ?_
  refine gx_gf (x := 193) 2 r_97_1 (rfl) (ty_192 hT) ⟨by decide, rfl, by decide, by decide⟩ rfl (fun _ => by omega) (pin_at hp (t := 193) rfl (by decide)) ?_
  refine gx_st (L' := [(2, 192), (0, (k : Int))]) (S' := [(0, 31), (2, 193)]) r_97_4 rfl rfl rfl ?_
  refine gx_st (L' := [(2, 192), (0, (k : Int))]) (S' := [(0, 2), (0, 31), (2, 193)]) r_97_6 rfl rfl rfl ?_
  refine gx_st (L' := [(2, 192), (0, (k : Int))]) (S' := [(0, (k : Int)), (0, 2), (0, 31), (2, 193)]) r_97_7 rfl rfl rfl ?_
  refine gx_ar (L' := [(2, 192), (0, (k : Int))]) (S' := [(0, 31), (2, 193)]) (t := 0) (e := w32 (2 * (k : Int))) (z := 2 * (k : Int)) r_97_8 rfl rfl rfl (w32_eq (by omega) (by omega) (by omega)) ?_
  refine gx_ar (L' := [(2, 192), (0, (k : Int))]) (S' := [(2, 193)]) (t := 0) (e := w32 (31 + (2 * (k : Int)))) (z := 2 * (k : Int) + 31) r_97_9 rfl rfl rfl (w32_eq (by omega) (by omega) (by omega)) ?_
  refine gx_ia (n := 31 + 2 * k) (x := (m 193 (31 + 2 * k))) r_97_10 (rfl) (ty_193 hT) (by omega) ⟨rfl, by omega⟩ (rfl) ?_
  exact gx_rt r_97_11 rfl rfl ⟨_, rfl, ⟨rfl, rfl⟩⟩
theorem l_98 (hT : TT T) (hp : PinR m) {k : Nat} (hk : k < 3) : GX T 0 98 0 [(2, 192), (0, (k : Int))] [] m (RI (fun v m1 => v = m 193 (41 + 2 * k) ∧ m1 = m)) := by
  refine gx_st (L' := [(2, 192), (0, (k : Int))]) (S' := [(2, 192)]) r_98_0 rfl rfl rfl ?_
  refine gx_gf (x := 193) 2 r_98_1 (rfl) (ty_192 hT) ⟨by decide, rfl, by decide, by decide⟩ rfl (fun _ => by omega) (pin_at hp (t := 193) rfl (by decide)) ?_
  refine gx_st (L' := [(2, 192), (0, (k : Int))]) (S' := [(0, 41), (2, 193)]) r_98_4 rfl rfl rfl ?_
  refine gx_st (L' := [(2, 192), (0, (k : Int))]) (S' := [(0, 2), (0, 41), (2, 193)]) r_98_6 rfl rfl rfl ?_
  refine gx_st (L' := [(2, 192), (0, (k : Int))]) (S' := [(0, (k : Int)), (0, 2), (0, 41), (2, 193)]) r_98_7 rfl rfl rfl ?_
  refine gx_ar (L' := [(2, 192), (0, (k : Int))]) (S' := [(0, 41), (2, 193)]) (t := 0) (e := w32 (2 * (k : Int))) (z := 2 * (k : Int)) r_98_8 rfl rfl rfl (w32_eq (by omega) (by omega) (by omega)) ?_
  refine gx_ar (L' := [(2, 192), (0, (k : Int))]) (S' := [(2, 193)]) (t := 0) (e := w32 (41 + (2 * (k : Int)))) (z := 2 * (k : Int) + 41) r_98_9 rfl rfl rfl (w32_eq (by omega) (by omega) (by omega)) ?_
  refine gx_ia (n := 41 + 2 * k) (x := (m 193 (41 + 2 * k))) r_98_10 (rfl) (ty_193 hT) (by omega) ⟨rfl, by omega⟩ (rfl) ?_
  exact gx_rt r_98_11 rfl rfl ⟨_, rfl, ⟨rfl, rfl⟩⟩
theorem l_99 (hT : TT T) (hp : PinR m) {k : Nat} (hk : k < 5) : GX T 0 99 0 [(2, 192), (0, (k : Int))] [] m (RI (fun v m1 => v = m 193 (47 + 2 * k) ∧ m1 = m)) := by
  refine gx_st (L' := [(2, 192), (0, (k : Int))]) (S' := [(2, 192)]) r_99_0 rfl rfl rfl ?_
  refine gx_gf (x := 193) 2 r_99_1 (rfl) (ty_192 hT) ⟨by decide, rfl, by decide, by decide⟩ rfl (fun _ => by omega) (pin_at hp (t := 193) rfl (by decide)) ?_
  refine gx_st (L' := [(2, 192), (0, (k : Int))]) (S' := [(0, 47), (2, 193)]) r_99_4 rfl rfl rfl ?_
  refine gx_st (L' := [(2, 192), (0, (k : Int))]) (S' := [(0, 2), (0, 47), (2, 193)]) r_99_6 rfl rfl rfl ?_
  refine gx_st (L' := [(2, 192), (0, (k : Int))]) (S' := [(0, (k : Int)), (0, 2), (0, 47), (2, 193)]) r_99_7 rfl rfl rfl ?_
  refine gx_ar (L' := [(2, 192), (0, (k : Int))]) (S' := [(0, 47), (2, 193)]) (t := 0) (e := w32 (2 * (k : Int))) (z := 2 * (k : Int)) r_99_8 rfl rfl rfl (w32_eq (by omega) (by omega) (by omega)) ?_
  refine gx_ar (L' := [(2, 192), (0, (k : Int))]) (S' := [(2, 193)]) (t := 0) (e := w32 (47 + (2 * (k : Int)))) (z := 2 * (k : Int) + 47) r_99_9 rfl rfl rfl (w32_eq (by omega) (by omega) (by omega)) ?_
  refine gx_ia (n := 47 + 2 * k) (x := (m 193 (47 + 2 * k))) r_99_10 (rfl) (ty_193 hT) (by omega) ⟨rfl, by omega⟩ (rfl) ?_
  exact gx_rt r_99_11 rfl rfl ⟨_, rfl, ⟨rfl, rfl⟩⟩
theorem l_123 (hT : TT T) (hp : PinR m) {a b : Nat} (ha : a < 7) (hb : b < 7) : GX T 0 123 0 [(2, 192), (0, (a : Int)), (0, (b : Int))] [] m (RI (fun v m1 => v = m 199 (7 * a + b) ∧ m1 = m)) := by
  refine gx_st (L' := [(2, 192), (0, (a : Int)), (0, (b : Int))]) (S' := [(2, 192)]) r_123_0 rfl rfl rfl ?_
  refine gx_gf (x := 199) 2 r_123_1 (rfl) (ty_192 hT) ⟨by decide, rfl, by decide, by decide⟩ rfl (fun _ => by omega) (pin_at hp (t := 199) rfl (by decide)) ?_
  refine gx_st (L' := [(2, 192), (0, (a : Int)), (0, (b : Int))]) (S' := [(0, 7), (2, 199)]) r_123_4 rfl rfl rfl ?_
  refine gx_st (L' := [(2, 192), (0, (a : Int)), (0, (b : Int))]) (S' := [(0, (a : Int)), (0, 7), (2, 199)]) r_123_6 rfl rfl rfl ?_
  refine gx_ar (L' := [(2, 192), (0, (a : Int)), (0, (b : Int))]) (S' := [(2, 199)]) (t := 0) (e := w32 (7 * (a : Int))) (z := 7 * (a : Int)) r_123_7 rfl rfl rfl (w32_eq (by omega) (by omega) (by omega)) ?_
  refine gx_st (L' := [(2, 192), (0, (a : Int)), (0, (b : Int))]) (S' := [(0, (b : Int)), (0, 7 * (a : Int)), (2, 199)]) r_123_8 rfl rfl rfl ?_
  refine gx_ar (L' := [(2, 192), (0, (a : Int)), (0, (b : Int))]) (S' := [(2, 199)]) (t := 0) (e := w32 ((7 * (a : Int)) + (b : Int))) (z := 7 * (a : Int) + (b : Int)) r_123_9 rfl rfl rfl (w32_eq (by omega) (by omega) (by omega)) ?_
  refine gx_ia (n := 7 * a + b) (x := (m 199 (7 * a + b))) r_123_10 (rfl) (ty_199 hT) (by omega) ⟨rfl, by omega⟩ (rfl) ?_
  exact gx_rt r_123_11 rfl rfl ⟨_, rfl, ⟨rfl, rfl⟩⟩
theorem l_138 (hT : TT T) (hp : PinR m) {k : Nat} (hk : k < 5) : GX T 0 138 0 [(2, 192), (0, (k : Int))] [] m (RI (fun v m1 => v = (if (k : Int) = m 192 27 then m 192 28 else m 193 (48 + 2 * k)) ∧ m1 = m)) := by
  refine gx_st (L' := [(2, 192), (0, (k : Int))]) (S' := [(0, (k : Int))]) r_138_0 rfl rfl rfl ?_
  refine gx_st (L' := [(2, 192), (0, (k : Int))]) (S' := [(2, 192), (0, (k : Int))]) r_138_1 rfl rfl rfl ?_
  refine gx_gf (x := (m 192 27)) 0 r_138_2 (rfl) (ty_192 hT) ⟨by decide, rfl, by decide, by decide⟩ rfl (fun z => absurd z (by decide)) (rfl) ?_
  refine gx_ic (P := ¬ (k : Int) = (m 192 27)) r_138_5 (rfl) (fun h5 => ?_) (fun h5 => ?_)
  · refine gx_st (L' := [(2, 192), (0, (k : Int))]) (S' := [(2, 192)]) r_138_15 rfl rfl rfl ?_
    refine gx_gf (x := 193) 2 r_138_16 (rfl) (ty_192 hT) ⟨by decide, rfl, by decide, by decide⟩ rfl (fun _ => by omega) (pin_at hp (t := 193) rfl (by decide)) ?_
    refine gx_st (L' := [(2, 192), (0, (k : Int))]) (S' := [(0, 47), (2, 193)]) r_138_19 rfl rfl rfl ?_
    refine gx_st (L' := [(2, 192), (0, (k : Int))]) (S' := [(0, 2), (0, 47), (2, 193)]) r_138_21 rfl rfl rfl ?_
    refine gx_st (L' := [(2, 192), (0, (k : Int))]) (S' := [(0, (k : Int)), (0, 2), (0, 47), (2, 193)]) r_138_22 rfl rfl rfl ?_
    refine gx_ar (L' := [(2, 192), (0, (k : Int))]) (S' := [(0, 47), (2, 193)]) (t := 0) (e := w32 (2 * (k : Int))) (z := 2 * (k : Int)) r_138_23 rfl rfl rfl (w32_eq (by omega) (by omega) (by omega)) ?_
    refine gx_ar (L' := [(2, 192), (0, (k : Int))]) (S' := [(2, 193)]) (t := 0) (e := w32 (47 + (2 * (k : Int)))) (z := 2 * (k : Int) + 47) r_138_24 rfl rfl rfl (w32_eq (by omega) (by omega) (by omega)) ?_
    refine gx_st (L' := [(2, 192), (0, (k : Int))]) (S' := [(0, 1), (0, 2 * (k : Int) + 47), (2, 193)]) r_138_25 rfl rfl rfl ?_
    refine gx_ar (L' := [(2, 192), (0, (k : Int))]) (S' := [(2, 193)]) (t := 0) (e := w32 ((2 * (k : Int) + 47) + 1)) (z := 2 * (k : Int) + 48) r_138_26 rfl rfl rfl (w32_eq (by omega) (by omega) (by omega)) ?_
    refine gx_ia (n := 48 + 2 * k) (x := (m 193 (48 + 2 * k))) r_138_27 (rfl) (ty_193 hT) (by omega) ⟨rfl, by omega⟩ (rfl) ?_
    exact gx_rt r_138_28 rfl rfl ⟨_, rfl, ⟨by rw [if_neg (by omega)], rfl⟩⟩
  · have h5 := Decidable.not_not.mp h5
    refine gx_st (L' := [(2, 192), (0, (k : Int))]) (S' := [(2, 192)]) r_138_8 rfl rfl rfl ?_
    refine gx_gf (x := (m 192 28)) 0 r_138_9 (rfl) (ty_192 hT) ⟨by decide, rfl, by decide, by decide⟩ rfl (fun z => absurd z (by decide)) (rfl) ?_
    refine gx_st (L' := [(2, 192), (0, (k : Int))]) (S' := [(0, (m 192 28))]) r_138_12 rfl rfl rfl ?_
    exact gx_rt r_138_28 rfl rfl ⟨_, rfl, ⟨by rw [if_pos (by omega)], rfl⟩⟩
theorem y_140 (hT : TT T) (hp : PinR m) {h : Nat} (hh : h < 12) (k : Int) : GX T 1 140 0 [(2, 192), (0, (h : Int)), (0, k)] [] m (RV (fun m1 => m1 = nu_up (nu_up (nu_up (nu_up m 192 21 (h : Int)) 192 22 k) 200 (16 * h + 16) (-1)) 200 (16 * h + 17) (-1))) := by
  refine gx_st (L' := [(2, 192), (0, (h : Int)), (0, k)]) (S' := [(2, 192)]) r_140_0 rfl rfl rfl ?_
  refine gx_st (L' := [(2, 192), (0, (h : Int)), (0, k)]) (S' := [(0, (h : Int)), (2, 192)]) r_140_1 rfl rfl rfl ?_
  obtain ⟨m1, e_m1⟩ : ∃ z, z = nu_up m 192 21 (h : Int) := ⟨_, rfl⟩
  refine gx_pf (x := (h : Int)) 0 r_140_2 (rfl) (ty_192 hT) ⟨by decide, rfl, by decide, by decide⟩ rfl (fun z => absurd z (by decide)) (fun z => absurd z (by decide)) e_m1.symm ?_
  refine gx_st (L' := [(2, 192), (0, (h : Int)), (0, k)]) (S' := [(2, 192)]) r_140_5 rfl rfl rfl ?_
  refine gx_st (L' := [(2, 192), (0, (h : Int)), (0, k)]) (S' := [(0, k), (2, 192)]) r_140_6 rfl rfl rfl ?_
  obtain ⟨m2, e_m2⟩ : ∃ z, z = nu_up m1 192 22 k := ⟨_, rfl⟩
  refine gx_pf (x := k) 0 r_140_7 (rfl) (ty_192 hT) ⟨by decide, rfl, by decide, by decide⟩ rfl (fun z => absurd z (by decide)) (fun z => absurd z (by decide)) e_m2.symm ?_
  refine gx_st (L' := [(2, 192), (0, (h : Int)), (0, k)]) (S' := [(2, 192)]) r_140_10 rfl rfl rfl ?_
  refine gx_st (L' := [(2, 192), (0, (h : Int)), (0, k)]) (S' := [(0, (h : Int)), (2, 192)]) r_140_11 rfl rfl rfl ?_
  refine gx_st (L' := [(2, 192), (0, (h : Int)), (0, k)]) (S' := [(0, 1), (0, (h : Int)), (2, 192)]) r_140_12 rfl rfl rfl ?_
  refine gx_ar (L' := [(2, 192), (0, (h : Int)), (0, k)]) (S' := [(2, 192)]) (t := 0) (e := w32 ((h : Int) + 1)) (z := (h : Int) + 1) r_140_13 rfl rfl rfl (w32_eq (by omega) (by omega) (by omega)) ?_
  refine gx_st (L' := [(2, 192), (0, (h : Int)), (0, k)]) (S' := [(0, 0), (0, (h : Int) + 1), (2, 192)]) r_140_14 rfl rfl rfl ?_
  refine gx_st (L' := [(2, 192), (0, (h : Int)), (0, k)]) (S' := [(0, (-1)), (0, 0), (0, (h : Int) + 1), (2, 192)]) r_140_15 rfl rfl rfl ?_
  have pp_m2 : PinR m2 := by rw [e_m2, e_m1]; exact PinR_up (PinR_up hp rfl) rfl
  refine gx_cv (nx := 19) (S2 := []) (l_132 hT pp_m2 (h := h + 1) (k := 0) (i := 16 * h + 16) (by omega) (by omega) (-1)) r_140_16 rfl rfl rfl rfl rfl (rcv_v rfl (ty_192 hT) (by decide) rfl (by decide)) rfl (by decide) rfl (fun n16_1 q16_1 => ?_)
  have e_n16_1 : n16_1 = nu_up m2 200 (16 * h + 16) (-1) := q16_1
  show GX T 1 140 19 [(2, 192), (0, (h : Int)), (0, k)] [] n16_1 (RV (fun m1 => m1 = nu_up (nu_up (nu_up (nu_up m 192 21 (h : Int)) 192 22 k) 200 (16 * h + 16) (-1)) 200 (16 * h + 17) (-1)))
  refine gx_st (L' := [(2, 192), (0, (h : Int)), (0, k)]) (S' := [(2, 192)]) r_140_19 rfl rfl rfl ?_
  refine gx_st (L' := [(2, 192), (0, (h : Int)), (0, k)]) (S' := [(0, (h : Int)), (2, 192)]) r_140_20 rfl rfl rfl ?_
  refine gx_st (L' := [(2, 192), (0, (h : Int)), (0, k)]) (S' := [(0, 1), (0, (h : Int)), (2, 192)]) r_140_21 rfl rfl rfl ?_
  refine gx_ar (L' := [(2, 192), (0, (h : Int)), (0, k)]) (S' := [(2, 192)]) (t := 0) (e := w32 ((h : Int) + 1)) (z := (h : Int) + 1) r_140_22 rfl rfl rfl (w32_eq (by omega) (by omega) (by omega)) ?_
  refine gx_st (L' := [(2, 192), (0, (h : Int)), (0, k)]) (S' := [(0, 1), (0, (h : Int) + 1), (2, 192)]) r_140_23 rfl rfl rfl ?_
  refine gx_st (L' := [(2, 192), (0, (h : Int)), (0, k)]) (S' := [(0, (-1)), (0, 1), (0, (h : Int) + 1), (2, 192)]) r_140_24 rfl rfl rfl ?_
  have pp_n16_1 : PinR n16_1 := by rw [e_n16_1, e_m2, e_m1]; exact PinR_up (PinR_up (PinR_up hp rfl) rfl) rfl
  refine gx_cv (nx := 28) (S2 := []) (l_132 hT pp_n16_1 (h := h + 1) (k := 1) (i := 16 * h + 17) (by omega) (by omega) (-1)) r_140_25 rfl rfl rfl rfl rfl (rcv_v rfl (ty_192 hT) (by decide) rfl (by decide)) rfl (by decide) rfl (fun n25_2 q25_2 => ?_)
  have e_n25_2 : n25_2 = nu_up n16_1 200 (16 * h + 17) (-1) := q25_2
  show GX T 1 140 28 [(2, 192), (0, (h : Int)), (0, k)] [] n25_2 (RV (fun m1 => m1 = nu_up (nu_up (nu_up (nu_up m 192 21 (h : Int)) 192 22 k) 200 (16 * h + 16) (-1)) 200 (16 * h + 17) (-1)))
  exact gx_rt r_140_28 rfl rfl ⟨rfl, by rw [e_n25_2, e_n16_1, e_m2, e_m1]⟩
theorem vr_l (hT : TT T) (hp : PinR m) {w : Wd} (hB : WB w) {nt : Int} (hE : EW nt m w) {h : Nat} (hh : h < 13) {s : Wd} (hr : RowR nt m h s) {hr2 : Int} {c : Nat} (hc : w 6 = (c : Int)) : ∀ (N k : Nat), c - k < N → k ≤ c → (∀ j : Nat, j < k → ¬ (fun v : Nat => ¬ (v : Int) = m 192 24 ∧ m 193 (41 + 2 * v) = s 0 ∧ m 193 (42 + 2 * v) ≤ hr2 ∧ iand (ishr (s 4) (v : Int)) 1 = 0) j) → GX T 1 136 2 [(2, 192), (0, (h : Int)), (0, hr2), (0, (k : Int))] [] m (RI (fun v m1 => FirstOf c (fun v : Nat => ¬ (v : Int) = m 192 24 ∧ m 193 (41 + 2 * v) = s 0 ∧ m 193 (42 + 2 * v) ≤ hr2 ∧ iand (ishr (s 4) (v : Int)) 1 = 0) v ∧ m1 = m)) := by
  have b6 := hB.2.2.2.1
  intro N
  induction N with
  | zero => intro k hN; exact absurd hN (Nat.not_lt_zero _)
  | succ N ih =>
    intro k hN hk hb
    refine gx_st (L' := [(2, 192), (0, (h : Int)), (0, hr2), (0, (k : Int))]) (S' := [(0, (k : Int))]) r_136_2 rfl rfl rfl ?_
    refine gx_st (L' := [(2, 192), (0, (h : Int)), (0, hr2), (0, (k : Int))]) (S' := [(2, 192), (0, (k : Int))]) r_136_3 rfl rfl rfl ?_
    refine gx_gf (x := 193) 2 r_136_4 (rfl) (ty_192 hT) ⟨by decide, rfl, by decide, by decide⟩ rfl (fun _ => by omega) (pin_at hp (t := 193) rfl (by decide)) ?_
    refine gx_st (L' := [(2, 192), (0, (h : Int)), (0, hr2), (0, (k : Int))]) (S' := [(0, 6), (2, 193), (0, (k : Int))]) r_136_7 rfl rfl rfl ?_
    refine gx_ia (n := 6) (x := (c : Int)) r_136_9 (rfl) (ty_193 hT) (rfl) ⟨rfl, by decide⟩ ((hE.1 6 (by decide) (by decide) (by decide)).trans hc) ?_
    refine gx_ic (P := (c : Int) ≤ (k : Int)) r_136_10 (rfl) (fun h10 => ?_) (fun h10 => ?_)
    · refine gx_st (L' := [(2, 192), (0, (h : Int)), (0, hr2), (0, (k : Int))]) (S' := [(0, (-1))]) r_136_73 rfl rfl rfl ?_
      have hkc : k = c := by omega
      rw [hkc] at hb
      exact gx_rt r_136_74 rfl rfl ⟨_, rfl, Or.inl ⟨rfl, hb⟩, rfl⟩
    · refine gx_st (L' := [(2, 192), (0, (h : Int)), (0, hr2), (0, (k : Int))]) (S' := [(0, (k : Int))]) r_136_13 rfl rfl rfl ?_
      refine gx_st (L' := [(2, 192), (0, (h : Int)), (0, hr2), (0, (k : Int))]) (S' := [(2, 192), (0, (k : Int))]) r_136_14 rfl rfl rfl ?_
      refine gx_gf (x := (m 192 24)) 0 r_136_15 (rfl) (ty_192 hT) ⟨by decide, rfl, by decide, by decide⟩ rfl (fun z => absurd z (by decide)) (rfl) ?_
      refine gx_ic (P := (k : Int) = (m 192 24)) r_136_18 (rfl) (fun h18 => ?_) (fun h18 => ?_)
      · refine gx_li (z := (k : Int) + 1) (L' := [(2, 192), (0, (h : Int)), (0, hr2), (0, (k : Int) + 1)]) r_136_67 rfl (w32_eq (by omega) (by omega) (by omega)) rfl ?_
        refine gx_st (L' := [(2, 192), (0, (h : Int)), (0, hr2), (0, (k : Int) + 1)]) (S' := []) r_136_70 rfl rfl rfl ?_
        rw [show (k : Int) + 1 = ((k + 1 : Nat) : Int) from rfl]
        refine ih (k + 1) (by omega) (by omega) (fun j hj => ?_)
        by_cases e : j = k
        · rw [e]
          rintro ⟨z1, z2, z3, z4⟩
          first
            | exact absurd h18 z1
            | exact absurd z2 h32
            | exact absurd z3 (by omega)
            | exact absurd z4 h62
        · exact hb j (by omega)
      · refine gx_st (L' := [(2, 192), (0, (h : Int)), (0, hr2), (0, (k : Int))]) (S' := [(2, 192)]) r_136_21 rfl rfl rfl ?_
        refine gx_st (L' := [(2, 192), (0, (h : Int)), (0, hr2), (0, (k : Int))]) (S' := [(0, (k : Int)), (2, 192)]) r_136_22 rfl rfl rfl ?_
        refine gx_ci (nx := 26) (S2 := []) (l_98 hT hp (k := k) (by omega)) r_136_23 rfl rfl rfl rfl rfl (rcv_v rfl (ty_192 hT) (by decide) rfl (by decide)) rfl (by decide) rfl (fun x23 n23 q23 => ?_)
        obtain rfl := q23.1.symm
        obtain rfl := q23.2.symm
        show GX T 1 136 26 [(2, 192), (0, (h : Int)), (0, hr2), (0, (k : Int))] [(0, (m 193 (41 + 2 * k)))] m (RI (fun v m1 => FirstOf c (fun v : Nat => ¬ (v : Int) = m 192 24 ∧ m 193 (41 + 2 * v) = s 0 ∧ m 193 (42 + 2 * v) ≤ hr2 ∧ iand (ishr (s 4) (v : Int)) 1 = 0) v ∧ m1 = m))
        refine gx_st (L' := [(2, 192), (0, (h : Int)), (0, hr2), (0, (k : Int))]) (S' := [(2, 192), (0, (m 193 (41 + 2 * k)))]) r_136_26 rfl rfl rfl ?_
        refine gx_st (L' := [(2, 192), (0, (h : Int)), (0, hr2), (0, (k : Int))]) (S' := [(0, (h : Int)), (2, 192), (0, (m 193 (41 + 2 * k)))]) r_136_27 rfl rfl rfl ?_
        refine gx_st (L' := [(2, 192), (0, (h : Int)), (0, hr2), (0, (k : Int))]) (S' := [(0, 0), (0, (h : Int)), (2, 192), (0, (m 193 (41 + 2 * k)))]) r_136_28 rfl rfl rfl ?_
        refine gx_ci (nx := 32) (S2 := [(0, (m 193 (41 + 2 * k)))]) (l_131 hT hp (h := h) (k := 0) (i := 16 * h + 0) (by omega) (by omega)) r_136_29 rfl rfl rfl rfl rfl (rcv_v rfl (ty_192 hT) (by decide) rfl (by decide)) rfl (by decide) rfl (fun x29 n29 q29 => ?_)
        obtain ⟨e_x29, z_x29⟩ := q29
        obtain rfl := z_x29.symm
        rw [e_x29, hr.1.1 0 (by decide) (by decide)]
        show GX T 1 136 32 [(2, 192), (0, (h : Int)), (0, hr2), (0, (k : Int))] [(0, (s 0)), (0, (m 193 (41 + 2 * k)))] m (RI (fun v m1 => FirstOf c (fun v : Nat => ¬ (v : Int) = m 192 24 ∧ m 193 (41 + 2 * v) = s 0 ∧ m 193 (42 + 2 * v) ≤ hr2 ∧ iand (ishr (s 4) (v : Int)) 1 = 0) v ∧ m1 = m))
        refine gx_ic (P := ¬ (m 193 (41 + 2 * k)) = (s 0)) r_136_32 (rfl) (fun h32 => ?_) (fun h32 => ?_)
        · refine gx_li (z := (k : Int) + 1) (L' := [(2, 192), (0, (h : Int)), (0, hr2), (0, (k : Int) + 1)]) r_136_67 rfl (w32_eq (by omega) (by omega) (by omega)) rfl ?_
          refine gx_st (L' := [(2, 192), (0, (h : Int)), (0, hr2), (0, (k : Int) + 1)]) (S' := []) r_136_70 rfl rfl rfl ?_
          rw [show (k : Int) + 1 = ((k + 1 : Nat) : Int) from rfl]
          refine ih (k + 1) (by omega) (by omega) (fun j hj => ?_)
          by_cases e : j = k
          · rw [e]
            rintro ⟨z1, z2, z3, z4⟩
            first
              | exact absurd h18 z1
              | exact absurd z2 h32
              | exact absurd z3 (by omega)
              | exact absurd z4 h62
          · exact hb j (by omega)
        · have h32 := Decidable.not_not.mp h32
          refine gx_st (L' := [(2, 192), (0, (h : Int)), (0, hr2), (0, (k : Int))]) (S' := [(2, 192)]) r_136_35 rfl rfl rfl ?_
          refine gx_gf (x := 193) 2 r_136_36 (rfl) (ty_192 hT) ⟨by decide, rfl, by decide, by decide⟩ rfl (fun _ => by omega) (pin_at hp (t := 193) rfl (by decide)) ?_
          refine gx_st (L' := [(2, 192), (0, (h : Int)), (0, hr2), (0, (k : Int))]) (S' := [(0, 41), (2, 193)]) r_136_39 rfl rfl rfl ?_
          refine gx_st (L' := [(2, 192), (0, (h : Int)), (0, hr2), (0, (k : Int))]) (S' := [(0, 2), (0, 41), (2, 193)]) r_136_41 rfl rfl rfl ?_
          refine gx_st (L' := [(2, 192), (0, (h : Int)), (0, hr2), (0, (k : Int))]) (S' := [(0, (k : Int)), (0, 2), (0, 41), (2, 193)]) r_136_42 rfl rfl rfl ?_
          refine gx_ar (L' := [(2, 192), (0, (h : Int)), (0, hr2), (0, (k : Int))]) (S' := [(0, 41), (2, 193)]) (t := 0) (e := w32 (2 * (k : Int))) (z := 2 * (k : Int)) r_136_43 rfl rfl rfl (w32_eq (by omega) (by omega) (by omega)) ?_
          refine gx_ar (L' := [(2, 192), (0, (h : Int)), (0, hr2), (0, (k : Int))]) (S' := [(2, 193)]) (t := 0) (e := w32 (41 + (2 * (k : Int)))) (z := 2 * (k : Int) + 41) r_136_44 rfl rfl rfl (w32_eq (by omega) (by omega) (by omega)) ?_
          refine gx_st (L' := [(2, 192), (0, (h : Int)), (0, hr2), (0, (k : Int))]) (S' := [(0, 1), (0, 2 * (k : Int) + 41), (2, 193)]) r_136_45 rfl rfl rfl ?_
          refine gx_ar (L' := [(2, 192), (0, (h : Int)), (0, hr2), (0, (k : Int))]) (S' := [(2, 193)]) (t := 0) (e := w32 ((2 * (k : Int) + 41) + 1)) (z := 2 * (k : Int) + 42) r_136_46 rfl rfl rfl (w32_eq (by omega) (by omega) (by omega)) ?_
          refine gx_ia (n := 2 * k + 42) (x := (m 193 (42 + 2 * k))) r_136_47 (rfl) (ty_193 hT) (by omega) ⟨rfl, by omega⟩ ((congrArg (m 193) (by omega))) ?_
          refine gx_st (L' := [(2, 192), (0, (h : Int)), (0, hr2), (0, (k : Int))]) (S' := [(0, hr2), (0, (m 193 (42 + 2 * k)))]) r_136_48 rfl rfl rfl ?_
          refine gx_ic (P := hr2 < (m 193 (42 + 2 * k))) r_136_49 (rfl) (fun h49 => ?_) (fun h49 => ?_)
          · refine gx_li (z := (k : Int) + 1) (L' := [(2, 192), (0, (h : Int)), (0, hr2), (0, (k : Int) + 1)]) r_136_67 rfl (w32_eq (by omega) (by omega) (by omega)) rfl ?_
            refine gx_st (L' := [(2, 192), (0, (h : Int)), (0, hr2), (0, (k : Int) + 1)]) (S' := []) r_136_70 rfl rfl rfl ?_
            rw [show (k : Int) + 1 = ((k + 1 : Nat) : Int) from rfl]
            refine ih (k + 1) (by omega) (by omega) (fun j hj => ?_)
            by_cases e : j = k
            · rw [e]
              rintro ⟨z1, z2, z3, z4⟩
              first
                | exact absurd h18 z1
                | exact absurd z2 h32
                | exact absurd z3 (by omega)
                | exact absurd z4 h62
            · exact hb j (by omega)
          · refine gx_st (L' := [(2, 192), (0, (h : Int)), (0, hr2), (0, (k : Int))]) (S' := [(2, 192)]) r_136_52 rfl rfl rfl ?_
            refine gx_st (L' := [(2, 192), (0, (h : Int)), (0, hr2), (0, (k : Int))]) (S' := [(0, (h : Int)), (2, 192)]) r_136_53 rfl rfl rfl ?_
            refine gx_st (L' := [(2, 192), (0, (h : Int)), (0, hr2), (0, (k : Int))]) (S' := [(0, 4), (0, (h : Int)), (2, 192)]) r_136_54 rfl rfl rfl ?_
            refine gx_ci (nx := 58) (S2 := []) (l_131 hT hp (h := h) (k := 4) (i := 16 * h + 4) (by omega) (by omega)) r_136_55 rfl rfl rfl rfl rfl (rcv_v rfl (ty_192 hT) (by decide) rfl (by decide)) rfl (by decide) rfl (fun x55 n55 q55 => ?_)
            obtain ⟨e_x55, z_x55⟩ := q55
            obtain rfl := z_x55.symm
            rw [e_x55, hr.1.1 4 (by decide) (by decide)]
            show GX T 1 136 58 [(2, 192), (0, (h : Int)), (0, hr2), (0, (k : Int))] [(0, (s 4))] m (RI (fun v m1 => FirstOf c (fun v : Nat => ¬ (v : Int) = m 192 24 ∧ m 193 (41 + 2 * v) = s 0 ∧ m 193 (42 + 2 * v) ≤ hr2 ∧ iand (ishr (s 4) (v : Int)) 1 = 0) v ∧ m1 = m))
            refine gx_st (L' := [(2, 192), (0, (h : Int)), (0, hr2), (0, (k : Int))]) (S' := [(0, (k : Int)), (0, (s 4))]) r_136_58 rfl rfl rfl ?_
            refine gx_ci (nx := 62) (S2 := []) (x_87 (s 4) (k : Int)) r_136_59 rfl rfl rfl rfl rfl rfl rfl (by decide) rfl (fun x59 n59 q59 => ?_)
            obtain rfl := q59.1.symm
            obtain rfl := q59.2.symm
            show GX T 1 136 62 [(2, 192), (0, (h : Int)), (0, hr2), (0, (k : Int))] [(0, (iand (ishr (s 4) (k : Int)) 1))] m (RI (fun v m1 => FirstOf c (fun v : Nat => ¬ (v : Int) = m 192 24 ∧ m 193 (41 + 2 * v) = s 0 ∧ m 193 (42 + 2 * v) ≤ hr2 ∧ iand (ishr (s 4) (v : Int)) 1 = 0) v ∧ m1 = m))
            refine gx_i0 (P := ¬ (iand (ishr (s 4) (k : Int)) 1) = 0) r_136_62 (rfl) (fun h62 => ?_) (fun h62 => ?_)
            · refine gx_li (z := (k : Int) + 1) (L' := [(2, 192), (0, (h : Int)), (0, hr2), (0, (k : Int) + 1)]) r_136_67 rfl (w32_eq (by omega) (by omega) (by omega)) rfl ?_
              refine gx_st (L' := [(2, 192), (0, (h : Int)), (0, hr2), (0, (k : Int) + 1)]) (S' := []) r_136_70 rfl rfl rfl ?_
              rw [show (k : Int) + 1 = ((k + 1 : Nat) : Int) from rfl]
              refine ih (k + 1) (by omega) (by omega) (fun j hj => ?_)
              by_cases e : j = k
              · rw [e]
                rintro ⟨z1, z2, z3, z4⟩
                first
                  | exact absurd h18 z1
                  | exact absurd z2 h32
                  | exact absurd z3 (by omega)
                  | exact absurd z4 h62
              · exact hb j (by omega)
            · have h62 := Decidable.not_not.mp h62
              refine gx_st (L' := [(2, 192), (0, (h : Int)), (0, hr2), (0, (k : Int))]) (S' := [(0, (k : Int))]) r_136_65 rfl rfl rfl ?_
              exact gx_rt r_136_66 rfl rfl ⟨_, rfl, Or.inr ⟨k, by omega, ⟨h18, h32, by omega, h62⟩, rfl, hb⟩, rfl⟩
theorem v_136 (hT : TT T) (hp : PinR m) {w : Wd} (hB : WB w) {nt : Int} (hE : EW nt m w) {h : Nat} (hh : h < 13) {s : Wd} (hr : RowR nt m h s) (hr2 : Int) {c : Nat} (hc : w 6 = (c : Int)) : GX T 1 136 0 [(2, 192), (0, (h : Int)), (0, hr2), (9, 0)] [] m (RI (fun v m1 => FirstOf c (fun v : Nat => ¬ (v : Int) = m 192 24 ∧ m 193 (41 + 2 * v) = s 0 ∧ m 193 (42 + 2 * v) ≤ hr2 ∧ iand (ishr (s 4) (v : Int)) 1 = 0) v ∧ m1 = m)) := by
  refine gx_st (L' := [(2, 192), (0, (h : Int)), (0, hr2), (9, 0)]) (S' := [(0, 0)]) r_136_0 rfl rfl rfl ?_
  refine gx_st (L' := [(2, 192), (0, (h : Int)), (0, hr2), (0, 0)]) (S' := []) r_136_1 rfl rfl rfl ?_
  exact vr_l hT hp hB hE hh hr hc (c + 1) 0 (by omega) (by omega) (fun j hj => absurd hj (Nat.not_lt_zero _))
theorem y_136 (hT : TT T) (hp : PinR m) {w : Wd} (hB : WB w) {nt : Int} (hE : EW nt m w) {h : Nat} (hh : h < 13) {s : Wd} (hr : RowR nt m h s) {hr2 : Int} (h12 : hr2 ≤ 12) : GX T 1 136 0 [(2, 192), (0, (h : Int)), (0, hr2), (9, 0)] [] m (RI (fun v m1 => v = vineF w (s 0) hr2 (s 4) ∧ m1 = m)) := by
  have b6 := hB.2.2.2.1
  refine gx_imp (v_136 hT hp hB hE hh hr hr2 (c := (w 6).toNat) (by omega)) (fun v m1 ⟨x, e, f, g⟩ => ⟨x, e, FirstOf_eq f (firstF_of _ _) (fun i hi => ?_), g⟩)
  obtain ⟨v1, v2, v3⟩ := hE.2.2.2.2.2.2.2.1 i (by omega)
  show (¬ (i : Int) = m 192 24 ∧ m 193 (41 + 2 * i) = s 0 ∧ m 193 (42 + 2 * i) ≤ hr2 ∧ iand (ishr (s 4) (i : Int)) 1 = 0) ↔ (decide (w (42 + 2 * i) ≤ hr2) && !bitF (s 4) i && decide (w (41 + 2 * i) = s 0)) = true
  rw [← bw_iff (b := iand (ishr (s 4) (i : Int)) 1 = 1) bitF_i, v1, iand_01]
  by_cases c : (i : Int) = m 192 24
  · have := v3 c
    exact ⟨fun z => absurd c z.1, fun z => absurd z.1 (by omega)⟩
  · rw [v2 c]
    exact ⟨fun z => ⟨z.2.2.1, z.2.2.2, z.2.1⟩, fun z => ⟨c, z.2.2, z.1, z.2.1⟩⟩
theorem sr_l (hT : TT T) (hp : PinR m) {w : Wd} (hB : WB w) {nt : Int} (hE : EW nt m w) {D : Nat → Nat → Int} (eD : ∀ a b : Nat, a < 7 → b < 7 → m 199 (7 * a + b) = D a b) (hP : WP w) {h p c : Nat} (hh : h < 13) (hp7 : p < 7) (hc : w 5 = (c : Int)) : ∀ (N k : Nat) (y : Int), c - k < N → k ≤ c → BestOf k (fun t : Nat => ¬ (t : Int) = m 192 23 ∧ ¬ m 200 (16 * h + (11 + t)) = 0 ∧ D p (w (31 + 2 * t)).toNat < FAR) (fun t : Nat => D p (w (31 + 2 * t)).toNat) y → GX T 1 135 5 [(2, 192), (0, (h : Int)), (0, (p : Int)), (0, y), (0, (k : Int))] [] m (RI (fun v m1 => BestOf c (fun t : Nat => ¬ (t : Int) = m 192 23 ∧ ¬ m 200 (16 * h + (11 + t)) = 0 ∧ D p (w (31 + 2 * t)).toNat < FAR) (fun t : Nat => D p (w (31 + 2 * t)).toNat) v ∧ m1 = m)) := by
  have b5 := hB.2.2.1
  have b0 := hB.1
  intro N
  induction N with
  | zero => intro k y hN; exact absurd hN (Nat.not_lt_zero _)
  | succ N ih =>
    intro k y hN hk hb
    refine gx_st (L' := [(2, 192), (0, (h : Int)), (0, (p : Int)), (0, y), (0, (k : Int))]) (S' := [(0, (k : Int))]) r_135_5 rfl rfl rfl ?_
    refine gx_st (L' := [(2, 192), (0, (h : Int)), (0, (p : Int)), (0, y), (0, (k : Int))]) (S' := [(2, 192), (0, (k : Int))]) r_135_7 rfl rfl rfl ?_
    refine gx_gf (x := 193) 2 r_135_8 (rfl) (ty_192 hT) ⟨by decide, rfl, by decide, by decide⟩ rfl (fun _ => by omega) (pin_at hp (t := 193) rfl (by decide)) ?_
    refine gx_st (L' := [(2, 192), (0, (h : Int)), (0, (p : Int)), (0, y), (0, (k : Int))]) (S' := [(0, 5), (2, 193), (0, (k : Int))]) r_135_11 rfl rfl rfl ?_
    refine gx_ia (n := 5) (x := (c : Int)) r_135_12 (rfl) (ty_193 hT) (rfl) ⟨rfl, by decide⟩ ((hE.1 5 (by decide) (by decide) (by decide)).trans hc) ?_
    refine gx_ic (P := (c : Int) ≤ (k : Int)) r_135_13 (rfl) (fun h13 => ?_) (fun h13 => ?_)
    · refine gx_st (L' := [(2, 192), (0, (h : Int)), (0, (p : Int)), (0, y), (0, (k : Int))]) (S' := [(0, y)]) r_135_95 rfl rfl rfl ?_
      have hkc : k = c := by omega
      rw [hkc] at hb
      exact gx_rt r_135_96 rfl rfl ⟨_, rfl, hb, rfl⟩
    · refine gx_st (L' := [(2, 192), (0, (h : Int)), (0, (p : Int)), (0, y), (0, (k : Int))]) (S' := [(2, 192)]) r_135_16 rfl rfl rfl ?_
      refine gx_st (L' := [(2, 192), (0, (h : Int)), (0, (p : Int)), (0, y), (0, (k : Int))]) (S' := [(0, (k : Int)), (2, 192)]) r_135_17 rfl rfl rfl ?_
      refine gx_ci (nx := 22) (S2 := []) (l_133 hT hp (k : Int)) r_135_19 rfl rfl rfl rfl rfl (rcv_v rfl (ty_192 hT) (by decide) rfl (by decide)) rfl (by decide) rfl (fun x19 n19 q19 => ?_)
      obtain rfl := q19.1.symm
      obtain rfl := q19.2.symm
      show GX T 1 135 22 [(2, 192), (0, (h : Int)), (0, (p : Int)), (0, y), (0, (k : Int))] [(0, (if ¬ (k : Int) = m 192 23 then 1 else 0))] m (RI (fun v m1 => BestOf c (fun t : Nat => ¬ (t : Int) = m 192 23 ∧ ¬ m 200 (16 * h + (11 + t)) = 0 ∧ D p (w (31 + 2 * t)).toNat < FAR) (fun t : Nat => D p (w (31 + 2 * t)).toNat) v ∧ m1 = m))
      refine gx_i0 (P := ¬ (¬ (k : Int) = m 192 23)) r_135_22 (b01_eq) (fun h22 => ?_) (fun h22 => ?_)
      · refine gx_li (z := (k : Int) + 1) (L' := [(2, 192), (0, (h : Int)), (0, (p : Int)), (0, y), (0, (k : Int) + 1)]) r_135_89 rfl (w32_eq (by omega) (by omega) (by omega)) rfl ?_
        refine gx_st (L' := [(2, 192), (0, (h : Int)), (0, (p : Int)), (0, y), (0, (k : Int) + 1)]) (S' := []) r_135_92 rfl rfl rfl ?_
        rw [show (k : Int) + 1 = ((k + 1 : Nat) : Int) from rfl]
        refine ih (k + 1) _ (by omega) (by omega) (BestOf_no hb (fun ck => ?_))
        obtain ⟨c1, c2, c3⟩ := ck
        first
          | exact absurd c1 h22
          | exact absurd h35 c2
          | (exfalso; rw [nat_of htk] at c3; have c4 : D p tk < 1000000000 := c3; omega)
          | exact ⟨q, hq1, rfl, (show D p (w (31 + 2 * q)).toNat ≤ D p (w (31 + 2 * k)).toNat by rw [nat_of htk, nat_of htq]; omega)⟩
      · have h22 := Decidable.not_not.mp h22
        refine gx_st (L' := [(2, 192), (0, (h : Int)), (0, (p : Int)), (0, y), (0, (k : Int))]) (S' := [(2, 192)]) r_135_25 rfl rfl rfl ?_
        refine gx_st (L' := [(2, 192), (0, (h : Int)), (0, (p : Int)), (0, y), (0, (k : Int))]) (S' := [(0, (h : Int)), (2, 192)]) r_135_26 rfl rfl rfl ?_
        refine gx_st (L' := [(2, 192), (0, (h : Int)), (0, (p : Int)), (0, y), (0, (k : Int))]) (S' := [(0, 11), (0, (h : Int)), (2, 192)]) r_135_27 rfl rfl rfl ?_
        refine gx_st (L' := [(2, 192), (0, (h : Int)), (0, (p : Int)), (0, y), (0, (k : Int))]) (S' := [(0, (k : Int)), (0, 11), (0, (h : Int)), (2, 192)]) r_135_29 rfl rfl rfl ?_
        refine gx_ar (L' := [(2, 192), (0, (h : Int)), (0, (p : Int)), (0, y), (0, (k : Int))]) (S' := [(0, (h : Int)), (2, 192)]) (t := 0) (e := w32 (11 + (k : Int))) (z := (k : Int) + 11) r_135_31 rfl rfl rfl (w32_eq (by omega) (by omega) (by omega)) ?_
        refine gx_ci (nx := 35) (S2 := []) (l_131 hT hp (h := h) (k := k + 11) (i := 16 * h + (11 + k)) (by omega) (by omega)) r_135_32 rfl rfl rfl rfl rfl (rcv_v rfl (ty_192 hT) (by decide) rfl (by decide)) rfl (by decide) rfl (fun x32 n32 q32 => ?_)
        obtain rfl := q32.1.symm
        obtain rfl := q32.2.symm
        show GX T 1 135 35 [(2, 192), (0, (h : Int)), (0, (p : Int)), (0, y), (0, (k : Int))] [(0, (m 200 (16 * h + (11 + k))))] m (RI (fun v m1 => BestOf c (fun t : Nat => ¬ (t : Int) = m 192 23 ∧ ¬ m 200 (16 * h + (11 + t)) = 0 ∧ D p (w (31 + 2 * t)).toNat < FAR) (fun t : Nat => D p (w (31 + 2 * t)).toNat) v ∧ m1 = m))
        refine gx_i0 (P := (m 200 (16 * h + (11 + k))) = 0) r_135_35 (rfl) (fun h35 => ?_) (fun h35 => ?_)
        · refine gx_li (z := (k : Int) + 1) (L' := [(2, 192), (0, (h : Int)), (0, (p : Int)), (0, y), (0, (k : Int) + 1)]) r_135_89 rfl (w32_eq (by omega) (by omega) (by omega)) rfl ?_
          refine gx_st (L' := [(2, 192), (0, (h : Int)), (0, (p : Int)), (0, y), (0, (k : Int) + 1)]) (S' := []) r_135_92 rfl rfl rfl ?_
          rw [show (k : Int) + 1 = ((k + 1 : Nat) : Int) from rfl]
          refine ih (k + 1) _ (by omega) (by omega) (BestOf_no hb (fun ck => ?_))
          obtain ⟨c1, c2, c3⟩ := ck
          first
            | exact absurd c1 h22
            | exact absurd h35 c2
            | (exfalso; rw [nat_of htk] at c3; have c4 : D p tk < 1000000000 := c3; omega)
            | exact ⟨q, hq1, rfl, (show D p (w (31 + 2 * q)).toNat ≤ D p (w (31 + 2 * k)).toNat by rw [nat_of htk, nat_of htq]; omega)⟩
        · refine gx_st (L' := [(2, 192), (0, (h : Int)), (0, (p : Int)), (0, y), (0, (k : Int))]) (S' := [(2, 192)]) r_135_38 rfl rfl rfl ?_
          refine gx_st (L' := [(2, 192), (0, (h : Int)), (0, (p : Int)), (0, y), (0, (k : Int))]) (S' := [(0, (p : Int)), (2, 192)]) r_135_39 rfl rfl rfl ?_
          have w5k := hP.1 k (by omega) (by omega)
          obtain ⟨tk, htk⟩ : ∃ z : Nat, w (31 + 2 * k) = (z : Int) := ⟨(w (31 + 2 * k)).toNat, by omega⟩
          refine gx_st (L' := [(2, 192), (0, (h : Int)), (0, (p : Int)), (0, y), (0, (k : Int))]) (S' := [(2, 192), (0, (p : Int)), (2, 192)]) r_135_40 rfl rfl rfl ?_
          refine gx_st (L' := [(2, 192), (0, (h : Int)), (0, (p : Int)), (0, y), (0, (k : Int))]) (S' := [(0, (k : Int)), (2, 192), (0, (p : Int)), (2, 192)]) r_135_41 rfl rfl rfl ?_
          refine gx_ci (nx := 46) (S2 := [(0, (p : Int)), (2, 192)]) (l_97 hT hp (k := k) (by omega)) r_135_43 rfl rfl rfl rfl rfl (rcv_v rfl (ty_192 hT) (by decide) rfl (by decide)) rfl (by decide) rfl (fun x43 n43 q43 => ?_)
          obtain ⟨e_x43, z_x43⟩ := q43
          obtain rfl := z_x43.symm
          rw [e_x43, hE.2.2.2.1 k (by omega), htk]
          show GX T 1 135 46 [(2, 192), (0, (h : Int)), (0, (p : Int)), (0, y), (0, (k : Int))] [(0, (tk : Int)), (0, (p : Int)), (2, 192)] m (RI (fun v m1 => BestOf c (fun t : Nat => ¬ (t : Int) = m 192 23 ∧ ¬ m 200 (16 * h + (11 + t)) = 0 ∧ D p (w (31 + 2 * t)).toNat < FAR) (fun t : Nat => D p (w (31 + 2 * t)).toNat) v ∧ m1 = m))
          refine gx_ci (nx := 49) (S2 := []) (l_123 hT hp (a := p) (b := tk) (by omega) (by omega)) r_135_46 rfl rfl rfl rfl rfl (rcv_v rfl (ty_192 hT) (by decide) rfl (by decide)) rfl (by decide) rfl (fun x46 n46 q46 => ?_)
          obtain ⟨e_x46, z_x46⟩ := q46
          obtain rfl := z_x46.symm
          rw [e_x46, eD p tk (by omega) (by omega)]
          show GX T 1 135 49 [(2, 192), (0, (h : Int)), (0, (p : Int)), (0, y), (0, (k : Int))] [(0, (D p tk))] m (RI (fun v m1 => BestOf c (fun t : Nat => ¬ (t : Int) = m 192 23 ∧ ¬ m 200 (16 * h + (11 + t)) = 0 ∧ D p (w (31 + 2 * t)).toNat < FAR) (fun t : Nat => D p (w (31 + 2 * t)).toNat) v ∧ m1 = m))
          refine gx_st (L' := [(2, 192), (0, (h : Int)), (0, (p : Int)), (0, y), (0, (k : Int))]) (S' := [(0, 1000000000), (0, (D p tk))]) r_135_49 rfl rfl rfl ?_
          refine gx_ic (P := (D p tk) < 1000000000) r_135_51 (rfl) (fun h51 => ?_) (fun h51 => ?_)
          · refine gx_st (L' := [(2, 192), (0, (h : Int)), (0, (p : Int)), (0, y), (0, (k : Int))]) (S' := [(0, y)]) r_135_57 rfl rfl rfl ?_
            refine gx_st (L' := [(2, 192), (0, (h : Int)), (0, (p : Int)), (0, y), (0, (k : Int))]) (S' := [(0, (-1)), (0, y)]) r_135_58 rfl rfl rfl ?_
            refine gx_ic (P := y = (-1)) r_135_59 (rfl) (fun h59 => ?_) (fun h59 => ?_)
            · refine gx_st (L' := [(2, 192), (0, (h : Int)), (0, (p : Int)), (0, y), (0, (k : Int))]) (S' := [(0, (k : Int))]) r_135_86 rfl rfl rfl ?_
              refine gx_st (L' := [(2, 192), (0, (h : Int)), (0, (p : Int)), (0, (k : Int)), (0, (k : Int))]) (S' := []) r_135_88 rfl rfl rfl ?_
              refine gx_li (z := (k : Int) + 1) (L' := [(2, 192), (0, (h : Int)), (0, (p : Int)), (0, (k : Int)), (0, (k : Int) + 1)]) r_135_89 rfl (w32_eq (by omega) (by omega) (by omega)) rfl ?_
              refine gx_st (L' := [(2, 192), (0, (h : Int)), (0, (p : Int)), (0, (k : Int)), (0, (k : Int) + 1)]) (S' := []) r_135_92 rfl rfl rfl ?_
              rw [show (k : Int) + 1 = ((k + 1 : Nat) : Int) from rfl]
              refine ih (k + 1) _ (by omega) (by omega) (BestOf_new hb ⟨h22, h35, by rw [nat_of htk]; show D p tk < 1000000000; omega⟩ (fun i hi e => ?_))
              show D p (w (31 + 2 * k)).toNat < D p (w (31 + 2 * i)).toNat
              first
                | (exfalso; omega)
                | (have ei : i = q := by omega
                   rw [ei, nat_of htk, nat_of htq]; omega)
            · refine gx_st (L' := [(2, 192), (0, (h : Int)), (0, (p : Int)), (0, y), (0, (k : Int))]) (S' := [(2, 192)]) r_135_62 rfl rfl rfl ?_
              refine gx_st (L' := [(2, 192), (0, (h : Int)), (0, (p : Int)), (0, y), (0, (k : Int))]) (S' := [(0, (p : Int)), (2, 192)]) r_135_63 rfl rfl rfl ?_
              refine gx_st (L' := [(2, 192), (0, (h : Int)), (0, (p : Int)), (0, y), (0, (k : Int))]) (S' := [(2, 192), (0, (p : Int)), (2, 192)]) r_135_64 rfl rfl rfl ?_
              refine gx_st (L' := [(2, 192), (0, (h : Int)), (0, (p : Int)), (0, y), (0, (k : Int))]) (S' := [(0, (k : Int)), (2, 192), (0, (p : Int)), (2, 192)]) r_135_65 rfl rfl rfl ?_
              refine gx_ci (nx := 70) (S2 := [(0, (p : Int)), (2, 192)]) (l_97 hT hp (k := k) (by omega)) r_135_67 rfl rfl rfl rfl rfl (rcv_v rfl (ty_192 hT) (by decide) rfl (by decide)) rfl (by decide) rfl (fun x67 n67 q67 => ?_)
              obtain ⟨e_x67, z_x67⟩ := q67
              obtain rfl := z_x67.symm
              rw [e_x67, hE.2.2.2.1 k (by omega), htk]
              show GX T 1 135 70 [(2, 192), (0, (h : Int)), (0, (p : Int)), (0, y), (0, (k : Int))] [(0, (tk : Int)), (0, (p : Int)), (2, 192)] m (RI (fun v m1 => BestOf c (fun t : Nat => ¬ (t : Int) = m 192 23 ∧ ¬ m 200 (16 * h + (11 + t)) = 0 ∧ D p (w (31 + 2 * t)).toNat < FAR) (fun t : Nat => D p (w (31 + 2 * t)).toNat) v ∧ m1 = m))
              refine gx_ci (nx := 73) (S2 := []) (l_123 hT hp (a := p) (b := tk) (by omega) (by omega)) r_135_70 rfl rfl rfl rfl rfl (rcv_v rfl (ty_192 hT) (by decide) rfl (by decide)) rfl (by decide) rfl (fun x70 n70 q70 => ?_)
              obtain ⟨e_x70, z_x70⟩ := q70
              obtain rfl := z_x70.symm
              rw [e_x70, eD p tk (by omega) (by omega)]
              show GX T 1 135 73 [(2, 192), (0, (h : Int)), (0, (p : Int)), (0, y), (0, (k : Int))] [(0, (D p tk))] m (RI (fun v m1 => BestOf c (fun t : Nat => ¬ (t : Int) = m 192 23 ∧ ¬ m 200 (16 * h + (11 + t)) = 0 ∧ D p (w (31 + 2 * t)).toNat < FAR) (fun t : Nat => D p (w (31 + 2 * t)).toNat) v ∧ m1 = m))
              have hy2 : ∃ q : Nat, q < k ∧ y = (q : Int) := by
                rcases hb with z | ⟨q, q1, q2, q3, q4⟩
                · exact absurd z.1 h59
                · exact ⟨q, q1, q3⟩
              obtain ⟨q, hq1, hq2⟩ := hy2
              have w5q := hP.1 q (by omega) (by omega)
              obtain ⟨tq, htq⟩ : ∃ z : Nat, w (31 + 2 * q) = (z : Int) := ⟨(w (31 + 2 * q)).toNat, by omega⟩
              subst hq2
              show GX T 1 135 73 [(2, 192), (0, (h : Int)), (0, (p : Int)), (0, (q : Int)), (0, (k : Int))] [(0, (D p tk))] m (RI (fun v m1 => BestOf c (fun t : Nat => ¬ (t : Int) = m 192 23 ∧ ¬ m 200 (16 * h + (11 + t)) = 0 ∧ D p (w (31 + 2 * t)).toNat < FAR) (fun t : Nat => D p (w (31 + 2 * t)).toNat) v ∧ m1 = m))
              refine gx_st (L' := [(2, 192), (0, (h : Int)), (0, (p : Int)), (0, (q : Int)), (0, (k : Int))]) (S' := [(2, 192), (0, (D p tk))]) r_135_73 rfl rfl rfl ?_
              refine gx_st (L' := [(2, 192), (0, (h : Int)), (0, (p : Int)), (0, (q : Int)), (0, (k : Int))]) (S' := [(0, (p : Int)), (2, 192), (0, (D p tk))]) r_135_74 rfl rfl rfl ?_
              refine gx_st (L' := [(2, 192), (0, (h : Int)), (0, (p : Int)), (0, (q : Int)), (0, (k : Int))]) (S' := [(2, 192), (0, (p : Int)), (2, 192), (0, (D p tk))]) r_135_75 rfl rfl rfl ?_
              refine gx_st (L' := [(2, 192), (0, (h : Int)), (0, (p : Int)), (0, (q : Int)), (0, (k : Int))]) (S' := [(0, (q : Int)), (2, 192), (0, (p : Int)), (2, 192), (0, (D p tk))]) r_135_76 rfl rfl rfl ?_
              refine gx_ci (nx := 80) (S2 := [(0, (p : Int)), (2, 192), (0, (D p tk))]) (l_97 hT hp (k := q) (by omega)) r_135_77 rfl rfl rfl rfl rfl (rcv_v rfl (ty_192 hT) (by decide) rfl (by decide)) rfl (by decide) rfl (fun x77 n77 q77 => ?_)
              obtain ⟨e_x77, z_x77⟩ := q77
              obtain rfl := z_x77.symm
              rw [e_x77, hE.2.2.2.1 q (by omega), htq]
              show GX T 1 135 80 [(2, 192), (0, (h : Int)), (0, (p : Int)), (0, (q : Int)), (0, (k : Int))] [(0, (tq : Int)), (0, (p : Int)), (2, 192), (0, (D p tk))] m (RI (fun v m1 => BestOf c (fun t : Nat => ¬ (t : Int) = m 192 23 ∧ ¬ m 200 (16 * h + (11 + t)) = 0 ∧ D p (w (31 + 2 * t)).toNat < FAR) (fun t : Nat => D p (w (31 + 2 * t)).toNat) v ∧ m1 = m))
              refine gx_ci (nx := 83) (S2 := [(0, (D p tk))]) (l_123 hT hp (a := p) (b := tq) (by omega) (by omega)) r_135_80 rfl rfl rfl rfl rfl (rcv_v rfl (ty_192 hT) (by decide) rfl (by decide)) rfl (by decide) rfl (fun x80 n80 q80 => ?_)
              obtain ⟨e_x80, z_x80⟩ := q80
              obtain rfl := z_x80.symm
              rw [e_x80, eD p tq (by omega) (by omega)]
              show GX T 1 135 83 [(2, 192), (0, (h : Int)), (0, (p : Int)), (0, (q : Int)), (0, (k : Int))] [(0, (D p tq)), (0, (D p tk))] m (RI (fun v m1 => BestOf c (fun t : Nat => ¬ (t : Int) = m 192 23 ∧ ¬ m 200 (16 * h + (11 + t)) = 0 ∧ D p (w (31 + 2 * t)).toNat < FAR) (fun t : Nat => D p (w (31 + 2 * t)).toNat) v ∧ m1 = m))
              refine gx_ic (P := (D p tq) ≤ (D p tk)) r_135_83 (rfl) (fun h83 => ?_) (fun h83 => ?_)
              · refine gx_li (z := (k : Int) + 1) (L' := [(2, 192), (0, (h : Int)), (0, (p : Int)), (0, (q : Int)), (0, (k : Int) + 1)]) r_135_89 rfl (w32_eq (by omega) (by omega) (by omega)) rfl ?_
                refine gx_st (L' := [(2, 192), (0, (h : Int)), (0, (p : Int)), (0, (q : Int)), (0, (k : Int) + 1)]) (S' := []) r_135_92 rfl rfl rfl ?_
                rw [show (k : Int) + 1 = ((k + 1 : Nat) : Int) from rfl]
                refine ih (k + 1) _ (by omega) (by omega) (BestOf_no hb (fun ck => ?_))
                obtain ⟨c1, c2, c3⟩ := ck
                first
                  | exact absurd c1 h22
                  | exact absurd h35 c2
                  | (exfalso; rw [nat_of htk] at c3; have c4 : D p tk < 1000000000 := c3; omega)
                  | exact ⟨q, hq1, rfl, (show D p (w (31 + 2 * q)).toNat ≤ D p (w (31 + 2 * k)).toNat by rw [nat_of htk, nat_of htq]; omega)⟩
              · refine gx_st (L' := [(2, 192), (0, (h : Int)), (0, (p : Int)), (0, (q : Int)), (0, (k : Int))]) (S' := [(0, (k : Int))]) r_135_86 rfl rfl rfl ?_
                refine gx_st (L' := [(2, 192), (0, (h : Int)), (0, (p : Int)), (0, (k : Int)), (0, (k : Int))]) (S' := []) r_135_88 rfl rfl rfl ?_
                refine gx_li (z := (k : Int) + 1) (L' := [(2, 192), (0, (h : Int)), (0, (p : Int)), (0, (k : Int)), (0, (k : Int) + 1)]) r_135_89 rfl (w32_eq (by omega) (by omega) (by omega)) rfl ?_
                refine gx_st (L' := [(2, 192), (0, (h : Int)), (0, (p : Int)), (0, (k : Int)), (0, (k : Int) + 1)]) (S' := []) r_135_92 rfl rfl rfl ?_
                rw [show (k : Int) + 1 = ((k + 1 : Nat) : Int) from rfl]
                refine ih (k + 1) _ (by omega) (by omega) (BestOf_new hb ⟨h22, h35, by rw [nat_of htk]; show D p tk < 1000000000; omega⟩ (fun i hi e => ?_))
                show D p (w (31 + 2 * k)).toNat < D p (w (31 + 2 * i)).toNat
                first
                  | (exfalso; omega)
                  | (have ei : i = q := by omega
                     rw [ei, nat_of htk, nat_of htq]; omega)
          · refine gx_st (L' := [(2, 192), (0, (h : Int)), (0, (p : Int)), (0, y), (0, (k : Int))]) (S' := []) r_135_54 rfl rfl rfl ?_
            refine gx_li (z := (k : Int) + 1) (L' := [(2, 192), (0, (h : Int)), (0, (p : Int)), (0, y), (0, (k : Int) + 1)]) r_135_89 rfl (w32_eq (by omega) (by omega) (by omega)) rfl ?_
            refine gx_st (L' := [(2, 192), (0, (h : Int)), (0, (p : Int)), (0, y), (0, (k : Int) + 1)]) (S' := []) r_135_92 rfl rfl rfl ?_
            rw [show (k : Int) + 1 = ((k + 1 : Nat) : Int) from rfl]
            refine ih (k + 1) _ (by omega) (by omega) (BestOf_no hb (fun ck => ?_))
            obtain ⟨c1, c2, c3⟩ := ck
            first
              | exact absurd c1 h22
              | exact absurd h35 c2
              | (exfalso; rw [nat_of htk] at c3; have c4 : D p tk < 1000000000 := c3; omega)
              | exact ⟨q, hq1, rfl, (show D p (w (31 + 2 * q)).toNat ≤ D p (w (31 + 2 * k)).toNat by rw [nat_of htk, nat_of htq]; omega)⟩
theorem v_135 (hT : TT T) (hp : PinR m) {w : Wd} (hB : WB w) {nt : Int} (hE : EW nt m w) {D : Nat → Nat → Int} (eD : ∀ a b : Nat, a < 7 → b < 7 → m 199 (7 * a + b) = D a b) (hP : WP w) {h p c : Nat} (hh : h < 13) (hp7 : p < 7) (hc : w 5 = (c : Int)) : GX T 1 135 0 [(2, 192), (0, (h : Int)), (0, (p : Int)), (9, 0), (9, 0)] [] m (RI (fun v m1 => BestOf c (fun t : Nat => ¬ (t : Int) = m 192 23 ∧ ¬ m 200 (16 * h + (11 + t)) = 0 ∧ D p (w (31 + 2 * t)).toNat < FAR) (fun t : Nat => D p (w (31 + 2 * t)).toNat) v ∧ m1 = m)) := by
  refine gx_st (L' := [(2, 192), (0, (h : Int)), (0, (p : Int)), (9, 0), (9, 0)]) (S' := [(0, (-1))]) r_135_0 rfl rfl rfl ?_
  refine gx_st (L' := [(2, 192), (0, (h : Int)), (0, (p : Int)), (0, (-1)), (9, 0)]) (S' := []) r_135_1 rfl rfl rfl ?_
  refine gx_st (L' := [(2, 192), (0, (h : Int)), (0, (p : Int)), (0, (-1)), (9, 0)]) (S' := [(0, 0)]) r_135_2 rfl rfl rfl ?_
  refine gx_st (L' := [(2, 192), (0, (h : Int)), (0, (p : Int)), (0, (-1)), (0, 0)]) (S' := []) r_135_3 rfl rfl rfl ?_
  exact sr_l hT hp hB hE eD hP hh hp7 hc (c + 1) 0 (-1) (by omega) (by omega) BestOf_0
theorem y_135 (hT : TT T) (hp : PinR m) {w : Wd} (hB : WB w) {nt : Int} (hE : EW nt m w) {D : Nat → Nat → Int} (eD : ∀ a b : Nat, a < 7 → b < 7 → m 199 (7 * a + b) = D a b) (hP : WP w) {h : Nat} (hh : h < 13) {s : Wd} (hr : RowR nt m h s) (h0 : ∀ t : Nat, t < 5 → (t : Int) < w 5 → 0 ≤ s (11 + t)) (hnt : NtS nt w s) {p : Nat} (hp7 : p < 7) : GX T 1 135 0 [(2, 192), (0, (h : Int)), (0, (p : Int)), (9, 0), (9, 0)] [] m (RI (fun v m1 => v = steerF w D p s ∧ m1 = m)) := by
  have b5 := hB.2.2.1
  refine gx_imp (v_135 hT hp hB hE eD hP hh hp7 (c := (w 5).toNat) (by omega)) (fun v m1 ⟨x, e, f, g⟩ => ⟨x, e, BestOf_eq f (bestF_of _ _ _) (fun t ht => ?_) (fun t ht _ => rfl), g⟩)
  show (¬ (t : Int) = m 192 23 ∧ ¬ m 200 (16 * h + (11 + t)) = 0 ∧ D p (w (31 + 2 * t)).toNat < FAR) ↔ (decide (0 < s (11 + t)) && decide (D p (w (31 + 2 * t)).toNat < FAR)) = true
  rw [Bool.and_eq_true, decide_eq_true_eq, decide_eq_true_eq, hE.2.2.2.2.1]
  have k0 := h0 t (by omega) (by omega)
  by_cases c : (t : Int) = nt
  · have := hnt t c (by omega)
    exact ⟨fun z => absurd c z.1, fun z => absurd z.1 (by omega)⟩
  · rw [hr.1.2.2 t (by omega) c]
    exact ⟨fun z => ⟨by omega, z.2.2⟩, fun z => ⟨c, by omega, z.2⟩⟩
theorem can_w0 {w s : Wd} {D : Nat → Nat → Int} {h a : Int} (hb : ¬ s 1 = -1) (ha : ¬ a = 1) (h1 : ¬ h < s 3) : ¬ canF w D h a s = true := by
  by_cases c : a = 0
  · exact can_a0 c
  · exact can_so hb c ha h1
theorem y_137 (hT : TT T) (hp : PinR m) {w : Wd} (hB : WB w) {nt : Int} (hE : EW nt m w) {D : Nat → Nat → Int} (eD : ∀ a b : Nat, a < 7 → b < 7 → m 199 (7 * a + b) = D a b) {h : Nat} (hh : h < 13) {s : Wd} (hr : RowR nt m h s) (hS : SBw w s) {a : Int} (ha : 0 ≤ a ∧ a ≤ 16) : GX T 2 137 0 [(2, 192), (0, (h : Int)), (0, a), (9, 0)] [] m (RI (fun v m1 => v = (if canF w D (h : Int) a s = true then 1 else 0) ∧ m1 = m)) := by
  refine gx_st (L' := [(2, 192), (0, (h : Int)), (0, a), (9, 0)]) (S' := [(2, 192)]) r_137_0 rfl rfl rfl ?_
  refine gx_st (L' := [(2, 192), (0, (h : Int)), (0, a), (9, 0)]) (S' := [(0, (h : Int)), (2, 192)]) r_137_1 rfl rfl rfl ?_
  refine gx_st (L' := [(2, 192), (0, (h : Int)), (0, a), (9, 0)]) (S' := [(0, 1), (0, (h : Int)), (2, 192)]) r_137_2 rfl rfl rfl ?_
  refine gx_ci (nx := 6) (S2 := []) (l_131 hT hp (h := h) (k := 1) (i := 16 * h + 1) (by omega) (by omega)) r_137_3 rfl rfl rfl rfl rfl (rcv_v rfl (ty_192 hT) (by decide) rfl (by decide)) rfl (by decide) rfl (fun x3 n3 q3 => ?_)
  obtain ⟨e_x3, z_x3⟩ := q3
  obtain rfl := z_x3.symm
  rw [e_x3, hr.1.1 1 (by decide) (by decide)]
  show GX T 2 137 6 [(2, 192), (0, (h : Int)), (0, a), (9, 0)] [(0, (s 1))] m (RI (fun v m1 => v = (if canF w D (h : Int) a s = true then 1 else 0) ∧ m1 = m))
  refine gx_st (L' := [(2, 192), (0, (h : Int)), (0, a), (9, 0)]) (S' := [(0, (-1)), (0, (s 1))]) r_137_6 rfl rfl rfl ?_
  refine gx_ic (P := ¬ (s 1) = (-1)) r_137_7 (rfl) (fun h7 => ?_) (fun h7 => ?_)
  · have b0 := hB.1
    obtain ⟨p, hs0, hpn⟩ : ∃ p : Nat, s 0 = (p : Int) ∧ (p : Int) < w 0 := by
      rcases hS with z | ⟨b, p, _, _, q1, q2⟩
      · exact absurd z h7
      · exact ⟨p, q1, q2⟩
    refine gx_st (L' := [(2, 192), (0, (h : Int)), (0, a), (9, 0)]) (S' := [(2, 192)]) r_137_12 rfl rfl rfl ?_
    refine gx_st (L' := [(2, 192), (0, (h : Int)), (0, a), (9, 0)]) (S' := [(0, (h : Int)), (2, 192)]) r_137_13 rfl rfl rfl ?_
    refine gx_st (L' := [(2, 192), (0, (h : Int)), (0, a), (9, 0)]) (S' := [(0, 3), (0, (h : Int)), (2, 192)]) r_137_14 rfl rfl rfl ?_
    refine gx_ci (nx := 18) (S2 := []) (l_131 hT hp (h := h) (k := 3) (i := 16 * h + 3) (by omega) (by omega)) r_137_15 rfl rfl rfl rfl rfl (rcv_v rfl (ty_192 hT) (by decide) rfl (by decide)) rfl (by decide) rfl (fun x15 n15 q15 => ?_)
    obtain ⟨e_x15, z_x15⟩ := q15
    obtain rfl := z_x15.symm
    rw [e_x15, hr.2 h7]
    show GX T 2 137 18 [(2, 192), (0, (h : Int)), (0, a), (9, 0)] [(0, (max 0 (s 3 - (h : Int))))] m (RI (fun v m1 => v = (if canF w D (h : Int) a s = true then 1 else 0) ∧ m1 = m))
    refine gx_i0 (P := (max 0 (s 3 - (h : Int))) ≤ 0) r_137_18 (rfl) (fun h18 => ?_) (fun h18 => ?_)
    · refine gx_st (L' := [(2, 192), (0, (h : Int)), (0, a), (9, 0)]) (S' := [(0, 0)]) r_137_25 rfl rfl rfl ?_
      refine gx_st (L' := [(2, 192), (0, (h : Int)), (0, a), (0, 0)]) (S' := []) r_137_26 rfl rfl rfl ?_
      refine gx_st (L' := [(2, 192), (0, (h : Int)), (0, a), (0, 0)]) (S' := [(0, a)]) r_137_27 rfl rfl rfl ?_
      refine gx_st (L' := [(2, 192), (0, (h : Int)), (0, a), (0, 0)]) (S' := [(0, 1), (0, a)]) r_137_28 rfl rfl rfl ?_
      refine gx_ic (P := ¬ a = 1) r_137_29 (rfl) (fun h29 => ?_) (fun h29 => ?_)
      · refine gx_st (L' := [(2, 192), (0, (h : Int)), (0, a), (0, 0)]) (S' := [(0, 0)]) r_137_52 rfl rfl rfl ?_
        refine gx_i0 (P := ¬ 0 = 0) r_137_53 (rfl) (fun h53 => ?_) (fun h53 => ?_)
        · omega
        · have h53 := Decidable.not_not.mp h53
          refine gx_st (L' := [(2, 192), (0, (h : Int)), (0, a), (0, 0)]) (S' := [(0, 0)]) r_137_56 rfl rfl rfl ?_
          exact gx_rb r_137_57 rfl (Or.inl rfl) ⟨_, rfl, (if_neg (can_w0 h7 h29 (by omega))).symm, rfl⟩
      · have h29 := Decidable.not_not.mp h29
        refine gx_st (L' := [(2, 192), (0, (h : Int)), (0, a), (0, 0)]) (S' := [(0, 0)]) r_137_32 rfl rfl rfl ?_
        refine gx_i0 (P := ¬ 0 = 0) r_137_33 (rfl) (fun h33 => ?_) (fun h33 => ?_)
        · omega
        · have h33 := Decidable.not_not.mp h33
          refine gx_st (L' := [(2, 192), (0, (h : Int)), (0, a), (0, 0)]) (S' := [(2, 192)]) r_137_36 rfl rfl rfl ?_
          refine gx_st (L' := [(2, 192), (0, (h : Int)), (0, a), (0, 0)]) (S' := [(0, (h : Int)), (2, 192)]) r_137_37 rfl rfl rfl ?_
          refine gx_st (L' := [(2, 192), (0, (h : Int)), (0, a), (0, 0)]) (S' := [(0, (h : Int)), (0, (h : Int)), (2, 192)]) r_137_38 rfl rfl rfl ?_
          refine gx_ci (nx := 42) (S2 := []) (y_136 hT hp hB hE hh hr (hr2 := (h : Int)) (by omega)) r_137_39 rfl rfl rfl rfl rfl (rcv_v rfl (ty_192 hT) (by decide) rfl (by decide)) rfl (by decide) rfl (fun x39 n39 q39 => ?_)
          obtain rfl := q39.1.symm
          obtain rfl := q39.2.symm
          show GX T 2 137 42 [(2, 192), (0, (h : Int)), (0, a), (0, 0)] [(0, (vineF w (s 0) (h : Int) (s 4)))] m (RI (fun v m1 => v = (if canF w D (h : Int) a s = true then 1 else 0) ∧ m1 = m))
          rw [hs0]
          refine gx_st (L' := [(2, 192), (0, (h : Int)), (0, a), (0, 0)]) (S' := [(0, (-1)), (0, (vineF w (p : Int) (h : Int) (s 4)))]) r_137_42 rfl rfl rfl ?_
          refine gx_ic (P := (vineF w (p : Int) (h : Int) (s 4)) = (-1)) r_137_43 (rfl) (fun h43 => ?_) (fun h43 => ?_)
          · refine gx_st (L' := [(2, 192), (0, (h : Int)), (0, a), (0, 0)]) (S' := [(0, 0)]) r_137_50 rfl rfl rfl ?_
            exact gx_rb r_137_51 rfl (Or.inl rfl) ⟨_, rfl, (if_neg (can_of0 h7 hs0 h29 (by first | exact Or.inr h43 | exact Or.inl (by omega)))).symm, rfl⟩
          · refine gx_st (L' := [(2, 192), (0, (h : Int)), (0, a), (0, 0)]) (S' := [(0, 1)]) r_137_46 rfl rfl rfl ?_
            refine gx_st (L' := [(2, 192), (0, (h : Int)), (0, a), (0, 0)]) (S' := [(0, 1)]) r_137_47 rfl rfl rfl ?_
            exact gx_rb r_137_51 rfl (Or.inr rfl) ⟨_, rfl, (if_pos (can_of h7 hs0 h29 (by omega) h43)).symm, rfl⟩
    · refine gx_st (L' := [(2, 192), (0, (h : Int)), (0, a), (9, 0)]) (S' := [(0, 1)]) r_137_21 rfl rfl rfl ?_
      refine gx_st (L' := [(2, 192), (0, (h : Int)), (0, a), (9, 0)]) (S' := [(0, 1)]) r_137_22 rfl rfl rfl ?_
      refine gx_st (L' := [(2, 192), (0, (h : Int)), (0, a), (0, 1)]) (S' := []) r_137_26 rfl rfl rfl ?_
      refine gx_st (L' := [(2, 192), (0, (h : Int)), (0, a), (0, 1)]) (S' := [(0, a)]) r_137_27 rfl rfl rfl ?_
      refine gx_st (L' := [(2, 192), (0, (h : Int)), (0, a), (0, 1)]) (S' := [(0, 1), (0, a)]) r_137_28 rfl rfl rfl ?_
      refine gx_ic (P := ¬ a = 1) r_137_29 (rfl) (fun h29 => ?_) (fun h29 => ?_)
      · refine gx_st (L' := [(2, 192), (0, (h : Int)), (0, a), (0, 1)]) (S' := [(0, 1)]) r_137_52 rfl rfl rfl ?_
        refine gx_i0 (P := ¬ 1 = 0) r_137_53 (rfl) (fun h53 => ?_) (fun h53 => ?_)
        · refine gx_st (L' := [(2, 192), (0, (h : Int)), (0, a), (0, 1)]) (S' := [(0, a)]) r_137_58 rfl rfl rfl ?_
          refine gx_st (L' := [(2, 192), (0, (h : Int)), (0, a), (0, 1)]) (S' := [(0, 2), (0, a)]) r_137_59 rfl rfl rfl ?_
          refine gx_ic (P := ¬ a = 2) r_137_60 (rfl) (fun h60 => ?_) (fun h60 => ?_)
          · refine gx_st (L' := [(2, 192), (0, (h : Int)), (0, a), (0, 1)]) (S' := [(0, a)]) r_137_94 rfl rfl rfl ?_
            refine gx_st (L' := [(2, 192), (0, (h : Int)), (0, a), (0, 1)]) (S' := [(0, 10), (0, a)]) r_137_95 rfl rfl rfl ?_
            refine gx_ic (P := a < 10) r_137_97 (rfl) (fun h97 => ?_) (fun h97 => ?_)
            · refine gx_st (L' := [(2, 192), (0, (h : Int)), (0, a), (0, 1)]) (S' := [(0, 0)]) r_137_122 rfl rfl rfl ?_
              exact gx_rb r_137_123 rfl (Or.inl rfl) ⟨_, rfl, (if_neg (by first | exact can_no h29 h60 h97 | exact (fun z => h115 ((can_car h7 hs0 he (by omega)).mp z)))).symm, rfl⟩
            · obtain ⟨e, he⟩ : ∃ e : Nat, a = 10 + (e : Int) := ⟨(a - 10).toNat, by omega⟩
              refine gx_st (L' := [(2, 192), (0, (h : Int)), (0, a), (0, 1)]) (S' := [(2, 192)]) r_137_100 rfl rfl rfl ?_
              refine gx_st (L' := [(2, 192), (0, (h : Int)), (0, a), (0, 1)]) (S' := [(2, 192), (2, 192)]) r_137_101 rfl rfl rfl ?_
              refine gx_st (L' := [(2, 192), (0, (h : Int)), (0, a), (0, 1)]) (S' := [(0, (h : Int)), (2, 192), (2, 192)]) r_137_102 rfl rfl rfl ?_
              refine gx_st (L' := [(2, 192), (0, (h : Int)), (0, a), (0, 1)]) (S' := [(0, 0), (0, (h : Int)), (2, 192), (2, 192)]) r_137_103 rfl rfl rfl ?_
              refine gx_ci (nx := 107) (S2 := [(2, 192)]) (l_131 hT hp (h := h) (k := 0) (i := 16 * h + 0) (by omega) (by omega)) r_137_104 rfl rfl rfl rfl rfl (rcv_v rfl (ty_192 hT) (by decide) rfl (by decide)) rfl (by decide) rfl (fun x104 n104 q104 => ?_)
              obtain ⟨e_x104, z_x104⟩ := q104
              obtain rfl := z_x104.symm
              rw [e_x104, hr.1.1 0 (by decide) (by decide)]
              show GX T 2 137 107 [(2, 192), (0, (h : Int)), (0, a), (0, 1)] [(0, (s 0)), (2, 192)] m (RI (fun v m1 => v = (if canF w D (h : Int) a s = true then 1 else 0) ∧ m1 = m))
              rw [hs0]
              refine gx_st (L' := [(2, 192), (0, (h : Int)), (0, a), (0, 1)]) (S' := [(0, a), (0, (p : Int)), (2, 192)]) r_137_107 rfl rfl rfl ?_
              refine gx_st (L' := [(2, 192), (0, (h : Int)), (0, a), (0, 1)]) (S' := [(0, 10), (0, a), (0, (p : Int)), (2, 192)]) r_137_108 rfl rfl rfl ?_
              refine gx_ar (L' := [(2, 192), (0, (h : Int)), (0, a), (0, 1)]) (S' := [(0, (p : Int)), (2, 192)]) (t := 0) (e := w32 (a - 10)) (z := (e : Int)) r_137_110 rfl rfl rfl (w32_eq (by omega) (by omega) (by omega)) ?_
              refine gx_ci (nx := 114) (S2 := []) (l_123 hT hp (a := p) (b := e) (by omega) (by omega)) r_137_111 rfl rfl rfl rfl rfl (rcv_v rfl (ty_192 hT) (by decide) rfl (by decide)) rfl (by decide) rfl (fun x111 n111 q111 => ?_)
              obtain ⟨e_x111, z_x111⟩ := q111
              obtain rfl := z_x111.symm
              rw [e_x111, eD p e (by omega) (by omega)]
              show GX T 2 137 114 [(2, 192), (0, (h : Int)), (0, a), (0, 1)] [(0, (D p e))] m (RI (fun v m1 => v = (if canF w D (h : Int) a s = true then 1 else 0) ∧ m1 = m))
              refine gx_st (L' := [(2, 192), (0, (h : Int)), (0, a), (0, 1)]) (S' := [(0, 1), (0, (D p e))]) r_137_114 rfl rfl rfl ?_
              refine gx_ic (P := ¬ (D p e) = 1) r_137_115 (rfl) (fun h115 => ?_) (fun h115 => ?_)
              · refine gx_st (L' := [(2, 192), (0, (h : Int)), (0, a), (0, 1)]) (S' := [(0, 0)]) r_137_122 rfl rfl rfl ?_
                exact gx_rb r_137_123 rfl (Or.inl rfl) ⟨_, rfl, (if_neg (by first | exact can_no h29 h60 h97 | exact (fun z => h115 ((can_car h7 hs0 he (by omega)).mp z)))).symm, rfl⟩
              · have h115 := Decidable.not_not.mp h115
                refine gx_st (L' := [(2, 192), (0, (h : Int)), (0, a), (0, 1)]) (S' := [(0, 1)]) r_137_118 rfl rfl rfl ?_
                refine gx_st (L' := [(2, 192), (0, (h : Int)), (0, a), (0, 1)]) (S' := [(0, 1)]) r_137_119 rfl rfl rfl ?_
                exact gx_rb r_137_123 rfl (Or.inr rfl) ⟨_, rfl, (if_pos ((can_car h7 hs0 he (by omega)).mpr h115)).symm, rfl⟩
          · have h60 := Decidable.not_not.mp h60
            refine gx_st (L' := [(2, 192), (0, (h : Int)), (0, a), (0, 1)]) (S' := [(2, 192)]) r_137_63 rfl rfl rfl ?_
            refine gx_gf (x := 193) 2 r_137_64 (rfl) (ty_192 hT) ⟨by decide, rfl, by decide, by decide⟩ rfl (fun _ => by omega) (pin_at hp (t := 193) rfl (by decide)) ?_
            refine gx_st (L' := [(2, 192), (0, (h : Int)), (0, a), (0, 1)]) (S' := [(0, 10), (2, 193)]) r_137_67 rfl rfl rfl ?_
            refine gx_ia (n := 10) (x := (m 193 10)) r_137_69 (rfl) (ty_193 hT) (rfl) ⟨rfl, by decide⟩ (rfl) ?_
            refine gx_st (L' := [(2, 192), (0, (h : Int)), (0, a), (0, 1)]) (S' := [(2, 192), (0, (m 193 10))]) r_137_70 rfl rfl rfl ?_
            refine gx_gf (x := (m 192 25)) 0 r_137_71 (rfl) (ty_192 hT) ⟨by decide, rfl, by decide, by decide⟩ rfl (fun z => absurd z (by decide)) (rfl) ?_
            refine gx_st (L' := [(2, 192), (0, (h : Int)), (0, a), (0, 1)]) (S' := [(0, (ior (m 193 10) (m 192 25)))]) r_137_74 rfl rfl rfl ?_
            rw [show (ior (m 193 10) (m 192 25)) = (w 10) from hE.2.2.1]
            refine gx_st (L' := [(2, 192), (0, (h : Int)), (0, a), (0, 1)]) (S' := [(2, 192), (0, (w 10))]) r_137_75 rfl rfl rfl ?_
            refine gx_st (L' := [(2, 192), (0, (h : Int)), (0, a), (0, 1)]) (S' := [(0, (h : Int)), (2, 192), (0, (w 10))]) r_137_76 rfl rfl rfl ?_
            refine gx_st (L' := [(2, 192), (0, (h : Int)), (0, a), (0, 1)]) (S' := [(0, 0), (0, (h : Int)), (2, 192), (0, (w 10))]) r_137_77 rfl rfl rfl ?_
            refine gx_ci (nx := 81) (S2 := [(0, (w 10))]) (l_131 hT hp (h := h) (k := 0) (i := 16 * h + 0) (by omega) (by omega)) r_137_78 rfl rfl rfl rfl rfl (rcv_v rfl (ty_192 hT) (by decide) rfl (by decide)) rfl (by decide) rfl (fun x78 n78 q78 => ?_)
            obtain ⟨e_x78, z_x78⟩ := q78
            obtain rfl := z_x78.symm
            rw [e_x78, hr.1.1 0 (by decide) (by decide)]
            show GX T 2 137 81 [(2, 192), (0, (h : Int)), (0, a), (0, 1)] [(0, (s 0)), (0, (w 10))] m (RI (fun v m1 => v = (if canF w D (h : Int) a s = true then 1 else 0) ∧ m1 = m))
            rw [hs0]
            refine gx_ci (nx := 84) (S2 := []) (x_87 (w 10) (p : Int)) r_137_81 rfl rfl rfl rfl rfl rfl rfl (by decide) rfl (fun x81 n81 q81 => ?_)
            obtain rfl := q81.1.symm
            obtain rfl := q81.2.symm
            show GX T 2 137 84 [(2, 192), (0, (h : Int)), (0, a), (0, 1)] [(0, (iand (ishr (w 10) (p : Int)) 1))] m (RI (fun v m1 => v = (if canF w D (h : Int) a s = true then 1 else 0) ∧ m1 = m))
            refine gx_st (L' := [(2, 192), (0, (h : Int)), (0, a), (0, 1)]) (S' := [(0, 1), (0, (iand (ishr (w 10) (p : Int)) 1))]) r_137_84 rfl rfl rfl ?_
            refine gx_ic (P := ¬ (iand (ishr (w 10) (p : Int)) 1) = 1) r_137_85 (rfl) (fun h85 => ?_) (fun h85 => ?_)
            · refine gx_st (L' := [(2, 192), (0, (h : Int)), (0, a), (0, 1)]) (S' := [(0, 0)]) r_137_92 rfl rfl rfl ?_
              exact gx_rb r_137_93 rfl (Or.inl rfl) ⟨_, rfl, (if_neg (fun z => h85 ((can_thr h7 hs0 h60 (by omega)).mp z))).symm, rfl⟩
            · have h85 := Decidable.not_not.mp h85
              refine gx_st (L' := [(2, 192), (0, (h : Int)), (0, a), (0, 1)]) (S' := [(0, 1)]) r_137_88 rfl rfl rfl ?_
              refine gx_st (L' := [(2, 192), (0, (h : Int)), (0, a), (0, 1)]) (S' := [(0, 1)]) r_137_89 rfl rfl rfl ?_
              exact gx_rb r_137_93 rfl (Or.inr rfl) ⟨_, rfl, (if_pos ((can_thr h7 hs0 h60 (by omega)).mpr h85)).symm, rfl⟩
        · have h53 := Decidable.not_not.mp h53
          omega
      · have h29 := Decidable.not_not.mp h29
        refine gx_st (L' := [(2, 192), (0, (h : Int)), (0, a), (0, 1)]) (S' := [(0, 1)]) r_137_32 rfl rfl rfl ?_
        refine gx_i0 (P := ¬ 1 = 0) r_137_33 (rfl) (fun h33 => ?_) (fun h33 => ?_)
        · refine gx_st (L' := [(2, 192), (0, (h : Int)), (0, a), (0, 1)]) (S' := [(0, 0)]) r_137_50 rfl rfl rfl ?_
          exact gx_rb r_137_51 rfl (Or.inl rfl) ⟨_, rfl, (if_neg (can_of0 h7 hs0 h29 (by first | exact Or.inr h43 | exact Or.inl (by omega)))).symm, rfl⟩
        · have h33 := Decidable.not_not.mp h33
          omega
  · have h7 := Decidable.not_not.mp h7
    refine gx_st (L' := [(2, 192), (0, (h : Int)), (0, a), (9, 0)]) (S' := [(0, 0)]) r_137_10 rfl rfl rfl ?_
    exact gx_rb r_137_11 rfl (Or.inl rfl) ⟨_, rfl, (if_neg (can_b0 h7)).symm, rfl⟩
end SEEKR
