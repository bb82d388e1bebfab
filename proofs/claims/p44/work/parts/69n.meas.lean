/-! the ways of the class exactly -/
theorem r_256_0 : row 256 0 = some (.aload_n 0, 1, 0, 0, 0, 0) := rfl
theorem r_256_1 : row 256 1 = some (.getfield 64, 4, 3, 17, 2, 1133) := rfl
theorem r_256_4 : row 256 4 = some (.iconst (-1), 5, (-1), 0, 0, 0) := rfl
theorem r_256_5 : row 256 5 = some (.invokestatic 67, 8, 240, 2, 10, 2234) := rfl
theorem r_256_8 : row 256 8 = some (.iconst 0, 9, 0, 0, 0, 0) := rfl
theorem r_256_9 : row 256 9 = some (.istore_n 1, 10, 0, 0, 0, 0) := rfl
theorem r_256_10 : row 256 10 = some (.iload_n 1, 11, 0, 0, 0, 0) := rfl
theorem r_256_11 : row 256 11 = some (.aload_n 0, 12, 0, 0, 0, 0) := rfl
theorem r_256_12 : row 256 12 = some (.getfield 15, 15, 3, 1, 0, 1069) := rfl
theorem r_256_15 : row 256 15 = some (.if_icmp .ge 14, 18, 29, 0, 0, 0) := rfl
theorem r_256_18 : row 256 18 = some (.aload_n 0, 19, 0, 0, 0, 0) := rfl
theorem r_256_19 : row 256 19 = some (.iload_n 1, 20, 0, 0, 0, 0) := rfl
theorem r_256_20 : row 256 20 = some (.invokevirtual 85, 23, 257, 1, 0, 3139) := rfl
theorem r_256_23 : row 256 23 = some (.iinc 1 1, 26, 0, 0, 0, 0) := rfl
theorem r_256_26 : row 256 26 = some (.goto (-16), 29, 10, 0, 0, 0) := rfl
theorem r_256_29 : row 256 29 = some (.return_, 30, 0, 0, 0, 0) := rfl
theorem r_257_0 : row 257 0 = some (.iconst 0, 1, 0, 0, 0, 0) := rfl
theorem r_257_1 : row 257 1 = some (.istore_n 2, 2, 0, 0, 0, 0) := rfl
theorem r_257_2 : row 257 2 = some (.iconst 1, 3, 1, 0, 0, 0) := rfl
theorem r_257_3 : row 257 3 = some (.iload_n 1, 4, 0, 0, 0, 0) := rfl
theorem r_257_4 : row 257 4 = some (.ishl, 5, 0, 0, 0, 0) := rfl
theorem r_257_5 : row 257 5 = some (.istore_n 3, 6, 0, 0, 0, 0) := rfl
theorem r_257_6 : row 257 6 = some (.iconst 0, 7, 0, 0, 0, 0) := rfl
theorem r_257_7 : row 257 7 = some (.istore 4, 9, 0, 0, 0, 0) := rfl
theorem r_257_9 : row 257 9 = some (.iload 4, 11, 0, 0, 0, 0) := rfl
theorem r_257_11 : row 257 11 = some (.bipush 7, 13, 7, 0, 0, 0) := rfl
theorem r_257_13 : row 257 13 = some (.if_icmp .ge 80, 16, 93, 0, 0, 0) := rfl
theorem r_257_16 : row 257 16 = some (.iconst 0, 17, 0, 0, 0, 0) := rfl
theorem r_257_17 : row 257 17 = some (.istore 5, 19, 0, 0, 0, 0) := rfl
theorem r_257_19 : row 257 19 = some (.iconst 0, 20, 0, 0, 0, 0) := rfl
theorem r_257_20 : row 257 20 = some (.istore 6, 22, 0, 0, 0, 0) := rfl
theorem r_257_22 : row 257 22 = some (.iload 6, 24, 0, 0, 0, 0) := rfl
theorem r_257_24 : row 257 24 = some (.aload_n 0, 25, 0, 0, 0, 0) := rfl
theorem r_257_25 : row 257 25 = some (.getfield 15, 28, 3, 1, 0, 1069) := rfl
theorem r_257_28 : row 257 28 = some (.if_icmp .ge 48, 31, 76, 0, 0, 0) := rfl
theorem r_257_31 : row 257 31 = some (.iload_n 3, 32, 0, 0, 0, 0) := rfl
theorem r_257_32 : row 257 32 = some (.iload 6, 34, 0, 0, 0, 0) := rfl
theorem r_257_34 : row 257 34 = some (.invokestatic 89, 37, 242, 2, 10, 3143) := rfl
theorem r_257_37 : row 257 37 = some (.ifCond .eq 33, 40, 70, 0, 0, 0) := rfl
theorem r_257_40 : row 257 40 = some (.aload_n 0, 41, 0, 0, 0, 0) := rfl
theorem r_257_41 : row 257 41 = some (.getfield 64, 44, 3, 17, 2, 1133) := rfl
theorem r_257_44 : row 257 44 = some (.iload_n 1, 45, 0, 0, 0, 0) := rfl
theorem r_257_45 : row 257 45 = some (.bipush 7, 47, 7, 0, 0, 0) := rfl
theorem r_257_47 : row 257 47 = some (.imul, 48, 0, 0, 0, 0) := rfl
theorem r_257_48 : row 257 48 = some (.iload 6, 50, 0, 0, 0, 0) := rfl
theorem r_257_50 : row 257 50 = some (.iadd, 51, 0, 0, 0, 0) := rfl
theorem r_257_51 : row 257 51 = some (.iload 4, 53, 0, 0, 0, 0) := rfl
theorem r_257_53 : row 257 53 = some (.invokestatic 81, 56, 238, 3, 10, 3110) := rfl
theorem r_257_56 : row 257 56 = some (.iload 5, 58, 0, 0, 0, 0) := rfl
theorem r_257_58 : row 257 58 = some (.aload_n 0, 59, 0, 0, 0, 0) := rfl
theorem r_257_59 : row 257 59 = some (.getfield 61, 62, 3, 16, 2, 1130) := rfl
theorem r_257_62 : row 257 62 = some (.iload 6, 64, 0, 0, 0, 0) := rfl
theorem r_257_64 : row 257 64 = some (.invokestatic 77, 67, 237, 2, 10, 3107) := rfl
theorem r_257_67 : row 257 67 = some (.ior, 68, 0, 0, 0, 0) := rfl
theorem r_257_68 : row 257 68 = some (.istore 5, 70, 0, 0, 0, 0) := rfl
theorem r_257_70 : row 257 70 = some (.iinc 6 1, 73, 0, 0, 0, 0) := rfl
theorem r_257_73 : row 257 73 = some (.goto (-51), 76, 22, 0, 0, 0) := rfl
theorem r_257_76 : row 257 76 = some (.iload_n 2, 77, 0, 0, 0, 0) := rfl
theorem r_257_77 : row 257 77 = some (.iload_n 3, 78, 0, 0, 0, 0) := rfl
theorem r_257_78 : row 257 78 = some (.ior, 79, 0, 0, 0, 0) := rfl
theorem r_257_79 : row 257 79 = some (.istore_n 2, 80, 0, 0, 0, 0) := rfl
theorem r_257_80 : row 257 80 = some (.iload 5, 82, 0, 0, 0, 0) := rfl
theorem r_257_82 : row 257 82 = some (.iload_n 2, 83, 0, 0, 0, 0) := rfl
theorem r_257_83 : row 257 83 = some (.iconst (-1), 84, (-1), 0, 0, 0) := rfl
theorem r_257_84 : row 257 84 = some (.ixor, 85, 0, 0, 0, 0) := rfl
theorem r_257_85 : row 257 85 = some (.iand, 86, 0, 0, 0, 0) := rfl
theorem r_257_86 : row 257 86 = some (.istore_n 3, 87, 0, 0, 0, 0) := rfl
theorem r_257_87 : row 257 87 = some (.iinc 4 1, 90, 0, 0, 0, 0) := rfl
theorem r_257_90 : row 257 90 = some (.goto (-81), 93, 9, 0, 0, 0) := rfl
theorem r_257_93 : row 257 93 = some (.return_, 94, 0, 0, 0, 0) := rfl
theorem adj_ok {w : Wd} (b : WB w) : AdjOK (w 0).toNat (adjW w) := by
  obtain ⟨b0, b4, b5, b6, b7, bp⟩ := b
  refine ⟨by omega, fun a c h => ?_⟩
  obtain ⟨k, k1, k2, k3⟩ := h
  have := bp k k1 k2
  refine ⟨by omega, by omega, k, k1, k2, ?_⟩
  omega
/-- the isle at o has its ways -/
def IsWy (m : Mm) (o : Nat) (w : Wd) : Prop := ∀ d : Nat → Nat → Int, Wy (w 0) (adjW w) d → ∀ a b : Nat, (a : Int) < w 0 → (b : Int) < w 0 → m (o + 8) (7 * a + b) = if d a b < FAR then d a b else -1
section MEAS
variable {T : List Kd} {m : Mm} {n : Nat} {adj : Nat → Nat → Prop} {d : Nat → Nat → Int}
def FrP (p : Nat) (m0 m : Mm) : Prop := ∀ o j : Nat, ¬ (o = 21 ∧ 7 * p ≤ j ∧ j < 7 * p + 7) → m o j = m0 o j
theorem FrP_tr {p : Nat} {a b c : Mm} (h1 : FrP p a b) (h2 : FrP p b c) : FrP p a c := fun o j h => (h2 o j h).trans (h1 o j h)
theorem PinR_P {p : Nat} {m0 m : Mm} (hp : PinR m0) (f : FrP p m0 m) : PinR m := fun o i hq => by
  rw [f o i (fun z => hq (by rw [z.1]; rfl))]
  exact hp o i hq
/-- which are beside which, in the draft -/
def BA (m : Mm) (adj : Nat → Nat → Prop) : Prop := ∀ c : Nat, c < 7 → ∃ x : Nat, x < 128 ∧ m 20 c = (x : Int) ∧ ∀ q : Nat, q < 7 → (bt x q ↔ adj c q)
theorem BA_P {p : Nat} {m0 m : Mm} (h : BA m0 adj) (f : FrP p m0 m) : BA m adj := fun c hc => by
  obtain ⟨x, h1, h2, h3⟩ := h c hc
  exact ⟨x, h1, by rw [f 20 c (by omega)]; exact h2, h3⟩
theorem mf_in {m0 : Mm} {Q : AV → Mm → Prop} {p M E L : Nat} (hT : TT T) (hp0 : PinR m0) (hb0 : BA m0 adj) (h10 : m0 13 1 = (n : Int)) (hn7 : n ≤ 7) (hp7 : p < 7) (hE : E < 128) (hEb : ∀ b : Nat, b < 7 → (bt E b ↔ b < n ∧ d p b = (L : Int))) (hout : ∀ (W : Nat) (m : Mm), W < 128 → (∀ q : Nat, q < 7 → (bt W q ↔ ∃ c, c < n ∧ d p c = (L : Int) ∧ adj c q)) → FrP p m0 m → (∀ b : Nat, b < n → m 21 (7 * p + b) = if b < n ∧ d p b = (L : Int) then (L : Int) else m0 21 (7 * p + b)) → GX T 2 257 76 [(2, 13), (0, (p : Int)), (0, (M : Int)), (0, (E : Int)), (0, (L : Int)), (0, (W : Int)), (0, (n : Int))] [] m Q) : ∀ (N k W : Nat) (m : Mm), n - k < N → k ≤ n → W < 128 → (∀ q : Nat, q < 7 → (bt W q ↔ ∃ c, c < k ∧ d p c = (L : Int) ∧ adj c q)) → FrP p m0 m → (∀ b : Nat, b < n → m 21 (7 * p + b) = if b < k ∧ d p b = (L : Int) then (L : Int) else m0 21 (7 * p + b)) → GX T 2 257 22 [(2, 13), (0, (p : Int)), (0, (M : Int)), (0, (E : Int)), (0, (L : Int)), (0, (W : Int)), (0, (k : Int))] [] m Q := by
  intro N
  induction N with
  | zero => intro k W m hN; exact absurd hN (Nat.not_lt_zero _)
  | succ N ih =>
    intro k W m hN hk hW hWb hf hc
    have hpm := PinR_P hp0 hf
    have hbm := BA_P hb0 hf
    have h1m : m 13 1 = (n : Int) := (hf 13 1 (by omega)).trans h10
    refine gx_st (L' := [(2, 13), (0, (p : Int)), (0, (M : Int)), (0, (E : Int)), (0, (L : Int)), (0, (W : Int)), (0, (k : Int))]) (S' := [(0, (k : Int))]) r_257_22 rfl rfl rfl ?_
    refine gx_st (L' := [(2, 13), (0, (p : Int)), (0, (M : Int)), (0, (E : Int)), (0, (L : Int)), (0, (W : Int)), (0, (k : Int))]) (S' := [(2, 13), (0, (k : Int))]) r_257_24 rfl rfl rfl ?_
    refine gx_gf (x := (n : Int)) 0 r_257_25 (rfl) (ty_13 hT) ⟨by decide, rfl, by decide, by decide⟩ rfl (fun z => absurd z (by decide)) (h1m) ?_
    refine gx_ic (P := (n : Int) ≤ (k : Int)) r_257_28 (rfl) (fun h28 => ?_) (fun h28 => ?_)
    · have hkn : k = n := by omega
      rw [hkn] at hWb hc ⊢
      exact hout W m hW hWb hf hc
    · refine gx_st (L' := [(2, 13), (0, (p : Int)), (0, (M : Int)), (0, (E : Int)), (0, (L : Int)), (0, (W : Int)), (0, (k : Int))]) (S' := [(0, (E : Int))]) r_257_31 rfl rfl rfl ?_
      refine gx_st (L' := [(2, 13), (0, (p : Int)), (0, (M : Int)), (0, (E : Int)), (0, (L : Int)), (0, (W : Int)), (0, (k : Int))]) (S' := [(0, (k : Int)), (0, (E : Int))]) r_257_32 rfl rfl rfl ?_
      refine gx_ci (nx := 37) (S2 := []) (x_242 (E : Int) (k : Int)) r_257_34 rfl rfl rfl rfl rfl rfl rfl (by decide) rfl (fun x34 n34 q34 => ?_)
      obtain rfl := q34.1.symm
      obtain rfl := q34.2.symm
      show GX T 2 257 37 [(2, 13), (0, (p : Int)), (0, (M : Int)), (0, (E : Int)), (0, (L : Int)), (0, (W : Int)), (0, (k : Int))] [(0, (if 0 ≤ (k : Int) ∧ (k : Int) < 32 ∧ iand (ishr (E : Int) (k : Int)) 1 = 1 then 1 else 0))] m Q
      refine gx_i0 (P := ¬ (0 ≤ (k : Int) ∧ (k : Int) < 32 ∧ iand (ishr (E : Int) (k : Int)) 1 = 1)) r_257_37 (b01_eq) (fun h37 => ?_) (fun h37 => ?_)
      · refine gx_li (z := (k : Int) + 1) (L' := [(2, 13), (0, (p : Int)), (0, (M : Int)), (0, (E : Int)), (0, (L : Int)), (0, (W : Int)), (0, (k : Int) + 1)]) r_257_70 rfl (w32_eq (by omega) (by omega) (by omega)) rfl ?_
        refine gx_st (L' := [(2, 13), (0, (p : Int)), (0, (M : Int)), (0, (E : Int)), (0, (L : Int)), (0, (W : Int)), (0, (k : Int) + 1)]) (S' := []) r_257_73 rfl rfl rfl ?_
        have hkL : ¬ d p k = (L : Int) := fun z => h37 (by
          have e1 := (hEb k (by omega)).mpr ⟨by omega, z⟩
          unfold bt at e1
          have eb := bit_7 E hE k (by omega)
          rw [e1] at eb
          exact ⟨by omega, by omega, eb⟩)
        rw [show (k : Int) + 1 = ((k + 1 : Nat) : Int) from rfl]
        refine ih (k + 1) W m (by omega) (by omega) hW (fun q hq => ?_) hf (fun b hb => ?_)
        · rw [hWb q hq]
          constructor
          · rintro ⟨c, c1, c2, c3⟩
            exact ⟨c, by omega, c2, c3⟩
          · rintro ⟨c, c1, c2, c3⟩
            have : ¬ c = k := fun z => hkL (by rw [← z]; exact c2)
            exact ⟨c, by omega, c2, c3⟩
        · rw [hc b hb]
          by_cases y : b < k ∧ d p b = (L : Int)
          · rw [if_pos y, if_pos ⟨by omega, y.2⟩]
          · by_cases e : b = k
            · rw [if_neg y, if_neg (fun z => hkL (by rw [← e]; exact z.2))]
            · rw [if_neg y, if_neg (fun z => y ⟨by omega, z.2⟩)]
      · have h37 := Decidable.not_not.mp h37
        refine gx_st (L' := [(2, 13), (0, (p : Int)), (0, (M : Int)), (0, (E : Int)), (0, (L : Int)), (0, (W : Int)), (0, (k : Int))]) (S' := [(2, 13)]) r_257_40 rfl rfl rfl ?_
        refine gx_gf (x := 21) 2 r_257_41 (rfl) (ty_13 hT) ⟨by decide, rfl, by decide, by decide⟩ rfl (fun _ => by omega) (pin_at hpm (t := 21) rfl (by decide)) ?_
        refine gx_st (L' := [(2, 13), (0, (p : Int)), (0, (M : Int)), (0, (E : Int)), (0, (L : Int)), (0, (W : Int)), (0, (k : Int))]) (S' := [(0, (p : Int)), (2, 21)]) r_257_44 rfl rfl rfl ?_
        refine gx_st (L' := [(2, 13), (0, (p : Int)), (0, (M : Int)), (0, (E : Int)), (0, (L : Int)), (0, (W : Int)), (0, (k : Int))]) (S' := [(0, 7), (0, (p : Int)), (2, 21)]) r_257_45 rfl rfl rfl ?_
        refine gx_ar (L' := [(2, 13), (0, (p : Int)), (0, (M : Int)), (0, (E : Int)), (0, (L : Int)), (0, (W : Int)), (0, (k : Int))]) (S' := [(2, 21)]) (t := 0) (e := w32 ((p : Int) * 7)) (z := 7 * (p : Int)) r_257_47 rfl rfl rfl (w32_eq (by omega) (by omega) (by omega)) ?_
        refine gx_st (L' := [(2, 13), (0, (p : Int)), (0, (M : Int)), (0, (E : Int)), (0, (L : Int)), (0, (W : Int)), (0, (k : Int))]) (S' := [(0, (k : Int)), (0, 7 * (p : Int)), (2, 21)]) r_257_48 rfl rfl rfl ?_
        refine gx_ar (L' := [(2, 13), (0, (p : Int)), (0, (M : Int)), (0, (E : Int)), (0, (L : Int)), (0, (W : Int)), (0, (k : Int))]) (S' := [(2, 21)]) (t := 0) (e := w32 ((7 * (p : Int)) + (k : Int))) (z := 7 * (p : Int) + (k : Int)) r_257_50 rfl rfl rfl (w32_eq (by omega) (by omega) (by omega)) ?_
        refine gx_st (L' := [(2, 13), (0, (p : Int)), (0, (M : Int)), (0, (E : Int)), (0, (L : Int)), (0, (W : Int)), (0, (k : Int))]) (S' := [(0, (L : Int)), (0, 7 * (p : Int) + (k : Int)), (2, 21)]) r_257_51 rfl rfl rfl ?_
        refine gx_cv (nx := 56) (S2 := []) (c_238 (r := 21) (n := 49) (ty_21 hT) (by decide) (by decide) (k := 7 * p + k) (by omega) (L : Int)) r_257_53 rfl rfl rfl rfl rfl rfl rfl (by decide) rfl (fun n53 q53 => ?_)
        have f_n53 : FrP p m0 n53 := fun o j h => by
          rw [q53]
          by_cases e : o = 21
          · subst e; rw [nu_ne (by omega)]; exact hf 21 j h
          · rw [nu_no e]; exact hf o j h
        have hb_n53 : BA n53 adj := BA_P hb0 f_n53
        have hp_n53 := PinR_P hp0 f_n53
        refine gx_st (L' := [(2, 13), (0, (p : Int)), (0, (M : Int)), (0, (E : Int)), (0, (L : Int)), (0, (W : Int)), (0, (k : Int))]) (S' := [(0, (W : Int))]) r_257_56 rfl rfl rfl ?_
        refine gx_st (L' := [(2, 13), (0, (p : Int)), (0, (M : Int)), (0, (E : Int)), (0, (L : Int)), (0, (W : Int)), (0, (k : Int))]) (S' := [(2, 13), (0, (W : Int))]) r_257_58 rfl rfl rfl ?_
        refine gx_gf (x := 20) 2 r_257_59 (rfl) (ty_13 hT) ⟨by decide, rfl, by decide, by decide⟩ rfl (fun _ => by omega) (pin_at hp_n53 (t := 20) rfl (by decide)) ?_
        refine gx_st (L' := [(2, 13), (0, (p : Int)), (0, (M : Int)), (0, (E : Int)), (0, (L : Int)), (0, (W : Int)), (0, (k : Int))]) (S' := [(0, (k : Int)), (2, 20), (0, (W : Int))]) r_257_62 rfl rfl rfl ?_
        obtain ⟨x, hx1, hx2, hx3⟩ := hb_n53 k (by omega)
        refine gx_ci (nx := 67) (S2 := [(0, (W : Int))]) (c_237 (r := 20) (n := 7) (ty_20 hT) (by decide) (by decide) (k := k) (by omega)) r_257_64 rfl rfl rfl rfl rfl rfl rfl (by decide) rfl (fun x64 n64 q64 => ?_)
        have e_x64 := q64.1.trans hx2
        obtain rfl := e_x64.symm
        obtain rfl := q64.2.symm
        show GX T 2 257 67 [(2, 13), (0, (p : Int)), (0, (M : Int)), (0, (E : Int)), (0, (L : Int)), (0, (W : Int)), (0, (k : Int))] [(0, (x : Int)), (0, (W : Int))] n53 Q
        refine gx_st (L' := [(2, 13), (0, (p : Int)), (0, (M : Int)), (0, (E : Int)), (0, (L : Int)), (0, (W : Int)), (0, (k : Int))]) (S' := [(0, (ior (W : Int) (x : Int)))]) r_257_67 rfl rfl rfl ?_
        refine gx_st (L' := [(2, 13), (0, (p : Int)), (0, (M : Int)), (0, (E : Int)), (0, (L : Int)), (0, (ior (W : Int) (x : Int))), (0, (k : Int))]) (S' := []) r_257_68 rfl rfl rfl ?_
        refine gx_li (z := (k : Int) + 1) (L' := [(2, 13), (0, (p : Int)), (0, (M : Int)), (0, (E : Int)), (0, (L : Int)), (0, (ior (W : Int) (x : Int))), (0, (k : Int) + 1)]) r_257_70 rfl (w32_eq (by omega) (by omega) (by omega)) rfl ?_
        refine gx_st (L' := [(2, 13), (0, (p : Int)), (0, (M : Int)), (0, (E : Int)), (0, (L : Int)), (0, (ior (W : Int) (x : Int))), (0, (k : Int) + 1)]) (S' := []) r_257_73 rfl rfl rfl ?_
        have hkL : d p k = (L : Int) := ((hEb k (by omega)).mp (by
          unfold bt
          have eb := bit_7 E hE k (by omega)
          rw [h37.2.2] at eb
          omega)).2
        obtain ⟨o1, o2⟩ := or_7 W hW x hx1
        rw [o1, show (k : Int) + 1 = ((k + 1 : Nat) : Int) from rfl]
        refine ih (k + 1) (W ||| x) n53 (by omega) (by omega) o2 (fun q hq => ?_) f_n53 (fun b hb => ?_)
        · rw [bt_or hW hx1 hq, hWb q hq, hx3 q hq]
          constructor
          · rintro (⟨c, c1, c2, c3⟩ | z)
            · exact ⟨c, by omega, c2, c3⟩
            · exact ⟨k, by omega, hkL, z⟩
          · rintro ⟨c, c1, c2, c3⟩
            by_cases e : c = k
            · right; rw [← e]; exact c3
            · exact Or.inl ⟨c, by omega, c2, c3⟩
        · rw [q53]
          by_cases e : b = k
          · rw [e, nu_at, if_pos ⟨by omega, hkL⟩]
          · rw [nu_ne (by omega), hc b hb]
            by_cases y : b < k ∧ d p b = (L : Int)
            · rw [if_pos y, if_pos ⟨by omega, y.2⟩]
            · rw [if_neg y, if_neg (fun z => y ⟨by omega, z.2⟩)]
theorem mf_out {m0 : Mm} {Q : AV → Mm → Prop} {p : Nat} (hT : TT T) (hp0 : PinR m0) (hb0 : BA m0 adj) (h10 : m0 13 1 = (n : Int)) (hA : AdjOK n adj) (hw : Wy (n : Int) adj d) (hpn : p < n) (hout : ∀ m : Mm, FrP p m0 m → (∀ b : Nat, b < n → m 21 (7 * p + b) = if d p b < (7 : Int) then d p b else -1) → Q (9, 0) m) : ∀ (N L M E : Nat) (u v : AV) (m : Mm), 7 - L < N → L ≤ 7 → ¬ u.1 = 1 → ¬ v.1 = 1 → M < 128 → E < 128 → (∀ b : Nat, b < 7 → (bt M b ↔ b < n ∧ d p b < (L : Int))) → (∀ b : Nat, b < 7 → (bt E b ↔ b < n ∧ d p b = (L : Int))) → FrP p m0 m → (∀ b : Nat, b < n → m 21 (7 * p + b) = if d p b < (L : Int) then d p b else -1) → GX T 2 257 9 [(2, 13), (0, (p : Int)), (0, (M : Int)), (0, (E : Int)), (0, (L : Int)), u, v] [] m Q := by
  intro N
  induction N with
  | zero => intro L M E u v m hN; exact absurd hN (Nat.not_lt_zero _)
  | succ N ih =>
    intro L M E u v m hN hL hu hv hM hE hMb hEb hf hc
    have hn7 := hA.1
    have hpm := PinR_P hp0 hf
    have hbm := BA_P hb0 hf
    have h1m : m 13 1 = (n : Int) := (hf 13 1 (by omega)).trans h10
    refine gx_st (L' := [(2, 13), (0, (p : Int)), (0, (M : Int)), (0, (E : Int)), (0, (L : Int)), u, v]) (S' := [(0, (L : Int))]) r_257_9 rfl rfl rfl ?_
    refine gx_st (L' := [(2, 13), (0, (p : Int)), (0, (M : Int)), (0, (E : Int)), (0, (L : Int)), u, v]) (S' := [(0, 7), (0, (L : Int))]) r_257_11 rfl rfl rfl ?_
    refine gx_ic (P := 7 ≤ (L : Int)) r_257_13 (rfl) (fun h13 => ?_) (fun h13 => ?_)
    · have hL7 : L = 7 := by omega
      rw [hL7] at hc
      exact gx_rt r_257_93 rfl rfl (hout m hf hc)
    · refine gx_st (L' := [(2, 13), (0, (p : Int)), (0, (M : Int)), (0, (E : Int)), (0, (L : Int)), u, v]) (S' := [(0, 0)]) r_257_16 rfl rfl rfl ?_
      refine gx_st (L' := [(2, 13), (0, (p : Int)), (0, (M : Int)), (0, (E : Int)), (0, (L : Int)), (0, 0), v]) (S' := []) r_257_17 rfl rfl rfl ?_
      refine gx_st (L' := [(2, 13), (0, (p : Int)), (0, (M : Int)), (0, (E : Int)), (0, (L : Int)), (0, 0), v]) (S' := [(0, 0)]) r_257_19 rfl rfl rfl ?_
      refine gx_st (L' := [(2, 13), (0, (p : Int)), (0, (M : Int)), (0, (E : Int)), (0, (L : Int)), (0, 0), (0, 0)]) (S' := []) r_257_20 rfl rfl rfl ?_
      refine mf_in hT hpm hbm h1m hn7 (by omega) hE hEb (fun W m2 hW hWb f2 hc2 => ?_) (n + 1) 0 0 m (by omega) (by omega) (by decide) (fun q hq => ⟨fun z => absurd z (by unfold bt; rw [Nat.zero_div]; decide), fun ⟨c, c1, _⟩ => absurd c1 (Nat.not_lt_zero _)⟩) (fun _ _ _ => rfl) (fun b hb => by rw [if_neg (by omega)])
      have hpm2 := PinR_P hpm f2
      refine gx_st (L' := [(2, 13), (0, (p : Int)), (0, (M : Int)), (0, (E : Int)), (0, (L : Int)), (0, (W : Int)), (0, (n : Int))]) (S' := [(0, (M : Int))]) r_257_76 rfl rfl rfl ?_
      refine gx_st (L' := [(2, 13), (0, (p : Int)), (0, (M : Int)), (0, (E : Int)), (0, (L : Int)), (0, (W : Int)), (0, (n : Int))]) (S' := [(0, (E : Int)), (0, (M : Int))]) r_257_77 rfl rfl rfl ?_
      refine gx_st (L' := [(2, 13), (0, (p : Int)), (0, (M : Int)), (0, (E : Int)), (0, (L : Int)), (0, (W : Int)), (0, (n : Int))]) (S' := [(0, (ior (M : Int) (E : Int)))]) r_257_78 rfl rfl rfl ?_
      refine gx_st (L' := [(2, 13), (0, (p : Int)), (0, (ior (M : Int) (E : Int))), (0, (E : Int)), (0, (L : Int)), (0, (W : Int)), (0, (n : Int))]) (S' := []) r_257_79 rfl rfl rfl ?_
      refine gx_st (L' := [(2, 13), (0, (p : Int)), (0, (ior (M : Int) (E : Int))), (0, (E : Int)), (0, (L : Int)), (0, (W : Int)), (0, (n : Int))]) (S' := [(0, (W : Int))]) r_257_80 rfl rfl rfl ?_
      refine gx_st (L' := [(2, 13), (0, (p : Int)), (0, (ior (M : Int) (E : Int))), (0, (E : Int)), (0, (L : Int)), (0, (W : Int)), (0, (n : Int))]) (S' := [(0, (ior (M : Int) (E : Int))), (0, (W : Int))]) r_257_82 rfl rfl rfl ?_
      refine gx_st (L' := [(2, 13), (0, (p : Int)), (0, (ior (M : Int) (E : Int))), (0, (E : Int)), (0, (L : Int)), (0, (W : Int)), (0, (n : Int))]) (S' := [(0, (-1)), (0, (ior (M : Int) (E : Int))), (0, (W : Int))]) r_257_83 rfl rfl rfl ?_
      refine gx_st (L' := [(2, 13), (0, (p : Int)), (0, (ior (M : Int) (E : Int))), (0, (E : Int)), (0, (L : Int)), (0, (W : Int)), (0, (n : Int))]) (S' := [(0, (ixor ((ior (M : Int) (E : Int))) (-1))), (0, (W : Int))]) r_257_84 rfl rfl rfl ?_
      refine gx_st (L' := [(2, 13), (0, (p : Int)), (0, (ior (M : Int) (E : Int))), (0, (E : Int)), (0, (L : Int)), (0, (W : Int)), (0, (n : Int))]) (S' := [(0, (iand (W : Int) ((ixor ((ior (M : Int) (E : Int))) (-1)))))]) r_257_85 rfl rfl rfl ?_
      refine gx_st (L' := [(2, 13), (0, (p : Int)), (0, (ior (M : Int) (E : Int))), (0, (iand (W : Int) ((ixor ((ior (M : Int) (E : Int))) (-1))))), (0, (L : Int)), (0, (W : Int)), (0, (n : Int))]) (S' := []) r_257_86 rfl rfl rfl ?_
      refine gx_li (z := (L : Int) + 1) (L' := [(2, 13), (0, (p : Int)), (0, (ior (M : Int) (E : Int))), (0, (iand (W : Int) ((ixor ((ior (M : Int) (E : Int))) (-1))))), (0, (L : Int) + 1), (0, (W : Int)), (0, (n : Int))]) r_257_87 rfl (w32_eq (by omega) (by omega) (by omega)) rfl ?_
      refine gx_st (L' := [(2, 13), (0, (p : Int)), (0, (ior (M : Int) (E : Int))), (0, (iand (W : Int) ((ixor ((ior (M : Int) (E : Int))) (-1))))), (0, (L : Int) + 1), (0, (W : Int)), (0, (n : Int))]) (S' := []) r_257_90 rfl rfl rfl ?_
      obtain ⟨o1, o2⟩ := or_7 M hM E hE
      obtain ⟨a1, a2⟩ := an_7 W hW (M ||| E) o2
      rw [o1, a1, show (L : Int) + 1 = ((L + 1 : Nat) : Int) from rfl]
      have hMb2 : ∀ b : Nat, b < 7 → (bt (M ||| E) b ↔ b < n ∧ d p b < ((L + 1 : Nat) : Int)) := fun b hb => by
        rw [bt_or hM hE hb, hMb b hb, hEb b hb]
        omega
      refine ih (L + 1) (M ||| E) (W &&& (127 ^^^ (M ||| E))) (0, (W : Int)) (0, (n : Int)) m2 (by omega) (by omega) (show ¬ ((0 : Nat) = 1) by decide) (show ¬ ((0 : Nat) = 1) by decide) o2 a2 hMb2 (fun b hb => ?_) (FrP_tr hf f2) (fun b hb => ?_)
      · rw [bt_an hW o2 hb, hWb b hb, hMb2 b hb]
        constructor
        · rintro ⟨⟨c, c1, c2, c3⟩, z⟩
          have hbn := (hA.2 c b c3).2.1
          have h1 := wy_step hA hw (a := p) hpn c3
          exact ⟨hbn, by omega⟩
        · rintro ⟨hbn, z⟩
          have hpb : ¬ p = b := fun y => by
            subst y
            have := hw.1 p (by omega)
            omega
          obtain ⟨c, c1, c2, c3⟩ := wy_last hA hw hpn hbn hpb (by unfold FAR; omega)
          exact ⟨⟨c, c1, by omega, c2⟩, by omega⟩
      · rw [hc2 b hb, hc b hb]
        by_cases y : d p b = (L : Int)
        · rw [if_pos ⟨hb, y⟩, if_pos (by omega)]; exact y.symm
        · rw [if_neg (fun z => y z.2)]
          by_cases x : d p b < (L : Int)
          · rw [if_pos x, if_pos (by omega)]
          · rw [if_neg x, if_neg (by omega)]
theorem y_257 (hT : TT T) (hp : PinR m) (hb : BA m adj) (h1 : m 13 1 = (n : Int)) (hA : AdjOK n adj) (hw : Wy (n : Int) adj d) {p : Nat} (hpn : p < n) (hc : ∀ b : Nat, b < n → m 21 (7 * p + b) = -1) : GX T 2 257 0 [(2, 13), (0, (p : Int)), (9, 0), (9, 0), (9, 0), (9, 0), (9, 0)] [] m (RV (fun m1 => FrP p m m1 ∧ ∀ b : Nat, b < n → m1 21 (7 * p + b) = if d p b < FAR then d p b else -1)) := by
  refine gx_st (L' := [(2, 13), (0, (p : Int)), (9, 0), (9, 0), (9, 0), (9, 0), (9, 0)]) (S' := [(0, 0)]) r_257_0 rfl rfl rfl ?_
  refine gx_st (L' := [(2, 13), (0, (p : Int)), (0, 0), (9, 0), (9, 0), (9, 0), (9, 0)]) (S' := []) r_257_1 rfl rfl rfl ?_
  refine gx_st (L' := [(2, 13), (0, (p : Int)), (0, 0), (9, 0), (9, 0), (9, 0), (9, 0)]) (S' := [(0, 1)]) r_257_2 rfl rfl rfl ?_
  refine gx_st (L' := [(2, 13), (0, (p : Int)), (0, 0), (9, 0), (9, 0), (9, 0), (9, 0)]) (S' := [(0, (p : Int)), (0, 1)]) r_257_3 rfl rfl rfl ?_
  refine gx_st (L' := [(2, 13), (0, (p : Int)), (0, 0), (9, 0), (9, 0), (9, 0), (9, 0)]) (S' := [(0, (ishl 1 (p : Int)))]) r_257_4 rfl rfl rfl ?_
  refine gx_st (L' := [(2, 13), (0, (p : Int)), (0, 0), (0, (ishl 1 (p : Int))), (9, 0), (9, 0), (9, 0)]) (S' := []) r_257_5 rfl rfl rfl ?_
  refine gx_st (L' := [(2, 13), (0, (p : Int)), (0, 0), (0, (ishl 1 (p : Int))), (9, 0), (9, 0), (9, 0)]) (S' := [(0, 0)]) r_257_6 rfl rfl rfl ?_
  refine gx_st (L' := [(2, 13), (0, (p : Int)), (0, 0), (0, (ishl 1 (p : Int))), (0, 0), (9, 0), (9, 0)]) (S' := []) r_257_7 rfl rfl rfl ?_
  obtain ⟨s1, s2, s3⟩ := sh_7 p (by have := hA.1; omega)
  rw [s1]
  have h7 := hA.1
  refine mf_out hT hp hb h1 hA hw hpn (fun m1 f1 c1 => ⟨rfl, f1, fun b hb => ?_⟩) 8 0 0 (2 ^ p) (9, 0) (9, 0) m (by omega) (by omega) (by decide) (by decide) (by decide) s2 (fun b hb => ?_) (fun b hb => ?_) (fun _ _ _ => rfl) (fun b hb => ?_)
  · constructor
    · intro z; exact absurd z (by unfold bt; rw [Nat.zero_div]; decide)
    · rintro ⟨z1, z2⟩
      have := wy_nn hw (a := p) (b := b) (by omega) hb
      omega
  · rw [show bt (2 ^ p) b ↔ b = p from s3 b hb]
    constructor
    · intro z; rw [z]; exact ⟨hpn, hw.1 p (by omega)⟩
    · rintro ⟨z1, z2⟩
      by_cases e : b = p
      · exact e
      · have := hw.2.1 p b (by omega) hb (fun y => e y.symm)
        omega
  · have := wy_nn hw (a := p) (b := b) (by omega) (by omega)
    rw [if_neg (by omega)]; exact hc b hb
  · rw [c1 b hb]
    by_cases y : d p b < FAR
    · have := wy_small hA hw hpn hb y
      rw [if_pos y, if_pos (by omega)]
    · rw [if_neg y, if_neg (fun z => y (by unfold FAR; omega))]
theorem ms_l {m0 : Mm} (hT : TT T) (hp0 : PinR m0) (hb0 : BA m0 adj) (h10 : m0 13 1 = (n : Int)) (hA : AdjOK n adj) (hw : Wy (n : Int) adj d) : ∀ (N k : Nat) (m : Mm), n - k < N → k ≤ n → (∀ o j : Nat, ¬ o = 21 → m o j = m0 o j) → (∀ a b : Nat, a < k → b < n → m 21 (7 * a + b) = if d a b < FAR then d a b else -1) → (∀ a : Nat, k ≤ a → a < n → ∀ b : Nat, b < n → m 21 (7 * a + b) = -1) → GX T 3 256 10 [(2, 13), (0, (k : Int))] [] m (RV (fun m1 => (∀ o j : Nat, ¬ o = 21 → m1 o j = m0 o j) ∧ ∀ a b : Nat, a < n → b < n → m1 21 (7 * a + b) = if d a b < FAR then d a b else -1)) := by
  intro N
  induction N with
  | zero => intro k  m hN; exact absurd hN (Nat.not_lt_zero _)
  | succ N ih =>
    intro k  m hN hk i1 i2 i3
    have h7 := hA.1
    have hpm : PinR m := fun o i hq => (i1 o i (fun z => hq (by rw [z]; rfl))).trans (hp0 o i hq)
    have hbm : BA m adj := fun c hc => by
      obtain ⟨x, x1, x2, x3⟩ := hb0 c hc
      exact ⟨x, x1, (i1 20 c (by decide)).trans x2, x3⟩
    have h1m : m 13 1 = (n : Int) := (i1 13 1 (by decide)).trans h10
    refine gx_st (L' := [(2, 13), (0, (k : Int))]) (S' := [(0, (k : Int))]) r_256_10 rfl rfl rfl ?_
    refine gx_st (L' := [(2, 13), (0, (k : Int))]) (S' := [(2, 13), (0, (k : Int))]) r_256_11 rfl rfl rfl ?_
    refine gx_gf (x := (n : Int)) 0 r_256_12 (rfl) (ty_13 hT) ⟨by decide, rfl, by decide, by decide⟩ rfl (fun z => absurd z (by decide)) (h1m) ?_
    refine gx_ic (P := (n : Int) ≤ (k : Int)) r_256_15 (rfl) (fun h15 => ?_) (fun h15 => ?_)
    · have hkn : k = n := by omega
      rw [hkn] at i2
      exact gx_rt r_256_29 rfl rfl ⟨rfl, i1, i2⟩
    · refine gx_st (L' := [(2, 13), (0, (k : Int))]) (S' := [(2, 13)]) r_256_18 rfl rfl rfl ?_
      refine gx_st (L' := [(2, 13), (0, (k : Int))]) (S' := [(0, (k : Int)), (2, 13)]) r_256_19 rfl rfl rfl ?_
      refine gx_cv (nx := 23) (S2 := []) (y_257 hT hpm hbm h1m hA hw (p := k) (by omega) (fun b hb => i3 k (Nat.le_refl k) (by omega) b hb)) r_256_20 rfl rfl rfl rfl rfl (rcv_v rfl (ty_13 hT) (by decide) rfl (by decide)) rfl (by decide) rfl (fun n20 q20 => ?_)
      refine gx_li (z := (k : Int) + 1) (L' := [(2, 13), (0, (k : Int) + 1)]) r_256_23 rfl (w32_eq (by omega) (by omega) (by omega)) rfl ?_
      refine gx_st (L' := [(2, 13), (0, (k : Int) + 1)]) (S' := []) r_256_26 rfl rfl rfl ?_
      rw [show (k : Int) + 1 = ((k + 1 : Nat) : Int) from rfl]
      refine ih (k + 1)  n20 (by omega) (by omega) ?_ ?_ ?_
      · intro o j ho
        rw [q20.1 o j (fun z => ho z.1)]; exact i1 o j ho
      · intro a b ha hb
        by_cases e : a = k
        · rw [e]; exact q20.2 b hb
        · rw [q20.1 21 (7 * a + b) (by omega)]; exact i2 a b (by omega) hb
      · intro a ha ha2 b hb
        rw [q20.1 21 (7 * a + b) (by omega)]; exact i3 a (by omega) ha2 b hb
theorem y_256 (hT : TT T) (hp : PinR m) (hb : BA m adj) (h1 : m 13 1 = (n : Int)) (hA : AdjOK n adj) (hw : Wy (n : Int) adj d) : GX T 3 256 0 [(2, 13), (9, 0)] [] m (RV (fun m1 => (∀ o j : Nat, ¬ o = 21 → m1 o j = m o j) ∧ ∀ a b : Nat, a < n → b < n → m1 21 (7 * a + b) = if d a b < FAR then d a b else -1)) := by
  refine gx_st (L' := [(2, 13), (9, 0)]) (S' := [(2, 13)]) r_256_0 rfl rfl rfl ?_
  refine gx_gf (x := 21) 2 r_256_1 (rfl) (ty_13 hT) ⟨by decide, rfl, by decide, by decide⟩ rfl (fun _ => by omega) (pin_at hp (t := 21) rfl (by decide)) ?_
  refine gx_st (L' := [(2, 13), (9, 0)]) (S' := [(0, (-1)), (2, 21)]) r_256_4 rfl rfl rfl ?_
  refine gx_cv (nx := 8) (S2 := []) (c_240 (r := 21) (n := 49) (ty_21 hT) (by decide) (by decide) (-1)) r_256_5 rfl rfl rfl rfl rfl rfl rfl (by decide) rfl (fun n5 q5 => ?_)
  have hp_f : PinR n5 := fun o i hq => (q5.2 o i (fun z => hq (by rw [z]; rfl))).trans (hp o i hq)
  refine gx_st (L' := [(2, 13), (9, 0)]) (S' := [(0, 0)]) r_256_8 rfl rfl rfl ?_
  refine gx_st (L' := [(2, 13), (0, 0)]) (S' := []) r_256_9 rfl rfl rfl ?_
  have h7 := hA.1
  have hbm : BA n5 adj := fun c hc => by
    obtain ⟨x, x1, x2, x3⟩ := hb c hc
    exact ⟨x, x1, (q5.2 20 c (by decide)).trans x2, x3⟩
  refine gx_imp (ms_l hT hp_f hbm ((q5.2 13 1 (by decide)).trans h1) hA hw (n + 1) 0 n5 (by omega) (by omega) (fun _ _ _ => rfl) (fun a b ha => absurd ha (Nat.not_lt_zero _)) (fun a _ ha b hb => q5.1 (7 * a + b) (by omega))) (fun v m' ⟨e, f1, f2⟩ => ⟨e, fun o j ho => (f1 o j ho).trans (q5.2 o j ho), f2⟩)
end MEAS
