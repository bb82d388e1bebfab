/-! ask of the class: gather, the tree of which to know -/
theorem r_277_0 : row 277 0 = some (.iconst 0, 1, 0, 0, 0, 0) := rfl
theorem r_277_1 : row 277 1 = some (.istore 5, 3, 0, 0, 0, 0) := rfl
theorem r_277_3 : row 277 3 = some (.iload 5, 5, 0, 0, 0, 0) := rfl
theorem r_277_5 : row 277 5 = some (.aload_n 1, 6, 0, 0, 0, 0) := rfl
theorem r_277_6 : row 277 6 = some (.getfield 45, 9, 3, 2, 10, 1077) := rfl
theorem r_277_9 : row 277 9 = some (.if_icmp .gt 95, 12, 104, 0, 0, 0) := rfl
theorem r_277_12 : row 277 12 = some (.aload_n 2, 13, 0, 0, 0, 0) := rfl
theorem r_277_13 : row 277 13 = some (.aload_n 3, 14, 0, 0, 0, 0) := rfl
theorem r_277_14 : row 277 14 = some (.iload 5, 16, 0, 0, 0, 0) := rfl
theorem r_277_16 : row 277 16 = some (.invokestatic 48, 19, 278, 3, 0, 5061) := rfl
theorem r_277_19 : row 277 19 = some (.ifCond .eq 79, 22, 98, 0, 0, 0) := rfl
theorem r_277_22 : row 277 22 = some (.aload_n 0, 23, 0, 0, 0, 0) := rfl
theorem r_277_23 : row 277 23 = some (.dup, 24, 0, 0, 0, 0) := rfl
theorem r_277_24 : row 277 24 = some (.getfield 9, 27, 5, 0, 0, 2099) := rfl
theorem r_277_27 : row 277 27 = some (.iconst 1, 28, 1, 0, 0, 0) := rfl
theorem r_277_28 : row 277 28 = some (.iadd, 29, 0, 0, 0, 0) := rfl
theorem r_277_29 : row 277 29 = some (.putfield 9, 32, 5, 0, 0, 2099) := rfl
theorem r_277_32 : row 277 32 = some (.aload_n 0, 33, 0, 0, 0, 0) := rfl
theorem r_277_33 : row 277 33 = some (.dup, 34, 0, 0, 0, 0) := rfl
theorem r_277_34 : row 277 34 = some (.getfield 15, 37, 5, 1, 0, 2101) := rfl
theorem r_277_37 : row 277 37 = some (.iconst 1, 38, 1, 0, 0, 0) := rfl
theorem r_277_38 : row 277 38 = some (.iload 5, 40, 0, 0, 0, 0) := rfl
theorem r_277_40 : row 277 40 = some (.ishl, 41, 0, 0, 0, 0) := rfl
theorem r_277_41 : row 277 41 = some (.ior, 42, 0, 0, 0, 0) := rfl
theorem r_277_42 : row 277 42 = some (.putfield 15, 45, 5, 1, 0, 2101) := rfl
theorem r_277_45 : row 277 45 = some (.aload_n 0, 46, 0, 0, 0, 0) := rfl
theorem r_277_46 : row 277 46 = some (.dup, 47, 0, 0, 0, 0) := rfl
theorem r_277_47 : row 277 47 = some (.getfield 18, 50, 5, 2, 0, 2103) := rfl
theorem r_277_50 : row 277 50 = some (.iconst 1, 51, 1, 0, 0, 0) := rfl
theorem r_277_51 : row 277 51 = some (.iload 4, 53, 0, 0, 0, 0) := rfl
theorem r_277_53 : row 277 53 = some (.ishl, 54, 0, 0, 0, 0) := rfl
theorem r_277_54 : row 277 54 = some (.ior, 55, 0, 0, 0, 0) := rfl
theorem r_277_55 : row 277 55 = some (.putfield 18, 58, 5, 2, 0, 2103) := rfl
theorem r_277_58 : row 277 58 = some (.iconst 0, 59, 0, 0, 0, 0) := rfl
theorem r_277_59 : row 277 59 = some (.istore 6, 61, 0, 0, 0, 0) := rfl
theorem r_277_61 : row 277 61 = some (.iload 6, 63, 0, 0, 0, 0) := rfl
theorem r_277_63 : row 277 63 = some (.aload_n 1, 64, 0, 0, 0, 0) := rfl
theorem r_277_64 : row 277 64 = some (.getfield 30, 67, 3, 6, 10, 1092) := rfl
theorem r_277_67 : row 277 67 = some (.if_icmp .ge 31, 70, 98, 0, 0, 0) := rfl
theorem r_277_70 : row 277 70 = some (.aload_n 0, 71, 0, 0, 0, 0) := rfl
theorem r_277_71 : row 277 71 = some (.getfield 21, 74, 5, 3, 2, 2105) := rfl
theorem r_277_74 : row 277 74 = some (.iload 6, 76, 0, 0, 0, 0) := rfl
theorem r_277_76 : row 277 76 = some (.bipush 10, 78, 10, 0, 0, 0) := rfl
theorem r_277_78 : row 277 78 = some (.imul, 79, 0, 0, 0, 0) := rfl
theorem r_277_79 : row 277 79 = some (.aload_n 3, 80, 0, 0, 0, 0) := rfl
theorem r_277_80 : row 277 80 = some (.iload 6, 82, 0, 0, 0, 0) := rfl
theorem r_277_82 : row 277 82 = some (.iload 5, 84, 0, 0, 0, 0) := rfl
theorem r_277_84 : row 277 84 = some (.invokevirtual 52, 87, 292, 2, 10, 5064) := rfl
theorem r_277_87 : row 277 87 = some (.iadd, 88, 0, 0, 0, 0) := rfl
theorem r_277_88 : row 277 88 = some (.iconst 1, 89, 1, 0, 0, 0) := rfl
theorem r_277_89 : row 277 89 = some (.invokestatic 58, 92, 239, 3, 10, 5065) := rfl
theorem r_277_92 : row 277 92 = some (.iinc 6 1, 95, 0, 0, 0, 0) := rfl
theorem r_277_95 : row 277 95 = some (.goto (-34), 98, 61, 0, 0, 0) := rfl
theorem r_277_98 : row 277 98 = some (.iinc 5 1, 101, 0, 0, 0, 0) := rfl
theorem r_277_101 : row 277 101 = some (.goto (-98), 104, 3, 0, 0, 0) := rfl
theorem r_277_104 : row 277 104 = some (.return_, 105, 0, 0, 0, 0) := rfl
theorem r_279_0 : row 279 0 = some (.iconst 0, 1, 0, 0, 0, 0) := rfl
theorem r_279_1 : row 279 1 = some (.istore_n 2, 2, 0, 0, 0, 0) := rfl
theorem r_279_2 : row 279 2 = some (.iconst 0, 3, 0, 0, 0, 0) := rfl
theorem r_279_3 : row 279 3 = some (.istore_n 3, 4, 0, 0, 0, 0) := rfl
theorem r_279_4 : row 279 4 = some (.iload_n 3, 5, 0, 0, 0, 0) := rfl
theorem r_279_5 : row 279 5 = some (.bipush 10, 7, 10, 0, 0, 0) := rfl
theorem r_279_7 : row 279 7 = some (.if_icmp .ge 27, 10, 34, 0, 0, 0) := rfl
theorem r_279_10 : row 279 10 = some (.iload_n 2, 11, 0, 0, 0, 0) := rfl
theorem r_279_11 : row 279 11 = some (.aload_n 0, 12, 0, 0, 0, 0) := rfl
theorem r_279_12 : row 279 12 = some (.getfield 21, 15, 5, 3, 2, 2105) := rfl
theorem r_279_15 : row 279 15 = some (.iload_n 1, 16, 0, 0, 0, 0) := rfl
theorem r_279_16 : row 279 16 = some (.bipush 10, 18, 10, 0, 0, 0) := rfl
theorem r_279_18 : row 279 18 = some (.imul, 19, 0, 0, 0, 0) := rfl
theorem r_279_19 : row 279 19 = some (.iload_n 3, 20, 0, 0, 0, 0) := rfl
theorem r_279_20 : row 279 20 = some (.iadd, 21, 0, 0, 0, 0) := rfl
theorem r_279_21 : row 279 21 = some (.invokestatic 62, 24, 237, 2, 10, 5086) := rfl
theorem r_279_24 : row 279 24 = some (.invokestatic 66, 27, (-3), 2, 0, 5087) := rfl
theorem r_279_27 : row 279 27 = some (.istore_n 2, 28, 0, 0, 0, 0) := rfl
theorem r_279_28 : row 279 28 = some (.iinc 3 1, 31, 0, 0, 0, 0) := rfl
theorem r_279_31 : row 279 31 = some (.goto (-27), 34, 4, 0, 0, 0) := rfl
theorem r_279_34 : row 279 34 = some (.iload_n 2, 35, 0, 0, 0, 0) := rfl
theorem r_279_35 : row 279 35 = some (.ireturn, 36, 0, 0, 0, 0) := rfl
theorem r_280_0 : row 280 0 = some (.iconst (-1), 1, (-1), 0, 0, 0) := rfl
theorem r_280_1 : row 280 1 = some (.istore_n 2, 2, 0, 0, 0, 0) := rfl
theorem r_280_2 : row 280 2 = some (.aload_n 0, 3, 0, 0, 0, 0) := rfl
theorem r_280_3 : row 280 3 = some (.getfield 9, 6, 5, 0, 0, 2099) := rfl
theorem r_280_6 : row 280 6 = some (.istore_n 3, 7, 0, 0, 0, 0) := rfl
theorem r_280_7 : row 280 7 = some (.iconst 0, 8, 0, 0, 0, 0) := rfl
theorem r_280_8 : row 280 8 = some (.istore 4, 10, 0, 0, 0, 0) := rfl
theorem r_280_10 : row 280 10 = some (.iload 4, 12, 0, 0, 0, 0) := rfl
theorem r_280_12 : row 280 12 = some (.iload_n 1, 13, 0, 0, 0, 0) := rfl
theorem r_280_13 : row 280 13 = some (.if_icmp .ge 29, 16, 42, 0, 0, 0) := rfl
theorem r_280_16 : row 280 16 = some (.aload_n 0, 17, 0, 0, 0, 0) := rfl
theorem r_280_17 : row 280 17 = some (.iload 4, 19, 0, 0, 0, 0) := rfl
theorem r_280_19 : row 280 19 = some (.invokevirtual 71, 22, 279, 1, 0, 5082) := rfl
theorem r_280_22 : row 280 22 = some (.istore 5, 24, 0, 0, 0, 0) := rfl
theorem r_280_24 : row 280 24 = some (.iload 5, 26, 0, 0, 0, 0) := rfl
theorem r_280_26 : row 280 26 = some (.iload_n 3, 27, 0, 0, 0, 0) := rfl
theorem r_280_27 : row 280 27 = some (.if_icmp .ge 9, 30, 36, 0, 0, 0) := rfl
theorem r_280_30 : row 280 30 = some (.iload 5, 32, 0, 0, 0, 0) := rfl
theorem r_280_32 : row 280 32 = some (.istore_n 3, 33, 0, 0, 0, 0) := rfl
theorem r_280_33 : row 280 33 = some (.iload 4, 35, 0, 0, 0, 0) := rfl
theorem r_280_35 : row 280 35 = some (.istore_n 2, 36, 0, 0, 0, 0) := rfl
theorem r_280_36 : row 280 36 = some (.iinc 4 1, 39, 0, 0, 0, 0) := rfl
theorem r_280_39 : row 280 39 = some (.goto (-29), 42, 10, 0, 0, 0) := rfl
theorem r_280_42 : row 280 42 = some (.iload_n 2, 43, 0, 0, 0, 0) := rfl
theorem r_280_43 : row 280 43 = some (.ireturn, 44, 0, 0, 0, 0) := rfl
/-- a base memory and what gather has told of the first k moments -/
def GaI (o q tr : Nat) (m0 p : Mm) (k : Nat) : Prop := (∀ x i : Nat, ¬ x = 142 → ¬ x = 143 → p x i = m0 x i) ∧ (∀ i : Nat, 3 ≤ i → p 142 i = m0 142 i) ∧ p 142 0 = m0 142 0 + (ctB (fun h => fitB (m0 (o + 1)) (fun t => m0 49 (5 * h + t)) q) k : Nat) ∧ (∀ i : Nat, i < 50 → 0 ≤ p 143 i ∧ p 143 i ≤ m0 143 i + (k : Int)) ∧ ∀ t a : Nat, t < tr → a < 10 → p 143 (10 * t + a) = m0 143 (10 * t + a) + (ctB (fun h => fitB (m0 (o + 1)) (fun t => m0 49 (5 * h + t)) q && decide (m0 49 (5 * h + t) = (a : Int))) k : Nat)
theorem pin_ga {o q tr k : Nat} {m0 p : Mm} (hp : PinR m0) (g : GaI o q tr m0 p k) : PinR p := fun x i hq => by
  by_cases e : x = 142
  · subst e
    by_cases c : 3 ≤ i
    · rw [g.2.1 i c]; exact hp 142 i hq
    · exfalso
      have hi : i = 0 ∨ i = 1 ∨ i = 2 := by omega
      rcases hi with rfl | rfl | rfl <;> exact hq rfl
  · by_cases e3 : x = 143
    · subst e3; exact absurd (pin_no (by decide) i) hq
    · rw [g.1 x i e e3]; exact hp x i hq
/-- what the class has looked at: the first k places -/
def LkI (w : Wd) (D : Nat → Nat → Int) (N : Nat → Int) (q n tr : Nat) (p : Mm) (k : Nat) : Prop := p 142 0 = (prF w D N q n k : Nat) ∧ (∀ i : Nat, i < 50 → 0 ≤ p 143 i ∧ p 143 i ≤ 13 * (k : Int)) ∧ ∀ t a : Nat, t < tr → a < 10 → p 143 (10 * t + a) = (alF w D N q n k t a : Nat)
theorem lk_step {w : Wd} {D : Nat → Nat → Int} {N : Nat → Int} {q n tr o k : Nat} {p p1 p2 : Mm} (i : LkI w D N q n tr p k) (hn : n ≤ 12) (h5 : w 5 = (tr : Int)) (tr5 : tr ≤ 5) (hs : sndB N (tr : Int) (2 * q) = true) (eN : p1 (o + 1) = N) (eF : ∀ h t : Nat, h ≤ n → t < tr → p1 49 (5 * h + t) = frF w D k h t) (e2 : p1 142 0 = p 142 0) (e3 : ∀ i : Nat, i < 50 → p1 143 i = p 143 i) (g : GaI o q tr p1 p2 (n + 1)) : LkI w D N q n tr p2 (k + 1) := by
  obtain ⟨_, _, g3, g4, g5⟩ := g
  have ef : ∀ h : Nat, h < n + 1 → fitB (p1 (o + 1)) (fun t => p1 49 (5 * h + t)) q = fitB N (fun t => frF w D k h t) q := fun h hh => by
    rw [eN]
    exact fitB_c hs (by omega) (fun t _ ht2 => eF h t (by omega) (by omega))
  refine ⟨?_, fun j hj => ?_, fun t a ht ha => ?_⟩
  · rw [g3, e2, i.1, ctB_c (n + 1) ef]
    exact (Int.natCast_add _ _).symm
  · have z1 := g4 j hj
    have z2 := i.2.1 j hj
    rw [e3 j hj] at z1
    omega
  · rw [g5 t a ht ha, e3 _ (by omega), i.2.2 t a ht ha]
    rw [ctB_c (q := fun h => fitB N (fun t => frF w D k h t) q && decide (frF w D k h t = (a : Int))) (n + 1) (fun h hh => by
      show (fitB (p1 (o + 1)) (fun t => p1 49 (5 * h + t)) q && decide (p1 49 (5 * h + t) = (a : Int))) = _
      rw [ef h hh, eF h t (by omega) ht])]
    exact (Int.natCast_add _ _).symm
theorem LkI_0 {w : Wd} {D : Nat → Nat → Int} {N : Nat → Int} {q n tr : Nat} {p : Mm} (tr5 : tr ≤ 5) (h1 : p 142 0 = 0) (h2 : ∀ i : Nat, i < 50 → p 143 i = 0) : LkI w D N q n tr p 0 := ⟨h1, fun i hi => by rw [h2 i hi]; decide, fun t a ht ha => by rw [h2 _ (by omega)]; rfl⟩
theorem btF_le {M : Nat → Int} {p B : Int} (hp : 0 ≤ p ∧ p ≤ B) : ∀ k : Nat, (∀ i : Nat, i < k → 0 ≤ M i) → (-1 ≤ (btF M p k).1 ∧ (btF M p k).1 < (k : Int)) ∧ 0 ≤ (btF M p k).2 ∧ (btF M p k).2 ≤ B := by
  intro k
  induction k with
  | zero => intro _; exact ⟨⟨by show (-1 : Int) ≤ -1; decide, by show (-1 : Int) < 0; decide⟩, hp⟩
  | succ k ih =>
    intro h
    have z := ih (fun i hi => h i (by omega))
    have y := h k (by omega)
    by_cases c : M k < (btF M p k).2
    · have e : btF M p (k + 1) = ((k : Int), M k) := if_pos c
      rw [e]
      exact ⟨⟨by show (-1 : Int) ≤ (k : Int); omega, by show (k : Int) < ((k + 1 : Nat) : Int); omega⟩, y, by show M k ≤ B; omega⟩
    · have e : btF M p (k + 1) = btF M p k := if_neg c
      rw [e]
      exact ⟨⟨z.1.1, by omega⟩, z.2⟩
/-- what ask of the class answers -/
def AskV (w : Wd) (D : Nat → Nat → Int) (N : Nat → Int) (n tr cc : Nat) (sz v : Int) : Prop := (sz = -1 → v = -6) ∧ ∀ c : Nat, sz = (c : Int) → (¬ (sndB N (tr : Int) c = true ∧ c % 2 = 0) → v = -2) ∧ ∀ q : Nat, c = 2 * q → sndB N (tr : Int) (2 * q) = true → v = askF w D N q n cc tr
theorem askV_u {w : Wd} {D : Nat → Nat → Int} {N : Nat → Int} {n tr c1 c2 : Nat} {sz v1 v2 : Int} (hsz : -1 ≤ sz) (h1 : AskV w D N n tr c1 sz v1) (h2 : AskV w D N n tr c2 sz v2) (e : ∀ q : Nat, askF w D N q n c1 tr = askF w D N q n c2 tr) : v1 = v2 := by
  by_cases y : sz = -1
  · rw [h1.1 y, h2.1 y]
  · obtain ⟨c, hc⟩ : ∃ c : Nat, sz = (c : Int) := ⟨sz.toNat, by omega⟩
    have k1 := h1.2 c hc
    have k2 := h2.2 c hc
    by_cases x : sndB N (tr : Int) c = true ∧ c % 2 = 0
    · obtain ⟨q, hq⟩ : ∃ q : Nat, c = 2 * q := ⟨c / 2, by omega⟩
      rw [k1.2 q hq (by rw [← hq]; exact x.1), k2.2 q hq (by rw [← hq]; exact x.1), e q]
    · rw [k1.1 x, k2.1 x]
section ASKC
variable {T : List Kd} {m : Mm}
theorem gt_l (hT : TT T) {m0 : Mm} (hp0 : PinR m0) {o h tr : Nat} (hh : h ≤ 12) {b : Int} (h46 : m0 4 6 = (tr : Int)) (tr5 : tr ≤ 5) (hf : ∀ t : Nat, t < tr → 0 ≤ m0 49 (5 * h + t) ∧ m0 49 (5 * h + t) ≤ 9) (hb : ∀ i : Nat, i < 50 → 0 ≤ m0 143 i ∧ m0 143 i ≤ 1000) {Q : AV → Mm → Prop} (hQ : ∀ (p : Mm) (x6 : AV), (∀ x i : Nat, ¬ x = 143 → p x i = m0 x i) → (∀ i : Nat, i < 50 → 0 ≤ p 143 i ∧ p 143 i ≤ m0 143 i + 1) → (∀ t a : Nat, t < tr → a < 10 → p 143 (10 * t + a) = m0 143 (10 * t + a) + (if m0 49 (5 * h + t) = (a : Int) then 1 else 0)) → GX T 3 277 98 [(2, 142), (2, 4), (2, (o : Int)), (2, 41), (0, b), (0, (h : Int)), x6] [] p Q) : ∀ (N k : Nat) (m : Mm), tr - k < N → k ≤ tr → (∀ x i : Nat, ¬ x = 143 → m x i = m0 x i) → (∀ i : Nat, i < 50 → 0 ≤ m 143 i ∧ m 143 i ≤ m0 143 i + 1) → (∀ t a : Nat, t < k → a < 10 → m 143 (10 * t + a) = m0 143 (10 * t + a) + (if m0 49 (5 * h + t) = (a : Int) then 1 else 0)) → (∀ i : Nat, 10 * k ≤ i → i < 50 → m 143 i = m0 143 i) → GX T 3 277 61 [(2, 142), (2, 4), (2, (o : Int)), (2, 41), (0, b), (0, (h : Int)), (0, (k : Int))] [] m Q := by
  intro N
  induction N with
  | zero => intro k m hN; exact absurd hN (Nat.not_lt_zero _)
  | succ N ih =>
    intro k m hN hk i1 i2 i3 i4
    have hp : PinR m := fun x i hq => (i1 x i (fun z => hq (by rw [z]; exact pin_no (by decide) i))).trans (hp0 x i hq)
    refine gx_st (L' := [(2, 142), (2, 4), (2, (o : Int)), (2, 41), (0, b), (0, (h : Int)), (0, (k : Int))]) (S' := [(0, (k : Int))]) r_277_61 rfl rfl rfl ?_
    refine gx_st (L' := [(2, 142), (2, 4), (2, (o : Int)), (2, 41), (0, b), (0, (h : Int)), (0, (k : Int))]) (S' := [(2, 4), (0, (k : Int))]) r_277_63 rfl rfl rfl ?_
    refine gx_gf (x := (tr : Int)) 0 r_277_64 (rfl) (ty_4 hT) ⟨by decide, rfl, by decide, by decide⟩ rfl (fun z => absurd z (by decide)) ((i1 4 6 (by decide)).trans h46) ?_
    refine gx_ic (P := (tr : Int) ≤ (k : Int)) r_277_67 (rfl) (fun h67 => ?_) (fun h67 => ?_)
    · have hkt : k = tr := by omega
      subst hkt
      exact hQ m _ i1 i2 i3
    · refine gx_st (L' := [(2, 142), (2, 4), (2, (o : Int)), (2, 41), (0, b), (0, (h : Int)), (0, (k : Int))]) (S' := [(2, 142)]) r_277_70 rfl rfl rfl ?_
      refine gx_gf (x := 143) 2 r_277_71 (rfl) (ty_142 hT) ⟨by decide, rfl, by decide, by decide⟩ rfl (fun _ => by omega) (pin_at hp (t := 143) rfl (by decide)) ?_
      refine gx_st (L' := [(2, 142), (2, 4), (2, (o : Int)), (2, 41), (0, b), (0, (h : Int)), (0, (k : Int))]) (S' := [(0, (k : Int)), (2, 143)]) r_277_74 rfl rfl rfl ?_
      refine gx_st (L' := [(2, 142), (2, 4), (2, (o : Int)), (2, 41), (0, b), (0, (h : Int)), (0, (k : Int))]) (S' := [(0, 10), (0, (k : Int)), (2, 143)]) r_277_76 rfl rfl rfl ?_
      refine gx_ar (L' := [(2, 142), (2, 4), (2, (o : Int)), (2, 41), (0, b), (0, (h : Int)), (0, (k : Int))]) (S' := [(2, 143)]) (t := 0) (e := w32 ((k : Int) * 10)) (z := 10 * (k : Int)) r_277_78 rfl rfl rfl (w32_eq (by omega) (by omega) (by omega)) ?_
      refine gx_st (L' := [(2, 142), (2, 4), (2, (o : Int)), (2, 41), (0, b), (0, (h : Int)), (0, (k : Int))]) (S' := [(2, 41), (0, 10 * (k : Int)), (2, 143)]) r_277_79 rfl rfl rfl ?_
      refine gx_st (L' := [(2, 142), (2, 4), (2, (o : Int)), (2, 41), (0, b), (0, (h : Int)), (0, (k : Int))]) (S' := [(0, (k : Int)), (2, 41), (0, 10 * (k : Int)), (2, 143)]) r_277_80 rfl rfl rfl ?_
      refine gx_st (L' := [(2, 142), (2, 4), (2, (o : Int)), (2, 41), (0, b), (0, (h : Int)), (0, (k : Int))]) (S' := [(0, (h : Int)), (0, (k : Int)), (2, 41), (0, 10 * (k : Int)), (2, 143)]) r_277_82 rfl rfl rfl ?_
      refine gx_ci (nx := 87) (S2 := [(0, 10 * (k : Int)), (2, 143)]) (t_292 hT hp (i := k) (h := h) (by omega) hh) r_277_84 rfl rfl rfl rfl rfl (rcv_v rfl (ty_41 hT) (by decide) rfl (by decide)) rfl (by decide) rfl (fun x84 n84 q84 => ?_)
      obtain ⟨e_x84, z_x84⟩ := q84
      obtain rfl := z_x84.symm
      obtain ⟨f, hf1⟩ : ∃ f : Nat, m0 49 (5 * h + k) = (f : Int) := ⟨(m0 49 (5 * h + k)).toNat, by have := hf k (by omega); omega⟩
      have hf9 := hf k (by omega)
      rw [i1 49 _ (by decide), hf1] at e_x84
      rw [e_x84]
      show GX T 3 277 87 [(2, 142), (2, 4), (2, (o : Int)), (2, 41), (0, b), (0, (h : Int)), (0, (k : Int))] [(0, (f : Int)), (0, 10 * (k : Int)), (2, 143)] m Q
      refine gx_ar (L' := [(2, 142), (2, 4), (2, (o : Int)), (2, 41), (0, b), (0, (h : Int)), (0, (k : Int))]) (S' := [(2, 143)]) (t := 0) (e := w32 ((10 * (k : Int)) + (f : Int))) (z := 10 * (k : Int) + (f : Int)) r_277_87 rfl rfl rfl (w32_eq (by omega) (by omega) (by omega)) ?_
      refine gx_st (L' := [(2, 142), (2, 4), (2, (o : Int)), (2, 41), (0, b), (0, (h : Int)), (0, (k : Int))]) (S' := [(0, 1), (0, 10 * (k : Int) + (f : Int)), (2, 143)]) r_277_88 rfl rfl rfl ?_
      refine gx_cv (nx := 92) (S2 := []) (c_239 (r := 143) (n := 50) (ty_143 hT) (by decide) (by decide) (k := 10 * k + f) (by omega) 1) r_277_89 rfl rfl rfl rfl rfl rfl rfl (by decide) rfl (fun n89 q89 => ?_)
      have b2 := i2 (10 * k + f) (by omega)
      have b3 := hb (10 * k + f) (by omega)
      rw [w32_eq rfl (by omega) (by omega)] at q89
      have e9 := q89
      clear q89
      refine gx_li (z := (k : Int) + 1) (L' := [(2, 142), (2, 4), (2, (o : Int)), (2, 41), (0, b), (0, (h : Int)), (0, (k : Int) + 1)]) r_277_92 rfl (w32_eq (by omega) (by omega) (by omega)) rfl ?_
      refine gx_st (L' := [(2, 142), (2, 4), (2, (o : Int)), (2, 41), (0, b), (0, (h : Int)), (0, (k : Int) + 1)]) (S' := []) r_277_95 rfl rfl rfl ?_
      rw [show (k : Int) + 1 = ((k + 1 : Nat) : Int) from rfl]
      refine ih (k + 1) n89 (by omega) (by omega) (fun x i hx => by rw [e9, nu_no hx]; exact i1 x i hx) (fun i hi => ?_) (fun t a ht ha => ?_) (fun i h1 h2 => by rw [e9, nu_ne (by omega)]; exact i4 i (by omega) h2)
      · rw [e9]
        by_cases e : i = 10 * k + f
        · have z := i4 i (by omega) hi
          rw [e, nu_at, ← e, z]
          have := hb i hi; omega
        · rw [nu_ne e]; exact i2 i hi
      · rw [e9]
        by_cases e : t = k
        · subst e
          have z := i4 (10 * t + a) (by omega) (by omega)
          by_cases c : a = f
          · rw [c, nu_at, ← c, z, if_pos (by omega)]
          · rw [nu_ne (by omega), z, if_neg (by omega)]; omega
        · rw [nu_ne (by omega)]; exact i3 t a (by omega) ha
theorem ga_l (hT : TT T) {m0 : Mm} (hp0 : PinR m0) {o : Nat} (ho : SlT T o) (h_o : 144 ≤ o) (hr0 : SlR m0 o) {q n tr : Nat} {b : Int} (hc0 : m0 o 2 = 2 * (q : Int)) (hc60 : 2 * q ≤ 60) (hs0 : sndB (m0 (o + 1)) (tr : Int) (2 * q) = true) (h46 : m0 4 6 = (tr : Int)) (tr5 : tr ≤ 5) (h42 : m0 4 2 = (n : Int)) (n12 : n ≤ 12) (hf : ∀ h t : Nat, h ≤ n → t < tr → 0 ≤ m0 49 (5 * h + t) ∧ m0 49 (5 * h + t) ≤ 9) (hb0 : 0 ≤ m0 142 0 ∧ m0 142 0 ≤ 900) (hb : ∀ i : Nat, i < 50 → 0 ≤ m0 143 i ∧ m0 143 i ≤ 900) : ∀ (N k : Nat) (m : Mm) (x6 : AV), n + 1 - k < N → k ≤ n + 1 → GaI o q tr m0 m k → GX T 3 277 3 [(2, 142), (2, 4), (2, (o : Int)), (2, 41), (0, b), (0, (k : Int)), x6] [] m (RV (fun m1 => GaI o q tr m0 m1 (n + 1))) := by
  intro N
  induction N with
  | zero => intro k m x6 hN; exact absurd hN (Nat.not_lt_zero _)
  | succ N ih =>
    intro k m x6 hN hk gi
    have ho0 := ho.1
    have hp := pin_ga hp0 gi
    have hr : SlR m o := (gi.1 o 0 (by omega) (by omega)).trans hr0
    have hc : m o 2 = 2 * (q : Int) := (gi.1 o 2 (by omega) (by omega)).trans hc0
    have eN : m (o + 1) = m0 (o + 1) := funext fun i => gi.1 (o + 1) i (by omega) (by omega)
    have e49 : m 49 = m0 49 := funext fun i => gi.1 49 i (by decide) (by decide)
    have e46 : m 4 6 = (tr : Int) := (gi.1 4 6 (by decide) (by decide)).trans h46
    have b9 : 0 ≤ m 142 0 ∧ m 142 0 ≤ 1000 := by
      have z := gi.2.2.1
      have y : ctB (fun h => fitB (m0 (o + 1)) (fun t => m0 49 (5 * h + t)) q) k ≤ k := ctB_le k
      omega
    refine gx_st (L' := [(2, 142), (2, 4), (2, (o : Int)), (2, 41), (0, b), (0, (k : Int)), x6]) (S' := [(0, (k : Int))]) r_277_3 rfl rfl rfl ?_
    refine gx_st (L' := [(2, 142), (2, 4), (2, (o : Int)), (2, 41), (0, b), (0, (k : Int)), x6]) (S' := [(2, 4), (0, (k : Int))]) r_277_5 rfl rfl rfl ?_
    refine gx_gf (x := (n : Int)) 0 r_277_6 (rfl) (ty_4 hT) ⟨by decide, rfl, by decide, by decide⟩ rfl (fun z => absurd z (by decide)) ((gi.1 4 2 (by decide) (by decide)).trans h42) ?_
    refine gx_ic (P := (n : Int) < (k : Int)) r_277_9 (rfl) (fun h9 => ?_) (fun h9 => ?_)
    · have hkn : k = n + 1 := by omega
      subst hkn
      exact gx_rt r_277_104 rfl rfl ⟨rfl, gi⟩
    · refine gx_st (L' := [(2, 142), (2, 4), (2, (o : Int)), (2, 41), (0, b), (0, (k : Int)), x6]) (S' := [(2, (o : Int))]) r_277_12 rfl rfl rfl ?_
      refine gx_st (L' := [(2, 142), (2, 4), (2, (o : Int)), (2, 41), (0, b), (0, (k : Int)), x6]) (S' := [(2, 41), (2, (o : Int))]) r_277_13 rfl rfl rfl ?_
      refine gx_st (L' := [(2, 142), (2, 4), (2, (o : Int)), (2, 41), (0, b), (0, (k : Int)), x6]) (S' := [(0, (k : Int)), (2, 41), (2, (o : Int))]) r_277_14 rfl rfl rfl ?_
      refine gx_ci (nx := 19) (S2 := []) (c_278 hT ho hr hp hc hc60 (by rw [eN, e46]; exact hs0) (by omega) (h := k) (by omega)) r_277_16 rfl rfl rfl rfl rfl rfl rfl (by decide) rfl (fun x16 n16 q16 => ?_)
      obtain ⟨e_x16, z_x16⟩ := q16
      obtain rfl := z_x16.symm
      rw [eN, e49] at e_x16
      rw [e_x16]
      show GX T 3 277 19 [(2, 142), (2, 4), (2, (o : Int)), (2, 41), (0, b), (0, (k : Int)), x6] [(0, (if fitB (m0 (o + 1)) (fun t => m0 49 (5 * k + t)) q = true then 1 else 0))] m (RV (fun m1 => GaI o q tr m0 m1 (n + 1)))
      refine gx_i0 (P := ¬ (fitB (m0 (o + 1)) (fun t => m0 49 (5 * k + t)) q = true)) r_277_19 (b01_eq) (fun h19 => ?_) (fun h19 => ?_)
      · refine gx_li (z := (k : Int) + 1) (L' := [(2, 142), (2, 4), (2, (o : Int)), (2, 41), (0, b), (0, (k : Int) + 1), x6]) r_277_98 rfl (w32_eq (by omega) (by omega) (by omega)) rfl ?_
        refine gx_st (L' := [(2, 142), (2, 4), (2, (o : Int)), (2, 41), (0, b), (0, (k : Int) + 1), x6]) (S' := []) r_277_101 rfl rfl rfl ?_
        rw [show (k : Int) + 1 = ((k + 1 : Nat) : Int) from rfl]
        refine ih (k + 1) m x6 (by omega) (by omega) ⟨gi.1, gi.2.1, ?_, fun i hi => ?_, fun t a ht ha => ?_⟩
        · rw [gi.2.2.1, ctB_n (p := fun h => fitB (m0 (o + 1)) (fun t => m0 49 (5 * h + t)) q) h19]
        · have y := gi.2.2.2.1 i hi
          omega
        · rw [gi.2.2.2.2 t a ht ha, ctB_n (p := fun h => fitB (m0 (o + 1)) (fun t => m0 49 (5 * h + t)) q && decide (m0 49 (5 * h + t) = (a : Int))) (fun z => h19 (by rw [Bool.and_eq_true] at z; exact z.1))]
      · have h19 := Decidable.not_not.mp h19
        refine gx_st (L' := [(2, 142), (2, 4), (2, (o : Int)), (2, 41), (0, b), (0, (k : Int)), x6]) (S' := [(2, 142)]) r_277_22 rfl rfl rfl ?_
        refine gx_st (L' := [(2, 142), (2, 4), (2, (o : Int)), (2, 41), (0, b), (0, (k : Int)), x6]) (S' := [(2, 142), (2, 142)]) r_277_23 rfl rfl rfl ?_
        refine gx_gf (x := (m 142 0)) 0 r_277_24 (rfl) (ty_142 hT) ⟨by decide, rfl, by decide, by decide⟩ rfl (fun z => absurd z (by decide)) (rfl) ?_
        refine gx_st (L' := [(2, 142), (2, 4), (2, (o : Int)), (2, 41), (0, b), (0, (k : Int)), x6]) (S' := [(0, 1), (0, (m 142 0)), (2, 142)]) r_277_27 rfl rfl rfl ?_
        refine gx_ar (L' := [(2, 142), (2, 4), (2, (o : Int)), (2, 41), (0, b), (0, (k : Int)), x6]) (S' := [(2, 142)]) (t := 0) (e := w32 ((m 142 0) + 1)) (z := (m 142 0) + 1) r_277_28 rfl rfl rfl (w32_eq (by omega) (by omega) (by omega)) ?_
        obtain ⟨m1, e_m1⟩ : ∃ z, z = nu_up m 142 0 ((m 142 0) + 1) := ⟨_, rfl⟩
        refine gx_pf (x := (m 142 0) + 1) 0 r_277_29 (rfl) (ty_142 hT) ⟨by decide, rfl, by decide, by decide⟩ rfl (fun z => absurd z (by decide)) (fun z => absurd z (by decide)) e_m1.symm ?_
        refine gx_st (L' := [(2, 142), (2, 4), (2, (o : Int)), (2, 41), (0, b), (0, (k : Int)), x6]) (S' := [(2, 142)]) r_277_32 rfl rfl rfl ?_
        refine gx_st (L' := [(2, 142), (2, 4), (2, (o : Int)), (2, 41), (0, b), (0, (k : Int)), x6]) (S' := [(2, 142), (2, 142)]) r_277_33 rfl rfl rfl ?_
        refine gx_gf (x := (m 142 1)) 0 r_277_34 (rfl) (ty_142 hT) ⟨by decide, rfl, by decide, by decide⟩ rfl (fun z => absurd z (by decide)) (by show m1 142 1 = _; rw [e_m1, nu_ne (by decide)]) ?_
        refine gx_st (L' := [(2, 142), (2, 4), (2, (o : Int)), (2, 41), (0, b), (0, (k : Int)), x6]) (S' := [(0, 1), (0, (m 142 1)), (2, 142)]) r_277_37 rfl rfl rfl ?_
        refine gx_st (L' := [(2, 142), (2, 4), (2, (o : Int)), (2, 41), (0, b), (0, (k : Int)), x6]) (S' := [(0, (k : Int)), (0, 1), (0, (m 142 1)), (2, 142)]) r_277_38 rfl rfl rfl ?_
        refine gx_st (L' := [(2, 142), (2, 4), (2, (o : Int)), (2, 41), (0, b), (0, (k : Int)), x6]) (S' := [(0, (ishl 1 (k : Int))), (0, (m 142 1)), (2, 142)]) r_277_40 rfl rfl rfl ?_
        refine gx_st (L' := [(2, 142), (2, 4), (2, (o : Int)), (2, 41), (0, b), (0, (k : Int)), x6]) (S' := [(0, (ior (m 142 1) ((ishl 1 (k : Int))))), (2, 142)]) r_277_41 rfl rfl rfl ?_
        obtain ⟨m2, e_m2⟩ : ∃ z, z = nu_up m1 142 1 ((ior (m 142 1) ((ishl 1 (k : Int))))) := ⟨_, rfl⟩
        refine gx_pf (x := (ior (m 142 1) ((ishl 1 (k : Int))))) 0 r_277_42 (rfl) (ty_142 hT) ⟨by decide, rfl, by decide, by decide⟩ rfl (fun z => absurd z (by decide)) (fun z => absurd z (by decide)) e_m2.symm ?_
        refine gx_st (L' := [(2, 142), (2, 4), (2, (o : Int)), (2, 41), (0, b), (0, (k : Int)), x6]) (S' := [(2, 142)]) r_277_45 rfl rfl rfl ?_
        refine gx_st (L' := [(2, 142), (2, 4), (2, (o : Int)), (2, 41), (0, b), (0, (k : Int)), x6]) (S' := [(2, 142), (2, 142)]) r_277_46 rfl rfl rfl ?_
        refine gx_gf (x := (m 142 2)) 0 r_277_47 (rfl) (ty_142 hT) ⟨by decide, rfl, by decide, by decide⟩ rfl (fun z => absurd z (by decide)) (by show m2 142 2 = _; rw [e_m2, nu_ne (by decide), e_m1, nu_ne (by decide)]) ?_
        refine gx_st (L' := [(2, 142), (2, 4), (2, (o : Int)), (2, 41), (0, b), (0, (k : Int)), x6]) (S' := [(0, 1), (0, (m 142 2)), (2, 142)]) r_277_50 rfl rfl rfl ?_
        refine gx_st (L' := [(2, 142), (2, 4), (2, (o : Int)), (2, 41), (0, b), (0, (k : Int)), x6]) (S' := [(0, b), (0, 1), (0, (m 142 2)), (2, 142)]) r_277_51 rfl rfl rfl ?_
        refine gx_st (L' := [(2, 142), (2, 4), (2, (o : Int)), (2, 41), (0, b), (0, (k : Int)), x6]) (S' := [(0, (ishl 1 b)), (0, (m 142 2)), (2, 142)]) r_277_53 rfl rfl rfl ?_
        refine gx_st (L' := [(2, 142), (2, 4), (2, (o : Int)), (2, 41), (0, b), (0, (k : Int)), x6]) (S' := [(0, (ior (m 142 2) (ishl 1 b))), (2, 142)]) r_277_54 rfl rfl rfl ?_
        obtain ⟨m3, e_m3⟩ : ∃ z, z = nu_up m2 142 2 ((ior (m 142 2) (ishl 1 b))) := ⟨_, rfl⟩
        refine gx_pf (x := (ior (m 142 2) (ishl 1 b))) 0 r_277_55 (rfl) (ty_142 hT) ⟨by decide, rfl, by decide, by decide⟩ rfl (fun z => absurd z (by decide)) (fun z => absurd z (by decide)) e_m3.symm ?_
        refine gx_st (L' := [(2, 142), (2, 4), (2, (o : Int)), (2, 41), (0, b), (0, (k : Int)), x6]) (S' := [(0, 0)]) r_277_58 rfl rfl rfl ?_
        refine gx_st (L' := [(2, 142), (2, 4), (2, (o : Int)), (2, 41), (0, b), (0, (k : Int)), (0, 0)]) (S' := []) r_277_59 rfl rfl rfl ?_
        have f3 : ∀ i : Nat, m3 143 i = m 143 i := fun i => by rw [e_m3, nu_no (by decide), e_m2, nu_no (by decide), e_m1, nu_no (by decide)]
        have f49 : m3 49 = m 49 := funext fun i => by rw [e_m3, nu_no (by decide), e_m2, nu_no (by decide), e_m1, nu_no (by decide)]
        have f46 : m3 4 6 = (tr : Int) := by rw [e_m3, nu_no (by decide), e_m2, nu_no (by decide), e_m1, nu_no (by decide)]; exact e46
        have hp3 : PinR m3 := by rw [e_m3, e_m2, e_m1]; exact PinR_up (PinR_up (PinR_up hp rfl) rfl) rfl
        refine gt_l hT hp3 (h := k) (by omega) f46 tr5 (fun t ht => by rw [f49, e49]; exact hf k t (by omega) ht) (fun i hi => by have := gi.2.2.2.1 i hi; have := hb i hi; rw [f3]; omega) (fun p2 x7 g1 g2 g3 => ?_) (tr + 1) 0 m3 (by omega) (by omega) (fun _ _ _ => rfl) (fun i hi => by have := gi.2.2.2.1 i hi; have := hb i hi; rw [f3]; omega) (fun t a ht => absurd ht (Nat.not_lt_zero _)) (fun _ _ _ => rfl)
        refine gx_li (z := (k : Int) + 1) (L' := [(2, 142), (2, 4), (2, (o : Int)), (2, 41), (0, b), (0, (k : Int) + 1), x7]) r_277_98 rfl (w32_eq (by omega) (by omega) (by omega)) rfl ?_
        refine gx_st (L' := [(2, 142), (2, 4), (2, (o : Int)), (2, 41), (0, b), (0, (k : Int) + 1), x7]) (S' := []) r_277_101 rfl rfl rfl ?_
        rw [show (k : Int) + 1 = ((k + 1 : Nat) : Int) from rfl]
        refine ih (k + 1) p2 x7 (by omega) (by omega) ⟨fun x i h1 h2 => ?_, fun i hi => ?_, ?_, fun i hi => ?_, fun t a ht ha => ?_⟩
        · rw [g1 x i h2, e_m3, nu_no h1, e_m2, nu_no h1, e_m1, nu_no h1]; exact gi.1 x i h1 h2
        · rw [g1 142 i (by decide), e_m3, nu_ne (by omega), e_m2, nu_ne (by omega), e_m1, nu_ne (by omega)]; exact gi.2.1 i hi
        · rw [g1 142 0 (by decide), e_m3, nu_ne (by decide), e_m2, nu_ne (by decide), e_m1, nu_at, gi.2.2.1, ctB_y (p := fun h => fitB (m0 (o + 1)) (fun t => m0 49 (5 * h + t)) q) h19]; omega
        · have z := g2 i hi
          rw [f3 i] at z
          have y := gi.2.2.2.1 i hi
          omega
        · rw [g3 t a ht ha, f3, gi.2.2.2.2 t a ht ha, show m3 49 (5 * k + t) = m0 49 (5 * k + t) by rw [f49]; exact congrFun e49 _]
          by_cases c : m0 49 (5 * k + t) = (a : Int)
          · rw [if_pos c, ctB_y (p := fun h => fitB (m0 (o + 1)) (fun t => m0 49 (5 * h + t)) q && decide (m0 49 (5 * h + t) = (a : Int))) (by show (_ && _) = true; rw [h19, decide_eq_true c]; rfl)]; omega
          · rw [if_neg c, ctB_n (p := fun h => fitB (m0 (o + 1)) (fun t => m0 49 (5 * h + t)) q && decide (m0 49 (5 * h + t) = (a : Int))) (by show ¬ (_ && _) = true; rw [decide_eq_false c, Bool.and_false]; decide)]; omega
theorem c_277 (hT : TT T) {m0 : Mm} (hp0 : PinR m0) {o : Nat} (ho : SlT T o) (h_o : 144 ≤ o) (hr0 : SlR m0 o) {q n tr : Nat} {b : Int} (hc0 : m0 o 2 = 2 * (q : Int)) (hc60 : 2 * q ≤ 60) (hs0 : sndB (m0 (o + 1)) (tr : Int) (2 * q) = true) (h46 : m0 4 6 = (tr : Int)) (tr5 : tr ≤ 5) (h42 : m0 4 2 = (n : Int)) (n12 : n ≤ 12) (hf : ∀ h t : Nat, h ≤ n → t < tr → 0 ≤ m0 49 (5 * h + t) ∧ m0 49 (5 * h + t) ≤ 9) (hb0 : 0 ≤ m0 142 0 ∧ m0 142 0 ≤ 900) (hb : ∀ i : Nat, i < 50 → 0 ≤ m0 143 i ∧ m0 143 i ≤ 900) : GX T 3 277 0 [(2, 142), (2, 4), (2, (o : Int)), (2, 41), (0, b), (9, 0), (9, 0)] [] m0 (RV (fun m1 => GaI o q tr m0 m1 (n + 1))) := by
  refine gx_st (L' := [(2, 142), (2, 4), (2, (o : Int)), (2, 41), (0, b), (9, 0), (9, 0)]) (S' := [(0, 0)]) r_277_0 rfl rfl rfl ?_
  refine gx_st (L' := [(2, 142), (2, 4), (2, (o : Int)), (2, 41), (0, b), (0, 0), (9, 0)]) (S' := []) r_277_1 rfl rfl rfl ?_
  exact ga_l hT hp0 ho h_o hr0 hc0 hc60 hs0 h46 tr5 h42 n12 hf hb0 hb (n + 2) 0 m0 (9, 0) (by omega) (by omega) ⟨fun _ _ _ _ => rfl, fun _ _ => rfl, by show m0 142 0 = m0 142 0 + ((0 : Nat) : Int); omega, fun i hi => by have := hb i hi; omega, fun t a _ _ => by show m0 143 (10 * t + a) = m0 143 (10 * t + a) + ((0 : Nat) : Int); omega⟩
theorem mo_l (hT : TT T) (hp : PinR m) {t : Nat} (ht : t < 5) : ∀ (N k : Nat), 10 - k < N → k ≤ 10 → GX T 1 279 4 [(2, 142), (0, (t : Int)), (0, (mxF (fun a => m 143 (10 * t + a)) k)), (0, (k : Int))] [] m (RI (fun v m1 => v = (mxF (fun a => m 143 (10 * t + a)) 10) ∧ m1 = m)) := by
  intro N
  induction N with
  | zero => intro k hN; exact absurd hN (Nat.not_lt_zero _)
  | succ N ih =>
    intro k hN hk
    refine gx_st (L' := [(2, 142), (0, (t : Int)), (0, (mxF (fun a => m 143 (10 * t + a)) k)), (0, (k : Int))]) (S' := [(0, (k : Int))]) r_279_4 rfl rfl rfl ?_
    refine gx_st (L' := [(2, 142), (0, (t : Int)), (0, (mxF (fun a => m 143 (10 * t + a)) k)), (0, (k : Int))]) (S' := [(0, 10), (0, (k : Int))]) r_279_5 rfl rfl rfl ?_
    refine gx_ic (P := 10 ≤ (k : Int)) r_279_7 (rfl) (fun h7 => ?_) (fun h7 => ?_)
    · refine gx_st (L' := [(2, 142), (0, (t : Int)), (0, (mxF (fun a => m 143 (10 * t + a)) k)), (0, (k : Int))]) (S' := [(0, (mxF (fun a => m 143 (10 * t + a)) k))]) r_279_34 rfl rfl rfl ?_
      have hkn : k = 10 := by omega
      subst hkn
      exact gx_rt r_279_35 rfl rfl ⟨_, rfl, rfl, rfl⟩
    · refine gx_st (L' := [(2, 142), (0, (t : Int)), (0, (mxF (fun a => m 143 (10 * t + a)) k)), (0, (k : Int))]) (S' := [(0, (mxF (fun a => m 143 (10 * t + a)) k))]) r_279_10 rfl rfl rfl ?_
      refine gx_st (L' := [(2, 142), (0, (t : Int)), (0, (mxF (fun a => m 143 (10 * t + a)) k)), (0, (k : Int))]) (S' := [(2, 142), (0, (mxF (fun a => m 143 (10 * t + a)) k))]) r_279_11 rfl rfl rfl ?_
      refine gx_gf (x := 143) 2 r_279_12 (rfl) (ty_142 hT) ⟨by decide, rfl, by decide, by decide⟩ rfl (fun _ => by omega) (pin_at hp (t := 143) rfl (by decide)) ?_
      refine gx_st (L' := [(2, 142), (0, (t : Int)), (0, (mxF (fun a => m 143 (10 * t + a)) k)), (0, (k : Int))]) (S' := [(0, (t : Int)), (2, 143), (0, (mxF (fun a => m 143 (10 * t + a)) k))]) r_279_15 rfl rfl rfl ?_
      refine gx_st (L' := [(2, 142), (0, (t : Int)), (0, (mxF (fun a => m 143 (10 * t + a)) k)), (0, (k : Int))]) (S' := [(0, 10), (0, (t : Int)), (2, 143), (0, (mxF (fun a => m 143 (10 * t + a)) k))]) r_279_16 rfl rfl rfl ?_
      refine gx_ar (L' := [(2, 142), (0, (t : Int)), (0, (mxF (fun a => m 143 (10 * t + a)) k)), (0, (k : Int))]) (S' := [(2, 143), (0, (mxF (fun a => m 143 (10 * t + a)) k))]) (t := 0) (e := w32 ((t : Int) * 10)) (z := 10 * (t : Int)) r_279_18 rfl rfl rfl (w32_eq (by omega) (by omega) (by omega)) ?_
      refine gx_st (L' := [(2, 142), (0, (t : Int)), (0, (mxF (fun a => m 143 (10 * t + a)) k)), (0, (k : Int))]) (S' := [(0, (k : Int)), (0, 10 * (t : Int)), (2, 143), (0, (mxF (fun a => m 143 (10 * t + a)) k))]) r_279_19 rfl rfl rfl ?_
      refine gx_ar (L' := [(2, 142), (0, (t : Int)), (0, (mxF (fun a => m 143 (10 * t + a)) k)), (0, (k : Int))]) (S' := [(2, 143), (0, (mxF (fun a => m 143 (10 * t + a)) k))]) (t := 0) (e := w32 ((10 * (t : Int)) + (k : Int))) (z := 10 * (t : Int) + (k : Int)) r_279_20 rfl rfl rfl (w32_eq (by omega) (by omega) (by omega)) ?_
      refine gx_ci (nx := 24) (S2 := [(0, (mxF (fun a => m 143 (10 * t + a)) k))]) (c_237 (r := 143) (n := 50) (ty_143 hT) (by decide) (by decide) (k := 10 * t + k) (by omega)) r_279_21 rfl rfl rfl rfl rfl rfl rfl (by decide) rfl (fun x21 n21 q21 => ?_)
      obtain ⟨e_x21, z_x21⟩ := q21
      obtain rfl := z_x21.symm
      obtain rfl := e_x21
      show GX T 1 279 24 [(2, 142), (0, (t : Int)), (0, (mxF (fun a => m 143 (10 * t + a)) k)), (0, (k : Int))] [(0, (m 143 (10 * t + k))), (0, (mxF (fun a => m 143 (10 * t + a)) k))] m (RI (fun v m1 => v = (mxF (fun a => m 143 (10 * t + a)) 10) ∧ m1 = m))
      refine gx_st (L' := [(2, 142), (0, (t : Int)), (0, (mxF (fun a => m 143 (10 * t + a)) k)), (0, (k : Int))]) (S' := [(0, (max ((mxF (fun a => m 143 (10 * t + a)) k)) ((m 143 (10 * t + k)))))]) r_279_24 rfl rfl rfl ?_
      refine gx_st (L' := [(2, 142), (0, (t : Int)), (0, (max ((mxF (fun a => m 143 (10 * t + a)) k)) ((m 143 (10 * t + k))))), (0, (k : Int))]) (S' := []) r_279_27 rfl rfl rfl ?_
      refine gx_li (z := (k : Int) + 1) (L' := [(2, 142), (0, (t : Int)), (0, (max ((mxF (fun a => m 143 (10 * t + a)) k)) ((m 143 (10 * t + k))))), (0, (k : Int) + 1)]) r_279_28 rfl (w32_eq (by omega) (by omega) (by omega)) rfl ?_
      refine gx_st (L' := [(2, 142), (0, (t : Int)), (0, (max ((mxF (fun a => m 143 (10 * t + a)) k)) ((m 143 (10 * t + k))))), (0, (k : Int) + 1)]) (S' := []) r_279_31 rfl rfl rfl ?_
      rw [show (k : Int) + 1 = ((k + 1 : Nat) : Int) from rfl]
      exact ih (k + 1) (by omega) (by omega)
theorem c_279 (hT : TT T) (hp : PinR m) {t : Nat} (ht : t < 5) : GX T 1 279 0 [(2, 142), (0, (t : Int)), (9, 0), (9, 0)] [] m (RI (fun v m1 => v = (mxF (fun a => m 143 (10 * t + a)) 10) ∧ m1 = m)) := by
  refine gx_st (L' := [(2, 142), (0, (t : Int)), (9, 0), (9, 0)]) (S' := [(0, 0)]) r_279_0 rfl rfl rfl ?_
  refine gx_st (L' := [(2, 142), (0, (t : Int)), (0, 0), (9, 0)]) (S' := []) r_279_1 rfl rfl rfl ?_
  refine gx_st (L' := [(2, 142), (0, (t : Int)), (0, 0), (9, 0)]) (S' := [(0, 0)]) r_279_2 rfl rfl rfl ?_
  refine gx_st (L' := [(2, 142), (0, (t : Int)), (0, 0), (0, 0)]) (S' := []) r_279_3 rfl rfl rfl ?_
  exact mo_l hT hp ht 11 0 (by omega) (by omega)
theorem bt_l (hT : TT T) (hp : PinR m) {tr : Nat} (tr5 : tr ≤ 5) : ∀ (N k : Nat) (x5 : AV), tr - k < N → k ≤ tr → GX T 2 280 10 [(2, 142), (0, (tr : Int)), (0, ((btF (fun t => mxF (fun a => m 143 (10 * t + a)) 10) (m 142 0) k).1)), (0, ((btF (fun t => mxF (fun a => m 143 (10 * t + a)) 10) (m 142 0) k).2)), (0, (k : Int)), x5] [] m (RI (fun v m1 => v = (btF (fun t => mxF (fun a => m 143 (10 * t + a)) 10) (m 142 0) tr).1 ∧ m1 = m)) := by
  intro N
  induction N with
  | zero => intro k x5 hN; exact absurd hN (Nat.not_lt_zero _)
  | succ N ih =>
    intro k x5 hN hk
    refine gx_st (L' := [(2, 142), (0, (tr : Int)), (0, ((btF (fun t => mxF (fun a => m 143 (10 * t + a)) 10) (m 142 0) k).1)), (0, ((btF (fun t => mxF (fun a => m 143 (10 * t + a)) 10) (m 142 0) k).2)), (0, (k : Int)), x5]) (S' := [(0, (k : Int))]) r_280_10 rfl rfl rfl ?_
    refine gx_st (L' := [(2, 142), (0, (tr : Int)), (0, ((btF (fun t => mxF (fun a => m 143 (10 * t + a)) 10) (m 142 0) k).1)), (0, ((btF (fun t => mxF (fun a => m 143 (10 * t + a)) 10) (m 142 0) k).2)), (0, (k : Int)), x5]) (S' := [(0, (tr : Int)), (0, (k : Int))]) r_280_12 rfl rfl rfl ?_
    refine gx_ic (P := (tr : Int) ≤ (k : Int)) r_280_13 (rfl) (fun h13 => ?_) (fun h13 => ?_)
    · refine gx_st (L' := [(2, 142), (0, (tr : Int)), (0, ((btF (fun t => mxF (fun a => m 143 (10 * t + a)) 10) (m 142 0) k).1)), (0, ((btF (fun t => mxF (fun a => m 143 (10 * t + a)) 10) (m 142 0) k).2)), (0, (k : Int)), x5]) (S' := [(0, ((btF (fun t => mxF (fun a => m 143 (10 * t + a)) 10) (m 142 0) k).1))]) r_280_42 rfl rfl rfl ?_
      have hkn : k = tr := by omega
      subst hkn
      exact gx_rt r_280_43 rfl rfl ⟨_, rfl, rfl, rfl⟩
    · refine gx_st (L' := [(2, 142), (0, (tr : Int)), (0, ((btF (fun t => mxF (fun a => m 143 (10 * t + a)) 10) (m 142 0) k).1)), (0, ((btF (fun t => mxF (fun a => m 143 (10 * t + a)) 10) (m 142 0) k).2)), (0, (k : Int)), x5]) (S' := [(2, 142)]) r_280_16 rfl rfl rfl ?_
      refine gx_st (L' := [(2, 142), (0, (tr : Int)), (0, ((btF (fun t => mxF (fun a => m 143 (10 * t + a)) 10) (m 142 0) k).1)), (0, ((btF (fun t => mxF (fun a => m 143 (10 * t + a)) 10) (m 142 0) k).2)), (0, (k : Int)), x5]) (S' := [(0, (k : Int)), (2, 142)]) r_280_17 rfl rfl rfl ?_
      refine gx_ci (nx := 22) (S2 := []) (c_279 hT hp (t := k) (by omega)) r_280_19 rfl rfl rfl rfl rfl (rcv_v rfl (ty_142 hT) (by decide) rfl (by decide)) rfl (by decide) rfl (fun x19 n19 q19 => ?_)
      obtain ⟨e_x19, z_x19⟩ := q19
      obtain rfl := z_x19.symm
      rw [e_x19]
      show GX T 2 280 22 [(2, 142), (0, (tr : Int)), (0, ((btF (fun t => mxF (fun a => m 143 (10 * t + a)) 10) (m 142 0) k).1)), (0, ((btF (fun t => mxF (fun a => m 143 (10 * t + a)) 10) (m 142 0) k).2)), (0, (k : Int)), x5] [(0, (mxF (fun a => m 143 (10 * k + a)) 10))] m (RI (fun v m1 => v = (btF (fun t => mxF (fun a => m 143 (10 * t + a)) 10) (m 142 0) tr).1 ∧ m1 = m))
      refine gx_st (L' := [(2, 142), (0, (tr : Int)), (0, ((btF (fun t => mxF (fun a => m 143 (10 * t + a)) 10) (m 142 0) k).1)), (0, ((btF (fun t => mxF (fun a => m 143 (10 * t + a)) 10) (m 142 0) k).2)), (0, (k : Int)), (0, (mxF (fun a => m 143 (10 * k + a)) 10))]) (S' := []) r_280_22 rfl rfl rfl ?_
      refine gx_st (L' := [(2, 142), (0, (tr : Int)), (0, ((btF (fun t => mxF (fun a => m 143 (10 * t + a)) 10) (m 142 0) k).1)), (0, ((btF (fun t => mxF (fun a => m 143 (10 * t + a)) 10) (m 142 0) k).2)), (0, (k : Int)), (0, (mxF (fun a => m 143 (10 * k + a)) 10))]) (S' := [(0, (mxF (fun a => m 143 (10 * k + a)) 10))]) r_280_24 rfl rfl rfl ?_
      refine gx_st (L' := [(2, 142), (0, (tr : Int)), (0, ((btF (fun t => mxF (fun a => m 143 (10 * t + a)) 10) (m 142 0) k).1)), (0, ((btF (fun t => mxF (fun a => m 143 (10 * t + a)) 10) (m 142 0) k).2)), (0, (k : Int)), (0, (mxF (fun a => m 143 (10 * k + a)) 10))]) (S' := [(0, ((btF (fun t => mxF (fun a => m 143 (10 * t + a)) 10) (m 142 0) k).2)), (0, (mxF (fun a => m 143 (10 * k + a)) 10))]) r_280_26 rfl rfl rfl ?_
      refine gx_ic (P := ((btF (fun t => mxF (fun a => m 143 (10 * t + a)) 10) (m 142 0) k).2) ≤ (mxF (fun a => m 143 (10 * k + a)) 10)) r_280_27 (rfl) (fun h27 => ?_) (fun h27 => ?_)
      · refine gx_li (z := (k : Int) + 1) (L' := [(2, 142), (0, (tr : Int)), (0, ((btF (fun t => mxF (fun a => m 143 (10 * t + a)) 10) (m 142 0) k).1)), (0, ((btF (fun t => mxF (fun a => m 143 (10 * t + a)) 10) (m 142 0) k).2)), (0, (k : Int) + 1), (0, (mxF (fun a => m 143 (10 * k + a)) 10))]) r_280_36 rfl (w32_eq (by omega) (by omega) (by omega)) rfl ?_
        refine gx_st (L' := [(2, 142), (0, (tr : Int)), (0, ((btF (fun t => mxF (fun a => m 143 (10 * t + a)) 10) (m 142 0) k).1)), (0, ((btF (fun t => mxF (fun a => m 143 (10 * t + a)) 10) (m 142 0) k).2)), (0, (k : Int) + 1), (0, (mxF (fun a => m 143 (10 * k + a)) 10))]) (S' := []) r_280_39 rfl rfl rfl ?_
        rw [show (k : Int) + 1 = ((k + 1 : Nat) : Int) from rfl]
        have eb : (btF (fun t => mxF (fun a => m 143 (10 * t + a)) 10) (m 142 0) (k + 1)) = (btF (fun t => mxF (fun a => m 143 (10 * t + a)) 10) (m 142 0) k) := if_neg (Int.not_lt.mpr h27)
        have z := ih (k + 1) (0, (mxF (fun a => m 143 (10 * k + a)) 10)) (by omega) (by omega)
        rw [eb] at z
        exact z
      · refine gx_st (L' := [(2, 142), (0, (tr : Int)), (0, ((btF (fun t => mxF (fun a => m 143 (10 * t + a)) 10) (m 142 0) k).1)), (0, ((btF (fun t => mxF (fun a => m 143 (10 * t + a)) 10) (m 142 0) k).2)), (0, (k : Int)), (0, (mxF (fun a => m 143 (10 * k + a)) 10))]) (S' := [(0, (mxF (fun a => m 143 (10 * k + a)) 10))]) r_280_30 rfl rfl rfl ?_
        refine gx_st (L' := [(2, 142), (0, (tr : Int)), (0, ((btF (fun t => mxF (fun a => m 143 (10 * t + a)) 10) (m 142 0) k).1)), (0, (mxF (fun a => m 143 (10 * k + a)) 10)), (0, (k : Int)), (0, (mxF (fun a => m 143 (10 * k + a)) 10))]) (S' := []) r_280_32 rfl rfl rfl ?_
        refine gx_st (L' := [(2, 142), (0, (tr : Int)), (0, ((btF (fun t => mxF (fun a => m 143 (10 * t + a)) 10) (m 142 0) k).1)), (0, (mxF (fun a => m 143 (10 * k + a)) 10)), (0, (k : Int)), (0, (mxF (fun a => m 143 (10 * k + a)) 10))]) (S' := [(0, (k : Int))]) r_280_33 rfl rfl rfl ?_
        refine gx_st (L' := [(2, 142), (0, (tr : Int)), (0, (k : Int)), (0, (mxF (fun a => m 143 (10 * k + a)) 10)), (0, (k : Int)), (0, (mxF (fun a => m 143 (10 * k + a)) 10))]) (S' := []) r_280_35 rfl rfl rfl ?_
        refine gx_li (z := (k : Int) + 1) (L' := [(2, 142), (0, (tr : Int)), (0, (k : Int)), (0, (mxF (fun a => m 143 (10 * k + a)) 10)), (0, (k : Int) + 1), (0, (mxF (fun a => m 143 (10 * k + a)) 10))]) r_280_36 rfl (w32_eq (by omega) (by omega) (by omega)) rfl ?_
        refine gx_st (L' := [(2, 142), (0, (tr : Int)), (0, (k : Int)), (0, (mxF (fun a => m 143 (10 * k + a)) 10)), (0, (k : Int) + 1), (0, (mxF (fun a => m 143 (10 * k + a)) 10))]) (S' := []) r_280_39 rfl rfl rfl ?_
        rw [show (k : Int) + 1 = ((k + 1 : Nat) : Int) from rfl]
        have eb : (btF (fun t => mxF (fun a => m 143 (10 * t + a)) 10) (m 142 0) (k + 1)) = ((k : Int), (mxF (fun a => m 143 (10 * k + a)) 10)) := if_pos (Int.not_le.mp h27)
        have z := ih (k + 1) (0, (mxF (fun a => m 143 (10 * k + a)) 10)) (by omega) (by omega)
        rw [eb] at z
        exact z
theorem c_280 (hT : TT T) (hp : PinR m) {tr : Nat} (tr5 : tr ≤ 5) : GX T 2 280 0 [(2, 142), (0, (tr : Int)), (9, 0), (9, 0), (9, 0), (9, 0)] [] m (RI (fun v m1 => v = (btF (fun t => mxF (fun a => m 143 (10 * t + a)) 10) (m 142 0) tr).1 ∧ m1 = m)) := by
  refine gx_st (L' := [(2, 142), (0, (tr : Int)), (9, 0), (9, 0), (9, 0), (9, 0)]) (S' := [(0, (-1))]) r_280_0 rfl rfl rfl ?_
  refine gx_st (L' := [(2, 142), (0, (tr : Int)), (0, (-1)), (9, 0), (9, 0), (9, 0)]) (S' := []) r_280_1 rfl rfl rfl ?_
  refine gx_st (L' := [(2, 142), (0, (tr : Int)), (0, (-1)), (9, 0), (9, 0), (9, 0)]) (S' := [(2, 142)]) r_280_2 rfl rfl rfl ?_
  refine gx_gf (x := (m 142 0)) 0 r_280_3 (rfl) (ty_142 hT) ⟨by decide, rfl, by decide, by decide⟩ rfl (fun z => absurd z (by decide)) (rfl) ?_
  refine gx_st (L' := [(2, 142), (0, (tr : Int)), (0, (-1)), (0, (m 142 0)), (9, 0), (9, 0)]) (S' := []) r_280_6 rfl rfl rfl ?_
  refine gx_st (L' := [(2, 142), (0, (tr : Int)), (0, (-1)), (0, (m 142 0)), (9, 0), (9, 0)]) (S' := [(0, 0)]) r_280_7 rfl rfl rfl ?_
  refine gx_st (L' := [(2, 142), (0, (tr : Int)), (0, (-1)), (0, (m 142 0)), (0, 0), (9, 0)]) (S' := []) r_280_8 rfl rfl rfl ?_
  exact bt_l hT hp tr5 (tr + 1) 0 (9, 0) (by omega) (by omega)
end ASKC
