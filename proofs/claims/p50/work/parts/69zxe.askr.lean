/-! pairs that fit a row: the reference -/
theorem nu_nf {m : Mm} {o i p j : Nat} {x : Int} (h : ¬ (p = o ∧ j = i)) : nu_up m o i x p j = m p j := by
  by_cases e : p = o
  · subst e; exact nu_ne (fun z => h ⟨rfl, z⟩)
  · exact nu_no e
/-- what looking at pairs leaves as it was -/
def RkF (m0 p : Mm) : Prop := ∀ x i : Nat, ¬ (200 ≤ x ∧ x ≤ 202) → ¬ x = 204 → ¬ x = 207 → ¬ x = 208 → ¬ (x = 192 ∧ (i = 21 ∨ i = 22 ∨ i = 34)) → p x i = m0 x i
theorem rkf_rf {m : Mm} : RkF m m := fun _ _ _ _ _ _ _ => rfl
theorem rkf_tr {a b c : Mm} (h1 : RkF a b) (h2 : RkF b c) : RkF a c := fun x i z1 z2 z3 z4 z5 => (h2 x i z1 z2 z3 z4 z5).trans (h1 x i z1 z2 z3 z4 z5)
theorem rkf_g {a b : Mm} (h : FrG a b) : RkF a b := fun x i z1 z2 _ _ z5 => h x i z1 z2 (fun z => z5 ⟨z.1, by omega⟩)
theorem pin_rk {m m1 : Mm} (hp : PinR m) (f : RkF m m1) : PinR m1 := fun o i hq => by
  have e : ∀ o : Nat, ((200 ≤ o ∧ o ≤ 202) ∨ o = 204 ∨ o = 207 ∨ o = 208) → pinF o i = 0 := fun o ho => by
    have h : o = 200 ∨ o = 201 ∨ o = 202 ∨ o = 204 ∨ o = 207 ∨ o = 208 := by omega
    rcases h with rfl | rfl | rfl | rfl | rfl | rfl <;> exact pin_no (by decide) i
  have e2 : ¬ (o = 192 ∧ (i = 21 ∨ i = 22 ∨ i = 34)) := by
    rintro ⟨rfl, rfl | rfl | rfl⟩ <;> exact hq rfl
  rw [f o i (fun z => hq (e o (Or.inl z))) (fun z => hq (e o (by omega))) (fun z => hq (e o (by omega))) (fun z => hq (e o (by omega))) e2]
  exact hp o i hq
/-- what the reference has told of the first k places, and h moments of the next -/
def RkI (w : Wd) (D : Nat → Nat → Int) (N : Nat → Int) (q n : Nat) (p : Mm) (k h : Nat) : Prop := ∃ M : Nat, p 192 34 = (M : Int) ∧ M = prF w D N q n k + ctB (fun h => fitB N (fun t => frF w D k h t) q) h ∧ ∀ t a : Nat, t < 5 → (t : Int) < w 5 → a < 10 → ctB (fun j => decide (p 208 (5 * j + t) = (a : Int))) M = alF w D N q n k t a + ctB (fun h => fitB N (fun t => frF w D k h t) q && decide (frF w D k h t = (a : Int))) h
theorem rki_s {w : Wd} {D : Nat → Nat → Int} {N : Nat → Int} {q n k : Nat} {p : Mm} (h : RkI w D N q n p k (n + 1)) : RkI w D N q n p (k + 1) 0 := by
  obtain ⟨M, h1, h2, h3⟩ := h
  exact ⟨M, h1, h2, h3⟩
theorem rki_M {w : Wd} {D : Nat → Nat → Int} {N : Nat → Int} {q n k h M : Nat} (n12 : n ≤ 12) (e : M = prF w D N q n k + ctB (fun h => fitB N (fun t => frF w D k h t) q) h) : M ≤ 13 * k + h := by
  have y : prF w D N q n k ≤ 13 * k := toB_le n12 k
  have z : ctB (fun h => fitB N (fun t => frF w D k h t) q) h ≤ h := ctB_le h
  omega
theorem rki_n {w : Wd} {D : Nat → Nat → Int} {N : Nat → Int} {q n k h : Nat} {p : Mm} (hf : ¬ fitB N (fun t => frF w D k h t) q = true) (i : RkI w D N q n p k h) : RkI w D N q n p k (h + 1) := by
  obtain ⟨M, h1, h2, h3⟩ := i
  refine ⟨M, h1, ?_, fun t a ht h5 ha => ?_⟩
  · rw [ctB_n (p := fun h => fitB N (fun t => frF w D k h t) q) hf]; exact h2
  · rw [ctB_n (p := fun h => fitB N (fun t => frF w D k h t) q && decide (frF w D k h t = (a : Int))) (fun z => hf (by rw [Bool.and_eq_true] at z; exact z.1))]
    exact h3 t a ht h5 ha
theorem rki_y {w : Wd} {D : Nat → Nat → Int} {N : Nat → Int} {q n k h M : Nat} {p p2 : Mm} (hf : fitB N (fun t => frF w D k h t) q = true) (h2 : M = prF w D N q n k + ctB (fun h => fitB N (fun t => frF w D k h t) q) h) (h3 : ∀ t a : Nat, t < 5 → (t : Int) < w 5 → a < 10 → ctB (fun j => decide (p 208 (5 * j + t) = (a : Int))) M = alF w D N q n k t a + ctB (fun h => fitB N (fun t => frF w D k h t) q && decide (frF w D k h t = (a : Int))) h) (e1 : p2 192 34 = ((M + 1 : Nat) : Int)) (e2 : ∀ i : Nat, i < 5 * M → p2 208 i = p 208 i) (e3 : ∀ t : Nat, t < 5 → p2 208 (5 * M + t) = frF w D k h t) : RkI w D N q n p2 k (h + 1) := by
  refine ⟨M + 1, e1, ?_, fun t a ht h5 ha => ?_⟩
  · rw [ctB_y (p := fun h => fitB N (fun t => frF w D k h t) q) hf]; omega
  · have z := h3 t a ht h5 ha
    have y : ctB (fun j => decide (p2 208 (5 * j + t) = (a : Int))) M = ctB (fun j => decide (p 208 (5 * j + t) = (a : Int))) M := ctB_c M (fun j hj => by
      show decide (p2 208 (5 * j + t) = (a : Int)) = decide (p 208 (5 * j + t) = (a : Int))
      rw [e2 (5 * j + t) (by omega)])
    by_cases c : frF w D k h t = (a : Int)
    · rw [ctB_y (p := fun j => decide (p2 208 (5 * j + t) = (a : Int))) (k := M) (decide_eq_true (by rw [e3 t ht]; exact c)), ctB_y (p := fun h => fitB N (fun t => frF w D k h t) q && decide (frF w D k h t = (a : Int))) (by show (_ && _) = true; rw [hf, decide_eq_true c]; rfl), y, z]
      omega
    · rw [ctB_n (p := fun j => decide (p2 208 (5 * j + t) = (a : Int))) (k := M) (fun zz => c (by rw [← e3 t ht]; exact of_decide_eq_true zz)), ctB_n (p := fun h => fitB N (fun t => frF w D k h t) q && decide (frF w D k h t = (a : Int))) (by show ¬ (_ && _) = true; rw [decide_eq_false c, Bool.and_false]; decide), y, z]
/-- what the reference's looking tells -/
def A195 (n tr : Nat) (m m1 : Mm) (a v : Int) : Prop := (¬ (0 < m 193 9 ∧ 0 ≤ a ∧ a < 4) → v = -2) ∧ ∀ i : Nat, i < 4 → a = (i : Int) → 0 < m 193 9 → (m 209 i = -1 → v = -6) ∧ ∀ c : Nat, m 209 i = (c : Int) → (¬ (sndB (fun k => m 211 (60 * i + k)) (tr : Int) c = true ∧ c % 2 = 0) → v = -2) ∧ ∀ q : Nat, c = 2 * q → sndB (fun k => m 211 (60 * i + k)) (tr : Int) (2 * q) = true → v = 0 ∧ PinR m1 ∧ m1 193 = m 193 ∧ ∃ D : Nat → Nat → Int, WyD (pw (m 193)) D ∧ RkI (pw (m 193)) D (fun k => m 211 (60 * i + k)) q n m1 (pw (m 193) 0).toNat 0
theorem a195_0 {n tr : Nat} {m m1 : Mm} {a v : Int} (hb : ∀ i : Nat, i < 4 → -1 ≤ m 209 i) (hv : 0 ≤ v) (h : A195 n tr m m1 a v) : ∃ i q : Nat, i < 4 ∧ a = (i : Int) ∧ 0 < m 193 9 ∧ m 209 i = ((2 * q : Nat) : Int) ∧ sndB (fun k => m 211 (60 * i + k)) (tr : Int) (2 * q) = true ∧ v = 0 ∧ PinR m1 ∧ m1 193 = m 193 ∧ ∃ D : Nat → Nat → Int, WyD (pw (m 193)) D ∧ RkI (pw (m 193)) D (fun k => m 211 (60 * i + k)) q n m1 (pw (m 193) 0).toNat 0 := by
  obtain ⟨h1, h2⟩ := h
  have hc : 0 < m 193 9 ∧ 0 ≤ a ∧ a < 4 := Classical.byContradiction (fun z => by have := h1 z; omega)
  obtain ⟨i, hi⟩ : ∃ i : Nat, a = (i : Int) := ⟨a.toNat, by omega⟩
  have hi4 : i < 4 := by omega
  obtain ⟨h3, h4⟩ := h2 i hi4 hi hc.1
  have b := hb i hi4
  have h5 : ¬ m 209 i = -1 := fun z => by have := h3 z; omega
  obtain ⟨c, hcc⟩ : ∃ c : Nat, m 209 i = (c : Int) := ⟨(m 209 i).toNat, by omega⟩
  obtain ⟨h6, h7⟩ := h4 c hcc
  have h8 : sndB (fun k => m 211 (60 * i + k)) (tr : Int) c = true ∧ c % 2 = 0 := Classical.byContradiction (fun z => by have := h6 z; omega)
  obtain ⟨q, hq⟩ : ∃ q : Nat, c = 2 * q := ⟨c / 2, by omega⟩
  have hs : sndB (fun k => m 211 (60 * i + k)) (tr : Int) (2 * q) = true := by rw [← hq]; exact h8.1
  obtain ⟨h9, h10⟩ := h7 q hq hs
  exact ⟨i, q, hi4, hi, hc.1, by rw [hcc, hq], hs, h9, h10⟩
section ASKR
variable {T : List Kd} {m : Mm}
theorem l_194 (hT : TT T) (hp : PinR m) {i k : Nat} (hi : i < 4) (hk : k < 60) : GX T 0 194 0 [(2, 192), (0, (i : Int)), (0, (k : Int))] [] m (RL (fun v m1 => v = m 211 (60 * i + k) ∧ m1 = m)) := by
  refine gx_st (L' := [(2, 192), (0, (i : Int)), (0, (k : Int))]) (S' := [(2, 192)]) r_194_0 rfl rfl rfl ?_
  refine gx_gf (x := 211) 2 r_194_1 (rfl) (ty_192 hT) ⟨by decide, rfl, by decide, by decide⟩ rfl (fun _ => by omega) (pin_at hp (t := 211) rfl (by decide)) ?_
  refine gx_st (L' := [(2, 192), (0, (i : Int)), (0, (k : Int))]) (S' := [(0, 60), (2, 211)]) r_194_4 rfl rfl rfl ?_
  refine gx_st (L' := [(2, 192), (0, (i : Int)), (0, (k : Int))]) (S' := [(0, (i : Int)), (0, 60), (2, 211)]) r_194_6 rfl rfl rfl ?_
  refine gx_ar (L' := [(2, 192), (0, (i : Int)), (0, (k : Int))]) (S' := [(2, 211)]) (t := 0) (e := w32 (60 * (i : Int))) (z := 60 * (i : Int)) r_194_7 rfl rfl rfl (w32_eq (by omega) (by omega) (by omega)) ?_
  refine gx_st (L' := [(2, 192), (0, (i : Int)), (0, (k : Int))]) (S' := [(0, (k : Int)), (0, 60 * (i : Int)), (2, 211)]) r_194_8 rfl rfl rfl ?_
  refine gx_ar (L' := [(2, 192), (0, (i : Int)), (0, (k : Int))]) (S' := [(2, 211)]) (t := 0) (e := w32 ((60 * (i : Int)) + (k : Int))) (z := 60 * (i : Int) + (k : Int)) r_194_9 rfl rfl rfl (w32_eq (by omega) (by omega) (by omega)) ?_
  refine gx_la (n := 60 * i + k) (x := (m 211 (60 * i + k))) r_194_10 (rfl) (by omega) (ty_211 hT) (by omega) ⟨rfl, by omega⟩ (rfl) ?_
  exact gx_rt r_194_11 rfl rfl ⟨_, rfl, rfl, rfl⟩
theorem ck_l (hT : TT T) (hm : Gam m) (hp : PinR m) {ii : Nat} (hi : ii < 4) {q tr : Nat} (hc : m 209 ii = 2 * (q : Int)) (hc60 : 2 * q ≤ 60) (h5 : m 193 5 = (tr : Int)) {Q : AV → Mm → Prop} (hQ : sndB (fun k => m 211 (60 * ii + k)) (tr : Int) (2 * q) = true → GX T 7 195 96 [(2, 192), (0, (ii : Int)), (0, 2 * (q : Int)), (9, 0), (9, 0), (9, 0)] [] m Q) (hno : ¬ sndB (fun k => m 211 (60 * ii + k)) (tr : Int) (2 * q) = true → Q (0, -2) m) : ∀ (N j : Nat), q - j < N → j ≤ q → sndB (fun k => m 211 (60 * ii + k)) (tr : Int) (2 * j) = true → GX T 7 195 46 [(2, 192), (0, (ii : Int)), (0, 2 * (j : Int)), (9, 0), (9, 0), (9, 0)] [] m Q := by
  intro N
  induction N with
  | zero => intro j hN; exact absurd hN (Nat.not_lt_zero _)
  | succ N ih =>
    intro j hN hj hs
    refine gx_st (L' := [(2, 192), (0, (ii : Int)), (0, 2 * (j : Int)), (9, 0), (9, 0), (9, 0)]) (S' := [(0, 2 * (j : Int))]) r_195_46 rfl rfl rfl ?_
    refine gx_st (L' := [(2, 192), (0, (ii : Int)), (0, 2 * (j : Int)), (9, 0), (9, 0), (9, 0)]) (S' := [(2, 192), (0, 2 * (j : Int))]) r_195_47 rfl rfl rfl ?_
    refine gx_gf (x := 209) 2 r_195_48 (rfl) (ty_192 hT) ⟨by decide, rfl, by decide, by decide⟩ rfl (fun _ => by omega) (pin_at hp (t := 209) rfl (by decide)) ?_
    refine gx_st (L' := [(2, 192), (0, (ii : Int)), (0, 2 * (j : Int)), (9, 0), (9, 0), (9, 0)]) (S' := [(0, (ii : Int)), (2, 209), (0, 2 * (j : Int))]) r_195_51 rfl rfl rfl ?_
    refine gx_ia (n := ii) (x := 2 * (q : Int)) r_195_52 (rfl) (ty_209 hT) (by omega) ⟨rfl, by omega⟩ (hc) ?_
    refine gx_ic (P := 2 * (q : Int) ≤ 2 * (j : Int)) r_195_53 (rfl) (fun h53 => ?_) (fun h53 => ?_)
    · have hjq : j = q := by omega
      subst hjq
      exact hQ hs
    · refine gx_st (L' := [(2, 192), (0, (ii : Int)), (0, 2 * (j : Int)), (9, 0), (9, 0), (9, 0)]) (S' := [(2, 192)]) r_195_56 rfl rfl rfl ?_
      refine gx_st (L' := [(2, 192), (0, (ii : Int)), (0, 2 * (j : Int)), (9, 0), (9, 0), (9, 0)]) (S' := [(2, 192), (2, 192)]) r_195_57 rfl rfl rfl ?_
      refine gx_st (L' := [(2, 192), (0, (ii : Int)), (0, 2 * (j : Int)), (9, 0), (9, 0), (9, 0)]) (S' := [(0, (ii : Int)), (2, 192), (2, 192)]) r_195_58 rfl rfl rfl ?_
      refine gx_st (L' := [(2, 192), (0, (ii : Int)), (0, 2 * (j : Int)), (9, 0), (9, 0), (9, 0)]) (S' := [(0, 2 * (j : Int)), (0, (ii : Int)), (2, 192), (2, 192)]) r_195_59 rfl rfl rfl ?_
      refine gx_cl (nx := 63) (S2 := [(2, 192)]) (l_194 hT hp (i := ii) (k := 2 * j) hi (by omega)) r_195_60 rfl rfl rfl rfl rfl (rcv_v rfl (ty_192 hT) (by decide) rfl (by decide)) rfl (by decide) rfl (fun x60 n60 q60 => ?_)
      obtain ⟨e_x60, z_x60⟩ := q60
      obtain rfl := z_x60.symm
      rw [e_x60]
      show GX T 7 195 63 [(2, 192), (0, (ii : Int)), (0, 2 * (j : Int)), (9, 0), (9, 0), (9, 0)] [(1, (m 211 (60 * ii + (2 * j)))), (2, 192)] m Q
      refine gx_ci (nx := 66) (S2 := []) (x_94 hT hm ((m 211 (60 * ii + (2 * j))))) r_195_63 rfl rfl rfl rfl rfl (rcv_v rfl (ty_192 hT) (by decide) rfl (by decide)) rfl (by decide) rfl (fun x63 n63 q63 => ?_)
      obtain rfl := q63.1.symm
      obtain rfl := q63.2.symm
      show GX T 7 195 66 [(2, 192), (0, (ii : Int)), (0, 2 * (j : Int)), (9, 0), (9, 0), (9, 0)] [(0, (if 0 ≤ (m 211 (60 * ii + (2 * j))) ∧ (m 211 (60 * ii + (2 * j))) ≤ m 193 5 - 1 then 1 else 0))] m Q
      refine gx_i0 (P := ¬ (0 ≤ (m 211 (60 * ii + (2 * j))) ∧ (m 211 (60 * ii + (2 * j))) ≤ m 193 5 - 1)) r_195_66 (b01_eq) (fun h66 => ?_) (fun h66 => ?_)
      · refine gx_st (L' := [(2, 192), (0, (ii : Int)), (0, 2 * (j : Int)), (9, 0), (9, 0), (9, 0)]) (S' := [(0, (-2))]) r_195_87 rfl rfl rfl ?_
        refine gx_rt r_195_89 rfl rfl (hno (fun z => ?_))
        have y := sndB_k z (i := 2 * j) (by omega)
        rw [if_pos (by omega)] at y
        exact h66 ⟨y.1, by have := y.2; omega⟩
      · have h66 := Decidable.not_not.mp h66
        refine gx_st (L' := [(2, 192), (0, (ii : Int)), (0, 2 * (j : Int)), (9, 0), (9, 0), (9, 0)]) (S' := [(2, 192)]) r_195_69 rfl rfl rfl ?_
        refine gx_st (L' := [(2, 192), (0, (ii : Int)), (0, 2 * (j : Int)), (9, 0), (9, 0), (9, 0)]) (S' := [(0, (ii : Int)), (2, 192)]) r_195_70 rfl rfl rfl ?_
        refine gx_st (L' := [(2, 192), (0, (ii : Int)), (0, 2 * (j : Int)), (9, 0), (9, 0), (9, 0)]) (S' := [(0, 2 * (j : Int)), (0, (ii : Int)), (2, 192)]) r_195_71 rfl rfl rfl ?_
        refine gx_st (L' := [(2, 192), (0, (ii : Int)), (0, 2 * (j : Int)), (9, 0), (9, 0), (9, 0)]) (S' := [(0, 1), (0, 2 * (j : Int)), (0, (ii : Int)), (2, 192)]) r_195_72 rfl rfl rfl ?_
        refine gx_ar (L' := [(2, 192), (0, (ii : Int)), (0, 2 * (j : Int)), (9, 0), (9, 0), (9, 0)]) (S' := [(0, (ii : Int)), (2, 192)]) (t := 0) (e := w32 ((2 * (j : Int)) + 1)) (z := 2 * (j : Int) + 1) r_195_73 rfl rfl rfl (w32_eq (by omega) (by omega) (by omega)) ?_
        refine gx_cl (nx := 77) (S2 := []) (l_194 hT hp (i := ii) (k := 2 * j + 1) hi (by omega)) r_195_74 rfl rfl rfl rfl rfl (rcv_v rfl (ty_192 hT) (by decide) rfl (by decide)) rfl (by decide) rfl (fun x74 n74 q74 => ?_)
        obtain ⟨e_x74, z_x74⟩ := q74
        obtain rfl := z_x74.symm
        rw [e_x74]
        show GX T 7 195 77 [(2, 192), (0, (ii : Int)), (0, 2 * (j : Int)), (9, 0), (9, 0), (9, 0)] [(1, (m 211 (60 * ii + (2 * j + 1))))] m Q
        refine gx_st (L' := [(2, 192), (0, (ii : Int)), (0, 2 * (j : Int)), (9, 0), (9, 0), (9, 0)]) (S' := [(1, 0), (1, (m 211 (60 * ii + (2 * j + 1))))]) r_195_77 rfl rfl rfl ?_
        refine gx_st (L' := [(2, 192), (0, (ii : Int)), (0, 2 * (j : Int)), (9, 0), (9, 0), (9, 0)]) (S' := [(1, 9), (1, 0), (1, (m 211 (60 * ii + (2 * j + 1))))]) r_195_78 rfl rfl rfl ?_
        refine gx_ci (nx := 84) (S2 := []) (x_86 ((m 211 (60 * ii + (2 * j + 1)))) 0 9) r_195_81 rfl rfl rfl rfl rfl rfl rfl (by decide) rfl (fun x81 n81 q81 => ?_)
        obtain rfl := q81.1.symm
        obtain rfl := q81.2.symm
        show GX T 7 195 84 [(2, 192), (0, (ii : Int)), (0, 2 * (j : Int)), (9, 0), (9, 0), (9, 0)] [(0, (if 0 ≤ (m 211 (60 * ii + (2 * j + 1))) ∧ (m 211 (60 * ii + (2 * j + 1))) ≤ 9 then 1 else 0))] m Q
        refine gx_i0 (P := 0 ≤ (m 211 (60 * ii + (2 * j + 1))) ∧ (m 211 (60 * ii + (2 * j + 1))) ≤ 9) r_195_84 (b01_ne) (fun h84 => ?_) (fun h84 => ?_)
        · refine gx_li (z := 2 * (j : Int) + 2) (L' := [(2, 192), (0, (ii : Int)), (0, 2 * (j : Int) + 2), (9, 0), (9, 0), (9, 0)]) r_195_90 rfl (w32_eq (by omega) (by omega) (by omega)) rfl ?_
          refine gx_st (L' := [(2, 192), (0, (ii : Int)), (0, 2 * (j : Int) + 2), (9, 0), (9, 0), (9, 0)]) (S' := []) r_195_93 rfl rfl rfl ?_
          rw [show 2 * (j : Int) + 2 = 2 * ((j + 1 : Nat) : Int) by omega]
          have s1 : sndB (fun k => m 211 (60 * ii + k)) (tr : Int) (2 * j + 1) = true := alB_s hs (decide_eq_true (show 0 ≤ m 211 (60 * ii + 2 * j) ∧ m 211 (60 * ii + 2 * j) < (if (2 * j) % 2 = 0 then (tr : Int) else 10) from ⟨by omega, by rw [if_pos (by omega)]; omega⟩))
          have s2 : sndB (fun k => m 211 (60 * ii + k)) (tr : Int) (2 * j + 2) = true := alB_s s1 (decide_eq_true (show 0 ≤ m 211 (60 * ii + (2 * j + 1)) ∧ m 211 (60 * ii + (2 * j + 1)) < (if (2 * j + 1) % 2 = 0 then (tr : Int) else 10) from ⟨by omega, by rw [if_neg (by omega)]; omega⟩))
          exact ih (j + 1) (by omega) (by omega) (by rw [show 2 * (j + 1) = 2 * j + 2 by omega]; exact s2)
        · refine gx_st (L' := [(2, 192), (0, (ii : Int)), (0, 2 * (j : Int)), (9, 0), (9, 0), (9, 0)]) (S' := [(0, (-2))]) r_195_87 rfl rfl rfl ?_
          refine gx_rt r_195_89 rfl rfl (hno (fun z => ?_))
          have y := sndB_k z (i := 2 * j + 1) (by omega)
          rw [if_neg (by omega)] at y
          exact h84 ⟨y.1, by have := y.2; omega⟩
theorem ftr_l (hT : TT T) (hp : PinR m) {ii : Nat} (hi : ii < 4) {N : Nat → Int} (eN : ∀ i : Nat, i < 60 → m 211 (60 * ii + i) = N i) {w : Wd} {D : Nat → Nat → Int} {k h n q tr : Nat} (hh : h ≤ n) (n12 : n ≤ 12) (hc : m 209 ii = 2 * (q : Int)) (hc60 : 2 * q ≤ 60) (hs : sndB N (tr : Int) (2 * q) = true) (tr5 : tr ≤ 5) (eF : ∀ h t : Nat, h ≤ n → t < 5 → m 200 (16 * h + (11 + t)) = frF w D k h t) {Q : AV → Mm → Prop} (hQ : GX T 7 195 228 [(2, 192), (0, (ii : Int)), (0, (k : Int)), (0, (h : Int)), (0, (if fitB N (fun t => frF w D k h t) q = true then 1 else 0)), (0, 2 * (q : Int))] [] m Q) : ∀ (N' j : Nat), q - j < N' → j ≤ q → GX T 7 195 169 [(2, 192), (0, (ii : Int)), (0, (k : Int)), (0, (h : Int)), (0, (if fitB N (fun t => frF w D k h t) j = true then 1 else 0)), (0, 2 * (j : Int))] [] m Q := by
  intro N'
  induction N' with
  | zero => intro j hN; exact absurd hN (Nat.not_lt_zero _)
  | succ N' ih =>
    intro j hN hj
    refine gx_st (L' := [(2, 192), (0, (ii : Int)), (0, (k : Int)), (0, (h : Int)), (0, (if fitB N (fun t => frF w D k h t) j = true then 1 else 0)), (0, 2 * (j : Int))]) (S' := [(0, 2 * (j : Int))]) r_195_169 rfl rfl rfl ?_
    refine gx_st (L' := [(2, 192), (0, (ii : Int)), (0, (k : Int)), (0, (h : Int)), (0, (if fitB N (fun t => frF w D k h t) j = true then 1 else 0)), (0, 2 * (j : Int))]) (S' := [(2, 192), (0, 2 * (j : Int))]) r_195_171 rfl rfl rfl ?_
    refine gx_gf (x := 209) 2 r_195_172 (rfl) (ty_192 hT) ⟨by decide, rfl, by decide, by decide⟩ rfl (fun _ => by omega) (pin_at hp (t := 209) rfl (by decide)) ?_
    refine gx_st (L' := [(2, 192), (0, (ii : Int)), (0, (k : Int)), (0, (h : Int)), (0, (if fitB N (fun t => frF w D k h t) j = true then 1 else 0)), (0, 2 * (j : Int))]) (S' := [(0, (ii : Int)), (2, 209), (0, 2 * (j : Int))]) r_195_175 rfl rfl rfl ?_
    refine gx_ia (n := ii) (x := 2 * (q : Int)) r_195_176 (rfl) (ty_209 hT) (by omega) ⟨rfl, by omega⟩ (hc) ?_
    refine gx_ic (P := 2 * (q : Int) ≤ 2 * (j : Int)) r_195_177 (rfl) (fun h177 => ?_) (fun h177 => ?_)
    · have hjq : j = q := by omega
      subst hjq
      exact hQ
    · refine gx_st (L' := [(2, 192), (0, (ii : Int)), (0, (k : Int)), (0, (h : Int)), (0, (if fitB N (fun t => frF w D k h t) j = true then 1 else 0)), (0, 2 * (j : Int))]) (S' := [(0, (if fitB N (fun t => frF w D k h t) j = true then 1 else 0))]) r_195_180 rfl rfl rfl ?_
      refine gx_i0 (P := ¬ (fitB N (fun t => frF w D k h t) j = true)) r_195_182 (b01_eq) (fun h182 => ?_) (fun h182 => ?_)
      · refine gx_st (L' := [(2, 192), (0, (ii : Int)), (0, (k : Int)), (0, (h : Int)), (0, (if fitB N (fun t => frF w D k h t) j = true then 1 else 0)), (0, 2 * (j : Int))]) (S' := [(0, 0)]) r_195_219 rfl rfl rfl ?_
        refine gx_st (L' := [(2, 192), (0, (ii : Int)), (0, (k : Int)), (0, (h : Int)), (0, 0), (0, 2 * (j : Int))]) (S' := []) r_195_220 rfl rfl rfl ?_
        refine gx_li (z := 2 * (j : Int) + 2) (L' := [(2, 192), (0, (ii : Int)), (0, (k : Int)), (0, (h : Int)), (0, 0), (0, 2 * (j : Int) + 2)]) r_195_222 rfl (w32_eq (by omega) (by omega) (by omega)) rfl ?_
        refine gx_st (L' := [(2, 192), (0, (ii : Int)), (0, (k : Int)), (0, (h : Int)), (0, 0), (0, 2 * (j : Int) + 2)]) (S' := []) r_195_225 rfl rfl rfl ?_
        rw [show 2 * (j : Int) + 2 = 2 * ((j + 1 : Nat) : Int) by omega]
        have z := ih (j + 1) (by omega) (by omega)
        rw [if_neg (show ¬ fitB N (fun t => frF w D k h t) (j + 1) = true from fun y => h182 ((alB_i j).mpr (fun i hi => (alB_i (j + 1)).mp y i (by omega))))] at z
        exact z
      · have h182 := Decidable.not_not.mp h182
        refine gx_st (L' := [(2, 192), (0, (ii : Int)), (0, (k : Int)), (0, (h : Int)), (0, (if fitB N (fun t => frF w D k h t) j = true then 1 else 0)), (0, 2 * (j : Int))]) (S' := [(2, 192)]) r_195_185 rfl rfl rfl ?_
        refine gx_st (L' := [(2, 192), (0, (ii : Int)), (0, (k : Int)), (0, (h : Int)), (0, (if fitB N (fun t => frF w D k h t) j = true then 1 else 0)), (0, 2 * (j : Int))]) (S' := [(0, (h : Int)), (2, 192)]) r_195_186 rfl rfl rfl ?_
        refine gx_st (L' := [(2, 192), (0, (ii : Int)), (0, (k : Int)), (0, (h : Int)), (0, (if fitB N (fun t => frF w D k h t) j = true then 1 else 0)), (0, 2 * (j : Int))]) (S' := [(0, 11), (0, (h : Int)), (2, 192)]) r_195_187 rfl rfl rfl ?_
        refine gx_st (L' := [(2, 192), (0, (ii : Int)), (0, (k : Int)), (0, (h : Int)), (0, (if fitB N (fun t => frF w D k h t) j = true then 1 else 0)), (0, 2 * (j : Int))]) (S' := [(2, 192), (0, 11), (0, (h : Int)), (2, 192)]) r_195_189 rfl rfl rfl ?_
        refine gx_st (L' := [(2, 192), (0, (ii : Int)), (0, (k : Int)), (0, (h : Int)), (0, (if fitB N (fun t => frF w D k h t) j = true then 1 else 0)), (0, 2 * (j : Int))]) (S' := [(0, (ii : Int)), (2, 192), (0, 11), (0, (h : Int)), (2, 192)]) r_195_190 rfl rfl rfl ?_
        refine gx_st (L' := [(2, 192), (0, (ii : Int)), (0, (k : Int)), (0, (h : Int)), (0, (if fitB N (fun t => frF w D k h t) j = true then 1 else 0)), (0, 2 * (j : Int))]) (S' := [(0, 2 * (j : Int)), (0, (ii : Int)), (2, 192), (0, 11), (0, (h : Int)), (2, 192)]) r_195_191 rfl rfl rfl ?_
        refine gx_cl (nx := 196) (S2 := [(0, 11), (0, (h : Int)), (2, 192)]) (l_194 hT hp (i := ii) (k := 2 * j) hi (by omega)) r_195_193 rfl rfl rfl rfl rfl (rcv_v rfl (ty_192 hT) (by decide) rfl (by decide)) rfl (by decide) rfl (fun x193 n193 q193 => ?_)
        obtain ⟨e_x193, z_x193⟩ := q193
        obtain rfl := z_x193.symm
        have y0 := sndB_k hs (i := 2 * j) (by omega)
        rw [if_pos (by omega)] at y0
        obtain ⟨t, ht⟩ : ∃ t : Nat, N (2 * j) = (t : Int) := ⟨(N (2 * j)).toNat, by omega⟩
        have tn : (N (2 * j)).toNat = t := by omega
        rw [eN (2 * j) (by omega), ht] at e_x193
        rw [e_x193]
        show GX T 7 195 196 [(2, 192), (0, (ii : Int)), (0, (k : Int)), (0, (h : Int)), (0, (if fitB N (fun t => frF w D k h t) j = true then 1 else 0)), (0, 2 * (j : Int))] [(1, (t : Int)), (0, 11), (0, (h : Int)), (2, 192)] m Q
        refine gx_ar (L' := [(2, 192), (0, (ii : Int)), (0, (k : Int)), (0, (h : Int)), (0, (if fitB N (fun t => frF w D k h t) j = true then 1 else 0)), (0, 2 * (j : Int))]) (S' := [(0, 11), (0, (h : Int)), (2, 192)]) (t := 0) (e := w32 ((t : Int))) (z := (t : Int)) r_195_196 rfl rfl rfl (w32_eq (by omega) (by omega) (by omega)) ?_
        refine gx_ar (L' := [(2, 192), (0, (ii : Int)), (0, (k : Int)), (0, (h : Int)), (0, (if fitB N (fun t => frF w D k h t) j = true then 1 else 0)), (0, 2 * (j : Int))]) (S' := [(0, (h : Int)), (2, 192)]) (t := 0) (e := w32 (11 + (t : Int))) (z := (t : Int) + 11) r_195_197 rfl rfl rfl (w32_eq (by omega) (by omega) (by omega)) ?_
        refine gx_ci (nx := 201) (S2 := []) (l_131 hT hp (h := h) (k := t + 11) (i := 16 * h + (11 + t)) (by omega) (by omega)) r_195_198 rfl rfl rfl rfl rfl (rcv_v rfl (ty_192 hT) (by decide) rfl (by decide)) rfl (by decide) rfl (fun x198 n198 q198 => ?_)
        obtain ⟨e_x198, z_x198⟩ := q198
        obtain rfl := z_x198.symm
        rw [eF h t hh (by omega)] at e_x198
        rw [e_x198]
        show GX T 7 195 201 [(2, 192), (0, (ii : Int)), (0, (k : Int)), (0, (h : Int)), (0, (if fitB N (fun t => frF w D k h t) j = true then 1 else 0)), (0, 2 * (j : Int))] [(0, (frF w D k h t))] m Q
        refine gx_st (L' := [(2, 192), (0, (ii : Int)), (0, (k : Int)), (0, (h : Int)), (0, (if fitB N (fun t => frF w D k h t) j = true then 1 else 0)), (0, 2 * (j : Int))]) (S' := [(1, (frF w D k h t))]) r_195_201 rfl rfl rfl ?_
        refine gx_st (L' := [(2, 192), (0, (ii : Int)), (0, (k : Int)), (0, (h : Int)), (0, (if fitB N (fun t => frF w D k h t) j = true then 1 else 0)), (0, 2 * (j : Int))]) (S' := [(2, 192), (1, (frF w D k h t))]) r_195_202 rfl rfl rfl ?_
        refine gx_st (L' := [(2, 192), (0, (ii : Int)), (0, (k : Int)), (0, (h : Int)), (0, (if fitB N (fun t => frF w D k h t) j = true then 1 else 0)), (0, 2 * (j : Int))]) (S' := [(0, (ii : Int)), (2, 192), (1, (frF w D k h t))]) r_195_203 rfl rfl rfl ?_
        refine gx_st (L' := [(2, 192), (0, (ii : Int)), (0, (k : Int)), (0, (h : Int)), (0, (if fitB N (fun t => frF w D k h t) j = true then 1 else 0)), (0, 2 * (j : Int))]) (S' := [(0, 2 * (j : Int)), (0, (ii : Int)), (2, 192), (1, (frF w D k h t))]) r_195_204 rfl rfl rfl ?_
        refine gx_st (L' := [(2, 192), (0, (ii : Int)), (0, (k : Int)), (0, (h : Int)), (0, (if fitB N (fun t => frF w D k h t) j = true then 1 else 0)), (0, 2 * (j : Int))]) (S' := [(0, 1), (0, 2 * (j : Int)), (0, (ii : Int)), (2, 192), (1, (frF w D k h t))]) r_195_206 rfl rfl rfl ?_
        refine gx_ar (L' := [(2, 192), (0, (ii : Int)), (0, (k : Int)), (0, (h : Int)), (0, (if fitB N (fun t => frF w D k h t) j = true then 1 else 0)), (0, 2 * (j : Int))]) (S' := [(0, (ii : Int)), (2, 192), (1, (frF w D k h t))]) (t := 0) (e := w32 ((2 * (j : Int)) + 1)) (z := 2 * (j : Int) + 1) r_195_207 rfl rfl rfl (w32_eq (by omega) (by omega) (by omega)) ?_
        refine gx_cl (nx := 211) (S2 := [(1, (frF w D k h t))]) (l_194 hT hp (i := ii) (k := 2 * j + 1) hi (by omega)) r_195_208 rfl rfl rfl rfl rfl (rcv_v rfl (ty_192 hT) (by decide) rfl (by decide)) rfl (by decide) rfl (fun x208 n208 q208 => ?_)
        obtain ⟨e_x208, z_x208⟩ := q208
        obtain rfl := z_x208.symm
        rw [eN (2 * j + 1) (by omega)] at e_x208
        rw [e_x208]
        show GX T 7 195 211 [(2, 192), (0, (ii : Int)), (0, (k : Int)), (0, (h : Int)), (0, (if fitB N (fun t => frF w D k h t) j = true then 1 else 0)), (0, 2 * (j : Int))] [(1, (N (2 * j + 1))), (1, (frF w D k h t))] m Q
        refine gx_st (L' := [(2, 192), (0, (ii : Int)), (0, (k : Int)), (0, (h : Int)), (0, (if fitB N (fun t => frF w D k h t) j = true then 1 else 0)), (0, 2 * (j : Int))]) (S' := [(0, (if (frF w D k h t) < ((N (2 * j + 1))) then -1 else if (frF w D k h t) = ((N (2 * j + 1))) then 0 else 1))]) r_195_211 rfl rfl rfl ?_
        refine gx_i0 (P := ¬ (frF w D k h t) = ((N (2 * j + 1)))) r_195_212 (lc_ne) (fun h212 => ?_) (fun h212 => ?_)
        · refine gx_st (L' := [(2, 192), (0, (ii : Int)), (0, (k : Int)), (0, (h : Int)), (0, (if fitB N (fun t => frF w D k h t) j = true then 1 else 0)), (0, 2 * (j : Int))]) (S' := [(0, 0)]) r_195_219 rfl rfl rfl ?_
          refine gx_st (L' := [(2, 192), (0, (ii : Int)), (0, (k : Int)), (0, (h : Int)), (0, 0), (0, 2 * (j : Int))]) (S' := []) r_195_220 rfl rfl rfl ?_
          refine gx_li (z := 2 * (j : Int) + 2) (L' := [(2, 192), (0, (ii : Int)), (0, (k : Int)), (0, (h : Int)), (0, 0), (0, 2 * (j : Int) + 2)]) r_195_222 rfl (w32_eq (by omega) (by omega) (by omega)) rfl ?_
          refine gx_st (L' := [(2, 192), (0, (ii : Int)), (0, (k : Int)), (0, (h : Int)), (0, 0), (0, 2 * (j : Int) + 2)]) (S' := []) r_195_225 rfl rfl rfl ?_
          rw [show 2 * (j : Int) + 2 = 2 * ((j + 1 : Nat) : Int) by omega]
          have z := ih (j + 1) (by omega) (by omega)
          rw [if_neg (show ¬ fitB N (fun t => frF w D k h t) (j + 1) = true from alB_no (k := j) (by omega) (fun y => by
            have y2 := of_decide_eq_true y
            rw [tn] at y2
            exact h212 y2))] at z
          exact z
        · have h212 := Decidable.not_not.mp h212
          refine gx_st (L' := [(2, 192), (0, (ii : Int)), (0, (k : Int)), (0, (h : Int)), (0, (if fitB N (fun t => frF w D k h t) j = true then 1 else 0)), (0, 2 * (j : Int))]) (S' := [(0, 1)]) r_195_215 rfl rfl rfl ?_
          refine gx_st (L' := [(2, 192), (0, (ii : Int)), (0, (k : Int)), (0, (h : Int)), (0, (if fitB N (fun t => frF w D k h t) j = true then 1 else 0)), (0, 2 * (j : Int))]) (S' := [(0, 1)]) r_195_216 rfl rfl rfl ?_
          refine gx_st (L' := [(2, 192), (0, (ii : Int)), (0, (k : Int)), (0, (h : Int)), (0, 1), (0, 2 * (j : Int))]) (S' := []) r_195_220 rfl rfl rfl ?_
          refine gx_li (z := 2 * (j : Int) + 2) (L' := [(2, 192), (0, (ii : Int)), (0, (k : Int)), (0, (h : Int)), (0, 1), (0, 2 * (j : Int) + 2)]) r_195_222 rfl (w32_eq (by omega) (by omega) (by omega)) rfl ?_
          refine gx_st (L' := [(2, 192), (0, (ii : Int)), (0, (k : Int)), (0, (h : Int)), (0, 1), (0, 2 * (j : Int) + 2)]) (S' := []) r_195_225 rfl rfl rfl ?_
          rw [show 2 * (j : Int) + 2 = 2 * ((j + 1 : Nat) : Int) by omega]
          have z := ih (j + 1) (by omega) (by omega)
          rw [if_pos (show fitB N (fun t => frF w D k h t) (j + 1) = true from alB_s h182 (decide_eq_true (by rw [tn]; exact h212)))] at z
          exact z
theorem nte_l (hT : TT T) {ii k h M : Nat} {y4 : Int} (hh : h ≤ 12) (hM : M < 91) {m0 : Mm} (hp0 : PinR m0) (h34 : m0 192 34 = (M : Int)) {Q : AV → Mm → Prop} (hQ : ∀ m : Mm, (∀ x i : Nat, ¬ (x = 208 ∧ 5 * M ≤ i ∧ i < 5 * M + 5) → m x i = m0 x i) → (∀ t : Nat, t < 5 → m 208 (5 * M + t) = m0 200 (16 * h + (11 + t))) → GX T 7 195 290 [(2, 192), (0, (ii : Int)), (0, (k : Int)), (0, (h : Int)), (0, y4), (0, 5)] [] m Q) : ∀ (N t : Nat) (m : Mm), 5 - t < N → t ≤ 5 → (∀ x i : Nat, ¬ (x = 208 ∧ 5 * M ≤ i ∧ i < 5 * M + 5) → m x i = m0 x i) → (∀ s : Nat, s < t → m 208 (5 * M + s) = m0 200 (16 * h + (11 + s))) → GX T 7 195 254 [(2, 192), (0, (ii : Int)), (0, (k : Int)), (0, (h : Int)), (0, y4), (0, (t : Int))] [] m Q := by
  intro N
  induction N with
  | zero => intro t  m hN; exact absurd hN (Nat.not_lt_zero _)
  | succ N ih =>
    intro t  m hN hk i1 i2
    have hp : PinR m := fun o i hq => (i1 o i (fun z => hq (by rw [z.1]; exact pin_no (by decide) i))).trans (hp0 o i hq)
    refine gx_st (L' := [(2, 192), (0, (ii : Int)), (0, (k : Int)), (0, (h : Int)), (0, y4), (0, (t : Int))]) (S' := [(0, (t : Int))]) r_195_254 rfl rfl rfl ?_
    refine gx_st (L' := [(2, 192), (0, (ii : Int)), (0, (k : Int)), (0, (h : Int)), (0, y4), (0, (t : Int))]) (S' := [(0, 5), (0, (t : Int))]) r_195_256 rfl rfl rfl ?_
    refine gx_ic (P := 5 ≤ (t : Int)) r_195_257 (rfl) (fun h257 => ?_) (fun h257 => ?_)
    · have ht5 : t = 5 := by omega
      subst ht5
      exact hQ m i1 i2
    · refine gx_st (L' := [(2, 192), (0, (ii : Int)), (0, (k : Int)), (0, (h : Int)), (0, y4), (0, (t : Int))]) (S' := [(2, 192)]) r_195_260 rfl rfl rfl ?_
      refine gx_gf (x := 208) 2 r_195_261 (rfl) (ty_192 hT) ⟨by decide, rfl, by decide, by decide⟩ rfl (fun _ => by omega) (pin_at hp (t := 208) rfl (by decide)) ?_
      refine gx_st (L' := [(2, 192), (0, (ii : Int)), (0, (k : Int)), (0, (h : Int)), (0, y4), (0, (t : Int))]) (S' := [(0, 5), (2, 208)]) r_195_264 rfl rfl rfl ?_
      refine gx_st (L' := [(2, 192), (0, (ii : Int)), (0, (k : Int)), (0, (h : Int)), (0, y4), (0, (t : Int))]) (S' := [(2, 192), (0, 5), (2, 208)]) r_195_265 rfl rfl rfl ?_
      refine gx_gf (x := (M : Int)) 0 r_195_266 (rfl) (ty_192 hT) ⟨by decide, rfl, by decide, by decide⟩ rfl (fun z => absurd z (by decide)) ((i1 192 34 (by omega)).trans h34) ?_
      refine gx_ar (L' := [(2, 192), (0, (ii : Int)), (0, (k : Int)), (0, (h : Int)), (0, y4), (0, (t : Int))]) (S' := [(2, 208)]) (t := 0) (e := w32 (5 * (M : Int))) (z := 5 * (M : Int)) r_195_269 rfl rfl rfl (w32_eq (by omega) (by omega) (by omega)) ?_
      refine gx_st (L' := [(2, 192), (0, (ii : Int)), (0, (k : Int)), (0, (h : Int)), (0, y4), (0, (t : Int))]) (S' := [(0, (t : Int)), (0, 5 * (M : Int)), (2, 208)]) r_195_270 rfl rfl rfl ?_
      refine gx_ar (L' := [(2, 192), (0, (ii : Int)), (0, (k : Int)), (0, (h : Int)), (0, y4), (0, (t : Int))]) (S' := [(2, 208)]) (t := 0) (e := w32 ((5 * (M : Int)) + (t : Int))) (z := 5 * (M : Int) + (t : Int)) r_195_272 rfl rfl rfl (w32_eq (by omega) (by omega) (by omega)) ?_
      refine gx_st (L' := [(2, 192), (0, (ii : Int)), (0, (k : Int)), (0, (h : Int)), (0, y4), (0, (t : Int))]) (S' := [(2, 192), (0, 5 * (M : Int) + (t : Int)), (2, 208)]) r_195_273 rfl rfl rfl ?_
      refine gx_st (L' := [(2, 192), (0, (ii : Int)), (0, (k : Int)), (0, (h : Int)), (0, y4), (0, (t : Int))]) (S' := [(0, (h : Int)), (2, 192), (0, 5 * (M : Int) + (t : Int)), (2, 208)]) r_195_274 rfl rfl rfl ?_
      refine gx_st (L' := [(2, 192), (0, (ii : Int)), (0, (k : Int)), (0, (h : Int)), (0, y4), (0, (t : Int))]) (S' := [(0, 11), (0, (h : Int)), (2, 192), (0, 5 * (M : Int) + (t : Int)), (2, 208)]) r_195_275 rfl rfl rfl ?_
      refine gx_st (L' := [(2, 192), (0, (ii : Int)), (0, (k : Int)), (0, (h : Int)), (0, y4), (0, (t : Int))]) (S' := [(0, (t : Int)), (0, 11), (0, (h : Int)), (2, 192), (0, 5 * (M : Int) + (t : Int)), (2, 208)]) r_195_277 rfl rfl rfl ?_
      refine gx_ar (L' := [(2, 192), (0, (ii : Int)), (0, (k : Int)), (0, (h : Int)), (0, y4), (0, (t : Int))]) (S' := [(0, (h : Int)), (2, 192), (0, 5 * (M : Int) + (t : Int)), (2, 208)]) (t := 0) (e := w32 (11 + (t : Int))) (z := (t : Int) + 11) r_195_279 rfl rfl rfl (w32_eq (by omega) (by omega) (by omega)) ?_
      refine gx_ci (nx := 283) (S2 := [(0, 5 * (M : Int) + (t : Int)), (2, 208)]) (l_131 hT hp (h := h) (k := t + 11) (i := 16 * h + (11 + t)) (by omega) (by omega)) r_195_280 rfl rfl rfl rfl rfl (rcv_v rfl (ty_192 hT) (by decide) rfl (by decide)) rfl (by decide) rfl (fun x280 n280 q280 => ?_)
      obtain ⟨e_x280, z_x280⟩ := q280
      obtain rfl := z_x280.symm
      rw [i1 200 _ (by omega)] at e_x280
      rw [e_x280]
      show GX T 7 195 283 [(2, 192), (0, (ii : Int)), (0, (k : Int)), (0, (h : Int)), (0, y4), (0, (t : Int))] [(0, (m0 200 (16 * h + (11 + t)))), (0, 5 * (M : Int) + (t : Int)), (2, 208)] m Q
      obtain ⟨m1, e_m1⟩ : ∃ z, z = nu_up m 208 (5 * M + t) ((m0 200 (16 * h + (11 + t)))) := ⟨_, rfl⟩
      refine gx_is (n := 5 * M + t) (x := (m0 200 (16 * h + (11 + t)))) r_195_283 (rfl) (by omega) (ty_208 hT) (by omega) ⟨rfl, by omega⟩ e_m1.symm ?_
      refine gx_li (z := (t : Int) + 1) (L' := [(2, 192), (0, (ii : Int)), (0, (k : Int)), (0, (h : Int)), (0, y4), (0, (t : Int) + 1)]) r_195_284 rfl (w32_eq (by omega) (by omega) (by omega)) rfl ?_
      refine gx_st (L' := [(2, 192), (0, (ii : Int)), (0, (k : Int)), (0, (h : Int)), (0, y4), (0, (t : Int) + 1)]) (S' := []) r_195_287 rfl rfl rfl ?_
      rw [show (t : Int) + 1 = ((t + 1 : Nat) : Int) from rfl]
      refine ih (t + 1)  m1 (by omega) (by omega) ?_ ?_
      · intro x i hx
        rw [e_m1]
        by_cases e : x = 208
        · subst e; rw [nu_ne (by omega)]; exact i1 208 i hx
        · rw [nu_no e]; exact i1 x i hx
      · intro s hs
        rw [e_m1]
        by_cases e : s = t
        · rw [e, nu_at]
        · rw [nu_ne (by omega)]; exact i2 s (by omega)
theorem hor_l (hT : TT T) {m0 : Mm} (hp0 : PinR m0) {ii : Nat} (hi : ii < 4) {N : Nat → Int} (eN : ∀ i : Nat, i < 60 → m0 211 (60 * ii + i) = N i) {w : Wd} {D : Nat → Nat → Int} {k n q tr : Nat} (hk6 : k ≤ 6) (n12 : n ≤ 12) (h1 : m0 193 1 = (n : Int)) (hc : m0 209 ii = 2 * (q : Int)) (hc60 : 2 * q ≤ 60) (hs : sndB N (tr : Int) (2 * q) = true) (tr5 : tr ≤ 5) {Q : AV → Mm → Prop} (hQ : ∀ (p : Mm) (x4 x5 : AV), RkF m0 p → RkI w D N q n p k (n + 1) → GX T 7 195 306 [(2, 192), (0, (ii : Int)), (0, (k : Int)), (0, (n : Int) + 1), x4, x5] [] p Q) : ∀ (N' h : Nat) (m : Mm) (x4 x5 : AV), n + 1 - h < N' → h ≤ n + 1 → RkF m0 m → (∀ h t : Nat, h ≤ n → t < 5 → m 200 (16 * h + (11 + t)) = frF w D k h t) → RkI w D N q n m k h → GX T 7 195 153 [(2, 192), (0, (ii : Int)), (0, (k : Int)), (0, (h : Int)), x4, x5] [] m Q := by
  intro N'
  induction N' with
  | zero => intro h m x4 x5 hN; exact absurd hN (Nat.not_lt_zero _)
  | succ N' ih =>
    intro h m x4 x5 hN hh rf eF ri
    have hp := pin_rk hp0 rf
    refine gx_st (L' := [(2, 192), (0, (ii : Int)), (0, (k : Int)), (0, (h : Int)), x4, x5]) (S' := [(0, (h : Int))]) r_195_153 rfl rfl rfl ?_
    refine gx_st (L' := [(2, 192), (0, (ii : Int)), (0, (k : Int)), (0, (h : Int)), x4, x5]) (S' := [(2, 192), (0, (h : Int))]) r_195_154 rfl rfl rfl ?_
    refine gx_gf (x := 193) 2 r_195_155 (rfl) (ty_192 hT) ⟨by decide, rfl, by decide, by decide⟩ rfl (fun _ => by omega) (pin_at hp (t := 193) rfl (by decide)) ?_
    refine gx_st (L' := [(2, 192), (0, (ii : Int)), (0, (k : Int)), (0, (h : Int)), x4, x5]) (S' := [(0, 1), (2, 193), (0, (h : Int))]) r_195_158 rfl rfl rfl ?_
    refine gx_ia (n := 1) (x := (n : Int)) r_195_159 (rfl) (ty_193 hT) (rfl) ⟨rfl, by decide⟩ (((rf 193 1 (by omega) (by omega) (by omega) (by omega) (by omega)).trans h1)) ?_
    refine gx_ic (P := (n : Int) < (h : Int)) r_195_160 (rfl) (fun h160 => ?_) (fun h160 => ?_)
    · have hhn : h = n + 1 := by omega
      subst hhn
      exact hQ m x4 x5 rf ri
    · refine gx_st (L' := [(2, 192), (0, (ii : Int)), (0, (k : Int)), (0, (h : Int)), x4, x5]) (S' := [(0, 1)]) r_195_163 rfl rfl rfl ?_
      refine gx_st (L' := [(2, 192), (0, (ii : Int)), (0, (k : Int)), (0, (h : Int)), (0, 1), x5]) (S' := []) r_195_164 rfl rfl rfl ?_
      refine gx_st (L' := [(2, 192), (0, (ii : Int)), (0, (k : Int)), (0, (h : Int)), (0, 1), x5]) (S' := [(0, 0)]) r_195_166 rfl rfl rfl ?_
      refine gx_st (L' := [(2, 192), (0, (ii : Int)), (0, (k : Int)), (0, (h : Int)), (0, 1), (0, 0)]) (S' := []) r_195_167 rfl rfl rfl ?_
      refine ftr_l hT hp hi (N := N) (fun i hi2 => (rf 211 _ (by omega) (by omega) (by omega) (by omega) (by omega)).trans (eN i hi2)) (h := h) (by omega) n12 ((rf 209 ii (by omega) (by omega) (by omega) (by omega) (by omega)).trans hc) hc60 hs tr5 eF ?_ (q + 1) 0 (by omega) (by omega)
      refine gx_st (L' := [(2, 192), (0, (ii : Int)), (0, (k : Int)), (0, (h : Int)), (0, (if fitB N (fun t => frF w D k h t) q = true then 1 else 0)), (0, 2 * (q : Int))]) (S' := [(0, (if fitB N (fun t => frF w D k h t) q = true then 1 else 0))]) r_195_228 rfl rfl rfl ?_
      refine gx_i0 (P := fitB N (fun t => frF w D k h t) q = true) r_195_230 (b01_ne) (fun h230 => ?_) (fun h230 => ?_)
      · obtain ⟨M, r1, r2, r3⟩ := ri
        have bM := rki_M n12 r2
        refine gx_st (L' := [(2, 192), (0, (ii : Int)), (0, (k : Int)), (0, (h : Int)), (0, (if fitB N (fun t => frF w D k h t) q = true then 1 else 0)), (0, 2 * (q : Int))]) (S' := [(2, 192)]) r_195_236 rfl rfl rfl ?_
        refine gx_gf (x := 207) 2 r_195_237 (rfl) (ty_192 hT) ⟨by decide, rfl, by decide, by decide⟩ rfl (fun _ => by omega) (pin_at hp (t := 207) rfl (by decide)) ?_
        refine gx_st (L' := [(2, 192), (0, (ii : Int)), (0, (k : Int)), (0, (h : Int)), (0, (if fitB N (fun t => frF w D k h t) q = true then 1 else 0)), (0, 2 * (q : Int))]) (S' := [(2, 192), (2, 207)]) r_195_240 rfl rfl rfl ?_
        refine gx_gf (x := (M : Int)) 0 r_195_241 (rfl) (ty_192 hT) ⟨by decide, rfl, by decide, by decide⟩ rfl (fun z => absurd z (by decide)) (r1) ?_
        refine gx_st (L' := [(2, 192), (0, (ii : Int)), (0, (k : Int)), (0, (h : Int)), (0, (if fitB N (fun t => frF w D k h t) q = true then 1 else 0)), (0, 2 * (q : Int))]) (S' := [(0, 10), (0, (M : Int)), (2, 207)]) r_195_244 rfl rfl rfl ?_
        refine gx_st (L' := [(2, 192), (0, (ii : Int)), (0, (k : Int)), (0, (h : Int)), (0, (if fitB N (fun t => frF w D k h t) q = true then 1 else 0)), (0, 2 * (q : Int))]) (S' := [(0, (h : Int)), (0, 10), (0, (M : Int)), (2, 207)]) r_195_246 rfl rfl rfl ?_
        refine gx_ar (L' := [(2, 192), (0, (ii : Int)), (0, (k : Int)), (0, (h : Int)), (0, (if fitB N (fun t => frF w D k h t) q = true then 1 else 0)), (0, 2 * (q : Int))]) (S' := [(0, (M : Int)), (2, 207)]) (t := 0) (e := w32 (10 * (h : Int))) (z := 10 * (h : Int)) r_195_247 rfl rfl rfl (w32_eq (by omega) (by omega) (by omega)) ?_
        refine gx_st (L' := [(2, 192), (0, (ii : Int)), (0, (k : Int)), (0, (h : Int)), (0, (if fitB N (fun t => frF w D k h t) q = true then 1 else 0)), (0, 2 * (q : Int))]) (S' := [(0, (k : Int)), (0, 10 * (h : Int)), (0, (M : Int)), (2, 207)]) r_195_248 rfl rfl rfl ?_
        refine gx_ar (L' := [(2, 192), (0, (ii : Int)), (0, (k : Int)), (0, (h : Int)), (0, (if fitB N (fun t => frF w D k h t) q = true then 1 else 0)), (0, 2 * (q : Int))]) (S' := [(0, (M : Int)), (2, 207)]) (t := 0) (e := w32 ((10 * (h : Int)) + (k : Int))) (z := 10 * (h : Int) + (k : Int)) r_195_249 rfl rfl rfl (w32_eq (by omega) (by omega) (by omega)) ?_
        obtain ⟨m1, e_m1⟩ : ∃ z, z = nu_up m 207 M (10 * (h : Int) + (k : Int)) := ⟨_, rfl⟩
        refine gx_is (n := M) (x := 10 * (h : Int) + (k : Int)) r_195_250 (rfl) (by omega) (ty_207 hT) (by omega) ⟨rfl, by omega⟩ e_m1.symm ?_
        refine gx_st (L' := [(2, 192), (0, (ii : Int)), (0, (k : Int)), (0, (h : Int)), (0, (if fitB N (fun t => frF w D k h t) q = true then 1 else 0)), (0, 2 * (q : Int))]) (S' := [(0, 0)]) r_195_251 rfl rfl rfl ?_
        refine gx_st (L' := [(2, 192), (0, (ii : Int)), (0, (k : Int)), (0, (h : Int)), (0, (if fitB N (fun t => frF w D k h t) q = true then 1 else 0)), (0, 0)]) (S' := []) r_195_252 rfl rfl rfl ?_
        have hp1 : PinR m1 := by rw [e_m1]; exact PinR_up hp (pin_no (by decide) M)
        refine nte_l hT (h := h) (M := M) (by omega) (by omega) hp1 (by rw [e_m1, nu_no (by decide)]; exact r1) (fun p2 c1 c2 => ?_) 6 0 m1 (by omega) (by omega) (fun _ _ _ => rfl) (fun t ht => absurd ht (Nat.not_lt_zero _))
        have hp2 : PinR p2 := fun o i hq => (c1 o i (fun z => hq (by rw [z.1]; exact pin_no (by decide) i))).trans (hp1 o i hq)
        refine gx_st (L' := [(2, 192), (0, (ii : Int)), (0, (k : Int)), (0, (h : Int)), (0, (if fitB N (fun t => frF w D k h t) q = true then 1 else 0)), (0, 5)]) (S' := [(2, 192)]) r_195_290 rfl rfl rfl ?_
        refine gx_st (L' := [(2, 192), (0, (ii : Int)), (0, (k : Int)), (0, (h : Int)), (0, (if fitB N (fun t => frF w D k h t) q = true then 1 else 0)), (0, 5)]) (S' := [(2, 192), (2, 192)]) r_195_291 rfl rfl rfl ?_
        refine gx_gf (x := (M : Int)) 0 r_195_292 (rfl) (ty_192 hT) ⟨by decide, rfl, by decide, by decide⟩ rfl (fun z => absurd z (by decide)) (((c1 192 34 (by omega)).trans (by rw [e_m1, nu_no (by decide)]; exact r1))) ?_
        refine gx_st (L' := [(2, 192), (0, (ii : Int)), (0, (k : Int)), (0, (h : Int)), (0, (if fitB N (fun t => frF w D k h t) q = true then 1 else 0)), (0, 5)]) (S' := [(0, 1), (0, (M : Int)), (2, 192)]) r_195_295 rfl rfl rfl ?_
        refine gx_ar (L' := [(2, 192), (0, (ii : Int)), (0, (k : Int)), (0, (h : Int)), (0, (if fitB N (fun t => frF w D k h t) q = true then 1 else 0)), (0, 5)]) (S' := [(2, 192)]) (t := 0) (e := w32 ((M : Int) + 1)) (z := (M : Int) + 1) r_195_296 rfl rfl rfl (w32_eq (by omega) (by omega) (by omega)) ?_
        obtain ⟨m2, e_m2⟩ : ∃ z, z = nu_up p2 192 34 ((M : Int) + 1) := ⟨_, rfl⟩
        refine gx_pf (x := (M : Int) + 1) 0 r_195_297 (rfl) (ty_192 hT) ⟨by decide, rfl, by decide, by decide⟩ rfl (fun z => absurd z (by decide)) (fun z => absurd z (by decide)) e_m2.symm ?_
        refine gx_li (z := (h : Int) + 1) (L' := [(2, 192), (0, (ii : Int)), (0, (k : Int)), (0, (h : Int) + 1), (0, (if fitB N (fun t => frF w D k h t) q = true then 1 else 0)), (0, 5)]) r_195_300 rfl (w32_eq (by omega) (by omega) (by omega)) rfl ?_
        refine gx_st (L' := [(2, 192), (0, (ii : Int)), (0, (k : Int)), (0, (h : Int) + 1), (0, (if fitB N (fun t => frF w D k h t) q = true then 1 else 0)), (0, 5)]) (S' := []) r_195_303 rfl rfl rfl ?_
        rw [show (h : Int) + 1 = ((h + 1 : Nat) : Int) from rfl]
        have rf2 : RkF m m2 := fun x i z1 z2 z3 z4 z5 => by rw [e_m2, nu_nf (fun z => z5 ⟨z.1, by omega⟩), c1 x i (fun z => z4 z.1), e_m1, nu_no z3]
        refine ih (h + 1) m2 _ _ (by omega) (by omega) (rkf_tr rf rf2) (fun h2 t hh2 ht => ?_) (rki_y h230 r2 r3 (by rw [e_m2, nu_at]; omega) (fun i hi2 => by rw [e_m2, nu_no (by decide), c1 208 i (by omega), e_m1, nu_no (by decide)]) (fun t ht => by rw [e_m2, nu_no (by decide), c2 t ht, e_m1, nu_no (by decide)]; exact eF h t (by omega) ht))
        rw [e_m2, nu_no (by decide), c1 200 _ (by omega), e_m1, nu_no (by decide)]; exact eF h2 t hh2 ht
      · refine gx_st (L' := [(2, 192), (0, (ii : Int)), (0, (k : Int)), (0, (h : Int)), (0, (if fitB N (fun t => frF w D k h t) q = true then 1 else 0)), (0, 2 * (q : Int))]) (S' := []) r_195_233 rfl rfl rfl ?_
        refine gx_li (z := (h : Int) + 1) (L' := [(2, 192), (0, (ii : Int)), (0, (k : Int)), (0, (h : Int) + 1), (0, (if fitB N (fun t => frF w D k h t) q = true then 1 else 0)), (0, 2 * (q : Int))]) r_195_300 rfl (w32_eq (by omega) (by omega) (by omega)) rfl ?_
        refine gx_st (L' := [(2, 192), (0, (ii : Int)), (0, (k : Int)), (0, (h : Int) + 1), (0, (if fitB N (fun t => frF w D k h t) q = true then 1 else 0)), (0, 2 * (q : Int))]) (S' := []) r_195_303 rfl rfl rfl ?_
        rw [show (h : Int) + 1 = ((h + 1 : Nat) : Int) from rfl]
        exact ih (h + 1) m _ _ (by omega) (by omega) rf eF (rki_n h230 ri)
theorem bg_y (hT : TT T) (hp : PinR m) {w : Wd} (hB : WB w) (ew : EW (-1) m w) (hP : WP w) {D : Nat → Nat → Int} (eD : ∀ a b : Nat, a < 7 → b < 7 → m 199 (7 * a + b) = D a b) (hD : WyD w D) (hF : WBf w) (h203 : ∀ h : Nat, h < 12 → m 203 h = 0) {n : Nat} (hn : w 1 = (n : Int)) (n12 : n ≤ 12) {ii k : Nat} (hk : (k : Int) < w 0) {x3 x4 x5 : AV} {Q : AV → Mm → Prop} (h7w : 0 < w 7) (hQ : ∀ p : Mm, FrG m p → (∀ h t : Nat, h ≤ n → t < 5 → p 200 (16 * h + (11 + t)) = frF w D k h t) → GX T 7 195 151 [(2, 192), (0, (ii : Int)), (0, (k : Int)), x3, x4, x5] [] p Q) : GX T 7 195 117 [(2, 192), (0, (ii : Int)), (0, (k : Int)), x3, x4, x5] [] m Q := by
  refine gx_st (L' := [(2, 192), (0, (ii : Int)), (0, (k : Int)), x3, x4, x5]) (S' := [(2, 192)]) r_195_117 rfl rfl rfl ?_
  refine gx_st (L' := [(2, 192), (0, (ii : Int)), (0, (k : Int)), x3, x4, x5]) (S' := [(2, 192), (2, 192)]) r_195_118 rfl rfl rfl ?_
  refine gx_gf (x := 193) 2 r_195_119 (rfl) (ty_192 hT) ⟨by decide, rfl, by decide, by decide⟩ rfl (fun _ => by omega) (pin_at hp (t := 193) rfl (by decide)) ?_
  refine gx_st (L' := [(2, 192), (0, (ii : Int)), (0, (k : Int)), x3, x4, x5]) (S' := [(0, 7), (2, 193), (2, 192)]) r_195_122 rfl rfl rfl ?_
  refine gx_ia (n := 7) (x := (w 7)) r_195_124 (rfl) (ty_193 hT) (rfl) ⟨rfl, by decide⟩ (ew.1 7 (by decide) (by decide) (by decide)) ?_
  refine gx_i0 (P := (w 7) ≤ 0) r_195_125 (rfl) (fun h125 => ?_) (fun h125 => ?_)
  · exact absurd h125 (by omega)
  · refine gx_st (L' := [(2, 192), (0, (ii : Int)), (0, (k : Int)), x3, x4, x5]) (S' := [(0, (k : Int)), (2, 192)]) r_195_128 rfl rfl rfl ?_
    refine gx_st (L' := [(2, 192), (0, (ii : Int)), (0, (k : Int)), x3, x4, x5]) (S' := [(0, (k : Int)), (2, 192)]) r_195_129 rfl rfl rfl ?_
    refine gx_st (L' := [(2, 192), (0, (ii : Int)), (0, (k : Int)), x3, x4, x5]) (S' := [(2, 192), (0, (k : Int)), (2, 192)]) r_195_133 rfl rfl rfl ?_
    refine gx_gf (x := 193) 2 r_195_134 (rfl) (ty_192 hT) ⟨by decide, rfl, by decide, by decide⟩ rfl (fun _ => by omega) (pin_at hp (t := 193) rfl (by decide)) ?_
    refine gx_st (L' := [(2, 192), (0, (ii : Int)), (0, (k : Int)), x3, x4, x5]) (S' := [(0, 7), (2, 193), (0, (k : Int)), (2, 192)]) r_195_137 rfl rfl rfl ?_
    refine gx_ia (n := 7) (x := (w 7)) r_195_139 (rfl) (ty_193 hT) (rfl) ⟨rfl, by decide⟩ (ew.1 7 (by decide) (by decide) (by decide)) ?_
    refine gx_i0 (P := (w 7) ≤ 0) r_195_140 (rfl) (fun h140 => ?_) (fun h140 => ?_)
    · exact absurd h140 (by omega)
    · refine gx_st (L' := [(2, 192), (0, (ii : Int)), (0, (k : Int)), x3, x4, x5]) (S' := [(0, 0), (0, (k : Int)), (2, 192)]) r_195_143 rfl rfl rfl ?_
      refine gx_st (L' := [(2, 192), (0, (ii : Int)), (0, (k : Int)), x3, x4, x5]) (S' := [(0, 0), (0, (k : Int)), (2, 192)]) r_195_144 rfl rfl rfl ?_
      have hS : SB w (beginF w 0 (k : Int)) 0 := sb_begin hF.1 hF.2 (by decide) (fun _ => ⟨by omega, hk⟩)
      have bg : BegS w (beginF w 0 (k : Int)) (k : Int) 0 := by
        have z := begS_of w 0 (k : Int)
        rw [if_pos h7w, if_pos h7w] at z
        exact z
      refine gx_cv (nx := 151) (S2 := []) (y_144 hT hp hB ew hP eD hD (fun h hh => by rw [h203 h hh]; decide) hn n12 hS (by show (0 : Int) ≤ 20; decide) (fun t ht _ => by omega) bg) r_195_148 rfl rfl rfl rfl rfl (rcv_v rfl (ty_192 hT) (by decide) rfl (by decide)) rfl (by decide) rfl (fun n148 q148 => ?_)
      obtain ⟨rp, fg⟩ := q148
      show GX T 7 195 151 [(2, 192), (0, (ii : Int)), (0, (k : Int)), x3, x4, x5] [] n148 Q
      refine hQ n148 fg (fun h t hh ht => ?_)
      have z := ((rp.1 h hh).1.2.2 t ht (by omega))
      rw [run_cA h (B := fun _ => 0) (fun i hi => h203 i (by omega))] at z
      exact z
theorem bg_n (hT : TT T) (hp : PinR m) {w : Wd} (hB : WB w) (ew : EW (-1) m w) (hP : WP w) {D : Nat → Nat → Int} (eD : ∀ a b : Nat, a < 7 → b < 7 → m 199 (7 * a + b) = D a b) (hD : WyD w D) (hF : WBf w) (h203 : ∀ h : Nat, h < 12 → m 203 h = 0) {n : Nat} (hn : w 1 = (n : Int)) (n12 : n ≤ 12) {ii k : Nat} (hk : (k : Int) < w 0) {x3 x4 x5 : AV} {Q : AV → Mm → Prop} (h7w : ¬ 0 < w 7) (hQ : ∀ p : Mm, FrG m p → (∀ h t : Nat, h ≤ n → t < 5 → p 200 (16 * h + (11 + t)) = frF w D k h t) → GX T 7 195 151 [(2, 192), (0, (ii : Int)), (0, (k : Int)), x3, x4, x5] [] p Q) : GX T 7 195 117 [(2, 192), (0, (ii : Int)), (0, (k : Int)), x3, x4, x5] [] m Q := by
  refine gx_st (L' := [(2, 192), (0, (ii : Int)), (0, (k : Int)), x3, x4, x5]) (S' := [(2, 192)]) r_195_117 rfl rfl rfl ?_
  refine gx_st (L' := [(2, 192), (0, (ii : Int)), (0, (k : Int)), x3, x4, x5]) (S' := [(2, 192), (2, 192)]) r_195_118 rfl rfl rfl ?_
  refine gx_gf (x := 193) 2 r_195_119 (rfl) (ty_192 hT) ⟨by decide, rfl, by decide, by decide⟩ rfl (fun _ => by omega) (pin_at hp (t := 193) rfl (by decide)) ?_
  refine gx_st (L' := [(2, 192), (0, (ii : Int)), (0, (k : Int)), x3, x4, x5]) (S' := [(0, 7), (2, 193), (2, 192)]) r_195_122 rfl rfl rfl ?_
  refine gx_ia (n := 7) (x := (w 7)) r_195_124 (rfl) (ty_193 hT) (rfl) ⟨rfl, by decide⟩ (ew.1 7 (by decide) (by decide) (by decide)) ?_
  refine gx_i0 (P := (w 7) ≤ 0) r_195_125 (rfl) (fun h125 => ?_) (fun h125 => ?_)
  · refine gx_st (L' := [(2, 192), (0, (ii : Int)), (0, (k : Int)), x3, x4, x5]) (S' := [(0, (-1)), (2, 192)]) r_195_132 rfl rfl rfl ?_
    refine gx_st (L' := [(2, 192), (0, (ii : Int)), (0, (k : Int)), x3, x4, x5]) (S' := [(2, 192), (0, (-1)), (2, 192)]) r_195_133 rfl rfl rfl ?_
    refine gx_gf (x := 193) 2 r_195_134 (rfl) (ty_192 hT) ⟨by decide, rfl, by decide, by decide⟩ rfl (fun _ => by omega) (pin_at hp (t := 193) rfl (by decide)) ?_
    refine gx_st (L' := [(2, 192), (0, (ii : Int)), (0, (k : Int)), x3, x4, x5]) (S' := [(0, 7), (2, 193), (0, (-1)), (2, 192)]) r_195_137 rfl rfl rfl ?_
    refine gx_ia (n := 7) (x := (w 7)) r_195_139 (rfl) (ty_193 hT) (rfl) ⟨rfl, by decide⟩ (ew.1 7 (by decide) (by decide) (by decide)) ?_
    refine gx_i0 (P := (w 7) ≤ 0) r_195_140 (rfl) (fun h140 => ?_) (fun h140 => ?_)
    · refine gx_st (L' := [(2, 192), (0, (ii : Int)), (0, (k : Int)), x3, x4, x5]) (S' := [(0, (-1)), (0, (-1)), (2, 192)]) r_195_147 rfl rfl rfl ?_
      have hS : SB w (beginF w 0 (k : Int)) 0 := sb_begin hF.1 hF.2 (by decide) (fun _ => ⟨by omega, hk⟩)
      have bg : BegS w (beginF w 0 (k : Int)) (-1) (-1) := by
        have z := begS_of w 0 (k : Int)
        rw [if_neg h7w, if_neg h7w] at z
        exact z
      refine gx_cv (nx := 151) (S2 := []) (y_144 hT hp hB ew hP eD hD (fun h hh => by rw [h203 h hh]; decide) hn n12 hS (by show (0 : Int) ≤ 20; decide) (fun t ht _ => by omega) bg) r_195_148 rfl rfl rfl rfl rfl (rcv_v rfl (ty_192 hT) (by decide) rfl (by decide)) rfl (by decide) rfl (fun n148 q148 => ?_)
      obtain ⟨rp, fg⟩ := q148
      show GX T 7 195 151 [(2, 192), (0, (ii : Int)), (0, (k : Int)), x3, x4, x5] [] n148 Q
      refine hQ n148 fg (fun h t hh ht => ?_)
      have z := ((rp.1 h hh).1.2.2 t ht (by omega))
      rw [run_cA h (B := fun _ => 0) (fun i hi => h203 i (by omega))] at z
      exact z
    · exact absurd (by omega) h140
  · exact absurd (by omega) h125
theorem bg_l (hT : TT T) (hp : PinR m) {w : Wd} (hB : WB w) (ew : EW (-1) m w) (hP : WP w) {D : Nat → Nat → Int} (eD : ∀ a b : Nat, a < 7 → b < 7 → m 199 (7 * a + b) = D a b) (hD : WyD w D) (hF : WBf w) (h203 : ∀ h : Nat, h < 12 → m 203 h = 0) {n : Nat} (hn : w 1 = (n : Int)) (n12 : n ≤ 12) {ii k : Nat} (hk : (k : Int) < w 0) {x3 x4 x5 : AV} {Q : AV → Mm → Prop} (hQ : ∀ p : Mm, FrG m p → (∀ h t : Nat, h ≤ n → t < 5 → p 200 (16 * h + (11 + t)) = frF w D k h t) → GX T 7 195 151 [(2, 192), (0, (ii : Int)), (0, (k : Int)), x3, x4, x5] [] p Q) : GX T 7 195 117 [(2, 192), (0, (ii : Int)), (0, (k : Int)), x3, x4, x5] [] m Q := by
  by_cases h7w : 0 < w 7
  · exact bg_y hT hp hB ew hP eD hD hF h203 hn n12 hk h7w hQ
  · exact bg_n hT hp hB ew hP eD hD hF h203 hn n12 hk h7w hQ
theorem pl_l (hT : TT T) {m0 : Mm} (hp0 : PinR m0) {ii : Nat} (hi : ii < 4) {N : Nat → Int} (eN : ∀ i : Nat, i < 60 → m0 211 (60 * ii + i) = N i) {w : Wd} {D : Nat → Nat → Int} {n q tr : Nat} (n12 : n ≤ 12) (h1 : m0 193 1 = (n : Int)) (hc : m0 209 ii = 2 * (q : Int)) (hc60 : 2 * q ≤ 60) (hs : sndB N (tr : Int) (2 * q) = true) (tr5 : tr ≤ 5) (hB : WB w) (ew : EW (-1) m0 w) (hP : WP w) (eD : ∀ a b : Nat, a < 7 → b < 7 → m0 199 (7 * a + b) = D a b) (hD : WyD w D) (hF : WBf w) (h203 : ∀ h : Nat, h < 12 → m0 203 h = 0) (hn : w 1 = (n : Int)) {c : Nat} (h0 : w 0 = (c : Int)) : ∀ (N' k : Nat) (m : Mm) (x3 x4 x5 : AV), c - k < N' → k ≤ c → RkF m0 m → RkI w D N q n m k 0 → GX T 7 195 107 [(2, 192), (0, (ii : Int)), (0, (k : Int)), x3, x4, x5] [] m (RI (fun v m1 => v = 0 ∧ RkF m0 m1 ∧ RkI w D N q n m1 c 0)) := by
  have b0 := hB.1
  intro N'
  induction N' with
  | zero => intro k m x3 x4 x5 hN; exact absurd hN (Nat.not_lt_zero _)
  | succ N' ih =>
    intro k m x3 x4 x5 hN hk rf ri
    have hp := pin_rk hp0 rf
    have ew1 : EW (-1) m w := ew_e ew (fun i => rf 193 i (by omega) (by omega) (by omega) (by omega) (by omega)) (fun i i1 i2 => rf 192 i (by omega) (by omega) (by omega) (by omega) (by omega))
    refine gx_st (L' := [(2, 192), (0, (ii : Int)), (0, (k : Int)), x3, x4, x5]) (S' := [(0, (k : Int))]) r_195_107 rfl rfl rfl ?_
    refine gx_st (L' := [(2, 192), (0, (ii : Int)), (0, (k : Int)), x3, x4, x5]) (S' := [(2, 192), (0, (k : Int))]) r_195_108 rfl rfl rfl ?_
    refine gx_gf (x := 193) 2 r_195_109 (rfl) (ty_192 hT) ⟨by decide, rfl, by decide, by decide⟩ rfl (fun _ => by omega) (pin_at hp (t := 193) rfl (by decide)) ?_
    refine gx_st (L' := [(2, 192), (0, (ii : Int)), (0, (k : Int)), x3, x4, x5]) (S' := [(0, 0), (2, 193), (0, (k : Int))]) r_195_112 rfl rfl rfl ?_
    refine gx_ia (n := 0) (x := (c : Int)) r_195_113 (rfl) (ty_193 hT) (rfl) ⟨rfl, by decide⟩ (((ew1.1 0 (by decide) (by decide) (by decide)).trans h0)) ?_
    refine gx_ic (P := (c : Int) ≤ (k : Int)) r_195_114 (rfl) (fun h114 => ?_) (fun h114 => ?_)
    · refine gx_st (L' := [(2, 192), (0, (ii : Int)), (0, (k : Int)), x3, x4, x5]) (S' := [(0, 0)]) r_195_312 rfl rfl rfl ?_
      have hkc : k = c := by omega
      subst hkc
      exact gx_rt r_195_313 rfl rfl ⟨_, rfl, rfl, rf, ri⟩
    · refine bg_l hT hp hB ew1 hP (fun a b ha hb => (rf 199 _ (by omega) (by omega) (by omega) (by omega) (by omega)).trans (eD a b ha hb)) hD hF (fun h hh => (rf 203 h (by omega) (by omega) (by omega) (by omega) (by omega)).trans (h203 h hh)) hn n12 (k := k) (by omega) (fun p fg eF => ?_)
      have rf1 := rkf_tr rf (rkf_g fg)
      have hp1 := pin_rk hp0 rf1
      have ri1 : RkI w D N q n p k 0 := by
        obtain ⟨M, r1, r2, r3⟩ := ri
        exact ⟨M, (fg 192 34 (by omega) (by omega) (by omega)).trans r1, r2, fun t a ht h5 ha => by rw [show p 208 = m 208 from funext fun i => fg 208 i (by omega) (by omega) (by omega)]; exact r3 t a ht h5 ha⟩
      refine gx_st (L' := [(2, 192), (0, (ii : Int)), (0, (k : Int)), x3, x4, x5]) (S' := [(0, 0)]) r_195_151 rfl rfl rfl ?_
      refine gx_st (L' := [(2, 192), (0, (ii : Int)), (0, (k : Int)), (0, 0), x4, x5]) (S' := []) r_195_152 rfl rfl rfl ?_
      refine hor_l hT hp0 hi eN (k := k) (by omega) n12 h1 hc hc60 hs tr5 (fun p2 y4 y5 rf2 ri2 => ?_) (n + 2) 0 p _ _ (by omega) (by omega) rf1 eF ri1
      have hp2 := pin_rk hp0 rf2
      refine gx_li (z := (k : Int) + 1) (L' := [(2, 192), (0, (ii : Int)), (0, (k : Int) + 1), (0, (n : Int) + 1), y4, y5]) r_195_306 rfl (w32_eq (by omega) (by omega) (by omega)) rfl ?_
      refine gx_st (L' := [(2, 192), (0, (ii : Int)), (0, (k : Int) + 1), (0, (n : Int) + 1), y4, y5]) (S' := []) r_195_309 rfl rfl rfl ?_
      rw [show (k : Int) + 1 = ((k + 1 : Nat) : Int) from rfl]
      exact ih (k + 1) p2 _ _ _ (by omega) (by omega) rf2 (rki_s ri2)
end ASKR
