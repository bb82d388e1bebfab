/-! the acts and images of the reference exactly -/
theorem r_215_0 : row 215 0 = some (.aload_n 0, 1, 0, 0, 0, 0) := rfl
theorem r_215_1 : row 215 1 = some (.iload_n 1, 2, 0, 0, 0, 0) := rfl
theorem r_215_2 : row 215 2 = some (.invokevirtual 339, 5, 92, 1, 0, 7182) := rfl
theorem r_215_5 : row 215 5 = some (.ifCond .eq 12, 8, 17, 0, 0, 0) := rfl
theorem r_215_8 : row 215 8 = some (.aload_n 0, 9, 0, 0, 0, 0) := rfl
theorem r_215_9 : row 215 9 = some (.iload_n 1, 10, 0, 0, 0, 0) := rfl
theorem r_215_10 : row 215 10 = some (.iconst 1, 11, 1, 0, 0, 0) := rfl
theorem r_215_11 : row 215 11 = some (.invokevirtual 440, 14, 214, 2, 0, 8187) := rfl
theorem r_215_14 : row 215 14 = some (.goto 5, 17, 19, 0, 0, 0) := rfl
theorem r_215_17 : row 215 17 = some (.bipush (-2), 19, (-2), 0, 0, 0) := rfl
theorem r_215_19 : row 215 19 = some (.ireturn, 20, 0, 0, 0, 0) := rfl
theorem r_216_0 : row 216 0 = some (.aload_n 0, 1, 0, 0, 0, 0) := rfl
theorem r_216_1 : row 216 1 = some (.iload_n 1, 2, 0, 0, 0, 0) := rfl
theorem r_216_2 : row 216 2 = some (.invokevirtual 339, 5, 92, 1, 0, 7182) := rfl
theorem r_216_5 : row 216 5 = some (.ifCond .eq 24, 8, 29, 0, 0, 0) := rfl
theorem r_216_8 : row 216 8 = some (.aload_n 0, 9, 0, 0, 0, 0) := rfl
theorem r_216_9 : row 216 9 = some (.iload_n 2, 10, 0, 0, 0, 0) := rfl
theorem r_216_10 : row 216 10 = some (.i2l, 11, 0, 0, 0, 0) := rfl
theorem r_216_11 : row 216 11 = some (.invokevirtual 234, 14, 91, 1, 0, 7046) := rfl
theorem r_216_14 : row 216 14 = some (.ifCond .eq 15, 17, 29, 0, 0, 0) := rfl
theorem r_216_17 : row 216 17 = some (.aload_n 0, 18, 0, 0, 0, 0) := rfl
theorem r_216_18 : row 216 18 = some (.iload_n 1, 19, 0, 0, 0, 0) := rfl
theorem r_216_19 : row 216 19 = some (.bipush 10, 21, 10, 0, 0, 0) := rfl
theorem r_216_21 : row 216 21 = some (.iload_n 2, 22, 0, 0, 0, 0) := rfl
theorem r_216_22 : row 216 22 = some (.iadd, 23, 0, 0, 0, 0) := rfl
theorem r_216_23 : row 216 23 = some (.invokevirtual 440, 26, 214, 2, 0, 8187) := rfl
theorem r_216_26 : row 216 26 = some (.goto 5, 29, 31, 0, 0, 0) := rfl
theorem r_216_29 : row 216 29 = some (.bipush (-2), 31, (-2), 0, 0, 0) := rfl
theorem r_216_31 : row 216 31 = some (.ireturn, 32, 0, 0, 0, 0) := rfl
theorem r_217_0 : row 217 0 = some (.aload_n 0, 1, 0, 0, 0, 0) := rfl
theorem r_217_1 : row 217 1 = some (.iload_n 1, 2, 0, 0, 0, 0) := rfl
theorem r_217_2 : row 217 2 = some (.invokevirtual 339, 5, 92, 1, 0, 7182) := rfl
theorem r_217_5 : row 217 5 = some (.ifCond .eq 12, 8, 17, 0, 0, 0) := rfl
theorem r_217_8 : row 217 8 = some (.aload_n 0, 9, 0, 0, 0, 0) := rfl
theorem r_217_9 : row 217 9 = some (.iload_n 1, 10, 0, 0, 0, 0) := rfl
theorem r_217_10 : row 217 10 = some (.iconst 2, 11, 2, 0, 0, 0) := rfl
theorem r_217_11 : row 217 11 = some (.invokevirtual 440, 14, 214, 2, 0, 8187) := rfl
theorem r_217_14 : row 217 14 = some (.goto 5, 17, 19, 0, 0, 0) := rfl
theorem r_217_17 : row 217 17 = some (.bipush (-2), 19, (-2), 0, 0, 0) := rfl
theorem r_217_19 : row 217 19 = some (.ireturn, 20, 0, 0, 0, 0) := rfl
set_option maxRecDepth 100000 in
theorem cv_136 : conL[142]? = some (136, [(2, 90, 0), (0, 0, 12), (0, (-2147483648), 2147483647)], (0, (-1), 2), [], 1) := rfl
theorem pv_136 {T : List Kd} (hT : TT T) : ConH T cn_136 := fun args m => ((all_con hT 142).1 (by decide)) _ cv_136 args m
def HasA (w : Nat → Int) (h : Int) : Prop := ∃ i : Nat, i < 12 ∧ (i : Int) < w 8 ∧ w (57 + i) / 100 = h
/-- what keeping an act does to the world -/
def ActR (w w1 : Nat → Int) (h : Nat) (a : Int) : Prop := (HasA w (h : Int) → ∀ i : Nat, w1 i = w i) ∧ (¬ HasA w (h : Int) → ∀ n : Nat, w 8 = (n : Int) → n < 12 ∧ w1 8 = (n : Int) + 1 ∧ w1 (57 + n) = 100 * (h : Int) + a ∧ ∀ i : Nat, ¬ i = 8 → ¬ i = 57 + n → w1 i = w i)
section ACTSR
variable {T : List Kd} {m : Mm}
theorem has_e (hT : TT T) (hm : Gam m) (hp : PinR m) {Q : AV → Mm → Prop} {t : Int} {c : Nat} (hc : m 193 8 = (c : Int)) (hc12 : c ≤ 12) (hy : (∃ i : Nat, i < c ∧ m 193 (57 + i) / 100 = t) → Q (0, 1) m) (hno : (∀ i : Nat, i < c → ¬ m 193 (57 + i) / 100 = t) → Q (0, 0) m) : ∀ (N k : Nat), c - k < N → k ≤ c → (∀ i : Nat, i < k → ¬ m 193 (57 + i) / 100 = t) → GX T 0 213 2 [(2, 192), (0, t), (0, (k : Int))] [] m Q := by
  intro N
  induction N with
  | zero => intro k hN; exact absurd hN (Nat.not_lt_zero _)
  | succ N ih =>
    intro k hN hk hI
    refine gx_st (L' := [(2, 192), (0, t), (0, (k : Int))]) (S' := [(0, (k : Int))]) r_213_2 rfl rfl rfl ?_
    refine gx_st (L' := [(2, 192), (0, t), (0, (k : Int))]) (S' := [(2, 192), (0, (k : Int))]) r_213_3 rfl rfl rfl ?_
    refine gx_gf (x := 193) 2 r_213_4 (rfl) (ty_192 hT) ⟨by decide, rfl, by decide, by decide⟩ rfl (fun _ => by omega) (pin_at hp (t := 193) rfl (by decide)) ?_
    refine gx_st (L' := [(2, 192), (0, t), (0, (k : Int))]) (S' := [(0, 8), (2, 193), (0, (k : Int))]) r_213_7 rfl rfl rfl ?_
    refine gx_ia (n := 8) (x := (c : Int)) r_213_9 (rfl) (ty_193 hT) (rfl) ⟨rfl, by decide⟩ (hc) ?_
    refine gx_ic (P := (c : Int) ≤ (k : Int)) r_213_10 (rfl) (fun h10 => ?_) (fun h10 => ?_)
    · refine gx_st (L' := [(2, 192), (0, t), (0, (k : Int))]) (S' := [(0, 0)]) r_213_37 rfl rfl rfl ?_
      have hkc : k = c := by omega
      rw [hkc] at hI
      exact gx_rt r_213_38 rfl rfl (hno hI)
    · refine gx_st (L' := [(2, 192), (0, t), (0, (k : Int))]) (S' := [(2, 192)]) r_213_13 rfl rfl rfl ?_
      refine gx_gf (x := 193) 2 r_213_14 (rfl) (ty_192 hT) ⟨by decide, rfl, by decide, by decide⟩ rfl (fun _ => by omega) (pin_at hp (t := 193) rfl (by decide)) ?_
      refine gx_st (L' := [(2, 192), (0, t), (0, (k : Int))]) (S' := [(0, 57), (2, 193)]) r_213_17 rfl rfl rfl ?_
      refine gx_st (L' := [(2, 192), (0, t), (0, (k : Int))]) (S' := [(0, (k : Int)), (0, 57), (2, 193)]) r_213_19 rfl rfl rfl ?_
      refine gx_ar (L' := [(2, 192), (0, t), (0, (k : Int))]) (S' := [(2, 193)]) (t := 0) (e := w32 (57 + (k : Int))) (z := (k : Int) + 57) r_213_20 rfl rfl rfl (w32_eq (by omega) (by omega) (by omega)) ?_
      obtain ⟨x21, e_x21⟩ : ∃ z, z = m 193 (57 + k) := ⟨_, rfl⟩
      have b_x21 := gb_193_ac hm (k := k) (by omega)
      rw [← e_x21] at b_x21
      refine gx_ia (n := 57 + k) (x := x21) r_213_21 (rfl) (ty_193 hT) (by omega) ⟨rfl, by omega⟩ (e_x21.symm) ?_
      refine gx_st (L' := [(2, 192), (0, t), (0, (k : Int))]) (S' := [(0, 100), (0, x21)]) r_213_22 rfl rfl rfl ?_
      refine gx_dv (z := (x21 / 100)) r_213_24 (by decide) (w32_td (by omega) rfl (by omega) (by omega)) ?_
      refine gx_st (L' := [(2, 192), (0, t), (0, (k : Int))]) (S' := [(0, t), (0, (x21 / 100))]) r_213_25 rfl rfl rfl ?_
      refine gx_ic (P := ¬ (x21 / 100) = t) r_213_26 (rfl) (fun h26 => ?_) (fun h26 => ?_)
      · refine gx_li (z := (k : Int) + 1) (L' := [(2, 192), (0, t), (0, (k : Int) + 1)]) r_213_31 rfl (w32_eq (by omega) (by omega) (by omega)) rfl ?_
        refine gx_st (L' := [(2, 192), (0, t), (0, (k : Int) + 1)]) (S' := []) r_213_34 rfl rfl rfl ?_
        rw [show (k : Int) + 1 = ((k + 1 : Nat) : Int) from rfl]
        refine ih (k + 1) (by omega) (by omega) (fun i hi => ?_)
        by_cases e : i = k
        · rw [e, ← e_x21]; exact h26
        · exact hI i (by omega)
      · have h26 := Decidable.not_not.mp h26
        refine gx_st (L' := [(2, 192), (0, t), (0, (k : Int))]) (S' := [(0, 1)]) r_213_29 rfl rfl rfl ?_
        exact gx_rt r_213_30 rfl rfl (hy ⟨k, by omega, by rw [← e_x21]; exact h26⟩)
theorem y_213 (hT : TT T) (hm : Gam m) (hp : PinR m) (t : Int) : GX T 0 213 0 [(2, 192), (0, t), (9, 0)] [] m (RI (fun v m1 => ((v = 0 ∧ ¬ HasA (m 193) t) ∨ (v = 1 ∧ HasA (m 193) t)) ∧ m1 = m)) := by
  refine gx_st (L' := [(2, 192), (0, t), (9, 0)]) (S' := [(0, 0)]) r_213_0 rfl rfl rfl ?_
  refine gx_st (L' := [(2, 192), (0, t), (0, 0)]) (S' := []) r_213_1 rfl rfl rfl ?_
  have b8 := gb_193_8 hm
  obtain ⟨c, hc⟩ : ∃ c : Nat, m 193 8 = (c : Int) := ⟨(m 193 8).toNat, by omega⟩
  exact has_e hT hm hp hc (by omega) (fun ⟨i, z1, z2⟩ => ⟨1, rfl, Or.inr ⟨rfl, i, by omega, by omega, z2⟩, rfl⟩) (fun z => ⟨0, rfl, Or.inl ⟨rfl, fun ⟨i, a1, a2, a3⟩ => z i (by omega) a3⟩, rfl⟩) (c + 1) 0 (by omega) (by omega) (fun i hi => absurd hi (Nat.not_lt_zero _))
theorem y_214 (hT : TT T) (h136 : ConH T cn_136) (hm : Gam m) (hx : Ext m) (hp : PinR m) {t : Nat} (ht : t < 12) {a : Int} (ha1 : 1 ≤ a) (ha2 : a ≤ 16) : GX T 12 214 0 [(2, 192), (0, (t : Int)), (0, a)] [] m (RI (fun v m1 => (HasA (m 193) (t : Int) → v = -5) ∧ ActR (m 193) (m1 193) t a)) := by
  have bc := gb_193_8 hm
  obtain ⟨c, hc⟩ : ∃ c : Nat, m 193 8 = (c : Int) := ⟨(m 193 8).toNat, by omega⟩
  refine gx_st (L' := [(2, 192), (0, (t : Int)), (0, a)]) (S' := [(2, 192)]) r_214_0 rfl rfl rfl ?_
  refine gx_st (L' := [(2, 192), (0, (t : Int)), (0, a)]) (S' := [(0, (t : Int)), (2, 192)]) r_214_1 rfl rfl rfl ?_
  refine gx_ci (nx := 5) (S2 := []) (y_213 hT hm hp (t : Int)) r_214_2 rfl rfl rfl rfl rfl (rcv_v rfl (ty_192 hT) (by decide) rfl (by decide)) rfl (by decide) rfl (fun x2 n2 q2 => ?_)
  obtain ⟨hv, z2⟩ := q2
  obtain rfl := z2.symm
  show GX T 12 214 5 [(2, 192), (0, (t : Int)), (0, a)] [(0, x2)] m (RI (fun v m1 => (HasA (m 193) (t : Int) → v = -5) ∧ ActR (m 193) (m1 193) t a))
  refine gx_i0 (P := x2 = 0) r_214_5 (rfl) (fun h5 => ?_) (fun h5 => ?_)
  · have hno : ∀ i : Nat, i < c → ¬ m 193 (57 + i) / 100 = (t : Int) := by
      rcases hv with z | z
      · exact fun i hi y => z.2 ⟨i, by omega, by omega, y⟩
      · exact absurd (z.1.symm.trans h5) (by decide)
    have hc12 : c < 12 := acts_lt hx.1 hc (by omega) ht (fun i hi => gb_193_ac hm hi) hno
    refine gx_st (L' := [(2, 192), (0, (t : Int)), (0, a)]) (S' := [(2, 192)]) r_214_11 rfl rfl rfl ?_
    refine gx_gf (x := 193) 2 r_214_12 (rfl) (ty_192 hT) ⟨by decide, rfl, by decide, by decide⟩ rfl (fun _ => by omega) (pin_at hp (t := 193) rfl (by decide)) ?_
    refine gx_st (L' := [(2, 192), (0, (t : Int)), (0, a)]) (S' := [(0, 57), (2, 193)]) r_214_15 rfl rfl rfl ?_
    refine gx_st (L' := [(2, 192), (0, (t : Int)), (0, a)]) (S' := [(2, 192), (0, 57), (2, 193)]) r_214_17 rfl rfl rfl ?_
    refine gx_gf (x := 193) 2 r_214_18 (rfl) (ty_192 hT) ⟨by decide, rfl, by decide, by decide⟩ rfl (fun _ => by omega) (pin_at hp (t := 193) rfl (by decide)) ?_
    refine gx_st (L' := [(2, 192), (0, (t : Int)), (0, a)]) (S' := [(0, 8), (2, 193), (0, 57), (2, 193)]) r_214_21 rfl rfl rfl ?_
    refine gx_ia (n := 8) (x := (c : Int)) r_214_23 (rfl) (ty_193 hT) (rfl) ⟨rfl, by decide⟩ (hc) ?_
    refine gx_ar (L' := [(2, 192), (0, (t : Int)), (0, a)]) (S' := [(2, 193)]) (t := 0) (e := w32 (57 + (c : Int))) (z := (c : Int) + 57) r_214_24 rfl rfl rfl (w32_eq (by omega) (by omega) (by omega)) ?_
    refine gx_st (L' := [(2, 192), (0, (t : Int)), (0, a)]) (S' := [(0, 100), (0, (c : Int) + 57), (2, 193)]) r_214_25 rfl rfl rfl ?_
    refine gx_st (L' := [(2, 192), (0, (t : Int)), (0, a)]) (S' := [(0, (t : Int)), (0, 100), (0, (c : Int) + 57), (2, 193)]) r_214_27 rfl rfl rfl ?_
    refine gx_ar (L' := [(2, 192), (0, (t : Int)), (0, a)]) (S' := [(0, (c : Int) + 57), (2, 193)]) (t := 0) (e := w32 (100 * (t : Int))) (z := 100 * (t : Int)) r_214_28 rfl rfl rfl (w32_eq (by omega) (by omega) (by omega)) ?_
    refine gx_st (L' := [(2, 192), (0, (t : Int)), (0, a)]) (S' := [(0, a), (0, 100 * (t : Int)), (0, (c : Int) + 57), (2, 193)]) r_214_29 rfl rfl rfl ?_
    refine gx_ar (L' := [(2, 192), (0, (t : Int)), (0, a)]) (S' := [(0, (c : Int) + 57), (2, 193)]) (t := 0) (e := w32 ((100 * (t : Int)) + a)) (z := 100 * (t : Int) + a) r_214_30 rfl rfl rfl (w32_eq (by omega) (by omega) (by omega)) ?_
    obtain ⟨m1, e_m1⟩ : ∃ z, z = nu_up m 193 (57 + c) (100 * (t : Int) + a) := ⟨_, rfl⟩
    refine gx_is (n := 57 + c) (x := 100 * (t : Int) + a) r_214_31 (rfl) (by omega) (ty_193 hT) (by omega) ⟨rfl, by omega⟩ e_m1.symm ?_
    refine gx_st (L' := [(2, 192), (0, (t : Int)), (0, a)]) (S' := [(2, 192)]) r_214_32 rfl rfl rfl ?_
    refine gx_gf (x := 193) 2 r_214_33 (rfl) (ty_192 hT) ⟨by decide, rfl, by decide, by decide⟩ rfl (fun _ => by omega) (by show m1 192 1 = _; rw [e_m1, nu_no (by decide)]; exact pin_at hp (t := 193) rfl (by decide)) ?_
    refine gx_st (L' := [(2, 192), (0, (t : Int)), (0, a)]) (S' := [(0, 8), (2, 193)]) r_214_36 rfl rfl rfl ?_
    refine gx_st (L' := [(2, 192), (0, (t : Int)), (0, a)]) (S' := [(0, 8), (2, 193), (0, 8), (2, 193)]) r_214_38 rfl rfl rfl ?_
    refine gx_ia (n := 8) (x := (c : Int)) r_214_39 (rfl) (ty_193 hT) (rfl) ⟨rfl, by decide⟩ (by show m1 193 8 = _; rw [e_m1, nu_ne (by omega)]; exact hc) ?_
    refine gx_st (L' := [(2, 192), (0, (t : Int)), (0, a)]) (S' := [(0, 1), (0, (c : Int)), (0, 8), (2, 193)]) r_214_40 rfl rfl rfl ?_
    refine gx_ar (L' := [(2, 192), (0, (t : Int)), (0, a)]) (S' := [(0, 8), (2, 193)]) (t := 0) (e := w32 ((c : Int) + 1)) (z := (c : Int) + 1) r_214_41 rfl rfl rfl (w32_eq (by omega) (by omega) (by omega)) ?_
    obtain ⟨m2, e_m2⟩ : ∃ z, z = nu_up m1 193 8 ((c : Int) + 1) := ⟨_, rfl⟩
    refine gx_is (n := 8) (x := (c : Int) + 1) r_214_42 (rfl) (by omega) (ty_193 hT) (rfl) ⟨rfl, by decide⟩ e_m2.symm ?_
    have g1 : Gam m1 := by rw [e_m1]; exact gu_193_ac hm (k := c) (by omega) (by omega) (by omega)
    have g2 : Gam m2 := by rw [e_m2]; exact gu_193_8 g1 (by omega) (by omega)
    have hw : WOK (m2 193) := WOK_add hx.1 hc hc12 ha1 ha2 hno (by rw [e_m2, nu_at]) (by rw [e_m2, nu_ne (by omega), e_m1, nu_at]) (fun i h1 h2 => by rw [e_m2, nu_ne h1, e_m1, nu_ne h2])
    have x2_ : Ext m2 := Ext_w hx hw (by rw [e_m2, nu_row (by decide), e_m1, nu_row (by decide)]) (by rw [e_m2, nu_row (by decide), e_m1, nu_row (by decide)])
    have p2 : PinR m2 := by rw [e_m2, e_m1]; exact PinR_up (PinR_up hp rfl) rfl
    refine gx_st (L' := [(2, 192), (0, (t : Int)), (0, a)]) (S' := [(2, 192)]) r_214_43 rfl rfl rfl ?_
    refine gx_ci (nx := 47) (S2 := []) (x_146 hT h136 g2 x2_) r_214_44 rfl rfl rfl rfl rfl (rcv_v rfl (ty_192 hT) (by decide) rfl (by decide)) rfl (by decide) rfl (fun x44 n44 q44 => ?_)
    show GX T 12 214 47 [(2, 192), (0, (t : Int)), (0, a)] [(0, x44)] n44 (RI (fun v m1 => (HasA (m 193) (t : Int) → v = -5) ∧ ActR (m 193) (m1 193) t a))
    refine gx_st (L' := [(2, 192), (0, (t : Int)), (0, a)]) (S' := []) r_214_47 rfl rfl rfl ?_
    refine gx_st (L' := [(2, 192), (0, (t : Int)), (0, a)]) (S' := [(2, 192)]) r_214_48 rfl rfl rfl ?_
    refine gx_st (L' := [(2, 192), (0, (t : Int)), (0, a)]) (S' := [(0, (t : Int)), (2, 192)]) r_214_49 rfl rfl rfl ?_
    refine gx_st (L' := [(2, 192), (0, (t : Int)), (0, a)]) (S' := [(0, a), (0, (t : Int)), (2, 192)]) r_214_50 rfl rfl rfl ?_
    refine gx_ci (nx := 54) (S2 := []) (x_137 hT h136 q44.2.1 (h := t) (by omega) (a := a) (by omega) ha2 (q44.2.2.1.2.2 t (by omega))) r_214_51 rfl rfl rfl rfl rfl (rcv_v rfl (ty_192 hT) (by decide) rfl (by decide)) rfl (by decide) rfl (fun x51 n51 q51 => ?_)
    obtain ⟨⟨cv, cw⟩, z51⟩ := q51
    obtain rfl := z51.symm
    show GX T 12 214 54 [(2, 192), (0, (t : Int)), (0, a)] [(0, x51)] n44 (RI (fun v m1 => (HasA (m 193) (t : Int) → v = -5) ∧ ActR (m 193) (m1 193) t a))
    refine gx_i0 (P := x51 = 0) r_214_54 (rfl) (fun h54 => ?_) (fun h54 => ?_)
    · refine gx_st (L' := [(2, 192), (0, (t : Int)), (0, a)]) (S' := [(0, 0)]) r_214_61 rfl rfl rfl ?_
      have f8 : ∀ i : Nat, n44 193 i = m2 193 i := fun i => q44.2.2.2.1 193 i rfl
      have hnA : ¬ HasA (m 193) (t : Int) := fun ⟨i, a1, a2, a3⟩ => hno i (by omega) a3
      refine gx_rt r_214_62 rfl rfl ⟨_, rfl, fun z => absurd z hnA, ⟨fun z => absurd z hnA, fun _ n hn => ?_⟩⟩
      have hcn : n = c := by omega
      rw [hcn]
      exact ⟨hc12, (f8 8).trans (by rw [e_m2, nu_at]), (f8 (57 + c)).trans (by rw [e_m2, nu_ne (by omega), e_m1, nu_at]), fun i h1 h2 => (f8 i).trans (by rw [e_m2, nu_ne h1, e_m1, nu_ne h2])⟩
    · refine gx_st (L' := [(2, 192), (0, (t : Int)), (0, a)]) (S' := [(0, 1)]) r_214_57 rfl rfl rfl ?_
      refine gx_st (L' := [(2, 192), (0, (t : Int)), (0, a)]) (S' := [(0, 1)]) r_214_58 rfl rfl rfl ?_
      have f8 : ∀ i : Nat, n44 193 i = m2 193 i := fun i => q44.2.2.2.1 193 i rfl
      have hnA : ¬ HasA (m 193) (t : Int) := fun ⟨i, a1, a2, a3⟩ => hno i (by omega) a3
      refine gx_rt r_214_62 rfl rfl ⟨_, rfl, fun z => absurd z hnA, ⟨fun z => absurd z hnA, fun _ n hn => ?_⟩⟩
      have hcn : n = c := by omega
      rw [hcn]
      exact ⟨hc12, (f8 8).trans (by rw [e_m2, nu_at]), (f8 (57 + c)).trans (by rw [e_m2, nu_ne (by omega), e_m1, nu_at]), fun i h1 h2 => (f8 i).trans (by rw [e_m2, nu_ne h1, e_m1, nu_ne h2])⟩
  · refine gx_st (L' := [(2, 192), (0, (t : Int)), (0, a)]) (S' := [(0, (-5))]) r_214_8 rfl rfl rfl ?_
    have hA : HasA (m 193) (t : Int) := by
      rcases hv with z | z
      · exact absurd z.1 h5
      · exact z.2
    exact gx_rt r_214_10 rfl rfl ⟨_, rfl, fun _ => rfl, ⟨fun _ _ => rfl, fun z => absurd hA z⟩⟩
theorem y_215 (hT : TT T) (h136 : ConH T cn_136) (hm : Gam m) (hx : Ext m) (hp : PinR m) (t : Int) : GX T 13 215 0 [(2, 192), (0, t)] [] m (RI (fun v m1 => (¬ (0 ≤ t ∧ t < m 193 1) → v = -2 ∧ m1 = m) ∧ ∀ h : Nat, t = (h : Int) → (h : Int) < m 193 1 → (HasA (m 193) (h : Int) → v = -5) ∧ ActR (m 193) (m1 193) h 1)) := by
  have b1 := gb_193_1 hm
  have b0 := gb_193_0 hm
  refine gx_st (L' := [(2, 192), (0, t)]) (S' := [(2, 192)]) r_215_0 rfl rfl rfl ?_
  refine gx_st (L' := [(2, 192), (0, t)]) (S' := [(0, t), (2, 192)]) r_215_1 rfl rfl rfl ?_
  refine gx_ci (nx := 5) (S2 := []) (x_92 hT hm t) r_215_2 rfl rfl rfl rfl rfl (rcv_v rfl (ty_192 hT) (by decide) rfl (by decide)) rfl (by decide) rfl (fun x2 n2 q2 => ?_)
  obtain rfl := q2.1.symm
  obtain rfl := q2.2.symm
  show GX T 13 215 5 [(2, 192), (0, t)] [(0, (if 0 ≤ t ∧ t ≤ m 193 1 - 1 then 1 else 0))] m (RI (fun v m1 => (¬ (0 ≤ t ∧ t < m 193 1) → v = -2 ∧ m1 = m) ∧ ∀ h : Nat, t = (h : Int) → (h : Int) < m 193 1 → (HasA (m 193) (h : Int) → v = -5) ∧ ActR (m 193) (m1 193) h 1))
  refine gx_i0 (P := ¬ (0 ≤ t ∧ t ≤ m 193 1 - 1)) r_215_5 (b01_eq) (fun h5 => ?_) (fun h5 => ?_)
  · refine gx_st (L' := [(2, 192), (0, t)]) (S' := [(0, (-2))]) r_215_17 rfl rfl rfl ?_
    exact gx_rt r_215_19 rfl rfl ⟨_, rfl, fun z => ⟨rfl, rfl⟩, fun h e h2 => (by exfalso; omega)⟩
  · have h5 := Decidable.not_not.mp h5
    obtain ⟨hh, hia⟩ : ∃ i : Nat, t = (i : Int) := ⟨t.toNat, by omega⟩
    have hh12 : hh < 12 := by omega
    rw [hia]
    refine gx_st (L' := [(2, 192), (0, (hh : Int))]) (S' := [(2, 192)]) r_215_8 rfl rfl rfl ?_
    refine gx_st (L' := [(2, 192), (0, (hh : Int))]) (S' := [(0, (hh : Int)), (2, 192)]) r_215_9 rfl rfl rfl ?_
    refine gx_st (L' := [(2, 192), (0, (hh : Int))]) (S' := [(0, 1), (0, (hh : Int)), (2, 192)]) r_215_10 rfl rfl rfl ?_
    refine gx_ci (nx := 14) (S2 := []) (y_214 hT h136 hm hx hp (t := hh) hh12 (a := 1) (by omega) (by omega)) r_215_11 rfl rfl rfl rfl rfl (rcv_v rfl (ty_192 hT) (by decide) rfl (by decide)) rfl (by decide) rfl (fun x11 n11 q11 => ?_)
    show GX T 13 215 14 [(2, 192), (0, (hh : Int))] [(0, x11)] n11 (RI (fun v m1 => (¬ (0 ≤ (hh : Int) ∧ (hh : Int) < m 193 1) → v = -2 ∧ m1 = m) ∧ ∀ h : Nat, (hh : Int) = (h : Int) → (h : Int) < m 193 1 → (HasA (m 193) (h : Int) → v = -5) ∧ ActR (m 193) (m1 193) h 1))
    refine gx_st (L' := [(2, 192), (0, (hh : Int))]) (S' := [(0, x11)]) r_215_14 rfl rfl rfl ?_
    exact gx_rt r_215_19 rfl rfl ⟨_, rfl, fun z => absurd (by omega) z, fun h e h2 => (show h = hh by omega) ▸ q11⟩
theorem y_217 (hT : TT T) (h136 : ConH T cn_136) (hm : Gam m) (hx : Ext m) (hp : PinR m) (t : Int) : GX T 13 217 0 [(2, 192), (0, t)] [] m (RI (fun v m1 => (¬ (0 ≤ t ∧ t < m 193 1) → v = -2 ∧ m1 = m) ∧ ∀ h : Nat, t = (h : Int) → (h : Int) < m 193 1 → (HasA (m 193) (h : Int) → v = -5) ∧ ActR (m 193) (m1 193) h 2)) := by
  have b1 := gb_193_1 hm
  have b0 := gb_193_0 hm
  refine gx_st (L' := [(2, 192), (0, t)]) (S' := [(2, 192)]) r_217_0 rfl rfl rfl ?_
  refine gx_st (L' := [(2, 192), (0, t)]) (S' := [(0, t), (2, 192)]) r_217_1 rfl rfl rfl ?_
  refine gx_ci (nx := 5) (S2 := []) (x_92 hT hm t) r_217_2 rfl rfl rfl rfl rfl (rcv_v rfl (ty_192 hT) (by decide) rfl (by decide)) rfl (by decide) rfl (fun x2 n2 q2 => ?_)
  obtain rfl := q2.1.symm
  obtain rfl := q2.2.symm
  show GX T 13 217 5 [(2, 192), (0, t)] [(0, (if 0 ≤ t ∧ t ≤ m 193 1 - 1 then 1 else 0))] m (RI (fun v m1 => (¬ (0 ≤ t ∧ t < m 193 1) → v = -2 ∧ m1 = m) ∧ ∀ h : Nat, t = (h : Int) → (h : Int) < m 193 1 → (HasA (m 193) (h : Int) → v = -5) ∧ ActR (m 193) (m1 193) h 2))
  refine gx_i0 (P := ¬ (0 ≤ t ∧ t ≤ m 193 1 - 1)) r_217_5 (b01_eq) (fun h5 => ?_) (fun h5 => ?_)
  · refine gx_st (L' := [(2, 192), (0, t)]) (S' := [(0, (-2))]) r_217_17 rfl rfl rfl ?_
    exact gx_rt r_217_19 rfl rfl ⟨_, rfl, fun z => ⟨rfl, rfl⟩, fun h e h2 => (by exfalso; omega)⟩
  · have h5 := Decidable.not_not.mp h5
    obtain ⟨hh, hia⟩ : ∃ i : Nat, t = (i : Int) := ⟨t.toNat, by omega⟩
    have hh12 : hh < 12 := by omega
    rw [hia]
    refine gx_st (L' := [(2, 192), (0, (hh : Int))]) (S' := [(2, 192)]) r_217_8 rfl rfl rfl ?_
    refine gx_st (L' := [(2, 192), (0, (hh : Int))]) (S' := [(0, (hh : Int)), (2, 192)]) r_217_9 rfl rfl rfl ?_
    refine gx_st (L' := [(2, 192), (0, (hh : Int))]) (S' := [(0, 2), (0, (hh : Int)), (2, 192)]) r_217_10 rfl rfl rfl ?_
    refine gx_ci (nx := 14) (S2 := []) (y_214 hT h136 hm hx hp (t := hh) hh12 (a := 2) (by omega) (by omega)) r_217_11 rfl rfl rfl rfl rfl (rcv_v rfl (ty_192 hT) (by decide) rfl (by decide)) rfl (by decide) rfl (fun x11 n11 q11 => ?_)
    show GX T 13 217 14 [(2, 192), (0, (hh : Int))] [(0, x11)] n11 (RI (fun v m1 => (¬ (0 ≤ (hh : Int) ∧ (hh : Int) < m 193 1) → v = -2 ∧ m1 = m) ∧ ∀ h : Nat, (hh : Int) = (h : Int) → (h : Int) < m 193 1 → (HasA (m 193) (h : Int) → v = -5) ∧ ActR (m 193) (m1 193) h 2))
    refine gx_st (L' := [(2, 192), (0, (hh : Int))]) (S' := [(0, x11)]) r_217_14 rfl rfl rfl ?_
    exact gx_rt r_217_19 rfl rfl ⟨_, rfl, fun z => absurd (by omega) z, fun h e h2 => (show h = hh by omega) ▸ q11⟩
theorem y_216 (hT : TT T) (h136 : ConH T cn_136) (hm : Gam m) (hx : Ext m) (hp : PinR m) (t p : Int) : GX T 13 216 0 [(2, 192), (0, t), (0, p)] [] m (RI (fun v m1 => (¬ ((0 ≤ t ∧ t < m 193 1) ∧ (0 ≤ p ∧ p < m 193 0)) → v = -2 ∧ m1 = m) ∧ ∀ h : Nat, t = (h : Int) → (h : Int) < m 193 1 → (0 ≤ p ∧ p < m 193 0) → (HasA (m 193) (h : Int) → v = -5) ∧ ActR (m 193) (m1 193) h (p + 10))) := by
  have b1 := gb_193_1 hm
  have b0 := gb_193_0 hm
  refine gx_st (L' := [(2, 192), (0, t), (0, p)]) (S' := [(2, 192)]) r_216_0 rfl rfl rfl ?_
  refine gx_st (L' := [(2, 192), (0, t), (0, p)]) (S' := [(0, t), (2, 192)]) r_216_1 rfl rfl rfl ?_
  refine gx_ci (nx := 5) (S2 := []) (x_92 hT hm t) r_216_2 rfl rfl rfl rfl rfl (rcv_v rfl (ty_192 hT) (by decide) rfl (by decide)) rfl (by decide) rfl (fun x2 n2 q2 => ?_)
  obtain rfl := q2.1.symm
  obtain rfl := q2.2.symm
  show GX T 13 216 5 [(2, 192), (0, t), (0, p)] [(0, (if 0 ≤ t ∧ t ≤ m 193 1 - 1 then 1 else 0))] m (RI (fun v m1 => (¬ ((0 ≤ t ∧ t < m 193 1) ∧ (0 ≤ p ∧ p < m 193 0)) → v = -2 ∧ m1 = m) ∧ ∀ h : Nat, t = (h : Int) → (h : Int) < m 193 1 → (0 ≤ p ∧ p < m 193 0) → (HasA (m 193) (h : Int) → v = -5) ∧ ActR (m 193) (m1 193) h (p + 10)))
  refine gx_i0 (P := ¬ (0 ≤ t ∧ t ≤ m 193 1 - 1)) r_216_5 (b01_eq) (fun h5 => ?_) (fun h5 => ?_)
  · refine gx_st (L' := [(2, 192), (0, t), (0, p)]) (S' := [(0, (-2))]) r_216_29 rfl rfl rfl ?_
    exact gx_rt r_216_31 rfl rfl ⟨_, rfl, fun z => ⟨rfl, rfl⟩, fun h e h2 h3 => (by exfalso; omega)⟩
  · have h5 := Decidable.not_not.mp h5
    refine gx_st (L' := [(2, 192), (0, t), (0, p)]) (S' := [(2, 192)]) r_216_8 rfl rfl rfl ?_
    refine gx_st (L' := [(2, 192), (0, t), (0, p)]) (S' := [(0, p), (2, 192)]) r_216_9 rfl rfl rfl ?_
    refine gx_st (L' := [(2, 192), (0, t), (0, p)]) (S' := [(1, p), (2, 192)]) r_216_10 rfl rfl rfl ?_
    refine gx_ci (nx := 14) (S2 := []) (x_91 hT hm p) r_216_11 rfl rfl rfl rfl rfl (rcv_v rfl (ty_192 hT) (by decide) rfl (by decide)) rfl (by decide) rfl (fun x11 n11 q11 => ?_)
    obtain rfl := q11.1.symm
    obtain rfl := q11.2.symm
    show GX T 13 216 14 [(2, 192), (0, t), (0, p)] [(0, (if 0 ≤ p ∧ p ≤ m 193 0 - 1 then 1 else 0))] m (RI (fun v m1 => (¬ ((0 ≤ t ∧ t < m 193 1) ∧ (0 ≤ p ∧ p < m 193 0)) → v = -2 ∧ m1 = m) ∧ ∀ h : Nat, t = (h : Int) → (h : Int) < m 193 1 → (0 ≤ p ∧ p < m 193 0) → (HasA (m 193) (h : Int) → v = -5) ∧ ActR (m 193) (m1 193) h (p + 10)))
    refine gx_i0 (P := ¬ (0 ≤ p ∧ p ≤ m 193 0 - 1)) r_216_14 (b01_eq) (fun h14 => ?_) (fun h14 => ?_)
    · refine gx_st (L' := [(2, 192), (0, t), (0, p)]) (S' := [(0, (-2))]) r_216_29 rfl rfl rfl ?_
      exact gx_rt r_216_31 rfl rfl ⟨_, rfl, fun z => ⟨rfl, rfl⟩, fun h e h2 h3 => (by exfalso; omega)⟩
    · have h14 := Decidable.not_not.mp h14
      obtain ⟨hh, hia⟩ : ∃ i : Nat, t = (i : Int) := ⟨t.toNat, by omega⟩
      have hh12 : hh < 12 := by omega
      rw [hia]
      refine gx_st (L' := [(2, 192), (0, (hh : Int)), (0, p)]) (S' := [(2, 192)]) r_216_17 rfl rfl rfl ?_
      refine gx_st (L' := [(2, 192), (0, (hh : Int)), (0, p)]) (S' := [(0, (hh : Int)), (2, 192)]) r_216_18 rfl rfl rfl ?_
      refine gx_st (L' := [(2, 192), (0, (hh : Int)), (0, p)]) (S' := [(0, 10), (0, (hh : Int)), (2, 192)]) r_216_19 rfl rfl rfl ?_
      refine gx_st (L' := [(2, 192), (0, (hh : Int)), (0, p)]) (S' := [(0, p), (0, 10), (0, (hh : Int)), (2, 192)]) r_216_21 rfl rfl rfl ?_
      refine gx_ar (L' := [(2, 192), (0, (hh : Int)), (0, p)]) (S' := [(0, (hh : Int)), (2, 192)]) (t := 0) (e := w32 (10 + p)) (z := p + 10) r_216_22 rfl rfl rfl (w32_eq (by omega) (by omega) (by omega)) ?_
      refine gx_ci (nx := 26) (S2 := []) (y_214 hT h136 hm hx hp (t := hh) hh12 (a := (p + 10)) (by omega) (by omega)) r_216_23 rfl rfl rfl rfl rfl (rcv_v rfl (ty_192 hT) (by decide) rfl (by decide)) rfl (by decide) rfl (fun x23 n23 q23 => ?_)
      show GX T 13 216 26 [(2, 192), (0, (hh : Int)), (0, p)] [(0, x23)] n23 (RI (fun v m1 => (¬ ((0 ≤ (hh : Int) ∧ (hh : Int) < m 193 1) ∧ (0 ≤ p ∧ p < m 193 0)) → v = -2 ∧ m1 = m) ∧ ∀ h : Nat, (hh : Int) = (h : Int) → (h : Int) < m 193 1 → (0 ≤ p ∧ p < m 193 0) → (HasA (m 193) (h : Int) → v = -5) ∧ ActR (m 193) (m1 193) h (p + 10)))
      refine gx_st (L' := [(2, 192), (0, (hh : Int)), (0, p)]) (S' := [(0, x23)]) r_216_26 rfl rfl rfl ?_
      exact gx_rt r_216_31 rfl rfl ⟨_, rfl, fun z => absurd (by omega) z, fun h e h2 h3 => (show h = hh by omega) ▸ q23⟩
theorem y_218 (hT : TT T) (hm : Gam m) (hp : PinR m) {n : Nat} (hn : m 193 8 = (n : Int)) : GX T 1 218 0 [(2, 192)] [] m (RI (fun v m1 => (¬ 0 < m 193 9 → v = -2 ∧ m1 = m) ∧ (0 < m 193 9 → n = 0 → v = -5 ∧ m1 = m) ∧ (0 < m 193 9 → ¬ n = 0 → v = ((n - 1 : Nat) : Int) ∧ m1 193 8 = ((n - 1 : Nat) : Int) ∧ ∀ i : Nat, ¬ i = 8 → m1 193 i = m 193 i))) := by
  have bn := gb_193_8 hm
  refine gx_st (L' := [(2, 192)]) (S' := [(2, 192)]) r_218_0 rfl rfl rfl ?_
  refine gx_ci (nx := 4) (S2 := []) (x_90 hT hm) r_218_1 rfl rfl rfl rfl rfl (rcv_v rfl (ty_192 hT) (by decide) rfl (by decide)) rfl (by decide) rfl (fun x1 n1 q1 => ?_)
  obtain rfl := q1.1.symm
  obtain rfl := q1.2.symm
  show GX T 1 218 4 [(2, 192)] [(0, (if 0 < m 193 9 then 1 else 0))] m (RI (fun v m1 => (¬ 0 < m 193 9 → v = -2 ∧ m1 = m) ∧ (0 < m 193 9 → n = 0 → v = -5 ∧ m1 = m) ∧ (0 < m 193 9 → ¬ n = 0 → v = ((n - 1 : Nat) : Int) ∧ m1 193 8 = ((n - 1 : Nat) : Int) ∧ ∀ i : Nat, ¬ i = 8 → m1 193 i = m 193 i)))
  refine gx_i0 (P := 0 < m 193 9) r_218_4 (b01_ne) (fun h4 => ?_) (fun h4 => ?_)
  · refine gx_st (L' := [(2, 192)]) (S' := [(2, 192)]) r_218_10 rfl rfl rfl ?_
    refine gx_gf (x := 193) 2 r_218_11 (rfl) (ty_192 hT) ⟨by decide, rfl, by decide, by decide⟩ rfl (fun _ => by omega) (pin_at hp (t := 193) rfl (by decide)) ?_
    refine gx_st (L' := [(2, 192)]) (S' := [(0, 8), (2, 193)]) r_218_14 rfl rfl rfl ?_
    refine gx_ia (n := 8) (x := (n : Int)) r_218_16 (rfl) (ty_193 hT) (rfl) ⟨rfl, by decide⟩ (hn) ?_
    refine gx_i0 (P := ¬ (n : Int) = 0) r_218_17 (rfl) (fun h17 => ?_) (fun h17 => ?_)
    · refine gx_st (L' := [(2, 192)]) (S' := [(2, 192)]) r_218_23 rfl rfl rfl ?_
      refine gx_gf (x := 193) 2 r_218_24 (rfl) (ty_192 hT) ⟨by decide, rfl, by decide, by decide⟩ rfl (fun _ => by omega) (pin_at hp (t := 193) rfl (by decide)) ?_
      refine gx_st (L' := [(2, 192)]) (S' := [(0, 8), (2, 193)]) r_218_27 rfl rfl rfl ?_
      refine gx_st (L' := [(2, 192)]) (S' := [(0, 8), (2, 193), (0, 8), (2, 193)]) r_218_29 rfl rfl rfl ?_
      refine gx_ia (n := 8) (x := (n : Int)) r_218_30 (rfl) (ty_193 hT) (rfl) ⟨rfl, by decide⟩ (hn) ?_
      refine gx_st (L' := [(2, 192)]) (S' := [(0, 1), (0, (n : Int)), (0, 8), (2, 193)]) r_218_31 rfl rfl rfl ?_
      refine gx_ar (L' := [(2, 192)]) (S' := [(0, 8), (2, 193)]) (t := 0) (e := w32 ((n : Int) - 1)) (z := (n : Int) - 1) r_218_32 rfl rfl rfl (w32_eq (by omega) (by omega) (by omega)) ?_
      obtain ⟨m1, e_m1⟩ : ∃ z, z = nu_up m 193 8 ((n : Int) - 1) := ⟨_, rfl⟩
      refine gx_is (n := 8) (x := (n : Int) - 1) r_218_33 (rfl) (by omega) (ty_193 hT) (rfl) ⟨rfl, by decide⟩ e_m1.symm ?_
      refine gx_st (L' := [(2, 192)]) (S' := [(2, 192)]) r_218_34 rfl rfl rfl ?_
      refine gx_gf (x := 193) 2 r_218_35 (rfl) (ty_192 hT) ⟨by decide, rfl, by decide, by decide⟩ rfl (fun _ => by omega) (by show m1 192 1 = _; rw [e_m1, nu_no (by decide)]; exact pin_at hp (t := 193) rfl (by decide)) ?_
      refine gx_st (L' := [(2, 192)]) (S' := [(0, 8), (2, 193)]) r_218_38 rfl rfl rfl ?_
      refine gx_ia (n := 8) (x := (n : Int) - 1) r_218_40 (rfl) (ty_193 hT) (rfl) ⟨rfl, by decide⟩ (by show m1 193 8 = _; rw [e_m1, nu_at]) ?_
      exact gx_rt r_218_41 rfl rfl ⟨_, rfl, fun z => absurd h4 z, fun z z2 => absurd z2 (show ¬ n = 0 by omega), fun z z2 => ⟨by omega, by rw [e_m1, nu_at]; omega, fun i hi => by rw [e_m1, nu_ne hi]⟩⟩
    · have h17 := Decidable.not_not.mp h17
      refine gx_st (L' := [(2, 192)]) (S' := [(0, (-5))]) r_218_20 rfl rfl rfl ?_
      exact gx_rt r_218_22 rfl rfl ⟨_, rfl, fun z => absurd h4 z, fun z z2 => ⟨rfl, rfl⟩, fun z z2 => absurd (show n = 0 by omega) z2⟩
  · refine gx_st (L' := [(2, 192)]) (S' := [(0, (-2))]) r_218_7 rfl rfl rfl ?_
    exact gx_rt r_218_9 rfl rfl ⟨_, rfl, fun z => ⟨rfl, rfl⟩, fun z => absurd z h4, fun z => absurd z h4⟩
theorem y_219 (hT : TT T) (hm : Gam m) (hp : PinR m) {n : Nat} (hn : m 193 8 = (n : Int)) : GX T 1 219 0 [(2, 192), (9, 0)] [] m (RI (fun v m1 => (¬ 0 < m 193 9 → v = -2 ∧ m1 = m) ∧ (0 < m 193 9 → v = (n : Int) ∧ m1 193 8 = 0 ∧ ∀ i : Nat, ¬ i = 8 → m1 193 i = m 193 i))) := by
  refine gx_st (L' := [(2, 192), (9, 0)]) (S' := [(2, 192)]) r_219_0 rfl rfl rfl ?_
  refine gx_ci (nx := 4) (S2 := []) (x_90 hT hm) r_219_1 rfl rfl rfl rfl rfl (rcv_v rfl (ty_192 hT) (by decide) rfl (by decide)) rfl (by decide) rfl (fun x1 n1 q1 => ?_)
  obtain rfl := q1.1.symm
  obtain rfl := q1.2.symm
  show GX T 1 219 4 [(2, 192), (9, 0)] [(0, (if 0 < m 193 9 then 1 else 0))] m (RI (fun v m1 => (¬ 0 < m 193 9 → v = -2 ∧ m1 = m) ∧ (0 < m 193 9 → v = (n : Int) ∧ m1 193 8 = 0 ∧ ∀ i : Nat, ¬ i = 8 → m1 193 i = m 193 i)))
  refine gx_i0 (P := 0 < m 193 9) r_219_4 (b01_ne) (fun h4 => ?_) (fun h4 => ?_)
  · refine gx_st (L' := [(2, 192), (9, 0)]) (S' := [(2, 192)]) r_219_10 rfl rfl rfl ?_
    refine gx_gf (x := 193) 2 r_219_11 (rfl) (ty_192 hT) ⟨by decide, rfl, by decide, by decide⟩ rfl (fun _ => by omega) (pin_at hp (t := 193) rfl (by decide)) ?_
    refine gx_st (L' := [(2, 192), (9, 0)]) (S' := [(0, 8), (2, 193)]) r_219_14 rfl rfl rfl ?_
    refine gx_ia (n := 8) (x := (n : Int)) r_219_16 (rfl) (ty_193 hT) (rfl) ⟨rfl, by decide⟩ (hn) ?_
    refine gx_st (L' := [(2, 192), (0, (n : Int))]) (S' := []) r_219_17 rfl rfl rfl ?_
    refine gx_st (L' := [(2, 192), (0, (n : Int))]) (S' := [(2, 192)]) r_219_18 rfl rfl rfl ?_
    refine gx_gf (x := 193) 2 r_219_19 (rfl) (ty_192 hT) ⟨by decide, rfl, by decide, by decide⟩ rfl (fun _ => by omega) (pin_at hp (t := 193) rfl (by decide)) ?_
    refine gx_st (L' := [(2, 192), (0, (n : Int))]) (S' := [(0, 8), (2, 193)]) r_219_22 rfl rfl rfl ?_
    refine gx_st (L' := [(2, 192), (0, (n : Int))]) (S' := [(0, 0), (0, 8), (2, 193)]) r_219_24 rfl rfl rfl ?_
    obtain ⟨m1, e_m1⟩ : ∃ z, z = nu_up m 193 8 0 := ⟨_, rfl⟩
    refine gx_is (n := 8) (x := 0) r_219_25 (rfl) (by omega) (ty_193 hT) (rfl) ⟨rfl, by decide⟩ e_m1.symm ?_
    refine gx_st (L' := [(2, 192), (0, (n : Int))]) (S' := [(0, (n : Int))]) r_219_26 rfl rfl rfl ?_
    exact gx_rt r_219_27 rfl rfl ⟨_, rfl, fun z => absurd h4 z, fun z => ⟨rfl, by rw [e_m1, nu_at], fun i hi => by rw [e_m1, nu_ne hi]⟩⟩
  · refine gx_st (L' := [(2, 192), (9, 0)]) (S' := [(0, (-2))]) r_219_7 rfl rfl rfl ?_
    exact gx_rt r_219_9 rfl rfl ⟨_, rfl, fun z => ⟨rfl, rfl⟩, fun z => absurd z h4⟩
theorem y_224 (hT : TT T) (hm : Gam m) (hp : PinR m) {n : Nat} (hn : m 193 8 = (n : Int)) (a b : Int) : GX T 2 224 0 [(2, 192), (0, a), (0, b), (9, 0)] [] m (RI (fun v m1 => (¬ ((0 ≤ a ∧ a < m 193 5) ∧ 0 ≤ b ∧ b < 10) → v = -2 ∧ m1 = m) ∧ (((0 ≤ a ∧ a < m 193 5) ∧ 0 ≤ b ∧ b < 10) → 0 < n → v = -5 ∧ m1 = m) ∧ (∀ i : Nat, a = (i : Int) → ((0 ≤ a ∧ a < m 193 5) ∧ 0 ≤ b ∧ b < 10) → n = 0 → v = m 193 (32 + 2 * i) ∧ ∀ k : Nat, m1 193 k = nu_up m 193 (32 + 2 * i) b 193 k))) := by
  refine gx_st (L' := [(2, 192), (0, a), (0, b), (9, 0)]) (S' := [(2, 192)]) r_224_0 rfl rfl rfl ?_
  refine gx_st (L' := [(2, 192), (0, a), (0, b), (9, 0)]) (S' := [(0, a), (2, 192)]) r_224_1 rfl rfl rfl ?_
  refine gx_st (L' := [(2, 192), (0, a), (0, b), (9, 0)]) (S' := [(1, a), (2, 192)]) r_224_2 rfl rfl rfl ?_
  refine gx_ci (nx := 6) (S2 := []) (x_94 hT hm a) r_224_3 rfl rfl rfl rfl rfl (rcv_v rfl (ty_192 hT) (by decide) rfl (by decide)) rfl (by decide) rfl (fun x3 n3 q3 => ?_)
  obtain rfl := q3.1.symm
  obtain rfl := q3.2.symm
  show GX T 2 224 6 [(2, 192), (0, a), (0, b), (9, 0)] [(0, (if 0 ≤ a ∧ a ≤ m 193 5 - 1 then 1 else 0))] m (RI (fun v m1 => (¬ ((0 ≤ a ∧ a < m 193 5) ∧ 0 ≤ b ∧ b < 10) → v = -2 ∧ m1 = m) ∧ (((0 ≤ a ∧ a < m 193 5) ∧ 0 ≤ b ∧ b < 10) → 0 < n → v = -5 ∧ m1 = m) ∧ (∀ i : Nat, a = (i : Int) → ((0 ≤ a ∧ a < m 193 5) ∧ 0 ≤ b ∧ b < 10) → n = 0 → v = m 193 (32 + 2 * i) ∧ ∀ k : Nat, m1 193 k = nu_up m 193 (32 + 2 * i) b 193 k)))
  refine gx_i0 (P := ¬ (0 ≤ a ∧ a ≤ m 193 5 - 1)) r_224_6 (b01_eq) (fun h6 => ?_) (fun h6 => ?_)
  · refine gx_st (L' := [(2, 192), (0, a), (0, b), (9, 0)]) (S' := [(0, (-2))]) r_224_21 rfl rfl rfl ?_
    exact gx_rt r_224_23 rfl rfl ⟨_, rfl, fun z => ⟨rfl, rfl⟩, fun z => absurd z (by omega), fun i e z => absurd z (by omega)⟩
  · have h6 := Decidable.not_not.mp h6
    refine gx_st (L' := [(2, 192), (0, a), (0, b), (9, 0)]) (S' := [(0, b)]) r_224_9 rfl rfl rfl ?_
    refine gx_st (L' := [(2, 192), (0, a), (0, b), (9, 0)]) (S' := [(1, b)]) r_224_10 rfl rfl rfl ?_
    refine gx_st (L' := [(2, 192), (0, a), (0, b), (9, 0)]) (S' := [(1, 0), (1, b)]) r_224_11 rfl rfl rfl ?_
    refine gx_st (L' := [(2, 192), (0, a), (0, b), (9, 0)]) (S' := [(1, 9), (1, 0), (1, b)]) r_224_12 rfl rfl rfl ?_
    refine gx_ci (nx := 18) (S2 := []) (x_86 b 0 9) r_224_15 rfl rfl rfl rfl rfl rfl rfl (by decide) rfl (fun x15 n15 q15 => ?_)
    obtain rfl := q15.1.symm
    obtain rfl := q15.2.symm
    show GX T 2 224 18 [(2, 192), (0, a), (0, b), (9, 0)] [(0, (if 0 ≤ b ∧ b ≤ 9 then 1 else 0))] m (RI (fun v m1 => (¬ ((0 ≤ a ∧ a < m 193 5) ∧ 0 ≤ b ∧ b < 10) → v = -2 ∧ m1 = m) ∧ (((0 ≤ a ∧ a < m 193 5) ∧ 0 ≤ b ∧ b < 10) → 0 < n → v = -5 ∧ m1 = m) ∧ (∀ i : Nat, a = (i : Int) → ((0 ≤ a ∧ a < m 193 5) ∧ 0 ≤ b ∧ b < 10) → n = 0 → v = m 193 (32 + 2 * i) ∧ ∀ k : Nat, m1 193 k = nu_up m 193 (32 + 2 * i) b 193 k)))
    refine gx_i0 (P := 0 ≤ b ∧ b ≤ 9) r_224_18 (b01_ne) (fun h18 => ?_) (fun h18 => ?_)
    · have b5 := gb_193_5 hm
      obtain ⟨ii, hia⟩ : ∃ i : Nat, a = (i : Int) := ⟨a.toNat, by omega⟩
      have hi5 : ii < 5 := by omega
      rw [hia]
      refine gx_st (L' := [(2, 192), (0, (ii : Int)), (0, b), (9, 0)]) (S' := [(2, 192)]) r_224_24 rfl rfl rfl ?_
      refine gx_gf (x := 193) 2 r_224_25 (rfl) (ty_192 hT) ⟨by decide, rfl, by decide, by decide⟩ rfl (fun _ => by omega) (pin_at hp (t := 193) rfl (by decide)) ?_
      refine gx_st (L' := [(2, 192), (0, (ii : Int)), (0, b), (9, 0)]) (S' := [(0, 8), (2, 193)]) r_224_28 rfl rfl rfl ?_
      refine gx_ia (n := 8) (x := (n : Int)) r_224_30 (rfl) (ty_193 hT) (rfl) ⟨rfl, by decide⟩ (hn) ?_
      refine gx_i0 (P := (n : Int) ≤ 0) r_224_31 (rfl) (fun h31 => ?_) (fun h31 => ?_)
      · refine gx_st (L' := [(2, 192), (0, (ii : Int)), (0, b), (9, 0)]) (S' := [(2, 192)]) r_224_37 rfl rfl rfl ?_
        refine gx_gf (x := 193) 2 r_224_38 (rfl) (ty_192 hT) ⟨by decide, rfl, by decide, by decide⟩ rfl (fun _ => by omega) (pin_at hp (t := 193) rfl (by decide)) ?_
        refine gx_st (L' := [(2, 192), (0, (ii : Int)), (0, b), (9, 0)]) (S' := [(0, 31), (2, 193)]) r_224_41 rfl rfl rfl ?_
        refine gx_st (L' := [(2, 192), (0, (ii : Int)), (0, b), (9, 0)]) (S' := [(0, 2), (0, 31), (2, 193)]) r_224_43 rfl rfl rfl ?_
        refine gx_st (L' := [(2, 192), (0, (ii : Int)), (0, b), (9, 0)]) (S' := [(0, (ii : Int)), (0, 2), (0, 31), (2, 193)]) r_224_44 rfl rfl rfl ?_
        refine gx_ar (L' := [(2, 192), (0, (ii : Int)), (0, b), (9, 0)]) (S' := [(0, 31), (2, 193)]) (t := 0) (e := w32 (2 * (ii : Int))) (z := 2 * (ii : Int)) r_224_45 rfl rfl rfl (w32_eq (by omega) (by omega) (by omega)) ?_
        refine gx_ar (L' := [(2, 192), (0, (ii : Int)), (0, b), (9, 0)]) (S' := [(2, 193)]) (t := 0) (e := w32 (31 + (2 * (ii : Int)))) (z := 2 * (ii : Int) + 31) r_224_46 rfl rfl rfl (w32_eq (by omega) (by omega) (by omega)) ?_
        refine gx_st (L' := [(2, 192), (0, (ii : Int)), (0, b), (9, 0)]) (S' := [(0, 1), (0, 2 * (ii : Int) + 31), (2, 193)]) r_224_47 rfl rfl rfl ?_
        refine gx_ar (L' := [(2, 192), (0, (ii : Int)), (0, b), (9, 0)]) (S' := [(2, 193)]) (t := 0) (e := w32 ((2 * (ii : Int) + 31) + 1)) (z := 2 * (ii : Int) + 32) r_224_48 rfl rfl rfl (w32_eq (by omega) (by omega) (by omega)) ?_
        refine gx_ia (n := 32 + 2 * ii) (x := (m 193 (32 + 2 * ii))) r_224_49 (rfl) (ty_193 hT) (by omega) ⟨rfl, by omega⟩ (rfl) ?_
        refine gx_st (L' := [(2, 192), (0, (ii : Int)), (0, b), (0, (m 193 (32 + 2 * ii)))]) (S' := []) r_224_50 rfl rfl rfl ?_
        refine gx_st (L' := [(2, 192), (0, (ii : Int)), (0, b), (0, (m 193 (32 + 2 * ii)))]) (S' := [(2, 192)]) r_224_51 rfl rfl rfl ?_
        refine gx_gf (x := 193) 2 r_224_52 (rfl) (ty_192 hT) ⟨by decide, rfl, by decide, by decide⟩ rfl (fun _ => by omega) (pin_at hp (t := 193) rfl (by decide)) ?_
        refine gx_st (L' := [(2, 192), (0, (ii : Int)), (0, b), (0, (m 193 (32 + 2 * ii)))]) (S' := [(0, 31), (2, 193)]) r_224_55 rfl rfl rfl ?_
        refine gx_st (L' := [(2, 192), (0, (ii : Int)), (0, b), (0, (m 193 (32 + 2 * ii)))]) (S' := [(0, 2), (0, 31), (2, 193)]) r_224_57 rfl rfl rfl ?_
        refine gx_st (L' := [(2, 192), (0, (ii : Int)), (0, b), (0, (m 193 (32 + 2 * ii)))]) (S' := [(0, (ii : Int)), (0, 2), (0, 31), (2, 193)]) r_224_58 rfl rfl rfl ?_
        refine gx_ar (L' := [(2, 192), (0, (ii : Int)), (0, b), (0, (m 193 (32 + 2 * ii)))]) (S' := [(0, 31), (2, 193)]) (t := 0) (e := w32 (2 * (ii : Int))) (z := 2 * (ii : Int)) r_224_59 rfl rfl rfl (w32_eq (by omega) (by omega) (by omega)) ?_
        refine gx_ar (L' := [(2, 192), (0, (ii : Int)), (0, b), (0, (m 193 (32 + 2 * ii)))]) (S' := [(2, 193)]) (t := 0) (e := w32 (31 + (2 * (ii : Int)))) (z := 2 * (ii : Int) + 31) r_224_60 rfl rfl rfl (w32_eq (by omega) (by omega) (by omega)) ?_
        refine gx_st (L' := [(2, 192), (0, (ii : Int)), (0, b), (0, (m 193 (32 + 2 * ii)))]) (S' := [(0, 1), (0, 2 * (ii : Int) + 31), (2, 193)]) r_224_61 rfl rfl rfl ?_
        refine gx_ar (L' := [(2, 192), (0, (ii : Int)), (0, b), (0, (m 193 (32 + 2 * ii)))]) (S' := [(2, 193)]) (t := 0) (e := w32 ((2 * (ii : Int) + 31) + 1)) (z := 2 * (ii : Int) + 32) r_224_62 rfl rfl rfl (w32_eq (by omega) (by omega) (by omega)) ?_
        refine gx_st (L' := [(2, 192), (0, (ii : Int)), (0, b), (0, (m 193 (32 + 2 * ii)))]) (S' := [(0, b), (0, 2 * (ii : Int) + 32), (2, 193)]) r_224_63 rfl rfl rfl ?_
        obtain ⟨m1, e_m1⟩ : ∃ z, z = nu_up m 193 (32 + 2 * ii) b := ⟨_, rfl⟩
        refine gx_is (n := 32 + 2 * ii) (x := b) r_224_64 (rfl) (by omega) (ty_193 hT) (by omega) ⟨rfl, by omega⟩ e_m1.symm ?_
        refine gx_st (L' := [(2, 192), (0, (ii : Int)), (0, b), (0, (m 193 (32 + 2 * ii)))]) (S' := [(0, (m 193 (32 + 2 * ii)))]) r_224_65 rfl rfl rfl ?_
        refine gx_rt r_224_66 rfl rfl ⟨_, rfl, fun z => absurd z (by omega), fun z z2 => absurd z2 (by omega), fun i e z z2 => ?_⟩
        rw [show i = ii by omega]
        exact ⟨rfl, fun k => by rw [e_m1]⟩
      · refine gx_st (L' := [(2, 192), (0, (ii : Int)), (0, b), (9, 0)]) (S' := [(0, (-5))]) r_224_34 rfl rfl rfl ?_
        exact gx_rt r_224_36 rfl rfl ⟨_, rfl, fun z => absurd z (by omega), fun z z2 => ⟨rfl, rfl⟩, fun i e z z2 => absurd z2 (by omega)⟩
    · refine gx_st (L' := [(2, 192), (0, a), (0, b), (9, 0)]) (S' := [(0, (-2))]) r_224_21 rfl rfl rfl ?_
      exact gx_rt r_224_23 rfl rfl ⟨_, rfl, fun z => ⟨rfl, rfl⟩, fun z => absurd z (by omega), fun i e z => absurd z (by omega)⟩
theorem y_88 (hT : TT T) (hm : Gam m) (hp : PinR m) (a : Int) : GX T 1 88 0 [(2, 192), (0, a), (9, 0)] [] m (RI (fun v m1 => (¬ (0 ≤ a ∧ a < 3) → v = -2 ∧ m1 = m) ∧ ∀ i : Nat, i < 3 → a = (i : Int) → v = 0 ∧ (∀ j : Nat, j < 69 → m1 194 (69 * i + j) = m 193 j) ∧ (∀ j : Nat, (j < 69 * i ∨ 69 * i + 69 ≤ j) → m1 194 j = m 194 j) ∧ ∀ k : Nat, m1 195 k = if k = i then 1 else m 195 k)) := by
  refine gx_st (L' := [(2, 192), (0, a), (9, 0)]) (S' := [(0, a)]) r_88_0 rfl rfl rfl ?_
  refine gx_st (L' := [(2, 192), (0, a), (9, 0)]) (S' := [(1, a)]) r_88_1 rfl rfl rfl ?_
  refine gx_st (L' := [(2, 192), (0, a), (9, 0)]) (S' := [(1, 0), (1, a)]) r_88_2 rfl rfl rfl ?_
  refine gx_st (L' := [(2, 192), (0, a), (9, 0)]) (S' := [(1, 2), (1, 0), (1, a)]) r_88_3 rfl rfl rfl ?_
  refine gx_ci (nx := 9) (S2 := []) (x_86 a 0 2) r_88_6 rfl rfl rfl rfl rfl rfl rfl (by decide) rfl (fun x6 n6 q6 => ?_)
  obtain rfl := q6.1.symm
  obtain rfl := q6.2.symm
  show GX T 1 88 9 [(2, 192), (0, a), (9, 0)] [(0, (if 0 ≤ a ∧ a ≤ 2 then 1 else 0))] m (RI (fun v m1 => (¬ (0 ≤ a ∧ a < 3) → v = -2 ∧ m1 = m) ∧ ∀ i : Nat, i < 3 → a = (i : Int) → v = 0 ∧ (∀ j : Nat, j < 69 → m1 194 (69 * i + j) = m 193 j) ∧ (∀ j : Nat, (j < 69 * i ∨ 69 * i + 69 ≤ j) → m1 194 j = m 194 j) ∧ ∀ k : Nat, m1 195 k = if k = i then 1 else m 195 k))
  refine gx_i0 (P := 0 ≤ a ∧ a ≤ 2) r_88_9 (b01_ne) (fun h9 => ?_) (fun h9 => ?_)
  · refine gx_st (L' := [(2, 192), (0, a), (9, 0)]) (S' := [(0, 0)]) r_88_15 rfl rfl rfl ?_
    refine gx_st (L' := [(2, 192), (0, a), (0, 0)]) (S' := []) r_88_16 rfl rfl rfl ?_
    obtain ⟨q, hqa⟩ : ∃ q : Nat, a = (q : Int) := ⟨a.toNat, by omega⟩
    have hq : q < 3 := by omega
    rw [hqa]
    refine img_l hT hq (m0 := m) hm (fun p1 g1 f1 I1 => ?_) 70 0 m (by omega) (by omega) hm Fr_rf ⟨fun i hi => absurd hi (Nat.not_lt_zero _), fun i _ => rfl⟩
    have pp : PinR p1 := PinR_fr f1 (by decide) hp
    refine gx_st (L' := [(2, 192), (0, (q : Int)), (0, 69)]) (S' := [(2, 192)]) r_88_46 rfl rfl rfl ?_
    refine gx_gf (x := 195) 2 r_88_47 (rfl) (ty_192 hT) ⟨by decide, rfl, by decide, by decide⟩ rfl (fun _ => by omega) (pin_at pp (t := 195) rfl (by decide)) ?_
    refine gx_st (L' := [(2, 192), (0, (q : Int)), (0, 69)]) (S' := [(0, (q : Int)), (2, 195)]) r_88_50 rfl rfl rfl ?_
    refine gx_st (L' := [(2, 192), (0, (q : Int)), (0, 69)]) (S' := [(0, 1), (0, (q : Int)), (2, 195)]) r_88_51 rfl rfl rfl ?_
    obtain ⟨m1, e_m1⟩ : ∃ z, z = nu_up p1 195 q 1 := ⟨_, rfl⟩
    refine gx_zs (n := q) (x := 1) r_88_52 (rfl) (by omega) (ty_195 hT) (by omega) ⟨rfl, by omega⟩ (by omega) e_m1.symm ?_
    refine gx_st (L' := [(2, 192), (0, (q : Int)), (0, 69)]) (S' := [(0, 0)]) r_88_53 rfl rfl rfl ?_
    refine gx_rt r_88_54 rfl rfl ⟨_, rfl, fun z => absurd z (by omega), fun i hi e => ?_⟩
    rw [show i = q by omega]
    refine ⟨rfl, fun j hj => by rw [e_m1, nu_no (by decide)]; exact I1.1 j hj, fun j hj => by rw [e_m1, nu_no (by decide)]; exact I1.2 j hj, fun k => ?_⟩
    rw [e_m1]
    by_cases e : k = q
    · rw [if_pos e, e, nu_at]
    · rw [if_neg e, nu_ne e]; exact f1 195 k rfl
  · refine gx_st (L' := [(2, 192), (0, a), (9, 0)]) (S' := [(0, (-2))]) r_88_12 rfl rfl rfl ?_
    exact gx_rt r_88_14 rfl rfl ⟨_, rfl, fun z => ⟨rfl, rfl⟩, fun i hi e => (by exfalso; omega)⟩
theorem y_89 (hT : TT T) (hm : Gam m) (hp : PinR m) (a : Int) : GX T 1 89 0 [(2, 192), (0, a), (9, 0)] [] m (RI (fun v m1 => (¬ (0 ≤ a ∧ a < 3) → v = -2 ∧ m1 = m) ∧ ∀ i : Nat, i < 3 → a = (i : Int) → (m 195 i = 0 → v = -6 ∧ m1 = m) ∧ (¬ m 195 i = 0 → v = 0 ∧ ∀ j : Nat, j < 69 → m1 193 j = m 194 (69 * i + j)))) := by
  refine gx_st (L' := [(2, 192), (0, a), (9, 0)]) (S' := [(0, a)]) r_89_0 rfl rfl rfl ?_
  refine gx_st (L' := [(2, 192), (0, a), (9, 0)]) (S' := [(1, a)]) r_89_1 rfl rfl rfl ?_
  refine gx_st (L' := [(2, 192), (0, a), (9, 0)]) (S' := [(1, 0), (1, a)]) r_89_2 rfl rfl rfl ?_
  refine gx_st (L' := [(2, 192), (0, a), (9, 0)]) (S' := [(1, 2), (1, 0), (1, a)]) r_89_3 rfl rfl rfl ?_
  refine gx_ci (nx := 9) (S2 := []) (x_86 a 0 2) r_89_6 rfl rfl rfl rfl rfl rfl rfl (by decide) rfl (fun x6 n6 q6 => ?_)
  obtain rfl := q6.1.symm
  obtain rfl := q6.2.symm
  show GX T 1 89 9 [(2, 192), (0, a), (9, 0)] [(0, (if 0 ≤ a ∧ a ≤ 2 then 1 else 0))] m (RI (fun v m1 => (¬ (0 ≤ a ∧ a < 3) → v = -2 ∧ m1 = m) ∧ ∀ i : Nat, i < 3 → a = (i : Int) → (m 195 i = 0 → v = -6 ∧ m1 = m) ∧ (¬ m 195 i = 0 → v = 0 ∧ ∀ j : Nat, j < 69 → m1 193 j = m 194 (69 * i + j))))
  refine gx_i0 (P := 0 ≤ a ∧ a ≤ 2) r_89_9 (b01_ne) (fun h9 => ?_) (fun h9 => ?_)
  · obtain ⟨q, hqa⟩ : ∃ q : Nat, a = (q : Int) := ⟨a.toNat, by omega⟩
    have hq : q < 3 := by omega
    rw [hqa]
    refine gx_st (L' := [(2, 192), (0, (q : Int)), (9, 0)]) (S' := [(2, 192)]) r_89_15 rfl rfl rfl ?_
    refine gx_gf (x := 195) 2 r_89_16 (rfl) (ty_192 hT) ⟨by decide, rfl, by decide, by decide⟩ rfl (fun _ => by omega) (pin_at hp (t := 195) rfl (by decide)) ?_
    refine gx_st (L' := [(2, 192), (0, (q : Int)), (9, 0)]) (S' := [(0, (q : Int)), (2, 195)]) r_89_19 rfl rfl rfl ?_
    refine gx_ba (n := q) (x := (m 195 q)) r_89_20 (rfl) (by omega) (ty_195 hT) (by omega) ⟨Or.inr rfl, by omega⟩ (rfl) ?_
    refine gx_i0 (P := ¬ (m 195 q) = 0) r_89_21 (rfl) (fun h21 => ?_) (fun h21 => ?_)
    · refine gx_st (L' := [(2, 192), (0, (q : Int)), (9, 0)]) (S' := [(0, 0)]) r_89_27 rfl rfl rfl ?_
      refine gx_st (L' := [(2, 192), (0, (q : Int)), (0, 0)]) (S' := []) r_89_28 rfl rfl rfl ?_
      refine bck_l hT hq (m0 := m) hm (fun p1 g1 f1 I1 => ?_) 70 0 m (by omega) (by omega) hm Fr_rf ⟨fun i hi => absurd hi (Nat.not_lt_zero _), fun i _ => rfl⟩
      have pp : PinR p1 := PinR_fr f1 (by decide) hp
      refine gx_st (L' := [(2, 192), (0, (q : Int)), (0, 69)]) (S' := [(0, 0)]) r_89_58 rfl rfl rfl ?_
      refine gx_rt r_89_59 rfl rfl ⟨_, rfl, fun z => absurd z (by omega), fun i hi e => ?_⟩
      rw [show i = q by omega]
      exact ⟨fun z => absurd z h21, fun z => ⟨rfl, fun j hj => I1.1 j hj⟩⟩
    · have h21 := Decidable.not_not.mp h21
      refine gx_st (L' := [(2, 192), (0, (q : Int)), (9, 0)]) (S' := [(0, (-6))]) r_89_24 rfl rfl rfl ?_
      refine gx_rt r_89_26 rfl rfl ⟨_, rfl, fun z => absurd z (by omega), fun i hi e => ?_⟩
      rw [show i = q by omega]
      exact ⟨fun z => ⟨rfl, rfl⟩, fun z => absurd h21 z⟩
  · refine gx_st (L' := [(2, 192), (0, a), (9, 0)]) (S' := [(0, (-2))]) r_89_12 rfl rfl rfl ?_
    exact gx_rt r_89_14 rfl rfl ⟨_, rfl, fun z => ⟨rfl, rfl⟩, fun i hi e => (by exfalso; omega)⟩
end ACTSR
