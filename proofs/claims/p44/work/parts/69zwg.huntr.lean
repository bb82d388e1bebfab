/-! the hunt of the reference -/
theorem r_179_0 : row 179 0 = some (.aload_n 0, 1, 0, 0, 0, 0) := rfl
theorem r_179_1 : row 179 1 = some (.iload_n 1, 2, 0, 0, 0, 0) := rfl
theorem r_179_2 : row 179 2 = some (.iconst 3, 3, 3, 0, 0, 0) := rfl
theorem r_179_3 : row 179 3 = some (.invokevirtual 263, 6, 131, 2, 0, 7110) := rfl
theorem r_179_6 : row 179 6 = some (.ifCond .le 5, 9, 11, 0, 0, 0) := rfl
theorem r_179_9 : row 179 9 = some (.iconst 1, 10, 1, 0, 0, 0) := rfl
theorem r_179_10 : row 179 10 = some (.ireturn, 11, 0, 0, 0, 0) := rfl
theorem r_179_11 : row 179 11 = some (.iconst 0, 12, 0, 0, 0, 0) := rfl
theorem r_179_12 : row 179 12 = some (.istore_n 3, 13, 0, 0, 0, 0) := rfl
theorem r_179_13 : row 179 13 = some (.iload_n 3, 14, 0, 0, 0, 0) := rfl
theorem r_179_14 : row 179 14 = some (.aload_n 0, 15, 0, 0, 0, 0) := rfl
theorem r_179_15 : row 179 15 = some (.getfield 9, 18, 10, 1, 2, 6002) := rfl
theorem r_179_18 : row 179 18 = some (.bipush 6, 20, 6, 0, 0, 0) := rfl
theorem r_179_20 : row 179 20 = some (.iaload, 21, 0, 0, 0, 0) := rfl
theorem r_179_21 : row 179 21 = some (.if_icmp .ge 49, 24, 70, 0, 0, 0) := rfl
theorem r_179_24 : row 179 24 = some (.iload_n 3, 25, 0, 0, 0, 0) := rfl
theorem r_179_25 : row 179 25 = some (.aload_n 0, 26, 0, 0, 0, 0) := rfl
theorem r_179_26 : row 179 26 = some (.getfield 266, 29, 10, 24, 0, 6025) := rfl
theorem r_179_29 : row 179 29 = some (.if_icmp .eq 35, 32, 64, 0, 0, 0) := rfl
theorem r_179_32 : row 179 32 = some (.aload_n 0, 33, 0, 0, 0, 0) := rfl
theorem r_179_33 : row 179 33 = some (.iload_n 1, 34, 0, 0, 0, 0) := rfl
theorem r_179_34 : row 179 34 = some (.iconst 4, 35, 4, 0, 0, 0) := rfl
theorem r_179_35 : row 179 35 = some (.invokevirtual 263, 38, 131, 2, 0, 7110) := rfl
theorem r_179_38 : row 179 38 = some (.iload_n 3, 39, 0, 0, 0, 0) := rfl
theorem r_179_39 : row 179 39 = some (.invokestatic 272, 42, 87, 2, 0, 7122) := rfl
theorem r_179_42 : row 179 42 = some (.ifCond .ne 22, 45, 64, 0, 0, 0) := rfl
theorem r_179_45 : row 179 45 = some (.aload_n 0, 46, 0, 0, 0, 0) := rfl
theorem r_179_46 : row 179 46 = some (.getfield 9, 49, 10, 1, 2, 6002) := rfl
theorem r_179_49 : row 179 49 = some (.bipush 41, 51, 41, 0, 0, 0) := rfl
theorem r_179_51 : row 179 51 = some (.iconst 2, 52, 2, 0, 0, 0) := rfl
theorem r_179_52 : row 179 52 = some (.iload_n 3, 53, 0, 0, 0, 0) := rfl
theorem r_179_53 : row 179 53 = some (.imul, 54, 0, 0, 0, 0) := rfl
theorem r_179_54 : row 179 54 = some (.iadd, 55, 0, 0, 0, 0) := rfl
theorem r_179_55 : row 179 55 = some (.iconst 1, 56, 1, 0, 0, 0) := rfl
theorem r_179_56 : row 179 56 = some (.iadd, 57, 0, 0, 0, 0) := rfl
theorem r_179_57 : row 179 57 = some (.iaload, 58, 0, 0, 0, 0) := rfl
theorem r_179_58 : row 179 58 = some (.iload_n 2, 59, 0, 0, 0, 0) := rfl
theorem r_179_59 : row 179 59 = some (.if_icmp .ge 5, 62, 64, 0, 0, 0) := rfl
theorem r_179_62 : row 179 62 = some (.iconst 1, 63, 1, 0, 0, 0) := rfl
theorem r_179_63 : row 179 63 = some (.ireturn, 64, 0, 0, 0, 0) := rfl
theorem r_179_64 : row 179 64 = some (.iinc 3 1, 67, 0, 0, 0, 0) := rfl
theorem r_179_67 : row 179 67 = some (.goto (-54), 70, 13, 0, 0, 0) := rfl
theorem r_179_70 : row 179 70 = some (.iconst 0, 71, 0, 0, 0, 0) := rfl
theorem r_179_71 : row 179 71 = some (.ireturn, 72, 0, 0, 0, 0) := rfl
section HUNTR
variable {T : List Kd} {m : Mm}
/-- the first act from k on that can be, or none -/
def NxtA (w : Wd) (D : Nat → Nat → Int) (np h : Nat) (s : Wd) (k : Nat) (v : Int) : Prop := (v = -1 ∧ ∀ i : Nat, k ≤ i → i < 10 + np → ¬ canF w D (h : Int) (i : Int) s = true) ∨ ∃ a : Nat, k ≤ a ∧ a < 10 + np ∧ canF w D (h : Int) (a : Int) s = true ∧ v = (a : Int) ∧ ∀ i : Nat, k ≤ i → i < a → ¬ canF w D (h : Int) (i : Int) s = true
theorem nxt_no {w : Wd} {D : Nat → Nat → Int} {np h : Nat} {s : Wd} {k : Nat} {v : Int} (n : NxtA w D np h s (k + 1) v) (c : ¬ canF w D (h : Int) (k : Int) s = true) : NxtA w D np h s k v := by
  rcases n with ⟨n1, n2⟩ | ⟨a, a1, a2, a3, a4, a5⟩
  · refine Or.inl ⟨n1, fun i i1 i2 => ?_⟩
    by_cases e : i = k
    · rw [e]; exact c
    · exact n2 i (by omega) i2
  · refine Or.inr ⟨a, by omega, a2, a3, a4, fun i i1 i2 => ?_⟩
    by_cases e : i = k
    · rw [e]; exact c
    · exact a5 i (by omega) i2
theorem na_l (hT : TT T) (hp : PinR m) {w : Wd} (hB : WB w) {nt : Int} (hE : EW nt m w) {D : Nat → Nat → Int} (eD : ∀ a b : Nat, a < 7 → b < 7 → m 199 (7 * a + b) = D a b) {h : Nat} (hh : h < 13) {s : Wd} (hr0 : RowR nt m h s) (hS : SBw w s) {np : Nat} (hnp : w 0 = (np : Int)) : ∀ (N k : Nat) (x : Int), 10 + np - k < N → k ≤ 10 + np → 1 ≤ k → GX T 3 178 4 [(2, 192), (0, (h : Int)), (0, x), (0, (k : Int))] [] m (RI (fun v m1 => NxtA w D np h s k v ∧ m1 = m)) := by
  have b0 := hB.1
  intro N
  induction N with
  | zero => intro k x hN; exact absurd hN (Nat.not_lt_zero _)
  | succ N ih =>
    intro k x hN hk hk1
    refine gx_st (L' := [(2, 192), (0, (h : Int)), (0, x), (0, (k : Int))]) (S' := [(0, (k : Int))]) r_178_4 rfl rfl rfl ?_
    refine gx_st (L' := [(2, 192), (0, (h : Int)), (0, x), (0, (k : Int))]) (S' := [(0, 10), (0, (k : Int))]) r_178_5 rfl rfl rfl ?_
    refine gx_st (L' := [(2, 192), (0, (h : Int)), (0, x), (0, (k : Int))]) (S' := [(2, 192), (0, 10), (0, (k : Int))]) r_178_7 rfl rfl rfl ?_
    refine gx_gf (x := 193) 2 r_178_8 (rfl) (ty_192 hT) ⟨by decide, rfl, by decide, by decide⟩ rfl (fun _ => by omega) (pin_at hp (t := 193) rfl (by decide)) ?_
    refine gx_st (L' := [(2, 192), (0, (h : Int)), (0, x), (0, (k : Int))]) (S' := [(0, 0), (2, 193), (0, 10), (0, (k : Int))]) r_178_11 rfl rfl rfl ?_
    refine gx_ia (n := 0) (x := (np : Int)) r_178_12 (rfl) (ty_193 hT) (rfl) ⟨rfl, by decide⟩ ((hE.1 0 (by decide) (by decide) (by decide)).trans hnp) ?_
    refine gx_ar (L' := [(2, 192), (0, (h : Int)), (0, x), (0, (k : Int))]) (S' := [(0, (k : Int))]) (t := 0) (e := w32 (10 + (np : Int))) (z := (np : Int) + 10) r_178_13 rfl rfl rfl (w32_eq (by omega) (by omega) (by omega)) ?_
    refine gx_ic (P := (np : Int) + 10 ≤ (k : Int)) r_178_14 (rfl) (fun h14 => ?_) (fun h14 => ?_)
    · refine gx_st (L' := [(2, 192), (0, (h : Int)), (0, x), (0, (k : Int))]) (S' := [(0, (-1))]) r_178_45 rfl rfl rfl ?_
      exact gx_rt r_178_46 rfl rfl ⟨_, rfl, Or.inl ⟨rfl, fun i i1 i2 => by omega⟩, rfl⟩
    · refine gx_st (L' := [(2, 192), (0, (h : Int)), (0, x), (0, (k : Int))]) (S' := [(0, (k : Int))]) r_178_17 rfl rfl rfl ?_
      refine gx_st (L' := [(2, 192), (0, (h : Int)), (0, x), (0, (k : Int))]) (S' := [(0, 2), (0, (k : Int))]) r_178_18 rfl rfl rfl ?_
      refine gx_ic (P := (k : Int) ≤ 2) r_178_19 (rfl) (fun h19 => ?_) (fun h19 => ?_)
      · refine gx_st (L' := [(2, 192), (0, (h : Int)), (0, x), (0, (k : Int))]) (S' := [(2, 192)]) r_178_28 rfl rfl rfl ?_
        refine gx_st (L' := [(2, 192), (0, (h : Int)), (0, x), (0, (k : Int))]) (S' := [(0, (h : Int)), (2, 192)]) r_178_29 rfl rfl rfl ?_
        refine gx_st (L' := [(2, 192), (0, (h : Int)), (0, x), (0, (k : Int))]) (S' := [(0, (k : Int)), (0, (h : Int)), (2, 192)]) r_178_30 rfl rfl rfl ?_
        refine gx_ci (nx := 34) (S2 := []) (y_137 hT hp hB hE eD (h := h) hh hr0 hS (a := (k : Int)) (by omega)) r_178_31 rfl rfl rfl rfl rfl (rcv_v rfl (ty_192 hT) (by decide) rfl (by decide)) rfl (by decide) rfl (fun x31 n31 q31 => ?_)
        obtain ⟨e_x31, z_x31⟩ := q31
        obtain rfl := z_x31.symm
        rw [e_x31]
        show GX T 3 178 34 [(2, 192), (0, (h : Int)), (0, x), (0, (k : Int))] [(0, (if canF w D (h : Int) (k : Int) s = true then 1 else 0))] m (RI (fun v m1 => NxtA w D np h s k v ∧ m1 = m))
        refine gx_i0 (P := ¬ (canF w D (h : Int) (k : Int) s = true)) r_178_34 (b01_eq) (fun h34 => ?_) (fun h34 => ?_)
        · refine gx_li (z := (k : Int) + 1) (L' := [(2, 192), (0, (h : Int)), (0, x), (0, (k : Int) + 1)]) r_178_39 rfl (w32_eq (by omega) (by omega) (by omega)) rfl ?_
          refine gx_st (L' := [(2, 192), (0, (h : Int)), (0, x), (0, (k : Int) + 1)]) (S' := []) r_178_42 rfl rfl rfl ?_
          rw [show (k : Int) + 1 = ((k + 1 : Nat) : Int) from rfl]
          exact gx_imp (ih (k + 1) x (by omega) (by omega) (by omega)) (fun v m1 ⟨y, e, n, g⟩ => ⟨y, e, nxt_no n (by first | exact h34 | exact can_no (by omega) (by omega) (by omega)), g⟩)
        · have h34 := Decidable.not_not.mp h34
          refine gx_st (L' := [(2, 192), (0, (h : Int)), (0, x), (0, (k : Int))]) (S' := [(0, (k : Int))]) r_178_37 rfl rfl rfl ?_
          exact gx_rt r_178_38 rfl rfl ⟨_, rfl, Or.inr ⟨k, Nat.le_refl k, by omega, h34, rfl, fun i i1 i2 => absurd i2 (by omega)⟩, rfl⟩
      · refine gx_st (L' := [(2, 192), (0, (h : Int)), (0, x), (0, (k : Int))]) (S' := [(0, (k : Int))]) r_178_22 rfl rfl rfl ?_
        refine gx_st (L' := [(2, 192), (0, (h : Int)), (0, x), (0, (k : Int))]) (S' := [(0, 10), (0, (k : Int))]) r_178_23 rfl rfl rfl ?_
        refine gx_ic (P := (k : Int) < 10) r_178_25 (rfl) (fun h25 => ?_) (fun h25 => ?_)
        · refine gx_li (z := (k : Int) + 1) (L' := [(2, 192), (0, (h : Int)), (0, x), (0, (k : Int) + 1)]) r_178_39 rfl (w32_eq (by omega) (by omega) (by omega)) rfl ?_
          refine gx_st (L' := [(2, 192), (0, (h : Int)), (0, x), (0, (k : Int) + 1)]) (S' := []) r_178_42 rfl rfl rfl ?_
          rw [show (k : Int) + 1 = ((k + 1 : Nat) : Int) from rfl]
          exact gx_imp (ih (k + 1) x (by omega) (by omega) (by omega)) (fun v m1 ⟨y, e, n, g⟩ => ⟨y, e, nxt_no n (by first | exact h34 | exact can_no (by omega) (by omega) (by omega)), g⟩)
        · refine gx_st (L' := [(2, 192), (0, (h : Int)), (0, x), (0, (k : Int))]) (S' := [(2, 192)]) r_178_28 rfl rfl rfl ?_
          refine gx_st (L' := [(2, 192), (0, (h : Int)), (0, x), (0, (k : Int))]) (S' := [(0, (h : Int)), (2, 192)]) r_178_29 rfl rfl rfl ?_
          refine gx_st (L' := [(2, 192), (0, (h : Int)), (0, x), (0, (k : Int))]) (S' := [(0, (k : Int)), (0, (h : Int)), (2, 192)]) r_178_30 rfl rfl rfl ?_
          refine gx_ci (nx := 34) (S2 := []) (y_137 hT hp hB hE eD (h := h) hh hr0 hS (a := (k : Int)) (by omega)) r_178_31 rfl rfl rfl rfl rfl (rcv_v rfl (ty_192 hT) (by decide) rfl (by decide)) rfl (by decide) rfl (fun x31 n31 q31 => ?_)
          obtain ⟨e_x31, z_x31⟩ := q31
          obtain rfl := z_x31.symm
          rw [e_x31]
          show GX T 3 178 34 [(2, 192), (0, (h : Int)), (0, x), (0, (k : Int))] [(0, (if canF w D (h : Int) (k : Int) s = true then 1 else 0))] m (RI (fun v m1 => NxtA w D np h s k v ∧ m1 = m))
          refine gx_i0 (P := ¬ (canF w D (h : Int) (k : Int) s = true)) r_178_34 (b01_eq) (fun h34 => ?_) (fun h34 => ?_)
          · refine gx_li (z := (k : Int) + 1) (L' := [(2, 192), (0, (h : Int)), (0, x), (0, (k : Int) + 1)]) r_178_39 rfl (w32_eq (by omega) (by omega) (by omega)) rfl ?_
            refine gx_st (L' := [(2, 192), (0, (h : Int)), (0, x), (0, (k : Int) + 1)]) (S' := []) r_178_42 rfl rfl rfl ?_
            rw [show (k : Int) + 1 = ((k + 1 : Nat) : Int) from rfl]
            exact gx_imp (ih (k + 1) x (by omega) (by omega) (by omega)) (fun v m1 ⟨y, e, n, g⟩ => ⟨y, e, nxt_no n (by first | exact h34 | exact can_no (by omega) (by omega) (by omega)), g⟩)
          · have h34 := Decidable.not_not.mp h34
            refine gx_st (L' := [(2, 192), (0, (h : Int)), (0, x), (0, (k : Int))]) (S' := [(0, (k : Int))]) r_178_37 rfl rfl rfl ?_
            exact gx_rt r_178_38 rfl rfl ⟨_, rfl, Or.inr ⟨k, Nat.le_refl k, by omega, h34, rfl, fun i i1 i2 => absurd i2 (by omega)⟩, rfl⟩
theorem y_178 (hT : TT T) (hp : PinR m) {w : Wd} (hB : WB w) {nt : Int} (hE : EW nt m w) {D : Nat → Nat → Int} (eD : ∀ a b : Nat, a < 7 → b < 7 → m 199 (7 * a + b) = D a b) {h : Nat} (hh : h < 13) {s : Wd} (hr0 : RowR nt m h s) (hS : SBw w s) {np : Nat} (hnp : w 0 = (np : Int)) {t k : Nat} (hk : t + 1 = k) (hk2 : k ≤ 10 + np) : GX T 3 178 0 [(2, 192), (0, (h : Int)), (0, (t : Int)), (9, 0)] [] m (RI (fun v m1 => NxtA w D np h s k v ∧ m1 = m)) := by
  have b0 := hB.1
  refine gx_st (L' := [(2, 192), (0, (h : Int)), (0, (t : Int)), (9, 0)]) (S' := [(0, (t : Int))]) r_178_0 rfl rfl rfl ?_
  refine gx_st (L' := [(2, 192), (0, (h : Int)), (0, (t : Int)), (9, 0)]) (S' := [(0, 1), (0, (t : Int))]) r_178_1 rfl rfl rfl ?_
  refine gx_ar (L' := [(2, 192), (0, (h : Int)), (0, (t : Int)), (9, 0)]) (S' := []) (t := 0) (e := w32 ((t : Int) + 1)) (z := (k : Int)) r_178_2 rfl rfl rfl (w32_eq (by omega) (by omega) (by omega)) ?_
  refine gx_st (L' := [(2, 192), (0, (h : Int)), (0, (t : Int)), (0, (k : Int))]) (S' := []) r_178_3 rfl rfl rfl ?_
  exact na_l hT hp hB hE eD hh hr0 hS hnp (10 + np + 1) k (t : Int) (by omega) hk2 (by omega)
theorem hw_l (hT : TT T) (hp : PinR m) {w : Wd} (hB : WB w) {nt : Int} (hE : EW nt m w) {h L : Nat} (hh : h < 13) (hL : L < 12) {s : Wd} (hr0 : RowR nt m h s) (hb : ¬ s 1 = -1) {c : Nat} (hc : w 6 = (c : Int)) (hd : ¬ (h : Int) < s 3) : ∀ (N k : Nat), c - k < N → k ≤ c → (∀ v : Nat, v < k → ¬ (¬ bitF (s 4) v = true ∧ w (42 + 2 * v) < (L : Int))) → GX T 1 179 13 [(2, 192), (0, (h : Int)), (0, (L : Int)), (0, (k : Int))] [] m (RI (fun v m1 => (v = 0 → ¬ ((h : Int) < s 3 ∨ (∃ v : Nat, (v : Int) < w 6 ∧ ¬ bitF (s 4) v = true ∧ w (42 + 2 * v) < (L : Int)))) ∧ m1 = m)) := by
  have b6 := hB.2.2.2.1
  intro N
  induction N with
  | zero => intro k hN; exact absurd hN (Nat.not_lt_zero _)
  | succ N ih =>
    intro k hN hk hI
    refine gx_st (L' := [(2, 192), (0, (h : Int)), (0, (L : Int)), (0, (k : Int))]) (S' := [(0, (k : Int))]) r_179_13 rfl rfl rfl ?_
    refine gx_st (L' := [(2, 192), (0, (h : Int)), (0, (L : Int)), (0, (k : Int))]) (S' := [(2, 192), (0, (k : Int))]) r_179_14 rfl rfl rfl ?_
    refine gx_gf (x := 193) 2 r_179_15 (rfl) (ty_192 hT) ⟨by decide, rfl, by decide, by decide⟩ rfl (fun _ => by omega) (pin_at hp (t := 193) rfl (by decide)) ?_
    refine gx_st (L' := [(2, 192), (0, (h : Int)), (0, (L : Int)), (0, (k : Int))]) (S' := [(0, 6), (2, 193), (0, (k : Int))]) r_179_18 rfl rfl rfl ?_
    refine gx_ia (n := 6) (x := (c : Int)) r_179_20 (rfl) (ty_193 hT) (rfl) ⟨rfl, by decide⟩ ((hE.1 6 (by decide) (by decide) (by decide)).trans hc) ?_
    refine gx_ic (P := (c : Int) ≤ (k : Int)) r_179_21 (rfl) (fun h21 => ?_) (fun h21 => ?_)
    · refine gx_st (L' := [(2, 192), (0, (h : Int)), (0, (L : Int)), (0, (k : Int))]) (S' := [(0, 0)]) r_179_70 rfl rfl rfl ?_
      have hkc : k = c := by omega
      subst hkc
      exact gx_rb r_179_71 rfl (Or.inl rfl) ⟨_, rfl, fun _ z => by
        rcases z with z | ⟨v, z1, z2⟩
        · exact hd z
        · exact hI v (by omega) z2, rfl⟩
    · refine gx_st (L' := [(2, 192), (0, (h : Int)), (0, (L : Int)), (0, (k : Int))]) (S' := [(0, (k : Int))]) r_179_24 rfl rfl rfl ?_
      refine gx_st (L' := [(2, 192), (0, (h : Int)), (0, (L : Int)), (0, (k : Int))]) (S' := [(2, 192), (0, (k : Int))]) r_179_25 rfl rfl rfl ?_
      refine gx_gf (x := (m 192 24)) 0 r_179_26 (rfl) (ty_192 hT) ⟨by decide, rfl, by decide, by decide⟩ rfl (fun z => absurd z (by decide)) (rfl) ?_
      refine gx_ic (P := (k : Int) = (m 192 24)) r_179_29 (rfl) (fun h29 => ?_) (fun h29 => ?_)
      · refine gx_li (z := (k : Int) + 1) (L' := [(2, 192), (0, (h : Int)), (0, (L : Int)), (0, (k : Int) + 1)]) r_179_64 rfl (w32_eq (by omega) (by omega) (by omega)) rfl ?_
        refine gx_st (L' := [(2, 192), (0, (h : Int)), (0, (L : Int)), (0, (k : Int) + 1)]) (S' := []) r_179_67 rfl rfl rfl ?_
        rw [show (k : Int) + 1 = ((k + 1 : Nat) : Int) from rfl]
        refine ih (k + 1) (by omega) (by omega) (fun v hv => ?_)
        by_cases e : v = k
        · rw [e]
          rintro ⟨z1, z2⟩
          obtain ⟨v1, v2, v3⟩ := hE.2.2.2.2.2.2.2.1 k (by omega)
          first
            | (have := v3 (by omega); omega)
            | exact z1 (bitF_i.mpr ((by rw [iand_01] at h42; exact Classical.byContradiction h42)))
            | (rw [← v2 (by omega)] at z2; omega)
        · exact hI v (by omega)
      · refine gx_st (L' := [(2, 192), (0, (h : Int)), (0, (L : Int)), (0, (k : Int))]) (S' := [(2, 192)]) r_179_32 rfl rfl rfl ?_
        refine gx_st (L' := [(2, 192), (0, (h : Int)), (0, (L : Int)), (0, (k : Int))]) (S' := [(0, (h : Int)), (2, 192)]) r_179_33 rfl rfl rfl ?_
        refine gx_st (L' := [(2, 192), (0, (h : Int)), (0, (L : Int)), (0, (k : Int))]) (S' := [(0, 4), (0, (h : Int)), (2, 192)]) r_179_34 rfl rfl rfl ?_
        refine gx_ci (nx := 38) (S2 := []) (l_131 hT hp (h := h) (k := 4) (i := 16 * h + 4) (by omega) (by omega)) r_179_35 rfl rfl rfl rfl rfl (rcv_v rfl (ty_192 hT) (by decide) rfl (by decide)) rfl (by decide) rfl (fun x35 n35 q35 => ?_)
        obtain ⟨e_x35, z_x35⟩ := q35
        obtain rfl := z_x35.symm
        rw [e_x35, hr0.1.1 4 (by decide) (by decide)]
        show GX T 1 179 38 [(2, 192), (0, (h : Int)), (0, (L : Int)), (0, (k : Int))] [(0, (s 4))] m (RI (fun v m1 => (v = 0 → ¬ ((h : Int) < s 3 ∨ (∃ v : Nat, (v : Int) < w 6 ∧ ¬ bitF (s 4) v = true ∧ w (42 + 2 * v) < (L : Int)))) ∧ m1 = m))
        refine gx_st (L' := [(2, 192), (0, (h : Int)), (0, (L : Int)), (0, (k : Int))]) (S' := [(0, (k : Int)), (0, (s 4))]) r_179_38 rfl rfl rfl ?_
        refine gx_ci (nx := 42) (S2 := []) (x_87 (s 4) (k : Int)) r_179_39 rfl rfl rfl rfl rfl rfl rfl (by decide) rfl (fun x39 n39 q39 => ?_)
        obtain rfl := q39.1.symm
        obtain rfl := q39.2.symm
        show GX T 1 179 42 [(2, 192), (0, (h : Int)), (0, (L : Int)), (0, (k : Int))] [(0, (iand (ishr (s 4) (k : Int)) 1))] m (RI (fun v m1 => (v = 0 → ¬ ((h : Int) < s 3 ∨ (∃ v : Nat, (v : Int) < w 6 ∧ ¬ bitF (s 4) v = true ∧ w (42 + 2 * v) < (L : Int)))) ∧ m1 = m))
        refine gx_i0 (P := ¬ (iand (ishr (s 4) (k : Int)) 1) = 0) r_179_42 (rfl) (fun h42 => ?_) (fun h42 => ?_)
        · refine gx_li (z := (k : Int) + 1) (L' := [(2, 192), (0, (h : Int)), (0, (L : Int)), (0, (k : Int) + 1)]) r_179_64 rfl (w32_eq (by omega) (by omega) (by omega)) rfl ?_
          refine gx_st (L' := [(2, 192), (0, (h : Int)), (0, (L : Int)), (0, (k : Int) + 1)]) (S' := []) r_179_67 rfl rfl rfl ?_
          rw [show (k : Int) + 1 = ((k + 1 : Nat) : Int) from rfl]
          refine ih (k + 1) (by omega) (by omega) (fun v hv => ?_)
          by_cases e : v = k
          · rw [e]
            rintro ⟨z1, z2⟩
            obtain ⟨v1, v2, v3⟩ := hE.2.2.2.2.2.2.2.1 k (by omega)
            first
              | (have := v3 (by omega); omega)
              | exact z1 (bitF_i.mpr ((by rw [iand_01] at h42; exact Classical.byContradiction h42)))
              | (rw [← v2 (by omega)] at z2; omega)
          · exact hI v (by omega)
        · have h42 := Decidable.not_not.mp h42
          refine gx_st (L' := [(2, 192), (0, (h : Int)), (0, (L : Int)), (0, (k : Int))]) (S' := [(2, 192)]) r_179_45 rfl rfl rfl ?_
          refine gx_gf (x := 193) 2 r_179_46 (rfl) (ty_192 hT) ⟨by decide, rfl, by decide, by decide⟩ rfl (fun _ => by omega) (pin_at hp (t := 193) rfl (by decide)) ?_
          refine gx_st (L' := [(2, 192), (0, (h : Int)), (0, (L : Int)), (0, (k : Int))]) (S' := [(0, 41), (2, 193)]) r_179_49 rfl rfl rfl ?_
          refine gx_st (L' := [(2, 192), (0, (h : Int)), (0, (L : Int)), (0, (k : Int))]) (S' := [(0, 2), (0, 41), (2, 193)]) r_179_51 rfl rfl rfl ?_
          refine gx_st (L' := [(2, 192), (0, (h : Int)), (0, (L : Int)), (0, (k : Int))]) (S' := [(0, (k : Int)), (0, 2), (0, 41), (2, 193)]) r_179_52 rfl rfl rfl ?_
          refine gx_ar (L' := [(2, 192), (0, (h : Int)), (0, (L : Int)), (0, (k : Int))]) (S' := [(0, 41), (2, 193)]) (t := 0) (e := w32 (2 * (k : Int))) (z := 2 * (k : Int)) r_179_53 rfl rfl rfl (w32_eq (by omega) (by omega) (by omega)) ?_
          refine gx_ar (L' := [(2, 192), (0, (h : Int)), (0, (L : Int)), (0, (k : Int))]) (S' := [(2, 193)]) (t := 0) (e := w32 (41 + (2 * (k : Int)))) (z := 2 * (k : Int) + 41) r_179_54 rfl rfl rfl (w32_eq (by omega) (by omega) (by omega)) ?_
          refine gx_st (L' := [(2, 192), (0, (h : Int)), (0, (L : Int)), (0, (k : Int))]) (S' := [(0, 1), (0, 2 * (k : Int) + 41), (2, 193)]) r_179_55 rfl rfl rfl ?_
          refine gx_ar (L' := [(2, 192), (0, (h : Int)), (0, (L : Int)), (0, (k : Int))]) (S' := [(2, 193)]) (t := 0) (e := w32 ((2 * (k : Int) + 41) + 1)) (z := 2 * (k : Int) + 42) r_179_56 rfl rfl rfl (w32_eq (by omega) (by omega) (by omega)) ?_
          refine gx_ia (n := 2 * k + 42) (x := (m 193 (42 + 2 * k))) r_179_57 (rfl) (ty_193 hT) (by omega) ⟨rfl, by omega⟩ ((congrArg (m 193) (by omega))) ?_
          refine gx_st (L' := [(2, 192), (0, (h : Int)), (0, (L : Int)), (0, (k : Int))]) (S' := [(0, (L : Int)), (0, (m 193 (42 + 2 * k)))]) r_179_58 rfl rfl rfl ?_
          refine gx_ic (P := (L : Int) ≤ (m 193 (42 + 2 * k))) r_179_59 (rfl) (fun h59 => ?_) (fun h59 => ?_)
          · refine gx_li (z := (k : Int) + 1) (L' := [(2, 192), (0, (h : Int)), (0, (L : Int)), (0, (k : Int) + 1)]) r_179_64 rfl (w32_eq (by omega) (by omega) (by omega)) rfl ?_
            refine gx_st (L' := [(2, 192), (0, (h : Int)), (0, (L : Int)), (0, (k : Int) + 1)]) (S' := []) r_179_67 rfl rfl rfl ?_
            rw [show (k : Int) + 1 = ((k + 1 : Nat) : Int) from rfl]
            refine ih (k + 1) (by omega) (by omega) (fun v hv => ?_)
            by_cases e : v = k
            · rw [e]
              rintro ⟨z1, z2⟩
              obtain ⟨v1, v2, v3⟩ := hE.2.2.2.2.2.2.2.1 k (by omega)
              first
                | (have := v3 (by omega); omega)
                | exact z1 (bitF_i.mpr ((by rw [iand_01] at h42; exact Classical.byContradiction h42)))
                | (rw [← v2 (by omega)] at z2; omega)
            · exact hI v (by omega)
          · refine gx_st (L' := [(2, 192), (0, (h : Int)), (0, (L : Int)), (0, (k : Int))]) (S' := [(0, 1)]) r_179_62 rfl rfl rfl ?_
            exact gx_rb r_179_63 rfl (Or.inr rfl) ⟨_, rfl, fun z => absurd z (by decide), rfl⟩
theorem y_179 (hT : TT T) (hp : PinR m) {w : Wd} (hB : WB w) {nt : Int} (hE : EW nt m w) {h L : Nat} (hh : h < 13) (hL : L < 12) {s : Wd} (hr0 : RowR nt m h s) (hb : ¬ s 1 = -1) : GX T 1 179 0 [(2, 192), (0, (h : Int)), (0, (L : Int)), (9, 0)] [] m (RI (fun v m1 => (v = 0 → ¬ ((h : Int) < s 3 ∨ (∃ v : Nat, (v : Int) < w 6 ∧ ¬ bitF (s 4) v = true ∧ w (42 + 2 * v) < (L : Int)))) ∧ m1 = m)) := by
  refine gx_st (L' := [(2, 192), (0, (h : Int)), (0, (L : Int)), (9, 0)]) (S' := [(2, 192)]) r_179_0 rfl rfl rfl ?_
  refine gx_st (L' := [(2, 192), (0, (h : Int)), (0, (L : Int)), (9, 0)]) (S' := [(0, (h : Int)), (2, 192)]) r_179_1 rfl rfl rfl ?_
  refine gx_st (L' := [(2, 192), (0, (h : Int)), (0, (L : Int)), (9, 0)]) (S' := [(0, 3), (0, (h : Int)), (2, 192)]) r_179_2 rfl rfl rfl ?_
  refine gx_ci (nx := 6) (S2 := []) (l_131 hT hp (h := h) (k := 3) (i := 16 * h + 3) (by omega) (by omega)) r_179_3 rfl rfl rfl rfl rfl (rcv_v rfl (ty_192 hT) (by decide) rfl (by decide)) rfl (by decide) rfl (fun x3 n3 q3 => ?_)
  obtain ⟨e_x3, z_x3⟩ := q3
  obtain rfl := z_x3.symm
  rw [e_x3, hr0.2 hb]
  show GX T 1 179 6 [(2, 192), (0, (h : Int)), (0, (L : Int)), (9, 0)] [(0, (max 0 (s 3 - (h : Int))))] m (RI (fun v m1 => (v = 0 → ¬ ((h : Int) < s 3 ∨ (∃ v : Nat, (v : Int) < w 6 ∧ ¬ bitF (s 4) v = true ∧ w (42 + 2 * v) < (L : Int)))) ∧ m1 = m))
  refine gx_i0 (P := (max 0 (s 3 - (h : Int))) ≤ 0) r_179_6 (rfl) (fun h6 => ?_) (fun h6 => ?_)
  · refine gx_st (L' := [(2, 192), (0, (h : Int)), (0, (L : Int)), (9, 0)]) (S' := [(0, 0)]) r_179_11 rfl rfl rfl ?_
    refine gx_st (L' := [(2, 192), (0, (h : Int)), (0, (L : Int)), (0, 0)]) (S' := []) r_179_12 rfl rfl rfl ?_
    have b6 := hB.2.2.2.1
    exact hw_l hT hp hB hE hh hL hr0 hb (c := (w 6).toNat) (by omega) (by omega) ((w 6).toNat + 1) 0 (by omega) (by omega) (fun v hv => absurd hv (Nat.not_lt_zero _))
  · refine gx_st (L' := [(2, 192), (0, (h : Int)), (0, (L : Int)), (9, 0)]) (S' := [(0, 1)]) r_179_9 rfl rfl rfl ?_
    exact gx_rb r_179_10 rfl (Or.inr rfl) ⟨_, rfl, fun z => absurd z (by decide), rfl⟩
end HUNTR
