/-! bent, dam of the class -/
theorem r_43_0 : row 43 0 = some (.iload_n 1, 1, 0, 0, 0, 0) := rfl
theorem r_43_1 : row 43 1 = some (.aload_n 0, 2, 0, 0, 0, 0) := rfl
theorem r_43_2 : row 43 2 = some (.getfield 19, 5, 9, 1, 2, 2159) := rfl
theorem r_43_5 : row 43 5 = some (.getfield 123, 8, 3, 6, 10, 1093) := rfl
theorem r_43_8 : row 43 8 = some (.invokestatic 126, 11, 71, 2, 0, 4020) := rfl
theorem r_43_11 : row 43 11 = some (.ifCond .eq 11, 14, 22, 0, 0, 0) := rfl
theorem r_43_14 : row 43 14 = some (.aload_n 0, 15, 0, 0, 0, 0) := rfl
theorem r_43_15 : row 43 15 = some (.iload_n 1, 16, 0, 0, 0, 0) := rfl
theorem r_43_16 : row 43 16 = some (.invokevirtual 278, 19, 81, 1, 0, 5016) := rfl
theorem r_43_19 : row 43 19 = some (.goto 5, 22, 24, 0, 0, 0) := rfl
theorem r_43_22 : row 43 22 = some (.bipush (-2), 24, (-2), 0, 0, 0) := rfl
theorem r_43_24 : row 43 24 = some (.ireturn, 25, 0, 0, 0, 0) := rfl
theorem r_44_0 : row 44 0 = some (.aload_n 0, 1, 0, 0, 0, 0) := rfl
theorem r_44_1 : row 44 1 = some (.iload_n 1, 2, 0, 0, 0, 0) := rfl
theorem r_44_2 : row 44 2 = some (.invokevirtual 169, 5, 72, 1, 0, 4044) := rfl
theorem r_44_5 : row 44 5 = some (.ifCond .eq 11, 8, 16, 0, 0, 0) := rfl
theorem r_44_8 : row 44 8 = some (.aload_n 0, 9, 0, 0, 0, 0) := rfl
theorem r_44_9 : row 44 9 = some (.iload_n 1, 10, 0, 0, 0, 0) := rfl
theorem r_44_10 : row 44 10 = some (.invokevirtual 281, 13, 82, 1, 0, 5028) := rfl
theorem r_44_13 : row 44 13 = some (.goto 5, 16, 18, 0, 0, 0) := rfl
theorem r_44_16 : row 44 16 = some (.bipush (-2), 18, (-2), 0, 0, 0) := rfl
theorem r_44_18 : row 44 18 = some (.ireturn, 19, 0, 0, 0, 0) := rfl
section BENT
variable {T : List Kd} {m : Mm}
theorem z_43 (hT : TT T) (hp : PinR m) (hm : Gam m) (hx : Ext m) (r : WX m) {n : Nat} (hn : m 193 1 = (n : Int)) (a : Int) : GX T 20 43 0 [(2, 1), (0, a)] [] m (RI (fun v m1 => (¬ (0 ≤ a ∧ a < m 4 6) → v = -2) ∧ ∀ q : Nat, a = (q : Int) → (0 ≤ a ∧ a < m 4 6) → ∀ D : Nat → Nat → Int, WyD (pw (m 193)) D → RidF n (rowsW (upw (pw (m 193)) (32 + 2 * q) 0) D) v)) := by
  have b1 := gb_193_1 hm
  have w4 := WD_w r.1 (pw_ag (m 193))
  have hnw : pw (m 193) 1 = (n : Int) := by rw [pw_at (by decide) (by decide)]; exact hn
  have e41 : m 4 1 = pw (m 193) 0 := w4.1.2.1
  have e46 : m 4 6 = pw (m 193) 5 := w4.1.2.2.2.2.2.2.1
  obtain ⟨D0, hD0⟩ := ex_D hT hm hx
  refine gx_st (L' := [(2, 1), (0, a)]) (S' := [(0, a)]) r_43_0 rfl rfl rfl ?_
  refine gx_st (L' := [(2, 1), (0, a)]) (S' := [(2, 1), (0, a)]) r_43_1 rfl rfl rfl ?_
  refine gx_gf (x := 4) 2 r_43_2 (rfl) (ty_1 hT) ⟨by decide, rfl, by decide, by decide⟩ rfl (fun _ => by omega) (pin_at hp (t := 4) rfl (by decide)) ?_
  refine gx_gf (x := (m 4 6)) 0 r_43_5 (rfl) (ty_4 hT) ⟨by decide, rfl, by decide, by decide⟩ rfl (fun z => absurd z (by decide)) (rfl) ?_
  refine gx_ci (nx := 11) (S2 := []) (x_71 a (m 4 6)) r_43_8 rfl rfl rfl rfl rfl rfl rfl (by decide) rfl (fun x8 n8 q8 => ?_)
  obtain rfl := q8.1.symm
  obtain rfl := q8.2.symm
  show GX T 20 43 11 [(2, 1), (0, a)] [(0, (if 0 ≤ a ∧ a < (m 4 6) then 1 else 0))] m (RI (fun v m1 => (¬ (0 ≤ a ∧ a < m 4 6) → v = -2) ∧ ∀ q : Nat, a = (q : Int) → (0 ≤ a ∧ a < m 4 6) → ∀ D : Nat → Nat → Int, WyD (pw (m 193)) D → RidF n (rowsW (upw (pw (m 193)) (32 + 2 * q) 0) D) v))
  refine gx_i0 (P := ¬ (0 ≤ a ∧ a < (m 4 6))) r_43_11 (b01_eq) (fun h11 => ?_) (fun h11 => ?_)
  · refine gx_st (L' := [(2, 1), (0, a)]) (S' := [(0, (-2))]) r_43_22 rfl rfl rfl ?_
    exact gx_rt r_43_24 rfl rfl ⟨_, rfl, fun _ => rfl, fun q e z => absurd z (by omega)⟩
  · have h11 := Decidable.not_not.mp h11
    obtain ⟨k, h_k⟩ : ∃ i : Nat, a = (i : Int) := ⟨a.toNat, by omega⟩
    rw [h_k]
    refine gx_st (L' := [(2, 1), (0, (k : Int))]) (S' := [(2, 1)]) r_43_14 rfl rfl rfl ?_
    refine gx_st (L' := [(2, 1), (0, (k : Int))]) (S' := [(0, (k : Int)), (2, 1)]) r_43_15 rfl rfl rfl ?_
    refine gx_ci (nx := 19) (S2 := []) (gx_alli (k_81 hT hp hm w4 (wbf_pw hm) (wr_pw hm) (wyD_pw.mpr hD0) hnw (by omega) (k := k) (by omega)) (fun D : {D : Nat → Nat → Int // WyD (pw (m 193)) D} => k_81 hT hp hm w4 (wbf_pw hm) (wr_pw hm) D.2 hnw (by omega) (k := k) (by omega))) r_43_16 rfl rfl rfl rfl rfl (rcv_v rfl (ty_1 hT) (by decide) rfl (by decide)) rfl (by decide) rfl (fun x16 n16 q16 => ?_)
    obtain ⟨_, zD⟩ := q16
    show GX T 20 43 19 [(2, 1), (0, (k : Int))] [(0, x16)] n16 (RI (fun v m1 => (¬ (0 ≤ (k : Int) ∧ (k : Int) < m 4 6) → v = -2) ∧ ∀ q : Nat, (k : Int) = (q : Int) → (0 ≤ (k : Int) ∧ (k : Int) < m 4 6) → ∀ D : Nat → Nat → Int, WyD (pw (m 193)) D → RidF n (rowsW (upw (pw (m 193)) (32 + 2 * q) 0) D) v))
    show GX T 20 43 19 [(2, 1), (0, (k : Int))] [(0, x16)] n16 (RI (fun v m1 => (¬ (0 ≤ (k : Int) ∧ (k : Int) < m 4 6) → v = -2) ∧ ∀ q : Nat, (k : Int) = (q : Int) → (0 ≤ (k : Int) ∧ (k : Int) < m 4 6) → ∀ D : Nat → Nat → Int, WyD (pw (m 193)) D → RidF n (rowsW (upw (pw (m 193)) (32 + 2 * q) 0) D) v))
    refine gx_st (L' := [(2, 1), (0, (k : Int))]) (S' := [(0, x16)]) r_43_19 rfl rfl rfl ?_
    exact gx_rt r_43_24 rfl rfl ⟨_, rfl, fun z => absurd ⟨by omega, by omega⟩ z, fun q e _ D h => by
      have e2 : k = q := by omega
      subst e2
      exact zD ⟨D, h⟩⟩
theorem z_44 (hT : TT T) (hp : PinR m) (hm : Gam m) (hx : Ext m) (r : WX m) {n : Nat} (hn : m 193 1 = (n : Int)) (a : Int) : GX T 20 44 0 [(2, 1), (0, a)] [] m (RI (fun v m1 => (¬ (0 ≤ a ∧ a < m 4 1) → v = -2) ∧ ∀ q : Nat, a = (q : Int) → (0 ≤ a ∧ a < m 4 1) → ∀ D : Nat → Nat → Int, WyD (pw (m 193)) D → RidF n (rowsW (upw (pw (m 193)) 10 (ior (pw (m 193) 10) (ishl 1 (q : Int)))) D) v)) := by
  have b1 := gb_193_1 hm
  have w4 := WD_w r.1 (pw_ag (m 193))
  have hnw : pw (m 193) 1 = (n : Int) := by rw [pw_at (by decide) (by decide)]; exact hn
  have e41 : m 4 1 = pw (m 193) 0 := w4.1.2.1
  have e46 : m 4 6 = pw (m 193) 5 := w4.1.2.2.2.2.2.2.1
  obtain ⟨D0, hD0⟩ := ex_D hT hm hx
  refine gx_st (L' := [(2, 1), (0, a)]) (S' := [(2, 1)]) r_44_0 rfl rfl rfl ?_
  refine gx_st (L' := [(2, 1), (0, a)]) (S' := [(0, a), (2, 1)]) r_44_1 rfl rfl rfl ?_
  refine gx_ci (nx := 5) (S2 := []) (x_72 hT hp a) r_44_2 rfl rfl rfl rfl rfl (rcv_v rfl (ty_1 hT) (by decide) rfl (by decide)) rfl (by decide) rfl (fun x2 n2 q2 => ?_)
  obtain rfl := q2.1.symm
  obtain rfl := q2.2.symm
  show GX T 20 44 5 [(2, 1), (0, a)] [(0, (if 0 ≤ a ∧ a < m 4 1 then 1 else 0))] m (RI (fun v m1 => (¬ (0 ≤ a ∧ a < m 4 1) → v = -2) ∧ ∀ q : Nat, a = (q : Int) → (0 ≤ a ∧ a < m 4 1) → ∀ D : Nat → Nat → Int, WyD (pw (m 193)) D → RidF n (rowsW (upw (pw (m 193)) 10 (ior (pw (m 193) 10) (ishl 1 (q : Int)))) D) v))
  refine gx_i0 (P := ¬ (0 ≤ a ∧ a < m 4 1)) r_44_5 (b01_eq) (fun h5 => ?_) (fun h5 => ?_)
  · refine gx_st (L' := [(2, 1), (0, a)]) (S' := [(0, (-2))]) r_44_16 rfl rfl rfl ?_
    exact gx_rt r_44_18 rfl rfl ⟨_, rfl, fun _ => rfl, fun q e z => absurd z (by omega)⟩
  · have h5 := Decidable.not_not.mp h5
    obtain ⟨k, h_k⟩ : ∃ i : Nat, a = (i : Int) := ⟨a.toNat, by omega⟩
    rw [h_k]
    refine gx_st (L' := [(2, 1), (0, (k : Int))]) (S' := [(2, 1)]) r_44_8 rfl rfl rfl ?_
    refine gx_st (L' := [(2, 1), (0, (k : Int))]) (S' := [(0, (k : Int)), (2, 1)]) r_44_9 rfl rfl rfl ?_
    refine gx_ci (nx := 13) (S2 := []) (gx_alli (k_82 hT hp hm w4 (wbf_pw hm) (wr_pw hm) (wyD_pw.mpr hD0) hnw (by omega) (k := k) (by omega)) (fun D : {D : Nat → Nat → Int // WyD (pw (m 193)) D} => k_82 hT hp hm w4 (wbf_pw hm) (wr_pw hm) D.2 hnw (by omega) (k := k) (by omega))) r_44_10 rfl rfl rfl rfl rfl (rcv_v rfl (ty_1 hT) (by decide) rfl (by decide)) rfl (by decide) rfl (fun x10 n10 q10 => ?_)
    obtain ⟨_, zD⟩ := q10
    show GX T 20 44 13 [(2, 1), (0, (k : Int))] [(0, x10)] n10 (RI (fun v m1 => (¬ (0 ≤ (k : Int) ∧ (k : Int) < m 4 1) → v = -2) ∧ ∀ q : Nat, (k : Int) = (q : Int) → (0 ≤ (k : Int) ∧ (k : Int) < m 4 1) → ∀ D : Nat → Nat → Int, WyD (pw (m 193)) D → RidF n (rowsW (upw (pw (m 193)) 10 (ior (pw (m 193) 10) (ishl 1 (q : Int)))) D) v))
    show GX T 20 44 13 [(2, 1), (0, (k : Int))] [(0, x10)] n10 (RI (fun v m1 => (¬ (0 ≤ (k : Int) ∧ (k : Int) < m 4 1) → v = -2) ∧ ∀ q : Nat, (k : Int) = (q : Int) → (0 ≤ (k : Int) ∧ (k : Int) < m 4 1) → ∀ D : Nat → Nat → Int, WyD (pw (m 193)) D → RidF n (rowsW (upw (pw (m 193)) 10 (ior (pw (m 193) 10) (ishl 1 (q : Int)))) D) v))
    refine gx_st (L' := [(2, 1), (0, (k : Int))]) (S' := [(0, x10)]) r_44_13 rfl rfl rfl ?_
    exact gx_rt r_44_18 rfl rfl ⟨_, rfl, fun z => absurd ⟨by omega, by omega⟩ z, fun q e _ D h => by
      have e2 : k = q := by omega
      subst e2
      exact zD ⟨D, h⟩⟩
theorem q_40 {p q : Mm} {v1 v2 a : Int} {n : Nat} (hm : Gam p) (r : WX p) (zx : ZX p) (a1 : (¬ (0 ≤ a ∧ a < p 4 2) → v1 = -2) ∧ (∀ k : Nat, a = (k : Int) → (0 ≤ a ∧ a < p 4 2) → ∀ D : Nat → Nat → Int, WyD (pw (p 193)) D → PlanV n (rowsW (pw (p 193)) D) k v1)) (e : q 193 = p 193) (b : (¬ (0 < q 193 9 ∧ 0 ≤ a ∧ a < q 193 1) → v2 = -2) ∧ (∀ k : Nat, a = (k : Int) → (0 < q 193 9 ∧ 0 ≤ a ∧ a < q 193 1) → ∃ D : Nat → Nat → Int, WyD (pw (q 193)) D ∧ PlanV n (rowsW (pw (q 193)) D) k v2)) (z9 : ¬ 0 < p 193 9 → p 193 1 = 0) : v1 = v2 := by
  have e2 : p 4 2 = p 193 1 := r.1.1.2.2.1
  rw [e] at b
  by_cases c : 0 < p 193 9 ∧ 0 ≤ a ∧ a < p 193 1
  · obtain ⟨k, hk⟩ : ∃ k : Nat, a = (k : Int) := ⟨a.toNat, by omega⟩
    obtain ⟨D, h1, h2⟩ := b.2 k hk c
    exact planV_u (a1.2 k hk ⟨by omega, by omega⟩ D h1) h2
  · rw [b.1 c, a1.1 (fun z => c ⟨Classical.byContradiction (fun y => by have := z9 y; omega), z.1, by omega⟩)]
end BENT
