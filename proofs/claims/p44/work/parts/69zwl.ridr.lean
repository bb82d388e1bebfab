/-! the hunt's answers of the reference -/
theorem r_183_0 : row 183 0 = some (.aload_n 0, 1, 0, 0, 0, 0) := rfl
theorem r_183_1 : row 183 1 = some (.invokevirtual 377, 4, 182, 0, 0, 8039) := rfl
theorem r_183_4 : row 183 4 = some (.ifCond .eq 10, 7, 14, 0, 0, 0) := rfl
theorem r_183_7 : row 183 7 = some (.aload_n 0, 8, 0, 0, 0, 0) := rfl
theorem r_183_8 : row 183 8 = some (.invokevirtual 380, 11, 181, 0, 0, 8043) := rfl
theorem r_183_11 : row 183 11 = some (.goto 5, 14, 16, 0, 0, 0) := rfl
theorem r_183_14 : row 183 14 = some (.bipush (-2), 16, (-2), 0, 0, 0) := rfl
theorem r_183_16 : row 183 16 = some (.ireturn, 17, 0, 0, 0, 0) := rfl
theorem r_184_0 : row 184 0 = some (.aload_n 0, 1, 0, 0, 0, 0) := rfl
theorem r_184_1 : row 184 1 = some (.invokevirtual 377, 4, 182, 0, 0, 8039) := rfl
theorem r_184_4 : row 184 4 = some (.ifCond .ne 6, 7, 10, 0, 0, 0) := rfl
theorem r_184_7 : row 184 7 = some (.bipush (-2), 9, (-2), 0, 0, 0) := rfl
theorem r_184_9 : row 184 9 = some (.ireturn, 10, 0, 0, 0, 0) := rfl
theorem r_184_10 : row 184 10 = some (.aload_n 0, 11, 0, 0, 0, 0) := rfl
theorem r_184_11 : row 184 11 = some (.invokevirtual 380, 14, 181, 0, 0, 8043) := rfl
theorem r_184_14 : row 184 14 = some (.iconst (-1), 15, (-1), 0, 0, 0) := rfl
theorem r_184_15 : row 184 15 = some (.if_icmp .ne 7, 18, 22, 0, 0, 0) := rfl
theorem r_184_18 : row 184 18 = some (.iconst 0, 19, 0, 0, 0, 0) := rfl
theorem r_184_19 : row 184 19 = some (.goto 7, 22, 26, 0, 0, 0) := rfl
theorem r_184_22 : row 184 22 = some (.aload_n 0, 23, 0, 0, 0, 0) := rfl
theorem r_184_23 : row 184 23 = some (.getfield 365, 26, 10, 31, 0, 6032) := rfl
theorem r_184_26 : row 184 26 = some (.ireturn, 27, 0, 0, 0, 0) := rfl
theorem r_185_0 : row 185 0 = some (.aload_n 0, 1, 0, 0, 0, 0) := rfl
theorem r_185_1 : row 185 1 = some (.invokevirtual 377, 4, 182, 0, 0, 8039) := rfl
theorem r_185_4 : row 185 4 = some (.ifCond .eq 11, 7, 15, 0, 0, 0) := rfl
theorem r_185_7 : row 185 7 = some (.aload_n 0, 8, 0, 0, 0, 0) := rfl
theorem r_185_8 : row 185 8 = some (.iload_n 1, 9, 0, 0, 0, 0) := rfl
theorem r_185_9 : row 185 9 = some (.invokevirtual 339, 12, 92, 1, 0, 7182) := rfl
theorem r_185_12 : row 185 12 = some (.ifCond .ne 6, 15, 18, 0, 0, 0) := rfl
theorem r_185_15 : row 185 15 = some (.bipush (-2), 17, (-2), 0, 0, 0) := rfl
theorem r_185_17 : row 185 17 = some (.ireturn, 18, 0, 0, 0, 0) := rfl
theorem r_185_18 : row 185 18 = some (.aload_n 0, 19, 0, 0, 0, 0) := rfl
theorem r_185_19 : row 185 19 = some (.invokevirtual 380, 22, 181, 0, 0, 8043) := rfl
theorem r_185_22 : row 185 22 = some (.istore_n 2, 23, 0, 0, 0, 0) := rfl
theorem r_185_23 : row 185 23 = some (.iload_n 2, 24, 0, 0, 0, 0) := rfl
theorem r_185_24 : row 185 24 = some (.iconst (-1), 25, (-1), 0, 0, 0) := rfl
theorem r_185_25 : row 185 25 = some (.if_icmp .ne 7, 28, 32, 0, 0, 0) := rfl
theorem r_185_28 : row 185 28 = some (.iconst (-1), 29, (-1), 0, 0, 0) := rfl
theorem r_185_29 : row 185 29 = some (.goto 18, 32, 47, 0, 0, 0) := rfl
theorem r_185_32 : row 185 32 = some (.iload_n 1, 33, 0, 0, 0, 0) := rfl
theorem r_185_33 : row 185 33 = some (.iload_n 2, 34, 0, 0, 0, 0) := rfl
theorem r_185_34 : row 185 34 = some (.if_icmp .le 7, 37, 41, 0, 0, 0) := rfl
theorem r_185_37 : row 185 37 = some (.iconst 0, 38, 0, 0, 0, 0) := rfl
theorem r_185_38 : row 185 38 = some (.goto 9, 41, 47, 0, 0, 0) := rfl
theorem r_185_41 : row 185 41 = some (.aload_n 0, 42, 0, 0, 0, 0) := rfl
theorem r_185_42 : row 185 42 = some (.getfield 55, 45, 10, 30, 2, 6031) := rfl
theorem r_185_45 : row 185 45 = some (.iload_n 1, 46, 0, 0, 0, 0) := rfl
theorem r_185_46 : row 185 46 = some (.iaload, 47, 0, 0, 0, 0) := rfl
theorem r_185_47 : row 185 47 = some (.ireturn, 48, 0, 0, 0, 0) := rfl
theorem r_189_0 : row 189 0 = some (.aload_n 0, 1, 0, 0, 0, 0) := rfl
theorem r_189_1 : row 189 1 = some (.invokevirtual 377, 4, 182, 0, 0, 8039) := rfl
theorem r_189_4 : row 189 4 = some (.ifCond .eq 12, 7, 16, 0, 0, 0) := rfl
theorem r_189_7 : row 189 7 = some (.aload_n 0, 8, 0, 0, 0, 0) := rfl
theorem r_189_8 : row 189 8 = some (.iload_n 1, 9, 0, 0, 0, 0) := rfl
theorem r_189_9 : row 189 9 = some (.i2l, 10, 0, 0, 0, 0) := rfl
theorem r_189_10 : row 189 10 = some (.invokevirtual 216, 13, 94, 1, 0, 7001) := rfl
theorem r_189_13 : row 189 13 = some (.ifCond .ne 6, 16, 19, 0, 0, 0) := rfl
theorem r_189_16 : row 189 16 = some (.bipush (-2), 18, (-2), 0, 0, 0) := rfl
theorem r_189_18 : row 189 18 = some (.ireturn, 19, 0, 0, 0, 0) := rfl
theorem r_189_19 : row 189 19 = some (.aload_n 0, 20, 0, 0, 0, 0) := rfl
theorem r_189_20 : row 189 20 = some (.iload_n 1, 21, 0, 0, 0, 0) := rfl
theorem r_189_21 : row 189 21 = some (.putfield 250, 24, 10, 23, 0, 6024) := rfl
theorem r_189_24 : row 189 24 = some (.aload_n 0, 25, 0, 0, 0, 0) := rfl
theorem r_189_25 : row 189 25 = some (.invokevirtual 380, 28, 181, 0, 0, 8043) := rfl
theorem r_189_28 : row 189 28 = some (.ireturn, 29, 0, 0, 0, 0) := rfl
theorem r_190_0 : row 190 0 = some (.aload_n 0, 1, 0, 0, 0, 0) := rfl
theorem r_190_1 : row 190 1 = some (.invokevirtual 377, 4, 182, 0, 0, 8039) := rfl
theorem r_190_4 : row 190 4 = some (.ifCond .eq 12, 7, 16, 0, 0, 0) := rfl
theorem r_190_7 : row 190 7 = some (.aload_n 0, 8, 0, 0, 0, 0) := rfl
theorem r_190_8 : row 190 8 = some (.iload_n 1, 9, 0, 0, 0, 0) := rfl
theorem r_190_9 : row 190 9 = some (.i2l, 10, 0, 0, 0, 0) := rfl
theorem r_190_10 : row 190 10 = some (.invokevirtual 234, 13, 91, 1, 0, 7046) := rfl
theorem r_190_13 : row 190 13 = some (.ifCond .ne 6, 16, 19, 0, 0, 0) := rfl
theorem r_190_16 : row 190 16 = some (.bipush (-2), 18, (-2), 0, 0, 0) := rfl
theorem r_190_18 : row 190 18 = some (.ireturn, 19, 0, 0, 0, 0) := rfl
theorem r_190_19 : row 190 19 = some (.aload_n 0, 20, 0, 0, 0, 0) := rfl
theorem r_190_20 : row 190 20 = some (.iconst 1, 21, 1, 0, 0, 0) := rfl
theorem r_190_21 : row 190 21 = some (.iload_n 1, 22, 0, 0, 0, 0) := rfl
theorem r_190_22 : row 190 22 = some (.ishl, 23, 0, 0, 0, 0) := rfl
theorem r_190_23 : row 190 23 = some (.putfield 278, 26, 10, 25, 0, 6026) := rfl
theorem r_190_26 : row 190 26 = some (.aload_n 0, 27, 0, 0, 0, 0) := rfl
theorem r_190_27 : row 190 27 = some (.invokevirtual 380, 30, 181, 0, 0, 8043) := rfl
theorem r_190_30 : row 190 30 = some (.ireturn, 31, 0, 0, 0, 0) := rfl
theorem ridF_ne {n L : Nat} {r : Nat → List (List Int)} {v : Int} (h : RidF n r v) (e : v = (L : Int)) : ¬ r L = [] := by
  rcases h with ⟨z, _⟩ | ⟨K, _, k2, k3, _⟩
  · omega
  · rw [show L = K by omega]; exact k3
theorem rowsW_hd {w : Wd} {D : Nat → Nat → Int} {L h : Nat} (hh : L < h) : hd0 (rowsW w D L) h = 0 := hd0_no (k := L + 1) (fun r hr => by
  have z := (rowsH_len 13 0 (beginF w 0 (w 47)) r hr).2
  omega) (by omega)
section RIDR
variable {T : List Kd} {m : Mm}
theorem y_183 (hT : TT T) (hp : PinR m) (hm : Gam m) (hx : Ext m) (wb : WB (pw (m 193))) (wp : WP (pw (m 193))) {n : Nat} (hn : m 193 1 = (n : Int)) : GX T 9 183 0 [(2, 192)] [] m (RI (fun v m1 => (¬ 0 < m 193 9 → v = -2) ∧ (0 < m 193 9 → ∃ D : Nat → Nat → Int, WyD (pw (m 193)) D ∧ RidF n (rowsW (pw (m 193)) D) v))) := by
  have b1 := gb_193_1 hm
  have hnw : pw (m 193) 1 = (n : Int) := by rw [pw_at (by decide) (by decide)]; exact hn
  have wf := wbf_pw hm
  have hnp : pw (m 193) 0 = ((pw (m 193) 0).toNat : Int) := by have := wb.1; omega
  refine gx_st (L' := [(2, 192)]) (S' := [(2, 192)]) r_183_0 rfl rfl rfl ?_
  refine gx_ci (nx := 4) (S2 := []) (y_182 hT hp hm hx) r_183_1 rfl rfl rfl rfl rfl (rcv_v rfl (ty_192 hT) (by decide) rfl (by decide)) rfl (by decide) rfl (fun x1 n1 q1 => ?_)
  obtain ⟨e_x1, ⟨as1, _⟩, hp1, gm1, gx1, fs1, e193⟩ := q1
  rw [e_x1]
  obtain ⟨D, eD⟩ : ∃ D : Nat → Nat → Int, D = fun a b => n1 199 (7 * a + b) := ⟨_, rfl⟩
  have ew : EW (-1) n1 (pw (m 193)) := by
    have z := ew_as gm1 as1
    rw [e193] at z
    exact z
  have hD : WyD (pw (m 193)) D := wyD_pw.mpr (by
    rw [eD, ← e193]
    exact fs1)
  have si : SI (-1) (pw (m 193)) D n1 := ⟨hp1, ew, fun _ _ _ _ => by rw [eD]⟩
  show GX T 9 183 4 [(2, 192)] [(0, (if 0 < m 193 9 then 1 else 0))] n1 (RI (fun v m1 => (¬ 0 < m 193 9 → v = -2) ∧ (0 < m 193 9 → ∃ D : Nat → Nat → Int, WyD (pw (m 193)) D ∧ RidF n (rowsW (pw (m 193)) D) v)))
  show GX T 9 183 4 [(2, 192)] [(0, (if 0 < m 193 9 then 1 else 0))] n1 (RI (fun v m1 => (¬ 0 < m 193 9 → v = -2) ∧ (0 < m 193 9 → ∃ D : Nat → Nat → Int, WyD (pw (m 193)) D ∧ RidF n (rowsW (pw (m 193)) D) v)))
  refine gx_i0 (P := ¬ (0 < m 193 9)) r_183_4 (b01_eq) (fun h4 => ?_) (fun h4 => ?_)
  · refine gx_st (L' := [(2, 192)]) (S' := [(0, (-2))]) r_183_14 rfl rfl rfl ?_
    exact gx_rt r_183_16 rfl rfl ⟨_, rfl, fun _ => rfl, fun z => absurd z h4⟩
  · have h4 := Decidable.not_not.mp h4
    refine gx_st (L' := [(2, 192)]) (S' := [(2, 192)]) r_183_7 rfl rfl rfl ?_
    refine gx_ci (nx := 11) (S2 := []) (y_181 hT wb wp hD hnp wf hnw (by omega) si) r_183_8 rfl rfl rfl rfl rfl (rcv_v rfl (ty_192 hT) (by decide) rfl (by decide)) rfl (by decide) rfl (fun x8 n8 q8 => ?_)
    obtain ⟨rid, rso, dg⟩ := q8
    show GX T 9 183 11 [(2, 192)] [(0, x8)] n8 (RI (fun v m1 => (¬ 0 < m 193 9 → v = -2) ∧ (0 < m 193 9 → ∃ D : Nat → Nat → Int, WyD (pw (m 193)) D ∧ RidF n (rowsW (pw (m 193)) D) v)))
    show GX T 9 183 11 [(2, 192)] [(0, x8)] n8 (RI (fun v m1 => (¬ 0 < m 193 9 → v = -2) ∧ (0 < m 193 9 → ∃ D : Nat → Nat → Int, WyD (pw (m 193)) D ∧ RidF n (rowsW (pw (m 193)) D) v)))
    refine gx_st (L' := [(2, 192)]) (S' := [(0, x8)]) r_183_11 rfl rfl rfl ?_
    exact gx_rt r_183_16 rfl rfl ⟨_, rfl, fun z => absurd h4 z, fun _ => ⟨D, hD, rid⟩⟩
theorem y_184 (hT : TT T) (hp : PinR m) (hm : Gam m) (hx : Ext m) (wb : WB (pw (m 193))) (wp : WP (pw (m 193))) {n : Nat} (hn : m 193 1 = (n : Int)) : GX T 9 184 0 [(2, 192)] [] m (RI (fun v m1 => (¬ 0 < m 193 9 → v = -2) ∧ (0 < m 193 9 → ∃ D : Nat → Nat → Int, WyD (pw (m 193)) D ∧ WaysV n (rowsW (pw (m 193)) D) v))) := by
  have b1 := gb_193_1 hm
  have hnw : pw (m 193) 1 = (n : Int) := by rw [pw_at (by decide) (by decide)]; exact hn
  have wf := wbf_pw hm
  have hnp : pw (m 193) 0 = ((pw (m 193) 0).toNat : Int) := by have := wb.1; omega
  refine gx_st (L' := [(2, 192)]) (S' := [(2, 192)]) r_184_0 rfl rfl rfl ?_
  refine gx_ci (nx := 4) (S2 := []) (y_182 hT hp hm hx) r_184_1 rfl rfl rfl rfl rfl (rcv_v rfl (ty_192 hT) (by decide) rfl (by decide)) rfl (by decide) rfl (fun x1 n1 q1 => ?_)
  obtain ⟨e_x1, ⟨as1, _⟩, hp1, gm1, gx1, fs1, e193⟩ := q1
  rw [e_x1]
  obtain ⟨D, eD⟩ : ∃ D : Nat → Nat → Int, D = fun a b => n1 199 (7 * a + b) := ⟨_, rfl⟩
  have ew : EW (-1) n1 (pw (m 193)) := by
    have z := ew_as gm1 as1
    rw [e193] at z
    exact z
  have hD : WyD (pw (m 193)) D := wyD_pw.mpr (by
    rw [eD, ← e193]
    exact fs1)
  have si : SI (-1) (pw (m 193)) D n1 := ⟨hp1, ew, fun _ _ _ _ => by rw [eD]⟩
  show GX T 9 184 4 [(2, 192)] [(0, (if 0 < m 193 9 then 1 else 0))] n1 (RI (fun v m1 => (¬ 0 < m 193 9 → v = -2) ∧ (0 < m 193 9 → ∃ D : Nat → Nat → Int, WyD (pw (m 193)) D ∧ WaysV n (rowsW (pw (m 193)) D) v)))
  show GX T 9 184 4 [(2, 192)] [(0, (if 0 < m 193 9 then 1 else 0))] n1 (RI (fun v m1 => (¬ 0 < m 193 9 → v = -2) ∧ (0 < m 193 9 → ∃ D : Nat → Nat → Int, WyD (pw (m 193)) D ∧ WaysV n (rowsW (pw (m 193)) D) v)))
  refine gx_i0 (P := 0 < m 193 9) r_184_4 (b01_ne) (fun h4 => ?_) (fun h4 => ?_)
  · refine gx_st (L' := [(2, 192)]) (S' := [(2, 192)]) r_184_10 rfl rfl rfl ?_
    refine gx_ci (nx := 14) (S2 := []) (y_181 hT wb wp hD hnp wf hnw (by omega) si) r_184_11 rfl rfl rfl rfl rfl (rcv_v rfl (ty_192 hT) (by decide) rfl (by decide)) rfl (by decide) rfl (fun x11 n11 q11 => ?_)
    obtain ⟨rid, rso, dg⟩ := q11
    show GX T 9 184 14 [(2, 192)] [(0, x11)] n11 (RI (fun v m1 => (¬ 0 < m 193 9 → v = -2) ∧ (0 < m 193 9 → ∃ D : Nat → Nat → Int, WyD (pw (m 193)) D ∧ WaysV n (rowsW (pw (m 193)) D) v)))
    show GX T 9 184 14 [(2, 192)] [(0, x11)] n11 (RI (fun v m1 => (¬ 0 < m 193 9 → v = -2) ∧ (0 < m 193 9 → ∃ D : Nat → Nat → Int, WyD (pw (m 193)) D ∧ WaysV n (rowsW (pw (m 193)) D) v)))
    refine gx_st (L' := [(2, 192)]) (S' := [(0, (-1)), (0, x11)]) r_184_14 rfl rfl rfl ?_
    refine gx_ic (P := ¬ x11 = (-1)) r_184_15 (rfl) (fun h15 => ?_) (fun h15 => ?_)
    · refine gx_st (L' := [(2, 192)]) (S' := [(2, 192)]) r_184_22 rfl rfl rfl ?_
      refine gx_gf (x := (n11 192 31)) 0 r_184_23 (rfl) (ty_192 hT) ⟨by decide, rfl, by decide, by decide⟩ rfl (fun z => absurd z (by decide)) (rfl) ?_
      exact gx_rt r_184_26 rfl rfl ⟨_, rfl, fun z => absurd h4 z, fun _ => ⟨D, hD, x11, rid, fun z => absurd z h15, fun L z => (rso L z).1⟩⟩
    · have h15 := Decidable.not_not.mp h15
      refine gx_st (L' := [(2, 192)]) (S' := [(0, 0)]) r_184_18 rfl rfl rfl ?_
      refine gx_st (L' := [(2, 192)]) (S' := [(0, 0)]) r_184_19 rfl rfl rfl ?_
      exact gx_rt r_184_26 rfl rfl ⟨_, rfl, fun z => absurd h4 z, fun _ => ⟨D, hD, x11, rid, fun _ => rfl, fun L z => absurd z (by omega)⟩⟩
  · refine gx_st (L' := [(2, 192)]) (S' := [(0, (-2))]) r_184_7 rfl rfl rfl ?_
    exact gx_rt r_184_9 rfl rfl ⟨_, rfl, fun _ => rfl, fun z => absurd z h4⟩
theorem y_185 (hT : TT T) (hp : PinR m) (hm : Gam m) (hx : Ext m) (wb : WB (pw (m 193))) (wp : WP (pw (m 193))) {n : Nat} (hn : m 193 1 = (n : Int)) (a : Int) : GX T 9 185 0 [(2, 192), (0, a), (9, 0)] [] m (RI (fun v m1 => (¬ (0 < m 193 9 ∧ 0 ≤ a ∧ a < m 193 1) → v = -2) ∧ ∀ q : Nat, a = (q : Int) → ((0 < m 193 9 ∧ 0 ≤ a ∧ a < m 193 1) → ∃ D : Nat → Nat → Int, WyD (pw (m 193)) D ∧ PlanV n (rowsW (pw (m 193)) D) q v))) := by
  have b1 := gb_193_1 hm
  have hnw : pw (m 193) 1 = (n : Int) := by rw [pw_at (by decide) (by decide)]; exact hn
  have wf := wbf_pw hm
  have hnp : pw (m 193) 0 = ((pw (m 193) 0).toNat : Int) := by have := wb.1; omega
  refine gx_st (L' := [(2, 192), (0, a), (9, 0)]) (S' := [(2, 192)]) r_185_0 rfl rfl rfl ?_
  refine gx_ci (nx := 4) (S2 := []) (y_182 hT hp hm hx) r_185_1 rfl rfl rfl rfl rfl (rcv_v rfl (ty_192 hT) (by decide) rfl (by decide)) rfl (by decide) rfl (fun x1 n1 q1 => ?_)
  obtain ⟨e_x1, ⟨as1, _⟩, hp1, gm1, gx1, fs1, e193⟩ := q1
  rw [e_x1]
  obtain ⟨D, eD⟩ : ∃ D : Nat → Nat → Int, D = fun a b => n1 199 (7 * a + b) := ⟨_, rfl⟩
  have ew : EW (-1) n1 (pw (m 193)) := by
    have z := ew_as gm1 as1
    rw [e193] at z
    exact z
  have hD : WyD (pw (m 193)) D := wyD_pw.mpr (by
    rw [eD, ← e193]
    exact fs1)
  have si : SI (-1) (pw (m 193)) D n1 := ⟨hp1, ew, fun _ _ _ _ => by rw [eD]⟩
  show GX T 9 185 4 [(2, 192), (0, a), (9, 0)] [(0, (if 0 < m 193 9 then 1 else 0))] n1 (RI (fun v m1 => (¬ (0 < m 193 9 ∧ 0 ≤ a ∧ a < m 193 1) → v = -2) ∧ ∀ q : Nat, a = (q : Int) → ((0 < m 193 9 ∧ 0 ≤ a ∧ a < m 193 1) → ∃ D : Nat → Nat → Int, WyD (pw (m 193)) D ∧ PlanV n (rowsW (pw (m 193)) D) q v)))
  show GX T 9 185 4 [(2, 192), (0, a), (9, 0)] [(0, (if 0 < m 193 9 then 1 else 0))] n1 (RI (fun v m1 => (¬ (0 < m 193 9 ∧ 0 ≤ a ∧ a < m 193 1) → v = -2) ∧ ∀ q : Nat, a = (q : Int) → ((0 < m 193 9 ∧ 0 ≤ a ∧ a < m 193 1) → ∃ D : Nat → Nat → Int, WyD (pw (m 193)) D ∧ PlanV n (rowsW (pw (m 193)) D) q v)))
  refine gx_i0 (P := ¬ (0 < m 193 9)) r_185_4 (b01_eq) (fun h4 => ?_) (fun h4 => ?_)
  · refine gx_st (L' := [(2, 192), (0, a), (9, 0)]) (S' := [(0, (-2))]) r_185_15 rfl rfl rfl ?_
    exact gx_rt r_185_17 rfl rfl ⟨_, rfl, fun _ => rfl, fun q e z => absurd z (fun y => by first | exact h4 y.1 | omega)⟩
  · have h4 := Decidable.not_not.mp h4
    refine gx_st (L' := [(2, 192), (0, a), (9, 0)]) (S' := [(2, 192)]) r_185_7 rfl rfl rfl ?_
    refine gx_st (L' := [(2, 192), (0, a), (9, 0)]) (S' := [(0, a), (2, 192)]) r_185_8 rfl rfl rfl ?_
    refine gx_ci (nx := 12) (S2 := []) (x_92 hT gm1 a) r_185_9 rfl rfl rfl rfl rfl (rcv_v rfl (ty_192 hT) (by decide) rfl (by decide)) rfl (by decide) rfl (fun x9 n9 q9 => ?_)
    obtain ⟨e_x9, z_x9⟩ := q9
    obtain rfl := z_x9.symm
    rw [e193] at e_x9
    rw [e_x9]
    show GX T 9 185 12 [(2, 192), (0, a), (9, 0)] [(0, (if 0 ≤ a ∧ a ≤ m 193 1 - 1 then 1 else 0))] n1 (RI (fun v m1 => (¬ (0 < m 193 9 ∧ 0 ≤ a ∧ a < m 193 1) → v = -2) ∧ ∀ q : Nat, a = (q : Int) → ((0 < m 193 9 ∧ 0 ≤ a ∧ a < m 193 1) → ∃ D : Nat → Nat → Int, WyD (pw (m 193)) D ∧ PlanV n (rowsW (pw (m 193)) D) q v)))
    refine gx_i0 (P := 0 ≤ a ∧ a ≤ m 193 1 - 1) r_185_12 (b01_ne) (fun h12 => ?_) (fun h12 => ?_)
    · obtain ⟨k, h_k⟩ : ∃ i : Nat, a = (i : Int) := ⟨a.toNat, by omega⟩
      rw [h_k]
      refine gx_st (L' := [(2, 192), (0, (k : Int)), (9, 0)]) (S' := [(2, 192)]) r_185_18 rfl rfl rfl ?_
      refine gx_ci (nx := 22) (S2 := []) (y_181 hT wb wp hD hnp wf hnw (by omega) si) r_185_19 rfl rfl rfl rfl rfl (rcv_v rfl (ty_192 hT) (by decide) rfl (by decide)) rfl (by decide) rfl (fun x19 n19 q19 => ?_)
      obtain ⟨rid, rso, dg⟩ := q19
      show GX T 9 185 22 [(2, 192), (0, (k : Int)), (9, 0)] [(0, x19)] n19 (RI (fun v m1 => (¬ (0 < m 193 9 ∧ 0 ≤ (k : Int) ∧ (k : Int) < m 193 1) → v = -2) ∧ ∀ q : Nat, (k : Int) = (q : Int) → ((0 < m 193 9 ∧ 0 ≤ (k : Int) ∧ (k : Int) < m 193 1) → ∃ D : Nat → Nat → Int, WyD (pw (m 193)) D ∧ PlanV n (rowsW (pw (m 193)) D) q v)))
      show GX T 9 185 22 [(2, 192), (0, (k : Int)), (9, 0)] [(0, x19)] n19 (RI (fun v m1 => (¬ (0 < m 193 9 ∧ 0 ≤ (k : Int) ∧ (k : Int) < m 193 1) → v = -2) ∧ ∀ q : Nat, (k : Int) = (q : Int) → ((0 < m 193 9 ∧ 0 ≤ (k : Int) ∧ (k : Int) < m 193 1) → ∃ D : Nat → Nat → Int, WyD (pw (m 193)) D ∧ PlanV n (rowsW (pw (m 193)) D) q v)))
      refine gx_st (L' := [(2, 192), (0, (k : Int)), (0, x19)]) (S' := []) r_185_22 rfl rfl rfl ?_
      refine gx_st (L' := [(2, 192), (0, (k : Int)), (0, x19)]) (S' := [(0, x19)]) r_185_23 rfl rfl rfl ?_
      refine gx_st (L' := [(2, 192), (0, (k : Int)), (0, x19)]) (S' := [(0, (-1)), (0, x19)]) r_185_24 rfl rfl rfl ?_
      refine gx_ic (P := ¬ x19 = (-1)) r_185_25 (rfl) (fun h25 => ?_) (fun h25 => ?_)
      · refine gx_st (L' := [(2, 192), (0, (k : Int)), (0, x19)]) (S' := [(0, (k : Int))]) r_185_32 rfl rfl rfl ?_
        refine gx_st (L' := [(2, 192), (0, (k : Int)), (0, x19)]) (S' := [(0, x19), (0, (k : Int))]) r_185_33 rfl rfl rfl ?_
        refine gx_ic (P := (k : Int) ≤ x19) r_185_34 (rfl) (fun h34 => ?_) (fun h34 => ?_)
        · refine gx_st (L' := [(2, 192), (0, (k : Int)), (0, x19)]) (S' := [(2, 192)]) r_185_41 rfl rfl rfl ?_
          refine gx_gf (x := 206) 2 r_185_42 (rfl) (ty_192 hT) ⟨by decide, rfl, by decide, by decide⟩ rfl (fun _ => by omega) (pin_at (pin_dg hp1 dg) (t := 206) rfl (by decide)) ?_
          refine gx_st (L' := [(2, 192), (0, (k : Int)), (0, x19)]) (S' := [(0, (k : Int)), (2, 206)]) r_185_45 rfl rfl rfl ?_
          refine gx_ia (n := k) (x := (n19 206 k)) r_185_46 (rfl) (ty_206 hT) (by omega) ⟨rfl, by omega⟩ (rfl) ?_
          exact gx_rt r_185_47 rfl rfl ⟨_, rfl, fun z => absurd ⟨h4, by omega, by omega⟩ z, fun q e _ => by
            have e2 : q = k := by omega
            subst e2
            exact ⟨D, hD, x19, rid, fun z => absurd z h25, fun L z => (rso L z).2 (ridF_ne rid z) q (by omega)⟩⟩
        · refine gx_st (L' := [(2, 192), (0, (k : Int)), (0, x19)]) (S' := [(0, 0)]) r_185_37 rfl rfl rfl ?_
          refine gx_st (L' := [(2, 192), (0, (k : Int)), (0, x19)]) (S' := [(0, 0)]) r_185_38 rfl rfl rfl ?_
          exact gx_rt r_185_47 rfl rfl ⟨_, rfl, fun z => absurd ⟨h4, by omega, by omega⟩ z, fun q e _ => by
            have e2 : q = k := by omega
            subst e2
            exact ⟨D, hD, x19, rid, fun z => absurd z h25, fun L z => (rowsW_hd (by omega)).symm⟩⟩
      · have h25 := Decidable.not_not.mp h25
        refine gx_st (L' := [(2, 192), (0, (k : Int)), (0, x19)]) (S' := [(0, (-1))]) r_185_28 rfl rfl rfl ?_
        refine gx_st (L' := [(2, 192), (0, (k : Int)), (0, x19)]) (S' := [(0, (-1))]) r_185_29 rfl rfl rfl ?_
        exact gx_rt r_185_47 rfl rfl ⟨_, rfl, fun z => absurd ⟨h4, by omega, by omega⟩ z, fun q e _ => by
          have e2 : q = k := by omega
          subst e2
          exact ⟨D, hD, x19, rid, fun _ => rfl, fun L z => absurd z (by omega)⟩⟩
    · refine gx_st (L' := [(2, 192), (0, a), (9, 0)]) (S' := [(0, (-2))]) r_185_15 rfl rfl rfl ?_
      exact gx_rt r_185_17 rfl rfl ⟨_, rfl, fun _ => rfl, fun q e z => absurd z (fun y => by first | exact h4 y.1 | omega)⟩
theorem y_189 (hT : TT T) (hp : PinR m) (hm : Gam m) (hx : Ext m) (wb : WB (pw (m 193))) (wp : WP (pw (m 193))) {n : Nat} (hn : m 193 1 = (n : Int)) (a : Int) : GX T 9 189 0 [(2, 192), (0, a)] [] m (RI (fun v m1 => (¬ (0 < m 193 9 ∧ 0 ≤ a ∧ a < m 193 5) → v = -2) ∧ ∀ q : Nat, a = (q : Int) → ((0 < m 193 9 ∧ 0 ≤ a ∧ a < m 193 5) → ∃ D : Nat → Nat → Int, WyD (pw (m 193)) D ∧ RidF n (rowsW (upw (pw (m 193)) (32 + 2 * q) 0) D) v))) := by
  have b1 := gb_193_1 hm
  have hnw : pw (m 193) 1 = (n : Int) := by rw [pw_at (by decide) (by decide)]; exact hn
  have wf := wbf_pw hm
  have hnp : pw (m 193) 0 = ((pw (m 193) 0).toNat : Int) := by have := wb.1; omega
  refine gx_st (L' := [(2, 192), (0, a)]) (S' := [(2, 192)]) r_189_0 rfl rfl rfl ?_
  refine gx_ci (nx := 4) (S2 := []) (y_182 hT hp hm hx) r_189_1 rfl rfl rfl rfl rfl (rcv_v rfl (ty_192 hT) (by decide) rfl (by decide)) rfl (by decide) rfl (fun x1 n1 q1 => ?_)
  obtain ⟨e_x1, ⟨as1, _⟩, hp1, gm1, gx1, fs1, e193⟩ := q1
  rw [e_x1]
  obtain ⟨D, eD⟩ : ∃ D : Nat → Nat → Int, D = fun a b => n1 199 (7 * a + b) := ⟨_, rfl⟩
  have ew : EW (-1) n1 (pw (m 193)) := by
    have z := ew_as gm1 as1
    rw [e193] at z
    exact z
  have hD : WyD (pw (m 193)) D := wyD_pw.mpr (by
    rw [eD, ← e193]
    exact fs1)
  have si : SI (-1) (pw (m 193)) D n1 := ⟨hp1, ew, fun _ _ _ _ => by rw [eD]⟩
  show GX T 9 189 4 [(2, 192), (0, a)] [(0, (if 0 < m 193 9 then 1 else 0))] n1 (RI (fun v m1 => (¬ (0 < m 193 9 ∧ 0 ≤ a ∧ a < m 193 5) → v = -2) ∧ ∀ q : Nat, a = (q : Int) → ((0 < m 193 9 ∧ 0 ≤ a ∧ a < m 193 5) → ∃ D : Nat → Nat → Int, WyD (pw (m 193)) D ∧ RidF n (rowsW (upw (pw (m 193)) (32 + 2 * q) 0) D) v)))
  show GX T 9 189 4 [(2, 192), (0, a)] [(0, (if 0 < m 193 9 then 1 else 0))] n1 (RI (fun v m1 => (¬ (0 < m 193 9 ∧ 0 ≤ a ∧ a < m 193 5) → v = -2) ∧ ∀ q : Nat, a = (q : Int) → ((0 < m 193 9 ∧ 0 ≤ a ∧ a < m 193 5) → ∃ D : Nat → Nat → Int, WyD (pw (m 193)) D ∧ RidF n (rowsW (upw (pw (m 193)) (32 + 2 * q) 0) D) v)))
  refine gx_i0 (P := ¬ (0 < m 193 9)) r_189_4 (b01_eq) (fun h4 => ?_) (fun h4 => ?_)
  · refine gx_st (L' := [(2, 192), (0, a)]) (S' := [(0, (-2))]) r_189_16 rfl rfl rfl ?_
    exact gx_rt r_189_18 rfl rfl ⟨_, rfl, fun _ => rfl, fun q e z => absurd z (fun y => by first | exact h4 y.1 | omega)⟩
  · have h4 := Decidable.not_not.mp h4
    refine gx_st (L' := [(2, 192), (0, a)]) (S' := [(2, 192)]) r_189_7 rfl rfl rfl ?_
    refine gx_st (L' := [(2, 192), (0, a)]) (S' := [(0, a), (2, 192)]) r_189_8 rfl rfl rfl ?_
    refine gx_st (L' := [(2, 192), (0, a)]) (S' := [(1, a), (2, 192)]) r_189_9 rfl rfl rfl ?_
    refine gx_ci (nx := 13) (S2 := []) (x_94 hT gm1 a) r_189_10 rfl rfl rfl rfl rfl (rcv_v rfl (ty_192 hT) (by decide) rfl (by decide)) rfl (by decide) rfl (fun x10 n10 q10 => ?_)
    obtain ⟨e_x10, z_x10⟩ := q10
    obtain rfl := z_x10.symm
    rw [e193] at e_x10
    rw [e_x10]
    show GX T 9 189 13 [(2, 192), (0, a)] [(0, (if 0 ≤ a ∧ a ≤ m 193 5 - 1 then 1 else 0))] n1 (RI (fun v m1 => (¬ (0 < m 193 9 ∧ 0 ≤ a ∧ a < m 193 5) → v = -2) ∧ ∀ q : Nat, a = (q : Int) → ((0 < m 193 9 ∧ 0 ≤ a ∧ a < m 193 5) → ∃ D : Nat → Nat → Int, WyD (pw (m 193)) D ∧ RidF n (rowsW (upw (pw (m 193)) (32 + 2 * q) 0) D) v)))
    refine gx_i0 (P := 0 ≤ a ∧ a ≤ m 193 5 - 1) r_189_13 (b01_ne) (fun h13 => ?_) (fun h13 => ?_)
    · obtain ⟨k, h_k⟩ : ∃ i : Nat, a = (i : Int) := ⟨a.toNat, by omega⟩
      rw [h_k]
      refine gx_st (L' := [(2, 192), (0, (k : Int))]) (S' := [(2, 192)]) r_189_19 rfl rfl rfl ?_
      refine gx_st (L' := [(2, 192), (0, (k : Int))]) (S' := [(0, (k : Int)), (2, 192)]) r_189_20 rfl rfl rfl ?_
      obtain ⟨m1, e_m1⟩ : ∃ z, z = nu_up n1 192 23 (k : Int) := ⟨_, rfl⟩
      refine gx_pf (x := (k : Int)) 0 r_189_21 (rfl) (ty_192 hT) ⟨by decide, rfl, by decide, by decide⟩ rfl (fun z => absurd z (by decide)) (fun z => absurd z (by decide)) e_m1.symm ?_
      refine gx_st (L' := [(2, 192), (0, (k : Int))]) (S' := [(2, 192)]) r_189_24 rfl rfl rfl ?_
      have t5 : k < 5 := by have := wb.2.2.1; rw [pw_at (by decide) (by decide)] at this; omega
      have hpx : PinR m1 := by rw [e_m1]; exact PinR_up hp1 rfl
      have six : SI (k : Int) (upw (pw (m 193)) (32 + 2 * k) 0) D m1 := ⟨hpx, ew_modt ew t5 (fun i => by rw [e_m1, nu_no (by decide)]) (fun i i1 i2 => by rw [e_m1, nu_ne (by omega)]) (by rw [e_m1, nu_at]), fun x y hx hy => by rw [e_m1, nu_no (by decide)]; exact si.2.2 x y hx hy⟩
      have mw := modw_t (pw (m 193)) t5 0
      refine gx_ci (nx := 28) (S2 := []) (y_181 hT (modw_WB mw wb) (modw_WP mw wp) ((modw_D mw).mpr hD) (np := (pw (m 193) 0).toNat) (by rw [upw_ne (by omega)]; exact hnp) (wbf_t wf t5) (n := n) (by rw [upw_ne (by omega)]; exact hnw) (by omega) six) r_189_25 rfl rfl rfl rfl rfl (rcv_v rfl (ty_192 hT) (by decide) rfl (by decide)) rfl (by decide) rfl (fun x25 n25 q25 => ?_)
      obtain ⟨rid, rso, dg⟩ := q25
      show GX T 9 189 28 [(2, 192), (0, (k : Int))] [(0, x25)] n25 (RI (fun v m1 => (¬ (0 < m 193 9 ∧ 0 ≤ (k : Int) ∧ (k : Int) < m 193 5) → v = -2) ∧ ∀ q : Nat, (k : Int) = (q : Int) → ((0 < m 193 9 ∧ 0 ≤ (k : Int) ∧ (k : Int) < m 193 5) → ∃ D : Nat → Nat → Int, WyD (pw (m 193)) D ∧ RidF n (rowsW (upw (pw (m 193)) (32 + 2 * q) 0) D) v)))
      show GX T 9 189 28 [(2, 192), (0, (k : Int))] [(0, x25)] n25 (RI (fun v m1 => (¬ (0 < m 193 9 ∧ 0 ≤ (k : Int) ∧ (k : Int) < m 193 5) → v = -2) ∧ ∀ q : Nat, (k : Int) = (q : Int) → ((0 < m 193 9 ∧ 0 ≤ (k : Int) ∧ (k : Int) < m 193 5) → ∃ D : Nat → Nat → Int, WyD (pw (m 193)) D ∧ RidF n (rowsW (upw (pw (m 193)) (32 + 2 * q) 0) D) v)))
      exact gx_rt r_189_28 rfl rfl ⟨_, rfl, fun z => absurd ⟨h4, by omega, by omega⟩ z, fun q e _ => by
        have e2 : q = k := by omega
        subst e2
        refine ⟨D, hD, ?_⟩
        unfold rowsW
        rw [upw_ne (by omega)]
        exact rid⟩
    · refine gx_st (L' := [(2, 192), (0, a)]) (S' := [(0, (-2))]) r_189_16 rfl rfl rfl ?_
      exact gx_rt r_189_18 rfl rfl ⟨_, rfl, fun _ => rfl, fun q e z => absurd z (fun y => by first | exact h4 y.1 | omega)⟩
theorem y_190 (hT : TT T) (hp : PinR m) (hm : Gam m) (hx : Ext m) (wb : WB (pw (m 193))) (wp : WP (pw (m 193))) {n : Nat} (hn : m 193 1 = (n : Int)) (a : Int) : GX T 9 190 0 [(2, 192), (0, a)] [] m (RI (fun v m1 => (¬ (0 < m 193 9 ∧ 0 ≤ a ∧ a < m 193 0) → v = -2) ∧ ∀ q : Nat, a = (q : Int) → ((0 < m 193 9 ∧ 0 ≤ a ∧ a < m 193 0) → ∃ D : Nat → Nat → Int, WyD (pw (m 193)) D ∧ RidF n (rowsW (upw (pw (m 193)) 10 (ior ((pw (m 193)) 10) (ishl 1 (q : Int)))) D) v))) := by
  have b1 := gb_193_1 hm
  have hnw : pw (m 193) 1 = (n : Int) := by rw [pw_at (by decide) (by decide)]; exact hn
  have wf := wbf_pw hm
  have hnp : pw (m 193) 0 = ((pw (m 193) 0).toNat : Int) := by have := wb.1; omega
  refine gx_st (L' := [(2, 192), (0, a)]) (S' := [(2, 192)]) r_190_0 rfl rfl rfl ?_
  refine gx_ci (nx := 4) (S2 := []) (y_182 hT hp hm hx) r_190_1 rfl rfl rfl rfl rfl (rcv_v rfl (ty_192 hT) (by decide) rfl (by decide)) rfl (by decide) rfl (fun x1 n1 q1 => ?_)
  obtain ⟨e_x1, ⟨as1, _⟩, hp1, gm1, gx1, fs1, e193⟩ := q1
  rw [e_x1]
  obtain ⟨D, eD⟩ : ∃ D : Nat → Nat → Int, D = fun a b => n1 199 (7 * a + b) := ⟨_, rfl⟩
  have ew : EW (-1) n1 (pw (m 193)) := by
    have z := ew_as gm1 as1
    rw [e193] at z
    exact z
  have hD : WyD (pw (m 193)) D := wyD_pw.mpr (by
    rw [eD, ← e193]
    exact fs1)
  have si : SI (-1) (pw (m 193)) D n1 := ⟨hp1, ew, fun _ _ _ _ => by rw [eD]⟩
  show GX T 9 190 4 [(2, 192), (0, a)] [(0, (if 0 < m 193 9 then 1 else 0))] n1 (RI (fun v m1 => (¬ (0 < m 193 9 ∧ 0 ≤ a ∧ a < m 193 0) → v = -2) ∧ ∀ q : Nat, a = (q : Int) → ((0 < m 193 9 ∧ 0 ≤ a ∧ a < m 193 0) → ∃ D : Nat → Nat → Int, WyD (pw (m 193)) D ∧ RidF n (rowsW (upw (pw (m 193)) 10 (ior ((pw (m 193)) 10) (ishl 1 (q : Int)))) D) v)))
  show GX T 9 190 4 [(2, 192), (0, a)] [(0, (if 0 < m 193 9 then 1 else 0))] n1 (RI (fun v m1 => (¬ (0 < m 193 9 ∧ 0 ≤ a ∧ a < m 193 0) → v = -2) ∧ ∀ q : Nat, a = (q : Int) → ((0 < m 193 9 ∧ 0 ≤ a ∧ a < m 193 0) → ∃ D : Nat → Nat → Int, WyD (pw (m 193)) D ∧ RidF n (rowsW (upw (pw (m 193)) 10 (ior ((pw (m 193)) 10) (ishl 1 (q : Int)))) D) v)))
  refine gx_i0 (P := ¬ (0 < m 193 9)) r_190_4 (b01_eq) (fun h4 => ?_) (fun h4 => ?_)
  · refine gx_st (L' := [(2, 192), (0, a)]) (S' := [(0, (-2))]) r_190_16 rfl rfl rfl ?_
    exact gx_rt r_190_18 rfl rfl ⟨_, rfl, fun _ => rfl, fun q e z => absurd z (fun y => by first | exact h4 y.1 | omega)⟩
  · have h4 := Decidable.not_not.mp h4
    refine gx_st (L' := [(2, 192), (0, a)]) (S' := [(2, 192)]) r_190_7 rfl rfl rfl ?_
    refine gx_st (L' := [(2, 192), (0, a)]) (S' := [(0, a), (2, 192)]) r_190_8 rfl rfl rfl ?_
    refine gx_st (L' := [(2, 192), (0, a)]) (S' := [(1, a), (2, 192)]) r_190_9 rfl rfl rfl ?_
    refine gx_ci (nx := 13) (S2 := []) (x_91 hT gm1 a) r_190_10 rfl rfl rfl rfl rfl (rcv_v rfl (ty_192 hT) (by decide) rfl (by decide)) rfl (by decide) rfl (fun x10 n10 q10 => ?_)
    obtain ⟨e_x10, z_x10⟩ := q10
    obtain rfl := z_x10.symm
    rw [e193] at e_x10
    rw [e_x10]
    show GX T 9 190 13 [(2, 192), (0, a)] [(0, (if 0 ≤ a ∧ a ≤ m 193 0 - 1 then 1 else 0))] n1 (RI (fun v m1 => (¬ (0 < m 193 9 ∧ 0 ≤ a ∧ a < m 193 0) → v = -2) ∧ ∀ q : Nat, a = (q : Int) → ((0 < m 193 9 ∧ 0 ≤ a ∧ a < m 193 0) → ∃ D : Nat → Nat → Int, WyD (pw (m 193)) D ∧ RidF n (rowsW (upw (pw (m 193)) 10 (ior ((pw (m 193)) 10) (ishl 1 (q : Int)))) D) v)))
    refine gx_i0 (P := 0 ≤ a ∧ a ≤ m 193 0 - 1) r_190_13 (b01_ne) (fun h13 => ?_) (fun h13 => ?_)
    · obtain ⟨k, h_k⟩ : ∃ i : Nat, a = (i : Int) := ⟨a.toNat, by omega⟩
      rw [h_k]
      refine gx_st (L' := [(2, 192), (0, (k : Int))]) (S' := [(2, 192)]) r_190_19 rfl rfl rfl ?_
      refine gx_st (L' := [(2, 192), (0, (k : Int))]) (S' := [(0, 1), (2, 192)]) r_190_20 rfl rfl rfl ?_
      refine gx_st (L' := [(2, 192), (0, (k : Int))]) (S' := [(0, (k : Int)), (0, 1), (2, 192)]) r_190_21 rfl rfl rfl ?_
      refine gx_st (L' := [(2, 192), (0, (k : Int))]) (S' := [(0, (ishl 1 (k : Int))), (2, 192)]) r_190_22 rfl rfl rfl ?_
      obtain ⟨m1, e_m1⟩ : ∃ z, z = nu_up n1 192 25 ((ishl 1 (k : Int))) := ⟨_, rfl⟩
      refine gx_pf (x := (ishl 1 (k : Int))) 0 r_190_23 (rfl) (ty_192 hT) ⟨by decide, rfl, by decide, by decide⟩ rfl (fun z => absurd z (by decide)) (fun z => absurd z (by decide)) e_m1.symm ?_
      refine gx_st (L' := [(2, 192), (0, (k : Int))]) (S' := [(2, 192)]) r_190_26 rfl rfl rfl ?_
      have g10 := gb_193_10 hm
      have hpx : PinR m1 := by rw [e_m1]; exact PinR_up hp1 rfl
      have six : SI (-1) (upw (pw (m 193)) 10 (ior (pw (m 193) 10) (ishl 1 (k : Int)))) D m1 := ⟨hpx, ew_modb ew as1.2.2.1 (by rw [e193]; exact ior_0 g10) (fun i => by rw [e_m1, nu_no (by decide)]) (fun i i1 i2 i3 => by rw [e_m1, nu_ne (by omega)]) (by rw [e_m1, nu_at]), fun x y hx hy => by rw [e_m1, nu_no (by decide)]; exact si.2.2 x y hx hy⟩
      have mw := modw_b (pw (m 193)) (ior (pw (m 193) 10) (ishl 1 (k : Int)))
      refine gx_ci (nx := 30) (S2 := []) (y_181 hT (modw_WB mw wb) (modw_WP mw wp) ((modw_D mw).mpr hD) (np := (pw (m 193) 0).toNat) (by rw [upw_ne (by omega)]; exact hnp) (wbf_b wf) (n := n) (by rw [upw_ne (by omega)]; exact hnw) (by omega) six) r_190_27 rfl rfl rfl rfl rfl (rcv_v rfl (ty_192 hT) (by decide) rfl (by decide)) rfl (by decide) rfl (fun x27 n27 q27 => ?_)
      obtain ⟨rid, rso, dg⟩ := q27
      show GX T 9 190 30 [(2, 192), (0, (k : Int))] [(0, x27)] n27 (RI (fun v m1 => (¬ (0 < m 193 9 ∧ 0 ≤ (k : Int) ∧ (k : Int) < m 193 0) → v = -2) ∧ ∀ q : Nat, (k : Int) = (q : Int) → ((0 < m 193 9 ∧ 0 ≤ (k : Int) ∧ (k : Int) < m 193 0) → ∃ D : Nat → Nat → Int, WyD (pw (m 193)) D ∧ RidF n (rowsW (upw (pw (m 193)) 10 (ior ((pw (m 193)) 10) (ishl 1 (q : Int)))) D) v)))
      show GX T 9 190 30 [(2, 192), (0, (k : Int))] [(0, x27)] n27 (RI (fun v m1 => (¬ (0 < m 193 9 ∧ 0 ≤ (k : Int) ∧ (k : Int) < m 193 0) → v = -2) ∧ ∀ q : Nat, (k : Int) = (q : Int) → ((0 < m 193 9 ∧ 0 ≤ (k : Int) ∧ (k : Int) < m 193 0) → ∃ D : Nat → Nat → Int, WyD (pw (m 193)) D ∧ RidF n (rowsW (upw (pw (m 193)) 10 (ior ((pw (m 193)) 10) (ishl 1 (q : Int)))) D) v)))
      exact gx_rt r_190_30 rfl rfl ⟨_, rfl, fun z => absurd ⟨h4, by omega, by omega⟩ z, fun q e _ => by
        have e2 : q = k := by omega
        subst e2
        refine ⟨D, hD, ?_⟩
        unfold rowsW
        rw [upw_ne (by omega)]
        exact rid⟩
    · refine gx_st (L' := [(2, 192), (0, a)]) (S' := [(0, (-2))]) r_190_16 rfl rfl rfl ?_
      exact gx_rt r_190_18 rfl rfl ⟨_, rfl, fun _ => rfl, fun q e z => absurd z (fun y => by first | exact h4 y.1 | omega)⟩
end RIDR
