/-! acts answered -/
theorem r_11_0 : row 11 0 = some (.aload_n 0, 1, 0, 0, 0, 0) := rfl
theorem r_11_1 : row 11 1 = some (.iload_n 1, 2, 0, 0, 0, 0) := rfl
theorem r_11_2 : row 11 2 = some (.invokevirtual 169, 5, 72, 1, 0, 4044) := rfl
theorem r_11_5 : row 11 5 = some (.ifCond .eq 21, 8, 26, 0, 0, 0) := rfl
theorem r_11_8 : row 11 8 = some (.aload_n 0, 9, 0, 0, 0, 0) := rfl
theorem r_11_9 : row 11 9 = some (.getfield 19, 12, 9, 1, 2, 2159) := rfl
theorem r_11_12 : row 11 12 = some (.iload_n 1, 13, 0, 0, 0, 0) := rfl
theorem r_11_13 : row 11 13 = some (.aload_n 0, 14, 0, 0, 0, 0) := rfl
theorem r_11_14 : row 11 14 = some (.getfield 19, 17, 9, 1, 2, 2159) := rfl
theorem r_11_17 : row 11 17 = some (.getfield 140, 20, 3, 11, 12, 1114) := rfl
theorem r_11_20 : row 11 20 = some (.invokevirtual 180, 23, 261, 2, 10, 4057) := rfl
theorem r_11_23 : row 11 23 = some (.goto 5, 26, 28, 0, 0, 0) := rfl
theorem r_11_26 : row 11 26 = some (.bipush (-2), 28, (-2), 0, 0, 0) := rfl
theorem r_11_28 : row 11 28 = some (.ireturn, 29, 0, 0, 0, 0) := rfl
theorem r_27_0 : row 27 0 = some (.iload_n 1, 1, 0, 0, 0, 0) := rfl
theorem r_27_1 : row 27 1 = some (.aload_n 0, 2, 0, 0, 0, 0) := rfl
theorem r_27_2 : row 27 2 = some (.getfield 19, 5, 9, 1, 2, 2159) := rfl
theorem r_27_5 : row 27 5 = some (.getfield 152, 8, 3, 8, 10, 1101) := rfl
theorem r_27_8 : row 27 8 = some (.invokestatic 126, 11, 71, 2, 0, 4020) := rfl
theorem r_27_11 : row 27 11 = some (.ifCond .eq 11, 14, 22, 0, 0, 0) := rfl
theorem r_27_14 : row 27 14 = some (.iload_n 2, 15, 0, 0, 0, 0) := rfl
theorem r_27_15 : row 27 15 = some (.iconst 2, 16, 2, 0, 0, 0) := rfl
theorem r_27_16 : row 27 16 = some (.invokestatic 126, 19, 71, 2, 0, 4020) := rfl
theorem r_27_19 : row 27 19 = some (.ifCond .ne 6, 22, 25, 0, 0, 0) := rfl
theorem r_27_22 : row 27 22 = some (.bipush (-2), 24, (-2), 0, 0, 0) := rfl
theorem r_27_24 : row 27 24 = some (.ireturn, 25, 0, 0, 0, 0) := rfl
theorem r_27_25 : row 27 25 = some (.iconst 0, 26, 0, 0, 0, 0) := rfl
theorem r_27_26 : row 27 26 = some (.istore_n 3, 27, 0, 0, 0, 0) := rfl
theorem r_27_27 : row 27 27 = some (.iconst 0, 28, 0, 0, 0, 0) := rfl
theorem r_27_28 : row 27 28 = some (.istore 4, 30, 0, 0, 0, 0) := rfl
theorem r_27_30 : row 27 30 = some (.iload 4, 32, 0, 0, 0, 0) := rfl
theorem r_27_32 : row 27 32 = some (.aload_n 0, 33, 0, 0, 0, 0) := rfl
theorem r_27_33 : row 27 33 = some (.getfield 19, 36, 9, 1, 2, 2159) := rfl
theorem r_27_36 : row 27 36 = some (.getfield 152, 39, 3, 8, 10, 1101) := rfl
theorem r_27_39 : row 27 39 = some (.if_icmp .ge 24, 42, 63, 0, 0, 0) := rfl
theorem r_27_42 : row 27 42 = some (.iload_n 3, 43, 0, 0, 0, 0) := rfl
theorem r_27_43 : row 27 43 = some (.aload_n 0, 44, 0, 0, 0, 0) := rfl
theorem r_27_44 : row 27 44 = some (.getfield 39, 47, 9, 5, 2, 2163) := rfl
theorem r_27_47 : row 27 47 = some (.getfield 225, 50, 7, 9, 12, 2020) := rfl
theorem r_27_50 : row 27 50 = some (.iload 4, 52, 0, 0, 0, 0) := rfl
theorem r_27_52 : row 27 52 = some (.invokestatic 134, 55, 237, 2, 10, 4023) := rfl
theorem r_27_55 : row 27 55 = some (.iadd, 56, 0, 0, 0, 0) := rfl
theorem r_27_56 : row 27 56 = some (.istore_n 3, 57, 0, 0, 0, 0) := rfl
theorem r_27_57 : row 27 57 = some (.iinc 4 1, 60, 0, 0, 0, 0) := rfl
theorem r_27_60 : row 27 60 = some (.goto (-30), 63, 30, 0, 0, 0) := rfl
theorem r_27_63 : row 27 63 = some (.iload_n 3, 64, 0, 0, 0, 0) := rfl
theorem r_27_64 : row 27 64 = some (.ifCond .ne 5, 67, 69, 0, 0, 0) := rfl
theorem r_27_67 : row 27 67 = some (.iconst (-1), 68, (-1), 0, 0, 0) := rfl
theorem r_27_68 : row 27 68 = some (.ireturn, 69, 0, 0, 0, 0) := rfl
theorem r_27_69 : row 27 69 = some (.aload_n 0, 70, 0, 0, 0, 0) := rfl
theorem r_27_70 : row 27 70 = some (.getfield 39, 73, 9, 5, 2, 2163) := rfl
theorem r_27_73 : row 27 73 = some (.getfield 225, 76, 7, 9, 12, 2020) := rfl
theorem r_27_76 : row 27 76 = some (.iload_n 1, 77, 0, 0, 0, 0) := rfl
theorem r_27_77 : row 27 77 = some (.invokestatic 134, 80, 237, 2, 10, 4023) := rfl
theorem r_27_80 : row 27 80 = some (.i2l, 81, 0, 0, 0, 0) := rfl
theorem r_27_81 : row 27 81 = some (.iload_n 3, 82, 0, 0, 0, 0) := rfl
theorem r_27_82 : row 27 82 = some (.i2l, 83, 0, 0, 0, 0) := rfl
theorem r_27_83 : row 27 83 = some (.iload_n 2, 84, 0, 0, 0, 0) := rfl
theorem r_27_84 : row 27 84 = some (.invokestatic 231, 87, 293, 3, 10, 4143) := rfl
theorem r_27_87 : row 27 87 = some (.l2i, 88, 0, 0, 0, 0) := rfl
theorem r_27_88 : row 27 88 = some (.ireturn, 89, 0, 0, 0, 0) := rfl
theorem r_148_0 : row 148 0 = some (.aload_n 0, 1, 0, 0, 0, 0) := rfl
theorem r_148_1 : row 148 1 = some (.invokevirtual 330, 4, 146, 0, 0, 7078) := rfl
theorem r_148_4 : row 148 4 = some (.ifCond .eq 12, 7, 16, 0, 0, 0) := rfl
theorem r_148_7 : row 148 7 = some (.aload_n 0, 8, 0, 0, 0, 0) := rfl
theorem r_148_8 : row 148 8 = some (.iload_n 1, 9, 0, 0, 0, 0) := rfl
theorem r_148_9 : row 148 9 = some (.i2l, 10, 0, 0, 0, 0) := rfl
theorem r_148_10 : row 148 10 = some (.invokevirtual 234, 13, 91, 1, 0, 7046) := rfl
theorem r_148_13 : row 148 13 = some (.ifCond .ne 6, 16, 19, 0, 0, 0) := rfl
theorem r_148_16 : row 148 16 = some (.bipush (-2), 18, (-2), 0, 0, 0) := rfl
theorem r_148_18 : row 148 18 = some (.ireturn, 19, 0, 0, 0, 0) := rfl
theorem r_148_19 : row 148 19 = some (.aload_n 0, 20, 0, 0, 0, 0) := rfl
theorem r_148_20 : row 148 20 = some (.iconst 0, 21, 0, 0, 0, 0) := rfl
theorem r_148_21 : row 148 21 = some (.iload_n 1, 22, 0, 0, 0, 0) := rfl
theorem r_148_22 : row 148 22 = some (.invokevirtual 299, 25, 135, 2, 0, 7130) := rfl
theorem r_148_25 : row 148 25 = some (.ireturn, 26, 0, 0, 0, 0) := rfl
/-- what the reference has when it was asked, with the ways that it laid -/
def AskE (m m1 : Mm) : Prop := AsF m1 ∧ ActA m1 (m 193) ∧ RunP (-1) m1 (pw (m 193)) (fun a b => m1 199 (7 * a + b)) (m1 203) (beginF (pw (m 193)) 0 (pw (m 193) 47)) (m 193 1).toNat
theorem askE_R {m m1 : Mm} (e : m1 193 = m 193) (s : FS m1) (h : AskE m m1) : AskR m m1 := by
  unfold FS at s
  rw [e] at s
  exact ⟨_, s, h.2.1, h.2.2⟩
/-- what is carried is within bounds -/
theorem ask_car {m m1 : Mm} (hm : Gam m) (h : AskR m m1) : ∀ b : Nat, b < 5 → 0 ≤ m1 204 b ∧ m1 204 b ≤ 12 := by
  intro b hb
  obtain ⟨D, _, _, p⟩ := h
  have b1 := gb_193_1 hm
  have z := carN_le (deedF (pw (m 193)) D (m1 203) (beginF (pw (m 193)) 0 (pw (m 193) 47))) (fun h => runF (pw (m 193)) D (m1 203) (beginF (pw (m 193)) 0 (pw (m 193) 47)) h 1) (b : Int) (m 193 1).toNat
  rw [p.2.2.2.2 b hb]
  omega
section ACTS3
variable {T : List Kd} {m : Mm}
theorem y_146e (hT : TT T) (h136 : ConH T cn_136) (hp : PinR m) (hm : Gam m) (hx : Ext m) (wb : WB (pw (m 193))) (wp : WP (pw (m 193))) : GX T 10 146 0 [(2, 192)] [] m (RI (fun v m1 => v = (if 0 < m 193 9 then 1 else 0) ∧ AskE m m1 ∧ PinR m1 ∧ Gam m1 ∧ Ext m1 ∧ Fr [90021, 90022, 90023, 90024, 90025, 90026, 90027, 97999, 98999, 99999, 100999, 101999, 102999] m m1 ∧ FS m1)) := by
  refine gx_st (L' := [(2, 192)]) (S' := [(2, 192)]) r_146_0 rfl rfl rfl ?_
  refine gx_cv (nx := 4) (S2 := []) (y_143 hT hp hm hx) r_146_1 rfl rfl rfl rfl rfl (rcv_v rfl (ty_192 hT) (by decide) rfl (by decide)) rfl (by decide) rfl (fun n1 q1 => ?_)
  obtain ⟨⟨a1, a2⟩, gm1, gx1, f1, fs1⟩ := q1
  have hp1 : PinR n1 := PinR_fr f1 (by decide) hp
  have e193 : n1 193 = m 193 := funext (Fr_cell (o := 193) f1 (by decide) (by decide))
  show GX T 10 146 4 [(2, 192)] [] n1 (RI (fun v m1 => v = (if 0 < m 193 9 then 1 else 0) ∧ AskE m m1 ∧ PinR m1 ∧ Gam m1 ∧ Ext m1 ∧ Fr [90021, 90022, 90023, 90024, 90025, 90026, 90027, 97999, 98999, 99999, 100999, 101999, 102999] m m1 ∧ FS m1))
  refine gx_st (L' := [(2, 192)]) (S' := [(2, 192)]) r_146_4 rfl rfl rfl ?_
  have wb := wb
  have hw1 : WyD (pw (m 193)) (fun a b => n1 199 (7 * a + b)) := by
    rw [wyD_pw, ← e193]; exact fs1
  have h1 := gb_193_1 hm
  have ea := ew_as gm1 a1
  rw [e193] at ea
  have hSB : SB (pw (m 193)) (beginF (pw (m 193)) 0 (pw (m 193) 47)) 0 := sb_ask hm wp
  have hin := acts_in hx.1 a2
  refine gx_cv (nx := 8) (S2 := []) (gx_av (y_145 hT hp1 wb ea wp (D := fun a b => n1 199 (7 * a + b)) (fun _ _ _ _ => rfl) hw1 hin (n := (m 193 1).toNat) (by rw [pw_at (by decide) (by decide)]; omega) (by omega) hSB (fun t ht _ => by omega)) (x_145 hT h136 gm1 gx1 fs1)) r_146_5 rfl rfl rfl rfl rfl (rcv_v rfl (ty_192 hT) (by decide) rfl (by decide)) rfl (by decide) rfl (fun n5 q5 => ?_)
  obtain ⟨⟨r2, fg2⟩, gm2, gx2, f2, fs2⟩ := q5
  have e203 : n5 203 = n1 203 := funext (fun i => fg2 203 i (by omega) (by omega) (by omega))
  have e199 : n5 199 = n1 199 := funext (fun i => fg2 199 i (by omega) (by omega) (by omega))
  have hp2 : PinR n5 := pin_g hp1 fg2
  show GX T 10 146 8 [(2, 192)] [] n5 (RI (fun v m1 => v = (if 0 < m 193 9 then 1 else 0) ∧ AskE m m1 ∧ PinR m1 ∧ Gam m1 ∧ Ext m1 ∧ Fr [90021, 90022, 90023, 90024, 90025, 90026, 90027, 97999, 98999, 99999, 100999, 101999, 102999] m m1 ∧ FS m1))
  refine gx_st (L' := [(2, 192)]) (S' := [(2, 192)]) r_146_8 rfl rfl rfl ?_
  have e9 : n5 193 9 = m 193 9 := (fg2 193 9 (by omega) (by omega) (by omega)).trans (congrFun e193 9)
  refine gx_ci (nx := 12) (S2 := []) (x_90 hT gm2) r_146_9 rfl rfl rfl rfl rfl (rcv_v rfl (ty_192 hT) (by decide) rfl (by decide)) rfl (by decide) rfl (fun x9 n9 q9 => ?_)
  obtain ⟨e_x9, z_x9⟩ := q9
  obtain rfl := z_x9.symm
  rw [e_x9, e9]
  show GX T 10 146 12 [(2, 192)] [(0, (if 0 < m 193 9 then 1 else 0))] n5 (RI (fun v m1 => v = (if 0 < m 193 9 then 1 else 0) ∧ AskE m m1 ∧ PinR m1 ∧ Gam m1 ∧ Ext m1 ∧ Fr [90021, 90022, 90023, 90024, 90025, 90026, 90027, 97999, 98999, 99999, 100999, 101999, 102999] m m1 ∧ FS m1))
  exact gx_rb r_146_12 rfl (by split <;> omega) ⟨_, rfl, rfl, ⟨⟨(fg2 192 23 (by omega) (by omega) (by omega)).trans a1.1, (fg2 192 24 (by omega) (by omega) (by omega)).trans a1.2.1, (fg2 192 25 (by omega) (by omega) (by omega)).trans a1.2.2.1, (fg2 192 26 (by omega) (by omega) (by omega)).trans a1.2.2.2.1, (fg2 192 27 (by omega) (by omega) (by omega)).trans a1.2.2.2.2⟩, ⟨by rw [e203]; exact a2.1, by rw [e203]; exact a2.2⟩, by rw [e203, e199]; exact r2⟩, hp2, gm2, gx2, Fr_tr (Fr_sub f1 (by decide)) (Fr_sub f2 (by decide)), fs2⟩
theorem sh_l (hT : TT T) (hp : PinR m) {n : Nat} {Q : AV → Mm → Prop} (hn : m 4 8 = (n : Int)) (hn5 : n ≤ 5) (hc : ∀ i : Nat, i < n → 0 ≤ m 40 i ∧ m 40 i ≤ 12) {a b : Int} (hout : GX T 1 27 63 [(2, 1), (0, a), (0, b), (0, ((sumN (fun i => (m 40 i).toNat) n : Nat) : Int)), (0, (n : Int))] [] m Q) : ∀ (N k : Nat), n - k < N → k ≤ n → GX T 1 27 30 [(2, 1), (0, a), (0, b), (0, ((sumN (fun i => (m 40 i).toNat) k : Nat) : Int)), (0, (k : Int))] [] m Q := by
  intro N
  induction N with
  | zero => intro k hN; exact absurd hN (Nat.not_lt_zero _)
  | succ N ih =>
    intro k hN hk
    refine gx_st (L' := [(2, 1), (0, a), (0, b), (0, ((sumN (fun i => (m 40 i).toNat) k : Nat) : Int)), (0, (k : Int))]) (S' := [(0, (k : Int))]) r_27_30 rfl rfl rfl ?_
    refine gx_st (L' := [(2, 1), (0, a), (0, b), (0, ((sumN (fun i => (m 40 i).toNat) k : Nat) : Int)), (0, (k : Int))]) (S' := [(2, 1), (0, (k : Int))]) r_27_32 rfl rfl rfl ?_
    refine gx_gf (x := 4) 2 r_27_33 (rfl) (ty_1 hT) ⟨by decide, rfl, by decide, by decide⟩ rfl (fun _ => by omega) (pin_at hp (t := 4) rfl (by decide)) ?_
    refine gx_gf (x := (n : Int)) 0 r_27_36 (rfl) (ty_4 hT) ⟨by decide, rfl, by decide, by decide⟩ rfl (fun z => absurd z (by decide)) (hn) ?_
    refine gx_ic (P := (n : Int) ≤ (k : Int)) r_27_39 (rfl) (fun h39 => ?_) (fun h39 => ?_)
    · have hkn : k = n := by omega
      subst hkn
      exact hout
    · have hcs := sumN_le (g := (fun i => (m 40 i).toNat)) (c := 12) k (fun i hi => by have := hc i (by omega); show (m 40 i).toNat ≤ 12; omega)
      have hck := hc k (by omega)
      refine gx_st (L' := [(2, 1), (0, a), (0, b), (0, ((sumN (fun i => (m 40 i).toNat) k : Nat) : Int)), (0, (k : Int))]) (S' := [(0, ((sumN (fun i => (m 40 i).toNat) k : Nat) : Int))]) r_27_42 rfl rfl rfl ?_
      refine gx_st (L' := [(2, 1), (0, a), (0, b), (0, ((sumN (fun i => (m 40 i).toNat) k : Nat) : Int)), (0, (k : Int))]) (S' := [(2, 1), (0, ((sumN (fun i => (m 40 i).toNat) k : Nat) : Int))]) r_27_43 rfl rfl rfl ?_
      refine gx_gf (x := 28) 2 r_27_44 (rfl) (ty_1 hT) ⟨by decide, rfl, by decide, by decide⟩ rfl (fun _ => by omega) (pin_at hp (t := 28) rfl (by decide)) ?_
      refine gx_gf (x := 40) 2 r_27_47 (rfl) (ty_28 hT) ⟨by decide, rfl, by decide, by decide⟩ rfl (fun _ => by omega) (pin_at hp (t := 40) rfl (by decide)) ?_
      refine gx_st (L' := [(2, 1), (0, a), (0, b), (0, ((sumN (fun i => (m 40 i).toNat) k : Nat) : Int)), (0, (k : Int))]) (S' := [(0, (k : Int)), (2, 40), (0, ((sumN (fun i => (m 40 i).toNat) k : Nat) : Int))]) r_27_50 rfl rfl rfl ?_
      refine gx_ci (nx := 55) (S2 := [(0, ((sumN (fun i => (m 40 i).toNat) k : Nat) : Int))]) (c_237 (r := 40) (n := 5) (ty_40 hT) (by decide) (by decide) (k := k) (by omega)) r_27_52 rfl rfl rfl rfl rfl rfl rfl (by decide) rfl (fun x52 n52 q52 => ?_)
      obtain rfl := q52.1.symm
      obtain rfl := q52.2.symm
      show GX T 1 27 55 [(2, 1), (0, a), (0, b), (0, ((sumN (fun i => (m 40 i).toNat) k : Nat) : Int)), (0, (k : Int))] [(0, (m 40 k)), (0, ((sumN (fun i => (m 40 i).toNat) k : Nat) : Int))] m Q
      refine gx_ar (L' := [(2, 1), (0, a), (0, b), (0, ((sumN (fun i => (m 40 i).toNat) k : Nat) : Int)), (0, (k : Int))]) (S' := []) (t := 0) (e := w32 ((((sumN (fun i => (m 40 i).toNat) k : Nat) : Int)) + (m 40 k))) (z := ((sumN (fun i => (m 40 i).toNat) k : Nat) : Int) + (m 40 k)) r_27_55 rfl rfl rfl (w32_eq (by omega) (by omega) (by omega)) ?_
      refine gx_st (L' := [(2, 1), (0, a), (0, b), (0, ((sumN (fun i => (m 40 i).toNat) k : Nat) : Int) + (m 40 k)), (0, (k : Int))]) (S' := []) r_27_56 rfl rfl rfl ?_
      refine gx_li (z := (k : Int) + 1) (L' := [(2, 1), (0, a), (0, b), (0, ((sumN (fun i => (m 40 i).toNat) k : Nat) : Int) + (m 40 k)), (0, (k : Int) + 1)]) r_27_57 rfl (w32_eq (by omega) (by omega) (by omega)) rfl ?_
      refine gx_st (L' := [(2, 1), (0, a), (0, b), (0, ((sumN (fun i => (m 40 i).toNat) k : Nat) : Int) + (m 40 k)), (0, (k : Int) + 1)]) (S' := []) r_27_60 rfl rfl rfl ?_
      rw [show ((sumN (fun i => (m 40 i).toNat) k : Nat) : Int) + m 40 k = ((sumN (fun i => (m 40 i).toNat) (k + 1) : Nat) : Int) from by show _ = ((sumN (fun i => (m 40 i).toNat) k + (m 40 k).toNat : Nat) : Int); omega]
      rw [show (k : Int) + 1 = ((k + 1 : Nat) : Int) from rfl]
      exact ih (k + 1) (by omega) (by omega)
theorem sr4_l (hT : TT T) (hp : PinR m) {n : Nat} {Q : AV → Mm → Prop} (hn : m 193 7 = (n : Int)) (hn5 : n ≤ 5) (hc : ∀ i : Nat, i < n → 0 ≤ m 204 i ∧ m 204 i ≤ 12) {a b : Int} (hout : GX T 2 165 59 [(2, 192), (0, a), (0, b), (0, ((sumN (fun i => (m 204 i).toNat) n : Nat) : Int)), (0, (n : Int))] [] m Q) : ∀ (N k : Nat), n - k < N → k ≤ n → GX T 2 165 31 [(2, 192), (0, a), (0, b), (0, ((sumN (fun i => (m 204 i).toNat) k : Nat) : Int)), (0, (k : Int))] [] m Q := by
  intro N
  induction N with
  | zero => intro k hN; exact absurd hN (Nat.not_lt_zero _)
  | succ N ih =>
    intro k hN hk
    refine gx_st (L' := [(2, 192), (0, a), (0, b), (0, ((sumN (fun i => (m 204 i).toNat) k : Nat) : Int)), (0, (k : Int))]) (S' := [(0, (k : Int))]) r_165_31 rfl rfl rfl ?_
    refine gx_st (L' := [(2, 192), (0, a), (0, b), (0, ((sumN (fun i => (m 204 i).toNat) k : Nat) : Int)), (0, (k : Int))]) (S' := [(2, 192), (0, (k : Int))]) r_165_33 rfl rfl rfl ?_
    refine gx_gf (x := 193) 2 r_165_34 (rfl) (ty_192 hT) ⟨by decide, rfl, by decide, by decide⟩ rfl (fun _ => by omega) (pin_at hp (t := 193) rfl (by decide)) ?_
    refine gx_st (L' := [(2, 192), (0, a), (0, b), (0, ((sumN (fun i => (m 204 i).toNat) k : Nat) : Int)), (0, (k : Int))]) (S' := [(0, 7), (2, 193), (0, (k : Int))]) r_165_37 rfl rfl rfl ?_
    refine gx_ia (n := 7) (x := (n : Int)) r_165_39 (rfl) (ty_193 hT) (rfl) ⟨rfl, by decide⟩ (hn) ?_
    refine gx_ic (P := (n : Int) ≤ (k : Int)) r_165_40 (rfl) (fun h40 => ?_) (fun h40 => ?_)
    · have hkn : k = n := by omega
      subst hkn
      exact hout
    · have hcs := sumN_le (g := (fun i => (m 204 i).toNat)) (c := 12) k (fun i hi => by have := hc i (by omega); show (m 204 i).toNat ≤ 12; omega)
      have hck := hc k (by omega)
      refine gx_st (L' := [(2, 192), (0, a), (0, b), (0, ((sumN (fun i => (m 204 i).toNat) k : Nat) : Int)), (0, (k : Int))]) (S' := [(0, ((sumN (fun i => (m 204 i).toNat) k : Nat) : Int))]) r_165_43 rfl rfl rfl ?_
      refine gx_st (L' := [(2, 192), (0, a), (0, b), (0, ((sumN (fun i => (m 204 i).toNat) k : Nat) : Int)), (0, (k : Int))]) (S' := [(2, 192), (0, ((sumN (fun i => (m 204 i).toNat) k : Nat) : Int))]) r_165_44 rfl rfl rfl ?_
      refine gx_gf (x := 204) 2 r_165_45 (rfl) (ty_192 hT) ⟨by decide, rfl, by decide, by decide⟩ rfl (fun _ => by omega) (pin_at hp (t := 204) rfl (by decide)) ?_
      refine gx_st (L' := [(2, 192), (0, a), (0, b), (0, ((sumN (fun i => (m 204 i).toNat) k : Nat) : Int)), (0, (k : Int))]) (S' := [(0, (k : Int)), (2, 204), (0, ((sumN (fun i => (m 204 i).toNat) k : Nat) : Int))]) r_165_48 rfl rfl rfl ?_
      refine gx_ia (n := k) (x := (m 204 k)) r_165_50 (rfl) (ty_204 hT) (by omega) ⟨rfl, by omega⟩ (rfl) ?_
      refine gx_ar (L' := [(2, 192), (0, a), (0, b), (0, ((sumN (fun i => (m 204 i).toNat) k : Nat) : Int)), (0, (k : Int))]) (S' := []) (t := 0) (e := w32 ((((sumN (fun i => (m 204 i).toNat) k : Nat) : Int)) + (m 204 k))) (z := ((sumN (fun i => (m 204 i).toNat) k : Nat) : Int) + (m 204 k)) r_165_51 rfl rfl rfl (w32_eq (by omega) (by omega) (by omega)) ?_
      refine gx_st (L' := [(2, 192), (0, a), (0, b), (0, ((sumN (fun i => (m 204 i).toNat) k : Nat) : Int) + (m 204 k)), (0, (k : Int))]) (S' := []) r_165_52 rfl rfl rfl ?_
      refine gx_li (z := (k : Int) + 1) (L' := [(2, 192), (0, a), (0, b), (0, ((sumN (fun i => (m 204 i).toNat) k : Nat) : Int) + (m 204 k)), (0, (k : Int) + 1)]) r_165_53 rfl (w32_eq (by omega) (by omega) (by omega)) rfl ?_
      refine gx_st (L' := [(2, 192), (0, a), (0, b), (0, ((sumN (fun i => (m 204 i).toNat) k : Nat) : Int) + (m 204 k)), (0, (k : Int) + 1)]) (S' := []) r_165_56 rfl rfl rfl ?_
      rw [show ((sumN (fun i => (m 204 i).toNat) k : Nat) : Int) + m 204 k = ((sumN (fun i => (m 204 i).toNat) (k + 1) : Nat) : Int) from by show _ = ((sumN (fun i => (m 204 i).toNat) k + (m 204 k).toNat : Nat) : Int); omega]
      rw [show (k : Int) + 1 = ((k + 1 : Nat) : Int) from rfl]
      exact ih (k + 1) (by omega) (by omega)
theorem z_27 (hT : TT T) (hp : PinR m) (a b : Int) (h5 : m 4 8 ≤ 5) (hc : ∀ i : Nat, (i : Int) < m 4 8 → 0 ≤ m 40 i ∧ m 40 i ≤ 12) : GX T 1 27 0 [(2, 1), (0, a), (0, b), (9, 0), (9, 0)] [] m (RI (fun v m1 => (¬ ((0 ≤ a ∧ a < m 4 8) ∧ 0 ≤ b ∧ b < 2) → v = -2) ∧ ∀ i n : Nat, a = (i : Int) → m 4 8 = (n : Int) → ((0 ≤ a ∧ a < m 4 8) ∧ 0 ≤ b ∧ b < 2) → v = if sumN (fun i => (m 40 i).toNat) n = 0 then -1 else w32 (lowV (m 40 i).toNat (sumN (fun i => (m 40 i).toNat) n) b))) := by
  refine gx_st (L' := [(2, 1), (0, a), (0, b), (9, 0), (9, 0)]) (S' := [(0, a)]) r_27_0 rfl rfl rfl ?_
  refine gx_st (L' := [(2, 1), (0, a), (0, b), (9, 0), (9, 0)]) (S' := [(2, 1), (0, a)]) r_27_1 rfl rfl rfl ?_
  refine gx_gf (x := 4) 2 r_27_2 (rfl) (ty_1 hT) ⟨by decide, rfl, by decide, by decide⟩ rfl (fun _ => by omega) (pin_at hp (t := 4) rfl (by decide)) ?_
  refine gx_gf (x := (m 4 8)) 0 r_27_5 (rfl) (ty_4 hT) ⟨by decide, rfl, by decide, by decide⟩ rfl (fun z => absurd z (by decide)) (rfl) ?_
  refine gx_ci (nx := 11) (S2 := []) (x_71 a (m 4 8)) r_27_8 rfl rfl rfl rfl rfl rfl rfl (by decide) rfl (fun x8 n8 q8 => ?_)
  obtain rfl := q8.1.symm
  obtain rfl := q8.2.symm
  show GX T 1 27 11 [(2, 1), (0, a), (0, b), (9, 0), (9, 0)] [(0, (if 0 ≤ a ∧ a < (m 4 8) then 1 else 0))] m (RI (fun v m1 => (¬ ((0 ≤ a ∧ a < m 4 8) ∧ 0 ≤ b ∧ b < 2) → v = -2) ∧ ∀ i n : Nat, a = (i : Int) → m 4 8 = (n : Int) → ((0 ≤ a ∧ a < m 4 8) ∧ 0 ≤ b ∧ b < 2) → v = if sumN (fun i => (m 40 i).toNat) n = 0 then -1 else w32 (lowV (m 40 i).toNat (sumN (fun i => (m 40 i).toNat) n) b)))
  refine gx_i0 (P := ¬ (0 ≤ a ∧ a < (m 4 8))) r_27_11 (b01_eq) (fun h11 => ?_) (fun h11 => ?_)
  · refine gx_st (L' := [(2, 1), (0, a), (0, b), (9, 0), (9, 0)]) (S' := [(0, (-2))]) r_27_22 rfl rfl rfl ?_
    exact gx_rt r_27_24 rfl rfl ⟨_, rfl, fun _ => rfl, fun i n e1 e2 z => (by exfalso; omega)⟩
  · have h11 := Decidable.not_not.mp h11
    refine gx_st (L' := [(2, 1), (0, a), (0, b), (9, 0), (9, 0)]) (S' := [(0, b)]) r_27_14 rfl rfl rfl ?_
    refine gx_st (L' := [(2, 1), (0, a), (0, b), (9, 0), (9, 0)]) (S' := [(0, 2), (0, b)]) r_27_15 rfl rfl rfl ?_
    refine gx_ci (nx := 19) (S2 := []) (x_71 b 2) r_27_16 rfl rfl rfl rfl rfl rfl rfl (by decide) rfl (fun x16 n16 q16 => ?_)
    obtain rfl := q16.1.symm
    obtain rfl := q16.2.symm
    show GX T 1 27 19 [(2, 1), (0, a), (0, b), (9, 0), (9, 0)] [(0, (if 0 ≤ b ∧ b < 2 then 1 else 0))] m (RI (fun v m1 => (¬ ((0 ≤ a ∧ a < m 4 8) ∧ 0 ≤ b ∧ b < 2) → v = -2) ∧ ∀ i n : Nat, a = (i : Int) → m 4 8 = (n : Int) → ((0 ≤ a ∧ a < m 4 8) ∧ 0 ≤ b ∧ b < 2) → v = if sumN (fun i => (m 40 i).toNat) n = 0 then -1 else w32 (lowV (m 40 i).toNat (sumN (fun i => (m 40 i).toNat) n) b)))
    refine gx_i0 (P := 0 ≤ b ∧ b < 2) r_27_19 (b01_ne) (fun h19 => ?_) (fun h19 => ?_)
    · refine gx_st (L' := [(2, 1), (0, a), (0, b), (9, 0), (9, 0)]) (S' := [(0, 0)]) r_27_25 rfl rfl rfl ?_
      refine gx_st (L' := [(2, 1), (0, a), (0, b), (0, 0), (9, 0)]) (S' := []) r_27_26 rfl rfl rfl ?_
      refine gx_st (L' := [(2, 1), (0, a), (0, b), (0, 0), (9, 0)]) (S' := [(0, 0)]) r_27_27 rfl rfl rfl ?_
      refine gx_st (L' := [(2, 1), (0, a), (0, b), (0, 0), (0, 0)]) (S' := []) r_27_28 rfl rfl rfl ?_
      obtain ⟨n, hn⟩ : ∃ n : Nat, m 4 8 = (n : Int) := ⟨(m 4 8).toNat, by omega⟩
      have hc5 : ∀ i : Nat, i < n → 0 ≤ m 40 i ∧ m 40 i ≤ 12 := fun i hi => hc i (by omega)
      obtain ⟨ii, hii⟩ : ∃ i : Nat, a = (i : Int) := ⟨a.toNat, by omega⟩
      have hSb := sumN_le (g := (fun i => (m 40 i).toNat)) (c := 12) n (fun i hi => by have := hc5 i hi; show (m 40 i).toNat ≤ 12; omega)
      have hX := hc5 ii (by omega)
      obtain ⟨X, hXe⟩ : ∃ X : Nat, m 40 ii = (X : Int) := ⟨(m 40 ii).toNat, by omega⟩
      obtain ⟨S, hS⟩ : ∃ S : Nat, S = sumN (fun i => (m 40 i).toNat) n := ⟨_, rfl⟩
      refine sh_l hT hp hn (by omega) hc5 ?_ (n + 1) 0 (by omega) (by omega)
      rw [← hS] at hSb ⊢
      show GX T 1 27 63 [(2, 1), (0, a), (0, b), (0, (S : Int)), (0, (n : Int))] [] m (RI (fun v m1 => (¬ ((0 ≤ a ∧ a < m 4 8) ∧ 0 ≤ b ∧ b < 2) → v = -2) ∧ ∀ i n : Nat, a = (i : Int) → m 4 8 = (n : Int) → ((0 ≤ a ∧ a < m 4 8) ∧ 0 ≤ b ∧ b < 2) → v = if sumN (fun i => (m 40 i).toNat) n = 0 then -1 else w32 (lowV (m 40 i).toNat (sumN (fun i => (m 40 i).toNat) n) b)))
      refine gx_st (L' := [(2, 1), (0, a), (0, b), (0, (S : Int)), (0, (n : Int))]) (S' := [(0, (S : Int))]) r_27_63 rfl rfl rfl ?_
      refine gx_i0 (P := ¬ (S : Int) = 0) r_27_64 (rfl) (fun h64 => ?_) (fun h64 => ?_)
      · refine gx_st (L' := [(2, 1), (0, a), (0, b), (0, (S : Int)), (0, (n : Int))]) (S' := [(2, 1)]) r_27_69 rfl rfl rfl ?_
        refine gx_gf (x := 28) 2 r_27_70 (rfl) (ty_1 hT) ⟨by decide, rfl, by decide, by decide⟩ rfl (fun _ => by omega) (pin_at hp (t := 28) rfl (by decide)) ?_
        refine gx_gf (x := 40) 2 r_27_73 (rfl) (ty_28 hT) ⟨by decide, rfl, by decide, by decide⟩ rfl (fun _ => by omega) (pin_at hp (t := 40) rfl (by decide)) ?_
        rw [hii]
        refine gx_st (L' := [(2, 1), (0, (ii : Int)), (0, b), (0, (S : Int)), (0, (n : Int))]) (S' := [(0, (ii : Int)), (2, 40)]) r_27_76 rfl rfl rfl ?_
        refine gx_ci (nx := 80) (S2 := []) (c_237 (r := 40) (n := 5) (ty_40 hT) (by decide) (by decide) (k := ii) (by omega)) r_27_77 rfl rfl rfl rfl rfl rfl rfl (by decide) rfl (fun x77 n77 q77 => ?_)
        obtain ⟨e_x77, z_x77⟩ := q77
        obtain rfl := z_x77.symm
        rw [e_x77, hXe]
        show GX T 1 27 80 [(2, 1), (0, (ii : Int)), (0, b), (0, (S : Int)), (0, (n : Int))] [(0, (X : Int))] m (RI (fun v m1 => (¬ ((0 ≤ (ii : Int) ∧ (ii : Int) < m 4 8) ∧ 0 ≤ b ∧ b < 2) → v = -2) ∧ ∀ i n : Nat, (ii : Int) = (i : Int) → m 4 8 = (n : Int) → ((0 ≤ (ii : Int) ∧ (ii : Int) < m 4 8) ∧ 0 ≤ b ∧ b < 2) → v = if sumN (fun i => (m 40 i).toNat) n = 0 then -1 else w32 (lowV (m 40 i).toNat (sumN (fun i => (m 40 i).toNat) n) b)))
        refine gx_st (L' := [(2, 1), (0, (ii : Int)), (0, b), (0, (S : Int)), (0, (n : Int))]) (S' := [(1, (X : Int))]) r_27_80 rfl rfl rfl ?_
        refine gx_st (L' := [(2, 1), (0, (ii : Int)), (0, b), (0, (S : Int)), (0, (n : Int))]) (S' := [(0, (S : Int)), (1, (X : Int))]) r_27_81 rfl rfl rfl ?_
        refine gx_st (L' := [(2, 1), (0, (ii : Int)), (0, b), (0, (S : Int)), (0, (n : Int))]) (S' := [(1, (S : Int)), (1, (X : Int))]) r_27_82 rfl rfl rfl ?_
        refine gx_st (L' := [(2, 1), (0, (ii : Int)), (0, b), (0, (S : Int)), (0, (n : Int))]) (S' := [(0, b), (1, (S : Int)), (1, (X : Int))]) r_27_83 rfl rfl rfl ?_
        refine gx_cl (nx := 87) (S2 := []) (l_293 X S b (by omega) (by omega)) r_27_84 rfl rfl rfl rfl rfl rfl rfl (by decide) rfl (fun x84 n84 q84 => ?_)
        obtain ⟨e_x84, z_x84⟩ := q84
        obtain rfl := z_x84.symm
        rw [e_x84]
        show GX T 1 27 87 [(2, 1), (0, (ii : Int)), (0, b), (0, (S : Int)), (0, (n : Int))] [(1, (lowV X S b))] m (RI (fun v m1 => (¬ ((0 ≤ (ii : Int) ∧ (ii : Int) < m 4 8) ∧ 0 ≤ b ∧ b < 2) → v = -2) ∧ ∀ i n : Nat, (ii : Int) = (i : Int) → m 4 8 = (n : Int) → ((0 ≤ (ii : Int) ∧ (ii : Int) < m 4 8) ∧ 0 ≤ b ∧ b < 2) → v = if sumN (fun i => (m 40 i).toNat) n = 0 then -1 else w32 (lowV (m 40 i).toNat (sumN (fun i => (m 40 i).toNat) n) b)))
        refine gx_st (L' := [(2, 1), (0, (ii : Int)), (0, b), (0, (S : Int)), (0, (n : Int))]) (S' := [(0, (w32 ((lowV X S b))))]) r_27_87 rfl rfl rfl ?_
        have k87 := w32_in ((lowV X S b))
        unfold in32 at k87
        exact gx_rt r_27_88 rfl rfl ⟨_, rfl, fun z => absurd z (by omega), fun i2 n2 e1 e2 z => by rw [show n2 = n by omega, show i2 = ii by omega, ← hS, if_neg (by omega), hXe]; rfl⟩
      · have h64 := Decidable.not_not.mp h64
        refine gx_st (L' := [(2, 1), (0, a), (0, b), (0, (S : Int)), (0, (n : Int))]) (S' := [(0, (-1))]) r_27_67 rfl rfl rfl ?_
        exact gx_rt r_27_68 rfl rfl ⟨_, rfl, fun z => absurd z (by omega), fun i2 n2 e1 e2 z => by rw [show n2 = n by omega, ← hS, if_pos (by omega)]⟩
    · refine gx_st (L' := [(2, 1), (0, a), (0, b), (9, 0), (9, 0)]) (S' := [(0, (-2))]) r_27_22 rfl rfl rfl ?_
      exact gx_rt r_27_24 rfl rfl ⟨_, rfl, fun _ => rfl, fun i n e1 e2 z => (by exfalso; omega)⟩
theorem y_165 (hT : TT T) (h136 : ConH T cn_136) (hp : PinR m) (hm : Gam m) (hx : Ext m) (wb : WB (pw (m 193))) (wp : WP (pw (m 193))) (a b : Int) : GX T 11 165 0 [(2, 192), (0, a), (0, b), (9, 0), (9, 0)] [] m (RI (fun v m1 => AskR m m1 ∧ (¬ ((0 ≤ a ∧ a < m 193 7) ∧ 0 ≤ b ∧ b ≤ 1) → v = -2) ∧ ∀ i n : Nat, a = (i : Int) → m 193 7 = (n : Int) → ((0 ≤ a ∧ a < m 193 7) ∧ 0 ≤ b ∧ b ≤ 1) → v = if sumN (fun i => (m1 204 i).toNat) n = 0 then -1 else w32 (lowV (m1 204 i).toNat (sumN (fun i => (m1 204 i).toNat) n) b))) := by
  refine gx_st (L' := [(2, 192), (0, a), (0, b), (9, 0), (9, 0)]) (S' := [(2, 192)]) r_165_0 rfl rfl rfl ?_
  refine gx_ci (nx := 4) (S2 := []) (y_146 hT h136 hp hm hx wb wp) r_165_1 rfl rfl rfl rfl rfl (rcv_v rfl (ty_192 hT) (by decide) rfl (by decide)) rfl (by decide) rfl (fun x1 n1 q1 => ?_)
  obtain ⟨e_x1, ak, hp1, gm1, gx1, f1, fs1⟩ := q1
  have e193 : n1 193 = m 193 := funext (Fr_cell (o := 193) f1 (by decide) (by decide))
  show GX T 11 165 4 [(2, 192), (0, a), (0, b), (9, 0), (9, 0)] [(0, x1)] n1 (RI (fun v m1 => AskR m m1 ∧ (¬ ((0 ≤ a ∧ a < m 193 7) ∧ 0 ≤ b ∧ b ≤ 1) → v = -2) ∧ ∀ i n : Nat, a = (i : Int) → m 193 7 = (n : Int) → ((0 ≤ a ∧ a < m 193 7) ∧ 0 ≤ b ∧ b ≤ 1) → v = if sumN (fun i => (m1 204 i).toNat) n = 0 then -1 else w32 (lowV (m1 204 i).toNat (sumN (fun i => (m1 204 i).toNat) n) b)))
  show GX T 11 165 4 [(2, 192), (0, a), (0, b), (9, 0), (9, 0)] [(0, x1)] n1 (RI (fun v m1 => AskR m m1 ∧ (¬ ((0 ≤ a ∧ a < m 193 7) ∧ 0 ≤ b ∧ b ≤ 1) → v = -2) ∧ ∀ i n : Nat, a = (i : Int) → m 193 7 = (n : Int) → ((0 ≤ a ∧ a < m 193 7) ∧ 0 ≤ b ∧ b ≤ 1) → v = if sumN (fun i => (m1 204 i).toNat) n = 0 then -1 else w32 (lowV (m1 204 i).toNat (sumN (fun i => (m1 204 i).toNat) n) b)))
  refine gx_st (L' := [(2, 192), (0, a), (0, b), (9, 0), (9, 0)]) (S' := []) r_165_4 rfl rfl rfl ?_
  refine gx_st (L' := [(2, 192), (0, a), (0, b), (9, 0), (9, 0)]) (S' := [(2, 192)]) r_165_5 rfl rfl rfl ?_
  refine gx_st (L' := [(2, 192), (0, a), (0, b), (9, 0), (9, 0)]) (S' := [(0, a), (2, 192)]) r_165_6 rfl rfl rfl ?_
  refine gx_ci (nx := 10) (S2 := []) (x_96 hT gm1 a) r_165_7 rfl rfl rfl rfl rfl (rcv_v rfl (ty_192 hT) (by decide) rfl (by decide)) rfl (by decide) rfl (fun x7 n7 q7 => ?_)
  obtain ⟨e_x7, z_x7⟩ := q7
  obtain rfl := z_x7.symm
  rw [e_x7, e193]
  have b0 := gb_193_0 hm
  have b1 := gb_193_1 hm
  have b5 := gb_193_5 hm
  have b6 := gb_193_6 hm
  have b7 := gb_193_7 hm
  show GX T 11 165 10 [(2, 192), (0, a), (0, b), (9, 0), (9, 0)] [(0, (if 0 ≤ a ∧ a ≤ m 193 7 - 1 then 1 else 0))] n1 (RI (fun v m1 => AskR m m1 ∧ (¬ ((0 ≤ a ∧ a < m 193 7) ∧ 0 ≤ b ∧ b ≤ 1) → v = -2) ∧ ∀ i n : Nat, a = (i : Int) → m 193 7 = (n : Int) → ((0 ≤ a ∧ a < m 193 7) ∧ 0 ≤ b ∧ b ≤ 1) → v = if sumN (fun i => (m1 204 i).toNat) n = 0 then -1 else w32 (lowV (m1 204 i).toNat (sumN (fun i => (m1 204 i).toNat) n) b)))
  refine gx_i0 (P := ¬ (0 ≤ a ∧ a ≤ m 193 7 - 1)) r_165_10 (b01_eq) (fun h10 => ?_) (fun h10 => ?_)
  · refine gx_st (L' := [(2, 192), (0, a), (0, b), (9, 0), (9, 0)]) (S' := [(0, (-2))]) r_165_23 rfl rfl rfl ?_
    exact gx_rt r_165_25 rfl rfl ⟨_, rfl, ak, fun _ => rfl, fun i n e1 e2 z => (by exfalso; omega)⟩
  · have h10 := Decidable.not_not.mp h10
    refine gx_st (L' := [(2, 192), (0, a), (0, b), (9, 0), (9, 0)]) (S' := [(0, b)]) r_165_13 rfl rfl rfl ?_
    refine gx_st (L' := [(2, 192), (0, a), (0, b), (9, 0), (9, 0)]) (S' := [(1, b)]) r_165_14 rfl rfl rfl ?_
    refine gx_st (L' := [(2, 192), (0, a), (0, b), (9, 0), (9, 0)]) (S' := [(1, 0), (1, b)]) r_165_15 rfl rfl rfl ?_
    refine gx_st (L' := [(2, 192), (0, a), (0, b), (9, 0), (9, 0)]) (S' := [(1, 1), (1, 0), (1, b)]) r_165_16 rfl rfl rfl ?_
    refine gx_ci (nx := 20) (S2 := []) (x_86 b 0 1) r_165_17 rfl rfl rfl rfl rfl rfl rfl (by decide) rfl (fun x17 n17 q17 => ?_)
    obtain rfl := q17.1.symm
    obtain rfl := q17.2.symm
    show GX T 11 165 20 [(2, 192), (0, a), (0, b), (9, 0), (9, 0)] [(0, (if 0 ≤ b ∧ b ≤ 1 then 1 else 0))] n1 (RI (fun v m1 => AskR m m1 ∧ (¬ ((0 ≤ a ∧ a < m 193 7) ∧ 0 ≤ b ∧ b ≤ 1) → v = -2) ∧ ∀ i n : Nat, a = (i : Int) → m 193 7 = (n : Int) → ((0 ≤ a ∧ a < m 193 7) ∧ 0 ≤ b ∧ b ≤ 1) → v = if sumN (fun i => (m1 204 i).toNat) n = 0 then -1 else w32 (lowV (m1 204 i).toNat (sumN (fun i => (m1 204 i).toNat) n) b)))
    refine gx_i0 (P := 0 ≤ b ∧ b ≤ 1) r_165_20 (b01_ne) (fun h20 => ?_) (fun h20 => ?_)
    · refine gx_st (L' := [(2, 192), (0, a), (0, b), (9, 0), (9, 0)]) (S' := [(0, 0)]) r_165_26 rfl rfl rfl ?_
      refine gx_st (L' := [(2, 192), (0, a), (0, b), (0, 0), (9, 0)]) (S' := []) r_165_27 rfl rfl rfl ?_
      refine gx_st (L' := [(2, 192), (0, a), (0, b), (0, 0), (9, 0)]) (S' := [(0, 0)]) r_165_28 rfl rfl rfl ?_
      refine gx_st (L' := [(2, 192), (0, a), (0, b), (0, 0), (0, 0)]) (S' := []) r_165_29 rfl rfl rfl ?_
      obtain ⟨n, hn⟩ : ∃ n : Nat, m 193 7 = (n : Int) := ⟨(m 193 7).toNat, by omega⟩
      have hc := ask_car hm ak
      have hc5 : ∀ i : Nat, i < n → 0 ≤ n1 204 i ∧ n1 204 i ≤ 12 := fun i hi => hc i (by omega)
      obtain ⟨ii, hii⟩ : ∃ i : Nat, a = (i : Int) := ⟨a.toNat, by omega⟩
      have hSb := sumN_le (g := (fun i => (n1 204 i).toNat)) (c := 12) n (fun i hi => by have := hc5 i hi; show (n1 204 i).toNat ≤ 12; omega)
      have hX := hc5 ii (by omega)
      obtain ⟨X, hXe⟩ : ∃ X : Nat, n1 204 ii = (X : Int) := ⟨(n1 204 ii).toNat, by omega⟩
      obtain ⟨S, hS⟩ : ∃ S : Nat, S = sumN (fun i => (n1 204 i).toNat) n := ⟨_, rfl⟩
      refine gx_d (sr4_l hT hp1 (n := n) (by rw [e193]; exact hn) (by omega) hc5 ?_ (n + 1) 0 (by omega) (by omega)) (by decide)
      rw [← hS] at hSb ⊢
      show GX T 2 165 59 [(2, 192), (0, a), (0, b), (0, (S : Int)), (0, (n : Int))] [] n1 (RI (fun v m1 => AskR m m1 ∧ (¬ ((0 ≤ a ∧ a < m 193 7) ∧ 0 ≤ b ∧ b ≤ 1) → v = -2) ∧ ∀ i n : Nat, a = (i : Int) → m 193 7 = (n : Int) → ((0 ≤ a ∧ a < m 193 7) ∧ 0 ≤ b ∧ b ≤ 1) → v = if sumN (fun i => (m1 204 i).toNat) n = 0 then -1 else w32 (lowV (m1 204 i).toNat (sumN (fun i => (m1 204 i).toNat) n) b)))
      refine gx_st (L' := [(2, 192), (0, a), (0, b), (0, (S : Int)), (0, (n : Int))]) (S' := [(0, (S : Int))]) r_165_59 rfl rfl rfl ?_
      refine gx_i0 (P := ¬ (S : Int) = 0) r_165_60 (rfl) (fun h60 => ?_) (fun h60 => ?_)
      · refine gx_st (L' := [(2, 192), (0, a), (0, b), (0, (S : Int)), (0, (n : Int))]) (S' := [(2, 192)]) r_165_67 rfl rfl rfl ?_
        refine gx_gf (x := 204) 2 r_165_68 (rfl) (ty_192 hT) ⟨by decide, rfl, by decide, by decide⟩ rfl (fun _ => by omega) (pin_at hp1 (t := 204) rfl (by decide)) ?_
        rw [hii]
        refine gx_st (L' := [(2, 192), (0, (ii : Int)), (0, b), (0, (S : Int)), (0, (n : Int))]) (S' := [(0, (ii : Int)), (2, 204)]) r_165_71 rfl rfl rfl ?_
        refine gx_ia (n := ii) (x := (X : Int)) r_165_72 (rfl) (ty_204 hT) (by omega) ⟨rfl, by omega⟩ (hXe) ?_
        refine gx_st (L' := [(2, 192), (0, (ii : Int)), (0, b), (0, (S : Int)), (0, (n : Int))]) (S' := [(1, (X : Int))]) r_165_73 rfl rfl rfl ?_
        refine gx_st (L' := [(2, 192), (0, (ii : Int)), (0, b), (0, (S : Int)), (0, (n : Int))]) (S' := [(0, (S : Int)), (1, (X : Int))]) r_165_74 rfl rfl rfl ?_
        refine gx_st (L' := [(2, 192), (0, (ii : Int)), (0, b), (0, (S : Int)), (0, (n : Int))]) (S' := [(1, (S : Int)), (1, (X : Int))]) r_165_75 rfl rfl rfl ?_
        refine gx_st (L' := [(2, 192), (0, (ii : Int)), (0, b), (0, (S : Int)), (0, (n : Int))]) (S' := [(0, b), (1, (S : Int)), (1, (X : Int))]) r_165_76 rfl rfl rfl ?_
        refine gx_cl (nx := 80) (S2 := []) (l_164 X S b (by omega)) r_165_77 rfl rfl rfl rfl rfl rfl rfl (by decide) rfl (fun x77 n77 q77 => ?_)
        obtain ⟨e_x77, z_x77⟩ := q77
        obtain rfl := z_x77.symm
        rw [e_x77]
        show GX T 2 165 80 [(2, 192), (0, (ii : Int)), (0, b), (0, (S : Int)), (0, (n : Int))] [(1, (lowV X S b))] n1 (RI (fun v m1 => AskR m m1 ∧ (¬ ((0 ≤ (ii : Int) ∧ (ii : Int) < m 193 7) ∧ 0 ≤ b ∧ b ≤ 1) → v = -2) ∧ ∀ i n : Nat, (ii : Int) = (i : Int) → m 193 7 = (n : Int) → ((0 ≤ (ii : Int) ∧ (ii : Int) < m 193 7) ∧ 0 ≤ b ∧ b ≤ 1) → v = if sumN (fun i => (m1 204 i).toNat) n = 0 then -1 else w32 (lowV (m1 204 i).toNat (sumN (fun i => (m1 204 i).toNat) n) b)))
        refine gx_st (L' := [(2, 192), (0, (ii : Int)), (0, b), (0, (S : Int)), (0, (n : Int))]) (S' := [(0, (w32 ((lowV X S b))))]) r_165_80 rfl rfl rfl ?_
        have k80 := w32_in ((lowV X S b))
        unfold in32 at k80
        exact gx_rt r_165_81 rfl rfl ⟨_, rfl, ak, fun z => absurd z (by omega), fun i2 n2 e1 e2 z => by rw [show n2 = n by omega, show i2 = ii by omega, ← hS, if_neg (by omega), hXe]; rfl⟩
      · have h60 := Decidable.not_not.mp h60
        refine gx_st (L' := [(2, 192), (0, a), (0, b), (0, (S : Int)), (0, (n : Int))]) (S' := [(0, (-1))]) r_165_63 rfl rfl rfl ?_
        refine gx_st (L' := [(2, 192), (0, a), (0, b), (0, (S : Int)), (0, (n : Int))]) (S' := [(0, (-1))]) r_165_64 rfl rfl rfl ?_
        exact gx_rt r_165_81 rfl rfl ⟨_, rfl, ak, fun z => absurd z (by omega), fun i2 n2 e1 e2 z => by rw [show n2 = n by omega, ← hS, if_pos (by omega)]⟩
    · refine gx_st (L' := [(2, 192), (0, a), (0, b), (9, 0), (9, 0)]) (S' := [(0, (-2))]) r_165_23 rfl rfl rfl ?_
      exact gx_rt r_165_25 rfl rfl ⟨_, rfl, ak, fun _ => rfl, fun i n e1 e2 z => (by exfalso; omega)⟩
theorem z_11 (hT : TT T) (hp : PinR m) (a : Int) {w : Wd} (hw : WD m 4 w) {D : Nat → Nat → Int} (hD : WyD w D) {sq : Wd} (hs : ∀ t : Nat, t < 5 → (t : Int) < w 5 → m 6 t = sq (11 + t)) : GX T 3 11 0 [(2, 1), (0, a)] [] m (RI (fun v m1 => (¬ (0 ≤ a ∧ a < m 4 1) → v = -2) ∧ ∀ p : Nat, a = (p : Int) → (0 ≤ a ∧ a < m 4 1) → v = steerF w D p sq)) := by
  refine gx_st (L' := [(2, 1), (0, a)]) (S' := [(2, 1)]) r_11_0 rfl rfl rfl ?_
  refine gx_st (L' := [(2, 1), (0, a)]) (S' := [(0, a), (2, 1)]) r_11_1 rfl rfl rfl ?_
  refine gx_ci (nx := 5) (S2 := []) (x_72 hT hp a) r_11_2 rfl rfl rfl rfl rfl (rcv_v rfl (ty_1 hT) (by decide) rfl (by decide)) rfl (by decide) rfl (fun x2 n2 q2 => ?_)
  obtain rfl := q2.1.symm
  obtain rfl := q2.2.symm
  show GX T 3 11 5 [(2, 1), (0, a)] [(0, (if 0 ≤ a ∧ a < m 4 1 then 1 else 0))] m (RI (fun v m1 => (¬ (0 ≤ a ∧ a < m 4 1) → v = -2) ∧ ∀ p : Nat, a = (p : Int) → (0 ≤ a ∧ a < m 4 1) → v = steerF w D p sq))
  refine gx_i0 (P := ¬ (0 ≤ a ∧ a < m 4 1)) r_11_5 (b01_eq) (fun h5 => ?_) (fun h5 => ?_)
  · refine gx_st (L' := [(2, 1), (0, a)]) (S' := [(0, (-2))]) r_11_26 rfl rfl rfl ?_
    exact gx_rt r_11_28 rfl rfl ⟨_, rfl, fun _ => rfl, fun p e z => (by exfalso; omega)⟩
  · have h5 := Decidable.not_not.mp h5
    obtain ⟨ii, h_ii⟩ : ∃ i : Nat, a = (i : Int) := ⟨a.toNat, by omega⟩
    rw [h_ii]
    have e41 : m 4 1 = w 0 := hw.1.2.1
    refine gx_st (L' := [(2, 1), (0, (ii : Int))]) (S' := [(2, 1)]) r_11_8 rfl rfl rfl ?_
    refine gx_gf (x := 4) 2 r_11_9 (rfl) (ty_1 hT) ⟨by decide, rfl, by decide, by decide⟩ rfl (fun _ => by omega) (pin_at hp (t := 4) rfl (by decide)) ?_
    refine gx_st (L' := [(2, 1), (0, (ii : Int))]) (S' := [(0, (ii : Int)), (2, 4)]) r_11_12 rfl rfl rfl ?_
    refine gx_st (L' := [(2, 1), (0, (ii : Int))]) (S' := [(2, 1), (0, (ii : Int)), (2, 4)]) r_11_13 rfl rfl rfl ?_
    refine gx_gf (x := 4) 2 r_11_14 (rfl) (ty_1 hT) ⟨by decide, rfl, by decide, by decide⟩ rfl (fun _ => by omega) (pin_at hp (t := 4) rfl (by decide)) ?_
    refine gx_gf (x := 6) 2 r_11_17 (rfl) (ty_4 hT) ⟨by decide, rfl, by decide, by decide⟩ rfl (fun _ => by omega) (pin_at hp (t := 6) rfl (by decide)) ?_
    refine gx_ci (nx := 23) (S2 := []) (w_261 hT (IsleT_of hT rfl) (IsleR_of hp rfl) hw hD (s := sq) (l := 6) (p := ii) (ty_6 hT) (by decide) (by omega) hs) r_11_20 rfl rfl rfl rfl rfl (rcv_v rfl (ty_4 hT) (by decide) rfl (by decide)) rfl (by decide) rfl (fun x20 n20 q20 => ?_)
    obtain ⟨e_x20, z_x20⟩ := q20
    obtain rfl := z_x20.symm
    rw [e_x20]
    show GX T 3 11 23 [(2, 1), (0, (ii : Int))] [(0, (steerF w D ii sq))] m (RI (fun v m1 => (¬ (0 ≤ (ii : Int) ∧ (ii : Int) < m 4 1) → v = -2) ∧ ∀ p : Nat, (ii : Int) = (p : Int) → (0 ≤ (ii : Int) ∧ (ii : Int) < m 4 1) → v = steerF w D p sq))
    refine gx_st (L' := [(2, 1), (0, (ii : Int))]) (S' := [(0, (steerF w D ii sq))]) r_11_23 rfl rfl rfl ?_
    exact gx_rt r_11_28 rfl rfl ⟨_, rfl, fun z => absurd z (by omega), fun p e z => by rw [show p = ii by omega]⟩
theorem y_148 (hT : TT T) (h136 : ConH T cn_136) (hp : PinR m) (hm : Gam m) (hx : Ext m) (wb : WB (pw (m 193))) (wp : WP (pw (m 193))) (a : Int) : GX T 11 148 0 [(2, 192), (0, a)] [] m (RI (fun v m1 => FS m1 ∧ m1 193 = m 193 ∧ (¬ (0 < m 193 9 ∧ 0 ≤ a ∧ a < m 193 0) → v = -2) ∧ ∀ p : Nat, a = (p : Int) → (0 < m 193 9 ∧ 0 ≤ a ∧ a < m 193 0) → v = steerF (pw (m 193)) (fun x y => m1 199 (7 * x + y)) p (beginF (pw (m 193)) 0 (pw (m 193) 47)))) := by
  refine gx_st (L' := [(2, 192), (0, a)]) (S' := [(2, 192)]) r_148_0 rfl rfl rfl ?_
  refine gx_ci (nx := 4) (S2 := []) (y_146e hT h136 hp hm hx wb wp) r_148_1 rfl rfl rfl rfl rfl (rcv_v rfl (ty_192 hT) (by decide) rfl (by decide)) rfl (by decide) rfl (fun x1 n1 q1 => ?_)
  obtain ⟨e_x1, ae, hp1, gm1, gx1, f1, fs1⟩ := q1
  have e193 : n1 193 = m 193 := funext (Fr_cell (o := 193) f1 (by decide) (by decide))
  have ew := ew_as gm1 ae.1
  rw [e193] at ew
  rw [e_x1]
  show GX T 11 148 4 [(2, 192), (0, a)] [(0, (if 0 < m 193 9 then 1 else 0))] n1 (RI (fun v m1 => FS m1 ∧ m1 193 = m 193 ∧ (¬ (0 < m 193 9 ∧ 0 ≤ a ∧ a < m 193 0) → v = -2) ∧ ∀ p : Nat, a = (p : Int) → (0 < m 193 9 ∧ 0 ≤ a ∧ a < m 193 0) → v = steerF (pw (m 193)) (fun x y => m1 199 (7 * x + y)) p (beginF (pw (m 193)) 0 (pw (m 193) 47))))
  show GX T 11 148 4 [(2, 192), (0, a)] [(0, (if 0 < m 193 9 then 1 else 0))] n1 (RI (fun v m1 => FS m1 ∧ m1 193 = m 193 ∧ (¬ (0 < m 193 9 ∧ 0 ≤ a ∧ a < m 193 0) → v = -2) ∧ ∀ p : Nat, a = (p : Int) → (0 < m 193 9 ∧ 0 ≤ a ∧ a < m 193 0) → v = steerF (pw (m 193)) (fun x y => m1 199 (7 * x + y)) p (beginF (pw (m 193)) 0 (pw (m 193) 47))))
  refine gx_i0 (P := ¬ (0 < m 193 9)) r_148_4 (b01_eq) (fun h4 => ?_) (fun h4 => ?_)
  · refine gx_st (L' := [(2, 192), (0, a)]) (S' := [(0, (-2))]) r_148_16 rfl rfl rfl ?_
    exact gx_rt r_148_18 rfl rfl ⟨_, rfl, fs1, e193, fun _ => rfl, fun p e z => (by exfalso; omega)⟩
  · have h4 := Decidable.not_not.mp h4
    refine gx_st (L' := [(2, 192), (0, a)]) (S' := [(2, 192)]) r_148_7 rfl rfl rfl ?_
    refine gx_st (L' := [(2, 192), (0, a)]) (S' := [(0, a), (2, 192)]) r_148_8 rfl rfl rfl ?_
    refine gx_st (L' := [(2, 192), (0, a)]) (S' := [(1, a), (2, 192)]) r_148_9 rfl rfl rfl ?_
    refine gx_ci (nx := 13) (S2 := []) (x_91 hT gm1 a) r_148_10 rfl rfl rfl rfl rfl (rcv_v rfl (ty_192 hT) (by decide) rfl (by decide)) rfl (by decide) rfl (fun x10 n10 q10 => ?_)
    obtain ⟨e_x10, z_x10⟩ := q10
    obtain rfl := z_x10.symm
    rw [e_x10, e193]
    have b0 := gb_193_0 hm
    have b1 := gb_193_1 hm
    have b5 := gb_193_5 hm
    have b6 := gb_193_6 hm
    have b7 := gb_193_7 hm
    show GX T 11 148 13 [(2, 192), (0, a)] [(0, (if 0 ≤ a ∧ a ≤ m 193 0 - 1 then 1 else 0))] n1 (RI (fun v m1 => FS m1 ∧ m1 193 = m 193 ∧ (¬ (0 < m 193 9 ∧ 0 ≤ a ∧ a < m 193 0) → v = -2) ∧ ∀ p : Nat, a = (p : Int) → (0 < m 193 9 ∧ 0 ≤ a ∧ a < m 193 0) → v = steerF (pw (m 193)) (fun x y => m1 199 (7 * x + y)) p (beginF (pw (m 193)) 0 (pw (m 193) 47))))
    refine gx_i0 (P := 0 ≤ a ∧ a ≤ m 193 0 - 1) r_148_13 (b01_ne) (fun h13 => ?_) (fun h13 => ?_)
    · obtain ⟨ii, h_ii⟩ : ∃ i : Nat, a = (i : Int) := ⟨a.toNat, by omega⟩
      rw [h_ii]
      refine gx_st (L' := [(2, 192), (0, (ii : Int))]) (S' := [(2, 192)]) r_148_19 rfl rfl rfl ?_
      refine gx_st (L' := [(2, 192), (0, (ii : Int))]) (S' := [(0, 0), (2, 192)]) r_148_20 rfl rfl rfl ?_
      refine gx_st (L' := [(2, 192), (0, (ii : Int))]) (S' := [(0, (ii : Int)), (0, 0), (2, 192)]) r_148_21 rfl rfl rfl ?_
      refine gx_ci (nx := 25) (S2 := []) (y_135 hT hp1 wb ew (D := fun x y => n1 199 (7 * x + y)) (fun _ _ _ _ => rfl) wp (h := 0) (by decide) (s := beginF (pw (m 193)) 0 (pw (m 193) 47)) (ae.2.2.1 0 (Nat.zero_le _)) (fun t ht _ => by rw [begin_u ht, pw_at (by omega) (by omega)]; exact (gb_193_tf hm ht).1) (fun t ht _ => by omega) (p := ii) (by omega)) r_148_22 rfl rfl rfl rfl rfl (rcv_v rfl (ty_192 hT) (by decide) rfl (by decide)) rfl (by decide) rfl (fun x22 n22 q22 => ?_)
      obtain ⟨e_x22, z_x22⟩ := q22
      obtain rfl := z_x22.symm
      rw [e_x22]
      show GX T 11 148 25 [(2, 192), (0, (ii : Int))] [(0, (steerF (pw (m 193)) (fun x y => n1 199 (7 * x + y)) ii (beginF (pw (m 193)) 0 (pw (m 193) 47))))] n1 (RI (fun v m1 => FS m1 ∧ m1 193 = m 193 ∧ (¬ (0 < m 193 9 ∧ 0 ≤ (ii : Int) ∧ (ii : Int) < m 193 0) → v = -2) ∧ ∀ p : Nat, (ii : Int) = (p : Int) → (0 < m 193 9 ∧ 0 ≤ (ii : Int) ∧ (ii : Int) < m 193 0) → v = steerF (pw (m 193)) (fun x y => m1 199 (7 * x + y)) p (beginF (pw (m 193)) 0 (pw (m 193) 47))))
      exact gx_rt r_148_25 rfl rfl ⟨_, rfl, fs1, e193, fun z => absurd z (by omega), fun p e z => by rw [show p = ii by omega]⟩
    · refine gx_st (L' := [(2, 192), (0, a)]) (S' := [(0, (-2))]) r_148_16 rfl rfl rfl ?_
      exact gx_rt r_148_18 rfl rfl ⟨_, rfl, fs1, e193, fun _ => rfl, fun p e z => (by exfalso; omega)⟩
theorem v_214 (hT : TT T) (h136 : ConH T cn_136) (hm : Gam m) (hx : Ext m) (hp : PinR m) (wb : WB (pw (m 193))) (wp : WP (pw (m 193))) {t : Nat} (ht : t < 12) (ht1 : (t : Int) < m 193 1) {a : Int} (ha1 : 1 ≤ a) (ha2 : a ≤ 16) : GX T 12 214 0 [(2, 192), (0, (t : Int)), (0, a)] [] m (RI (fun v m1 => ∃ p : Mm, (¬ HasA (m 193) (t : Int) → (∀ i : Nat, m1 193 i = p 193 i) ∧ (∀ i : Nat, i < 57 → ¬ i = 8 → p 193 i = m 193 i) ∧ AskE p m1 ∧ FS m1 ∧ v = if canF (pw (p 193)) (fun a b => m1 199 (7 * a + b)) (t : Int) a (runF (pw (p 193)) (fun a b => m1 199 (7 * a + b)) (m1 203) (beginF (pw (p 193)) 0 (pw (p 193) 47)) t) = true then 1 else 0))) := by
  have bc := gb_193_8 hm
  obtain ⟨c, hc⟩ : ∃ c : Nat, m 193 8 = (c : Int) := ⟨(m 193 8).toNat, by omega⟩
  refine gx_st (L' := [(2, 192), (0, (t : Int)), (0, a)]) (S' := [(2, 192)]) r_214_0 rfl rfl rfl ?_
  refine gx_st (L' := [(2, 192), (0, (t : Int)), (0, a)]) (S' := [(0, (t : Int)), (2, 192)]) r_214_1 rfl rfl rfl ?_
  refine gx_ci (nx := 5) (S2 := []) (y_213 hT hm hp (t : Int)) r_214_2 rfl rfl rfl rfl rfl (rcv_v rfl (ty_192 hT) (by decide) rfl (by decide)) rfl (by decide) rfl (fun x2 n2 q2 => ?_)
  obtain ⟨hv, z2⟩ := q2
  obtain rfl := z2.symm
  show GX T 12 214 5 [(2, 192), (0, (t : Int)), (0, a)] [(0, x2)] m (RI (fun v m1 => ∃ p : Mm, (¬ HasA (m 193) (t : Int) → (∀ i : Nat, m1 193 i = p 193 i) ∧ (∀ i : Nat, i < 57 → ¬ i = 8 → p 193 i = m 193 i) ∧ AskE p m1 ∧ FS m1 ∧ v = if canF (pw (p 193)) (fun a b => m1 199 (7 * a + b)) (t : Int) a (runF (pw (p 193)) (fun a b => m1 199 (7 * a + b)) (m1 203) (beginF (pw (p 193)) 0 (pw (p 193) 47)) t) = true then 1 else 0)))
  refine gx_i0 (P := x2 = 0) r_214_5 (rfl) (fun h5 => ?_) (fun h5 => ?_)
  · have hno : ∀ i : Nat, i < c → ¬ m 193 (57 + i) / 100 = (t : Int) := by
      rcases hv with z | z
      · exact fun i hi y => z.2 ⟨i, by omega, by omega, y⟩
      · exact absurd (z.1.symm.trans h5) (by decide)
    have hc12 : c < 12 := acts_lt hx.1 hc (by omega) ht (fun i hi => gb_193_ac hm hi) hno
    refine gx_st (L' := [(2, 192), (0, (t : Int)), (0, a)]) (S' := [(2, 192)]) r_214_11 rfl rfl rfl ?_
    refine gx_gf (x := 193) 2 r_214_12 (rfl) (ty_192 hT) ⟨by decide, rfl, by decide, by decide⟩ rfl (fun _ => by omega) (pin_at hp (t := 193) rfl (by decide)) ?_
    refine gx_st (L' := [(2, 192), (0, (t : Int)), (0, a)]) (S' := [(0, 57), (2, 193)]) r_214_15 rfl rfl rfl ?_
    refine gx_st (L' := [(2, 192), (0, (t : Int)), (0, a)]) (S' := [(2, 192), (0, 57), (2, 193)]) r_214_17 rfl rfl rfl ?_
    refine gx_gf (x := 193) 2 r_214_18 (rfl) (ty_192 hT) ⟨by decide, rfl, by decide, by decide⟩ rfl (fun _ => by omega) (pin_at hp (t := 193) rfl (by decide)) ?_
    refine gx_st (L' := [(2, 192), (0, (t : Int)), (0, a)]) (S' := [(0, 8), (2, 193), (0, 57), (2, 193)]) r_214_21 rfl rfl rfl ?_
    refine gx_ia (n := 8) (x := (c : Int)) r_214_23 (rfl) (ty_193 hT) (rfl) ⟨rfl, by decide⟩ (hc) ?_
    refine gx_ar (L' := [(2, 192), (0, (t : Int)), (0, a)]) (S' := [(2, 193)]) (t := 0) (e := w32 (57 + (c : Int))) (z := (c : Int) + 57) r_214_24 rfl rfl rfl (w32_eq (by omega) (by omega) (by omega)) ?_
    refine gx_st (L' := [(2, 192), (0, (t : Int)), (0, a)]) (S' := [(0, 100), (0, (c : Int) + 57), (2, 193)]) r_214_25 rfl rfl rfl ?_
    refine gx_st (L' := [(2, 192), (0, (t : Int)), (0, a)]) (S' := [(0, (t : Int)), (0, 100), (0, (c : Int) + 57), (2, 193)]) r_214_27 rfl rfl rfl ?_
    refine gx_ar (L' := [(2, 192), (0, (t : Int)), (0, a)]) (S' := [(0, (c : Int) + 57), (2, 193)]) (t := 0) (e := w32 (100 * (t : Int))) (z := 100 * (t : Int)) r_214_28 rfl rfl rfl (w32_eq (by omega) (by omega) (by omega)) ?_
    refine gx_st (L' := [(2, 192), (0, (t : Int)), (0, a)]) (S' := [(0, a), (0, 100 * (t : Int)), (0, (c : Int) + 57), (2, 193)]) r_214_29 rfl rfl rfl ?_
    refine gx_ar (L' := [(2, 192), (0, (t : Int)), (0, a)]) (S' := [(0, (c : Int) + 57), (2, 193)]) (t := 0) (e := w32 ((100 * (t : Int)) + a)) (z := 100 * (t : Int) + a) r_214_30 rfl rfl rfl (w32_eq (by omega) (by omega) (by omega)) ?_
    obtain ⟨m1, e_m1⟩ : ∃ z, z = nu_up m 193 (57 + c) (100 * (t : Int) + a) := ⟨_, rfl⟩
    refine gx_is (n := 57 + c) (x := 100 * (t : Int) + a) r_214_31 (rfl) (by omega) (ty_193 hT) (by omega) ⟨rfl, by omega⟩ e_m1.symm ?_
    refine gx_st (L' := [(2, 192), (0, (t : Int)), (0, a)]) (S' := [(2, 192)]) r_214_32 rfl rfl rfl ?_
    refine gx_gf (x := 193) 2 r_214_33 (rfl) (ty_192 hT) ⟨by decide, rfl, by decide, by decide⟩ rfl (fun _ => by omega) (by show m1 192 1 = _; rw [e_m1, nu_no (by decide)]; exact pin_at hp (t := 193) rfl (by decide)) ?_
    refine gx_st (L' := [(2, 192), (0, (t : Int)), (0, a)]) (S' := [(0, 8), (2, 193)]) r_214_36 rfl rfl rfl ?_
    refine gx_st (L' := [(2, 192), (0, (t : Int)), (0, a)]) (S' := [(0, 8), (2, 193), (0, 8), (2, 193)]) r_214_38 rfl rfl rfl ?_
    refine gx_ia (n := 8) (x := (c : Int)) r_214_39 (rfl) (ty_193 hT) (rfl) ⟨rfl, by decide⟩ (by show m1 193 8 = _; rw [e_m1, nu_ne (by omega)]; exact hc) ?_
    refine gx_st (L' := [(2, 192), (0, (t : Int)), (0, a)]) (S' := [(0, 1), (0, (c : Int)), (0, 8), (2, 193)]) r_214_40 rfl rfl rfl ?_
    refine gx_ar (L' := [(2, 192), (0, (t : Int)), (0, a)]) (S' := [(0, 8), (2, 193)]) (t := 0) (e := w32 ((c : Int) + 1)) (z := (c : Int) + 1) r_214_41 rfl rfl rfl (w32_eq (by omega) (by omega) (by omega)) ?_
    obtain ⟨m2, e_m2⟩ : ∃ z, z = nu_up m1 193 8 ((c : Int) + 1) := ⟨_, rfl⟩
    refine gx_is (n := 8) (x := (c : Int) + 1) r_214_42 (rfl) (by omega) (ty_193 hT) (rfl) ⟨rfl, by decide⟩ e_m2.symm ?_
    have g1 : Gam m1 := by rw [e_m1]; exact gu_193_ac hm (k := c) (by omega) (by omega) (by omega)
    have g2 : Gam m2 := by rw [e_m2]; exact gu_193_8 g1 (by omega) (by omega)
    have hw : WOK (m2 193) := WOK_add hx.1 hc hc12 ha1 ha2 hno (by rw [e_m2, nu_at]) (by rw [e_m2, nu_ne (by omega), e_m1, nu_at]) (fun i h1 h2 => by rw [e_m2, nu_ne h1, e_m1, nu_ne h2])
    have x2_ : Ext m2 := Ext_w hx hw (by rw [e_m2, nu_row (by decide), e_m1, nu_row (by decide)]) (by rw [e_m2, nu_row (by decide), e_m1, nu_row (by decide)])
    have p2 : PinR m2 := by rw [e_m2, e_m1]; exact PinR_up (PinR_up hp rfl) rfl
    have key2 : ∀ i : Nat, i < 57 → ¬ i = 8 → m2 193 i = m 193 i := fun i h1 h2 => by rw [e_m2, nu_ne h2, e_m1, nu_ne (by omega)]
    have epw : pw (m2 193) = pw (m 193) := pw_eq key2
    refine gx_st (L' := [(2, 192), (0, (t : Int)), (0, a)]) (S' := [(2, 192)]) r_214_43 rfl rfl rfl ?_
    refine gx_ci (nx := 47) (S2 := []) (y_146e hT h136 p2 g2 x2_ (by rw [epw]; exact wb) (by rw [epw]; exact wp)) r_214_44 rfl rfl rfl rfl rfl (rcv_v rfl (ty_192 hT) (by decide) rfl (by decide)) rfl (by decide) rfl (fun x44 n44 q44 => ?_)
    obtain ⟨_, ae, hp1, gm1, gx1, f1, fs1⟩ := q44
    have e193 : n44 193 = m2 193 := funext (Fr_cell (o := 193) f1 (by decide) (by decide))
    have ew := ew_as gm1 ae.1
    rw [e193] at ew
    show GX T 12 214 47 [(2, 192), (0, (t : Int)), (0, a)] [(0, x44)] n44 (RI (fun v m1 => ∃ p : Mm, (¬ HasA (m 193) (t : Int) → (∀ i : Nat, m1 193 i = p 193 i) ∧ (∀ i : Nat, i < 57 → ¬ i = 8 → p 193 i = m 193 i) ∧ AskE p m1 ∧ FS m1 ∧ v = if canF (pw (p 193)) (fun a b => m1 199 (7 * a + b)) (t : Int) a (runF (pw (p 193)) (fun a b => m1 199 (7 * a + b)) (m1 203) (beginF (pw (p 193)) 0 (pw (p 193) 47)) t) = true then 1 else 0)))
    show GX T 12 214 47 [(2, 192), (0, (t : Int)), (0, a)] [(0, x44)] n44 (RI (fun v m1 => ∃ p : Mm, (¬ HasA (m 193) (t : Int) → (∀ i : Nat, m1 193 i = p 193 i) ∧ (∀ i : Nat, i < 57 → ¬ i = 8 → p 193 i = m 193 i) ∧ AskE p m1 ∧ FS m1 ∧ v = if canF (pw (p 193)) (fun a b => m1 199 (7 * a + b)) (t : Int) a (runF (pw (p 193)) (fun a b => m1 199 (7 * a + b)) (m1 203) (beginF (pw (p 193)) 0 (pw (p 193) 47)) t) = true then 1 else 0)))
    refine gx_st (L' := [(2, 192), (0, (t : Int)), (0, a)]) (S' := []) r_214_47 rfl rfl rfl ?_
    refine gx_st (L' := [(2, 192), (0, (t : Int)), (0, a)]) (S' := [(2, 192)]) r_214_48 rfl rfl rfl ?_
    refine gx_st (L' := [(2, 192), (0, (t : Int)), (0, a)]) (S' := [(0, (t : Int)), (2, 192)]) r_214_49 rfl rfl rfl ?_
    refine gx_st (L' := [(2, 192), (0, (t : Int)), (0, a)]) (S' := [(0, a), (0, (t : Int)), (2, 192)]) r_214_50 rfl rfl rfl ?_
    have hb1 := gb_193_1 hm
    have hin := acts_in hw ae.2.1
    have hWy : WyD (pw (m2 193)) (fun a b => n44 199 (7 * a + b)) := by
      rw [wyD_pw, ← e193]; exact fs1
    have wb2 : WB (pw (m2 193)) := by rw [epw]; exact wb
    have wp2 : WP (pw (m2 193)) := by rw [epw]; exact wp
    have sb := sb_run wb2 wp2 hWy hin (sb_ask g2 wp2) t (by omega)
    have e1 : m2 193 1 = m 193 1 := key2 1 (by decide) (by decide)
    refine gx_ci (nx := 54) (S2 := []) (y_137 hT hp1 wb2 ew (D := fun a b => n44 199 (7 * a + b)) (fun _ _ _ _ => rfl) (h := t) (by omega) (ae.2.2.1 t (by omega)) sb.1 (a := a) ⟨by omega, ha2⟩) r_214_51 rfl rfl rfl rfl rfl (rcv_v rfl (ty_192 hT) (by decide) rfl (by decide)) rfl (by decide) rfl (fun x51 n51 q51 => ?_)
    obtain ⟨e_x51, z_x51⟩ := q51
    obtain rfl := z_x51.symm
    rw [e_x51]
    show GX T 12 214 54 [(2, 192), (0, (t : Int)), (0, a)] [(0, (if canF (pw (m2 193)) (fun a b => n44 199 (7 * a + b)) (t : Int) a (runF (pw (m2 193)) (fun a b => n44 199 (7 * a + b)) (n44 203) (beginF (pw (m2 193)) 0 (pw (m2 193) 47)) t) = true then 1 else 0))] n44 (RI (fun v m1 => ∃ p : Mm, (¬ HasA (m 193) (t : Int) → (∀ i : Nat, m1 193 i = p 193 i) ∧ (∀ i : Nat, i < 57 → ¬ i = 8 → p 193 i = m 193 i) ∧ AskE p m1 ∧ FS m1 ∧ v = if canF (pw (p 193)) (fun a b => m1 199 (7 * a + b)) (t : Int) a (runF (pw (p 193)) (fun a b => m1 199 (7 * a + b)) (m1 203) (beginF (pw (p 193)) 0 (pw (p 193) 47)) t) = true then 1 else 0)))
    refine gx_i0 (P := ¬ (canF (pw (m2 193)) (fun a b => n44 199 (7 * a + b)) (t : Int) a (runF (pw (m2 193)) (fun a b => n44 199 (7 * a + b)) (n44 203) (beginF (pw (m2 193)) 0 (pw (m2 193) 47)) t) = true)) r_214_54 (b01_eq) (fun h54 => ?_) (fun h54 => ?_)
    · refine gx_st (L' := [(2, 192), (0, (t : Int)), (0, a)]) (S' := [(0, 0)]) r_214_61 rfl rfl rfl ?_
      exact gx_rt r_214_62 rfl rfl ⟨_, rfl, m2, fun _ => ⟨fun i => congrFun e193 i, key2, ae, fs1, by rw [if_neg h54]⟩⟩
    · have h54 := Decidable.not_not.mp h54
      refine gx_st (L' := [(2, 192), (0, (t : Int)), (0, a)]) (S' := [(0, 1)]) r_214_57 rfl rfl rfl ?_
      refine gx_st (L' := [(2, 192), (0, (t : Int)), (0, a)]) (S' := [(0, 1)]) r_214_58 rfl rfl rfl ?_
      exact gx_rt r_214_62 rfl rfl ⟨_, rfl, m2, fun _ => ⟨fun i => congrFun e193 i, key2, ae, fs1, by rw [if_pos h54]⟩⟩
  · refine gx_st (L' := [(2, 192), (0, (t : Int)), (0, a)]) (S' := [(0, (-5))]) r_214_8 rfl rfl rfl ?_
    have hA : HasA (m 193) (t : Int) := by
      rcases hv with z | z
      · exact absurd z.1 h5
      · exact z.2
    exact gx_rt r_214_10 rfl rfl ⟨_, rfl, m, fun z => absurd hA z⟩
theorem v_215 (hT : TT T) (h136 : ConH T cn_136) (hm : Gam m) (hx : Ext m) (hp : PinR m) (wb : WB (pw (m 193))) (wp : WP (pw (m 193))) (t : Int) : GX T 13 215 0 [(2, 192), (0, t)] [] m (RI (fun v m1 => ∀ h : Nat, t = (h : Int) → (h : Int) < m 193 1 → ∃ p : Mm, (¬ HasA (m 193) (h : Int) → (∀ i : Nat, m1 193 i = p 193 i) ∧ (∀ i : Nat, i < 57 → ¬ i = 8 → p 193 i = m 193 i) ∧ AskE p m1 ∧ FS m1 ∧ v = if canF (pw (p 193)) (fun a b => m1 199 (7 * a + b)) (h : Int) 1 (runF (pw (p 193)) (fun a b => m1 199 (7 * a + b)) (m1 203) (beginF (pw (p 193)) 0 (pw (p 193) 47)) h) = true then 1 else 0))) := by
  have b1 := gb_193_1 hm
  have b0 := gb_193_0 hm
  refine gx_st (L' := [(2, 192), (0, t)]) (S' := [(2, 192)]) r_215_0 rfl rfl rfl ?_
  refine gx_st (L' := [(2, 192), (0, t)]) (S' := [(0, t), (2, 192)]) r_215_1 rfl rfl rfl ?_
  refine gx_ci (nx := 5) (S2 := []) (x_92 hT hm t) r_215_2 rfl rfl rfl rfl rfl (rcv_v rfl (ty_192 hT) (by decide) rfl (by decide)) rfl (by decide) rfl (fun x2 n2 q2 => ?_)
  obtain rfl := q2.1.symm
  obtain rfl := q2.2.symm
  show GX T 13 215 5 [(2, 192), (0, t)] [(0, (if 0 ≤ t ∧ t ≤ m 193 1 - 1 then 1 else 0))] m (RI (fun v m1 => ∀ h : Nat, t = (h : Int) → (h : Int) < m 193 1 → ∃ p : Mm, (¬ HasA (m 193) (h : Int) → (∀ i : Nat, m1 193 i = p 193 i) ∧ (∀ i : Nat, i < 57 → ¬ i = 8 → p 193 i = m 193 i) ∧ AskE p m1 ∧ FS m1 ∧ v = if canF (pw (p 193)) (fun a b => m1 199 (7 * a + b)) (h : Int) 1 (runF (pw (p 193)) (fun a b => m1 199 (7 * a + b)) (m1 203) (beginF (pw (p 193)) 0 (pw (p 193) 47)) h) = true then 1 else 0)))
  refine gx_i0 (P := ¬ (0 ≤ t ∧ t ≤ m 193 1 - 1)) r_215_5 (b01_eq) (fun h5 => ?_) (fun h5 => ?_)
  · refine gx_st (L' := [(2, 192), (0, t)]) (S' := [(0, (-2))]) r_215_17 rfl rfl rfl ?_
    exact gx_rt r_215_19 rfl rfl ⟨_, rfl, fun h e h2 => (by exfalso; omega)⟩
  · have h5 := Decidable.not_not.mp h5
    obtain ⟨hh, hia⟩ : ∃ i : Nat, t = (i : Int) := ⟨t.toNat, by omega⟩
    have hh12 : hh < 12 := by omega
    rw [hia]
    refine gx_st (L' := [(2, 192), (0, (hh : Int))]) (S' := [(2, 192)]) r_215_8 rfl rfl rfl ?_
    refine gx_st (L' := [(2, 192), (0, (hh : Int))]) (S' := [(0, (hh : Int)), (2, 192)]) r_215_9 rfl rfl rfl ?_
    refine gx_st (L' := [(2, 192), (0, (hh : Int))]) (S' := [(0, 1), (0, (hh : Int)), (2, 192)]) r_215_10 rfl rfl rfl ?_
    refine gx_ci (nx := 14) (S2 := []) (v_214 hT h136 hm hx hp wb wp (t := hh) hh12 (by omega) (a := 1) (by omega) (by omega)) r_215_11 rfl rfl rfl rfl rfl (rcv_v rfl (ty_192 hT) (by decide) rfl (by decide)) rfl (by decide) rfl (fun x11 n11 q11 => ?_)
    show GX T 13 215 14 [(2, 192), (0, (hh : Int))] [(0, x11)] n11 (RI (fun v m1 => ∀ h : Nat, (hh : Int) = (h : Int) → (h : Int) < m 193 1 → ∃ p : Mm, (¬ HasA (m 193) (h : Int) → (∀ i : Nat, m1 193 i = p 193 i) ∧ (∀ i : Nat, i < 57 → ¬ i = 8 → p 193 i = m 193 i) ∧ AskE p m1 ∧ FS m1 ∧ v = if canF (pw (p 193)) (fun a b => m1 199 (7 * a + b)) (h : Int) 1 (runF (pw (p 193)) (fun a b => m1 199 (7 * a + b)) (m1 203) (beginF (pw (p 193)) 0 (pw (p 193) 47)) h) = true then 1 else 0)))
    refine gx_st (L' := [(2, 192), (0, (hh : Int))]) (S' := [(0, x11)]) r_215_14 rfl rfl rfl ?_
    exact gx_rt r_215_19 rfl rfl ⟨_, rfl, fun h e h2 => (show h = hh by omega) ▸ q11⟩
theorem v_217 (hT : TT T) (h136 : ConH T cn_136) (hm : Gam m) (hx : Ext m) (hp : PinR m) (wb : WB (pw (m 193))) (wp : WP (pw (m 193))) (t : Int) : GX T 13 217 0 [(2, 192), (0, t)] [] m (RI (fun v m1 => ∀ h : Nat, t = (h : Int) → (h : Int) < m 193 1 → ∃ p : Mm, (¬ HasA (m 193) (h : Int) → (∀ i : Nat, m1 193 i = p 193 i) ∧ (∀ i : Nat, i < 57 → ¬ i = 8 → p 193 i = m 193 i) ∧ AskE p m1 ∧ FS m1 ∧ v = if canF (pw (p 193)) (fun a b => m1 199 (7 * a + b)) (h : Int) 2 (runF (pw (p 193)) (fun a b => m1 199 (7 * a + b)) (m1 203) (beginF (pw (p 193)) 0 (pw (p 193) 47)) h) = true then 1 else 0))) := by
  have b1 := gb_193_1 hm
  have b0 := gb_193_0 hm
  refine gx_st (L' := [(2, 192), (0, t)]) (S' := [(2, 192)]) r_217_0 rfl rfl rfl ?_
  refine gx_st (L' := [(2, 192), (0, t)]) (S' := [(0, t), (2, 192)]) r_217_1 rfl rfl rfl ?_
  refine gx_ci (nx := 5) (S2 := []) (x_92 hT hm t) r_217_2 rfl rfl rfl rfl rfl (rcv_v rfl (ty_192 hT) (by decide) rfl (by decide)) rfl (by decide) rfl (fun x2 n2 q2 => ?_)
  obtain rfl := q2.1.symm
  obtain rfl := q2.2.symm
  show GX T 13 217 5 [(2, 192), (0, t)] [(0, (if 0 ≤ t ∧ t ≤ m 193 1 - 1 then 1 else 0))] m (RI (fun v m1 => ∀ h : Nat, t = (h : Int) → (h : Int) < m 193 1 → ∃ p : Mm, (¬ HasA (m 193) (h : Int) → (∀ i : Nat, m1 193 i = p 193 i) ∧ (∀ i : Nat, i < 57 → ¬ i = 8 → p 193 i = m 193 i) ∧ AskE p m1 ∧ FS m1 ∧ v = if canF (pw (p 193)) (fun a b => m1 199 (7 * a + b)) (h : Int) 2 (runF (pw (p 193)) (fun a b => m1 199 (7 * a + b)) (m1 203) (beginF (pw (p 193)) 0 (pw (p 193) 47)) h) = true then 1 else 0)))
  refine gx_i0 (P := ¬ (0 ≤ t ∧ t ≤ m 193 1 - 1)) r_217_5 (b01_eq) (fun h5 => ?_) (fun h5 => ?_)
  · refine gx_st (L' := [(2, 192), (0, t)]) (S' := [(0, (-2))]) r_217_17 rfl rfl rfl ?_
    exact gx_rt r_217_19 rfl rfl ⟨_, rfl, fun h e h2 => (by exfalso; omega)⟩
  · have h5 := Decidable.not_not.mp h5
    obtain ⟨hh, hia⟩ : ∃ i : Nat, t = (i : Int) := ⟨t.toNat, by omega⟩
    have hh12 : hh < 12 := by omega
    rw [hia]
    refine gx_st (L' := [(2, 192), (0, (hh : Int))]) (S' := [(2, 192)]) r_217_8 rfl rfl rfl ?_
    refine gx_st (L' := [(2, 192), (0, (hh : Int))]) (S' := [(0, (hh : Int)), (2, 192)]) r_217_9 rfl rfl rfl ?_
    refine gx_st (L' := [(2, 192), (0, (hh : Int))]) (S' := [(0, 2), (0, (hh : Int)), (2, 192)]) r_217_10 rfl rfl rfl ?_
    refine gx_ci (nx := 14) (S2 := []) (v_214 hT h136 hm hx hp wb wp (t := hh) hh12 (by omega) (a := 2) (by omega) (by omega)) r_217_11 rfl rfl rfl rfl rfl (rcv_v rfl (ty_192 hT) (by decide) rfl (by decide)) rfl (by decide) rfl (fun x11 n11 q11 => ?_)
    show GX T 13 217 14 [(2, 192), (0, (hh : Int))] [(0, x11)] n11 (RI (fun v m1 => ∀ h : Nat, (hh : Int) = (h : Int) → (h : Int) < m 193 1 → ∃ p : Mm, (¬ HasA (m 193) (h : Int) → (∀ i : Nat, m1 193 i = p 193 i) ∧ (∀ i : Nat, i < 57 → ¬ i = 8 → p 193 i = m 193 i) ∧ AskE p m1 ∧ FS m1 ∧ v = if canF (pw (p 193)) (fun a b => m1 199 (7 * a + b)) (h : Int) 2 (runF (pw (p 193)) (fun a b => m1 199 (7 * a + b)) (m1 203) (beginF (pw (p 193)) 0 (pw (p 193) 47)) h) = true then 1 else 0)))
    refine gx_st (L' := [(2, 192), (0, (hh : Int))]) (S' := [(0, x11)]) r_217_14 rfl rfl rfl ?_
    exact gx_rt r_217_19 rfl rfl ⟨_, rfl, fun h e h2 => (show h = hh by omega) ▸ q11⟩
theorem v_216 (hT : TT T) (h136 : ConH T cn_136) (hm : Gam m) (hx : Ext m) (hp : PinR m) (wb : WB (pw (m 193))) (wp : WP (pw (m 193))) (t p : Int) : GX T 13 216 0 [(2, 192), (0, t), (0, p)] [] m (RI (fun v m1 => ∀ h : Nat, t = (h : Int) → (h : Int) < m 193 1 → (0 ≤ p ∧ p < m 193 0) → ∃ q : Mm, (¬ HasA (m 193) (h : Int) → (∀ i : Nat, m1 193 i = q 193 i) ∧ (∀ i : Nat, i < 57 → ¬ i = 8 → q 193 i = m 193 i) ∧ AskE q m1 ∧ FS m1 ∧ v = if canF (pw (q 193)) (fun a b => m1 199 (7 * a + b)) (h : Int) (p + 10) (runF (pw (q 193)) (fun a b => m1 199 (7 * a + b)) (m1 203) (beginF (pw (q 193)) 0 (pw (q 193) 47)) h) = true then 1 else 0))) := by
  have b1 := gb_193_1 hm
  have b0 := gb_193_0 hm
  refine gx_st (L' := [(2, 192), (0, t), (0, p)]) (S' := [(2, 192)]) r_216_0 rfl rfl rfl ?_
  refine gx_st (L' := [(2, 192), (0, t), (0, p)]) (S' := [(0, t), (2, 192)]) r_216_1 rfl rfl rfl ?_
  refine gx_ci (nx := 5) (S2 := []) (x_92 hT hm t) r_216_2 rfl rfl rfl rfl rfl (rcv_v rfl (ty_192 hT) (by decide) rfl (by decide)) rfl (by decide) rfl (fun x2 n2 q2 => ?_)
  obtain rfl := q2.1.symm
  obtain rfl := q2.2.symm
  show GX T 13 216 5 [(2, 192), (0, t), (0, p)] [(0, (if 0 ≤ t ∧ t ≤ m 193 1 - 1 then 1 else 0))] m (RI (fun v m1 => ∀ h : Nat, t = (h : Int) → (h : Int) < m 193 1 → (0 ≤ p ∧ p < m 193 0) → ∃ q : Mm, (¬ HasA (m 193) (h : Int) → (∀ i : Nat, m1 193 i = q 193 i) ∧ (∀ i : Nat, i < 57 → ¬ i = 8 → q 193 i = m 193 i) ∧ AskE q m1 ∧ FS m1 ∧ v = if canF (pw (q 193)) (fun a b => m1 199 (7 * a + b)) (h : Int) (p + 10) (runF (pw (q 193)) (fun a b => m1 199 (7 * a + b)) (m1 203) (beginF (pw (q 193)) 0 (pw (q 193) 47)) h) = true then 1 else 0)))
  refine gx_i0 (P := ¬ (0 ≤ t ∧ t ≤ m 193 1 - 1)) r_216_5 (b01_eq) (fun h5 => ?_) (fun h5 => ?_)
  · refine gx_st (L' := [(2, 192), (0, t), (0, p)]) (S' := [(0, (-2))]) r_216_29 rfl rfl rfl ?_
    exact gx_rt r_216_31 rfl rfl ⟨_, rfl, fun h e h2 h3 => (by exfalso; omega)⟩
  · have h5 := Decidable.not_not.mp h5
    refine gx_st (L' := [(2, 192), (0, t), (0, p)]) (S' := [(2, 192)]) r_216_8 rfl rfl rfl ?_
    refine gx_st (L' := [(2, 192), (0, t), (0, p)]) (S' := [(0, p), (2, 192)]) r_216_9 rfl rfl rfl ?_
    refine gx_st (L' := [(2, 192), (0, t), (0, p)]) (S' := [(1, p), (2, 192)]) r_216_10 rfl rfl rfl ?_
    refine gx_ci (nx := 14) (S2 := []) (x_91 hT hm p) r_216_11 rfl rfl rfl rfl rfl (rcv_v rfl (ty_192 hT) (by decide) rfl (by decide)) rfl (by decide) rfl (fun x11 n11 q11 => ?_)
    obtain rfl := q11.1.symm
    obtain rfl := q11.2.symm
    show GX T 13 216 14 [(2, 192), (0, t), (0, p)] [(0, (if 0 ≤ p ∧ p ≤ m 193 0 - 1 then 1 else 0))] m (RI (fun v m1 => ∀ h : Nat, t = (h : Int) → (h : Int) < m 193 1 → (0 ≤ p ∧ p < m 193 0) → ∃ q : Mm, (¬ HasA (m 193) (h : Int) → (∀ i : Nat, m1 193 i = q 193 i) ∧ (∀ i : Nat, i < 57 → ¬ i = 8 → q 193 i = m 193 i) ∧ AskE q m1 ∧ FS m1 ∧ v = if canF (pw (q 193)) (fun a b => m1 199 (7 * a + b)) (h : Int) (p + 10) (runF (pw (q 193)) (fun a b => m1 199 (7 * a + b)) (m1 203) (beginF (pw (q 193)) 0 (pw (q 193) 47)) h) = true then 1 else 0)))
    refine gx_i0 (P := ¬ (0 ≤ p ∧ p ≤ m 193 0 - 1)) r_216_14 (b01_eq) (fun h14 => ?_) (fun h14 => ?_)
    · refine gx_st (L' := [(2, 192), (0, t), (0, p)]) (S' := [(0, (-2))]) r_216_29 rfl rfl rfl ?_
      exact gx_rt r_216_31 rfl rfl ⟨_, rfl, fun h e h2 h3 => (by exfalso; omega)⟩
    · have h14 := Decidable.not_not.mp h14
      obtain ⟨hh, hia⟩ : ∃ i : Nat, t = (i : Int) := ⟨t.toNat, by omega⟩
      have hh12 : hh < 12 := by omega
      rw [hia]
      refine gx_st (L' := [(2, 192), (0, (hh : Int)), (0, p)]) (S' := [(2, 192)]) r_216_17 rfl rfl rfl ?_
      refine gx_st (L' := [(2, 192), (0, (hh : Int)), (0, p)]) (S' := [(0, (hh : Int)), (2, 192)]) r_216_18 rfl rfl rfl ?_
      refine gx_st (L' := [(2, 192), (0, (hh : Int)), (0, p)]) (S' := [(0, 10), (0, (hh : Int)), (2, 192)]) r_216_19 rfl rfl rfl ?_
      refine gx_st (L' := [(2, 192), (0, (hh : Int)), (0, p)]) (S' := [(0, p), (0, 10), (0, (hh : Int)), (2, 192)]) r_216_21 rfl rfl rfl ?_
      refine gx_ar (L' := [(2, 192), (0, (hh : Int)), (0, p)]) (S' := [(0, (hh : Int)), (2, 192)]) (t := 0) (e := w32 (10 + p)) (z := p + 10) r_216_22 rfl rfl rfl (w32_eq (by omega) (by omega) (by omega)) ?_
      refine gx_ci (nx := 26) (S2 := []) (v_214 hT h136 hm hx hp wb wp (t := hh) hh12 (by omega) (a := (p + 10)) (by omega) (by omega)) r_216_23 rfl rfl rfl rfl rfl (rcv_v rfl (ty_192 hT) (by decide) rfl (by decide)) rfl (by decide) rfl (fun x23 n23 q23 => ?_)
      show GX T 13 216 26 [(2, 192), (0, (hh : Int)), (0, p)] [(0, x23)] n23 (RI (fun v m1 => ∀ h : Nat, (hh : Int) = (h : Int) → (h : Int) < m 193 1 → (0 ≤ p ∧ p < m 193 0) → ∃ q : Mm, (¬ HasA (m 193) (h : Int) → (∀ i : Nat, m1 193 i = q 193 i) ∧ (∀ i : Nat, i < 57 → ¬ i = 8 → q 193 i = m 193 i) ∧ AskE q m1 ∧ FS m1 ∧ v = if canF (pw (q 193)) (fun a b => m1 199 (7 * a + b)) (h : Int) (p + 10) (runF (pw (q 193)) (fun a b => m1 199 (7 * a + b)) (m1 203) (beginF (pw (q 193)) 0 (pw (q 193) 47)) h) = true then 1 else 0)))
      refine gx_st (L' := [(2, 192), (0, (hh : Int)), (0, p)]) (S' := [(0, x23)]) r_216_26 rfl rfl rfl ?_
      exact gx_rt r_216_31 rfl rfl ⟨_, rfl, fun h e h2 h3 => (show h = hh by omega) ▸ q23⟩
end ACTS3
/-- what is carried, as the class's story tells -/
theorem st_car {T : List Kd} {m : Mm} (hT : TT T) (hm : Gam m) (hx : Ext m) (r : WX m) (sx : StoryX m) (z : ZX m) : ∀ i : Nat, (i : Int) < m 4 8 → 0 ≤ m 40 i ∧ m 40 i ≤ 12 := by
  intro i hi
  have s2 := wa_s2 hm r
  obtain ⟨D, n, n1, n2, s, -⟩ := st_told hT hm hx r sx (zx_told r z (by omega))
  have y := carN_le (deedF (pw (m 193)) D (m 23) (beginF (pw (m 193)) 0 (pw (m 193) 47))) (fun h => runF (pw (m 193)) D (m 23) (beginF (pw (m 193)) 0 (pw (m 193) 47)) h 1) (i : Int) n
  have e : m 40 i = _ := s.1.2.2.1 i (by omega)
  omega
theorem q_27 {m m1 m2 : Mm} {a b v1 v2 : Int} (hm : Gam m) (hx : Ext m) (r : WX m) (sx : StoryX m) (z : ZX m) (e : m1 193 = m 193) (h1 : (¬ ((0 ≤ a ∧ a < m 4 8) ∧ 0 ≤ b ∧ b < 2) → v1 = -2) ∧ ∀ i n : Nat, a = (i : Int) → m 4 8 = (n : Int) → ((0 ≤ a ∧ a < m 4 8) ∧ 0 ≤ b ∧ b < 2) → v1 = if sumN (fun i => (m 40 i).toNat) n = 0 then -1 else w32 (lowV (m 40 i).toNat (sumN (fun i => (m 40 i).toNat) n) b)) (h2 : AskR m1 m2 ∧ (¬ ((0 ≤ a ∧ a < m1 193 7) ∧ 0 ≤ b ∧ b ≤ 1) → v2 = -2) ∧ ∀ i n : Nat, a = (i : Int) → m1 193 7 = (n : Int) → ((0 ≤ a ∧ a < m1 193 7) ∧ 0 ≤ b ∧ b ≤ 1) → v2 = if sumN (fun i => (m2 204 i).toNat) n = 0 then -1 else w32 (lowV (m2 204 i).toNat (sumN (fun i => (m2 204 i).toNat) n) b)) : v1 = v2 := by
  have e48 : m 4 8 = m 193 7 := r.1.1.2.2.2.2.2.2.2.2.1
  have b7 := gb_193_7 hm
  obtain ⟨k, g1, g2⟩ := h2
  rw [e] at g1 g2
  by_cases c : (0 ≤ a ∧ a < m 4 8) ∧ 0 ≤ b ∧ b < 2
  · obtain ⟨i, hi⟩ : ∃ i : Nat, a = (i : Int) := ⟨a.toNat, by omega⟩
    obtain ⟨n, hn⟩ : ∃ i : Nat, m 193 7 = (i : Int) := ⟨(m 193 7).toNat, by omega⟩
    obtain ⟨D, A, n0, n1, n2, n3, d1, a1, a2, s, p⟩ := ask_two hm hx r sx e k (zx_told r z (by omega))
    have q : ∀ i : Nat, i < 5 → m 40 i = m2 204 i := fun i hi => (s.1.2.2.1 i hi).trans (p.2.2.2.2 i hi).symm
    rw [h1.2 i n hi (by omega) c, g2 i n hi hn (by omega), q i (by omega), sumN_c (f := fun i => (m 40 i).toNat) (g := fun i => (m2 204 i).toNat) n (fun j hj => by show (m 40 j).toNat = (m2 204 j).toNat; rw [q j (by omega)])]
  · rw [h1.1 c, g1 (by omega)]
/-- he steers alike by whatever lengths of ways -/
theorem steer_u {m : Mm} {o : Nat} {w s : Wd} {D1 D2 : Nat → Nat → Int} (hw : WD m o w) (h1 : WyD w D1) (h2 : WyD w D2) {p : Nat} (hp : (p : Int) < w 0) : steerF w D1 p s = steerF w D2 p s := by
  have b0 := hw.2.1.1
  have b5 := hw.2.1.2.2.1
  have y : ∀ t : Nat, t < (w 5).toNat → (D1 p (w (31 + 2 * t)).toNat < FAR ↔ D2 p (w (31 + 2 * t)).toNat < FAR) ∧ (D1 p (w (31 + 2 * t)).toNat < FAR → D1 p (w (31 + 2 * t)).toNat = D2 p (w (31 + 2 * t)).toNat) := by
    intro t ht
    have t1 := hw.2.2.2.1 t (by omega) (by omega)
    have x1 := wd_way hw h1 hp (b := (w (31 + 2 * t)).toNat) (by omega)
    have x2 := wd_way hw h2 hp (b := (w (31 + 2 * t)).toNat) (by omega)
    have e := x1.1.symm.trans x2.1
    by_cases c : D1 p (w (31 + 2 * t)).toNat < FAR
    · rw [if_pos c] at e
      by_cases d : D2 p (w (31 + 2 * t)).toNat < FAR
      · rw [if_pos d] at e; exact ⟨⟨fun _ => d, fun _ => c⟩, fun _ => e⟩
      · rw [if_neg d] at e; exfalso; have := x1.2.1; omega
    · rw [if_neg c] at e
      by_cases d : D2 p (w (31 + 2 * t)).toNat < FAR
      · rw [if_pos d] at e; exfalso; have := x2.2.1; omega
      · exact ⟨⟨fun z => absurd z c, fun z => absurd z d⟩, fun z => absurd z c⟩
  unfold steerF
  refine BestOf_eq (bestF_of _ _ _) (bestF_of _ _ _) (fun i hi => ?_) (fun i hi c => ?_)
  · rw [Bool.and_eq_true, Bool.and_eq_true, decide_eq_true_eq, decide_eq_true_eq, decide_eq_true_eq, (y i hi).1]
  · rw [Bool.and_eq_true, decide_eq_true_eq, decide_eq_true_eq] at c
    exact (y i hi).2 c.2
theorem hs_11 {m : Mm} {w : Wd} (hw : WD m 4 w) (x : Int) : ∀ t : Nat, t < 5 → (t : Int) < w 5 → m 6 t = beginF w 0 x (11 + t) := fun t ht h5 => by
  rw [begin_u ht]; exact (wd_tree hw h5).2
theorem q_11 {m m1 m2 : Mm} {a v1 v2 : Int} {D0 : Nat → Nat → Int} (hm : Gam m) (r : WX m) (z : ZX m) (hD0 : WyD (m 193) D0) (e : m1 193 = m 193) (h1 : (¬ (0 ≤ a ∧ a < m 4 1) → v1 = -2) ∧ ∀ p : Nat, a = (p : Int) → (0 ≤ a ∧ a < m 4 1) → v1 = steerF (pw (m 193)) D0 p (beginF (pw (m 193)) 0 (pw (m 193) 47))) (h2 : FS m2 ∧ m2 193 = m1 193 ∧ (¬ (0 < m1 193 9 ∧ 0 ≤ a ∧ a < m1 193 0) → v2 = -2) ∧ ∀ p : Nat, a = (p : Int) → (0 < m1 193 9 ∧ 0 ≤ a ∧ a < m1 193 0) → v2 = steerF (pw (m1 193)) (fun a b => m2 199 (7 * a + b)) p (beginF (pw (m1 193)) 0 (pw (m1 193) 47))) : v1 = v2 := by
  have e40 : m 4 0 = m 193 9 := r.1.1.1
  have e41 : m 4 1 = m 193 0 := r.1.1.2.1
  obtain ⟨s, e2, g1, g2⟩ := h2
  rw [e] at e2 g1 g2
  unfold FS at s
  rw [e2] at s
  by_cases c : 0 ≤ a ∧ a < m 4 1
  · obtain ⟨p, hp⟩ : ∃ i : Nat, a = (i : Int) := ⟨a.toNat, by omega⟩
    have t := zx_told r z (by omega)
    rw [h1.2 p hp c, g2 p hp (by omega)]
    exact steer_u (WD_w r.1 (pw_ag (m 193))) (wyD_pw.mpr hD0) (wyD_pw.mpr s) (by rw [pw_at (by decide) (by decide)]; omega)
  · rw [h1.1 c, g1 (by omega)]
/-- an act that is kept works on both sides or on neither -/
theorem q_act {m m1 m2 p : Mm} {n h : Nat} {a v1 v2 : Int} (hm : Gam m) (hx2 : Ext m2) (r : WX m) (r2 : WX m2) (h0 : 0 < m 4 0) (sx : StoryX m1) (hh : h < 12) (hh1 : (h : Int) < m 193 1) (c4 : ∀ q i : Nat, 4 ≤ q → q ≤ 12 → i < 900 → m1 q i = m q i) (e : m1 193 = m 193) (f23 : ∀ i : Nat, m2 23 i = m1 23 i) (u : ActU m m1 n h a) (hv : v1 = m1 39 h) (k1 : ∀ i : Nat, m2 193 i = p 193 i) (k2 : ∀ i : Nat, i < 57 → ¬ i = 8 → p 193 i = m1 193 i) (k3 : AskE p m2) (k4 : FS m2) (k5 : v2 = if canF (pw (p 193)) (fun a b => m2 199 (7 * a + b)) (h : Int) a (runF (pw (p 193)) (fun a b => m2 199 (7 * a + b)) (m2 203) (beginF (pw (p 193)) 0 (pw (p 193) 47)) h) = true then 1 else 0) : v1 = v2 := by
  have e2 : m2 193 = p 193 := funext k1
  rw [e] at k2
  have epw : pw (p 193) = pw (m 193) := pw_eq k2
  have b2 := gb_193_2 hm
  unfold FS at k4
  rw [e2] at k4
  have hWy : WyD (pw (m 193)) (fun a b => m2 199 (7 * a + b)) := by
    rw [← epw, wyD_pw]; exact k4
  have hw2 : WOK (p 193) := by rw [← e2]; exact hx2.1
  have ia := r2.2.1
  rw [e2] at ia
  have ea := acts_eq ia k3.2.1
  have hin := acts_in hw2 k3.2.1
  have eA : ∀ q : Nat, q < 12 → m2 203 q = m1 23 q := fun q hq => (ea q hq).trans (f23 q)
  have hb : WBf (pw (m 193)) := ⟨by rw [pw_at (by decide) (by decide)]; exact b2, fun t ht _ => by rw [pw_at (by omega) (by omega)]; exact gb_193_tf hm ht⟩
  have s := sx (by rw [c4 4 0 (by decide) (by decide) (by decide)]; exact h0) (pw (m 193)) (fun a b => m2 199 (7 * a + b)) (WD_w (WD_eq r.1 (fun q i q1 q2 hi => c4 q i q1 q2 hi)) (pw_ag (m 193))) hb hWy (fun q hq => by rw [← eA q hq]; exact hin q hq)
  rw [show pw (m 193) 1 = m 193 1 from pw_at (by decide) (by decide)] at s
  have y := (s.1.2.1 h (by omega)).2
  have ya : m1 39 h = _ := y
  rw [hv, ya, k5, epw, run_cA h (fun i hi => eA i (by omega)), show m1 23 h = a by rw [u.2.1 h hh, if_pos rfl]]
theorem q_59 {m m1 m2 : Mm} {n : Nat} {t a v1 v2 : Int} {W1 W2 : List Nat} (hm : Gam m) (hx : Ext m) (hx2 : Ext m2) (r : WX m) (r2 : WX m2) (z : ZX m) (sx : StoryX m1) (f1 : Fr W1 m m1) (w1 : (W1.all (fun c => decide (c < 1000 * 4 ∨ 1000 * 13 ≤ c)) && !W1.contains 91999) = true) (f2 : Fr W2 m1 m2) (w2 : W2.contains 23999 = false) (e1 : (¬ (0 ≤ t ∧ t < m 4 2) → v1 = -2 ∧ m1 = m) ∧ ∀ h : Nat, t = (h : Int) → (h : Int) < m 4 2 → (¬ m 23 h = 0 → v1 = -5 ∧ m1 = m) ∧ (m 23 h = 0 → ActU m m1 n h a ∧ v1 = m1 39 h)) (e2 : (¬ (0 ≤ t ∧ t < m1 193 1) → v2 = -2 ∧ m2 = m1) ∧ ∀ h : Nat, t = (h : Int) → (h : Int) < m1 193 1 → (HasA (m1 193) (h : Int) → v2 = -5) ∧ ActR (m1 193) (m2 193) h a) (e3 : ∀ h : Nat, t = (h : Int) → (h : Int) < m1 193 1 → ∃ p : Mm, (¬ HasA (m1 193) (h : Int) → (∀ i : Nat, m2 193 i = p 193 i) ∧ (∀ i : Nat, i < 57 → ¬ i = 8 → p 193 i = m1 193 i) ∧ AskE p m2 ∧ FS m2 ∧ v2 = if canF (pw (p 193)) (fun a b => m2 199 (7 * a + b)) (h : Int) a (runF (pw (p 193)) (fun a b => m2 199 (7 * a + b)) (m2 203) (beginF (pw (p 193)) 0 (pw (p 193) 47)) h) = true then 1 else 0)) : v1 = v2 := by
  rw [Bool.and_eq_true] at w1
  have e : m1 193 = m 193 := funext fun i => f1 193 i (ct_f w1.2)
  have e42 : m 4 2 = m 193 1 := r.1.1.2.2.1
  have b1 := gb_193_1 hm
  by_cases c : 0 ≤ t ∧ t < m 4 2
  · obtain ⟨h, hh⟩ : ∃ i : Nat, t = (i : Int) := ⟨t.toNat, by omega⟩
    have x := e1.2 h hh (by omega)
    have y := e2.2 h hh (by rw [e]; omega)
    have y3 := e3 h hh (by rw [e]; omega)
    rw [e] at y y3
    by_cases d : HasA (m 193) (h : Int)
    · rw [(x.1 (fun q => (isa_zero hx.1 r.2.1 (by omega)).mp q d)).1, y.1 d]
    · obtain ⟨p, k⟩ := y3
      obtain ⟨k1, k2, k3, k4, k5⟩ := k d
      obtain ⟨u, hv⟩ := x.2 ((isa_zero hx.1 r.2.1 (by omega)).mpr d)
      exact q_act hm hx2 r r2 (zx_told r z (by omega)) sx (by omega) (by omega) (fr_4 f1 w1.1) e (fun i => f2 23 i w2) u hv k1 (fun i i1 i2 => (k2 i i1 i2).trans (congrFun e i).symm) k3 k4 k5
  · rw [(e1.1 c).1, (e2.1 (by rw [e]; omega)).1]
theorem q_60 {m m1 m2 : Mm} {n : Nat} {t p v1 v2 : Int} {W1 W2 : List Nat} (hm : Gam m) (hx : Ext m) (hx2 : Ext m2) (r : WX m) (r2 : WX m2) (z : ZX m) (sx : StoryX m1) (f1 : Fr W1 m m1) (w1 : (W1.all (fun c => decide (c < 1000 * 4 ∨ 1000 * 13 ≤ c)) && !W1.contains 91999) = true) (f2 : Fr W2 m1 m2) (w2 : W2.contains 23999 = false) (e1 : (¬ ((0 ≤ t ∧ t < m 4 2) ∧ (0 ≤ p ∧ p < m 4 1)) → v1 = -2 ∧ m1 = m) ∧ ∀ h : Nat, t = (h : Int) → (h : Int) < m 4 2 → (0 ≤ p ∧ p < m 4 1) → (¬ m 23 h = 0 → v1 = -5 ∧ m1 = m) ∧ (m 23 h = 0 → ActU m m1 n h (p + 10) ∧ v1 = m1 39 h)) (e2 : (¬ ((0 ≤ t ∧ t < m1 193 1) ∧ (0 ≤ p ∧ p < m1 193 0)) → v2 = -2 ∧ m2 = m1) ∧ ∀ h : Nat, t = (h : Int) → (h : Int) < m1 193 1 → (0 ≤ p ∧ p < m1 193 0) → (HasA (m1 193) (h : Int) → v2 = -5) ∧ ActR (m1 193) (m2 193) h (p + 10)) (e3 : ∀ h : Nat, t = (h : Int) → (h : Int) < m1 193 1 → (0 ≤ p ∧ p < m1 193 0) → ∃ q : Mm, (¬ HasA (m1 193) (h : Int) → (∀ i : Nat, m2 193 i = q 193 i) ∧ (∀ i : Nat, i < 57 → ¬ i = 8 → q 193 i = m1 193 i) ∧ AskE q m2 ∧ FS m2 ∧ v2 = if canF (pw (q 193)) (fun a b => m2 199 (7 * a + b)) (h : Int) (p + 10) (runF (pw (q 193)) (fun a b => m2 199 (7 * a + b)) (m2 203) (beginF (pw (q 193)) 0 (pw (q 193) 47)) h) = true then 1 else 0)) : v1 = v2 := by
  rw [Bool.and_eq_true] at w1
  have e : m1 193 = m 193 := funext fun i => f1 193 i (ct_f w1.2)
  have e42 : m 4 2 = m 193 1 := r.1.1.2.2.1
  have e41 : m 4 1 = m 193 0 := r.1.1.2.1
  have b1 := gb_193_1 hm
  by_cases c : (0 ≤ t ∧ t < m 4 2) ∧ (0 ≤ p ∧ p < m 4 1)
  · obtain ⟨h, hh⟩ : ∃ i : Nat, t = (i : Int) := ⟨t.toNat, by omega⟩
    have x := e1.2 h hh (by omega) c.2
    have y := e2.2 h hh (by rw [e]; omega) (by rw [e]; omega)
    have y3 := e3 h hh (by rw [e]; omega) (by rw [e]; omega)
    rw [e] at y y3
    by_cases d : HasA (m 193) (h : Int)
    · rw [(x.1 (fun q => (isa_zero hx.1 r.2.1 (by omega)).mp q d)).1, y.1 d]
    · obtain ⟨q, k⟩ := y3
      obtain ⟨k1, k2, k3, k4, k5⟩ := k d
      obtain ⟨u, hv⟩ := x.2 ((isa_zero hx.1 r.2.1 (by omega)).mpr d)
      exact q_act hm hx2 r r2 (zx_told r z (by omega)) sx (by omega) (by omega) (fr_4 f1 w1.1) e (fun i => f2 23 i w2) u hv k1 (fun i i1 i2 => (k2 i i1 i2).trans (congrFun e i).symm) k3 k4 k5
  · rw [(e1.1 c).1, (e2.1 (by rw [e]; omega)).1]
