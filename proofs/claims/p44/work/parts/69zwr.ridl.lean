/-! the reference's loops of the hunt -/
theorem r_186_0 : row 186 0 = some (.aload_n 0, 1, 0, 0, 0, 0) := rfl
theorem r_186_1 : row 186 1 = some (.invokevirtual 380, 4, 181, 0, 0, 8043) := rfl
theorem r_186_4 : row 186 4 = some (.istore_n 1, 5, 0, 0, 0, 0) := rfl
theorem r_186_5 : row 186 5 = some (.iload_n 1, 6, 0, 0, 0, 0) := rfl
theorem r_186_6 : row 186 6 = some (.iconst (-1), 7, (-1), 0, 0, 0) := rfl
theorem r_186_7 : row 186 7 = some (.if_icmp .ne 8, 10, 15, 0, 0, 0) := rfl
theorem r_186_10 : row 186 10 = some (.ldc 227, 12, 1000000000, 0, 0, 7041) := rfl
theorem r_186_12 : row 186 12 = some (.goto 4, 15, 16, 0, 0, 0) := rfl
theorem r_186_15 : row 186 15 = some (.iload_n 1, 16, 0, 0, 0, 0) := rfl
theorem r_186_16 : row 186 16 = some (.ireturn, 17, 0, 0, 0, 0) := rfl
theorem r_187_0 : row 187 0 = some (.aload_n 0, 1, 0, 0, 0, 0) := rfl
theorem r_187_1 : row 187 1 = some (.invokevirtual 377, 4, 182, 0, 0, 8039) := rfl
theorem r_187_4 : row 187 4 = some (.ifCond .ne 6, 7, 10, 0, 0, 0) := rfl
theorem r_187_7 : row 187 7 = some (.bipush (-2), 9, (-2), 0, 0, 0) := rfl
theorem r_187_9 : row 187 9 = some (.ireturn, 10, 0, 0, 0, 0) := rfl
theorem r_187_10 : row 187 10 = some (.iconst (-1), 11, (-1), 0, 0, 0) := rfl
theorem r_187_11 : row 187 11 = some (.istore_n 1, 12, 0, 0, 0, 0) := rfl
theorem r_187_12 : row 187 12 = some (.aload_n 0, 13, 0, 0, 0, 0) := rfl
theorem r_187_13 : row 187 13 = some (.invokevirtual 383, 16, 186, 0, 0, 8071) := rfl
theorem r_187_16 : row 187 16 = some (.istore_n 2, 17, 0, 0, 0, 0) := rfl
theorem r_187_17 : row 187 17 = some (.iconst 0, 18, 0, 0, 0, 0) := rfl
theorem r_187_18 : row 187 18 = some (.istore_n 3, 19, 0, 0, 0, 0) := rfl
theorem r_187_19 : row 187 19 = some (.iload_n 3, 20, 0, 0, 0, 0) := rfl
theorem r_187_20 : row 187 20 = some (.aload_n 0, 21, 0, 0, 0, 0) := rfl
theorem r_187_21 : row 187 21 = some (.getfield 9, 24, 10, 1, 2, 6002) := rfl
theorem r_187_24 : row 187 24 = some (.bipush 6, 26, 6, 0, 0, 0) := rfl
theorem r_187_26 : row 187 26 = some (.iaload, 27, 0, 0, 0, 0) := rfl
theorem r_187_27 : row 187 27 = some (.if_icmp .ge 34, 30, 61, 0, 0, 0) := rfl
theorem r_187_30 : row 187 30 = some (.aload_n 0, 31, 0, 0, 0, 0) := rfl
theorem r_187_31 : row 187 31 = some (.iload_n 3, 32, 0, 0, 0, 0) := rfl
theorem r_187_32 : row 187 32 = some (.putfield 266, 35, 10, 24, 0, 6025) := rfl
theorem r_187_35 : row 187 35 = some (.aload_n 0, 36, 0, 0, 0, 0) := rfl
theorem r_187_36 : row 187 36 = some (.invokevirtual 383, 39, 186, 0, 0, 8071) := rfl
theorem r_187_39 : row 187 39 = some (.istore 4, 41, 0, 0, 0, 0) := rfl
theorem r_187_41 : row 187 41 = some (.iload 4, 43, 0, 0, 0, 0) := rfl
theorem r_187_43 : row 187 43 = some (.iload_n 2, 44, 0, 0, 0, 0) := rfl
theorem r_187_44 : row 187 44 = some (.if_icmp .gt 6, 47, 50, 0, 0, 0) := rfl
theorem r_187_47 : row 187 47 = some (.goto 8, 50, 55, 0, 0, 0) := rfl
theorem r_187_50 : row 187 50 = some (.iload 4, 52, 0, 0, 0, 0) := rfl
theorem r_187_52 : row 187 52 = some (.istore_n 2, 53, 0, 0, 0, 0) := rfl
theorem r_187_53 : row 187 53 = some (.iload_n 3, 54, 0, 0, 0, 0) := rfl
theorem r_187_54 : row 187 54 = some (.istore_n 1, 55, 0, 0, 0, 0) := rfl
theorem r_187_55 : row 187 55 = some (.iinc 3 1, 58, 0, 0, 0, 0) := rfl
theorem r_187_58 : row 187 58 = some (.goto (-39), 61, 19, 0, 0, 0) := rfl
theorem r_187_61 : row 187 61 = some (.iload_n 1, 62, 0, 0, 0, 0) := rfl
theorem r_187_62 : row 187 62 = some (.ireturn, 63, 0, 0, 0, 0) := rfl
theorem r_188_0 : row 188 0 = some (.aload_n 0, 1, 0, 0, 0, 0) := rfl
theorem r_188_1 : row 188 1 = some (.invokevirtual 377, 4, 182, 0, 0, 8039) := rfl
theorem r_188_4 : row 188 4 = some (.ifCond .ne 6, 7, 10, 0, 0, 0) := rfl
theorem r_188_7 : row 188 7 = some (.bipush (-2), 9, (-2), 0, 0, 0) := rfl
theorem r_188_9 : row 188 9 = some (.ireturn, 10, 0, 0, 0, 0) := rfl
theorem r_188_10 : row 188 10 = some (.iconst (-1), 11, (-1), 0, 0, 0) := rfl
theorem r_188_11 : row 188 11 = some (.istore_n 1, 12, 0, 0, 0, 0) := rfl
theorem r_188_12 : row 188 12 = some (.aload_n 0, 13, 0, 0, 0, 0) := rfl
theorem r_188_13 : row 188 13 = some (.invokevirtual 383, 16, 186, 0, 0, 8071) := rfl
theorem r_188_16 : row 188 16 = some (.istore_n 2, 17, 0, 0, 0, 0) := rfl
theorem r_188_17 : row 188 17 = some (.iconst 0, 18, 0, 0, 0, 0) := rfl
theorem r_188_18 : row 188 18 = some (.istore_n 3, 19, 0, 0, 0, 0) := rfl
theorem r_188_19 : row 188 19 = some (.iload_n 3, 20, 0, 0, 0, 0) := rfl
theorem r_188_20 : row 188 20 = some (.aload_n 0, 21, 0, 0, 0, 0) := rfl
theorem r_188_21 : row 188 21 = some (.getfield 9, 24, 10, 1, 2, 6002) := rfl
theorem r_188_24 : row 188 24 = some (.iconst 5, 25, 5, 0, 0, 0) := rfl
theorem r_188_25 : row 188 25 = some (.iaload, 26, 0, 0, 0, 0) := rfl
theorem r_188_26 : row 188 26 = some (.if_icmp .ge 34, 29, 60, 0, 0, 0) := rfl
theorem r_188_29 : row 188 29 = some (.aload_n 0, 30, 0, 0, 0, 0) := rfl
theorem r_188_30 : row 188 30 = some (.iload_n 3, 31, 0, 0, 0, 0) := rfl
theorem r_188_31 : row 188 31 = some (.putfield 250, 34, 10, 23, 0, 6024) := rfl
theorem r_188_34 : row 188 34 = some (.aload_n 0, 35, 0, 0, 0, 0) := rfl
theorem r_188_35 : row 188 35 = some (.invokevirtual 383, 38, 186, 0, 0, 8071) := rfl
theorem r_188_38 : row 188 38 = some (.istore 4, 40, 0, 0, 0, 0) := rfl
theorem r_188_40 : row 188 40 = some (.iload 4, 42, 0, 0, 0, 0) := rfl
theorem r_188_42 : row 188 42 = some (.iload_n 2, 43, 0, 0, 0, 0) := rfl
theorem r_188_43 : row 188 43 = some (.if_icmp .lt 6, 46, 49, 0, 0, 0) := rfl
theorem r_188_46 : row 188 46 = some (.goto 8, 49, 54, 0, 0, 0) := rfl
theorem r_188_49 : row 188 49 = some (.iload 4, 51, 0, 0, 0, 0) := rfl
theorem r_188_51 : row 188 51 = some (.istore_n 2, 52, 0, 0, 0, 0) := rfl
theorem r_188_52 : row 188 52 = some (.iload_n 3, 53, 0, 0, 0, 0) := rfl
theorem r_188_53 : row 188 53 = some (.istore_n 1, 54, 0, 0, 0, 0) := rfl
theorem r_188_54 : row 188 54 = some (.iinc 3 1, 57, 0, 0, 0, 0) := rfl
theorem r_188_57 : row 188 57 = some (.goto (-38), 60, 19, 0, 0, 0) := rfl
theorem r_188_60 : row 188 60 = some (.iload_n 1, 61, 0, 0, 0, 0) := rfl
theorem r_188_61 : row 188 61 = some (.ireturn, 62, 0, 0, 0, 0) := rfl
theorem r_191_0 : row 191 0 = some (.aload_n 0, 1, 0, 0, 0, 0) := rfl
theorem r_191_1 : row 191 1 = some (.invokevirtual 377, 4, 182, 0, 0, 8039) := rfl
theorem r_191_4 : row 191 4 = some (.ifCond .ne 6, 7, 10, 0, 0, 0) := rfl
theorem r_191_7 : row 191 7 = some (.bipush (-2), 9, (-2), 0, 0, 0) := rfl
theorem r_191_9 : row 191 9 = some (.ireturn, 10, 0, 0, 0, 0) := rfl
theorem r_191_10 : row 191 10 = some (.iconst (-1), 11, (-1), 0, 0, 0) := rfl
theorem r_191_11 : row 191 11 = some (.istore_n 1, 12, 0, 0, 0, 0) := rfl
theorem r_191_12 : row 191 12 = some (.aload_n 0, 13, 0, 0, 0, 0) := rfl
theorem r_191_13 : row 191 13 = some (.invokevirtual 383, 16, 186, 0, 0, 8071) := rfl
theorem r_191_16 : row 191 16 = some (.istore_n 2, 17, 0, 0, 0, 0) := rfl
theorem r_191_17 : row 191 17 = some (.iconst 0, 18, 0, 0, 0, 0) := rfl
theorem r_191_18 : row 191 18 = some (.istore_n 3, 19, 0, 0, 0, 0) := rfl
theorem r_191_19 : row 191 19 = some (.iload_n 3, 20, 0, 0, 0, 0) := rfl
theorem r_191_20 : row 191 20 = some (.aload_n 0, 21, 0, 0, 0, 0) := rfl
theorem r_191_21 : row 191 21 = some (.getfield 9, 24, 10, 1, 2, 6002) := rfl
theorem r_191_24 : row 191 24 = some (.iconst 0, 25, 0, 0, 0, 0) := rfl
theorem r_191_25 : row 191 25 = some (.iaload, 26, 0, 0, 0, 0) := rfl
theorem r_191_26 : row 191 26 = some (.if_icmp .ge 36, 29, 62, 0, 0, 0) := rfl
theorem r_191_29 : row 191 29 = some (.aload_n 0, 30, 0, 0, 0, 0) := rfl
theorem r_191_30 : row 191 30 = some (.iconst 1, 31, 1, 0, 0, 0) := rfl
theorem r_191_31 : row 191 31 = some (.iload_n 3, 32, 0, 0, 0, 0) := rfl
theorem r_191_32 : row 191 32 = some (.ishl, 33, 0, 0, 0, 0) := rfl
theorem r_191_33 : row 191 33 = some (.putfield 278, 36, 10, 25, 0, 6026) := rfl
theorem r_191_36 : row 191 36 = some (.aload_n 0, 37, 0, 0, 0, 0) := rfl
theorem r_191_37 : row 191 37 = some (.invokevirtual 383, 40, 186, 0, 0, 8071) := rfl
theorem r_191_40 : row 191 40 = some (.istore 4, 42, 0, 0, 0, 0) := rfl
theorem r_191_42 : row 191 42 = some (.iload 4, 44, 0, 0, 0, 0) := rfl
theorem r_191_44 : row 191 44 = some (.iload_n 2, 45, 0, 0, 0, 0) := rfl
theorem r_191_45 : row 191 45 = some (.if_icmp .lt 6, 48, 51, 0, 0, 0) := rfl
theorem r_191_48 : row 191 48 = some (.goto 8, 51, 56, 0, 0, 0) := rfl
theorem r_191_51 : row 191 51 = some (.iload 4, 53, 0, 0, 0, 0) := rfl
theorem r_191_53 : row 191 53 = some (.istore_n 2, 54, 0, 0, 0, 0) := rfl
theorem r_191_54 : row 191 54 = some (.iload_n 3, 55, 0, 0, 0, 0) := rfl
theorem r_191_55 : row 191 55 = some (.istore_n 1, 56, 0, 0, 0, 0) := rfl
theorem r_191_56 : row 191 56 = some (.iinc 3 1, 59, 0, 0, 0, 0) := rfl
theorem r_191_59 : row 191 59 = some (.goto (-40), 62, 19, 0, 0, 0) := rfl
theorem r_191_62 : row 191 62 = some (.iload_n 1, 63, 0, 0, 0, 0) := rfl
theorem r_191_63 : row 191 63 = some (.ireturn, 64, 0, 0, 0, 0) := rfl
/-- what the reference's hunts and the field c leave as it was -/
def DGk (c : Nat) (m m1 : Mm) : Prop := ∀ p i : Nat, ¬ (200 ≤ p ∧ p ≤ 202) → ¬ p = 204 → ¬ p = 205 → ¬ p = 206 → ¬ (p = 192 ∧ (i = 21 ∨ i = 22 ∨ i = 31 ∨ i = c)) → m1 p i = m p i
theorem dgk_g {c : Nat} {a b d : Mm} (h1 : DGk c a b) (h2 : DG b d) : DGk c a d := fun p i x y z u v => (h2 p i x y z u (fun q => v ⟨q.1, by omega⟩)).trans (h1 p i x y z u v)
theorem dgk_up {c : Nat} {a b : Mm} {x : Int} (h : DGk c a b) : DGk c a (nu_up b 192 c x) := fun p i x y z u v => (nu_fz (fun q => v ⟨q.1, by omega⟩)).trans (h p i x y z u v)
theorem pin_dgk {c : Nat} {m m1 : Mm} (hc : pinF 192 c = 0) (hp : PinR m) (f : DGk c m m1) : PinR m1 := fun o i hq => by
  have e : ∀ o : Nat, o = 200 ∨ o = 201 ∨ o = 202 ∨ o = 204 ∨ o = 205 ∨ o = 206 → pinF o i = 0 := fun o ho => by
    rcases ho with rfl | rfl | rfl | rfl | rfl | rfl <;> rfl
  rw [f o i (fun z => hq (e o (by omega))) (fun z => hq (e o (by omega))) (fun z => hq (e o (by omega))) (fun z => hq (e o (by omega))) (fun z => by
    rw [z.1] at hq
    rcases z.2 with y | y | y | y
    · rw [y] at hq; exact hq rfl
    · rw [y] at hq; exact hq rfl
    · rw [y] at hq; exact hq rfl
    · rw [y] at hq; exact hq hc)]
  exact hp o i hq
section RIDL
variable {T : List Kd} {m : Mm}
theorem y_186 (hT : TT T) {w : Wd} (hB : WB w) {nt : Int} (hP : WP w) {D : Nat → Nat → Int} (hD : WyD w D) (hF : WBf w) {n : Nat} (hn : w 1 = (n : Int)) (hn12 : n ≤ 12) (si : SI nt w D m) : GX T 9 186 0 [(2, 192), (9, 0)] [] m (RI (fun v m1 => (∃ x : Int, RidF n (rowsW w D) x ∧ v = (if x = -1 then 1000000000 else x)) ∧ DG m m1)) := by
  have b0 := hB.1
  refine gx_st (L' := [(2, 192), (9, 0)]) (S' := [(2, 192)]) r_186_0 rfl rfl rfl ?_
  refine gx_ci (nx := 4) (S2 := []) (y_181 hT hB hP hD (np := (w 0).toNat) (by omega) hF hn hn12 si) r_186_1 rfl rfl rfl rfl rfl (rcv_v rfl (ty_192 hT) (by decide) rfl (by decide)) rfl (by decide) rfl (fun x1 n1 q1 => ?_)
  obtain ⟨rid, _, dg⟩ := q1
  show GX T 9 186 4 [(2, 192), (9, 0)] [(0, x1)] n1 (RI (fun v m1 => (∃ x : Int, RidF n (rowsW w D) x ∧ v = (if x = -1 then 1000000000 else x)) ∧ DG m m1))
  show GX T 9 186 4 [(2, 192), (9, 0)] [(0, x1)] n1 (RI (fun v m1 => (∃ x : Int, RidF n (rowsW w D) x ∧ v = (if x = -1 then 1000000000 else x)) ∧ DG m m1))
  refine gx_st (L' := [(2, 192), (0, x1)]) (S' := []) r_186_4 rfl rfl rfl ?_
  refine gx_st (L' := [(2, 192), (0, x1)]) (S' := [(0, x1)]) r_186_5 rfl rfl rfl ?_
  refine gx_st (L' := [(2, 192), (0, x1)]) (S' := [(0, (-1)), (0, x1)]) r_186_6 rfl rfl rfl ?_
  refine gx_ic (P := ¬ x1 = (-1)) r_186_7 (rfl) (fun h7 => ?_) (fun h7 => ?_)
  · refine gx_st (L' := [(2, 192), (0, x1)]) (S' := [(0, x1)]) r_186_15 rfl rfl rfl ?_
    exact gx_rt r_186_16 rfl rfl ⟨_, rfl, ⟨x1, rid, by rw [if_neg (by omega)]⟩, dg⟩
  · have h7 := Decidable.not_not.mp h7
    refine gx_st (L' := [(2, 192), (0, x1)]) (S' := [(0, 1000000000)]) r_186_10 rfl rfl rfl ?_
    refine gx_st (L' := [(2, 192), (0, x1)]) (S' := [(0, 1000000000)]) r_186_12 rfl rfl rfl ?_
    exact gx_rt r_186_16 rfl rfl ⟨_, rfl, ⟨x1, rid, by rw [if_pos (by omega)]⟩, dg⟩
theorem lo_187 (hT : TT T) (hp : PinR m) {w : Wd} (hB : WB w) (hP : WP w) {D : Nat → Nat → Int} (hD : WyD w D) (hF : WBf w) {n : Nat} (hn : w 1 = (n : Int)) (hn12 : n ≤ 12) (ew : EW (-1) m w) (as1 : AsF m) (eD : ∀ a b : Nat, a < 7 → b < 7 → m 199 (7 * a + b) = D a b) (h10 : ior (m 193 10) 0 = m 193 10) {x : Int} (rx : RidF n (rowsW w D) x) {c : Nat} (hc : w 6 = (c : Int)) : ∀ (N k : Nat) (p : Mm) (y f : Int) (E : Nat → Int) (x4 : AV), c - k < N → k ≤ c → DGk 24 m p → (∀ j : Nat, j < k → RidF n (rowsW (upw w (42 + 2 * j) 13) D) (E j)) → f = (scY true E x k).1 → y = (scY true E x k).2 → GX T 10 187 19 [(2, 192), (0, f), (0, (if y = -1 then 1000000000 else y)), (0, (k : Int)), x4] [] p (RI (fun v m1 => ∃ E : Nat → Int, (∀ j : Nat, j < c → RidF n (rowsW (upw w (42 + 2 * j) 13) D) (E j)) ∧ v = (scY true E x c).1)) := by
  have b5 := hB.2.2.1
  have b6 := hB.2.2.2.1
  have b0 := hB.1
  intro N
  induction N with
  | zero => intro k p y f E x4 hN; exact absurd hN (Nat.not_lt_zero _)
  | succ N ih =>
    intro k p y f E x4 hN hk hf hE ef ey
    have pp : PinR p := pin_dgk rfl hp hf
    have ry := scY_r (up := true) (E := E) (x := x) (ridF_r hn12 rx) k (fun j hj => ridF_r hn12 (hE j hj))
    rw [← ey] at ry
    refine gx_st (L' := [(2, 192), (0, f), (0, (if y = -1 then 1000000000 else y)), (0, (k : Int)), x4]) (S' := [(0, (k : Int))]) r_187_19 rfl rfl rfl ?_
    refine gx_st (L' := [(2, 192), (0, f), (0, (if y = -1 then 1000000000 else y)), (0, (k : Int)), x4]) (S' := [(2, 192), (0, (k : Int))]) r_187_20 rfl rfl rfl ?_
    refine gx_gf (x := 193) 2 r_187_21 (rfl) (ty_192 hT) ⟨by decide, rfl, by decide, by decide⟩ rfl (fun _ => by omega) (pin_at pp (t := 193) rfl (by decide)) ?_
    refine gx_st (L' := [(2, 192), (0, f), (0, (if y = -1 then 1000000000 else y)), (0, (k : Int)), x4]) (S' := [(0, 6), (2, 193), (0, (k : Int))]) r_187_24 rfl rfl rfl ?_
    refine gx_ia (n := 6) (x := (c : Int)) r_187_26 (rfl) (ty_193 hT) (rfl) ⟨rfl, by decide⟩ (((hf 193 6 (by omega) (by omega) (by omega) (by omega) (by omega)).trans ((ew.1 6 (by decide) (by decide) (by decide)).trans hc))) ?_
    refine gx_ic (P := (c : Int) ≤ (k : Int)) r_187_27 (rfl) (fun h27 => ?_) (fun h27 => ?_)
    · refine gx_st (L' := [(2, 192), (0, f), (0, (if y = -1 then 1000000000 else y)), (0, (k : Int)), x4]) (S' := [(0, f)]) r_187_61 rfl rfl rfl ?_
      have hkc : k = c := by omega
      subst hkc
      exact gx_rt r_187_62 rfl rfl ⟨_, rfl, E, hE, ef⟩
    · refine gx_st (L' := [(2, 192), (0, f), (0, (if y = -1 then 1000000000 else y)), (0, (k : Int)), x4]) (S' := [(2, 192)]) r_187_30 rfl rfl rfl ?_
      refine gx_st (L' := [(2, 192), (0, f), (0, (if y = -1 then 1000000000 else y)), (0, (k : Int)), x4]) (S' := [(0, (k : Int)), (2, 192)]) r_187_31 rfl rfl rfl ?_
      obtain ⟨m1, e_m1⟩ : ∃ z, z = nu_up p 192 24 (k : Int) := ⟨_, rfl⟩
      refine gx_pf (x := (k : Int)) 0 r_187_32 (rfl) (ty_192 hT) ⟨by decide, rfl, by decide, by decide⟩ rfl (fun z => absurd z (by decide)) (fun z => absurd z (by decide)) e_m1.symm ?_
      refine gx_st (L' := [(2, 192), (0, f), (0, (if y = -1 then 1000000000 else y)), (0, (k : Int)), x4]) (S' := [(2, 192)]) r_187_35 rfl rfl rfl ?_
      have hf1 : DGk 24 m m1 := by rw [e_m1]; exact dgk_up hf
      have pp1 : PinR m1 := pin_dgk rfl hp hf1
      have si1 : SI (-1) (upw w (42 + 2 * k) 13) D m1 := ⟨pp1, ew_modv ew (v := k) (by omega) as1.2.1 (fun i => hf1 193 i (by omega) (by omega) (by omega) (by omega) (by omega)) (fun i i1 i2 i3 => hf1 192 i (by omega) (by omega) (by omega) (by omega) (by omega)) (by rw [e_m1, nu_at]), fun a b ha hb => (hf1 199 (7 * a + b) (by omega) (by omega) (by omega) (by omega) (by omega)).trans (eD a b ha hb)⟩
      have mw := modw_v w (v := k) (by omega) 13
      refine gx_ci (nx := 39) (S2 := []) (y_186 hT (modw_WB mw hB) (modw_WP mw hP) ((modw_D mw).mpr hD) (wbf_v hF (v := k) (by omega)) (n := n) (by rw [upw_ne (by omega)]; exact hn) hn12 si1) r_187_36 rfl rfl rfl rfl rfl (rcv_v rfl (ty_192 hT) (by decide) rfl (by decide)) rfl (by decide) rfl (fun x36 n36 q36 => ?_)
      obtain ⟨⟨z, rz, ez⟩, dg⟩ := q36
      rw [ez]
      have zr := ridF_r hn12 rz
      have hf2 := dgk_g hf1 dg
      show GX T 10 187 39 [(2, 192), (0, f), (0, (if y = -1 then 1000000000 else y)), (0, (k : Int)), x4] [(0, (if z = -1 then 1000000000 else z))] n36 (RI (fun v m1 => ∃ E : Nat → Int, (∀ j : Nat, j < c → RidF n (rowsW (upw w (42 + 2 * j) 13) D) (E j)) ∧ v = (scY true E x c).1))
      show GX T 10 187 39 [(2, 192), (0, f), (0, (if y = -1 then 1000000000 else y)), (0, (k : Int)), x4] [(0, (if z = -1 then 1000000000 else z))] n36 (RI (fun v m1 => ∃ E : Nat → Int, (∀ j : Nat, j < c → RidF n (rowsW (upw w (42 + 2 * j) 13) D) (E j)) ∧ v = (scY true E x c).1))
      refine gx_st (L' := [(2, 192), (0, f), (0, (if y = -1 then 1000000000 else y)), (0, (k : Int)), (0, (if z = -1 then 1000000000 else z))]) (S' := []) r_187_39 rfl rfl rfl ?_
      refine gx_st (L' := [(2, 192), (0, f), (0, (if y = -1 then 1000000000 else y)), (0, (k : Int)), (0, (if z = -1 then 1000000000 else z))]) (S' := [(0, (if z = -1 then 1000000000 else z))]) r_187_41 rfl rfl rfl ?_
      refine gx_st (L' := [(2, 192), (0, f), (0, (if y = -1 then 1000000000 else y)), (0, (k : Int)), (0, (if z = -1 then 1000000000 else z))]) (S' := [(0, (if y = -1 then 1000000000 else y)), (0, (if z = -1 then 1000000000 else z))]) r_187_43 rfl rfl rfl ?_
      refine gx_ic (P := (if y = -1 then 1000000000 else y) < (if z = -1 then 1000000000 else z)) r_187_44 (rfl) (fun h44 => ?_) (fun h44 => ?_)
      · refine gx_st (L' := [(2, 192), (0, f), (0, (if y = -1 then 1000000000 else y)), (0, (k : Int)), (0, (if z = -1 then 1000000000 else z))]) (S' := [(0, (if z = -1 then 1000000000 else z))]) r_187_50 rfl rfl rfl ?_
        refine gx_st (L' := [(2, 192), (0, f), (0, (if z = -1 then 1000000000 else z)), (0, (k : Int)), (0, (if z = -1 then 1000000000 else z))]) (S' := []) r_187_52 rfl rfl rfl ?_
        refine gx_st (L' := [(2, 192), (0, f), (0, (if z = -1 then 1000000000 else z)), (0, (k : Int)), (0, (if z = -1 then 1000000000 else z))]) (S' := [(0, (k : Int))]) r_187_53 rfl rfl rfl ?_
        refine gx_st (L' := [(2, 192), (0, (k : Int)), (0, (if z = -1 then 1000000000 else z)), (0, (k : Int)), (0, (if z = -1 then 1000000000 else z))]) (S' := []) r_187_54 rfl rfl rfl ?_
        refine gx_li (z := (k : Int) + 1) (L' := [(2, 192), (0, (k : Int)), (0, (if z = -1 then 1000000000 else z)), (0, (k : Int) + 1), (0, (if z = -1 then 1000000000 else z))]) r_187_55 rfl (w32_eq (by omega) (by omega) (by omega)) rfl ?_
        refine gx_st (L' := [(2, 192), (0, (k : Int)), (0, (if z = -1 then 1000000000 else z)), (0, (k : Int) + 1), (0, (if z = -1 then 1000000000 else z))]) (S' := []) r_187_58 rfl rfl rfl ?_
        rw [show (k : Int) + 1 = ((k + 1 : Nat) : Int) from rfl]
        have ec := scY_c (up := true) (E := fun j => if j = k then z else E j) (F := E) (x := x) k (fun j hj => if_neg (by omega))
        have cc : ((true = true ∧ ltH (scY true (fun j => if j = k then z else E j) x k).2 ((fun j => if j = k then z else E j) k) = true) ∨ (true = false ∧ ltH ((fun j => if j = k then z else E j) k) (scY true (fun j => if j = k then z else E j) x k).2 = true)) := by
          rw [ec, ← ey, show (fun j => if j = k then z else E j) k = z from if_pos rfl]
          exact Or.inl ⟨rfl, (ltH_g ry zr).mpr (by omega)⟩
        have es : scY true (fun j => if j = k then z else E j) x (k + 1) = ((k : Int), z) := (if_pos cc).trans (by show ((k : Int), (if k = k then z else E k)) = _; rw [if_pos rfl])
        refine ih (k + 1) n36 _ _ (fun j => if j = k then z else E j) _ (by omega) (by omega) hf2 (fun j hj => ?_) (by rw [es]) (by rw [es])
        by_cases q : j = k
        · show RidF n _ (if j = k then z else E j)
          rw [if_pos q, q]; exact rz
        · show RidF n _ (if j = k then z else E j)
          rw [if_neg q]; exact hE j (by omega)
      · refine gx_st (L' := [(2, 192), (0, f), (0, (if y = -1 then 1000000000 else y)), (0, (k : Int)), (0, (if z = -1 then 1000000000 else z))]) (S' := []) r_187_47 rfl rfl rfl ?_
        refine gx_li (z := (k : Int) + 1) (L' := [(2, 192), (0, f), (0, (if y = -1 then 1000000000 else y)), (0, (k : Int) + 1), (0, (if z = -1 then 1000000000 else z))]) r_187_55 rfl (w32_eq (by omega) (by omega) (by omega)) rfl ?_
        refine gx_st (L' := [(2, 192), (0, f), (0, (if y = -1 then 1000000000 else y)), (0, (k : Int) + 1), (0, (if z = -1 then 1000000000 else z))]) (S' := []) r_187_58 rfl rfl rfl ?_
        rw [show (k : Int) + 1 = ((k + 1 : Nat) : Int) from rfl]
        have ec := scY_c (up := true) (E := fun j => if j = k then z else E j) (F := E) (x := x) k (fun j hj => if_neg (by omega))
        have cc : ¬ ((true = true ∧ ltH (scY true (fun j => if j = k then z else E j) x k).2 ((fun j => if j = k then z else E j) k) = true) ∨ (true = false ∧ ltH ((fun j => if j = k then z else E j) k) (scY true (fun j => if j = k then z else E j) x k).2 = true)) := by
          rw [ec, ← ey, show (fun j => if j = k then z else E j) k = z from if_pos rfl]
          rintro (⟨q1, q2⟩ | ⟨q1, q2⟩)
          · have := (ltH_g ry zr).mp q2; omega
          · exact absurd q1 (by decide)
        have es : scY true (fun j => if j = k then z else E j) x (k + 1) = scY true E x k := (if_neg cc).trans ec
        refine ih (k + 1) n36 _ _ (fun j => if j = k then z else E j) _ (by omega) (by omega) hf2 (fun j hj => ?_) (by rw [es]; exact ef) (by rw [es]; exact ey)
        by_cases q : j = k
        · show RidF n _ (if j = k then z else E j)
          rw [if_pos q, q]; exact rz
        · show RidF n _ (if j = k then z else E j)
          rw [if_neg q]; exact hE j (by omega)
theorem lo_188 (hT : TT T) (hp : PinR m) {w : Wd} (hB : WB w) (hP : WP w) {D : Nat → Nat → Int} (hD : WyD w D) (hF : WBf w) {n : Nat} (hn : w 1 = (n : Int)) (hn12 : n ≤ 12) (ew : EW (-1) m w) (as1 : AsF m) (eD : ∀ a b : Nat, a < 7 → b < 7 → m 199 (7 * a + b) = D a b) (h10 : ior (m 193 10) 0 = m 193 10) {x : Int} (rx : RidF n (rowsW w D) x) {c : Nat} (hc : w 5 = (c : Int)) : ∀ (N k : Nat) (p : Mm) (y f : Int) (E : Nat → Int) (x4 : AV), c - k < N → k ≤ c → DGk 23 m p → (∀ j : Nat, j < k → RidF n (rowsW (upw w (32 + 2 * j) 0) D) (E j)) → f = (scY false E x k).1 → y = (scY false E x k).2 → GX T 10 188 19 [(2, 192), (0, f), (0, (if y = -1 then 1000000000 else y)), (0, (k : Int)), x4] [] p (RI (fun v m1 => ∃ E : Nat → Int, (∀ j : Nat, j < c → RidF n (rowsW (upw w (32 + 2 * j) 0) D) (E j)) ∧ v = (scY false E x c).1)) := by
  have b5 := hB.2.2.1
  have b6 := hB.2.2.2.1
  have b0 := hB.1
  intro N
  induction N with
  | zero => intro k p y f E x4 hN; exact absurd hN (Nat.not_lt_zero _)
  | succ N ih =>
    intro k p y f E x4 hN hk hf hE ef ey
    have pp : PinR p := pin_dgk rfl hp hf
    have ry := scY_r (up := false) (E := E) (x := x) (ridF_r hn12 rx) k (fun j hj => ridF_r hn12 (hE j hj))
    rw [← ey] at ry
    refine gx_st (L' := [(2, 192), (0, f), (0, (if y = -1 then 1000000000 else y)), (0, (k : Int)), x4]) (S' := [(0, (k : Int))]) r_188_19 rfl rfl rfl ?_
    refine gx_st (L' := [(2, 192), (0, f), (0, (if y = -1 then 1000000000 else y)), (0, (k : Int)), x4]) (S' := [(2, 192), (0, (k : Int))]) r_188_20 rfl rfl rfl ?_
    refine gx_gf (x := 193) 2 r_188_21 (rfl) (ty_192 hT) ⟨by decide, rfl, by decide, by decide⟩ rfl (fun _ => by omega) (pin_at pp (t := 193) rfl (by decide)) ?_
    refine gx_st (L' := [(2, 192), (0, f), (0, (if y = -1 then 1000000000 else y)), (0, (k : Int)), x4]) (S' := [(0, 5), (2, 193), (0, (k : Int))]) r_188_24 rfl rfl rfl ?_
    refine gx_ia (n := 5) (x := (c : Int)) r_188_25 (rfl) (ty_193 hT) (rfl) ⟨rfl, by decide⟩ (((hf 193 5 (by omega) (by omega) (by omega) (by omega) (by omega)).trans ((ew.1 5 (by decide) (by decide) (by decide)).trans hc))) ?_
    refine gx_ic (P := (c : Int) ≤ (k : Int)) r_188_26 (rfl) (fun h26 => ?_) (fun h26 => ?_)
    · refine gx_st (L' := [(2, 192), (0, f), (0, (if y = -1 then 1000000000 else y)), (0, (k : Int)), x4]) (S' := [(0, f)]) r_188_60 rfl rfl rfl ?_
      have hkc : k = c := by omega
      subst hkc
      exact gx_rt r_188_61 rfl rfl ⟨_, rfl, E, hE, ef⟩
    · refine gx_st (L' := [(2, 192), (0, f), (0, (if y = -1 then 1000000000 else y)), (0, (k : Int)), x4]) (S' := [(2, 192)]) r_188_29 rfl rfl rfl ?_
      refine gx_st (L' := [(2, 192), (0, f), (0, (if y = -1 then 1000000000 else y)), (0, (k : Int)), x4]) (S' := [(0, (k : Int)), (2, 192)]) r_188_30 rfl rfl rfl ?_
      obtain ⟨m1, e_m1⟩ : ∃ z, z = nu_up p 192 23 (k : Int) := ⟨_, rfl⟩
      refine gx_pf (x := (k : Int)) 0 r_188_31 (rfl) (ty_192 hT) ⟨by decide, rfl, by decide, by decide⟩ rfl (fun z => absurd z (by decide)) (fun z => absurd z (by decide)) e_m1.symm ?_
      refine gx_st (L' := [(2, 192), (0, f), (0, (if y = -1 then 1000000000 else y)), (0, (k : Int)), x4]) (S' := [(2, 192)]) r_188_34 rfl rfl rfl ?_
      have hf1 : DGk 23 m m1 := by rw [e_m1]; exact dgk_up hf
      have pp1 : PinR m1 := pin_dgk rfl hp hf1
      have si1 : SI (k : Int) (upw w (32 + 2 * k) 0) D m1 := ⟨pp1, ew_modt ew (t := k) (by omega) (fun i => hf1 193 i (by omega) (by omega) (by omega) (by omega) (by omega)) (fun i i1 i2 => hf1 192 i (by omega) (by omega) (by omega) (by omega) (by omega)) (by rw [e_m1, nu_at]), fun a b ha hb => (hf1 199 (7 * a + b) (by omega) (by omega) (by omega) (by omega) (by omega)).trans (eD a b ha hb)⟩
      have mw := modw_t w (t := k) (by omega) 0
      refine gx_ci (nx := 38) (S2 := []) (y_186 hT (modw_WB mw hB) (modw_WP mw hP) ((modw_D mw).mpr hD) (wbf_t hF (t := k) (by omega)) (n := n) (by rw [upw_ne (by omega)]; exact hn) hn12 si1) r_188_35 rfl rfl rfl rfl rfl (rcv_v rfl (ty_192 hT) (by decide) rfl (by decide)) rfl (by decide) rfl (fun x35 n35 q35 => ?_)
      obtain ⟨⟨z, rz, ez⟩, dg⟩ := q35
      rw [ez]
      have zr := ridF_r hn12 rz
      have hf2 := dgk_g hf1 dg
      show GX T 10 188 38 [(2, 192), (0, f), (0, (if y = -1 then 1000000000 else y)), (0, (k : Int)), x4] [(0, (if z = -1 then 1000000000 else z))] n35 (RI (fun v m1 => ∃ E : Nat → Int, (∀ j : Nat, j < c → RidF n (rowsW (upw w (32 + 2 * j) 0) D) (E j)) ∧ v = (scY false E x c).1))
      show GX T 10 188 38 [(2, 192), (0, f), (0, (if y = -1 then 1000000000 else y)), (0, (k : Int)), x4] [(0, (if z = -1 then 1000000000 else z))] n35 (RI (fun v m1 => ∃ E : Nat → Int, (∀ j : Nat, j < c → RidF n (rowsW (upw w (32 + 2 * j) 0) D) (E j)) ∧ v = (scY false E x c).1))
      refine gx_st (L' := [(2, 192), (0, f), (0, (if y = -1 then 1000000000 else y)), (0, (k : Int)), (0, (if z = -1 then 1000000000 else z))]) (S' := []) r_188_38 rfl rfl rfl ?_
      refine gx_st (L' := [(2, 192), (0, f), (0, (if y = -1 then 1000000000 else y)), (0, (k : Int)), (0, (if z = -1 then 1000000000 else z))]) (S' := [(0, (if z = -1 then 1000000000 else z))]) r_188_40 rfl rfl rfl ?_
      refine gx_st (L' := [(2, 192), (0, f), (0, (if y = -1 then 1000000000 else y)), (0, (k : Int)), (0, (if z = -1 then 1000000000 else z))]) (S' := [(0, (if y = -1 then 1000000000 else y)), (0, (if z = -1 then 1000000000 else z))]) r_188_42 rfl rfl rfl ?_
      refine gx_ic (P := (if z = -1 then 1000000000 else z) < (if y = -1 then 1000000000 else y)) r_188_43 (rfl) (fun h43 => ?_) (fun h43 => ?_)
      · refine gx_st (L' := [(2, 192), (0, f), (0, (if y = -1 then 1000000000 else y)), (0, (k : Int)), (0, (if z = -1 then 1000000000 else z))]) (S' := [(0, (if z = -1 then 1000000000 else z))]) r_188_49 rfl rfl rfl ?_
        refine gx_st (L' := [(2, 192), (0, f), (0, (if z = -1 then 1000000000 else z)), (0, (k : Int)), (0, (if z = -1 then 1000000000 else z))]) (S' := []) r_188_51 rfl rfl rfl ?_
        refine gx_st (L' := [(2, 192), (0, f), (0, (if z = -1 then 1000000000 else z)), (0, (k : Int)), (0, (if z = -1 then 1000000000 else z))]) (S' := [(0, (k : Int))]) r_188_52 rfl rfl rfl ?_
        refine gx_st (L' := [(2, 192), (0, (k : Int)), (0, (if z = -1 then 1000000000 else z)), (0, (k : Int)), (0, (if z = -1 then 1000000000 else z))]) (S' := []) r_188_53 rfl rfl rfl ?_
        refine gx_li (z := (k : Int) + 1) (L' := [(2, 192), (0, (k : Int)), (0, (if z = -1 then 1000000000 else z)), (0, (k : Int) + 1), (0, (if z = -1 then 1000000000 else z))]) r_188_54 rfl (w32_eq (by omega) (by omega) (by omega)) rfl ?_
        refine gx_st (L' := [(2, 192), (0, (k : Int)), (0, (if z = -1 then 1000000000 else z)), (0, (k : Int) + 1), (0, (if z = -1 then 1000000000 else z))]) (S' := []) r_188_57 rfl rfl rfl ?_
        rw [show (k : Int) + 1 = ((k + 1 : Nat) : Int) from rfl]
        have ec := scY_c (up := false) (E := fun j => if j = k then z else E j) (F := E) (x := x) k (fun j hj => if_neg (by omega))
        have cc : ((false = true ∧ ltH (scY false (fun j => if j = k then z else E j) x k).2 ((fun j => if j = k then z else E j) k) = true) ∨ (false = false ∧ ltH ((fun j => if j = k then z else E j) k) (scY false (fun j => if j = k then z else E j) x k).2 = true)) := by
          rw [ec, ← ey, show (fun j => if j = k then z else E j) k = z from if_pos rfl]
          exact Or.inr ⟨rfl, (ltH_g zr ry).mpr (by omega)⟩
        have es : scY false (fun j => if j = k then z else E j) x (k + 1) = ((k : Int), z) := (if_pos cc).trans (by show ((k : Int), (if k = k then z else E k)) = _; rw [if_pos rfl])
        refine ih (k + 1) n35 _ _ (fun j => if j = k then z else E j) _ (by omega) (by omega) hf2 (fun j hj => ?_) (by rw [es]) (by rw [es])
        by_cases q : j = k
        · show RidF n _ (if j = k then z else E j)
          rw [if_pos q, q]; exact rz
        · show RidF n _ (if j = k then z else E j)
          rw [if_neg q]; exact hE j (by omega)
      · refine gx_st (L' := [(2, 192), (0, f), (0, (if y = -1 then 1000000000 else y)), (0, (k : Int)), (0, (if z = -1 then 1000000000 else z))]) (S' := []) r_188_46 rfl rfl rfl ?_
        refine gx_li (z := (k : Int) + 1) (L' := [(2, 192), (0, f), (0, (if y = -1 then 1000000000 else y)), (0, (k : Int) + 1), (0, (if z = -1 then 1000000000 else z))]) r_188_54 rfl (w32_eq (by omega) (by omega) (by omega)) rfl ?_
        refine gx_st (L' := [(2, 192), (0, f), (0, (if y = -1 then 1000000000 else y)), (0, (k : Int) + 1), (0, (if z = -1 then 1000000000 else z))]) (S' := []) r_188_57 rfl rfl rfl ?_
        rw [show (k : Int) + 1 = ((k + 1 : Nat) : Int) from rfl]
        have ec := scY_c (up := false) (E := fun j => if j = k then z else E j) (F := E) (x := x) k (fun j hj => if_neg (by omega))
        have cc : ¬ ((false = true ∧ ltH (scY false (fun j => if j = k then z else E j) x k).2 ((fun j => if j = k then z else E j) k) = true) ∨ (false = false ∧ ltH ((fun j => if j = k then z else E j) k) (scY false (fun j => if j = k then z else E j) x k).2 = true)) := by
          rw [ec, ← ey, show (fun j => if j = k then z else E j) k = z from if_pos rfl]
          rintro (⟨q1, q2⟩ | ⟨q1, q2⟩)
          · exact absurd q1 (by decide)
          · have := (ltH_g zr ry).mp q2; omega
        have es : scY false (fun j => if j = k then z else E j) x (k + 1) = scY false E x k := (if_neg cc).trans ec
        refine ih (k + 1) n35 _ _ (fun j => if j = k then z else E j) _ (by omega) (by omega) hf2 (fun j hj => ?_) (by rw [es]; exact ef) (by rw [es]; exact ey)
        by_cases q : j = k
        · show RidF n _ (if j = k then z else E j)
          rw [if_pos q, q]; exact rz
        · show RidF n _ (if j = k then z else E j)
          rw [if_neg q]; exact hE j (by omega)
theorem lo_191 (hT : TT T) (hp : PinR m) {w : Wd} (hB : WB w) (hP : WP w) {D : Nat → Nat → Int} (hD : WyD w D) (hF : WBf w) {n : Nat} (hn : w 1 = (n : Int)) (hn12 : n ≤ 12) (ew : EW (-1) m w) (as1 : AsF m) (eD : ∀ a b : Nat, a < 7 → b < 7 → m 199 (7 * a + b) = D a b) (h10 : ior (m 193 10) 0 = m 193 10) {x : Int} (rx : RidF n (rowsW w D) x) {c : Nat} (hc : w 0 = (c : Int)) : ∀ (N k : Nat) (p : Mm) (y f : Int) (E : Nat → Int) (x4 : AV), c - k < N → k ≤ c → DGk 25 m p → (∀ j : Nat, j < k → RidF n (rowsW (upw w 10 (ior (w 10) (ishl 1 (j : Int)))) D) (E j)) → f = (scY false E x k).1 → y = (scY false E x k).2 → GX T 10 191 19 [(2, 192), (0, f), (0, (if y = -1 then 1000000000 else y)), (0, (k : Int)), x4] [] p (RI (fun v m1 => ∃ E : Nat → Int, (∀ j : Nat, j < c → RidF n (rowsW (upw w 10 (ior (w 10) (ishl 1 (j : Int)))) D) (E j)) ∧ v = (scY false E x c).1)) := by
  have b5 := hB.2.2.1
  have b6 := hB.2.2.2.1
  have b0 := hB.1
  intro N
  induction N with
  | zero => intro k p y f E x4 hN; exact absurd hN (Nat.not_lt_zero _)
  | succ N ih =>
    intro k p y f E x4 hN hk hf hE ef ey
    have pp : PinR p := pin_dgk rfl hp hf
    have ry := scY_r (up := false) (E := E) (x := x) (ridF_r hn12 rx) k (fun j hj => ridF_r hn12 (hE j hj))
    rw [← ey] at ry
    refine gx_st (L' := [(2, 192), (0, f), (0, (if y = -1 then 1000000000 else y)), (0, (k : Int)), x4]) (S' := [(0, (k : Int))]) r_191_19 rfl rfl rfl ?_
    refine gx_st (L' := [(2, 192), (0, f), (0, (if y = -1 then 1000000000 else y)), (0, (k : Int)), x4]) (S' := [(2, 192), (0, (k : Int))]) r_191_20 rfl rfl rfl ?_
    refine gx_gf (x := 193) 2 r_191_21 (rfl) (ty_192 hT) ⟨by decide, rfl, by decide, by decide⟩ rfl (fun _ => by omega) (pin_at pp (t := 193) rfl (by decide)) ?_
    refine gx_st (L' := [(2, 192), (0, f), (0, (if y = -1 then 1000000000 else y)), (0, (k : Int)), x4]) (S' := [(0, 0), (2, 193), (0, (k : Int))]) r_191_24 rfl rfl rfl ?_
    refine gx_ia (n := 0) (x := (c : Int)) r_191_25 (rfl) (ty_193 hT) (rfl) ⟨rfl, by decide⟩ (((hf 193 0 (by omega) (by omega) (by omega) (by omega) (by omega)).trans ((ew.1 0 (by decide) (by decide) (by decide)).trans hc))) ?_
    refine gx_ic (P := (c : Int) ≤ (k : Int)) r_191_26 (rfl) (fun h26 => ?_) (fun h26 => ?_)
    · refine gx_st (L' := [(2, 192), (0, f), (0, (if y = -1 then 1000000000 else y)), (0, (k : Int)), x4]) (S' := [(0, f)]) r_191_62 rfl rfl rfl ?_
      have hkc : k = c := by omega
      subst hkc
      exact gx_rt r_191_63 rfl rfl ⟨_, rfl, E, hE, ef⟩
    · refine gx_st (L' := [(2, 192), (0, f), (0, (if y = -1 then 1000000000 else y)), (0, (k : Int)), x4]) (S' := [(2, 192)]) r_191_29 rfl rfl rfl ?_
      refine gx_st (L' := [(2, 192), (0, f), (0, (if y = -1 then 1000000000 else y)), (0, (k : Int)), x4]) (S' := [(0, 1), (2, 192)]) r_191_30 rfl rfl rfl ?_
      refine gx_st (L' := [(2, 192), (0, f), (0, (if y = -1 then 1000000000 else y)), (0, (k : Int)), x4]) (S' := [(0, (k : Int)), (0, 1), (2, 192)]) r_191_31 rfl rfl rfl ?_
      refine gx_st (L' := [(2, 192), (0, f), (0, (if y = -1 then 1000000000 else y)), (0, (k : Int)), x4]) (S' := [(0, (ishl 1 (k : Int))), (2, 192)]) r_191_32 rfl rfl rfl ?_
      obtain ⟨m1, e_m1⟩ : ∃ z, z = nu_up p 192 25 ((ishl 1 (k : Int))) := ⟨_, rfl⟩
      refine gx_pf (x := (ishl 1 (k : Int))) 0 r_191_33 (rfl) (ty_192 hT) ⟨by decide, rfl, by decide, by decide⟩ rfl (fun z => absurd z (by decide)) (fun z => absurd z (by decide)) e_m1.symm ?_
      refine gx_st (L' := [(2, 192), (0, f), (0, (if y = -1 then 1000000000 else y)), (0, (k : Int)), x4]) (S' := [(2, 192)]) r_191_36 rfl rfl rfl ?_
      have hf1 : DGk 25 m m1 := by rw [e_m1]; exact dgk_up hf
      have pp1 : PinR m1 := pin_dgk rfl hp hf1
      have si1 : SI (-1) (upw w 10 (ior (w 10) (ishl 1 (k : Int)))) D m1 := ⟨pp1, ew_modb ew as1.2.2.1 h10 (fun i => hf1 193 i (by omega) (by omega) (by omega) (by omega) (by omega)) (fun i i1 i2 i3 => hf1 192 i (by omega) (by omega) (by omega) (by omega) (by omega)) (by rw [e_m1, nu_at]), fun a b ha hb => (hf1 199 (7 * a + b) (by omega) (by omega) (by omega) (by omega) (by omega)).trans (eD a b ha hb)⟩
      have mw := modw_b w (ior (w 10) (ishl 1 (k : Int)))
      refine gx_ci (nx := 40) (S2 := []) (y_186 hT (modw_WB mw hB) (modw_WP mw hP) ((modw_D mw).mpr hD) (wbf_b hF) (n := n) (by rw [upw_ne (by omega)]; exact hn) hn12 si1) r_191_37 rfl rfl rfl rfl rfl (rcv_v rfl (ty_192 hT) (by decide) rfl (by decide)) rfl (by decide) rfl (fun x37 n37 q37 => ?_)
      obtain ⟨⟨z, rz, ez⟩, dg⟩ := q37
      rw [ez]
      have zr := ridF_r hn12 rz
      have hf2 := dgk_g hf1 dg
      show GX T 10 191 40 [(2, 192), (0, f), (0, (if y = -1 then 1000000000 else y)), (0, (k : Int)), x4] [(0, (if z = -1 then 1000000000 else z))] n37 (RI (fun v m1 => ∃ E : Nat → Int, (∀ j : Nat, j < c → RidF n (rowsW (upw w 10 (ior (w 10) (ishl 1 (j : Int)))) D) (E j)) ∧ v = (scY false E x c).1))
      show GX T 10 191 40 [(2, 192), (0, f), (0, (if y = -1 then 1000000000 else y)), (0, (k : Int)), x4] [(0, (if z = -1 then 1000000000 else z))] n37 (RI (fun v m1 => ∃ E : Nat → Int, (∀ j : Nat, j < c → RidF n (rowsW (upw w 10 (ior (w 10) (ishl 1 (j : Int)))) D) (E j)) ∧ v = (scY false E x c).1))
      refine gx_st (L' := [(2, 192), (0, f), (0, (if y = -1 then 1000000000 else y)), (0, (k : Int)), (0, (if z = -1 then 1000000000 else z))]) (S' := []) r_191_40 rfl rfl rfl ?_
      refine gx_st (L' := [(2, 192), (0, f), (0, (if y = -1 then 1000000000 else y)), (0, (k : Int)), (0, (if z = -1 then 1000000000 else z))]) (S' := [(0, (if z = -1 then 1000000000 else z))]) r_191_42 rfl rfl rfl ?_
      refine gx_st (L' := [(2, 192), (0, f), (0, (if y = -1 then 1000000000 else y)), (0, (k : Int)), (0, (if z = -1 then 1000000000 else z))]) (S' := [(0, (if y = -1 then 1000000000 else y)), (0, (if z = -1 then 1000000000 else z))]) r_191_44 rfl rfl rfl ?_
      refine gx_ic (P := (if z = -1 then 1000000000 else z) < (if y = -1 then 1000000000 else y)) r_191_45 (rfl) (fun h45 => ?_) (fun h45 => ?_)
      · refine gx_st (L' := [(2, 192), (0, f), (0, (if y = -1 then 1000000000 else y)), (0, (k : Int)), (0, (if z = -1 then 1000000000 else z))]) (S' := [(0, (if z = -1 then 1000000000 else z))]) r_191_51 rfl rfl rfl ?_
        refine gx_st (L' := [(2, 192), (0, f), (0, (if z = -1 then 1000000000 else z)), (0, (k : Int)), (0, (if z = -1 then 1000000000 else z))]) (S' := []) r_191_53 rfl rfl rfl ?_
        refine gx_st (L' := [(2, 192), (0, f), (0, (if z = -1 then 1000000000 else z)), (0, (k : Int)), (0, (if z = -1 then 1000000000 else z))]) (S' := [(0, (k : Int))]) r_191_54 rfl rfl rfl ?_
        refine gx_st (L' := [(2, 192), (0, (k : Int)), (0, (if z = -1 then 1000000000 else z)), (0, (k : Int)), (0, (if z = -1 then 1000000000 else z))]) (S' := []) r_191_55 rfl rfl rfl ?_
        refine gx_li (z := (k : Int) + 1) (L' := [(2, 192), (0, (k : Int)), (0, (if z = -1 then 1000000000 else z)), (0, (k : Int) + 1), (0, (if z = -1 then 1000000000 else z))]) r_191_56 rfl (w32_eq (by omega) (by omega) (by omega)) rfl ?_
        refine gx_st (L' := [(2, 192), (0, (k : Int)), (0, (if z = -1 then 1000000000 else z)), (0, (k : Int) + 1), (0, (if z = -1 then 1000000000 else z))]) (S' := []) r_191_59 rfl rfl rfl ?_
        rw [show (k : Int) + 1 = ((k + 1 : Nat) : Int) from rfl]
        have ec := scY_c (up := false) (E := fun j => if j = k then z else E j) (F := E) (x := x) k (fun j hj => if_neg (by omega))
        have cc : ((false = true ∧ ltH (scY false (fun j => if j = k then z else E j) x k).2 ((fun j => if j = k then z else E j) k) = true) ∨ (false = false ∧ ltH ((fun j => if j = k then z else E j) k) (scY false (fun j => if j = k then z else E j) x k).2 = true)) := by
          rw [ec, ← ey, show (fun j => if j = k then z else E j) k = z from if_pos rfl]
          exact Or.inr ⟨rfl, (ltH_g zr ry).mpr (by omega)⟩
        have es : scY false (fun j => if j = k then z else E j) x (k + 1) = ((k : Int), z) := (if_pos cc).trans (by show ((k : Int), (if k = k then z else E k)) = _; rw [if_pos rfl])
        refine ih (k + 1) n37 _ _ (fun j => if j = k then z else E j) _ (by omega) (by omega) hf2 (fun j hj => ?_) (by rw [es]) (by rw [es])
        by_cases q : j = k
        · show RidF n _ (if j = k then z else E j)
          rw [if_pos q, q]; exact rz
        · show RidF n _ (if j = k then z else E j)
          rw [if_neg q]; exact hE j (by omega)
      · refine gx_st (L' := [(2, 192), (0, f), (0, (if y = -1 then 1000000000 else y)), (0, (k : Int)), (0, (if z = -1 then 1000000000 else z))]) (S' := []) r_191_48 rfl rfl rfl ?_
        refine gx_li (z := (k : Int) + 1) (L' := [(2, 192), (0, f), (0, (if y = -1 then 1000000000 else y)), (0, (k : Int) + 1), (0, (if z = -1 then 1000000000 else z))]) r_191_56 rfl (w32_eq (by omega) (by omega) (by omega)) rfl ?_
        refine gx_st (L' := [(2, 192), (0, f), (0, (if y = -1 then 1000000000 else y)), (0, (k : Int) + 1), (0, (if z = -1 then 1000000000 else z))]) (S' := []) r_191_59 rfl rfl rfl ?_
        rw [show (k : Int) + 1 = ((k + 1 : Nat) : Int) from rfl]
        have ec := scY_c (up := false) (E := fun j => if j = k then z else E j) (F := E) (x := x) k (fun j hj => if_neg (by omega))
        have cc : ¬ ((false = true ∧ ltH (scY false (fun j => if j = k then z else E j) x k).2 ((fun j => if j = k then z else E j) k) = true) ∨ (false = false ∧ ltH ((fun j => if j = k then z else E j) k) (scY false (fun j => if j = k then z else E j) x k).2 = true)) := by
          rw [ec, ← ey, show (fun j => if j = k then z else E j) k = z from if_pos rfl]
          rintro (⟨q1, q2⟩ | ⟨q1, q2⟩)
          · exact absurd q1 (by decide)
          · have := (ltH_g zr ry).mp q2; omega
        have es : scY false (fun j => if j = k then z else E j) x (k + 1) = scY false E x k := (if_neg cc).trans ec
        refine ih (k + 1) n37 _ _ (fun j => if j = k then z else E j) _ (by omega) (by omega) hf2 (fun j hj => ?_) (by rw [es]; exact ef) (by rw [es]; exact ey)
        by_cases q : j = k
        · show RidF n _ (if j = k then z else E j)
          rw [if_pos q, q]; exact rz
        · show RidF n _ (if j = k then z else E j)
          rw [if_neg q]; exact hE j (by omega)
theorem y_187 (hT : TT T) (hp : PinR m) (hm : Gam m) (hx : Ext m) (wb : WB (pw (m 193))) (wp : WP (pw (m 193))) {n : Nat} (hn : m 193 1 = (n : Int)) : GX T 10 187 0 [(2, 192), (9, 0), (9, 0), (9, 0), (9, 0)] [] m (RI (fun v m1 => (¬ 0 < m 193 9 → v = -2) ∧ (0 < m 193 9 → ∃ D : Nat → Nat → Int, WyD (pw (m 193)) D ∧ ScanV true n (pw (m 193) 6).toNat (rowsW (pw (m 193)) D) (fun k => rowsW (upw (pw (m 193)) (42 + 2 * k) 13) D) v))) := by
  have b1 := gb_193_1 hm
  have hnw : pw (m 193) 1 = (n : Int) := by rw [pw_at (by decide) (by decide)]; exact hn
  have wf := wbf_pw hm
  have hnp : pw (m 193) 0 = ((pw (m 193) 0).toNat : Int) := by have := wb.1; omega
  have b5 := wb.2.2.1
  have b6 := wb.2.2.2.1
  have b0 := wb.1
  refine gx_st (L' := [(2, 192), (9, 0), (9, 0), (9, 0), (9, 0)]) (S' := [(2, 192)]) r_187_0 rfl rfl rfl ?_
  refine gx_ci (nx := 4) (S2 := []) (y_182 hT hp hm hx) r_187_1 rfl rfl rfl rfl rfl (rcv_v rfl (ty_192 hT) (by decide) rfl (by decide)) rfl (by decide) rfl (fun x1 n1 q1 => ?_)
  obtain ⟨e_x1, ⟨as1, _⟩, hp1, gm1, gx1, fs1, e193⟩ := q1
  rw [e_x1]
  obtain ⟨D, eD⟩ : ∃ D : Nat → Nat → Int, D = fun a b => n1 199 (7 * a + b) := ⟨_, rfl⟩
  have ew : EW (-1) n1 (pw (m 193)) := by
    have z := ew_as gm1 as1
    rw [e193] at z
    exact z
  have hD : WyD (pw (m 193)) D := wyD_pw.mpr (by
    rw [eD, ← e193]
    exact fs1)
  have si : SI (-1) (pw (m 193)) D n1 := ⟨hp1, ew, fun _ _ _ _ => by rw [eD]⟩
  show GX T 10 187 4 [(2, 192), (9, 0), (9, 0), (9, 0), (9, 0)] [(0, (if 0 < m 193 9 then 1 else 0))] n1 (RI (fun v m1 => (¬ 0 < m 193 9 → v = -2) ∧ (0 < m 193 9 → ∃ D : Nat → Nat → Int, WyD (pw (m 193)) D ∧ ScanV true n (pw (m 193) 6).toNat (rowsW (pw (m 193)) D) (fun k => rowsW (upw (pw (m 193)) (42 + 2 * k) 13) D) v)))
  show GX T 10 187 4 [(2, 192), (9, 0), (9, 0), (9, 0), (9, 0)] [(0, (if 0 < m 193 9 then 1 else 0))] n1 (RI (fun v m1 => (¬ 0 < m 193 9 → v = -2) ∧ (0 < m 193 9 → ∃ D : Nat → Nat → Int, WyD (pw (m 193)) D ∧ ScanV true n (pw (m 193) 6).toNat (rowsW (pw (m 193)) D) (fun k => rowsW (upw (pw (m 193)) (42 + 2 * k) 13) D) v)))
  refine gx_i0 (P := 0 < m 193 9) r_187_4 (b01_ne) (fun h4 => ?_) (fun h4 => ?_)
  · refine gx_st (L' := [(2, 192), (9, 0), (9, 0), (9, 0), (9, 0)]) (S' := [(0, (-1))]) r_187_10 rfl rfl rfl ?_
    refine gx_st (L' := [(2, 192), (0, (-1)), (9, 0), (9, 0), (9, 0)]) (S' := []) r_187_11 rfl rfl rfl ?_
    refine gx_st (L' := [(2, 192), (0, (-1)), (9, 0), (9, 0), (9, 0)]) (S' := [(2, 192)]) r_187_12 rfl rfl rfl ?_
    refine gx_ci (nx := 16) (S2 := []) (y_186 hT wb wp hD wf (n := n) hnw (by omega) si) r_187_13 rfl rfl rfl rfl rfl (rcv_v rfl (ty_192 hT) (by decide) rfl (by decide)) rfl (by decide) rfl (fun x13 n13 q13 => ?_)
    obtain ⟨⟨x, rx, ex⟩, dg⟩ := q13
    rw [ex]
    show GX T 10 187 16 [(2, 192), (0, (-1)), (9, 0), (9, 0), (9, 0)] [(0, (if x = -1 then 1000000000 else x))] n13 (RI (fun v m1 => (¬ 0 < m 193 9 → v = -2) ∧ (0 < m 193 9 → ∃ D : Nat → Nat → Int, WyD (pw (m 193)) D ∧ ScanV true n (pw (m 193) 6).toNat (rowsW (pw (m 193)) D) (fun k => rowsW (upw (pw (m 193)) (42 + 2 * k) 13) D) v)))
    show GX T 10 187 16 [(2, 192), (0, (-1)), (9, 0), (9, 0), (9, 0)] [(0, (if x = -1 then 1000000000 else x))] n13 (RI (fun v m1 => (¬ 0 < m 193 9 → v = -2) ∧ (0 < m 193 9 → ∃ D : Nat → Nat → Int, WyD (pw (m 193)) D ∧ ScanV true n (pw (m 193) 6).toNat (rowsW (pw (m 193)) D) (fun k => rowsW (upw (pw (m 193)) (42 + 2 * k) 13) D) v)))
    refine gx_st (L' := [(2, 192), (0, (-1)), (0, (if x = -1 then 1000000000 else x)), (9, 0), (9, 0)]) (S' := []) r_187_16 rfl rfl rfl ?_
    refine gx_st (L' := [(2, 192), (0, (-1)), (0, (if x = -1 then 1000000000 else x)), (9, 0), (9, 0)]) (S' := [(0, 0)]) r_187_17 rfl rfl rfl ?_
    refine gx_st (L' := [(2, 192), (0, (-1)), (0, (if x = -1 then 1000000000 else x)), (0, 0), (9, 0)]) (S' := []) r_187_18 rfl rfl rfl ?_
    refine gx_imp (lo_187 hT hp1 wb wp hD wf hnw (by omega) ew as1 si.2.2 (by rw [e193]; exact ior_0 (gb_193_10 hm)) rx (c := (pw (m 193) 6).toNat) (by omega) ((pw (m 193) 6).toNat + 1) 0 n13 x (-1) (fun _ => 0) (9, 0) (by omega) (by omega) (dgk_g (fun _ _ _ _ _ _ _ => rfl) dg) (fun i hi => absurd hi (Nat.not_lt_zero _)) rfl rfl) (fun v m1 ⟨v2, e, E, hE, ev⟩ => ⟨v2, e, fun z => absurd h4 z, fun _ => ⟨D, hD, x, E, rx, hE, ev⟩⟩)
  · refine gx_st (L' := [(2, 192), (9, 0), (9, 0), (9, 0), (9, 0)]) (S' := [(0, (-2))]) r_187_7 rfl rfl rfl ?_
    exact gx_rt r_187_9 rfl rfl ⟨_, rfl, fun _ => rfl, fun z => absurd z h4⟩
theorem y_188 (hT : TT T) (hp : PinR m) (hm : Gam m) (hx : Ext m) (wb : WB (pw (m 193))) (wp : WP (pw (m 193))) {n : Nat} (hn : m 193 1 = (n : Int)) : GX T 10 188 0 [(2, 192), (9, 0), (9, 0), (9, 0), (9, 0)] [] m (RI (fun v m1 => (¬ 0 < m 193 9 → v = -2) ∧ (0 < m 193 9 → ∃ D : Nat → Nat → Int, WyD (pw (m 193)) D ∧ ScanV false n (pw (m 193) 5).toNat (rowsW (pw (m 193)) D) (fun k => rowsW (upw (pw (m 193)) (32 + 2 * k) 0) D) v))) := by
  have b1 := gb_193_1 hm
  have hnw : pw (m 193) 1 = (n : Int) := by rw [pw_at (by decide) (by decide)]; exact hn
  have wf := wbf_pw hm
  have hnp : pw (m 193) 0 = ((pw (m 193) 0).toNat : Int) := by have := wb.1; omega
  have b5 := wb.2.2.1
  have b6 := wb.2.2.2.1
  have b0 := wb.1
  refine gx_st (L' := [(2, 192), (9, 0), (9, 0), (9, 0), (9, 0)]) (S' := [(2, 192)]) r_188_0 rfl rfl rfl ?_
  refine gx_ci (nx := 4) (S2 := []) (y_182 hT hp hm hx) r_188_1 rfl rfl rfl rfl rfl (rcv_v rfl (ty_192 hT) (by decide) rfl (by decide)) rfl (by decide) rfl (fun x1 n1 q1 => ?_)
  obtain ⟨e_x1, ⟨as1, _⟩, hp1, gm1, gx1, fs1, e193⟩ := q1
  rw [e_x1]
  obtain ⟨D, eD⟩ : ∃ D : Nat → Nat → Int, D = fun a b => n1 199 (7 * a + b) := ⟨_, rfl⟩
  have ew : EW (-1) n1 (pw (m 193)) := by
    have z := ew_as gm1 as1
    rw [e193] at z
    exact z
  have hD : WyD (pw (m 193)) D := wyD_pw.mpr (by
    rw [eD, ← e193]
    exact fs1)
  have si : SI (-1) (pw (m 193)) D n1 := ⟨hp1, ew, fun _ _ _ _ => by rw [eD]⟩
  show GX T 10 188 4 [(2, 192), (9, 0), (9, 0), (9, 0), (9, 0)] [(0, (if 0 < m 193 9 then 1 else 0))] n1 (RI (fun v m1 => (¬ 0 < m 193 9 → v = -2) ∧ (0 < m 193 9 → ∃ D : Nat → Nat → Int, WyD (pw (m 193)) D ∧ ScanV false n (pw (m 193) 5).toNat (rowsW (pw (m 193)) D) (fun k => rowsW (upw (pw (m 193)) (32 + 2 * k) 0) D) v)))
  show GX T 10 188 4 [(2, 192), (9, 0), (9, 0), (9, 0), (9, 0)] [(0, (if 0 < m 193 9 then 1 else 0))] n1 (RI (fun v m1 => (¬ 0 < m 193 9 → v = -2) ∧ (0 < m 193 9 → ∃ D : Nat → Nat → Int, WyD (pw (m 193)) D ∧ ScanV false n (pw (m 193) 5).toNat (rowsW (pw (m 193)) D) (fun k => rowsW (upw (pw (m 193)) (32 + 2 * k) 0) D) v)))
  refine gx_i0 (P := 0 < m 193 9) r_188_4 (b01_ne) (fun h4 => ?_) (fun h4 => ?_)
  · refine gx_st (L' := [(2, 192), (9, 0), (9, 0), (9, 0), (9, 0)]) (S' := [(0, (-1))]) r_188_10 rfl rfl rfl ?_
    refine gx_st (L' := [(2, 192), (0, (-1)), (9, 0), (9, 0), (9, 0)]) (S' := []) r_188_11 rfl rfl rfl ?_
    refine gx_st (L' := [(2, 192), (0, (-1)), (9, 0), (9, 0), (9, 0)]) (S' := [(2, 192)]) r_188_12 rfl rfl rfl ?_
    refine gx_ci (nx := 16) (S2 := []) (y_186 hT wb wp hD wf (n := n) hnw (by omega) si) r_188_13 rfl rfl rfl rfl rfl (rcv_v rfl (ty_192 hT) (by decide) rfl (by decide)) rfl (by decide) rfl (fun x13 n13 q13 => ?_)
    obtain ⟨⟨x, rx, ex⟩, dg⟩ := q13
    rw [ex]
    show GX T 10 188 16 [(2, 192), (0, (-1)), (9, 0), (9, 0), (9, 0)] [(0, (if x = -1 then 1000000000 else x))] n13 (RI (fun v m1 => (¬ 0 < m 193 9 → v = -2) ∧ (0 < m 193 9 → ∃ D : Nat → Nat → Int, WyD (pw (m 193)) D ∧ ScanV false n (pw (m 193) 5).toNat (rowsW (pw (m 193)) D) (fun k => rowsW (upw (pw (m 193)) (32 + 2 * k) 0) D) v)))
    show GX T 10 188 16 [(2, 192), (0, (-1)), (9, 0), (9, 0), (9, 0)] [(0, (if x = -1 then 1000000000 else x))] n13 (RI (fun v m1 => (¬ 0 < m 193 9 → v = -2) ∧ (0 < m 193 9 → ∃ D : Nat → Nat → Int, WyD (pw (m 193)) D ∧ ScanV false n (pw (m 193) 5).toNat (rowsW (pw (m 193)) D) (fun k => rowsW (upw (pw (m 193)) (32 + 2 * k) 0) D) v)))
    refine gx_st (L' := [(2, 192), (0, (-1)), (0, (if x = -1 then 1000000000 else x)), (9, 0), (9, 0)]) (S' := []) r_188_16 rfl rfl rfl ?_
    refine gx_st (L' := [(2, 192), (0, (-1)), (0, (if x = -1 then 1000000000 else x)), (9, 0), (9, 0)]) (S' := [(0, 0)]) r_188_17 rfl rfl rfl ?_
    refine gx_st (L' := [(2, 192), (0, (-1)), (0, (if x = -1 then 1000000000 else x)), (0, 0), (9, 0)]) (S' := []) r_188_18 rfl rfl rfl ?_
    refine gx_imp (lo_188 hT hp1 wb wp hD wf hnw (by omega) ew as1 si.2.2 (by rw [e193]; exact ior_0 (gb_193_10 hm)) rx (c := (pw (m 193) 5).toNat) (by omega) ((pw (m 193) 5).toNat + 1) 0 n13 x (-1) (fun _ => 0) (9, 0) (by omega) (by omega) (dgk_g (fun _ _ _ _ _ _ _ => rfl) dg) (fun i hi => absurd hi (Nat.not_lt_zero _)) rfl rfl) (fun v m1 ⟨v2, e, E, hE, ev⟩ => ⟨v2, e, fun z => absurd h4 z, fun _ => ⟨D, hD, x, E, rx, hE, ev⟩⟩)
  · refine gx_st (L' := [(2, 192), (9, 0), (9, 0), (9, 0), (9, 0)]) (S' := [(0, (-2))]) r_188_7 rfl rfl rfl ?_
    exact gx_rt r_188_9 rfl rfl ⟨_, rfl, fun _ => rfl, fun z => absurd z h4⟩
theorem y_191 (hT : TT T) (hp : PinR m) (hm : Gam m) (hx : Ext m) (wb : WB (pw (m 193))) (wp : WP (pw (m 193))) {n : Nat} (hn : m 193 1 = (n : Int)) : GX T 10 191 0 [(2, 192), (9, 0), (9, 0), (9, 0), (9, 0)] [] m (RI (fun v m1 => (¬ 0 < m 193 9 → v = -2) ∧ (0 < m 193 9 → ∃ D : Nat → Nat → Int, WyD (pw (m 193)) D ∧ ScanV false n (pw (m 193) 0).toNat (rowsW (pw (m 193)) D) (fun k => rowsW (upw (pw (m 193)) 10 (ior (pw (m 193) 10) (ishl 1 (k : Int)))) D) v))) := by
  have b1 := gb_193_1 hm
  have hnw : pw (m 193) 1 = (n : Int) := by rw [pw_at (by decide) (by decide)]; exact hn
  have wf := wbf_pw hm
  have hnp : pw (m 193) 0 = ((pw (m 193) 0).toNat : Int) := by have := wb.1; omega
  have b5 := wb.2.2.1
  have b6 := wb.2.2.2.1
  have b0 := wb.1
  refine gx_st (L' := [(2, 192), (9, 0), (9, 0), (9, 0), (9, 0)]) (S' := [(2, 192)]) r_191_0 rfl rfl rfl ?_
  refine gx_ci (nx := 4) (S2 := []) (y_182 hT hp hm hx) r_191_1 rfl rfl rfl rfl rfl (rcv_v rfl (ty_192 hT) (by decide) rfl (by decide)) rfl (by decide) rfl (fun x1 n1 q1 => ?_)
  obtain ⟨e_x1, ⟨as1, _⟩, hp1, gm1, gx1, fs1, e193⟩ := q1
  rw [e_x1]
  obtain ⟨D, eD⟩ : ∃ D : Nat → Nat → Int, D = fun a b => n1 199 (7 * a + b) := ⟨_, rfl⟩
  have ew : EW (-1) n1 (pw (m 193)) := by
    have z := ew_as gm1 as1
    rw [e193] at z
    exact z
  have hD : WyD (pw (m 193)) D := wyD_pw.mpr (by
    rw [eD, ← e193]
    exact fs1)
  have si : SI (-1) (pw (m 193)) D n1 := ⟨hp1, ew, fun _ _ _ _ => by rw [eD]⟩
  show GX T 10 191 4 [(2, 192), (9, 0), (9, 0), (9, 0), (9, 0)] [(0, (if 0 < m 193 9 then 1 else 0))] n1 (RI (fun v m1 => (¬ 0 < m 193 9 → v = -2) ∧ (0 < m 193 9 → ∃ D : Nat → Nat → Int, WyD (pw (m 193)) D ∧ ScanV false n (pw (m 193) 0).toNat (rowsW (pw (m 193)) D) (fun k => rowsW (upw (pw (m 193)) 10 (ior (pw (m 193) 10) (ishl 1 (k : Int)))) D) v)))
  show GX T 10 191 4 [(2, 192), (9, 0), (9, 0), (9, 0), (9, 0)] [(0, (if 0 < m 193 9 then 1 else 0))] n1 (RI (fun v m1 => (¬ 0 < m 193 9 → v = -2) ∧ (0 < m 193 9 → ∃ D : Nat → Nat → Int, WyD (pw (m 193)) D ∧ ScanV false n (pw (m 193) 0).toNat (rowsW (pw (m 193)) D) (fun k => rowsW (upw (pw (m 193)) 10 (ior (pw (m 193) 10) (ishl 1 (k : Int)))) D) v)))
  refine gx_i0 (P := 0 < m 193 9) r_191_4 (b01_ne) (fun h4 => ?_) (fun h4 => ?_)
  · refine gx_st (L' := [(2, 192), (9, 0), (9, 0), (9, 0), (9, 0)]) (S' := [(0, (-1))]) r_191_10 rfl rfl rfl ?_
    refine gx_st (L' := [(2, 192), (0, (-1)), (9, 0), (9, 0), (9, 0)]) (S' := []) r_191_11 rfl rfl rfl ?_
    refine gx_st (L' := [(2, 192), (0, (-1)), (9, 0), (9, 0), (9, 0)]) (S' := [(2, 192)]) r_191_12 rfl rfl rfl ?_
    refine gx_ci (nx := 16) (S2 := []) (y_186 hT wb wp hD wf (n := n) hnw (by omega) si) r_191_13 rfl rfl rfl rfl rfl (rcv_v rfl (ty_192 hT) (by decide) rfl (by decide)) rfl (by decide) rfl (fun x13 n13 q13 => ?_)
    obtain ⟨⟨x, rx, ex⟩, dg⟩ := q13
    rw [ex]
    show GX T 10 191 16 [(2, 192), (0, (-1)), (9, 0), (9, 0), (9, 0)] [(0, (if x = -1 then 1000000000 else x))] n13 (RI (fun v m1 => (¬ 0 < m 193 9 → v = -2) ∧ (0 < m 193 9 → ∃ D : Nat → Nat → Int, WyD (pw (m 193)) D ∧ ScanV false n (pw (m 193) 0).toNat (rowsW (pw (m 193)) D) (fun k => rowsW (upw (pw (m 193)) 10 (ior (pw (m 193) 10) (ishl 1 (k : Int)))) D) v)))
    show GX T 10 191 16 [(2, 192), (0, (-1)), (9, 0), (9, 0), (9, 0)] [(0, (if x = -1 then 1000000000 else x))] n13 (RI (fun v m1 => (¬ 0 < m 193 9 → v = -2) ∧ (0 < m 193 9 → ∃ D : Nat → Nat → Int, WyD (pw (m 193)) D ∧ ScanV false n (pw (m 193) 0).toNat (rowsW (pw (m 193)) D) (fun k => rowsW (upw (pw (m 193)) 10 (ior (pw (m 193) 10) (ishl 1 (k : Int)))) D) v)))
    refine gx_st (L' := [(2, 192), (0, (-1)), (0, (if x = -1 then 1000000000 else x)), (9, 0), (9, 0)]) (S' := []) r_191_16 rfl rfl rfl ?_
    refine gx_st (L' := [(2, 192), (0, (-1)), (0, (if x = -1 then 1000000000 else x)), (9, 0), (9, 0)]) (S' := [(0, 0)]) r_191_17 rfl rfl rfl ?_
    refine gx_st (L' := [(2, 192), (0, (-1)), (0, (if x = -1 then 1000000000 else x)), (0, 0), (9, 0)]) (S' := []) r_191_18 rfl rfl rfl ?_
    refine gx_imp (lo_191 hT hp1 wb wp hD wf hnw (by omega) ew as1 si.2.2 (by rw [e193]; exact ior_0 (gb_193_10 hm)) rx (c := (pw (m 193) 0).toNat) (by omega) ((pw (m 193) 0).toNat + 1) 0 n13 x (-1) (fun _ => 0) (9, 0) (by omega) (by omega) (dgk_g (fun _ _ _ _ _ _ _ => rfl) dg) (fun i hi => absurd hi (Nat.not_lt_zero _)) rfl rfl) (fun v m1 ⟨v2, e, E, hE, ev⟩ => ⟨v2, e, fun z => absurd h4 z, fun _ => ⟨D, hD, x, E, rx, hE, ev⟩⟩)
  · refine gx_st (L' := [(2, 192), (9, 0), (9, 0), (9, 0), (9, 0)]) (S' := [(0, (-2))]) r_191_7 rfl rfl rfl ?_
    exact gx_rt r_191_9 rfl rfl ⟨_, rfl, fun _ => rfl, fun z => absurd z h4⟩
end RIDL
