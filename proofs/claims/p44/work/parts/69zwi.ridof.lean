/-! the soonest hour of the reference -/
theorem r_181_0 : row 181 0 = some (.aload_n 0, 1, 0, 0, 0, 0) := rfl
theorem r_181_1 : row 181 1 = some (.getfield 9, 4, 10, 1, 2, 6002) := rfl
theorem r_181_4 : row 181 4 = some (.bipush 7, 6, 7, 0, 0, 0) := rfl
theorem r_181_6 : row 181 6 = some (.iaload, 7, 0, 0, 0, 0) := rfl
theorem r_181_7 : row 181 7 = some (.ifCond .ne 5, 10, 12, 0, 0, 0) := rfl
theorem r_181_10 : row 181 10 = some (.iconst (-1), 11, (-1), 0, 0, 0) := rfl
theorem r_181_11 : row 181 11 = some (.ireturn, 12, 0, 0, 0, 0) := rfl
theorem r_181_12 : row 181 12 = some (.iconst 0, 13, 0, 0, 0, 0) := rfl
theorem r_181_13 : row 181 13 = some (.istore_n 1, 14, 0, 0, 0, 0) := rfl
theorem r_181_14 : row 181 14 = some (.iload_n 1, 15, 0, 0, 0, 0) := rfl
theorem r_181_15 : row 181 15 = some (.aload_n 0, 16, 0, 0, 0, 0) := rfl
theorem r_181_16 : row 181 16 = some (.getfield 9, 19, 10, 1, 2, 6002) := rfl
theorem r_181_19 : row 181 19 = some (.iconst 1, 20, 1, 0, 0, 0) := rfl
theorem r_181_20 : row 181 20 = some (.iaload, 21, 0, 0, 0, 0) := rfl
theorem r_181_21 : row 181 21 = some (.if_icmp .ge 19, 24, 40, 0, 0, 0) := rfl
theorem r_181_24 : row 181 24 = some (.aload_n 0, 25, 0, 0, 0, 0) := rfl
theorem r_181_25 : row 181 25 = some (.iload_n 1, 26, 0, 0, 0, 0) := rfl
theorem r_181_26 : row 181 26 = some (.invokevirtual 374, 29, 180, 1, 0, 8047) := rfl
theorem r_181_29 : row 181 29 = some (.ifCond .le 5, 32, 34, 0, 0, 0) := rfl
theorem r_181_32 : row 181 32 = some (.iload_n 1, 33, 0, 0, 0, 0) := rfl
theorem r_181_33 : row 181 33 = some (.ireturn, 34, 0, 0, 0, 0) := rfl
theorem r_181_34 : row 181 34 = some (.iinc 1 1, 37, 0, 0, 0, 0) := rfl
theorem r_181_37 : row 181 37 = some (.goto (-23), 40, 14, 0, 0, 0) := rfl
theorem r_181_40 : row 181 40 = some (.iconst (-1), 41, (-1), 0, 0, 0) := rfl
theorem r_181_41 : row 181 41 = some (.ireturn, 42, 0, 0, 0, 0) := rfl
/-- what the reference's hunts leave as it was -/
def DG (m m1 : Mm) : Prop := ∀ p i : Nat, ¬ (200 ≤ p ∧ p ≤ 202) → ¬ p = 204 → ¬ p = 205 → ¬ p = 206 → ¬ (p = 192 ∧ (i = 21 ∨ i = 22 ∨ i = 31)) → m1 p i = m p i
theorem dg_rf {m : Mm} : DG m m := fun _ _ _ _ _ _ _ => rfl
theorem dg_tr {a b c : Mm} (h1 : DG a b) (h2 : DG b c) : DG a c := fun p i x y z u v => (h2 p i x y z u v).trans (h1 p i x y z u v)
theorem dg_d {a b : Mm} {h : Nat} (f : DFr h a b) : DG a b := fun p i x y z u v => f p i (fun q => x (by omega)) (fun q => x (by omega)) (fun q => x (by omega)) y (fun q => z q.1) u v
theorem pin_dg {m m1 : Mm} (hp : PinR m) (f : DG m m1) : PinR m1 := fun o i hq => by
  have e : ∀ o : Nat, o = 200 ∨ o = 201 ∨ o = 202 ∨ o = 204 ∨ o = 205 ∨ o = 206 → pinF o i = 0 := fun o ho => by
    rcases ho with rfl | rfl | rfl | rfl | rfl | rfl <;> rfl
  rw [f o i (fun z => hq (e o (by omega))) (fun z => hq (e o (by omega))) (fun z => hq (e o (by omega))) (fun z => hq (e o (by omega))) (fun z => by
    rw [z.1] at hq
    rcases z.2 with y | y | y <;> rw [y] at hq <;> exact hq rfl)]
  exact hp o i hq
theorem si_dg {nt : Int} {w : Wd} {D : Nat → Nat → Int} {m m1 : Mm} (s : SI nt w D m) (f : DG m m1) : SI nt w D m1 := ⟨pin_dg s.1 f, ew_e s.2.1 (fun i => f 193 i (by omega) (by omega) (by omega) (by omega) (by omega)) (fun i i1 i2 => f 192 i (by omega) (by omega) (by omega) (by omega) (by omega)), fun a b ha hb => (f 199 (7 * a + b) (by omega) (by omega) (by omega) (by omega) (by omega)).trans (s.2.2 a b ha hb)⟩
/-- the state in which a ride begins -/
theorem sv_begin {nt : Int} {w : Wd} {m : Mm} (hB : WB w) (hP : WP w) (hF : WBf w) (hE : EW nt m w) (h7 : 0 < w 7) : SvR nt w 0 (beginF w 0 (w 47)) := by
  have b7 := hB.2.2.2.2.1
  have b5 := hB.2.2.1
  refine ⟨?_, sb_begin hF.1 hF.2 (by omega) (fun _ => ?_), ⟨0, by decide, rfl⟩, ?_, fun t t1 t2 => ?_⟩
  · show ¬ (if (0 : Int) < w 7 then (0 : Int) else -1) = -1
    rw [if_pos h7]; decide
  · have z := hP.2.2 0 (by decide) h7
    exact ⟨z.1, z.2.1⟩
  · show (0 : Int) ≤ 0 ∧ (0 : Int) ≤ 14
    decide
  · rw [begin_u (by omega)]
    exact hE.2.2.2.2.2.2.1 t (by omega) t1
/-- no bearer, no rows -/
theorem rows_n0 {w : Wd} {D : Nat → Nat → Int} {np L f h : Nat} {p : Int} (h7 : ¬ 0 < w 7) : rowsH w D np L f h (beginF w 0 p) = [] := rowsH_no (Or.inl (by
  show (if (0 : Int) < w 7 then (0 : Int) else -1) = -1
  rw [if_neg h7]))
/-- the soonest hour that has rows, of n -/
def RidF (n : Nat) (rows : Nat → List (List Int)) (v : Int) : Prop := (v = -1 ∧ ∀ L : Nat, L < n → rows L = []) ∨ ∃ L : Nat, L < n ∧ v = (L : Int) ∧ ¬ rows L = [] ∧ ∀ K : Nat, K < L → rows K = []
theorem ridF_u {n : Nat} {r : Nat → List (List Int)} {v x : Int} (h1 : RidF n r v) (h2 : RidF n r x) : v = x := by
  rcases h1 with ⟨a1, a2⟩ | ⟨L, a1, a2, a3, a4⟩
  · rcases h2 with ⟨b1, _⟩ | ⟨K, b1, _, b3, _⟩
    · rw [a1, b1]
    · exact absurd (a2 K b1) b3
  · rcases h2 with ⟨_, b2⟩ | ⟨K, b1, b2, b3, b4⟩
    · exact absurd (b2 L a1) a3
    · rcases Nat.lt_trichotomy L K with c | c | c
      · exact absurd (b4 L c) a3
      · rw [a2, b2, c]
      · exact absurd (a4 K c) b3
section RIDOF
variable {T : List Kd} {m : Mm}
theorem en_l (hT : TT T) (hp : PinR m) {L : Nat} {x : AV} : GX T 7 180 24 [(2, 192), (0, (L : Int)), (0, ((0 : Nat) : Int) - 1), x] [] m (RI (fun v m1 => v = m 192 31 ∧ m1 = m)) := by
  refine gx_st (L' := [(2, 192), (0, (L : Int)), (0, ((0 : Nat) : Int) - 1), x]) (S' := [(0, ((0 : Nat) : Int) - 1)]) r_180_24 rfl rfl rfl ?_
  refine gx_i0 (P := ((0 : Nat) : Int) - 1 < 0) r_180_25 (rfl) (fun h25 => ?_) (fun h25 => ?_)
  · refine gx_st (L' := [(2, 192), (0, (L : Int)), (0, ((0 : Nat) : Int) - 1), x]) (S' := [(2, 192)]) r_180_197 rfl rfl rfl ?_
    refine gx_gf (x := (m 192 31)) 0 r_180_198 (rfl) (ty_192 hT) ⟨by decide, rfl, by decide, by decide⟩ rfl (fun z => absurd z (by decide)) (rfl) ?_
    exact gx_rt r_180_201 rfl rfl ⟨_, rfl, ⟨rfl, rfl⟩⟩
  · exact absurd h25 (by omega)
theorem y_180 (hT : TT T) {w : Wd} (hB : WB w) {nt : Int} (hP : WP w) {D : Nat → Nat → Int} (hD : WyD w D) {np : Nat} (hnp : w 0 = (np : Int)) (hF : WBf w) {L : Nat} (hL : L < 12) (si : SI nt w D m) (h7 : 0 < w 7) : GX T 7 180 0 [(2, 192), (0, (L : Int)), (9, 0), (9, 0)] [] m (RI (fun v m1 => v = ((rowsH w D np L 13 0 (beginF w 0 (w 47))).length : Int) ∧ RSo L m1 (rowsH w D np L 13 0 (beginF w 0 (w 47))) ∧ DG m m1)) := by
  refine gx_st (L' := [(2, 192), (0, (L : Int)), (9, 0), (9, 0)]) (S' := [(2, 192)]) r_180_0 rfl rfl rfl ?_
  refine gx_st (L' := [(2, 192), (0, (L : Int)), (9, 0), (9, 0)]) (S' := [(0, 0), (2, 192)]) r_180_1 rfl rfl rfl ?_
  obtain ⟨m1, e_m1⟩ : ∃ z, z = nu_up m 192 31 0 := ⟨_, rfl⟩
  refine gx_pf (x := 0) 0 r_180_2 (rfl) (ty_192 hT) ⟨by decide, rfl, by decide, by decide⟩ rfl (fun z => absurd z (by decide)) (fun z => absurd z (by decide)) e_m1.symm ?_
  refine gx_st (L' := [(2, 192), (0, (L : Int)), (9, 0), (9, 0)]) (S' := [(2, 192)]) r_180_5 rfl rfl rfl ?_
  refine gx_st (L' := [(2, 192), (0, (L : Int)), (9, 0), (9, 0)]) (S' := [(2, 192), (2, 192)]) r_180_6 rfl rfl rfl ?_
  refine gx_st (L' := [(2, 192), (0, (L : Int)), (9, 0), (9, 0)]) (S' := [(0, 0), (2, 192), (2, 192)]) r_180_7 rfl rfl rfl ?_
  have p1 : PinR m1 := by rw [e_m1]; exact PinR_up si.1 rfl
  have hE1 : EW nt m1 w := ew_e si.2.1 (fun i => by rw [e_m1, nu_no (by decide)]) (fun i i1 i2 => by rw [e_m1, nu_ne (by omega)])
  refine gx_ci (nx := 11) (S2 := [(2, 192)]) (l_99 hT p1 (k := 0) (by decide)) r_180_8 rfl rfl rfl rfl rfl (rcv_v rfl (ty_192 hT) (by decide) rfl (by decide)) rfl (by decide) rfl (fun x8 n8 q8 => ?_)
  obtain ⟨e_x8, z_x8⟩ := q8
  have y_x8 := z_x8.symm
  subst y_x8
  rw [e_x8, (hE1.2.2.2.2.2.2.2.2 0 (by decide)).1]
  show GX T 7 180 11 [(2, 192), (0, (L : Int)), (9, 0), (9, 0)] [(0, (w 47)), (2, 192)] m1 (RI (fun v m1 => v = ((rowsH w D np L 13 0 (beginF w 0 (w 47))).length : Int) ∧ RSo L m1 (rowsH w D np L 13 0 (beginF w 0 (w 47))) ∧ DG m m1))
  show GX T 7 180 11 [(2, 192), (0, (L : Int)), (9, 0), (9, 0)] [(0, (w 47)), (2, 192)] m1 (RI (fun v m1 => v = ((rowsH w D np L 13 0 (beginF w 0 (w 47))).length : Int) ∧ RSo L m1 (rowsH w D np L 13 0 (beginF w 0 (w 47))) ∧ DG m m1))
  refine gx_st (L' := [(2, 192), (0, (L : Int)), (9, 0), (9, 0)]) (S' := [(0, 0), (0, (w 47)), (2, 192)]) r_180_11 rfl rfl rfl ?_
  have bs : BegS w (beginF w 0 (w 47)) (w 47) 0 := by
    have z := begS_of w 0 (w 47)
    rw [if_pos h7, if_pos h7] at z
    exact z
  refine gx_cv (nx := 15) (S2 := []) (y_134 hT p1 hE1 bs) r_180_12 rfl rfl rfl rfl rfl (rcv_v rfl (ty_192 hT) (by decide) rfl (by decide)) rfl (by decide) rfl (fun n12 q12 => ?_)
  obtain ⟨r0, f0⟩ := q12
  have p2 : PinR n12 := pin_dg p1 (fun p i x _ _ _ _ => f0 p i (fun z => x (by omega)))
  show GX T 7 180 15 [(2, 192), (0, (L : Int)), (9, 0), (9, 0)] [] n12 (RI (fun v m1 => v = ((rowsH w D np L 13 0 (beginF w 0 (w 47))).length : Int) ∧ RSo L m1 (rowsH w D np L 13 0 (beginF w 0 (w 47))) ∧ DG m m1))
  refine gx_st (L' := [(2, 192), (0, (L : Int)), (9, 0), (9, 0)]) (S' := [(0, 0)]) r_180_15 rfl rfl rfl ?_
  refine gx_st (L' := [(2, 192), (0, (L : Int)), (0, 0), (9, 0)]) (S' := []) r_180_16 rfl rfl rfl ?_
  refine gx_st (L' := [(2, 192), (0, (L : Int)), (0, 0), (9, 0)]) (S' := [(2, 192)]) r_180_17 rfl rfl rfl ?_
  refine gx_gf (x := 205) 2 r_180_18 (rfl) (ty_192 hT) ⟨by decide, rfl, by decide, by decide⟩ rfl (fun _ => by omega) (pin_at p2 (t := 205) rfl (by decide)) ?_
  refine gx_st (L' := [(2, 192), (0, (L : Int)), (0, 0), (9, 0)]) (S' := [(0, 0), (2, 205)]) r_180_21 rfl rfl rfl ?_
  refine gx_st (L' := [(2, 192), (0, (L : Int)), (0, 0), (9, 0)]) (S' := [(0, (-1)), (0, 0), (2, 205)]) r_180_22 rfl rfl rfl ?_
  obtain ⟨m2, e_m2⟩ : ∃ z, z = nu_up n12 205 0 (-1) := ⟨_, rfl⟩
  refine gx_is (n := 0) (x := (-1)) r_180_23 (rfl) (by omega) (ty_205 hT) (rfl) ⟨rfl, by decide⟩ e_m2.symm ?_
  have fA : ∀ p i : Nat, ¬ (p = 200 ∧ i < 16) → ¬ (p = 205 ∧ i = 0) → ¬ (p = 192 ∧ i = 31) → m2 p i = m p i := fun p i x y z => by
    rw [e_m2, nu_fz y, f0 p i x, e_m1]; exact nu_fz z
  have dA : DG m m2 := fun p i x y z u v => fA p i (fun q => x (by omega)) (fun q => z q.1) (fun q => v ⟨q.1, by omega⟩)
  have sv := sv_begin hB hP hF si.2.1 h7
  have rb := rows_b hB hP hD (L := L) hL (np := np) (by have := hB.1; omega) hnp sv.2.1 sv.2.2.1 rfl
  have er : ∀ l : List (List Int), [] ++ l.map (fun z => [] ++ z) = l := fun l => List.map_id' l
  refine ds_l hT hB hP hD hnp hL 13 0 (beginF w 0 (w 47)) [] [] m2 _ rfl (Nat.zero_le _) rfl sv ⟨si_dg si dA, row_e r0 (fun i _ _ => by rw [e_m2, nu_no (by decide)]), fun i hi => absurd hi (Nat.not_lt_zero _)⟩ (by rw [e_m2, nu_at]) ⟨by rw [e_m2, nu_no (by decide), f0 192 31 (by omega), e_m1, nu_at]; rfl, fun z => absurd rfl z⟩ (by rw [er]; exact rb) (fun m2 x f2 r2 => ?_)
  rw [er] at r2
  exact gx_imp (en_l hT (pin_dfr (si_dg si dA).1 f2)) (fun v m3 ⟨y, e, e1, e2⟩ => ⟨y, e, by rw [e1]; exact r2.1, by rw [e2]; exact r2, by rw [e2]; exact dg_tr dA (dg_d f2)⟩)
theorem rdo_l (hT : TT T) {w : Wd} (hB : WB w) {nt : Int} (hP : WP w) {D : Nat → Nat → Int} (hD : WyD w D) {np : Nat} (hnp : w 0 = (np : Int)) (hF : WBf w) (h7 : 0 < w 7) {n : Nat} (hn : w 1 = (n : Int)) (hn12 : n ≤ 12) : ∀ (N k : Nat) (m : Mm), n - k < N → k ≤ n → SI nt w D m → (∀ L : Nat, L < k → (rowsH w D np L 13 0 (beginF w 0 (w 47))) = []) → GX T 8 181 14 [(2, 192), (0, (k : Int))] [] m (RI (fun v m1 => RidF n (fun L => (rowsH w D np L 13 0 (beginF w 0 (w 47)))) v ∧ (∀ L : Nat, v = (L : Int) → RSo L m1 (rowsH w D np L 13 0 (beginF w 0 (w 47)))) ∧ DG m m1)) := by
  intro N
  induction N with
  | zero => intro k m hN; exact absurd hN (Nat.not_lt_zero _)
  | succ N ih =>
    intro k m hN hk si hb
    refine gx_st (L' := [(2, 192), (0, (k : Int))]) (S' := [(0, (k : Int))]) r_181_14 rfl rfl rfl ?_
    refine gx_st (L' := [(2, 192), (0, (k : Int))]) (S' := [(2, 192), (0, (k : Int))]) r_181_15 rfl rfl rfl ?_
    refine gx_gf (x := 193) 2 r_181_16 (rfl) (ty_192 hT) ⟨by decide, rfl, by decide, by decide⟩ rfl (fun _ => by omega) (pin_at si.1 (t := 193) rfl (by decide)) ?_
    refine gx_st (L' := [(2, 192), (0, (k : Int))]) (S' := [(0, 1), (2, 193), (0, (k : Int))]) r_181_19 rfl rfl rfl ?_
    refine gx_ia (n := 1) (x := (n : Int)) r_181_20 (rfl) (ty_193 hT) (rfl) ⟨rfl, by decide⟩ ((si.2.1.1 1 (by decide) (by decide) (by decide)).trans hn) ?_
    refine gx_ic (P := (n : Int) ≤ (k : Int)) r_181_21 (rfl) (fun h21 => ?_) (fun h21 => ?_)
    · refine gx_st (L' := [(2, 192), (0, (k : Int))]) (S' := [(0, (-1))]) r_181_40 rfl rfl rfl ?_
      exact gx_rt r_181_41 rfl rfl ⟨_, rfl, Or.inl ⟨rfl, fun L hL => hb L (by omega)⟩, fun L z => by omega, dg_rf⟩
    · refine gx_st (L' := [(2, 192), (0, (k : Int))]) (S' := [(2, 192)]) r_181_24 rfl rfl rfl ?_
      refine gx_st (L' := [(2, 192), (0, (k : Int))]) (S' := [(0, (k : Int)), (2, 192)]) r_181_25 rfl rfl rfl ?_
      refine gx_ci (nx := 29) (S2 := []) (y_180 hT hB hP hD hnp hF (L := k) (by omega) si h7) r_181_26 rfl rfl rfl rfl rfl (rcv_v rfl (ty_192 hT) (by decide) rfl (by decide)) rfl (by decide) rfl (fun x26 n26 q26 => ?_)
      obtain ⟨ev, rs, fd⟩ := q26
      show GX T 8 181 29 [(2, 192), (0, (k : Int))] [(0, x26)] n26 (RI (fun v m1 => RidF n (fun L => (rowsH w D np L 13 0 (beginF w 0 (w 47)))) v ∧ (∀ L : Nat, v = (L : Int) → RSo L m1 (rowsH w D np L 13 0 (beginF w 0 (w 47)))) ∧ DG m m1))
      show GX T 8 181 29 [(2, 192), (0, (k : Int))] [(0, x26)] n26 (RI (fun v m1 => RidF n (fun L => (rowsH w D np L 13 0 (beginF w 0 (w 47)))) v ∧ (∀ L : Nat, v = (L : Int) → RSo L m1 (rowsH w D np L 13 0 (beginF w 0 (w 47)))) ∧ DG m m1))
      refine gx_i0 (P := x26 ≤ 0) r_181_29 (rfl) (fun h29 => ?_) (fun h29 => ?_)
      · refine gx_li (z := (k : Int) + 1) (L' := [(2, 192), (0, (k : Int) + 1)]) r_181_34 rfl (w32_eq (by omega) (by omega) (by omega)) rfl ?_
        refine gx_st (L' := [(2, 192), (0, (k : Int) + 1)]) (S' := []) r_181_37 rfl rfl rfl ?_
        rw [show (k : Int) + 1 = ((k + 1 : Nat) : Int) from rfl]
        refine gx_imp (ih (k + 1) n26 (by omega) (by omega) (si_dg si fd) (fun L hL => ?_)) (fun v m1 ⟨y, e, a1, a2, a3⟩ => ⟨y, e, a1, a2, dg_tr fd a3⟩)
        by_cases c : L = k
        · rw [c]
          exact List.length_eq_zero_iff.mp (by omega)
        · exact hb L (by omega)
      · refine gx_st (L' := [(2, 192), (0, (k : Int))]) (S' := [(0, (k : Int))]) r_181_32 rfl rfl rfl ?_
        refine gx_rt r_181_33 rfl rfl ⟨_, rfl, Or.inr ⟨k, by omega, rfl, fun z => ?_, hb⟩, fun L z => ?_, fd⟩
        · have z2 : rowsH w D np k 13 0 (beginF w 0 (w 47)) = [] := z
          rw [z2] at ev
          have : x26 = 0 := ev
          omega
        · have e : L = k := by omega
          rw [e]; exact rs
theorem y_181 (hT : TT T) {w : Wd} (hB : WB w) {nt : Int} (hP : WP w) {D : Nat → Nat → Int} (hD : WyD w D) {np : Nat} (hnp : w 0 = (np : Int)) (hF : WBf w) {n : Nat} (hn : w 1 = (n : Int)) (hn12 : n ≤ 12) (si : SI nt w D m) : GX T 8 181 0 [(2, 192), (9, 0)] [] m (RI (fun v m1 => RidF n (fun L => (rowsH w D np L 13 0 (beginF w 0 (w 47)))) v ∧ (∀ L : Nat, v = (L : Int) → RSo L m1 (rowsH w D np L 13 0 (beginF w 0 (w 47)))) ∧ DG m m1)) := by
  have b7 := hB.2.2.2.2.1
  refine gx_st (L' := [(2, 192), (9, 0)]) (S' := [(2, 192)]) r_181_0 rfl rfl rfl ?_
  refine gx_gf (x := 193) 2 r_181_1 (rfl) (ty_192 hT) ⟨by decide, rfl, by decide, by decide⟩ rfl (fun _ => by omega) (pin_at si.1 (t := 193) rfl (by decide)) ?_
  refine gx_st (L' := [(2, 192), (9, 0)]) (S' := [(0, 7), (2, 193)]) r_181_4 rfl rfl rfl ?_
  refine gx_ia (n := 7) (x := (w 7)) r_181_6 (rfl) (ty_193 hT) (rfl) ⟨rfl, by decide⟩ (si.2.1.1 7 (by decide) (by decide) (by decide)) ?_
  refine gx_i0 (P := ¬ (w 7) = 0) r_181_7 (rfl) (fun h7 => ?_) (fun h7 => ?_)
  · refine gx_st (L' := [(2, 192), (9, 0)]) (S' := [(0, 0)]) r_181_12 rfl rfl rfl ?_
    refine gx_st (L' := [(2, 192), (0, 0)]) (S' := []) r_181_13 rfl rfl rfl ?_
    exact rdo_l hT hB hP hD hnp hF (by omega) hn hn12 (n + 1) 0 m (by omega) (by omega) si (fun L hL => absurd hL (Nat.not_lt_zero _))
  · have h7 := Decidable.not_not.mp h7
    refine gx_st (L' := [(2, 192), (9, 0)]) (S' := [(0, (-1))]) r_181_10 rfl rfl rfl ?_
    exact gx_rt r_181_11 rfl rfl ⟨_, rfl, Or.inl ⟨rfl, fun L hL => rows_n0 (by omega)⟩, fun L z => by omega, dg_rf⟩
end RIDOF
