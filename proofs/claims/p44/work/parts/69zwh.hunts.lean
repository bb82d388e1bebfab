/-! all rows of an hour of the reference -/
/-- of the reference a search at hour h writes but these -/
def DFr (h : Nat) (m m1 : Mm) : Prop := ∀ p i : Nat, ¬ (p = 200 ∧ 16 * h + 16 ≤ i) → ¬ p = 201 → ¬ p = 202 → ¬ p = 204 → ¬ (p = 205 ∧ h ≤ i) → ¬ p = 206 → ¬ (p = 192 ∧ (i = 21 ∨ i = 22 ∨ i = 31)) → m1 p i = m p i
theorem dfr_rf {h : Nat} {m : Mm} : DFr h m m := fun _ _ _ _ _ _ _ _ _ => rfl
theorem dfr_tr {h k : Nat} {a b c : Mm} (h1 : DFr h a b) (h2 : DFr k b c) (hk : h ≤ k) : DFr h a c := fun p i x1 x2 x3 x4 x5 x6 x7 => (h2 p i (fun z => x1 ⟨z.1, by omega⟩) x2 x3 x4 (fun z => x5 ⟨z.1, by omega⟩) x6 x7).trans (h1 p i x1 x2 x3 x4 x5 x6 x7)
theorem pin_dfr {m m1 : Mm} {h : Nat} (hp : PinR m) (f : DFr h m m1) : PinR m1 := fun o i hq => by
  have e : ∀ o : Nat, o = 200 ∨ o = 201 ∨ o = 202 ∨ o = 204 ∨ o = 205 ∨ o = 206 → pinF o i = 0 := fun o ho => by
    rcases ho with rfl | rfl | rfl | rfl | rfl | rfl <;> rfl
  rw [f o i (fun z => hq (e o (by omega))) (fun z => hq (e o (by omega))) (fun z => hq (e o (by omega))) (fun z => hq (e o (by omega))) (fun z => hq (e o (by omega))) (fun z => hq (e o (by omega))) (fun z => by
    rw [z.1] at hq
    rcases z.2 with y | y | y <;> rw [y] at hq <;> exact hq rfl)]
  exact hp o i hq
/-- what a search of the reference reads and leaves -/
def SI (nt : Int) (w : Wd) (D : Nat → Nat → Int) (m : Mm) : Prop := PinR m ∧ EW nt m w ∧ ∀ a b : Nat, a < 7 → b < 7 → m 199 (7 * a + b) = D a b
theorem si_fr {nt : Int} {w : Wd} {D : Nat → Nat → Int} {m m1 : Mm} {h : Nat} (s : SI nt w D m) (f : DFr h m m1) : SI nt w D m1 := ⟨pin_dfr s.1 f, ew_e s.2.1 (fun i => f 193 i (by omega) (by omega) (by omega) (by omega) (by omega) (by omega) (by omega)) (fun i i1 i2 => f 192 i (by omega) (by omega) (by omega) (by omega) (by omega) (by omega) (by omega)), fun a b ha hb => (f 199 (7 * a + b) (by omega) (by omega) (by omega) (by omega) (by omega) (by omega) (by omega)).trans (s.2.2 a b ha hb)⟩
/-- the rows found so far: how many, and the first -/
def RSo (L : Nat) (m : Mm) (acc : List (List Int)) : Prop := m 192 31 = (acc.length : Int) ∧ (¬ acc = [] → ∀ i : Nat, i ≤ L → m 206 i = hd0 acc i)
theorem rso_e {L : Nat} {m m1 : Mm} {acc : List (List Int)} (r : RSo L m acc) (e1 : m1 192 31 = m 192 31) (e2 : ∀ i : Nat, m1 206 i = m 206 i) : RSo L m1 acc := ⟨e1.trans r.1, fun z i hi => (e2 i).trans (r.2 z i hi)⟩
theorem roww_sw {nt : Int} {m : Mm} {h : Nat} {s t : Wd} (r : RowW nt m h s) (e : SW16 s t) : RowW nt m h t := by
  obtain ⟨a, c, d⟩ := r
  exact ⟨fun k hk h3 => (a k hk h3).trans (e k (by omega)), fun b hb => (c b hb).trans (e (6 + b) (by omega)), fun q hq hn => (d q hq hn).trans (e (11 + q) (by omega))⟩
theorem rowr_sw {nt : Int} {m : Mm} {h : Nat} {s t : Wd} (r : RowR nt m h s) (e : SW16 s t) : RowR nt m h t := ⟨roww_sw r.1 e, fun z => by
  rw [← e 3 (by decide)]
  exact r.2 (fun y => z ((e 1 (by decide)).symm.trans y))⟩
theorem sw_sy {s t : Wd} (e : SW16 s t) : SW16 t s := fun i hi => (e i hi).symm
/-- an hour of the reference, however an earlier ride ended -/
theorem h_142 {T : List Kd} {m : Mm} (hT : TT T) {w : Wd} (hB : WB w) {nt : Int} (hP : WP w) {D : Nat → Nat → Int} (si : SI nt w D m) (hD : WyD w D) {h : Nat} (hh : h < 12) {s : Wd} (hr0 : RowR nt m h s) (hS : SB w s h) (k3 : s 3 ≤ 100) (hnt : NtS nt w s) {a : Int} (ha : 0 ≤ a ∧ a ≤ 16) : GX T 5 142 0 [(2, 192), (0, (h : Int)), (0, a), (9, 0), (9, 0), (9, 0)] [] m (RV (fun m1 => RowR nt m1 (h + 1) (hourF w D (h : Int) a s).1 ∧ ∀ p i : Nat, ¬ (p = 200 ∧ 16 * h + 16 ≤ i ∧ i < 16 * h + 32) → ¬ (p = 201 ∧ i = h) → ¬ (p = 202 ∧ i = h) → ¬ p = 204 → ¬ (p = 192 ∧ (i = 21 ∨ i = 22)) → m1 p i = m p i)) := by
  have h5 := hB.2.2.1
  have e := sw_16 s (m 192 22)
  obtain ⟨q1, q2, q3⟩ := hS.2
  have z := u_142 hT si.1 hB si.2.1 hP si.2.2 hD hh (s := upw s 16 (m 192 22)) (rowr_sw hr0 (sw_sy e)) (by rw [upw_at]) (sbw_sw (sw_sy e) hS.1) (by rw [e 2 (by decide)]; omega) (by rw [e 3 (by decide)]; exact k3) (fun b hb => by rw [e (6 + b) (by omega)]; have := q2 b hb; omega) (fun t ht h6 => by rw [e (11 + t) (by omega)]; exact q3 t ht h6) (fun t t1 t2 => by rw [e (11 + t) (by omega)]; exact hnt t t1 t2) ha
  exact gx_imp z (fun v m1 ⟨y, r1, _, _, _, f⟩ => ⟨y, rowr_sw r1 (sw_hour hB e (sbw_sw (sw_sy e) hS.1)).1, f⟩)
/-- he rides yet, and his state is one of an hour -/
def SvR (nt : Int) (w : Wd) (h : Nat) (s : Wd) : Prop := ¬ s 1 = -1 ∧ SB w s h ∧ V8s s ∧ (0 ≤ s 3 ∧ s 3 ≤ 14) ∧ NtS nt w s
/-- the reference at hour h: his state, and the acts before -/
def LvR (nt : Int) (w : Wd) (D : Nat → Nat → Int) (h : Nat) (s : Wd) (pre : List Int) (m : Mm) : Prop := SI nt w D m ∧ RowR nt m h s ∧ ∀ i : Nat, i < h → m 205 i = at0 pre i
theorem lv_fr {nt : Int} {w : Wd} {D : Nat → Nat → Int} {h : Nat} {s : Wd} {pre : List Int} {m m1 : Mm} (l : LvR nt w D h s pre m) (f : DFr h m m1) : LvR nt w D h s pre m1 := ⟨si_fr l.1 f, row_e l.2.1 (fun i i1 i2 => f 200 i (by omega) (by omega) (by omega) (by omega) (by omega) (by omega) (by omega)), fun i hi => (f 205 i (by omega) (by omega) (by omega) (by omega) (by omega) (by omega) (by omega)).trans (l.2.2 i hi)⟩
theorem sv_hour {nt : Int} {w : Wd} {D : Nat → Nat → Int} {h a : Nat} {s : Wd} (hB : WB w) (hP : WP w) (hD : WyD w D) (hh : h < 12) (sv : SvR nt w h s) (ha : a ≤ 16) (ok : okH w D h a s = true) (h2 : ¬ a = 2) (hs : ¬ (hourF w D (h : Int) (a : Int) s).1 1 = -1) : SvR nt w (h + 1) (hourF w D (h : Int) (a : Int) s).1 := by
  obtain ⟨v1, v2, v3, v4, v5⟩ := sv
  have st := hour_step hB hP hD v2.1 ha ok h2 v1 hs
  refine ⟨hs, sb_hour hB hP hD (k := h) (a := (a : Int)) (h := (h : Int)) hh ⟨by omega, by omega⟩ v2, (v8_step hB v3 st).1, ?_, nt_hour hB v2.1 v5⟩
  obtain ⟨_, _, _, _, _, _, ⟨e3, _, _⟩ | ⟨_, e3, _, _⟩⟩ := st
  · rw [e3]; exact v4
  · rw [e3]; omega
theorem catL_up {β : Type} {g : Nat → List β} {k : Nat} : ∀ n : Nat, k ≤ n → (∀ i : Nat, k ≤ i → i < n → g i = []) → catL g n = catL g k := by
  intro n
  induction n with
  | zero => intro hk _; rw [show k = 0 by omega]
  | succ n ih =>
    intro hk e
    by_cases c : k = n + 1
    · rw [c]
    · show catL g n ++ g n = _
      rw [e n (by omega) (by omega), List.append_nil]
      exact ih (by omega) (fun i i1 i2 => e i i1 (by omega))
theorem catL_le {β : Type} {g : Nat → List β} {k : Nat} : ∀ n : Nat, k ≤ n → (catL g k).length ≤ (catL g n).length := by
  intro n
  induction n with
  | zero => intro hk; rw [show k = 0 by omega]; exact Nat.le_refl _
  | succ n ih =>
    intro hk
    by_cases c : k = n + 1
    · rw [c]; exact Nat.le_refl _
    · have := ih (by omega)
      show _ ≤ (catL g n ++ g n).length
      rw [List.length_append]
      omega
section HUNTS
variable {T : List Kd} {m : Mm}
theorem bk_l (hT : TT T) (hp : PinR m) {h L : Nat} (hh : h < 12) {x3 : AV} (e : m 205 h = -1) {Q : AV → Mm → Prop} (hout : GX T 7 180 24 [(2, 192), (0, (L : Int)), (0, (h : Int) - 1), x3] [] m Q) : GX T 7 180 59 [(2, 192), (0, (L : Int)), (0, (h : Int)), x3] [] m Q := by
  refine gx_st (L' := [(2, 192), (0, (L : Int)), (0, (h : Int)), x3]) (S' := [(2, 192)]) r_180_59 rfl rfl rfl ?_
  refine gx_gf (x := 205) 2 r_180_60 (rfl) (ty_192 hT) ⟨by decide, rfl, by decide, by decide⟩ rfl (fun _ => by omega) (pin_at hp (t := 205) rfl (by decide)) ?_
  refine gx_st (L' := [(2, 192), (0, (L : Int)), (0, (h : Int)), x3]) (S' := [(0, (h : Int)), (2, 205)]) r_180_63 rfl rfl rfl ?_
  refine gx_ia (n := h) (x := (-1)) r_180_64 (rfl) (ty_205 hT) (by omega) ⟨rfl, by omega⟩ (e) ?_
  refine gx_st (L' := [(2, 192), (0, (L : Int)), (0, (h : Int)), x3]) (S' := [(0, (-1)), (0, (-1))]) r_180_65 rfl rfl rfl ?_
  refine gx_ic (P := ¬ (-1) = (-1)) r_180_66 (rfl) (fun h66 => ?_) (fun h66 => ?_)
  · exact absurd rfl h66
  · have h66 := Decidable.not_not.mp h66
    refine gx_li (z := (h : Int) - 1) (L' := [(2, 192), (0, (L : Int)), (0, (h : Int) - 1), x3]) r_180_69 rfl (w32_eq (by omega) (by omega) (by omega)) rfl ?_
    refine gx_st (L' := [(2, 192), (0, (L : Int)), (0, (h : Int) - 1), x3]) (S' := []) r_180_72 rfl rfl rfl ?_
    exact hout
theorem fl_l (hT : TT T) {h L : Nat} (hh : h < 12) {Q : AV → Mm → Prop} : ∀ (N k : Nat) (m : Mm), h + 1 - k < N → k ≤ h + 1 → PinR m → m 192 31 = 0 → (∀ m1 : Mm, (∀ i : Nat, k ≤ i → i ≤ h → m1 206 i = m 205 i) → (∀ i : Nat, i < k → m1 206 i = m 206 i) → (∀ p i : Nat, ¬ p = 206 → m1 p i = m p i) → GX T 7 180 133 [(2, 192), (0, (L : Int)), (0, (h : Int)), (0, (h : Int) + 1)] [] m1 Q) → GX T 7 180 103 [(2, 192), (0, (L : Int)), (0, (h : Int)), (0, (k : Int))] [] m Q := by
  intro N
  induction N with
  | zero => intro k m hN; exact absurd hN (Nat.not_lt_zero _)
  | succ N ih =>
    intro k m hN hk hp h0 hout
    refine gx_st (L' := [(2, 192), (0, (L : Int)), (0, (h : Int)), (0, (k : Int))]) (S' := [(0, (k : Int))]) r_180_103 rfl rfl rfl ?_
    refine gx_st (L' := [(2, 192), (0, (L : Int)), (0, (h : Int)), (0, (k : Int))]) (S' := [(0, (h : Int)), (0, (k : Int))]) r_180_104 rfl rfl rfl ?_
    refine gx_ic (P := (h : Int) < (k : Int)) r_180_105 (rfl) (fun h105 => ?_) (fun h105 => ?_)
    · first
        | exact absurd h0 h112
        | (have hkh : k = h + 1 := by omega
           subst hkh
           exact hout m (fun i i1 i2 => absurd i2 (by omega)) (fun _ _ => rfl) (fun _ _ _ => rfl))
    · refine gx_st (L' := [(2, 192), (0, (L : Int)), (0, (h : Int)), (0, (k : Int))]) (S' := [(2, 192)]) r_180_108 rfl rfl rfl ?_
      refine gx_gf (x := (m 192 31)) 0 r_180_109 (rfl) (ty_192 hT) ⟨by decide, rfl, by decide, by decide⟩ rfl (fun z => absurd z (by decide)) (rfl) ?_
      refine gx_i0 (P := ¬ (m 192 31) = 0) r_180_112 (rfl) (fun h112 => ?_) (fun h112 => ?_)
      · first
          | exact absurd h0 h112
          | (have hkh : k = h + 1 := by omega
             subst hkh
             exact hout m (fun i i1 i2 => absurd i2 (by omega)) (fun _ _ => rfl) (fun _ _ _ => rfl))
      · have h112 := Decidable.not_not.mp h112
        refine gx_st (L' := [(2, 192), (0, (L : Int)), (0, (h : Int)), (0, (k : Int))]) (S' := [(2, 192)]) r_180_115 rfl rfl rfl ?_
        refine gx_gf (x := 206) 2 r_180_116 (rfl) (ty_192 hT) ⟨by decide, rfl, by decide, by decide⟩ rfl (fun _ => by omega) (pin_at hp (t := 206) rfl (by decide)) ?_
        refine gx_st (L' := [(2, 192), (0, (L : Int)), (0, (h : Int)), (0, (k : Int))]) (S' := [(0, (k : Int)), (2, 206)]) r_180_119 rfl rfl rfl ?_
        refine gx_st (L' := [(2, 192), (0, (L : Int)), (0, (h : Int)), (0, (k : Int))]) (S' := [(2, 192), (0, (k : Int)), (2, 206)]) r_180_120 rfl rfl rfl ?_
        refine gx_gf (x := 205) 2 r_180_121 (rfl) (ty_192 hT) ⟨by decide, rfl, by decide, by decide⟩ rfl (fun _ => by omega) (pin_at hp (t := 205) rfl (by decide)) ?_
        refine gx_st (L' := [(2, 192), (0, (L : Int)), (0, (h : Int)), (0, (k : Int))]) (S' := [(0, (k : Int)), (2, 205), (0, (k : Int)), (2, 206)]) r_180_124 rfl rfl rfl ?_
        refine gx_ia (n := k) (x := (m 205 k)) r_180_125 (rfl) (ty_205 hT) (by omega) ⟨rfl, by omega⟩ (rfl) ?_
        obtain ⟨m1, e_m1⟩ : ∃ z, z = nu_up m 206 k (m 205 k) := ⟨_, rfl⟩
        refine gx_is (n := k) (x := (m 205 k)) r_180_126 (rfl) (by omega) (ty_206 hT) (by omega) ⟨rfl, by omega⟩ e_m1.symm ?_
        refine gx_li (z := (k : Int) + 1) (L' := [(2, 192), (0, (L : Int)), (0, (h : Int)), (0, (k : Int) + 1)]) r_180_127 rfl (w32_eq (by omega) (by omega) (by omega)) rfl ?_
        refine gx_st (L' := [(2, 192), (0, (L : Int)), (0, (h : Int)), (0, (k : Int) + 1)]) (S' := []) r_180_130 rfl rfl rfl ?_
        rw [show (k : Int) + 1 = ((k + 1 : Nat) : Int) from rfl]
        refine ih (k + 1) m1 (by omega) (by omega) (by rw [e_m1]; exact PinR_up hp rfl) (by rw [e_m1, nu_no (by decide)]; exact h0) (fun m2 a1 a2 a3 => hout m2 (fun i i1 i2 => ?_) (fun i i1 => ?_) (fun p i z => ?_))
        · by_cases c : i = k
          · rw [a2 i (by omega), e_m1, c, nu_at]
          · rw [a1 i (by omega) i2, e_m1, nu_no (by decide)]
        · rw [a2 i (by omega), e_m1, nu_ne (by omega)]
        · rw [a3 p i z, e_m1, nu_no z]
theorem pin_up3 {m m1 : Mm} (hp : PinR m) (a3 : ∀ p i : Nat, ¬ p = 206 → m1 p i = m p i) : PinR m1 := pin_dfr (h := 0) hp (fun p i _ _ _ _ _ x6 _ => a3 p i x6)
theorem wk_l (hT : TT T) {h L : Nat} (hh : h < 12) (hp : PinR m) {c : Nat} (hc : m 192 31 = (c : Int)) (hc2 : c < 2147483647) (hLh : h = L) {x : AV} {Q : AV → Mm → Prop} (hout : ∀ m3 : Mm, m3 = nu_up m 192 31 ((c + 1 : Nat) : Int) → GX T 7 180 24 [(2, 192), (0, (L : Int)), (0, (h : Int)), x] [] m3 Q) : GX T 7 180 133 [(2, 192), (0, (L : Int)), (0, (h : Int)), x] [] m Q := by
  refine gx_st (L' := [(2, 192), (0, (L : Int)), (0, (h : Int)), x]) (S' := [(2, 192)]) r_180_133 rfl rfl rfl ?_
  refine gx_st (L' := [(2, 192), (0, (L : Int)), (0, (h : Int)), x]) (S' := [(2, 192), (2, 192)]) r_180_134 rfl rfl rfl ?_
  refine gx_gf (x := (c : Int)) 0 r_180_135 (rfl) (ty_192 hT) ⟨by decide, rfl, by decide, by decide⟩ rfl (fun z => absurd z (by decide)) (hc) ?_
  refine gx_st (L' := [(2, 192), (0, (L : Int)), (0, (h : Int)), x]) (S' := [(0, 1), (0, (c : Int)), (2, 192)]) r_180_138 rfl rfl rfl ?_
  refine gx_ar (L' := [(2, 192), (0, (L : Int)), (0, (h : Int)), x]) (S' := [(2, 192)]) (t := 0) (e := w32 ((c : Int) + 1)) (z := ((c + 1 : Nat) : Int)) r_180_139 rfl rfl rfl (w32_eq (by omega) (by omega) (by omega)) ?_
  obtain ⟨m1, e_m1⟩ : ∃ z, z = nu_up m 192 31 (((c + 1 : Nat) : Int)) := ⟨_, rfl⟩
  refine gx_pf (x := ((c + 1 : Nat) : Int)) 0 r_180_140 (rfl) (ty_192 hT) ⟨by decide, rfl, by decide, by decide⟩ rfl (fun z => absurd z (by decide)) (fun z => absurd z (by decide)) e_m1.symm ?_
  refine gx_st (L' := [(2, 192), (0, (L : Int)), (0, (h : Int)), x]) (S' := [(0, (h : Int))]) r_180_143 rfl rfl rfl ?_
  refine gx_st (L' := [(2, 192), (0, (L : Int)), (0, (h : Int)), x]) (S' := [(0, (L : Int)), (0, (h : Int))]) r_180_144 rfl rfl rfl ?_
  refine gx_ic (P := (h : Int) = (L : Int)) r_180_145 (rfl) (fun h145 => ?_) (fun h145 => ?_)
  · exact hout m1 e_m1
  · exact absurd hLh (fun z => h145 (by omega))
theorem sk2_l (hT : TT T) {h L : Nat} (hh : h < 12) (hp : PinR m) (h0 : ¬ m 192 31 = 0) {Q : AV → Mm → Prop} (hout : GX T 7 180 133 [(2, 192), (0, (L : Int)), (0, (h : Int)), (0, 0)] [] m Q) : GX T 7 180 103 [(2, 192), (0, (L : Int)), (0, (h : Int)), (0, 0)] [] m Q := by
  refine gx_st (L' := [(2, 192), (0, (L : Int)), (0, (h : Int)), (0, 0)]) (S' := [(0, 0)]) r_180_103 rfl rfl rfl ?_
  refine gx_st (L' := [(2, 192), (0, (L : Int)), (0, (h : Int)), (0, 0)]) (S' := [(0, (h : Int)), (0, 0)]) r_180_104 rfl rfl rfl ?_
  refine gx_ic (P := (h : Int) < 0) r_180_105 (rfl) (fun h105 => ?_) (fun h105 => ?_)
  · exact hout
  · refine gx_st (L' := [(2, 192), (0, (L : Int)), (0, (h : Int)), (0, 0)]) (S' := [(2, 192)]) r_180_108 rfl rfl rfl ?_
    refine gx_gf (x := (m 192 31)) 0 r_180_109 (rfl) (ty_192 hT) ⟨by decide, rfl, by decide, by decide⟩ rfl (fun z => absurd z (by decide)) (rfl) ?_
    refine gx_i0 (P := ¬ (m 192 31) = 0) r_180_112 (rfl) (fun h112 => ?_) (fun h112 => ?_)
    · exact hout
    · have h112 := Decidable.not_not.mp h112
      exact absurd h112 h0
theorem pa_l (hT : TT T) {w : Wd} (hB : WB w) {nt : Int} (hP : WP w) {D : Nat → Nat → Int} (hD : WyD w D) {np : Nat} (hnp : w 0 = (np : Int)) {L : Nat} (hL : L < 12) {Q : AV → Mm → Prop} {f h : Nat} (hf : h + (f + 1) = 13) (hhL : h ≤ L) {s : Wd} {pre : List Int} {acc : List (List Int)} (hpre : pre.length = h) (sv : SvR nt w h s) (ih : (∀ (h : Nat) (s : Wd) (pre : List Int) (acc : List (List Int)) (m : Mm) (x3 : AV), h + f = 13 → h ≤ L → pre.length = h → SvR nt w h s → LvR nt w D h s pre m → m 205 h = -1 → RSo L m acc → (acc ++ (rowsH w D np L f h s).map (fun z => pre ++ z)).length < 2147483647 → (∀ (m1 : Mm) (x : AV), DFr h m m1 → RSo L m1 (acc ++ (rowsH w D np L f h s).map (fun z => pre ++ z)) → GX T 7 180 24 [(2, 192), (0, (L : Int)), (0, (h : Int) - 1), x] [] m1 Q) → GX T 7 180 24 [(2, 192), (0, (L : Int)), (0, (h : Int)), x3] [] m Q)) {a : Nat} (ha : a < 10 + np) (hok : okH w D h a s = true) {x3 : AV} (lv : LvR nt w D h s pre m) (ta : m 205 h = (a : Int)) (rs : RSo L m (acc ++ (catL (altH w D L h s (fun q => rowsH w D np L f (h + 1) q)) a).map (fun z => pre ++ z))) (hlen : ∀ k : Nat, k ≤ 10 + np → (acc ++ (catL (altH w D L h s (fun q => rowsH w D np L f (h + 1) q)) k).map (fun z => pre ++ z)).length < 2147483647) (cont : (∀ (m1 : Mm) (x : AV), DFr h m m1 → m1 205 h = (a : Int) → RSo L m1 (acc ++ (catL (altH w D L h s (fun q => rowsH w D np L f (h + 1) q)) (a + 1)).map (fun z => pre ++ z)) → GX T 7 180 24 [(2, 192), (0, (L : Int)), (0, (h : Int)), x] [] m1 Q)) : GX T 7 180 59 [(2, 192), (0, (L : Int)), (0, (h : Int)), x3] [] m Q := by
  have b0 := hB.1
  obtain ⟨si, lvr, lvt⟩ := lv
  have lv : LvR nt w D h s pre m := ⟨si, lvr, lvt⟩
  have v3 := sv.2.2.2.1
  have hla := hlen a (by omega)
  refine gx_st (L' := [(2, 192), (0, (L : Int)), (0, (h : Int)), x3]) (S' := [(2, 192)]) r_180_59 rfl rfl rfl ?_
  refine gx_gf (x := 205) 2 r_180_60 (rfl) (ty_192 hT) ⟨by decide, rfl, by decide, by decide⟩ rfl (fun _ => by omega) (pin_at si.1 (t := 205) rfl (by decide)) ?_
  refine gx_st (L' := [(2, 192), (0, (L : Int)), (0, (h : Int)), x3]) (S' := [(0, (h : Int)), (2, 205)]) r_180_63 rfl rfl rfl ?_
  refine gx_ia (n := h) (x := (a : Int)) r_180_64 (rfl) (ty_205 hT) (by omega) ⟨rfl, by omega⟩ (ta) ?_
  refine gx_st (L' := [(2, 192), (0, (L : Int)), (0, (h : Int)), x3]) (S' := [(0, (-1)), (0, (a : Int))]) r_180_65 rfl rfl rfl ?_
  refine gx_ic (P := ¬ (a : Int) = (-1)) r_180_66 (rfl) (fun h66 => ?_) (fun h66 => ?_)
  · refine gx_st (L' := [(2, 192), (0, (L : Int)), (0, (h : Int)), x3]) (S' := [(2, 192)]) r_180_75 rfl rfl rfl ?_
    refine gx_st (L' := [(2, 192), (0, (L : Int)), (0, (h : Int)), x3]) (S' := [(0, (h : Int)), (2, 192)]) r_180_76 rfl rfl rfl ?_
    refine gx_st (L' := [(2, 192), (0, (L : Int)), (0, (h : Int)), x3]) (S' := [(2, 192), (0, (h : Int)), (2, 192)]) r_180_77 rfl rfl rfl ?_
    refine gx_gf (x := 205) 2 r_180_78 (rfl) (ty_192 hT) ⟨by decide, rfl, by decide, by decide⟩ rfl (fun _ => by omega) (pin_at si.1 (t := 205) rfl (by decide)) ?_
    refine gx_st (L' := [(2, 192), (0, (L : Int)), (0, (h : Int)), x3]) (S' := [(0, (h : Int)), (2, 205), (0, (h : Int)), (2, 192)]) r_180_81 rfl rfl rfl ?_
    refine gx_ia (n := h) (x := (a : Int)) r_180_82 (rfl) (ty_205 hT) (by omega) ⟨rfl, by omega⟩ (ta) ?_
    refine gx_cv (nx := 86) (S2 := []) (h_142 hT hB hP si hD (h := h) (by omega) lv.2.1 sv.2.1 (by omega) sv.2.2.2.2 (a := (a : Int)) (by omega)) r_180_83 rfl rfl rfl rfl rfl (rcv_v rfl (ty_192 hT) (by decide) rfl (by decide)) rfl (by decide) rfl (fun n83 q83 => ?_)
    obtain ⟨rw_n83, ff_n83⟩ := q83
    have fr_n83 : DFr h m n83 := fun p i x1 x2 x3 x4 x5 x6 x7 => ff_n83 p i (fun z => x1 ⟨z.1, z.2.1⟩) (fun z => x2 z.1) (fun z => x3 z.1) x4 (fun z => x7 ⟨z.1, by omega⟩)
    have lv_n83 := lv_fr lv fr_n83
    have ta_n83 : n83 205 h = (a : Int) := (ff_n83 205 h (by omega) (by omega) (by omega) (by omega) (by omega)).trans ta
    have rs_n83 : RSo L n83 (acc ++ (catL (altH w D L h s (fun q => rowsH w D np L f (h + 1) q)) a).map (fun z => pre ++ z)) := rso_e rs (ff_n83 192 31 (by omega) (by omega) (by omega) (by omega) (by omega)) (fun i => ff_n83 206 i (by omega) (by omega) (by omega) (by omega) (by omega))
    show GX T 7 180 86 [(2, 192), (0, (L : Int)), (0, (h : Int)), x3] [] n83 Q
    refine gx_st (L' := [(2, 192), (0, (L : Int)), (0, (h : Int)), x3]) (S' := [(2, 192)]) r_180_86 rfl rfl rfl ?_
    refine gx_gf (x := 205) 2 r_180_87 (rfl) (ty_192 hT) ⟨by decide, rfl, by decide, by decide⟩ rfl (fun _ => by omega) (pin_at lv_n83.1.1 (t := 205) rfl (by decide)) ?_
    refine gx_st (L' := [(2, 192), (0, (L : Int)), (0, (h : Int)), x3]) (S' := [(0, (h : Int)), (2, 205)]) r_180_90 rfl rfl rfl ?_
    refine gx_ia (n := h) (x := (a : Int)) r_180_91 (rfl) (ty_205 hT) (by omega) ⟨rfl, by omega⟩ (ta_n83) ?_
    refine gx_st (L' := [(2, 192), (0, (L : Int)), (0, (h : Int)), x3]) (S' := [(0, 2), (0, (a : Int))]) r_180_92 rfl rfl rfl ?_
    refine gx_ic (P := ¬ (a : Int) = 2) r_180_93 (rfl) (fun h93 => ?_) (fun h93 => ?_)
    · refine gx_st (L' := [(2, 192), (0, (L : Int)), (0, (h : Int)), x3]) (S' := [(0, (h : Int))]) r_180_143 rfl rfl rfl ?_
      refine gx_st (L' := [(2, 192), (0, (L : Int)), (0, (h : Int)), x3]) (S' := [(0, (L : Int)), (0, (h : Int))]) r_180_144 rfl rfl rfl ?_
      refine gx_ic (P := (h : Int) = (L : Int)) r_180_145 (rfl) (fun h145 => ?_) (fun h145 => ?_)
      · have eN : (altH w D L h s (fun q => rowsH w D np L f (h + 1) q)) a = [] := by
          by_cases c2 : a = 2
          · rw [altH_th hok c2, if_neg (by omega)]
          · by_cases cL : h = L
            · exact altH_la c2 cL
            · rw [altH_go hok c2 cL]
              first
                | (rw [rowsH_no (Or.inl h167)]; rfl)
                | (have sv2 := sv_hour hB hP hD (by omega) sv (a := a) (by omega) hok c2 h167
                   have zr : rowsH w D np L f (h + 1) (hourF w D (h : Int) (a : Int) s).1 = [] := by
                     apply Classical.byContradiction
                     intro z
                     exact wn h178 (rows_wine hB hP hD hL f (h + 1) _ sv2.2.1 sv2.2.2.1 (by omega) z)
                   rw [zr]; rfl)
                | omega
        refine cont n83 _ fr_n83 ta_n83 ?_
        have eR : (acc ++ (catL (altH w D L h s (fun q => rowsH w D np L f (h + 1) q)) (a + 1)).map (fun z => pre ++ z)) = (acc ++ (catL (altH w D L h s (fun q => rowsH w D np L f (h + 1) q)) a).map (fun z => pre ++ z)) := by
          show acc ++ (catL (altH w D L h s (fun q => rowsH w D np L f (h + 1) q)) a ++ (altH w D L h s (fun q => rowsH w D np L f (h + 1) q)) a).map _ = _
          rw [eN, List.append_nil]
        rw [eR]; exact rs_n83
      · refine gx_st (L' := [(2, 192), (0, (L : Int)), (0, (h : Int)), x3]) (S' := [(2, 192)]) r_180_148 rfl rfl rfl ?_
        refine gx_gf (x := 205) 2 r_180_149 (rfl) (ty_192 hT) ⟨by decide, rfl, by decide, by decide⟩ rfl (fun _ => by omega) (pin_at lv_n83.1.1 (t := 205) rfl (by decide)) ?_
        refine gx_st (L' := [(2, 192), (0, (L : Int)), (0, (h : Int)), x3]) (S' := [(0, (h : Int)), (2, 205)]) r_180_152 rfl rfl rfl ?_
        refine gx_ia (n := h) (x := (a : Int)) r_180_153 (rfl) (ty_205 hT) (by omega) ⟨rfl, by omega⟩ (ta_n83) ?_
        refine gx_st (L' := [(2, 192), (0, (L : Int)), (0, (h : Int)), x3]) (S' := [(0, 2), (0, (a : Int))]) r_180_154 rfl rfl rfl ?_
        refine gx_ic (P := (a : Int) = 2) r_180_155 (rfl) (fun h155 => ?_) (fun h155 => ?_)
        · have eN : (altH w D L h s (fun q => rowsH w D np L f (h + 1) q)) a = [] := by
            by_cases c2 : a = 2
            · rw [altH_th hok c2, if_neg (by omega)]
            · by_cases cL : h = L
              · exact altH_la c2 cL
              · rw [altH_go hok c2 cL]
                first
                  | (rw [rowsH_no (Or.inl h167)]; rfl)
                  | (have sv2 := sv_hour hB hP hD (by omega) sv (a := a) (by omega) hok c2 h167
                     have zr : rowsH w D np L f (h + 1) (hourF w D (h : Int) (a : Int) s).1 = [] := by
                       apply Classical.byContradiction
                       intro z
                       exact wn h178 (rows_wine hB hP hD hL f (h + 1) _ sv2.2.1 sv2.2.2.1 (by omega) z)
                     rw [zr]; rfl)
                  | omega
          refine cont n83 _ fr_n83 ta_n83 ?_
          have eR : (acc ++ (catL (altH w D L h s (fun q => rowsH w D np L f (h + 1) q)) (a + 1)).map (fun z => pre ++ z)) = (acc ++ (catL (altH w D L h s (fun q => rowsH w D np L f (h + 1) q)) a).map (fun z => pre ++ z)) := by
            show acc ++ (catL (altH w D L h s (fun q => rowsH w D np L f (h + 1) q)) a ++ (altH w D L h s (fun q => rowsH w D np L f (h + 1) q)) a).map _ = _
            rw [eN, List.append_nil]
          rw [eR]; exact rs_n83
        · refine gx_st (L' := [(2, 192), (0, (L : Int)), (0, (h : Int)), x3]) (S' := [(2, 192)]) r_180_158 rfl rfl rfl ?_
          refine gx_st (L' := [(2, 192), (0, (L : Int)), (0, (h : Int)), x3]) (S' := [(0, (h : Int)), (2, 192)]) r_180_159 rfl rfl rfl ?_
          refine gx_st (L' := [(2, 192), (0, (L : Int)), (0, (h : Int)), x3]) (S' := [(0, 1), (0, (h : Int)), (2, 192)]) r_180_160 rfl rfl rfl ?_
          refine gx_ar (L' := [(2, 192), (0, (L : Int)), (0, (h : Int)), x3]) (S' := [(2, 192)]) (t := 0) (e := w32 ((h : Int) + 1)) (z := (h : Int) + 1) r_180_161 rfl rfl rfl (w32_eq (by omega) (by omega) (by omega)) ?_
          refine gx_st (L' := [(2, 192), (0, (L : Int)), (0, (h : Int)), x3]) (S' := [(0, 1), (0, (h : Int) + 1), (2, 192)]) r_180_162 rfl rfl rfl ?_
          refine gx_ci (nx := 166) (S2 := []) (l_131 hT lv_n83.1.1 (h := h + 1) (k := 1) (i := 16 * h + 17) (by omega) (by omega)) r_180_163 rfl rfl rfl rfl rfl (rcv_v rfl (ty_192 hT) (by decide) rfl (by decide)) rfl (by decide) rfl (fun x163 n163 q163 => ?_)
          obtain ⟨e_x163, z_x163⟩ := q163
          obtain rfl := z_x163.symm
          rw [e_x163, show 16 * h + 17 = 16 * (h + 1) + 1 by omega, rw_n83.1.1 1 (by decide) (by decide)]
          show GX T 7 180 166 [(2, 192), (0, (L : Int)), (0, (h : Int)), x3] [(0, ((hourF w D (h : Int) (a : Int) s).1 1))] n83 Q
          refine gx_st (L' := [(2, 192), (0, (L : Int)), (0, (h : Int)), x3]) (S' := [(0, (-1)), (0, ((hourF w D (h : Int) (a : Int) s).1 1))]) r_180_166 rfl rfl rfl ?_
          refine gx_ic (P := ((hourF w D (h : Int) (a : Int) s).1 1) = (-1)) r_180_167 (rfl) (fun h167 => ?_) (fun h167 => ?_)
          · have eN : (altH w D L h s (fun q => rowsH w D np L f (h + 1) q)) a = [] := by
              by_cases c2 : a = 2
              · rw [altH_th hok c2, if_neg (by omega)]
              · by_cases cL : h = L
                · exact altH_la c2 cL
                · rw [altH_go hok c2 cL]
                  first
                    | (rw [rowsH_no (Or.inl h167)]; rfl)
                    | (have sv2 := sv_hour hB hP hD (by omega) sv (a := a) (by omega) hok c2 h167
                       have zr : rowsH w D np L f (h + 1) (hourF w D (h : Int) (a : Int) s).1 = [] := by
                         apply Classical.byContradiction
                         intro z
                         exact wn h178 (rows_wine hB hP hD hL f (h + 1) _ sv2.2.1 sv2.2.2.1 (by omega) z)
                       rw [zr]; rfl)
                    | omega
            refine cont n83 _ fr_n83 ta_n83 ?_
            have eR : (acc ++ (catL (altH w D L h s (fun q => rowsH w D np L f (h + 1) q)) (a + 1)).map (fun z => pre ++ z)) = (acc ++ (catL (altH w D L h s (fun q => rowsH w D np L f (h + 1) q)) a).map (fun z => pre ++ z)) := by
              show acc ++ (catL (altH w D L h s (fun q => rowsH w D np L f (h + 1) q)) a ++ (altH w D L h s (fun q => rowsH w D np L f (h + 1) q)) a).map _ = _
              rw [eN, List.append_nil]
            rw [eR]; exact rs_n83
          · refine gx_st (L' := [(2, 192), (0, (L : Int)), (0, (h : Int)), x3]) (S' := [(2, 192)]) r_180_170 rfl rfl rfl ?_
            refine gx_st (L' := [(2, 192), (0, (L : Int)), (0, (h : Int)), x3]) (S' := [(0, (h : Int)), (2, 192)]) r_180_171 rfl rfl rfl ?_
            refine gx_st (L' := [(2, 192), (0, (L : Int)), (0, (h : Int)), x3]) (S' := [(0, 1), (0, (h : Int)), (2, 192)]) r_180_172 rfl rfl rfl ?_
            refine gx_ar (L' := [(2, 192), (0, (L : Int)), (0, (h : Int)), x3]) (S' := [(2, 192)]) (t := 0) (e := w32 ((h : Int) + 1)) (z := (h : Int) + 1) r_180_173 rfl rfl rfl (w32_eq (by omega) (by omega) (by omega)) ?_
            refine gx_st (L' := [(2, 192), (0, (L : Int)), (0, (h : Int)), x3]) (S' := [(0, (L : Int)), (0, (h : Int) + 1), (2, 192)]) r_180_174 rfl rfl rfl ?_
            refine gx_ci (nx := 178) (S2 := []) (y_179 hT lv_n83.1.1 hB lv_n83.1.2.1 (h := h + 1) (L := L) (by omega) hL rw_n83 h167) r_180_175 rfl rfl rfl rfl rfl (rcv_v rfl (ty_192 hT) (by decide) rfl (by decide)) rfl (by decide) rfl (fun x175 n175 q175 => ?_)
            obtain ⟨wn, z_x175⟩ := q175
            obtain rfl := z_x175.symm
            show GX T 7 180 178 [(2, 192), (0, (L : Int)), (0, (h : Int)), x3] [(0, x175)] n83 Q
            refine gx_i0 (P := ¬ x175 = 0) r_180_178 (rfl) (fun h178 => ?_) (fun h178 => ?_)
            · refine gx_li (z := (h : Int) + 1) (L' := [(2, 192), (0, (L : Int)), (0, (h : Int) + 1), x3]) r_180_184 rfl (w32_eq (by omega) (by omega) (by omega)) rfl ?_
              refine gx_st (L' := [(2, 192), (0, (L : Int)), (0, (h : Int) + 1), x3]) (S' := [(2, 192)]) r_180_187 rfl rfl rfl ?_
              refine gx_gf (x := 205) 2 r_180_188 (rfl) (ty_192 hT) ⟨by decide, rfl, by decide, by decide⟩ rfl (fun _ => by omega) (pin_at lv_n83.1.1 (t := 205) rfl (by decide)) ?_
              refine gx_st (L' := [(2, 192), (0, (L : Int)), (0, (h : Int) + 1), x3]) (S' := [(0, (h : Int) + 1), (2, 205)]) r_180_191 rfl rfl rfl ?_
              refine gx_st (L' := [(2, 192), (0, (L : Int)), (0, (h : Int) + 1), x3]) (S' := [(0, (-1)), (0, (h : Int) + 1), (2, 205)]) r_180_192 rfl rfl rfl ?_
              obtain ⟨m1, e_m1⟩ : ∃ z, z = nu_up n83 205 (h + 1) (-1) := ⟨_, rfl⟩
              refine gx_is (n := h + 1) (x := (-1)) r_180_193 (rfl) (by omega) (ty_205 hT) (by omega) ⟨rfl, by omega⟩ e_m1.symm ?_
              refine gx_st (L' := [(2, 192), (0, (L : Int)), (0, (h : Int) + 1), x3]) (S' := []) r_180_194 rfl rfl rfl ?_
              have h2n : ¬ a = 2 := by omega
              have hLn : ¬ h = L := by omega
              have sv2 := sv_hour hB hP hD (by omega) sv (a := a) (by omega) hok h2n h167
              have e5 : ∀ p i : Nat, ¬ (p = 205 ∧ i = h + 1) → m1 p i = n83 p i := fun p i z => by rw [e_m1]; exact nu_fz z
              have fm : DFr h n83 m1 := fun p i x1 x2 x3 x4 x5 x6 x7 => e5 p i (fun z => x5 ⟨z.1, by omega⟩)
              have lv2 : LvR nt w D (h + 1) (hourF w D (h : Int) (a : Int) s).1 (pre ++ [(a : Int)]) m1 := ⟨si_fr lv_n83.1 fm, row_e rw_n83 (fun i _ _ => e5 200 i (by omega)), fun i hi => by
                rw [e5 205 i (by omega)]
                by_cases c : i < h
                · rw [at0_lt (by omega)]; exact lv_n83.2.2 i c
                · rw [at0_ge (by omega), show i - pre.length = 0 by omega, show i = h by omega]; exact ta_n83⟩
              have eR : (acc ++ (catL (altH w D L h s (fun q => rowsH w D np L f (h + 1) q)) a).map (fun z => pre ++ z)) ++ (rowsH w D np L f (h + 1) (hourF w D (h : Int) (a : Int) s).1).map (fun z => (pre ++ [(a : Int)]) ++ z) = (acc ++ (catL (altH w D L h s (fun q => rowsH w D np L f (h + 1) q)) (a + 1)).map (fun z => pre ++ z)) := by
                show _ = acc ++ (catL (altH w D L h s (fun q => rowsH w D np L f (h + 1) q)) a ++ (altH w D L h s (fun q => rowsH w D np L f (h + 1) q)) a).map _
                rw [altH_go hok h2n hLn, List.map_append, List.append_assoc, List.map_map]
                refine congrArg (fun z => acc ++ (_ ++ z)) (List.map_congr_left (fun z _ => ?_))
                show (pre ++ [(a : Int)]) ++ z = pre ++ ((a : Int) :: z)
                rw [List.append_assoc]; rfl
              rw [show (h : Int) + 1 = ((h + 1 : Nat) : Int) from rfl]
              refine ih (h + 1) _ (pre ++ [(a : Int)]) (acc ++ (catL (altH w D L h s (fun q => rowsH w D np L f (h + 1) q)) a).map (fun z => pre ++ z)) m1 _ (by omega) (by omega) (by rw [List.length_append, hpre]; rfl) sv2 lv2 (by rw [e_m1, nu_at]) (rso_e rs_n83 (e5 192 31 (by omega)) (fun i => e5 206 i (by omega))) (by rw [eR]; exact hlen _ (by omega)) (fun m1 x f1 r1 => ?_)
              rw [eR] at r1
              rw [show ((h + 1 : Nat) : Int) - 1 = (h : Int) by omega]
              refine cont m1 x (dfr_tr (dfr_tr fr_n83 fm (Nat.le_refl h)) f1 (by omega)) ?_ r1
              rw [f1 205 h (by omega) (by omega) (by omega) (by omega) (by omega) (by omega) (by omega), e5 205 h (by omega)]; exact ta_n83
            · have h178 := Decidable.not_not.mp h178
              refine gx_st (L' := [(2, 192), (0, (L : Int)), (0, (h : Int)), x3]) (S' := []) r_180_181 rfl rfl rfl ?_
              have eN : (altH w D L h s (fun q => rowsH w D np L f (h + 1) q)) a = [] := by
                by_cases c2 : a = 2
                · rw [altH_th hok c2, if_neg (by omega)]
                · by_cases cL : h = L
                  · exact altH_la c2 cL
                  · rw [altH_go hok c2 cL]
                    first
                      | (rw [rowsH_no (Or.inl h167)]; rfl)
                      | (have sv2 := sv_hour hB hP hD (by omega) sv (a := a) (by omega) hok c2 h167
                         have zr : rowsH w D np L f (h + 1) (hourF w D (h : Int) (a : Int) s).1 = [] := by
                           apply Classical.byContradiction
                           intro z
                           exact wn h178 (rows_wine hB hP hD hL f (h + 1) _ sv2.2.1 sv2.2.2.1 (by omega) z)
                         rw [zr]; rfl)
                      | omega
              refine cont n83 _ fr_n83 ta_n83 ?_
              have eR : (acc ++ (catL (altH w D L h s (fun q => rowsH w D np L f (h + 1) q)) (a + 1)).map (fun z => pre ++ z)) = (acc ++ (catL (altH w D L h s (fun q => rowsH w D np L f (h + 1) q)) a).map (fun z => pre ++ z)) := by
                show acc ++ (catL (altH w D L h s (fun q => rowsH w D np L f (h + 1) q)) a ++ (altH w D L h s (fun q => rowsH w D np L f (h + 1) q)) a).map _ = _
                rw [eN, List.append_nil]
              rw [eR]; exact rs_n83
    · have h93 := Decidable.not_not.mp h93
      refine gx_st (L' := [(2, 192), (0, (L : Int)), (0, (h : Int)), x3]) (S' := [(0, (h : Int))]) r_180_96 rfl rfl rfl ?_
      refine gx_st (L' := [(2, 192), (0, (L : Int)), (0, (h : Int)), x3]) (S' := [(0, (L : Int)), (0, (h : Int))]) r_180_97 rfl rfl rfl ?_
      refine gx_ic (P := ¬ (h : Int) = (L : Int)) r_180_98 (rfl) (fun h98 => ?_) (fun h98 => ?_)
      · refine gx_st (L' := [(2, 192), (0, (L : Int)), (0, (h : Int)), x3]) (S' := [(0, (h : Int))]) r_180_143 rfl rfl rfl ?_
        refine gx_st (L' := [(2, 192), (0, (L : Int)), (0, (h : Int)), x3]) (S' := [(0, (L : Int)), (0, (h : Int))]) r_180_144 rfl rfl rfl ?_
        refine gx_ic (P := (h : Int) = (L : Int)) r_180_145 (rfl) (fun h145 => ?_) (fun h145 => ?_)
        · have eN : (altH w D L h s (fun q => rowsH w D np L f (h + 1) q)) a = [] := by
            by_cases c2 : a = 2
            · rw [altH_th hok c2, if_neg (by omega)]
            · by_cases cL : h = L
              · exact altH_la c2 cL
              · rw [altH_go hok c2 cL]
                first
                  | (rw [rowsH_no (Or.inl h167)]; rfl)
                  | (have sv2 := sv_hour hB hP hD (by omega) sv (a := a) (by omega) hok c2 h167
                     have zr : rowsH w D np L f (h + 1) (hourF w D (h : Int) (a : Int) s).1 = [] := by
                       apply Classical.byContradiction
                       intro z
                       exact wn h178 (rows_wine hB hP hD hL f (h + 1) _ sv2.2.1 sv2.2.2.1 (by omega) z)
                     rw [zr]; rfl)
                  | omega
          refine cont n83 _ fr_n83 ta_n83 ?_
          have eR : (acc ++ (catL (altH w D L h s (fun q => rowsH w D np L f (h + 1) q)) (a + 1)).map (fun z => pre ++ z)) = (acc ++ (catL (altH w D L h s (fun q => rowsH w D np L f (h + 1) q)) a).map (fun z => pre ++ z)) := by
            show acc ++ (catL (altH w D L h s (fun q => rowsH w D np L f (h + 1) q)) a ++ (altH w D L h s (fun q => rowsH w D np L f (h + 1) q)) a).map _ = _
            rw [eN, List.append_nil]
          rw [eR]; exact rs_n83
        · refine gx_st (L' := [(2, 192), (0, (L : Int)), (0, (h : Int)), x3]) (S' := [(2, 192)]) r_180_148 rfl rfl rfl ?_
          refine gx_gf (x := 205) 2 r_180_149 (rfl) (ty_192 hT) ⟨by decide, rfl, by decide, by decide⟩ rfl (fun _ => by omega) (pin_at lv_n83.1.1 (t := 205) rfl (by decide)) ?_
          refine gx_st (L' := [(2, 192), (0, (L : Int)), (0, (h : Int)), x3]) (S' := [(0, (h : Int)), (2, 205)]) r_180_152 rfl rfl rfl ?_
          refine gx_ia (n := h) (x := (a : Int)) r_180_153 (rfl) (ty_205 hT) (by omega) ⟨rfl, by omega⟩ (ta_n83) ?_
          refine gx_st (L' := [(2, 192), (0, (L : Int)), (0, (h : Int)), x3]) (S' := [(0, 2), (0, (a : Int))]) r_180_154 rfl rfl rfl ?_
          refine gx_ic (P := (a : Int) = 2) r_180_155 (rfl) (fun h155 => ?_) (fun h155 => ?_)
          · have eN : (altH w D L h s (fun q => rowsH w D np L f (h + 1) q)) a = [] := by
              by_cases c2 : a = 2
              · rw [altH_th hok c2, if_neg (by omega)]
              · by_cases cL : h = L
                · exact altH_la c2 cL
                · rw [altH_go hok c2 cL]
                  first
                    | (rw [rowsH_no (Or.inl h167)]; rfl)
                    | (have sv2 := sv_hour hB hP hD (by omega) sv (a := a) (by omega) hok c2 h167
                       have zr : rowsH w D np L f (h + 1) (hourF w D (h : Int) (a : Int) s).1 = [] := by
                         apply Classical.byContradiction
                         intro z
                         exact wn h178 (rows_wine hB hP hD hL f (h + 1) _ sv2.2.1 sv2.2.2.1 (by omega) z)
                       rw [zr]; rfl)
                    | omega
            refine cont n83 _ fr_n83 ta_n83 ?_
            have eR : (acc ++ (catL (altH w D L h s (fun q => rowsH w D np L f (h + 1) q)) (a + 1)).map (fun z => pre ++ z)) = (acc ++ (catL (altH w D L h s (fun q => rowsH w D np L f (h + 1) q)) a).map (fun z => pre ++ z)) := by
              show acc ++ (catL (altH w D L h s (fun q => rowsH w D np L f (h + 1) q)) a ++ (altH w D L h s (fun q => rowsH w D np L f (h + 1) q)) a).map _ = _
              rw [eN, List.append_nil]
            rw [eR]; exact rs_n83
          · refine gx_st (L' := [(2, 192), (0, (L : Int)), (0, (h : Int)), x3]) (S' := [(2, 192)]) r_180_158 rfl rfl rfl ?_
            refine gx_st (L' := [(2, 192), (0, (L : Int)), (0, (h : Int)), x3]) (S' := [(0, (h : Int)), (2, 192)]) r_180_159 rfl rfl rfl ?_
            refine gx_st (L' := [(2, 192), (0, (L : Int)), (0, (h : Int)), x3]) (S' := [(0, 1), (0, (h : Int)), (2, 192)]) r_180_160 rfl rfl rfl ?_
            refine gx_ar (L' := [(2, 192), (0, (L : Int)), (0, (h : Int)), x3]) (S' := [(2, 192)]) (t := 0) (e := w32 ((h : Int) + 1)) (z := (h : Int) + 1) r_180_161 rfl rfl rfl (w32_eq (by omega) (by omega) (by omega)) ?_
            refine gx_st (L' := [(2, 192), (0, (L : Int)), (0, (h : Int)), x3]) (S' := [(0, 1), (0, (h : Int) + 1), (2, 192)]) r_180_162 rfl rfl rfl ?_
            refine gx_ci (nx := 166) (S2 := []) (l_131 hT lv_n83.1.1 (h := h + 1) (k := 1) (i := 16 * h + 17) (by omega) (by omega)) r_180_163 rfl rfl rfl rfl rfl (rcv_v rfl (ty_192 hT) (by decide) rfl (by decide)) rfl (by decide) rfl (fun x163 n163 q163 => ?_)
            obtain ⟨e_x163, z_x163⟩ := q163
            obtain rfl := z_x163.symm
            rw [e_x163, show 16 * h + 17 = 16 * (h + 1) + 1 by omega, rw_n83.1.1 1 (by decide) (by decide)]
            show GX T 7 180 166 [(2, 192), (0, (L : Int)), (0, (h : Int)), x3] [(0, ((hourF w D (h : Int) (a : Int) s).1 1))] n83 Q
            refine gx_st (L' := [(2, 192), (0, (L : Int)), (0, (h : Int)), x3]) (S' := [(0, (-1)), (0, ((hourF w D (h : Int) (a : Int) s).1 1))]) r_180_166 rfl rfl rfl ?_
            refine gx_ic (P := ((hourF w D (h : Int) (a : Int) s).1 1) = (-1)) r_180_167 (rfl) (fun h167 => ?_) (fun h167 => ?_)
            · have eN : (altH w D L h s (fun q => rowsH w D np L f (h + 1) q)) a = [] := by
                by_cases c2 : a = 2
                · rw [altH_th hok c2, if_neg (by omega)]
                · by_cases cL : h = L
                  · exact altH_la c2 cL
                  · rw [altH_go hok c2 cL]
                    first
                      | (rw [rowsH_no (Or.inl h167)]; rfl)
                      | (have sv2 := sv_hour hB hP hD (by omega) sv (a := a) (by omega) hok c2 h167
                         have zr : rowsH w D np L f (h + 1) (hourF w D (h : Int) (a : Int) s).1 = [] := by
                           apply Classical.byContradiction
                           intro z
                           exact wn h178 (rows_wine hB hP hD hL f (h + 1) _ sv2.2.1 sv2.2.2.1 (by omega) z)
                         rw [zr]; rfl)
                      | omega
              refine cont n83 _ fr_n83 ta_n83 ?_
              have eR : (acc ++ (catL (altH w D L h s (fun q => rowsH w D np L f (h + 1) q)) (a + 1)).map (fun z => pre ++ z)) = (acc ++ (catL (altH w D L h s (fun q => rowsH w D np L f (h + 1) q)) a).map (fun z => pre ++ z)) := by
                show acc ++ (catL (altH w D L h s (fun q => rowsH w D np L f (h + 1) q)) a ++ (altH w D L h s (fun q => rowsH w D np L f (h + 1) q)) a).map _ = _
                rw [eN, List.append_nil]
              rw [eR]; exact rs_n83
            · refine gx_st (L' := [(2, 192), (0, (L : Int)), (0, (h : Int)), x3]) (S' := [(2, 192)]) r_180_170 rfl rfl rfl ?_
              refine gx_st (L' := [(2, 192), (0, (L : Int)), (0, (h : Int)), x3]) (S' := [(0, (h : Int)), (2, 192)]) r_180_171 rfl rfl rfl ?_
              refine gx_st (L' := [(2, 192), (0, (L : Int)), (0, (h : Int)), x3]) (S' := [(0, 1), (0, (h : Int)), (2, 192)]) r_180_172 rfl rfl rfl ?_
              refine gx_ar (L' := [(2, 192), (0, (L : Int)), (0, (h : Int)), x3]) (S' := [(2, 192)]) (t := 0) (e := w32 ((h : Int) + 1)) (z := (h : Int) + 1) r_180_173 rfl rfl rfl (w32_eq (by omega) (by omega) (by omega)) ?_
              refine gx_st (L' := [(2, 192), (0, (L : Int)), (0, (h : Int)), x3]) (S' := [(0, (L : Int)), (0, (h : Int) + 1), (2, 192)]) r_180_174 rfl rfl rfl ?_
              refine gx_ci (nx := 178) (S2 := []) (y_179 hT lv_n83.1.1 hB lv_n83.1.2.1 (h := h + 1) (L := L) (by omega) hL rw_n83 h167) r_180_175 rfl rfl rfl rfl rfl (rcv_v rfl (ty_192 hT) (by decide) rfl (by decide)) rfl (by decide) rfl (fun x175 n175 q175 => ?_)
              obtain ⟨wn, z_x175⟩ := q175
              obtain rfl := z_x175.symm
              show GX T 7 180 178 [(2, 192), (0, (L : Int)), (0, (h : Int)), x3] [(0, x175)] n83 Q
              refine gx_i0 (P := ¬ x175 = 0) r_180_178 (rfl) (fun h178 => ?_) (fun h178 => ?_)
              · refine gx_li (z := (h : Int) + 1) (L' := [(2, 192), (0, (L : Int)), (0, (h : Int) + 1), x3]) r_180_184 rfl (w32_eq (by omega) (by omega) (by omega)) rfl ?_
                refine gx_st (L' := [(2, 192), (0, (L : Int)), (0, (h : Int) + 1), x3]) (S' := [(2, 192)]) r_180_187 rfl rfl rfl ?_
                refine gx_gf (x := 205) 2 r_180_188 (rfl) (ty_192 hT) ⟨by decide, rfl, by decide, by decide⟩ rfl (fun _ => by omega) (pin_at lv_n83.1.1 (t := 205) rfl (by decide)) ?_
                refine gx_st (L' := [(2, 192), (0, (L : Int)), (0, (h : Int) + 1), x3]) (S' := [(0, (h : Int) + 1), (2, 205)]) r_180_191 rfl rfl rfl ?_
                refine gx_st (L' := [(2, 192), (0, (L : Int)), (0, (h : Int) + 1), x3]) (S' := [(0, (-1)), (0, (h : Int) + 1), (2, 205)]) r_180_192 rfl rfl rfl ?_
                obtain ⟨m2, e_m2⟩ : ∃ z, z = nu_up n83 205 (h + 1) (-1) := ⟨_, rfl⟩
                refine gx_is (n := h + 1) (x := (-1)) r_180_193 (rfl) (by omega) (ty_205 hT) (by omega) ⟨rfl, by omega⟩ e_m2.symm ?_
                refine gx_st (L' := [(2, 192), (0, (L : Int)), (0, (h : Int) + 1), x3]) (S' := []) r_180_194 rfl rfl rfl ?_
                have h2n : ¬ a = 2 := by omega
                have hLn : ¬ h = L := by omega
                have sv2 := sv_hour hB hP hD (by omega) sv (a := a) (by omega) hok h2n h167
                have e5 : ∀ p i : Nat, ¬ (p = 205 ∧ i = h + 1) → m2 p i = n83 p i := fun p i z => by rw [e_m2]; exact nu_fz z
                have fm : DFr h n83 m2 := fun p i x1 x2 x3 x4 x5 x6 x7 => e5 p i (fun z => x5 ⟨z.1, by omega⟩)
                have lv2 : LvR nt w D (h + 1) (hourF w D (h : Int) (a : Int) s).1 (pre ++ [(a : Int)]) m2 := ⟨si_fr lv_n83.1 fm, row_e rw_n83 (fun i _ _ => e5 200 i (by omega)), fun i hi => by
                  rw [e5 205 i (by omega)]
                  by_cases c : i < h
                  · rw [at0_lt (by omega)]; exact lv_n83.2.2 i c
                  · rw [at0_ge (by omega), show i - pre.length = 0 by omega, show i = h by omega]; exact ta_n83⟩
                have eR : (acc ++ (catL (altH w D L h s (fun q => rowsH w D np L f (h + 1) q)) a).map (fun z => pre ++ z)) ++ (rowsH w D np L f (h + 1) (hourF w D (h : Int) (a : Int) s).1).map (fun z => (pre ++ [(a : Int)]) ++ z) = (acc ++ (catL (altH w D L h s (fun q => rowsH w D np L f (h + 1) q)) (a + 1)).map (fun z => pre ++ z)) := by
                  show _ = acc ++ (catL (altH w D L h s (fun q => rowsH w D np L f (h + 1) q)) a ++ (altH w D L h s (fun q => rowsH w D np L f (h + 1) q)) a).map _
                  rw [altH_go hok h2n hLn, List.map_append, List.append_assoc, List.map_map]
                  refine congrArg (fun z => acc ++ (_ ++ z)) (List.map_congr_left (fun z _ => ?_))
                  show (pre ++ [(a : Int)]) ++ z = pre ++ ((a : Int) :: z)
                  rw [List.append_assoc]; rfl
                rw [show (h : Int) + 1 = ((h + 1 : Nat) : Int) from rfl]
                refine ih (h + 1) _ (pre ++ [(a : Int)]) (acc ++ (catL (altH w D L h s (fun q => rowsH w D np L f (h + 1) q)) a).map (fun z => pre ++ z)) m2 _ (by omega) (by omega) (by rw [List.length_append, hpre]; rfl) sv2 lv2 (by rw [e_m2, nu_at]) (rso_e rs_n83 (e5 192 31 (by omega)) (fun i => e5 206 i (by omega))) (by rw [eR]; exact hlen _ (by omega)) (fun m1 x f1 r1 => ?_)
                rw [eR] at r1
                rw [show ((h + 1 : Nat) : Int) - 1 = (h : Int) by omega]
                refine cont m1 x (dfr_tr (dfr_tr fr_n83 fm (Nat.le_refl h)) f1 (by omega)) ?_ r1
                rw [f1 205 h (by omega) (by omega) (by omega) (by omega) (by omega) (by omega) (by omega), e5 205 h (by omega)]; exact ta_n83
              · have h178 := Decidable.not_not.mp h178
                refine gx_st (L' := [(2, 192), (0, (L : Int)), (0, (h : Int)), x3]) (S' := []) r_180_181 rfl rfl rfl ?_
                have eN : (altH w D L h s (fun q => rowsH w D np L f (h + 1) q)) a = [] := by
                  by_cases c2 : a = 2
                  · rw [altH_th hok c2, if_neg (by omega)]
                  · by_cases cL : h = L
                    · exact altH_la c2 cL
                    · rw [altH_go hok c2 cL]
                      first
                        | (rw [rowsH_no (Or.inl h167)]; rfl)
                        | (have sv2 := sv_hour hB hP hD (by omega) sv (a := a) (by omega) hok c2 h167
                           have zr : rowsH w D np L f (h + 1) (hourF w D (h : Int) (a : Int) s).1 = [] := by
                             apply Classical.byContradiction
                             intro z
                             exact wn h178 (rows_wine hB hP hD hL f (h + 1) _ sv2.2.1 sv2.2.2.1 (by omega) z)
                           rw [zr]; rfl)
                        | omega
                refine cont n83 _ fr_n83 ta_n83 ?_
                have eR : (acc ++ (catL (altH w D L h s (fun q => rowsH w D np L f (h + 1) q)) (a + 1)).map (fun z => pre ++ z)) = (acc ++ (catL (altH w D L h s (fun q => rowsH w D np L f (h + 1) q)) a).map (fun z => pre ++ z)) := by
                  show acc ++ (catL (altH w D L h s (fun q => rowsH w D np L f (h + 1) q)) a ++ (altH w D L h s (fun q => rowsH w D np L f (h + 1) q)) a).map _ = _
                  rw [eN, List.append_nil]
                rw [eR]; exact rs_n83
      · have h98 := Decidable.not_not.mp h98
        refine gx_st (L' := [(2, 192), (0, (L : Int)), (0, (h : Int)), x3]) (S' := [(0, 0)]) r_180_101 rfl rfl rfl ?_
        refine gx_st (L' := [(2, 192), (0, (L : Int)), (0, (h : Int)), (0, 0)]) (S' := []) r_180_102 rfl rfl rfl ?_
        have a2 : a = 2 := by omega
        have hLh : h = L := by omega
        have eR : (acc ++ (catL (altH w D L h s (fun q => rowsH w D np L f (h + 1) q)) (a + 1)).map (fun z => pre ++ z)) = (acc ++ (catL (altH w D L h s (fun q => rowsH w D np L f (h + 1) q)) a).map (fun z => pre ++ z)) ++ [pre ++ [(2 : Int)]] := by
          show acc ++ (catL (altH w D L h s (fun q => rowsH w D np L f (h + 1) q)) a ++ (altH w D L h s (fun q => rowsH w D np L f (h + 1) q)) a).map _ = _
          rw [altH_th hok a2, if_pos hLh, List.map_append, List.append_assoc]; rfl
        have tl : ∀ i : Nat, i ≤ L → n83 205 i = at0 (pre ++ [(2 : Int)]) i := fun i hi => by
          by_cases c : i < h
          · rw [at0_lt (by omega)]; exact lv_n83.2.2 i c
          · rw [at0_ge (by omega), show i - pre.length = 0 by omega, show i = h by omega, ta_n83, a2]; rfl
        have fin : ∀ (m2 m3 : Mm) (x : AV), DFr h m m2 → m2 205 h = (a : Int) → m2 192 31 = ((acc ++ (catL (altH w D L h s (fun q => rowsH w D np L f (h + 1) q)) a).map (fun z => pre ++ z)).length : Int) → (∀ i : Nat, i ≤ L → m2 206 i = hd0 ((acc ++ (catL (altH w D L h s (fun q => rowsH w D np L f (h + 1) q)) a).map (fun z => pre ++ z)) ++ [pre ++ [(2 : Int)]]) i) → m3 = nu_up m2 192 31 ((((acc ++ (catL (altH w D L h s (fun q => rowsH w D np L f (h + 1) q)) a).map (fun z => pre ++ z)).length + 1 : Nat) : Int)) → GX T 7 180 24 [(2, 192), (0, (L : Int)), (0, (h : Int)), x] [] m3 Q := fun m2 m3 x f2 t2 c2 r2 e3 => by
          refine cont m3 x (dfr_tr f2 (fun p i x1 x2 x3 x4 x5 x6 x7 => by rw [e3]; exact nu_fz (fun z => x7 ⟨z.1, by omega⟩)) (Nat.le_refl h)) (by rw [e3, nu_no (by decide)]; exact t2) ⟨?_, fun _ i hi => ?_⟩
          · rw [e3, nu_at, eR]
            exact congrArg (fun z : Nat => (z : Int)) (List.length_append (as := (acc ++ (catL (altH w D L h s (fun q => rowsH w D np L f (h + 1) q)) a).map (fun z => pre ++ z))) (bs := [pre ++ [(2 : Int)]])).symm
          · rw [e3, nu_no (by decide), r2 i hi, eR]
        by_cases c0 : (acc ++ (catL (altH w D L h s (fun q => rowsH w D np L f (h + 1) q)) a).map (fun z => pre ++ z)) = []
        · have z0 : n83 192 31 = 0 := by rw [rs_n83.1, c0]; rfl
          refine fl_l hT (by omega) (h + 1 + 1) 0 n83 (by omega) (by omega) lv_n83.1.1 z0 (fun m2 a1 _ a3 => ?_)
          refine wk_l hT (L := L) (by omega) ((pin_up3 lv_n83.1.1 a3)) (c := (acc ++ (catL (altH w D L h s (fun q => rowsH w D np L f (h + 1) q)) a).map (fun z => pre ++ z)).length) ((a3 192 31 (by decide)).trans rs_n83.1) (by omega) hLh (fun m3 e3 => ?_)
          refine fin m2 m3 _ (dfr_tr fr_n83 (fun p i x1 x2 x3 x4 x5 x6 x7 => a3 p i x6) (Nat.le_refl h)) ((a3 205 h (by decide)).trans ta_n83) ((a3 192 31 (by decide)).trans rs_n83.1) (fun i hi => ?_) e3
          rw [a1 i (by omega) (by omega), tl i hi, c0]; rfl
        · have z0 : ¬ n83 192 31 = 0 := by
            rw [rs_n83.1]
            intro z
            exact c0 (List.length_eq_zero_iff.mp (by omega))
          refine sk2_l hT (L := L) (by omega) lv_n83.1.1 z0 ?_
          refine wk_l hT (L := L) (by omega) lv_n83.1.1 (c := (acc ++ (catL (altH w D L h s (fun q => rowsH w D np L f (h + 1) q)) a).map (fun z => pre ++ z)).length) rs_n83.1 (by omega) hLh (fun m3 e3 => ?_)
          exact fin n83 m3 _ fr_n83 ta_n83 rs_n83.1 (fun i hi => by rw [hd0_app c0]; exact rs_n83.2 c0 i hi) e3
  · have h66 := Decidable.not_not.mp h66
    exact absurd h66 (by omega)
theorem il_l (hT : TT T) {w : Wd} (hB : WB w) {nt : Int} (hP : WP w) {D : Nat → Nat → Int} (hD : WyD w D) {np : Nat} (hnp : w 0 = (np : Int)) {L : Nat} (hL : L < 12) {Q : AV → Mm → Prop} {f h : Nat} (hf : h + (f + 1) = 13) (hhL : h ≤ L) {s : Wd} {pre : List Int} {acc : List (List Int)} (hpre : pre.length = h) (sv : SvR nt w h s) (ih : (∀ (h : Nat) (s : Wd) (pre : List Int) (acc : List (List Int)) (m : Mm) (x3 : AV), h + f = 13 → h ≤ L → pre.length = h → SvR nt w h s → LvR nt w D h s pre m → m 205 h = -1 → RSo L m acc → (acc ++ (rowsH w D np L f h s).map (fun z => pre ++ z)).length < 2147483647 → (∀ (m1 : Mm) (x : AV), DFr h m m1 → RSo L m1 (acc ++ (rowsH w D np L f h s).map (fun z => pre ++ z)) → GX T 7 180 24 [(2, 192), (0, (L : Int)), (0, (h : Int) - 1), x] [] m1 Q) → GX T 7 180 24 [(2, 192), (0, (L : Int)), (0, (h : Int)), x3] [] m Q)) (hlen : ∀ k : Nat, k ≤ 10 + np → (acc ++ (catL (altH w D L h s (fun q => rowsH w D np L f (h + 1) q)) k).map (fun z => pre ++ z)).length < 2147483647) : ∀ (N k : Nat) (m : Mm) (x3 : AV), 10 + np - k < N → 1 ≤ k → k ≤ 10 + np → LvR nt w D h s pre m → m 205 h = (k : Int) - 1 → RSo L m (acc ++ (catL (altH w D L h s (fun q => rowsH w D np L f (h + 1) q)) k).map (fun z => pre ++ z)) → (∀ (m1 : Mm) (x : AV), DFr h m m1 → RSo L m1 (acc ++ (catL (altH w D L h s (fun q => rowsH w D np L f (h + 1) q)) (10 + np)).map (fun z => pre ++ z)) → GX T 7 180 24 [(2, 192), (0, (L : Int)), (0, (h : Int) - 1), x] [] m1 Q) → GX T 7 180 24 [(2, 192), (0, (L : Int)), (0, (h : Int)), x3] [] m Q := by
  have b0 := hB.1
  have v3 := sv.2.2.2.1
  intro N
  induction N with
  | zero => intro k m x3 hN; exact absurd hN (Nat.not_lt_zero _)
  | succ N iN =>
    intro k m x3 hN hk1 hk lv tk rs cont
    obtain ⟨t, ht⟩ : ∃ t : Nat, t + 1 = k := ⟨k - 1, by omega⟩
    have tt : m 205 h = (t : Int) := by omega
    refine gx_st (L' := [(2, 192), (0, (L : Int)), (0, (h : Int)), x3]) (S' := [(0, (h : Int))]) r_180_24 rfl rfl rfl ?_
    refine gx_i0 (P := (h : Int) < 0) r_180_25 (rfl) (fun h25 => ?_) (fun h25 => ?_)
    · exact absurd h25 (by omega)
    · refine gx_st (L' := [(2, 192), (0, (L : Int)), (0, (h : Int)), x3]) (S' := [(2, 192)]) r_180_28 rfl rfl rfl ?_
      refine gx_gf (x := 205) 2 r_180_29 (rfl) (ty_192 hT) ⟨by decide, rfl, by decide, by decide⟩ rfl (fun _ => by omega) (pin_at lv.1.1 (t := 205) rfl (by decide)) ?_
      refine gx_st (L' := [(2, 192), (0, (L : Int)), (0, (h : Int)), x3]) (S' := [(0, (h : Int)), (2, 205)]) r_180_32 rfl rfl rfl ?_
      refine gx_st (L' := [(2, 192), (0, (L : Int)), (0, (h : Int)), x3]) (S' := [(2, 192), (0, (h : Int)), (2, 205)]) r_180_33 rfl rfl rfl ?_
      refine gx_gf (x := 205) 2 r_180_34 (rfl) (ty_192 hT) ⟨by decide, rfl, by decide, by decide⟩ rfl (fun _ => by omega) (pin_at lv.1.1 (t := 205) rfl (by decide)) ?_
      refine gx_st (L' := [(2, 192), (0, (L : Int)), (0, (h : Int)), x3]) (S' := [(0, (h : Int)), (2, 205), (0, (h : Int)), (2, 205)]) r_180_37 rfl rfl rfl ?_
      refine gx_ia (n := h) (x := (t : Int)) r_180_38 (rfl) (ty_205 hT) (by omega) ⟨rfl, by omega⟩ (tt) ?_
      refine gx_st (L' := [(2, 192), (0, (L : Int)), (0, (h : Int)), x3]) (S' := [(0, (-1)), (0, (t : Int)), (0, (h : Int)), (2, 205)]) r_180_39 rfl rfl rfl ?_
      refine gx_ic (P := ¬ (t : Int) = (-1)) r_180_40 (rfl) (fun h40 => ?_) (fun h40 => ?_)
      · refine gx_st (L' := [(2, 192), (0, (L : Int)), (0, (h : Int)), x3]) (S' := [(2, 192), (0, (h : Int)), (2, 205)]) r_180_47 rfl rfl rfl ?_
        refine gx_st (L' := [(2, 192), (0, (L : Int)), (0, (h : Int)), x3]) (S' := [(0, (h : Int)), (2, 192), (0, (h : Int)), (2, 205)]) r_180_48 rfl rfl rfl ?_
        refine gx_st (L' := [(2, 192), (0, (L : Int)), (0, (h : Int)), x3]) (S' := [(2, 192), (0, (h : Int)), (2, 192), (0, (h : Int)), (2, 205)]) r_180_49 rfl rfl rfl ?_
        refine gx_gf (x := 205) 2 r_180_50 (rfl) (ty_192 hT) ⟨by decide, rfl, by decide, by decide⟩ rfl (fun _ => by omega) (pin_at lv.1.1 (t := 205) rfl (by decide)) ?_
        refine gx_st (L' := [(2, 192), (0, (L : Int)), (0, (h : Int)), x3]) (S' := [(0, (h : Int)), (2, 205), (0, (h : Int)), (2, 192), (0, (h : Int)), (2, 205)]) r_180_53 rfl rfl rfl ?_
        refine gx_ia (n := h) (x := (t : Int)) r_180_54 (rfl) (ty_205 hT) (by omega) ⟨rfl, by omega⟩ (tt) ?_
        refine gx_ci (nx := 58) (S2 := [(0, (h : Int)), (2, 205)]) (y_178 hT lv.1.1 hB lv.1.2.1 lv.1.2.2 (h := h) (by omega) lv.2.1 sv.2.1.1 hnp (t := t) (k := k) ht hk) r_180_55 rfl rfl rfl rfl rfl (rcv_v rfl (ty_192 hT) (by decide) rfl (by decide)) rfl (by decide) rfl (fun x55 n55 q55 => ?_)
        obtain ⟨nx, z_x55⟩ := q55
        obtain rfl := z_x55.symm
        show GX T 7 180 58 [(2, 192), (0, (L : Int)), (0, (h : Int)), x3] [(0, x55), (0, (h : Int)), (2, 205)] m Q
        obtain ⟨m1, e_m1⟩ : ∃ z, z = nu_up m 205 h x55 := ⟨_, rfl⟩
        refine gx_is (n := h) (x := x55) r_180_58 (rfl) (by omega) (ty_205 hT) (by omega) ⟨rfl, by omega⟩ e_m1.symm ?_
        have e5 : ∀ p i : Nat, ¬ (p = 205 ∧ i = h) → m1 p i = m p i := fun p i z => by rw [e_m1]; exact nu_fz z
        have fm : DFr h m m1 := fun p i x1 x2 x3 x4 x5 x6 x7 => e5 p i (fun z => x5 ⟨z.1, by omega⟩)
        have lv_m1 := lv_fr lv fm
        have rs_m1 : ∀ a : List (List Int), RSo L m a → RSo L m1 a := fun a r => rso_e r (e5 192 31 (by omega)) (fun i => e5 206 i (by omega))
        have t5 : m1 205 h = x55 := by rw [e_m1, nu_at]
        have nok : ∀ i : Nat, 1 ≤ i → ¬ canF w D (h : Int) (i : Int) s = true → (altH w D L h s (fun q => rowsH w D np L f (h + 1) q)) i = [] := fun i i1 c => altH_no (by rw [okH_c (by omega)]; exact c)
        rcases nx with ⟨n1, n2⟩ | ⟨a, a1, a2, a3, a4, a5⟩
        · refine bk_l hT lv_m1.1.1 (by omega) (t5.trans n1) (cont m1 _ fm (rs_m1 _ ?_))
          rw [catL_up (k := k) (10 + np) hk (fun i i1 i2 => nok i (by omega) (n2 i i1 i2))]
          exact rs
        · refine pa_l hT hB hP hD hnp hL hf hhL hpre sv ih (a := a) a2 (by rw [okH_c (by omega)]; exact a3) lv_m1 (t5.trans a4) (rs_m1 _ ?_) hlen (fun m1 x f1 q1 r1 => ?_)
          · rw [catL_up (k := k) a a1 (fun i i1 i2 => nok i (by omega) (a5 i i1 i2))]
            exact rs
          · exact iN (a + 1) m1 x (by omega) (by omega) (by omega) (lv_fr lv_m1 f1) (by omega) r1 (fun m2 y f2 r2 => cont m2 y (dfr_tr (dfr_tr fm f1 (Nat.le_refl h)) f2 (Nat.le_refl h)) r2)
      · have h40 := Decidable.not_not.mp h40
        exact absurd h40 (by omega)
theorem dt_l (hT : TT T) {w : Wd} (hB : WB w) {nt : Int} (hP : WP w) {D : Nat → Nat → Int} (hD : WyD w D) {np : Nat} (hnp : w 0 = (np : Int)) {L : Nat} (hL : L < 12) {Q : AV → Mm → Prop} {f h : Nat} (hf : h + (f + 1) = 13) (hhL : h ≤ L) {s : Wd} {pre : List Int} {acc : List (List Int)} (hpre : pre.length = h) (sv : SvR nt w h s) (ih : (∀ (h : Nat) (s : Wd) (pre : List Int) (acc : List (List Int)) (m : Mm) (x3 : AV), h + f = 13 → h ≤ L → pre.length = h → SvR nt w h s → LvR nt w D h s pre m → m 205 h = -1 → RSo L m acc → (acc ++ (rowsH w D np L f h s).map (fun z => pre ++ z)).length < 2147483647 → (∀ (m1 : Mm) (x : AV), DFr h m m1 → RSo L m1 (acc ++ (rowsH w D np L f h s).map (fun z => pre ++ z)) → GX T 7 180 24 [(2, 192), (0, (L : Int)), (0, (h : Int) - 1), x] [] m1 Q) → GX T 7 180 24 [(2, 192), (0, (L : Int)), (0, (h : Int)), x3] [] m Q)) {x3 : AV} (lv : LvR nt w D h s pre m) (tm : m 205 h = -1) (rs : RSo L m acc) (hl : (acc ++ (rowsH w D np L (f + 1) h s).map (fun z => pre ++ z)).length < 2147483647) (cont : (∀ (m1 : Mm) (x : AV), DFr h m m1 → RSo L m1 (acc ++ (rowsH w D np L (f + 1) h s).map (fun z => pre ++ z)) → GX T 7 180 24 [(2, 192), (0, (L : Int)), (0, (h : Int) - 1), x] [] m1 Q)) : GX T 7 180 24 [(2, 192), (0, (L : Int)), (0, (h : Int)), x3] [] m Q := by
  have b0 := hB.1
  refine gx_st (L' := [(2, 192), (0, (L : Int)), (0, (h : Int)), x3]) (S' := [(0, (h : Int))]) r_180_24 rfl rfl rfl ?_
  refine gx_i0 (P := (h : Int) < 0) r_180_25 (rfl) (fun h25 => ?_) (fun h25 => ?_)
  · exact absurd h25 (by omega)
  · refine gx_st (L' := [(2, 192), (0, (L : Int)), (0, (h : Int)), x3]) (S' := [(2, 192)]) r_180_28 rfl rfl rfl ?_
    refine gx_gf (x := 205) 2 r_180_29 (rfl) (ty_192 hT) ⟨by decide, rfl, by decide, by decide⟩ rfl (fun _ => by omega) (pin_at lv.1.1 (t := 205) rfl (by decide)) ?_
    refine gx_st (L' := [(2, 192), (0, (L : Int)), (0, (h : Int)), x3]) (S' := [(0, (h : Int)), (2, 205)]) r_180_32 rfl rfl rfl ?_
    refine gx_st (L' := [(2, 192), (0, (L : Int)), (0, (h : Int)), x3]) (S' := [(2, 192), (0, (h : Int)), (2, 205)]) r_180_33 rfl rfl rfl ?_
    refine gx_gf (x := 205) 2 r_180_34 (rfl) (ty_192 hT) ⟨by decide, rfl, by decide, by decide⟩ rfl (fun _ => by omega) (pin_at lv.1.1 (t := 205) rfl (by decide)) ?_
    refine gx_st (L' := [(2, 192), (0, (L : Int)), (0, (h : Int)), x3]) (S' := [(0, (h : Int)), (2, 205), (0, (h : Int)), (2, 205)]) r_180_37 rfl rfl rfl ?_
    refine gx_ia (n := h) (x := (-1)) r_180_38 (rfl) (ty_205 hT) (by omega) ⟨rfl, by omega⟩ (tm) ?_
    refine gx_st (L' := [(2, 192), (0, (L : Int)), (0, (h : Int)), x3]) (S' := [(0, (-1)), (0, (-1)), (0, (h : Int)), (2, 205)]) r_180_39 rfl rfl rfl ?_
    refine gx_ic (P := ¬ (-1) = (-1)) r_180_40 (rfl) (fun h40 => ?_) (fun h40 => ?_)
    · exact absurd rfl h40
    · have h40 := Decidable.not_not.mp h40
      refine gx_st (L' := [(2, 192), (0, (L : Int)), (0, (h : Int)), x3]) (S' := [(0, 0), (0, (h : Int)), (2, 205)]) r_180_43 rfl rfl rfl ?_
      refine gx_st (L' := [(2, 192), (0, (L : Int)), (0, (h : Int)), x3]) (S' := [(0, 0), (0, (h : Int)), (2, 205)]) r_180_44 rfl rfl rfl ?_
      obtain ⟨m1, e_m1⟩ : ∃ z, z = nu_up m 205 h 0 := ⟨_, rfl⟩
      refine gx_is (n := h) (x := 0) r_180_58 (rfl) (by omega) (ty_205 hT) (by omega) ⟨rfl, by omega⟩ e_m1.symm ?_
      have e5 : ∀ p i : Nat, ¬ (p = 205 ∧ i = h) → m1 p i = m p i := fun p i z => by rw [e_m1]; exact nu_fz z
      have fm : DFr h m m1 := fun p i x1 x2 x3 x4 x5 x6 x7 => e5 p i (fun z => x5 ⟨z.1, by omega⟩)
      have hrow : rowsH w D np L (f + 1) h s = catL (altH w D L h s (fun q => rowsH w D np L f (h + 1) q)) (10 + np) := rowsH_s sv.1 hhL
      have hlen : ∀ k : Nat, k ≤ 10 + np → (acc ++ (catL (altH w D L h s (fun q => rowsH w D np L f (h + 1) q)) k).map (fun z => pre ++ z)).length < 2147483647 := fun k hk => by
        have z := catL_le (g := (altH w D L h s (fun q => rowsH w D np L f (h + 1) q))) (10 + np) hk
        rw [hrow] at hl
        rw [List.length_append, List.length_map] at hl ⊢
        omega
      refine pa_l hT hB hP hD hnp hL hf hhL hpre sv ih (a := 0) (by omega) okH_0 (lv_fr lv fm) (by rw [e_m1, nu_at]; rfl) (rso_e (by show RSo L m (acc ++ [].map _); rw [List.map_nil, List.append_nil]; exact rs) (e5 192 31 (by omega)) (fun i => e5 206 i (by omega))) hlen (fun m1 x f1 q1 r1 => ?_)
      refine il_l hT hB hP hD hnp hL hf hhL hpre sv ih hlen (10 + np) 1 m1 x (by omega) (by omega) (by omega) (lv_fr (lv_fr lv fm) f1) (by rw [q1]; rfl) r1 (fun m2 y f2 r2 => ?_)
      rw [hrow] at cont
      exact cont m2 y (dfr_tr (dfr_tr fm f1 (Nat.le_refl h)) f2 (Nat.le_refl h)) r2
theorem ds_l (hT : TT T) {w : Wd} (hB : WB w) {nt : Int} (hP : WP w) {D : Nat → Nat → Int} (hD : WyD w D) {np : Nat} (hnp : w 0 = (np : Int)) {L : Nat} (hL : L < 12) {Q : AV → Mm → Prop} : ∀ f : Nat, (∀ (h : Nat) (s : Wd) (pre : List Int) (acc : List (List Int)) (m : Mm) (x3 : AV), h + f = 13 → h ≤ L → pre.length = h → SvR nt w h s → LvR nt w D h s pre m → m 205 h = -1 → RSo L m acc → (acc ++ (rowsH w D np L f h s).map (fun z => pre ++ z)).length < 2147483647 → (∀ (m1 : Mm) (x : AV), DFr h m m1 → RSo L m1 (acc ++ (rowsH w D np L f h s).map (fun z => pre ++ z)) → GX T 7 180 24 [(2, 192), (0, (L : Int)), (0, (h : Int) - 1), x] [] m1 Q) → GX T 7 180 24 [(2, 192), (0, (L : Int)), (0, (h : Int)), x3] [] m Q) := by
  intro f
  induction f with
  | zero => intro h s pre acc m x3 hf hhL; exact absurd hhL (by omega)
  | succ f ih =>
    intro h s pre acc m x3 hf hhL hpre sv lv tm rs hl cont
    exact dt_l hT hB hP hD hnp hL hf hhL hpre sv ih lv tm rs hl cont
end HUNTS
